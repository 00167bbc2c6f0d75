section
-- ===== PART A: goes FIRST, ahead of the names: the tables' words, and 'selects' of the private methods out of them =====
/-- a private method of a class that the tables say can be made, by its rows of tables_1 -/
def lw_okq (q : MethodName × Nat) : Prop := (q.1.cls ≠ "java/lang/invoke/MethodHandle" ∧ q.1.cls ≠ "java/lang/invoke/VarHandle") ∧ Cond.instantiable q.1.cls q.2 ∈ tables_1 ∧ Cond.privateMethod q.1 ∈ tables_1 ∧ Cond.instanceMethod q.1 ∈ tables_1
theorem lw_p0 : lw_okq (⟨"CowardsPot$Reader", "goOn", "(LCowardsPot$Text;)V"⟩, 5) := ⟨⟨by decide +kernel, by decide +kernel⟩, List.mem_of_getElem? (i := 118) (by decide +kernel), List.mem_of_getElem? (i := 300) (by decide +kernel), List.mem_of_getElem? (i := 301) (by decide +kernel)⟩
theorem lw_p1 : lw_okq (⟨"CowardsPot$Reader", "isClauseRead", "(LCowardsPot$Text;)Z"⟩, 5) := ⟨⟨by decide +kernel, by decide +kernel⟩, List.mem_of_getElem? (i := 118) (by decide +kernel), List.mem_of_getElem? (i := 314) (by decide +kernel), List.mem_of_getElem? (i := 315) (by decide +kernel)⟩
theorem lw_p2 : lw_okq (⟨"CowardsPot$Reader", "wordNumber", "(LCowardsPot$Text;)I"⟩, 5) := ⟨⟨by decide +kernel, by decide +kernel⟩, List.mem_of_getElem? (i := 118) (by decide +kernel), List.mem_of_getElem? (i := 318) (by decide +kernel), List.mem_of_getElem? (i := 319) (by decide +kernel)⟩
theorem lw_p3 : lw_okq (⟨"CowardsPot$Reader", "isWord", "(LCowardsPot$Text;Ljava/lang/String;)Z"⟩, 5) := ⟨⟨by decide +kernel, by decide +kernel⟩, List.mem_of_getElem? (i := 118) (by decide +kernel), List.mem_of_getElem? (i := 323) (by decide +kernel), List.mem_of_getElem? (i := 324) (by decide +kernel)⟩
theorem lw_p4 : lw_okq (⟨"CowardsPot$Reader", "hasRoomFor", "(I)Z"⟩, 5) := ⟨⟨by decide +kernel, by decide +kernel⟩, List.mem_of_getElem? (i := 118) (by decide +kernel), List.mem_of_getElem? (i := 381) (by decide +kernel), List.mem_of_getElem? (i := 382) (by decide +kernel)⟩
theorem lw_p5 : lw_okq (⟨"CowardsPot$Reader", "isNumberRead", "(LCowardsPot$Text;II)Z"⟩, 5) := ⟨⟨by decide +kernel, by decide +kernel⟩, List.mem_of_getElem? (i := 118) (by decide +kernel), List.mem_of_getElem? (i := 389) (by decide +kernel), List.mem_of_getElem? (i := 390) (by decide +kernel)⟩
theorem lw_p6 : lw_okq (⟨"CowardsPot$Reader", "tell", "(III)V"⟩, 5) := ⟨⟨by decide +kernel, by decide +kernel⟩, List.mem_of_getElem? (i := 118) (by decide +kernel), List.mem_of_getElem? (i := 397) (by decide +kernel), List.mem_of_getElem? (i := 398) (by decide +kernel)⟩
theorem lw_p7 : lw_okq (⟨"CowardsPot", "isPerson", "(I)Z"⟩, 7) := ⟨⟨by decide +kernel, by decide +kernel⟩, List.mem_of_getElem? (i := 18) (by decide +kernel), List.mem_of_getElem? (i := 427) (by decide +kernel), List.mem_of_getElem? (i := 428) (by decide +kernel)⟩
theorem lw_p8 : lw_okq (⟨"CowardsPot", "isSort", "(I)Z"⟩, 7) := ⟨⟨by decide +kernel, by decide +kernel⟩, List.mem_of_getElem? (i := 18) (by decide +kernel), List.mem_of_getElem? (i := 444) (by decide +kernel), List.mem_of_getElem? (i := 445) (by decide +kernel)⟩
theorem lw_p9 : lw_okq (⟨"CowardsPot$Hall", "nextOf", "(I)I"⟩, 16) := ⟨⟨by decide +kernel, by decide +kernel⟩, List.mem_of_getElem? (i := 42) (by decide +kernel), List.mem_of_getElem? (i := 494) (by decide +kernel), List.mem_of_getElem? (i := 495) (by decide +kernel)⟩
theorem lw_p10 : lw_okq (⟨"CowardsPot$Hall", "lastOf", "(I)I"⟩, 16) := ⟨⟨by decide +kernel, by decide +kernel⟩, List.mem_of_getElem? (i := 42) (by decide +kernel), List.mem_of_getElem? (i := 498) (by decide +kernel), List.mem_of_getElem? (i := 499) (by decide +kernel)⟩
theorem lw_p11 : lw_okq (⟨"CowardsPot$Hall", "firstFor", "(II)I"⟩, 16) := ⟨⟨by decide +kernel, by decide +kernel⟩, List.mem_of_getElem? (i := 42) (by decide +kernel), List.mem_of_getElem? (i := 502) (by decide +kernel), List.mem_of_getElem? (i := 503) (by decide +kernel)⟩
theorem lw_p12 : lw_okq (⟨"CowardsPot", "isJoint", "(I)Z"⟩, 7) := ⟨⟨by decide +kernel, by decide +kernel⟩, List.mem_of_getElem? (i := 18) (by decide +kernel), List.mem_of_getElem? (i := 558) (by decide +kernel), List.mem_of_getElem? (i := 559) (by decide +kernel)⟩
theorem lw_p13 : lw_okq (⟨"CowardsPot$Foretelling", "weigh", "(LCowardsPot$Hall;III)V"⟩, 6) := ⟨⟨by decide +kernel, by decide +kernel⟩, List.mem_of_getElem? (i := 203) (by decide +kernel), List.mem_of_getElem? (i := 577) (by decide +kernel), List.mem_of_getElem? (i := 578) (by decide +kernel)⟩
theorem lw_p14 : lw_okq (⟨"CowardsPot$Sightings", "clearScales", "()V"⟩, 8) := ⟨⟨by decide +kernel, by decide +kernel⟩, List.mem_of_getElem? (i := 166) (by decide +kernel), List.mem_of_getElem? (i := 602) (by decide +kernel), List.mem_of_getElem? (i := 603) (by decide +kernel)⟩
theorem lw_p15 : lw_okq (⟨"CowardsPot$Sightings", "isSo", "(III)Z"⟩, 8) := ⟨⟨by decide +kernel, by decide +kernel⟩, List.mem_of_getElem? (i := 166) (by decide +kernel), List.mem_of_getElem? (i := 606) (by decide +kernel), List.mem_of_getElem? (i := 607) (by decide +kernel)⟩
def lw_privs_1 : List (MethodName × Nat) := [(⟨"CowardsPot$Reader", "goOn", "(LCowardsPot$Text;)V"⟩, 5), (⟨"CowardsPot$Reader", "isClauseRead", "(LCowardsPot$Text;)Z"⟩, 5), (⟨"CowardsPot$Reader", "wordNumber", "(LCowardsPot$Text;)I"⟩, 5), (⟨"CowardsPot$Reader", "isWord", "(LCowardsPot$Text;Ljava/lang/String;)Z"⟩, 5), (⟨"CowardsPot$Reader", "hasRoomFor", "(I)Z"⟩, 5), (⟨"CowardsPot$Reader", "isNumberRead", "(LCowardsPot$Text;II)Z"⟩, 5), (⟨"CowardsPot$Reader", "tell", "(III)V"⟩, 5), (⟨"CowardsPot", "isPerson", "(I)Z"⟩, 7), (⟨"CowardsPot", "isSort", "(I)Z"⟩, 7), (⟨"CowardsPot$Hall", "nextOf", "(I)I"⟩, 16), (⟨"CowardsPot$Hall", "lastOf", "(I)I"⟩, 16), (⟨"CowardsPot$Hall", "firstFor", "(II)I"⟩, 16), (⟨"CowardsPot", "isJoint", "(I)Z"⟩, 7), (⟨"CowardsPot$Foretelling", "weigh", "(LCowardsPot$Hall;III)V"⟩, 6), (⟨"CowardsPot$Sightings", "clearScales", "()V"⟩, 8), (⟨"CowardsPot$Sightings", "isSo", "(III)Z"⟩, 8)]
theorem lw_r1 : ∀ q ∈ lw_privs_1, lw_okq q := List.forall_mem_cons.mpr ⟨lw_p0, List.forall_mem_cons.mpr ⟨lw_p1, List.forall_mem_cons.mpr ⟨lw_p2, List.forall_mem_cons.mpr ⟨lw_p3, List.forall_mem_cons.mpr ⟨lw_p4, List.forall_mem_cons.mpr ⟨lw_p5, List.forall_mem_cons.mpr ⟨lw_p6, List.forall_mem_cons.mpr ⟨lw_p7, List.forall_mem_cons.mpr ⟨lw_p8, List.forall_mem_cons.mpr ⟨lw_p9, List.forall_mem_cons.mpr ⟨lw_p10, List.forall_mem_cons.mpr ⟨lw_p11, List.forall_mem_cons.mpr ⟨lw_p12, List.forall_mem_cons.mpr ⟨lw_p13, List.forall_mem_cons.mpr ⟨lw_p14, List.forall_mem_cons.mpr ⟨lw_p15, fun _ h => absurd h List.not_mem_nil⟩⟩⟩⟩⟩⟩⟩⟩⟩⟩⟩⟩⟩⟩⟩⟩
theorem lw_p16 : lw_okq (⟨"CowardsPot$Sightings", "noteScale", "(III)V"⟩, 8) := ⟨⟨by decide +kernel, by decide +kernel⟩, List.mem_of_getElem? (i := 166) (by decide +kernel), List.mem_of_getElem? (i := 613) (by decide +kernel), List.mem_of_getElem? (i := 614) (by decide +kernel)⟩
theorem lw_p17 : lw_okq (⟨"CowardsPot$Sightings", "mostAlike", "(II)I"⟩, 8) := ⟨⟨by decide +kernel, by decide +kernel⟩, List.mem_of_getElem? (i := 166) (by decide +kernel), List.mem_of_getElem? (i := 629) (by decide +kernel), List.mem_of_getElem? (i := 630) (by decide +kernel)⟩
theorem lw_p18 : lw_okq (⟨"CowardsPot$Foretelling", "tryDoers", "(LCowardsPot$Hall;II)V"⟩, 6) := ⟨⟨by decide +kernel, by decide +kernel⟩, List.mem_of_getElem? (i := 203) (by decide +kernel), List.mem_of_getElem? (i := 641) (by decide +kernel), List.mem_of_getElem? (i := 642) (by decide +kernel)⟩
theorem lw_p19 : lw_okq (⟨"CowardsPotModel", "forgets", "(I)V"⟩, 21) := ⟨⟨by decide +kernel, by decide +kernel⟩, List.mem_of_getElem? (i := 667) (by decide +kernel), List.mem_of_getElem? (i := 673) (by decide +kernel), List.mem_of_getElem? (i := 674) (by decide +kernel)⟩
theorem lw_p20 : lw_okq (⟨"CowardsPotModel", "lays", "()V"⟩, 21) := ⟨⟨by decide +kernel, by decide +kernel⟩, List.mem_of_getElem? (i := 667) (by decide +kernel), List.mem_of_getElem? (i := 677) (by decide +kernel), List.mem_of_getElem? (i := 678) (by decide +kernel)⟩
theorem lw_p21 : lw_okq (⟨"CowardsPotModel", "reads", "()I"⟩, 21) := ⟨⟨by decide +kernel, by decide +kernel⟩, List.mem_of_getElem? (i := 667) (by decide +kernel), List.mem_of_getElem? (i := 761) (by decide +kernel), List.mem_of_getElem? (i := 762) (by decide +kernel)⟩
theorem lw_p22 : lw_okq (⟨"CowardsPotModel", "token", "()V"⟩, 21) := ⟨⟨by decide +kernel, by decide +kernel⟩, List.mem_of_getElem? (i := 667) (by decide +kernel), List.mem_of_getElem? (i := 765) (by decide +kernel), List.mem_of_getElem? (i := 766) (by decide +kernel)⟩
theorem lw_p23 : lw_okq (⟨"CowardsPotModel", "letterAt", "(I)I"⟩, 21) := ⟨⟨by decide +kernel, by decide +kernel⟩, List.mem_of_getElem? (i := 667) (by decide +kernel), List.mem_of_getElem? (i := 769) (by decide +kernel), List.mem_of_getElem? (i := 770) (by decide +kernel)⟩
theorem lw_p24 : lw_okq (⟨"CowardsPotModel", "readsClause", "()Z"⟩, 21) := ⟨⟨by decide +kernel, by decide +kernel⟩, List.mem_of_getElem? (i := 667) (by decide +kernel), List.mem_of_getElem? (i := 779) (by decide +kernel), List.mem_of_getElem? (i := 780) (by decide +kernel)⟩
theorem lw_p25 : lw_okq (⟨"CowardsPotModel", "isWord", "(IIIIIII)Z"⟩, 21) := ⟨⟨by decide +kernel, by decide +kernel⟩, List.mem_of_getElem? (i := 667) (by decide +kernel), List.mem_of_getElem? (i := 783) (by decide +kernel), List.mem_of_getElem? (i := 784) (by decide +kernel)⟩
theorem lw_p26 : lw_okq (⟨"CowardsPotModel", "readsHall", "()Z"⟩, 21) := ⟨⟨by decide +kernel, by decide +kernel⟩, List.mem_of_getElem? (i := 667) (by decide +kernel), List.mem_of_getElem? (i := 787) (by decide +kernel), List.mem_of_getElem? (i := 788) (by decide +kernel)⟩
theorem lw_p27 : lw_okq (⟨"CowardsPotModel", "number", "(III)Z"⟩, 21) := ⟨⟨by decide +kernel, by decide +kernel⟩, List.mem_of_getElem? (i := 667) (by decide +kernel), List.mem_of_getElem? (i := 791) (by decide +kernel), List.mem_of_getElem? (i := 792) (by decide +kernel)⟩
theorem lw_p28 : lw_okq (⟨"CowardsPotModel", "readsPerson", "(I)Z"⟩, 21) := ⟨⟨by decide +kernel, by decide +kernel⟩, List.mem_of_getElem? (i := 667) (by decide +kernel), List.mem_of_getElem? (i := 795) (by decide +kernel), List.mem_of_getElem? (i := 796) (by decide +kernel)⟩
theorem lw_p29 : lw_okq (⟨"CowardsPotModel", "readsSort", "()Z"⟩, 21) := ⟨⟨by decide +kernel, by decide +kernel⟩, List.mem_of_getElem? (i := 667) (by decide +kernel), List.mem_of_getElem? (i := 799) (by decide +kernel), List.mem_of_getElem? (i := 800) (by decide +kernel)⟩
theorem lw_p30 : lw_okq (⟨"CowardsPotModel", "isPerson", "(I)Z"⟩, 21) := ⟨⟨by decide +kernel, by decide +kernel⟩, List.mem_of_getElem? (i := 667) (by decide +kernel), List.mem_of_getElem? (i := 811) (by decide +kernel), List.mem_of_getElem? (i := 812) (by decide +kernel)⟩
theorem lw_p31 : lw_okq (⟨"CowardsPotModel", "scoreOf", "(I)I"⟩, 21) := ⟨⟨by decide +kernel, by decide +kernel⟩, List.mem_of_getElem? (i := 667) (by decide +kernel), List.mem_of_getElem? (i := 815) (by decide +kernel), List.mem_of_getElem? (i := 816) (by decide +kernel)⟩
def lw_privs_2 : List (MethodName × Nat) := [(⟨"CowardsPot$Sightings", "noteScale", "(III)V"⟩, 8), (⟨"CowardsPot$Sightings", "mostAlike", "(II)I"⟩, 8), (⟨"CowardsPot$Foretelling", "tryDoers", "(LCowardsPot$Hall;II)V"⟩, 6), (⟨"CowardsPotModel", "forgets", "(I)V"⟩, 21), (⟨"CowardsPotModel", "lays", "()V"⟩, 21), (⟨"CowardsPotModel", "reads", "()I"⟩, 21), (⟨"CowardsPotModel", "token", "()V"⟩, 21), (⟨"CowardsPotModel", "letterAt", "(I)I"⟩, 21), (⟨"CowardsPotModel", "readsClause", "()Z"⟩, 21), (⟨"CowardsPotModel", "isWord", "(IIIIIII)Z"⟩, 21), (⟨"CowardsPotModel", "readsHall", "()Z"⟩, 21), (⟨"CowardsPotModel", "number", "(III)Z"⟩, 21), (⟨"CowardsPotModel", "readsPerson", "(I)Z"⟩, 21), (⟨"CowardsPotModel", "readsSort", "()Z"⟩, 21), (⟨"CowardsPotModel", "isPerson", "(I)Z"⟩, 21), (⟨"CowardsPotModel", "scoreOf", "(I)I"⟩, 21)]
theorem lw_r2 : ∀ q ∈ lw_privs_2, lw_okq q := List.forall_mem_cons.mpr ⟨lw_p16, List.forall_mem_cons.mpr ⟨lw_p17, List.forall_mem_cons.mpr ⟨lw_p18, List.forall_mem_cons.mpr ⟨lw_p19, List.forall_mem_cons.mpr ⟨lw_p20, List.forall_mem_cons.mpr ⟨lw_p21, List.forall_mem_cons.mpr ⟨lw_p22, List.forall_mem_cons.mpr ⟨lw_p23, List.forall_mem_cons.mpr ⟨lw_p24, List.forall_mem_cons.mpr ⟨lw_p25, List.forall_mem_cons.mpr ⟨lw_p26, List.forall_mem_cons.mpr ⟨lw_p27, List.forall_mem_cons.mpr ⟨lw_p28, List.forall_mem_cons.mpr ⟨lw_p29, List.forall_mem_cons.mpr ⟨lw_p30, List.forall_mem_cons.mpr ⟨lw_p31, fun _ h => absurd h List.not_mem_nil⟩⟩⟩⟩⟩⟩⟩⟩⟩⟩⟩⟩⟩⟩⟩⟩
theorem lw_p32 : lw_okq (⟨"CowardsPotModel", "isAfraid", "(I)Z"⟩, 21) := ⟨⟨by decide +kernel, by decide +kernel⟩, List.mem_of_getElem? (i := 667) (by decide +kernel), List.mem_of_getElem? (i := 819) (by decide +kernel), List.mem_of_getElem? (i := 820) (by decide +kernel)⟩
theorem lw_p33 : lw_okq (⟨"CowardsPotModel", "isSort", "(I)Z"⟩, 21) := ⟨⟨by decide +kernel, by decide +kernel⟩, List.mem_of_getElem? (i := 667) (by decide +kernel), List.mem_of_getElem? (i := 827) (by decide +kernel), List.mem_of_getElem? (i := 828) (by decide +kernel)⟩
theorem lw_p34 : lw_okq (⟨"CowardsPotModel", "fameBehind", "(I)I"⟩, 21) := ⟨⟨by decide +kernel, by decide +kernel⟩, List.mem_of_getElem? (i := 667) (by decide +kernel), List.mem_of_getElem? (i := 835) (by decide +kernel), List.mem_of_getElem? (i := 836) (by decide +kernel)⟩
theorem lw_p35 : lw_okq (⟨"CowardsPotModel", "keeps", "()V"⟩, 21) := ⟨⟨by decide +kernel, by decide +kernel⟩, List.mem_of_getElem? (i := 667) (by decide +kernel), List.mem_of_getElem? (i := 843) (by decide +kernel), List.mem_of_getElem? (i := 844) (by decide +kernel)⟩
theorem lw_p36 : lw_okq (⟨"CowardsPotModel", "does", "(II)V"⟩, 21) := ⟨⟨by decide +kernel, by decide +kernel⟩, List.mem_of_getElem? (i := 667) (by decide +kernel), List.mem_of_getElem? (i := 847) (by decide +kernel), List.mem_of_getElem? (i := 848) (by decide +kernel)⟩
theorem lw_p37 : lw_okq (⟨"CowardsPotModel", "feasts", "()V"⟩, 21) := ⟨⟨by decide +kernel, by decide +kernel⟩, List.mem_of_getElem? (i := 667) (by decide +kernel), List.mem_of_getElem? (i := 858) (by decide +kernel), List.mem_of_getElem? (i := 859) (by decide +kernel)⟩
theorem lw_p38 : lw_okq (⟨"CowardsPotModel", "jointFor", "(IIIIZ)I"⟩, 21) := ⟨⟨by decide +kernel, by decide +kernel⟩, List.mem_of_getElem? (i := 667) (by decide +kernel), List.mem_of_getElem? (i := 862) (by decide +kernel), List.mem_of_getElem? (i := 863) (by decide +kernel)⟩
theorem lw_p39 : lw_okq (⟨"CowardsPotModel", "getsNow", "(I)I"⟩, 21) := ⟨⟨by decide +kernel, by decide +kernel⟩, List.mem_of_getElem? (i := 667) (by decide +kernel), List.mem_of_getElem? (i := 890) (by decide +kernel), List.mem_of_getElem? (i := 891) (by decide +kernel)⟩
theorem lw_p40 : lw_okq (⟨"CowardsPotModel", "isJoint", "(I)Z"⟩, 21) := ⟨⟨by decide +kernel, by decide +kernel⟩, List.mem_of_getElem? (i := 667) (by decide +kernel), List.mem_of_getElem? (i := 898) (by decide +kernel), List.mem_of_getElem? (i := 899) (by decide +kernel)⟩
theorem lw_p41 : lw_okq (⟨"CowardsPotModel", "bring", "(III)Z"⟩, 21) := ⟨⟨by decide +kernel, by decide +kernel⟩, List.mem_of_getElem? (i := 667) (by decide +kernel), List.mem_of_getElem? (i := 906) (by decide +kernel), List.mem_of_getElem? (i := 907) (by decide +kernel)⟩
theorem lw_p42 : lw_okq (⟨"CowardsPotModel", "isSo", "(II)Z"⟩, 21) := ⟨⟨by decide +kernel, by decide +kernel⟩, List.mem_of_getElem? (i := 667) (by decide +kernel), List.mem_of_getElem? (i := 922) (by decide +kernel), List.mem_of_getElem? (i := 923) (by decide +kernel)⟩
theorem lw_p43 : lw_okq (⟨"CowardsPotModel", "jointBy", "(III)I"⟩, 21) := ⟨⟨by decide +kernel, by decide +kernel⟩, List.mem_of_getElem? (i := 667) (by decide +kernel), List.mem_of_getElem? (i := 926) (by decide +kernel), List.mem_of_getElem? (i := 927) (by decide +kernel)⟩
theorem lw_p44 : lw_okq (⟨"CowardsPotModel", "keepsAside", "()V"⟩, 21) := ⟨⟨by decide +kernel, by decide +kernel⟩, List.mem_of_getElem? (i := 667) (by decide +kernel), List.mem_of_getElem? (i := 938) (by decide +kernel), List.mem_of_getElem? (i := 939) (by decide +kernel)⟩
theorem lw_p45 : lw_okq (⟨"CowardsPotModel", "bringsBack", "()V"⟩, 21) := ⟨⟨by decide +kernel, by decide +kernel⟩, List.mem_of_getElem? (i := 667) (by decide +kernel), List.mem_of_getElem? (i := 942) (by decide +kernel), List.mem_of_getElem? (i := 943) (by decide +kernel)⟩
def lw_privs_3 : List (MethodName × Nat) := [(⟨"CowardsPotModel", "isAfraid", "(I)Z"⟩, 21), (⟨"CowardsPotModel", "isSort", "(I)Z"⟩, 21), (⟨"CowardsPotModel", "fameBehind", "(I)I"⟩, 21), (⟨"CowardsPotModel", "keeps", "()V"⟩, 21), (⟨"CowardsPotModel", "does", "(II)V"⟩, 21), (⟨"CowardsPotModel", "feasts", "()V"⟩, 21), (⟨"CowardsPotModel", "jointFor", "(IIIIZ)I"⟩, 21), (⟨"CowardsPotModel", "getsNow", "(I)I"⟩, 21), (⟨"CowardsPotModel", "isJoint", "(I)Z"⟩, 21), (⟨"CowardsPotModel", "bring", "(III)Z"⟩, 21), (⟨"CowardsPotModel", "isSo", "(II)Z"⟩, 21), (⟨"CowardsPotModel", "jointBy", "(III)I"⟩, 21), (⟨"CowardsPotModel", "keepsAside", "()V"⟩, 21), (⟨"CowardsPotModel", "bringsBack", "()V"⟩, 21)]
theorem lw_r3 : ∀ q ∈ lw_privs_3, lw_okq q := List.forall_mem_cons.mpr ⟨lw_p32, List.forall_mem_cons.mpr ⟨lw_p33, List.forall_mem_cons.mpr ⟨lw_p34, List.forall_mem_cons.mpr ⟨lw_p35, List.forall_mem_cons.mpr ⟨lw_p36, List.forall_mem_cons.mpr ⟨lw_p37, List.forall_mem_cons.mpr ⟨lw_p38, List.forall_mem_cons.mpr ⟨lw_p39, List.forall_mem_cons.mpr ⟨lw_p40, List.forall_mem_cons.mpr ⟨lw_p41, List.forall_mem_cons.mpr ⟨lw_p42, List.forall_mem_cons.mpr ⟨lw_p43, List.forall_mem_cons.mpr ⟨lw_p44, List.forall_mem_cons.mpr ⟨lw_p45, fun _ h => absurd h List.not_mem_nil⟩⟩⟩⟩⟩⟩⟩⟩⟩⟩⟩⟩⟩⟩
def lw_privs : List (MethodName × Nat) := lw_privs_1 ++ (lw_privs_2 ++ (lw_privs_3))
def lw_tbl : List Cond := k2_sels lw_privs ++ tables_1
theorem lw_privs_ok : ∀ q ∈ lw_privs, lw_okq q := by
  show ∀ q ∈ lw_privs_1 ++ (lw_privs_2 ++ (lw_privs_3)), lw_okq q
  exact List.forall_mem_append.mpr ⟨lw_r1, List.forall_mem_append.mpr ⟨lw_r2, lw_r3⟩⟩
end
section
/-- an array of arrays of t can be made (the printed rows below use this word; its meaning is the one word of the tables) -/
def va_AOA (t : FieldType) (U : State) : Prop := (Cond.arrayOver (.array t)).before #[] U = true
theorem va_AOA.use {t : FieldType} {A : Array Value} {U : State} (h : va_AOA t U) : (Cond.arrayOver (.array t)).before A U = true := h
/-! ===== BEGIN words of one list among another's, by their places ===== -/
theorem goodIn_r {big : List Cond} (ws : List Cond) (ps : List Nat) (hp : ws = ps.filterMap (fun i => big[i]?)) (h : ws.all goodWord = true) : GoodIn big ws := by
  intro w hw
  have h1 := List.all_eq_true.mp h w hw
  rw [hp] at hw
  obtain ⟨i, -, hi⟩ := List.mem_filterMap.mp hw
  have hm : w ∈ big := by first | exact List.mem_of_getElem? hi | exact List.getElem?_mem hi
  exact ⟨hm, good_of_word h1⟩
theorem goodIn_app {big a b : List Cond} (ha : GoodIn big a) (hb : GoodIn big b) : GoodIn big (a ++ b) := fun w h => (List.mem_append.mp h).elim (ha w) (hb w)
theorem goodIn_ca {big a b : List Cond} {c : Cond} (ha : GoodIn big (c :: a)) (hb : GoodIn big b) : GoodIn big (c :: (a ++ b)) := fun w h => (List.mem_cons.mp h).elim (fun e => ha w (List.mem_cons.mpr (Or.inl e))) (fun h => (List.mem_append.mp h).elim (fun h => ha w (List.mem_cons.mpr (Or.inr h))) (hb w))
theorem goodIn_sub {big ws : List Cond} (hm : ∀ w ∈ ws, w ∈ big) (h : ws.all goodWord = true) : GoodIn big ws := fun w hw => ⟨hm w hw, good_of_word (List.all_eq_true.mp h w hw)⟩
/-! ===== END ===== -/

/-! ===== BEGIN new T[n][m]: the outer array a place, the inner ones among the pooled ===== -/
/-- f, but v at every address of l -/
def vr_up {α : Type} (f : Nat → α) (l : List Nat) (v : α) : Nat → α := fun a => if a ∈ l then v else f a
theorem vr_up_in {α : Type} {f : Nat → α} {l : List Nat} {v : α} {a : Nat} (h : a ∈ l) : vr_up f l v a = v := if_pos h
theorem vr_up_ne {α : Type} {f : Nat → α} {l : List Nat} {v : α} {a : Nat} (h : a ∉ l) : vr_up f l v a = f a := if_neg h
theorem vr_rows {L l : List Nat} {f : Nat → va_E} {e : va_E} (h : ∀ a, a ∈ l → a ∉ L) : va_pl L f ++ l.map (fun a => (a, e)) = va_pl (L ++ l) (vr_up f l e) := by
  unfold va_pl
  rw [List.map_append]
  congr 1
  · apply List.map_congr_left
    intro a ha
    rw [vr_up_ne (fun q => h a q ha)]
  · apply List.map_congr_left
    intro a ha
    rw [vr_up_in ha]
theorem vr_lay {X rows : va_W} {x : Nat × va_E} {pl : va_W} {D : va_G} {cl : List vw_C} {H : Heap} (hP : va_P D cl (((X ++ pl) ++ [x]) ++ rows) H) : va_P D cl ((X ++ [x]) ++ (pl ++ rows)) H := by
  rw [List.append_assoc (X ++ pl)] at hP
  have h := va_P.swap hP
  rw [← List.append_assoc X] at h
  have h2 := va_P.swap h
  rw [List.append_assoc (X ++ [x])] at h2
  exact h2
theorem vr_layD {X rows : va_W} {x : Nat × va_E} {pl : va_W} {A : Nat → Prop} (hD : va_D A (((X ++ pl) ++ [x]) ++ rows)) : va_D A ((X ++ [x]) ++ (pl ++ rows)) := by
  rw [List.append_assoc (X ++ pl)] at hD
  have h := va_D.swap hD
  rw [← List.append_assoc X] at h
  have h2 := va_D.swap h
  rw [List.append_assoc (X ++ [x])] at h2
  exact h2
theorem vr_outer (c : ClassId) (N h0 : Nat) : ∀ i : Nat, Jvm.Free.Multi.outerC c N h0 i = arrV c N (fun j => va_rf (if j < i then some (h0 + 1 + j) else none))
  | 0 => by
    show ({ cls := c, slots := Array.replicate N .null, vm := .none } : Cell) = _
    rw [arrV_new]
    refine congrArg (arrV c N) (funext fun j => ?_)
    simp [va_rf]
  | i + 1 => by
    show (Jvm.Free.Multi.outerC c N h0 i).setSlot i (.ref (h0 + 1 + i)) = _
    rw [vr_outer c N h0 i, arrV_store]
    refine congrArg (arrV c N) (funext fun j => ?_)
    by_cases e : j = i
    · subst e
      simp [updV, va_rf]
    · by_cases h : j < i
      · simp [updV, e, h, Nat.lt_succ_of_lt h]
      · simp [updV, e, h, show ¬ j < i + 1 by omega]
section VGM
variable {p : Program} {l : Launch} {e : Env} {R : Room} {s : State} {m : MethodId} {args : Array Value} {below : List Frame} {meth : Method} {c : Code} {H : Heap} {locs : List Loc} {cells slots : Nat} {Q : State → Prop}
variable {cc : ByteArray} {pc : Nat} {ls : Array Slot} {rest : List Value} {D : va_G} {cl : List vw_C} {A : Nat → Prop} {a : Nat} {tys : List (ClassId × FieldType)} {ws : va_W} {H0 : Heap}
theorem va_mna {X : va_W} {L : List Nat} {f : Nat → va_E} {cc : ByteArray} (hexec : p.tables.exec = Jvm.exec) (hb : c.code = cc) {own : String} {index : Nat} {ty : FieldType} {cy : ClassId} (hown : s.vm.findClass own = some m.cls) (hclink : (Cond.classLink own index ("[" ++ (FieldType.array ty).toString)).before args s = true) (hover : va_AOA ty s) (harr : (Cond.arrayClass ty).before args s = true) (hcy : s.vm.findClass (FieldType.array ty).toString = some cy)
    (hK : va_K D cl tys s) (hP : va_P D cl (X ++ va_pl L f) H) (hD : va_D A (X ++ va_pl L f)) (hS : va_S A H0 H locs) (hA : ∀ q, H0.size ≤ q → A q) {n k : Int32} {N' K' : Nat} {z : vp_A} (hn : ¬ n < 0) (hk : ¬ k < 0) (hN : n.toNatClampNeg = N') (hM : k.toNatClampNeg = K')
    (hb1 : N' * 4 ≤ 536870912) (hb2 : K' * componentBytes ty ≤ 536870912) (hb3 : K' ≤ 536870912) (hdf : fits ty (defaultValue ty) = true) (hdd : (defaultValue ty).isDefault = true) (hcells : cells + (1 + N') ≤ R.cells) (hslots : slots + (N' + N' * K') ≤ R.slots) (hz : ∀ c : ClassId, Jvm.Free.Multi.innerC c K' (defaultValue ty) = vp_cell c z) (hdg : decode cc pc = .ok (.multianewarray index 2, 4))
    (kk : ∀ (q : Nat) (r : Nat → Nat) (cA : ClassId) (H1 : Heap), (∀ i j : Nat, i < N' → j < N' → r i = r j → i = j) → (∀ i : Nat, i < N' → r i ∉ L) → va_K D cl (tys ++ [(cA, .array ty)]) s →
      va_P D cl ((X ++ [(q, .inl (cA, N', .inr (.inr (.inr (.inr (fun i => if i < N' then some (r i) else none))))))]) ++ va_pl (L ++ (List.range N').map r) (vr_up f ((List.range N').map r) (.inl (cy, z)))) H1 → va_D A ((X ++ [(q, .inl (cA, N', .inr (.inr (.inr (.inr (fun i => if i < N' then some (r i) else none))))))]) ++ va_pl (L ++ (List.range N').map r) (vr_up f ((List.range N').map r) (.inl (cy, z)))) → va_S A H0 H1 locs →
      W p l e R s m args below meth c H1 locs (cells + 1 + N') (slots + N' + N' * K') Q (F0 m (pc + 4) ls (.ref q :: rest))) : W p l e R s m args below meth c H locs cells slots Q (F0 m pc ls (.int k :: .int n :: rest)) := by
  subst hN
  subst hM
  intro T hT Xs
  obtain ⟨vm₁, cA, comp, -, fA, fC, hO, -, X', step⟩ := Xs.multianewarray2F hexec hown hclink (va_AOA.use hover) harr (g := F0 m pc ls (.int k :: .int n :: rest)) rfl (by rw [hb]; exact hdg) rfl hn hk hb1 hb2 hb3 hdf hdd hcells hslots
  have ec : some cy = some comp := hcy.symm.trans fC
  cases ec
  generalize hF : Jvm.Free.Multi.fill (T.setVm vm₁) cA cy n.toNatClampNeg k.toNatClampNeg (defaultValue ty) n.toNatClampNeg = F at X' step
  have hTh : (T.setVm vm₁).heap = H := hT
  obtain ⟨f1, f2, -, -⟩ := Jvm.Free.Multi.fill_facts (T.setVm vm₁) cA cy n.toNatClampNeg k.toNatClampNeg (defaultValue ty) n.toNatClampNeg
  rw [hF, hTh] at f1 f2
  have hold : ∀ x : Nat, x < H.size → F.heap[x]? = H[x]? := fun x hx => by
    have := Jvm.Free.Multi.fill_old (T.setVm vm₁) cA cy n.toNatClampNeg k.toNatClampNeg (defaultValue ty) (a := x) (by rw [hTh]; exact hx) n.toNatClampNeg
    rw [hF, hTh] at this
    exact this
  have hrow : ∀ j : Nat, j < n.toNatClampNeg → F.heap[H.size + 1 + j]? = some (vp_cell cy z) := fun j hj => by
    have := Jvm.Free.Multi.fill_inner (T.setVm vm₁) cA cy n.toNatClampNeg k.toNatClampNeg (defaultValue ty) n.toNatClampNeg j hj
    rw [hF, hTh, hz] at this
    exact this
  have hout : Jvm.Free.Multi.outerC cA n.toNatClampNeg H.size n.toNatClampNeg = vp_cell cA (n.toNatClampNeg, .inr (.inr (.inr (.inr (fun i => if i < n.toNatClampNeg then some (H.size + 1 + i) else none))))) := by
    rw [vp_cell_q]
    exact vr_outer cA n.toNatClampNeg H.size n.toNatClampNeg
  rw [hout] at f2
  have hlt : ∀ a, a ∈ L → a < H.size := fun a ha => by
    obtain ⟨k9, hk9⟩ := va_pl_get (X := X) (f := f) ha
    exact (hP k9 _ hk9).lt
  have hnl : ∀ i : Nat, i < n.toNatClampNeg → H.size + 1 + i ∉ L := fun i _ h => by
    have := hlt _ h
    omega
  have hnm : ∀ a, a ∈ (List.range n.toNatClampNeg).map (fun i => H.size + 1 + i) → a ∉ L := fun a ha h => by
    obtain ⟨i, -, rfl⟩ := List.mem_map.mp ha
    have := hlt _ h
    omega
  have hP0 : va_P D cl (X ++ va_pl L f) F.heap := hP.kept (fun k9 x hx => hold x.1 ((hP k9 x hx).lt))
  have hP1 : va_P D cl ((X ++ va_pl L f) ++ [(H.size, .inl (cA, n.toNatClampNeg, .inr (.inr (.inr (.inr (fun i => if i < n.toNatClampNeg then some (H.size + 1 + i) else none))))))]) F.heap := hP0.app (fun k9 x hx => by
    have h0 : k9 < 1 := (List.getElem?_eq_some_iff.mp hx).1
    rw [show k9 = 0 by omega] at hx
    cases hx
    exact f2)
  have hP2 : va_P D cl (((X ++ va_pl L f) ++ [(H.size, .inl (cA, n.toNatClampNeg, .inr (.inr (.inr (.inr (fun i => if i < n.toNatClampNeg then some (H.size + 1 + i) else none))))))]) ++ ((List.range n.toNatClampNeg).map (fun i => H.size + 1 + i)).map (fun a => (a, .inl (cy, z)))) F.heap := hP1.app (fun k9 x hx => by
    obtain ⟨a, ha, rfl⟩ := List.mem_map.mp (List.mem_of_getElem? hx)
    obtain ⟨i, hi, rfl⟩ := List.mem_map.mp ha
    exact hrow i (List.mem_range.mp hi))
  have hD2 : va_D A (((X ++ va_pl L f) ++ [(H.size, .inl (cA, n.toNatClampNeg, .inr (.inr (.inr (.inr (fun i => if i < n.toNatClampNeg then some (H.size + 1 + i) else none))))))]) ++ ((List.range n.toNatClampNeg).map (fun i => H.size + 1 + i)).map (fun a => (a, .inl (cy, z)))) := by
    have hD1 := hD.push (e := .inl (cA, n.toNatClampNeg, .inr (.inr (.inr (.inr (fun i => if i < n.toNatClampNeg then some (H.size + 1 + i) else none)))))) hP rfl (hA _ hS.1)
    generalize hW1 : (X ++ va_pl L f) ++ [(H.size, .inl (cA, n.toNatClampNeg, .inr (.inr (.inr (.inr (fun i => if i < n.toNatClampNeg then some (H.size + 1 + i) else none))))))] = W1 at hD1 hP1 ⊢
    have hle : ∀ (k9 : Nat) (x : Nat × va_E), W1[k9]? = some x → x.1 ≤ H.size := fun k9 x hx => by
      rw [← hW1] at hx
      by_cases hl : k9 < (X ++ va_pl L f).length
      · rw [List.getElem?_append_left hl] at hx
        exact Nat.le_of_lt ((hP k9 x hx).lt)
      · rw [List.getElem?_append_right (by omega)] at hx
        have h0 : k9 - (X ++ va_pl L f).length < 1 := (List.getElem?_eq_some_iff.mp hx).1
        rw [show k9 - (X ++ va_pl L f).length = 0 by omega] at hx
        cases hx
        exact Nat.le_refl _
    have hr : ∀ (k9 : Nat) (x : Nat × va_E), (((List.range n.toNatClampNeg).map (fun i => H.size + 1 + i)).map (fun a => ((a, .inl (cy, z)) : Nat × va_E)))[k9]? = some x → x.1 = H.size + 1 + k9 := fun k9 x hx => by
      rw [List.getElem?_map, List.getElem?_map] at hx
      by_cases h9 : k9 < n.toNatClampNeg
      · rw [List.getElem?_range h9] at hx
        cases hx
        rfl
      · have hn0 : (List.range n.toNatClampNeg)[k9]? = none := List.getElem?_eq_none (by rw [List.length_range]; omega)
        rw [hn0] at hx
        cases hx
    refine ⟨fun i j x y hi hj hxy => ?_, fun k9 x hx => ?_⟩
    · by_cases h1 : i < W1.length <;> by_cases h2 : j < W1.length
      · rw [List.getElem?_append_left h1] at hi
        rw [List.getElem?_append_left h2] at hj
        exact hD1.1 i j x y hi hj hxy
      · rw [List.getElem?_append_left h1] at hi
        rw [List.getElem?_append_right (by omega)] at hj
        have := hle _ _ hi
        have := hr _ _ hj
        omega
      · rw [List.getElem?_append_right (by omega)] at hi
        rw [List.getElem?_append_left h2] at hj
        have := hle _ _ hj
        have := hr _ _ hi
        omega
      · rw [List.getElem?_append_right (by omega)] at hi hj
        have := hr _ _ hi
        have := hr _ _ hj
        omega
    · by_cases h1 : k9 < W1.length
      · rw [List.getElem?_append_left h1] at hx
        exact hD1.2 k9 x hx
      · rw [List.getElem?_append_right (by omega)] at hx
        have := hr _ _ hx
        exact hA _ (by have := hS.1; omega)
  have hAr : ArrOfT s cA (.array ty) := fun N9 z9 => by
    obtain ⟨-, k9, hk9, cm9, hkk9⟩ := (hO 0 0 0).1
    exact ⟨(fun q hq => by cases hq), k9, hk9, cm9, hkk9⟩
  have hK2 : va_K D cl (tys ++ [(cA, .array ty)]) s := ⟨hK.1, fun k9 x hx => by
    by_cases hl : k9 < tys.length
    · rw [List.getElem?_append_left hl] at hx
      exact hK.2 k9 x hx
    · rw [List.getElem?_append_right (by omega)] at hx
      have h0 : k9 - tys.length < 1 := (List.getElem?_eq_some_iff.mp hx).1
      rw [show k9 - tys.length = 0 by omega] at hx
      cases hx
      exact ⟨hAr, fA⟩⟩
  obtain ⟨t, a1, b1⟩ := kk H.size (fun i => H.size + 1 + i) cA F.heap (fun i j _ _ h => by have h9 : H.size + 1 + i = H.size + 1 + j := h; omega) hnl hK2 (by rw [← vr_rows hnm]; exact vr_lay hP2) (by rw [← vr_rows hnm]; exact vr_layD hD2) ⟨by rw [f1]; have := hS.1; omega, fun x h1 h2 => (hold x (Nat.lt_of_lt_of_le h1 hS.1)).trans (hS.2.1 x h1 h2), hS.2.2⟩ F rfl X'
  refine ⟨t, step t ?_, b1⟩
  have e : T.heap.size = H.size := by rw [hT]
  rw [e]
  exact a1
end VGM
/-! ===== END ===== -/
end
section
/-! ===== BEGIN printed: names, fields, word lists, decode rows ===== -/
def RX0 : String := "CowardsPot$Foretelling"
def TX0 : u_T := fun k => match k with
  | 0 => ("CowardsPot$Foretelling", "trial", "LCowardsPot$Hall;", true)
  | 1 => ("CowardsPot$Foretelling", "served", "[I", true)
  | 2 => ("CowardsPot$Foretelling", "tried", "[I", true)
  | 3 => ("CowardsPot$Foretelling", "chosen", "[I", true)
  | 4 => ("CowardsPot$Foretelling", "chosenMany", "I", false)
  | _ => ("CowardsPot$Foretelling", "chosenFear", "I", false)
def tyX0 : Nat → FieldType := fun k => match k with
  | 0 => .object "CowardsPot$Hall"
  | 1 => .array .int
  | 2 => .array .int
  | 3 => .array .int
  | 4 => .int
  | _ => .int
abbrev wsX00 : List Cond := u_ws RX0 TX0 6
theorem nmX0 : ∀ a, a < 6 → ∀ b, b < 6 → a ≠ b → (TX0 a).2.1 ≠ (TX0 b).2.1 := by decide +kernel
theorem tyX0_ok : ∀ k, k < 6 → parseFieldDescriptor (TX0 k).2.2.1 = some (tyX0 k) := by decide +kernel
abbrev cX0_init : ByteArray := prog_2_method_1_code
def yX0_init : MethodName := ⟨RX0, "<init>", "()V"⟩
abbrev cX0_jointOf : ByteArray := prog_2_method_2_code
def yX0_jointOf : MethodName := ⟨RX0, "jointOf", "(LCowardsPot$Hall;I)I"⟩
abbrev cX0_leastGain : ByteArray := prog_2_method_3_code
def yX0_leastGain : MethodName := ⟨RX0, "leastGain", "(LCowardsPot$Hall;II)I"⟩
abbrev cX0_chooseDeeds : ByteArray := prog_2_method_4_code
def yX0_chooseDeeds : MethodName := ⟨RX0, "chooseDeeds", "(LCowardsPot$Hall;II)V"⟩
abbrev cX0_weigh : ByteArray := prog_2_method_5_code
def yX0_weigh : MethodName := ⟨RX0, "weigh", "(LCowardsPot$Hall;III)V"⟩
abbrev cX0_waysOfTen : ByteArray := prog_2_method_6_code
def yX0_waysOfTen : MethodName := ⟨RX0, "waysOfTen", "(LCowardsPot$Hall;IIII)I"⟩
abbrev cX0_tryDoers : ByteArray := prog_2_method_7_code
def yX0_tryDoers : MethodName := ⟨RX0, "tryDoers", "(LCowardsPot$Hall;II)V"⟩
def RX1 : String := "CowardsPot$Hall"
def TX1 : u_T := fun k => match k with
  | 0 => ("CowardsPot$Hall", "joints", "I", false)
  | 1 => ("CowardsPot$Hall", "base", "I", false)
  | 2 => ("CowardsPot$Hall", "step", "I", false)
  | 3 => ("CowardsPot$Hall", "yearNumber", "I", false)
  | 4 => ("CowardsPot$Hall", "people", "I", false)
  | 5 => ("CowardsPot$Hall", "sorts", "I", false)
  | 6 => ("CowardsPot$Hall", "kind", "[I", true)
  | 7 => ("CowardsPot$Hall", "toldFame", "[I", true)
  | 8 => ("CowardsPot$Hall", "fame", "[I", true)
  | 9 => ("CowardsPot$Hall", "gain", "[I", true)
  | 10 => ("CowardsPot$Hall", "fear", "[I", true)
  | 11 => ("CowardsPot$Hall", "latest", "[I", true)
  | 12 => ("CowardsPot$Hall", "had", "[I", true)
  | 13 => ("CowardsPot$Hall", "sortGain", "[I", true)
  | 14 => ("CowardsPot$Hall", "sortFear", "[I", true)
  | _ => ("CowardsPot$Hall", "scores", "[I", true)
def tyX1 : Nat → FieldType := fun k => match k with
  | 0 => .int
  | 1 => .int
  | 2 => .int
  | 3 => .int
  | 4 => .int
  | 5 => .int
  | 6 => .array .int
  | 7 => .array .int
  | 8 => .array .int
  | 9 => .array .int
  | 10 => .array .int
  | 11 => .array .int
  | 12 => .array .int
  | 13 => .array .int
  | 14 => .array .int
  | _ => .array .int
abbrev wsX10 : List Cond := u_ws RX1 TX1 16
theorem nmX1 : ∀ a, a < 16 → ∀ b, b < 16 → a ≠ b → (TX1 a).2.1 ≠ (TX1 b).2.1 := by decide +kernel
theorem tyX1_ok : ∀ k, k < 16 → parseFieldDescriptor (TX1 k).2.2.1 = some (tyX1 k) := by decide +kernel
abbrev cX1_init : ByteArray := prog_3_method_1_code
def yX1_init : MethodName := ⟨RX1, "<init>", "()V"⟩
abbrev cX1_copyFrom : ByteArray := prog_3_method_2_code
def yX1_copyFrom : MethodName := ⟨RX1, "copyFrom", "(LCowardsPot$Hall;)V"⟩
abbrev cX1_clearFor : ByteArray := prog_3_method_3_code
def yX1_clearFor : MethodName := ⟨RX1, "clearFor", "(I)V"⟩
abbrev cX1_addPerson : ByteArray := prog_3_method_4_code
def yX1_addPerson : MethodName := ⟨RX1, "addPerson", "(II)V"⟩
abbrev cX1_addSort : ByteArray := prog_3_method_5_code
def yX1_addSort : MethodName := ⟨RX1, "addSort", "(II)V"⟩
abbrev cX1_beginAnew : ByteArray := prog_3_method_6_code
def yX1_beginAnew : MethodName := ⟨RX1, "beginAnew", "()V"⟩
abbrev cX1_scoreOf : ByteArray := prog_3_method_7_code
def yX1_scoreOf : MethodName := ⟨RX1, "scoreOf", "(I)I"⟩
abbrev cX1_isAfraid : ByteArray := prog_3_method_8_code
def yX1_isAfraid : MethodName := ⟨RX1, "isAfraid", "(I)Z"⟩
abbrev cX1_afraidBits : ByteArray := prog_3_method_9_code
def yX1_afraidBits : MethodName := ⟨RX1, "afraidBits", "()I"⟩
abbrev cX1_addTo : ByteArray := prog_3_method_10_code
def yX1_addTo : MethodName := ⟨RX1, "addTo", "(III)V"⟩
abbrev cX1_addDeed : ByteArray := prog_3_method_11_code
def yX1_addDeed : MethodName := ⟨RX1, "addDeed", "(II)V"⟩
abbrev cX1_fameAfterYear : ByteArray := prog_3_method_12_code
def yX1_fameAfterYear : MethodName := ⟨RX1, "fameAfterYear", "(I)I"⟩
abbrev cX1_passYear : ByteArray := prog_3_method_13_code
def yX1_passYear : MethodName := ⟨RX1, "passYear", "()V"⟩
abbrev cX1_holdFeast : ByteArray := prog_3_method_14_code
def yX1_holdFeast : MethodName := ⟨RX1, "holdFeast", "()I"⟩
abbrev cX1_serveInto : ByteArray := prog_3_method_15_code
def yX1_serveInto : MethodName := ⟨RX1, "serveInto", "([I)V"⟩
abbrev cX1_nextOf : ByteArray := prog_3_method_16_code
def yX1_nextOf : MethodName := ⟨RX1, "nextOf", "(I)I"⟩
abbrev cX1_lastOf : ByteArray := prog_3_method_17_code
def yX1_lastOf : MethodName := ⟨RX1, "lastOf", "(I)I"⟩
abbrev cX1_firstFor : ByteArray := prog_3_method_18_code
def yX1_firstFor : MethodName := ⟨RX1, "firstFor", "(II)I"⟩
def RX2 : String := "CowardsPot$Kept"
def TX2 : u_T := fun k => match k with
  | 0 => ("CowardsPot$Kept", "hall", "LCowardsPot$Hall;", true)
  | 1 => ("CowardsPot$Kept", "text", "LCowardsPot$Text;", true)
  | _ => ("CowardsPot$Kept", "isThere", "Z", false)
def tyX2 : Nat → FieldType := fun k => match k with
  | 0 => .object "CowardsPot$Hall"
  | 1 => .object "CowardsPot$Text"
  | _ => .boolean
abbrev wsX20 : List Cond := u_ws RX2 TX2 3
theorem nmX2 : ∀ a, a < 3 → ∀ b, b < 3 → a ≠ b → (TX2 a).2.1 ≠ (TX2 b).2.1 := by decide +kernel
theorem tyX2_ok : ∀ k, k < 3 → parseFieldDescriptor (TX2 k).2.2.1 = some (tyX2 k) := by decide +kernel
abbrev cX2_init : ByteArray := prog_4_method_1_code
def yX2_init : MethodName := ⟨RX2, "<init>", "()V"⟩
def RX3 : String := "CowardsPot$Past"
def TX3 : u_T := fun k => match k with
  | 0 => ("CowardsPot$Past", "halls", "[LCowardsPot$Hall;", true)
  | 1 => ("CowardsPot$Past", "top", "I", false)
  | _ => ("CowardsPot$Past", "many", "I", false)
def tyX3 : Nat → FieldType := fun k => match k with
  | 0 => .array (.object "CowardsPot$Hall")
  | 1 => .int
  | _ => .int
abbrev wsX30 : List Cond := u_ws RX3 TX3 3
theorem nmX3 : ∀ a, a < 3 → ∀ b, b < 3 → a ≠ b → (TX3 a).2.1 ≠ (TX3 b).2.1 := by decide +kernel
theorem tyX3_ok : ∀ k, k < 3 → parseFieldDescriptor (TX3 k).2.2.1 = some (tyX3 k) := by decide +kernel
abbrev cX3_init : ByteArray := prog_5_method_1_code
def yX3_init : MethodName := ⟨RX3, "<init>", "()V"⟩
abbrev cX3_push : ByteArray := prog_5_method_2_code
def yX3_push : MethodName := ⟨RX3, "push", "(LCowardsPot$Hall;)V"⟩
abbrev cX3_popInto : ByteArray := prog_5_method_3_code
def yX3_popInto : MethodName := ⟨RX3, "popInto", "(LCowardsPot$Hall;)V"⟩
def RX4 : String := "CowardsPot$Reader"
def TX4 : u_T := fun k => match k with
  | 0 => ("CowardsPot$Reader", "draft", "LCowardsPot$Hall;", true)
  | 1 => ("CowardsPot$Reader", "clauses", "I", false)
  | 2 => ("CowardsPot$Reader", "begin", "I", false)
  | 3 => ("CowardsPot$Reader", "behind", "I", false)
  | _ => ("CowardsPot$Reader", "value", "I", false)
def tyX4 : Nat → FieldType := fun k => match k with
  | 0 => .object "CowardsPot$Hall"
  | 1 => .int
  | 2 => .int
  | 3 => .int
  | _ => .int
abbrev wsX40 : List Cond := u_ws RX4 TX4 5
theorem nmX4 : ∀ a, a < 5 → ∀ b, b < 5 → a ≠ b → (TX4 a).2.1 ≠ (TX4 b).2.1 := by decide +kernel
theorem tyX4_ok : ∀ k, k < 5 → parseFieldDescriptor (TX4 k).2.2.1 = some (tyX4 k) := by decide +kernel
abbrev cX4_init : ByteArray := prog_6_method_1_code
def yX4_init : MethodName := ⟨RX4, "<init>", "()V"⟩
abbrev cX4_read : ByteArray := prog_6_method_2_code
def yX4_read : MethodName := ⟨RX4, "read", "(LCowardsPot$Text;LCowardsPot$Hall;)I"⟩
abbrev cX4_goOn : ByteArray := prog_6_method_3_code
def yX4_goOn : MethodName := ⟨RX4, "goOn", "(LCowardsPot$Text;)V"⟩
abbrev cX4_isSmallLetter : ByteArray := prog_6_method_4_code
def yX4_isSmallLetter : MethodName := ⟨RX4, "isSmallLetter", "(I)Z"⟩
abbrev cX4_isDigit : ByteArray := prog_6_method_5_code
def yX4_isDigit : MethodName := ⟨RX4, "isDigit", "(I)Z"⟩
abbrev cX4_isClauseRead : ByteArray := prog_6_method_6_code
def yX4_isClauseRead : MethodName := ⟨RX4, "isClauseRead", "(LCowardsPot$Text;)Z"⟩
abbrev cX4_wordNumber : ByteArray := prog_6_method_7_code
def yX4_wordNumber : MethodName := ⟨RX4, "wordNumber", "(LCowardsPot$Text;)I"⟩
abbrev cX4_isWord : ByteArray := prog_6_method_8_code
def yX4_isWord : MethodName := ⟨RX4, "isWord", "(LCowardsPot$Text;Ljava/lang/String;)Z"⟩
abbrev cX4_hasRoomFor : ByteArray := prog_6_method_9_code
def yX4_hasRoomFor : MethodName := ⟨RX4, "hasRoomFor", "(I)Z"⟩
abbrev cX4_isNumberRead : ByteArray := prog_6_method_10_code
def yX4_isNumberRead : MethodName := ⟨RX4, "isNumberRead", "(LCowardsPot$Text;II)Z"⟩
abbrev cX4_tell : ByteArray := prog_6_method_11_code
def yX4_tell : MethodName := ⟨RX4, "tell", "(III)V"⟩
def RX5 : String := "CowardsPot$Sightings"
def TX5 : u_T := fun k => match k with
  | 0 => ("CowardsPot$Sightings", "scores", "[I", true)
  | 1 => ("CowardsPot$Sightings", "jointsHad", "[I", true)
  | 2 => ("CowardsPot$Sightings", "many", "I", false)
  | 3 => ("CowardsPot$Sightings", "scalesFound", "I", false)
  | 4 => ("CowardsPot$Sightings", "leastBase", "I", false)
  | 5 => ("CowardsPot$Sightings", "leastStep", "I", false)
  | 6 => ("CowardsPot$Sightings", "bounds", "[[I", true)
  | _ => ("CowardsPot$Sightings", "reached", "[I", true)
def tyX5 : Nat → FieldType := fun k => match k with
  | 0 => .array .int
  | 1 => .array .int
  | 2 => .int
  | 3 => .int
  | 4 => .int
  | 5 => .int
  | 6 => .array (.array .int)
  | _ => .array .int
abbrev wsX50 : List Cond := u_ws RX5 TX5 8
theorem nmX5 : ∀ a, a < 8 → ∀ b, b < 8 → a ≠ b → (TX5 a).2.1 ≠ (TX5 b).2.1 := by decide +kernel
theorem tyX5_ok : ∀ k, k < 8 → parseFieldDescriptor (TX5 k).2.2.1 = some (tyX5 k) := by decide +kernel
abbrev cX5_init : ByteArray := prog_7_method_1_code
def yX5_init : MethodName := ⟨RX5, "<init>", "()V"⟩
abbrev cX5_add : ByteArray := prog_7_method_2_code
def yX5_add : MethodName := ⟨RX5, "add", "(II)V"⟩
abbrev cX5_isSo : ByteArray := prog_7_method_3_code
def yX5_isSo : MethodName := ⟨RX5, "isSo", "(III)Z"⟩
abbrev cX5_findScales : ByteArray := prog_7_method_4_code
def yX5_findScales : MethodName := ⟨RX5, "findScales", "(I)V"⟩
abbrev cX5_clearScales : ByteArray := prog_7_method_5_code
def yX5_clearScales : MethodName := ⟨RX5, "clearScales", "()V"⟩
abbrev cX5_noteScale : ByteArray := prog_7_method_6_code
def yX5_noteScale : MethodName := ⟨RX5, "noteScale", "(III)V"⟩
abbrev cX5_mostTelling : ByteArray := prog_7_method_7_code
def yX5_mostTelling : MethodName := ⟨RX5, "mostTelling", "(I)I"⟩
abbrev cX5_mostAlike : ByteArray := prog_7_method_8_code
def yX5_mostAlike : MethodName := ⟨RX5, "mostAlike", "(II)I"⟩
def RX6 : String := "CowardsPot$Text"
def TX6 : u_T := fun k => match k with
  | 0 => ("CowardsPot$Text", "letters", "[I", true)
  | _ => ("CowardsPot$Text", "length", "I", false)
def tyX6 : Nat → FieldType := fun k => match k with
  | 0 => .array .int
  | _ => .int
abbrev wsX60 : List Cond := u_ws RX6 TX6 2
theorem nmX6 : ∀ a, a < 2 → ∀ b, b < 2 → a ≠ b → (TX6 a).2.1 ≠ (TX6 b).2.1 := by decide +kernel
theorem tyX6_ok : ∀ k, k < 2 → parseFieldDescriptor (TX6 k).2.2.1 = some (tyX6 k) := by decide +kernel
abbrev cX6_init : ByteArray := prog_8_method_1_code
def yX6_init : MethodName := ⟨RX6, "<init>", "()V"⟩
abbrev cX6_add : ByteArray := prog_8_method_2_code
def yX6_add : MethodName := ⟨RX6, "add", "(I)V"⟩
abbrev cX6_at : ByteArray := prog_8_method_3_code
def yX6_at : MethodName := ⟨RX6, "at", "(I)I"⟩
abbrev cX6_copyFrom : ByteArray := prog_8_method_4_code
def yX6_copyFrom : MethodName := ⟨RX6, "copyFrom", "(LCowardsPot$Text;)V"⟩
def RX7 : String := "CowardsPot"
def TX7 : u_T := fun k => match k with
  | 0 => ("CowardsPot", "text", "LCowardsPot$Text;", true)
  | 1 => ("CowardsPot", "now", "LCowardsPot$Hall;", true)
  | 2 => ("CowardsPot", "reader", "LCowardsPot$Reader;", true)
  | 3 => ("CowardsPot", "past", "LCowardsPot$Past;", true)
  | 4 => ("CowardsPot", "kept", "[LCowardsPot$Kept;", true)
  | 5 => ("CowardsPot", "sightings", "LCowardsPot$Sightings;", true)
  | _ => ("CowardsPot", "foretelling", "LCowardsPot$Foretelling;", true)
def tyX7 : Nat → FieldType := fun k => match k with
  | 0 => .object "CowardsPot$Text"
  | 1 => .object "CowardsPot$Hall"
  | 2 => .object "CowardsPot$Reader"
  | 3 => .object "CowardsPot$Past"
  | 4 => .array (.object "CowardsPot$Kept")
  | 5 => .object "CowardsPot$Sightings"
  | _ => .object "CowardsPot$Foretelling"
abbrev wsX70 : List Cond := u_ws RX7 TX7 7
theorem nmX7 : ∀ a, a < 7 → ∀ b, b < 7 → a ≠ b → (TX7 a).2.1 ≠ (TX7 b).2.1 := by decide +kernel
theorem tyX7_ok : ∀ k, k < 7 → parseFieldDescriptor (TX7 k).2.2.1 = some (tyX7 k) := by decide +kernel
abbrev cX7_init : ByteArray := prog_1_method_1_code
def yX7_init : MethodName := ⟨RX7, "<init>", "()V"⟩
abbrev cX7_write : ByteArray := prog_1_method_2_code
def yX7_write : MethodName := ⟨RX7, "write", "(I)I"⟩
abbrev cX7_erase : ByteArray := prog_1_method_3_code
def yX7_erase : MethodName := ⟨RX7, "erase", "()I"⟩
abbrev cX7_fault : ByteArray := prog_1_method_4_code
def yX7_fault : MethodName := ⟨RX7, "fault", "()I"⟩
abbrev cX7_hall : ByteArray := prog_1_method_5_code
def yX7_hall : MethodName := ⟨RX7, "hall", "()I"⟩
abbrev cX7_person : ByteArray := prog_1_method_6_code
def yX7_person : MethodName := ⟨RX7, "person", "(II)I"⟩
abbrev cX7_sort : ByteArray := prog_1_method_7_code
def yX7_sort : MethodName := ⟨RX7, "sort", "(II)I"⟩
abbrev cX7_as : ByteArray := prog_1_method_8_code
def yX7_as : MethodName := ⟨RX7, "as", "(II)I"⟩
abbrev cX7_deed : ByteArray := prog_1_method_9_code
def yX7_deed : MethodName := ⟨RX7, "deed", "(II)I"⟩
abbrev cX7_feast : ByteArray := prog_1_method_10_code
def yX7_feast : MethodName := ⟨RX7, "feast", "()I"⟩
abbrev cX7_year : ByteArray := prog_1_method_11_code
def yX7_year : MethodName := ⟨RX7, "year", "()I"⟩
abbrev cX7_scale : ByteArray := prog_1_method_12_code
def yX7_scale : MethodName := ⟨RX7, "scale", "(II)I"⟩
abbrev cX7_undo : ByteArray := prog_1_method_13_code
def yX7_undo : MethodName := ⟨RX7, "undo", "()I"⟩
abbrev cX7_keep : ByteArray := prog_1_method_14_code
def yX7_keep : MethodName := ⟨RX7, "keep", "(I)I"⟩
abbrev cX7_back : ByteArray := prog_1_method_15_code
def yX7_back : MethodName := ⟨RX7, "back", "(I)I"⟩
abbrev cX7_gets : ByteArray := prog_1_method_16_code
def yX7_gets : MethodName := ⟨RX7, "gets", "(I)I"⟩
abbrev cX7_need : ByteArray := prog_1_method_17_code
def yX7_need : MethodName := ⟨RX7, "need", "(II)I"⟩
abbrev cX7_deeds : ByteArray := prog_1_method_18_code
def yX7_deeds : MethodName := ⟨RX7, "deeds", "(III)I"⟩
abbrev cX7_seen : ByteArray := prog_1_method_19_code
def yX7_seen : MethodName := ⟨RX7, "seen", "(II)I"⟩
abbrev cX7_forget : ByteArray := prog_1_method_20_code
def yX7_forget : MethodName := ⟨RX7, "forget", "()I"⟩
abbrev cX7_scales : ByteArray := prog_1_method_21_code
def yX7_scales : MethodName := ⟨RX7, "scales", "(I)I"⟩
abbrev cX7_tells : ByteArray := prog_1_method_22_code
def yX7_tells : MethodName := ⟨RX7, "tells", "()I"⟩
abbrev cX7_chance : ByteArray := prog_1_method_23_code
def yX7_chance : MethodName := ⟨RX7, "chance", "(IIIII)I"⟩
abbrev cX7_count : ByteArray := prog_1_method_24_code
def yX7_count : MethodName := ⟨RX7, "count", "(I)I"⟩
abbrev cX7_isPerson : ByteArray := prog_1_method_25_code
def yX7_isPerson : MethodName := ⟨RX7, "isPerson", "(I)Z"⟩
abbrev cX7_isJoint : ByteArray := prog_1_method_26_code
def yX7_isJoint : MethodName := ⟨RX7, "isJoint", "(I)Z"⟩
abbrev cX7_isSort : ByteArray := prog_1_method_27_code
def yX7_isSort : MethodName := ⟨RX7, "isSort", "(I)Z"⟩
abbrev cX7_isKeptPlace : ByteArray := prog_1_method_28_code
def yX7_isKeptPlace : MethodName := ⟨RX7, "isKeptPlace", "(I)Z"⟩
abbrev cX7_isKindUnder : ByteArray := prog_1_method_29_code
def yX7_isKindUnder : MethodName := ⟨RX7, "isKindUnder", "(II)Z"⟩
abbrev cX7_jointFor : ByteArray := prog_1_method_30_code
def yX7_jointFor : MethodName := ⟨RX7, "jointFor", "(IIII)I"⟩
abbrev cX7_power : ByteArray := prog_1_method_31_code
def yX7_power : MethodName := ⟨RX7, "power", "(II)I"⟩
abbrev cX7_commonDivisor : ByteArray := prog_1_method_32_code
def yX7_commonDivisor : MethodName := ⟨RX7, "commonDivisor", "(II)I"⟩
def RX8 : String := "CowardsPotModel"
def TX8 : u_T := fun k => match k with
  | 0 => ("CowardsPotModel", "text", "[I", true)
  | 1 => ("CowardsPotModel", "typed", "I", false)
  | 2 => ("CowardsPotModel", "told", "[I", true)
  | 3 => ("CowardsPotModel", "draft", "[I", true)
  | 4 => ("CowardsPotModel", "s", "[I", true)
  | 5 => ("CowardsPotModel", "past", "[I", true)
  | 6 => ("CowardsPotModel", "known", "I", false)
  | 7 => ("CowardsPotModel", "images", "[I", true)
  | 8 => ("CowardsPotModel", "kept", "[Z", true)
  | 9 => ("CowardsPotModel", "notes", "[I", true)
  | 10 => ("CowardsPotModel", "noted", "I", false)
  | 11 => ("CowardsPotModel", "at", "I", false)
  | 12 => ("CowardsPotModel", "sort", "I", false)
  | 13 => ("CowardsPotModel", "start", "I", false)
  | 14 => ("CowardsPotModel", "value", "I", false)
  | 15 => ("CowardsPotModel", "joints", "[I", true)
  | 16 => ("CowardsPotModel", "tries", "[I", true)
  | 17 => ("CowardsPotModel", "best", "[I", true)
  | 18 => ("CowardsPotModel", "fits", "[I", true)
  | 19 => ("CowardsPotModel", "groups", "[I", true)
  | _ => ("CowardsPotModel", "aside", "[I", true)
def tyX8 : Nat → FieldType := fun k => match k with
  | 0 => .array .int
  | 1 => .int
  | 2 => .array .int
  | 3 => .array .int
  | 4 => .array .int
  | 5 => .array .int
  | 6 => .int
  | 7 => .array .int
  | 8 => .array .boolean
  | 9 => .array .int
  | 10 => .int
  | 11 => .int
  | 12 => .int
  | 13 => .int
  | 14 => .int
  | 15 => .array .int
  | 16 => .array .int
  | 17 => .array .int
  | 18 => .array .int
  | 19 => .array .int
  | _ => .array .int
abbrev wsX80 : List Cond := u_ws RX8 TX8 21
theorem nmX8 : ∀ a, a < 21 → ∀ b, b < 21 → a ≠ b → (TX8 a).2.1 ≠ (TX8 b).2.1 := by decide +kernel
theorem tyX8_ok : ∀ k, k < 21 → parseFieldDescriptor (TX8 k).2.2.1 = some (tyX8 k) := by decide +kernel
abbrev cX8_init : ByteArray := prog_10_method_1_code
def yX8_init : MethodName := ⟨RX8, "<init>", "()V"⟩
abbrev cX8_in : ByteArray := prog_10_method_3_code
def yX8_in : MethodName := ⟨RX8, "in", "(III)Z"⟩
abbrev cX8_isPerson : ByteArray := prog_10_method_4_code
def yX8_isPerson : MethodName := ⟨RX8, "isPerson", "(I)Z"⟩
abbrev cX8_isSort : ByteArray := prog_10_method_5_code
def yX8_isSort : MethodName := ⟨RX8, "isSort", "(I)Z"⟩
abbrev cX8_isJoint : ByteArray := prog_10_method_6_code
def yX8_isJoint : MethodName := ⟨RX8, "isJoint", "(I)Z"⟩
abbrev cX8_write : ByteArray := prog_10_method_7_code
def yX8_write : MethodName := ⟨RX8, "write", "(I)I"⟩
abbrev cX8_erase : ByteArray := prog_10_method_8_code
def yX8_erase : MethodName := ⟨RX8, "erase", "()I"⟩
abbrev cX8_letterAt : ByteArray := prog_10_method_9_code
def yX8_letterAt : MethodName := ⟨RX8, "letterAt", "(I)I"⟩
abbrev cX8_isLetter : ByteArray := prog_10_method_10_code
def yX8_isLetter : MethodName := ⟨RX8, "isLetter", "(I)Z"⟩
abbrev cX8_isDigit : ByteArray := prog_10_method_11_code
def yX8_isDigit : MethodName := ⟨RX8, "isDigit", "(I)Z"⟩
abbrev cX8_token : ByteArray := prog_10_method_12_code
def yX8_token : MethodName := ⟨RX8, "token", "()V"⟩
abbrev cX8_isWord : ByteArray := prog_10_method_13_code
def yX8_isWord : MethodName := ⟨RX8, "isWord", "(IIIIIII)Z"⟩
abbrev cX8_number : ByteArray := prog_10_method_14_code
def yX8_number : MethodName := ⟨RX8, "number", "(III)Z"⟩
abbrev cX8_forgets : ByteArray := prog_10_method_15_code
def yX8_forgets : MethodName := ⟨RX8, "forgets", "(I)V"⟩
abbrev cX8_readsHall : ByteArray := prog_10_method_16_code
def yX8_readsHall : MethodName := ⟨RX8, "readsHall", "()Z"⟩
abbrev cX8_readsPerson : ByteArray := prog_10_method_17_code
def yX8_readsPerson : MethodName := ⟨RX8, "readsPerson", "(I)Z"⟩
abbrev cX8_readsSort : ByteArray := prog_10_method_18_code
def yX8_readsSort : MethodName := ⟨RX8, "readsSort", "()Z"⟩
abbrev cX8_readsClause : ByteArray := prog_10_method_19_code
def yX8_readsClause : MethodName := ⟨RX8, "readsClause", "()Z"⟩
abbrev cX8_reads : ByteArray := prog_10_method_20_code
def yX8_reads : MethodName := ⟨RX8, "reads", "()I"⟩
abbrev cX8_lays : ByteArray := prog_10_method_21_code
def yX8_lays : MethodName := ⟨RX8, "lays", "()V"⟩
abbrev cX8_fault : ByteArray := prog_10_method_22_code
def yX8_fault : MethodName := ⟨RX8, "fault", "()I"⟩
abbrev cX8_hall : ByteArray := prog_10_method_23_code
def yX8_hall : MethodName := ⟨RX8, "hall", "()I"⟩
abbrev cX8_scoreOf : ByteArray := prog_10_method_24_code
def yX8_scoreOf : MethodName := ⟨RX8, "scoreOf", "(I)I"⟩
abbrev cX8_isAfraid : ByteArray := prog_10_method_25_code
def yX8_isAfraid : MethodName := ⟨RX8, "isAfraid", "(I)Z"⟩
abbrev cX8_person : ByteArray := prog_10_method_26_code
def yX8_person : MethodName := ⟨RX8, "person", "(II)I"⟩
abbrev cX8_sort : ByteArray := prog_10_method_27_code
def yX8_sort : MethodName := ⟨RX8, "sort", "(II)I"⟩
abbrev cX8_fameBehind : ByteArray := prog_10_method_28_code
def yX8_fameBehind : MethodName := ⟨RX8, "fameBehind", "(I)I"⟩
abbrev cX8_as : ByteArray := prog_10_method_29_code
def yX8_as : MethodName := ⟨RX8, "as", "(II)I"⟩
abbrev cX8_keeps : ByteArray := prog_10_method_30_code
def yX8_keeps : MethodName := ⟨RX8, "keeps", "()V"⟩
abbrev cX8_bound : ByteArray := prog_10_method_31_code
def yX8_bound : MethodName := ⟨RX8, "bound", "(I)I"⟩
abbrev cX8_does : ByteArray := prog_10_method_32_code
def yX8_does : MethodName := ⟨RX8, "does", "(II)V"⟩
abbrev cX8_deed : ByteArray := prog_10_method_33_code
def yX8_deed : MethodName := ⟨RX8, "deed", "(II)I"⟩
abbrev cX8_jointFor : ByteArray := prog_10_method_34_code
def yX8_jointFor : MethodName := ⟨RX8, "jointFor", "(IIIIZ)I"⟩
abbrev cX8_feasts : ByteArray := prog_10_method_35_code
def yX8_feasts : MethodName := ⟨RX8, "feasts", "()V"⟩
abbrev cX8_feast : ByteArray := prog_10_method_36_code
def yX8_feast : MethodName := ⟨RX8, "feast", "()I"⟩
abbrev cX8_year : ByteArray := prog_10_method_37_code
def yX8_year : MethodName := ⟨RX8, "year", "()I"⟩
abbrev cX8_scale : ByteArray := prog_10_method_38_code
def yX8_scale : MethodName := ⟨RX8, "scale", "(II)I"⟩
abbrev cX8_undo : ByteArray := prog_10_method_39_code
def yX8_undo : MethodName := ⟨RX8, "undo", "()I"⟩
abbrev cX8_keep : ByteArray := prog_10_method_40_code
def yX8_keep : MethodName := ⟨RX8, "keep", "(I)I"⟩
abbrev cX8_back : ByteArray := prog_10_method_41_code
def yX8_back : MethodName := ⟨RX8, "back", "(I)I"⟩
abbrev cX8_getsNow : ByteArray := prog_10_method_42_code
def yX8_getsNow : MethodName := ⟨RX8, "getsNow", "(I)I"⟩
abbrev cX8_gets : ByteArray := prog_10_method_43_code
def yX8_gets : MethodName := ⟨RX8, "gets", "(I)I"⟩
abbrev cX8_need : ByteArray := prog_10_method_44_code
def yX8_need : MethodName := ⟨RX8, "need", "(II)I"⟩
abbrev cX8_bring : ByteArray := prog_10_method_45_code
def yX8_bring : MethodName := ⟨RX8, "bring", "(III)Z"⟩
abbrev cX8_deeds : ByteArray := prog_10_method_46_code
def yX8_deeds : MethodName := ⟨RX8, "deeds", "(III)I"⟩
abbrev cX8_seen : ByteArray := prog_10_method_47_code
def yX8_seen : MethodName := ⟨RX8, "seen", "(II)I"⟩
abbrev cX8_forget : ByteArray := prog_10_method_48_code
def yX8_forget : MethodName := ⟨RX8, "forget", "()I"⟩
abbrev cX8_jointBy : ByteArray := prog_10_method_49_code
def yX8_jointBy : MethodName := ⟨RX8, "jointBy", "(III)I"⟩
abbrev cX8_isSo : ByteArray := prog_10_method_50_code
def yX8_isSo : MethodName := ⟨RX8, "isSo", "(II)Z"⟩
abbrev cX8_scales : ByteArray := prog_10_method_51_code
def yX8_scales : MethodName := ⟨RX8, "scales", "(I)I"⟩
abbrev cX8_tells : ByteArray := prog_10_method_52_code
def yX8_tells : MethodName := ⟨RX8, "tells", "()I"⟩
abbrev cX8_chance : ByteArray := prog_10_method_53_code
def yX8_chance : MethodName := ⟨RX8, "chance", "(IIIII)I"⟩
abbrev cX8_keepsAside : ByteArray := prog_10_method_54_code
def yX8_keepsAside : MethodName := ⟨RX8, "keepsAside", "()V"⟩
abbrev cX8_bringsBack : ByteArray := prog_10_method_55_code
def yX8_bringsBack : MethodName := ⟨RX8, "bringsBack", "()V"⟩
abbrev cX8_count : ByteArray := prog_10_method_56_code
def yX8_count : MethodName := ⟨RX8, "count", "(I)I"⟩
def RJ6 : String := "java/lang/Integer"
def TJ6 : u_T := fun k => match k with
  | _ => ("", "", "", false)
def tyJ6 : Nat → FieldType := fun k => match k with
  | _ => .int
abbrev wsJ60 : List Cond := u_ws RJ6 TJ6 0
theorem nmJ6 : ∀ a, a < 0 → ∀ b, b < 0 → a ≠ b → (TJ6 a).2.1 ≠ (TJ6 b).2.1 := by decide +kernel
theorem tyJ6_ok : ∀ k, k < 0 → parseFieldDescriptor (TJ6 k).2.2.1 = some (tyJ6 k) := by decide +kernel
abbrev cJ6_bitCount_0f7a4 : ByteArray := prog_11_method_49_code
def yJ6_bitCount_0f7a4 : MethodName := ⟨RJ6, "bitCount", "(I)I"⟩
def RJ9 : String := "java/lang/Math"
def TJ9 : u_T := fun k => match k with
  | _ => ("", "", "", false)
def tyJ9 : Nat → FieldType := fun k => match k with
  | _ => .int
abbrev wsJ90 : List Cond := u_ws RJ9 TJ9 0
theorem nmJ9 : ∀ a, a < 0 → ∀ b, b < 0 → a ≠ b → (TJ9 a).2.1 ≠ (TJ9 b).2.1 := by decide +kernel
theorem tyJ9_ok : ∀ k, k < 0 → parseFieldDescriptor (TJ9 k).2.2.1 = some (tyJ9 k) := by decide +kernel
abbrev cJ9_max_7cf53 : ByteArray := prog_12_method_65_code
def yJ9_max_7cf53 : MethodName := ⟨RJ9, "max", "(II)I"⟩
abbrev cJ9_min_7cf53 : ByteArray := prog_12_method_69_code
def yJ9_min_7cf53 : MethodName := ⟨RJ9, "min", "(II)I"⟩
def RJ0 : String := "java/lang/String"
def TJ0 : u_T := fun k => match k with
  | _ => ("", "", "", false)
def tyJ0 : Nat → FieldType := fun k => match k with
  | _ => .int
abbrev wsJ00 : List Cond := u_ws RJ0 TJ0 0
theorem nmJ0 : ∀ a, a < 0 → ∀ b, b < 0 → a ≠ b → (TJ0 a).2.1 ≠ (TJ0 b).2.1 := by decide +kernel
theorem tyJ0_ok : ∀ k, k < 0 → parseFieldDescriptor (TJ0 k).2.2.1 = some (tyJ0 k) := by decide +kernel
abbrev cJ0_length_8abf5 : ByteArray := prog_13_method_54_code
def yJ0_length_8abf5 : MethodName := ⟨RJ0, "length", "()I"⟩
abbrev cJ0_charAt_5068e : ByteArray := prog_13_method_56_code
def yJ0_charAt_5068e : MethodName := ⟨RJ0, "charAt", "(I)C"⟩
abbrev cJ0_coder_7d493 : ByteArray := prog_13_method_152_code
def yJ0_coder_7d493 : MethodName := ⟨RJ0, "coder", "()B"⟩
abbrev cJ0_isLatin1_aae02 : ByteArray := prog_13_method_154_code
def yJ0_isLatin1_aae02 : MethodName := ⟨RJ0, "isLatin1", "()Z"⟩
abbrev cJ0_checkIndex_df160 : ByteArray := prog_13_method_155_code
def yJ0_checkIndex_df160 : MethodName := ⟨RJ0, "checkIndex", "(II)V"⟩
def RJ1 : String := "java/lang/StringLatin1"
def TJ1 : u_T := fun k => match k with
  | _ => ("", "", "", false)
def tyJ1 : Nat → FieldType := fun k => match k with
  | _ => .int
abbrev wsJ10 : List Cond := u_ws RJ1 TJ1 0
theorem nmJ1 : ∀ a, a < 0 → ∀ b, b < 0 → a ≠ b → (TJ1 a).2.1 ≠ (TJ1 b).2.1 := by decide +kernel
theorem tyJ1_ok : ∀ k, k < 0 → parseFieldDescriptor (TJ1 k).2.2.1 = some (tyJ1 k) := by decide +kernel
abbrev cJ1_charAt_3b067 : ByteArray := prog_14_method_2_code
def yJ1_charAt_3b067 : MethodName := ⟨RJ1, "charAt", "([BI)C"⟩
def RJ2 : String := "java/lang/StringUTF16"
def TJ2 : u_T := fun k => match k with
  | _ => ("", "", "", false)
def tyJ2 : Nat → FieldType := fun k => match k with
  | _ => .int
abbrev wsJ20 : List Cond := u_ws RJ2 TJ2 0
theorem nmJ2 : ∀ a, a < 0 → ∀ b, b < 0 → a ≠ b → (TJ2 a).2.1 ≠ (TJ2 b).2.1 := by decide +kernel
theorem tyJ2_ok : ∀ k, k < 0 → parseFieldDescriptor (TJ2 k).2.2.1 = some (tyJ2 k) := by decide +kernel
abbrev cJ2_getChar_3b067 : ByteArray := prog_15_method_5_code
def yJ2_getChar_3b067 : MethodName := ⟨RJ2, "getChar", "([BI)C"⟩
abbrev cJ2_length_9d52b : ByteArray := prog_15_method_6_code
def yJ2_length_9d52b : MethodName := ⟨RJ2, "length", "([B)I"⟩
abbrev cJ2_charAt_3b067 : ByteArray := prog_15_method_83_code
def yJ2_charAt_3b067 : MethodName := ⟨RJ2, "charAt", "([BI)C"⟩
abbrev cJ2_checkIndex_2214a : ByteArray := prog_15_method_91_code
def yJ2_checkIndex_2214a : MethodName := ⟨RJ2, "checkIndex", "(I[B)V"⟩
def RJ10 : String := "java/lang/System"
def TJ10 : u_T := fun k => match k with
  | _ => ("", "", "", false)
def tyJ10 : Nat → FieldType := fun k => match k with
  | _ => .int
abbrev wsJ100 : List Cond := u_ws RJ10 TJ10 0
theorem nmJ10 : ∀ a, a < 0 → ∀ b, b < 0 → a ≠ b → (TJ10 a).2.1 ≠ (TJ10 b).2.1 := by decide +kernel
theorem tyJ10_ok : ∀ k, k < 0 → parseFieldDescriptor (TJ10 k).2.2.1 = some (tyJ10 k) := by decide +kernel
def RJ3 : String := "jdk/internal/util/Preconditions"
def TJ3 : u_T := fun k => match k with
  | _ => ("", "", "", false)
def tyJ3 : Nat → FieldType := fun k => match k with
  | _ => .int
abbrev wsJ30 : List Cond := u_ws RJ3 TJ3 0
theorem nmJ3 : ∀ a, a < 0 → ∀ b, b < 0 → a ≠ b → (TJ3 a).2.1 ≠ (TJ3 b).2.1 := by decide +kernel
theorem tyJ3_ok : ∀ k, k < 0 → parseFieldDescriptor (TJ3 k).2.2.1 = some (tyJ3 k) := by decide +kernel
abbrev cJ3_checkIndex_8e157 : ByteArray := prog_17_method_11_code
def yJ3_checkIndex_8e157 : MethodName := ⟨RJ3, "checkIndex", "(IILjava/util/function/BiFunction;)I"⟩
def RL : String := "CowardsPotLaw"
abbrev cL_law : ByteArray := code
def yL_law : MethodName := ⟨RL, "law", "([I)Z"⟩
def wsX1_init : List Cond := .code yX1_init cX1_init 1 none :: ([.methodLink RX1 3 objectInit, .instanceMethod objectInit, .code objectInit ⟨#[0xb1]⟩ 1 none, .fieldLink RX1 9 "CowardsPot$Hall" "joints" "I", .fieldLink RX1 15 "CowardsPot$Hall" "base" "I", .fieldLink RX1 18 "CowardsPot$Hall" "step" "I", .fieldLink RX1 21 "CowardsPot$Hall" "yearNumber" "I", .fieldLink RX1 24 "CowardsPot$Hall" "people" "I", .fieldLink RX1 27 "CowardsPot$Hall" "sorts" "I", .arrayClass .int, .fieldLink RX1 30 "CowardsPot$Hall" "kind" "[I", .fieldLink RX1 34 "CowardsPot$Hall" "toldFame" "[I", .fieldLink RX1 37 "CowardsPot$Hall" "fame" "[I", .fieldLink RX1 40 "CowardsPot$Hall" "gain" "[I", .fieldLink RX1 43 "CowardsPot$Hall" "fear" "[I", .fieldLink RX1 46 "CowardsPot$Hall" "latest" "[I", .fieldLink RX1 49 "CowardsPot$Hall" "had" "[I", .fieldLink RX1 52 "CowardsPot$Hall" "sortGain" "[I", .fieldLink RX1 55 "CowardsPot$Hall" "sortFear" "[I", .fieldLink RX1 58 "CowardsPot$Hall" "scores" "[I"] ++ wsX10)
def wsX0_init_r1 : List Cond := [Cond.methodLink RX0 3 objectInit, Cond.instanceMethod objectInit, Cond.code objectInit ⟨#[0xb1]⟩ 1 none, Cond.classLink RX0 9 RX1, Cond.instantiable RX1 16, Cond.initialized RX1, Cond.fieldLink RX0 12 "CowardsPot$Foretelling" "trial" "LCowardsPot$Hall;", Cond.arrayClass .int, Cond.fieldLink RX0 18 "CowardsPot$Foretelling" "served" "[I", Cond.fieldLink RX0 22 "CowardsPot$Foretelling" "tried" "[I", Cond.fieldLink RX0 25 "CowardsPot$Foretelling" "chosen" "[I", Cond.fieldLink RX0 28 "CowardsPot$Foretelling" "chosenMany" "I", Cond.fieldLink RX0 32 "CowardsPot$Foretelling" "chosenFear" "I", Cond.instanceMethod yX1_init, Cond.code yX1_init cX1_init 1 none, Cond.methodLink RX1 3 objectInit, Cond.fieldLink RX1 9 "CowardsPot$Hall" "joints" "I", Cond.fieldLink RX1 15 "CowardsPot$Hall" "base" "I", Cond.fieldLink RX1 18 "CowardsPot$Hall" "step" "I", Cond.fieldLink RX1 21 "CowardsPot$Hall" "yearNumber" "I", Cond.fieldLink RX1 24 "CowardsPot$Hall" "people" "I", Cond.fieldLink RX1 27 "CowardsPot$Hall" "sorts" "I", Cond.fieldLink RX1 30 "CowardsPot$Hall" "kind" "[I", Cond.fieldLink RX1 34 "CowardsPot$Hall" "toldFame" "[I"]
def wsX0_init_r2 : List Cond := [Cond.fieldLink RX1 37 "CowardsPot$Hall" "fame" "[I", Cond.fieldLink RX1 40 "CowardsPot$Hall" "gain" "[I", Cond.fieldLink RX1 43 "CowardsPot$Hall" "fear" "[I", Cond.fieldLink RX1 46 "CowardsPot$Hall" "latest" "[I", Cond.fieldLink RX1 49 "CowardsPot$Hall" "had" "[I", Cond.fieldLink RX1 52 "CowardsPot$Hall" "sortGain" "[I", Cond.fieldLink RX1 55 "CowardsPot$Hall" "sortFear" "[I", Cond.fieldLink RX1 58 "CowardsPot$Hall" "scores" "[I"]
def wsX0_init : List Cond := .code yX0_init cX0_init 1 none :: ((wsX0_init_r1 ++ wsX0_init_r2) ++ wsX10 ++ wsX00)
def wsX1_scoreOf : List Cond := .code yX1_scoreOf cX1_scoreOf 3 (some .int) :: ([.fieldLink RX1 30 "CowardsPot$Hall" "kind" "[I", .fieldLink RX1 40 "CowardsPot$Hall" "gain" "[I", .fieldLink RX1 37 "CowardsPot$Hall" "fame" "[I"] ++ wsX10)
def wsX1_nextOf : List Cond := .code yX1_nextOf cX1_nextOf 5 (some .int) :: ([.fieldLink RX1 24 "CowardsPot$Hall" "people" "I", .fieldLink RX1 58 "CowardsPot$Hall" "scores" "[I"] ++ wsX10)
def wsX1_lastOf : List Cond := .code yX1_lastOf cX1_lastOf 3 (some .int) :: ([.fieldLink RX1 9 "CowardsPot$Hall" "joints" "I"] ++ wsX10)
def wsX1_firstFor : List Cond := .code yX1_firstFor cX1_firstFor 4 (some .int) :: ([.fieldLink RX1 9 "CowardsPot$Hall" "joints" "I", .fieldLink RX1 15 "CowardsPot$Hall" "base" "I", .fieldLink RX1 18 "CowardsPot$Hall" "step" "I"] ++ wsX10)
def wsX1_serveInto_r1 : List Cond := [Cond.fieldLink RX1 24 "CowardsPot$Hall" "people" "I", Cond.fieldLink RX1 58 "CowardsPot$Hall" "scores" "[I", Cond.fieldLink RX1 43 "CowardsPot$Hall" "fear" "[I", Cond.fieldLink RX1 9 "CowardsPot$Hall" "joints" "I", Cond.fieldLink RX1 30 "CowardsPot$Hall" "kind" "[I", Cond.methodLink RX1 61 yX1_scoreOf, Cond.instanceMethod yX1_scoreOf, Cond.selects RX1 yX1_scoreOf yX1_scoreOf, Cond.initialized RX1, Cond.code yX1_scoreOf cX1_scoreOf 3 (some .int), Cond.fieldLink RX1 40 "CowardsPot$Hall" "gain" "[I", Cond.fieldLink RX1 37 "CowardsPot$Hall" "fame" "[I", Cond.methodLink RX1 86 yX1_nextOf, Cond.instanceMethod yX1_nextOf, Cond.selects RX1 yX1_nextOf yX1_nextOf, Cond.code yX1_nextOf cX1_nextOf 5 (some .int), Cond.methodLink RX1 89 yX1_lastOf, Cond.instanceMethod yX1_lastOf, Cond.selects RX1 yX1_lastOf yX1_lastOf, Cond.code yX1_lastOf cX1_lastOf 3 (some .int), Cond.methodLink RX1 92 yX1_firstFor, Cond.instanceMethod yX1_firstFor, Cond.selects RX1 yX1_firstFor yX1_firstFor, Cond.code yX1_firstFor cX1_firstFor 4 (some .int)]
def wsX1_serveInto_r2 : List Cond := [Cond.fieldLink RX1 15 "CowardsPot$Hall" "base" "I", Cond.fieldLink RX1 18 "CowardsPot$Hall" "step" "I"]
def wsX1_serveInto : List Cond := .code yX1_serveInto cX1_serveInto 7 none :: ((wsX1_serveInto_r1 ++ wsX1_serveInto_r2) ++ wsX10)
def wsX0_jointOf_r1 : List Cond := [Cond.fieldLink RX0 18 "CowardsPot$Foretelling" "served" "[I", Cond.methodLink RX0 35 yX1_serveInto, Cond.instanceMethod yX1_serveInto, Cond.selects RX1 yX1_serveInto yX1_serveInto, Cond.initialized RX1, Cond.code yX1_serveInto cX1_serveInto 7 none, Cond.fieldLink RX1 24 "CowardsPot$Hall" "people" "I", Cond.fieldLink RX1 58 "CowardsPot$Hall" "scores" "[I", Cond.fieldLink RX1 43 "CowardsPot$Hall" "fear" "[I", Cond.fieldLink RX1 9 "CowardsPot$Hall" "joints" "I", Cond.fieldLink RX1 30 "CowardsPot$Hall" "kind" "[I", Cond.methodLink RX1 61 yX1_scoreOf, Cond.instanceMethod yX1_scoreOf, Cond.selects RX1 yX1_scoreOf yX1_scoreOf, Cond.code yX1_scoreOf cX1_scoreOf 3 (some .int), Cond.fieldLink RX1 40 "CowardsPot$Hall" "gain" "[I", Cond.fieldLink RX1 37 "CowardsPot$Hall" "fame" "[I", Cond.methodLink RX1 86 yX1_nextOf, Cond.instanceMethod yX1_nextOf, Cond.selects RX1 yX1_nextOf yX1_nextOf, Cond.code yX1_nextOf cX1_nextOf 5 (some .int), Cond.methodLink RX1 89 yX1_lastOf, Cond.instanceMethod yX1_lastOf, Cond.selects RX1 yX1_lastOf yX1_lastOf]
def wsX0_jointOf_r2 : List Cond := [Cond.code yX1_lastOf cX1_lastOf 3 (some .int), Cond.methodLink RX1 92 yX1_firstFor, Cond.instanceMethod yX1_firstFor, Cond.selects RX1 yX1_firstFor yX1_firstFor, Cond.code yX1_firstFor cX1_firstFor 4 (some .int), Cond.fieldLink RX1 15 "CowardsPot$Hall" "base" "I", Cond.fieldLink RX1 18 "CowardsPot$Hall" "step" "I"]
def wsX0_jointOf : List Cond := .code yX0_jointOf cX0_jointOf 3 (some .int) :: ((wsX0_jointOf_r1 ++ wsX0_jointOf_r2) ++ wsX00 ++ wsX10)
def wsX1_copyFrom : List Cond := .code yX1_copyFrom cX1_copyFrom 3 none :: ([.fieldLink RX1 9 "CowardsPot$Hall" "joints" "I", .fieldLink RX1 15 "CowardsPot$Hall" "base" "I", .fieldLink RX1 18 "CowardsPot$Hall" "step" "I", .fieldLink RX1 21 "CowardsPot$Hall" "yearNumber" "I", .fieldLink RX1 24 "CowardsPot$Hall" "people" "I", .fieldLink RX1 27 "CowardsPot$Hall" "sorts" "I", .fieldLink RX1 30 "CowardsPot$Hall" "kind" "[I", .fieldLink RX1 34 "CowardsPot$Hall" "toldFame" "[I", .fieldLink RX1 37 "CowardsPot$Hall" "fame" "[I", .fieldLink RX1 40 "CowardsPot$Hall" "gain" "[I", .fieldLink RX1 43 "CowardsPot$Hall" "fear" "[I", .fieldLink RX1 46 "CowardsPot$Hall" "latest" "[I", .fieldLink RX1 49 "CowardsPot$Hall" "had" "[I", .fieldLink RX1 52 "CowardsPot$Hall" "sortGain" "[I", .fieldLink RX1 55 "CowardsPot$Hall" "sortFear" "[I"] ++ wsX10)
def wsX1_addTo : List Cond := .code yX1_addTo cX1_addTo 4 none :: ([.fieldLink RX1 40 "CowardsPot$Hall" "gain" "[I", .methodLink RX1 69 Lib.Math.min.name, .static Lib.Math.min.name, .initialized "java/lang/Math", .code Lib.Math.min.name Lib.Math.min.code 2 (some .int), .fieldLink RX1 43 "CowardsPot$Hall" "fear" "[I"] ++ wsX10)
def wsX0_leastGain_r1 : List Cond := [Cond.fieldLink RX0 12 "CowardsPot$Foretelling" "trial" "LCowardsPot$Hall;", Cond.methodLink RX0 39 yX1_copyFrom, Cond.instanceMethod yX1_copyFrom, Cond.selects RX1 yX1_copyFrom yX1_copyFrom, Cond.initialized RX1, Cond.code yX1_copyFrom cX1_copyFrom 3 none, Cond.fieldLink RX1 9 "CowardsPot$Hall" "joints" "I", Cond.fieldLink RX1 15 "CowardsPot$Hall" "base" "I", Cond.fieldLink RX1 18 "CowardsPot$Hall" "step" "I", Cond.fieldLink RX1 21 "CowardsPot$Hall" "yearNumber" "I", Cond.fieldLink RX1 24 "CowardsPot$Hall" "people" "I", Cond.fieldLink RX1 27 "CowardsPot$Hall" "sorts" "I", Cond.fieldLink RX1 30 "CowardsPot$Hall" "kind" "[I", Cond.fieldLink RX1 34 "CowardsPot$Hall" "toldFame" "[I", Cond.fieldLink RX1 37 "CowardsPot$Hall" "fame" "[I", Cond.fieldLink RX1 40 "CowardsPot$Hall" "gain" "[I", Cond.fieldLink RX1 43 "CowardsPot$Hall" "fear" "[I", Cond.fieldLink RX1 46 "CowardsPot$Hall" "latest" "[I", Cond.fieldLink RX1 49 "CowardsPot$Hall" "had" "[I", Cond.fieldLink RX1 52 "CowardsPot$Hall" "sortGain" "[I", Cond.fieldLink RX1 55 "CowardsPot$Hall" "sortFear" "[I", Cond.methodLink RX0 43 yX1_addTo, Cond.instanceMethod yX1_addTo, Cond.selects RX1 yX1_addTo yX1_addTo]
def wsX0_leastGain_r2 : List Cond := [Cond.code yX1_addTo cX1_addTo 4 none, Cond.methodLink RX1 69 Lib.Math.min.name, Cond.static Lib.Math.min.name, Cond.initialized "java/lang/Math", Cond.code Lib.Math.min.name Lib.Math.min.code 2 (some .int), Cond.methodLink RX0 47 yX0_jointOf, Cond.instanceMethod yX0_jointOf, Cond.selects RX0 yX0_jointOf yX0_jointOf, Cond.initialized RX0, Cond.code yX0_jointOf cX0_jointOf 3 (some .int), Cond.fieldLink RX0 18 "CowardsPot$Foretelling" "served" "[I", Cond.methodLink RX0 35 yX1_serveInto, Cond.instanceMethod yX1_serveInto, Cond.selects RX1 yX1_serveInto yX1_serveInto, Cond.code yX1_serveInto cX1_serveInto 7 none, Cond.fieldLink RX1 58 "CowardsPot$Hall" "scores" "[I", Cond.methodLink RX1 61 yX1_scoreOf, Cond.instanceMethod yX1_scoreOf, Cond.selects RX1 yX1_scoreOf yX1_scoreOf, Cond.code yX1_scoreOf cX1_scoreOf 3 (some .int), Cond.methodLink RX1 86 yX1_nextOf, Cond.instanceMethod yX1_nextOf, Cond.selects RX1 yX1_nextOf yX1_nextOf, Cond.code yX1_nextOf cX1_nextOf 5 (some .int)]
def wsX0_leastGain_r3 : List Cond := [Cond.methodLink RX1 89 yX1_lastOf, Cond.instanceMethod yX1_lastOf, Cond.selects RX1 yX1_lastOf yX1_lastOf, Cond.code yX1_lastOf cX1_lastOf 3 (some .int), Cond.methodLink RX1 92 yX1_firstFor, Cond.instanceMethod yX1_firstFor, Cond.selects RX1 yX1_firstFor yX1_firstFor, Cond.code yX1_firstFor cX1_firstFor 4 (some .int)]
def wsX0_leastGain : List Cond := .code yX0_leastGain cX0_leastGain 6 (some .int) :: ((wsX0_leastGain_r1 ++ (wsX0_leastGain_r2 ++ wsX0_leastGain_r3)) ++ wsX00 ++ wsX10)
def wsX1_addDeed : List Cond := .code yX1_addDeed cX1_addDeed 3 none :: ([.fieldLink RX1 52 "CowardsPot$Hall" "sortGain" "[I", .fieldLink RX1 55 "CowardsPot$Hall" "sortFear" "[I", .methodLink RX1 75 yX1_addTo, .instanceMethod yX1_addTo, .selects RX1 yX1_addTo yX1_addTo, .initialized RX1, .code yX1_addTo cX1_addTo 4 none, .fieldLink RX1 40 "CowardsPot$Hall" "gain" "[I", .methodLink RX1 69 Lib.Math.min.name, .static Lib.Math.min.name, .initialized "java/lang/Math", .code Lib.Math.min.name Lib.Math.min.code 2 (some .int), .fieldLink RX1 43 "CowardsPot$Hall" "fear" "[I"] ++ wsX10)
def wsX0_weigh_r1 : List Cond := [Cond.fieldLink RX0 12 "CowardsPot$Foretelling" "trial" "LCowardsPot$Hall;", Cond.fieldLink RX0 58 "CowardsPot$Hall" "sortFear" "[I", Cond.fieldLink RX0 22 "CowardsPot$Foretelling" "tried" "[I", Cond.fieldLink RX0 28 "CowardsPot$Foretelling" "chosenMany" "I", Cond.fieldLink RX0 32 "CowardsPot$Foretelling" "chosenFear" "I", Cond.fieldLink RX0 25 "CowardsPot$Foretelling" "chosen" "[I", Cond.methodLink RX0 39 yX1_copyFrom, Cond.instanceMethod yX1_copyFrom, Cond.selects RX1 yX1_copyFrom yX1_copyFrom, Cond.initialized RX1, Cond.code yX1_copyFrom cX1_copyFrom 3 none, Cond.fieldLink RX1 9 "CowardsPot$Hall" "joints" "I", Cond.fieldLink RX1 15 "CowardsPot$Hall" "base" "I", Cond.fieldLink RX1 18 "CowardsPot$Hall" "step" "I", Cond.fieldLink RX1 21 "CowardsPot$Hall" "yearNumber" "I", Cond.fieldLink RX1 24 "CowardsPot$Hall" "people" "I", Cond.fieldLink RX1 27 "CowardsPot$Hall" "sorts" "I", Cond.fieldLink RX1 30 "CowardsPot$Hall" "kind" "[I", Cond.fieldLink RX1 34 "CowardsPot$Hall" "toldFame" "[I", Cond.fieldLink RX1 37 "CowardsPot$Hall" "fame" "[I", Cond.fieldLink RX1 40 "CowardsPot$Hall" "gain" "[I", Cond.fieldLink RX1 43 "CowardsPot$Hall" "fear" "[I", Cond.fieldLink RX1 46 "CowardsPot$Hall" "latest" "[I", Cond.fieldLink RX1 49 "CowardsPot$Hall" "had" "[I"]
def wsX0_weigh_r2 : List Cond := [Cond.fieldLink RX1 52 "CowardsPot$Hall" "sortGain" "[I", Cond.fieldLink RX1 55 "CowardsPot$Hall" "sortFear" "[I", Cond.methodLink RX0 61 yX1_addDeed, Cond.instanceMethod yX1_addDeed, Cond.selects RX1 yX1_addDeed yX1_addDeed, Cond.code yX1_addDeed cX1_addDeed 3 none, Cond.methodLink RX1 75 yX1_addTo, Cond.instanceMethod yX1_addTo, Cond.selects RX1 yX1_addTo yX1_addTo, Cond.code yX1_addTo cX1_addTo 4 none, Cond.methodLink RX1 69 Lib.Math.min.name, Cond.static Lib.Math.min.name, Cond.initialized "java/lang/Math", Cond.code Lib.Math.min.name Lib.Math.min.code 2 (some .int), Cond.methodLink RX0 47 yX0_jointOf, Cond.instanceMethod yX0_jointOf, Cond.selects RX0 yX0_jointOf yX0_jointOf, Cond.initialized RX0, Cond.code yX0_jointOf cX0_jointOf 3 (some .int), Cond.fieldLink RX0 18 "CowardsPot$Foretelling" "served" "[I", Cond.methodLink RX0 35 yX1_serveInto, Cond.instanceMethod yX1_serveInto, Cond.selects RX1 yX1_serveInto yX1_serveInto, Cond.code yX1_serveInto cX1_serveInto 7 none]
def wsX0_weigh_r3 : List Cond := [Cond.fieldLink RX1 58 "CowardsPot$Hall" "scores" "[I", Cond.methodLink RX1 61 yX1_scoreOf, Cond.instanceMethod yX1_scoreOf, Cond.selects RX1 yX1_scoreOf yX1_scoreOf, Cond.code yX1_scoreOf cX1_scoreOf 3 (some .int), Cond.methodLink RX1 86 yX1_nextOf, Cond.instanceMethod yX1_nextOf, Cond.selects RX1 yX1_nextOf yX1_nextOf, Cond.code yX1_nextOf cX1_nextOf 5 (some .int), Cond.methodLink RX1 89 yX1_lastOf, Cond.instanceMethod yX1_lastOf, Cond.selects RX1 yX1_lastOf yX1_lastOf, Cond.code yX1_lastOf cX1_lastOf 3 (some .int), Cond.methodLink RX1 92 yX1_firstFor, Cond.instanceMethod yX1_firstFor, Cond.selects RX1 yX1_firstFor yX1_firstFor, Cond.code yX1_firstFor cX1_firstFor 4 (some .int)]
def wsX0_weigh : List Cond := .code yX0_weigh cX0_weigh 8 none :: ((wsX0_weigh_r1 ++ (wsX0_weigh_r2 ++ wsX0_weigh_r3)) ++ wsX00 ++ wsX10)
def wsX0_chooseDeeds_r1 : List Cond := [Cond.fieldLink RX0 28 "CowardsPot$Foretelling" "chosenMany" "I", Cond.fieldLink RX0 51 "CowardsPot$Hall" "sorts" "I", Cond.fieldLink RX0 22 "CowardsPot$Foretelling" "tried" "[I", Cond.methodLink RX0 54 yX0_weigh, Cond.instanceMethod yX0_weigh, Cond.selects RX0 yX0_weigh yX0_weigh, Cond.initialized RX0, Cond.code yX0_weigh cX0_weigh 8 none, Cond.fieldLink RX0 12 "CowardsPot$Foretelling" "trial" "LCowardsPot$Hall;", Cond.fieldLink RX0 58 "CowardsPot$Hall" "sortFear" "[I", Cond.fieldLink RX0 32 "CowardsPot$Foretelling" "chosenFear" "I", Cond.fieldLink RX0 25 "CowardsPot$Foretelling" "chosen" "[I", Cond.methodLink RX0 39 yX1_copyFrom, Cond.instanceMethod yX1_copyFrom, Cond.selects RX1 yX1_copyFrom yX1_copyFrom, Cond.initialized RX1, Cond.code yX1_copyFrom cX1_copyFrom 3 none, Cond.fieldLink RX1 9 "CowardsPot$Hall" "joints" "I", Cond.fieldLink RX1 15 "CowardsPot$Hall" "base" "I", Cond.fieldLink RX1 18 "CowardsPot$Hall" "step" "I", Cond.fieldLink RX1 21 "CowardsPot$Hall" "yearNumber" "I", Cond.fieldLink RX1 24 "CowardsPot$Hall" "people" "I", Cond.fieldLink RX1 27 "CowardsPot$Hall" "sorts" "I", Cond.fieldLink RX1 30 "CowardsPot$Hall" "kind" "[I"]
def wsX0_chooseDeeds_r2 : List Cond := [Cond.fieldLink RX1 34 "CowardsPot$Hall" "toldFame" "[I", Cond.fieldLink RX1 37 "CowardsPot$Hall" "fame" "[I", Cond.fieldLink RX1 40 "CowardsPot$Hall" "gain" "[I", Cond.fieldLink RX1 43 "CowardsPot$Hall" "fear" "[I", Cond.fieldLink RX1 46 "CowardsPot$Hall" "latest" "[I", Cond.fieldLink RX1 49 "CowardsPot$Hall" "had" "[I", Cond.fieldLink RX1 52 "CowardsPot$Hall" "sortGain" "[I", Cond.fieldLink RX1 55 "CowardsPot$Hall" "sortFear" "[I", Cond.methodLink RX0 61 yX1_addDeed, Cond.instanceMethod yX1_addDeed, Cond.selects RX1 yX1_addDeed yX1_addDeed, Cond.code yX1_addDeed cX1_addDeed 3 none, Cond.methodLink RX1 75 yX1_addTo, Cond.instanceMethod yX1_addTo, Cond.selects RX1 yX1_addTo yX1_addTo, Cond.code yX1_addTo cX1_addTo 4 none, Cond.methodLink RX1 69 Lib.Math.min.name, Cond.static Lib.Math.min.name, Cond.initialized "java/lang/Math", Cond.code Lib.Math.min.name Lib.Math.min.code 2 (some .int), Cond.methodLink RX0 47 yX0_jointOf, Cond.instanceMethod yX0_jointOf, Cond.selects RX0 yX0_jointOf yX0_jointOf, Cond.code yX0_jointOf cX0_jointOf 3 (some .int)]
def wsX0_chooseDeeds_r3 : List Cond := [Cond.fieldLink RX0 18 "CowardsPot$Foretelling" "served" "[I", Cond.methodLink RX0 35 yX1_serveInto, Cond.instanceMethod yX1_serveInto, Cond.selects RX1 yX1_serveInto yX1_serveInto, Cond.code yX1_serveInto cX1_serveInto 7 none, Cond.fieldLink RX1 58 "CowardsPot$Hall" "scores" "[I", Cond.methodLink RX1 61 yX1_scoreOf, Cond.instanceMethod yX1_scoreOf, Cond.selects RX1 yX1_scoreOf yX1_scoreOf, Cond.code yX1_scoreOf cX1_scoreOf 3 (some .int), Cond.methodLink RX1 86 yX1_nextOf, Cond.instanceMethod yX1_nextOf, Cond.selects RX1 yX1_nextOf yX1_nextOf, Cond.code yX1_nextOf cX1_nextOf 5 (some .int), Cond.methodLink RX1 89 yX1_lastOf, Cond.instanceMethod yX1_lastOf, Cond.selects RX1 yX1_lastOf yX1_lastOf, Cond.code yX1_lastOf cX1_lastOf 3 (some .int), Cond.methodLink RX1 92 yX1_firstFor, Cond.instanceMethod yX1_firstFor, Cond.selects RX1 yX1_firstFor yX1_firstFor, Cond.code yX1_firstFor cX1_firstFor 4 (some .int)]
def wsX0_chooseDeeds : List Cond := .code yX0_chooseDeeds cX0_chooseDeeds 7 none :: ((wsX0_chooseDeeds_r1 ++ (wsX0_chooseDeeds_r2 ++ wsX0_chooseDeeds_r3)) ++ wsX00 ++ wsX10)
def wsX0_tryDoers_r1 : List Cond := [Cond.fieldLink RX0 12 "CowardsPot$Foretelling" "trial" "LCowardsPot$Hall;", Cond.fieldLink RX0 65 "CowardsPot$Hall" "people" "I", Cond.methodLink RX0 39 yX1_copyFrom, Cond.instanceMethod yX1_copyFrom, Cond.selects RX1 yX1_copyFrom yX1_copyFrom, Cond.initialized RX1, Cond.code yX1_copyFrom cX1_copyFrom 3 none, Cond.fieldLink RX1 9 "CowardsPot$Hall" "joints" "I", Cond.fieldLink RX1 15 "CowardsPot$Hall" "base" "I", Cond.fieldLink RX1 18 "CowardsPot$Hall" "step" "I", Cond.fieldLink RX1 21 "CowardsPot$Hall" "yearNumber" "I", Cond.fieldLink RX1 24 "CowardsPot$Hall" "people" "I", Cond.fieldLink RX1 27 "CowardsPot$Hall" "sorts" "I", Cond.fieldLink RX1 30 "CowardsPot$Hall" "kind" "[I", Cond.fieldLink RX1 34 "CowardsPot$Hall" "toldFame" "[I", Cond.fieldLink RX1 37 "CowardsPot$Hall" "fame" "[I", Cond.fieldLink RX1 40 "CowardsPot$Hall" "gain" "[I", Cond.fieldLink RX1 43 "CowardsPot$Hall" "fear" "[I", Cond.fieldLink RX1 46 "CowardsPot$Hall" "latest" "[I", Cond.fieldLink RX1 49 "CowardsPot$Hall" "had" "[I", Cond.fieldLink RX1 52 "CowardsPot$Hall" "sortGain" "[I", Cond.fieldLink RX1 55 "CowardsPot$Hall" "sortFear" "[I", Cond.methodLink RX0 61 yX1_addDeed, Cond.instanceMethod yX1_addDeed]
def wsX0_tryDoers_r2 : List Cond := [Cond.selects RX1 yX1_addDeed yX1_addDeed, Cond.code yX1_addDeed cX1_addDeed 3 none, Cond.methodLink RX1 75 yX1_addTo, Cond.instanceMethod yX1_addTo, Cond.selects RX1 yX1_addTo yX1_addTo, Cond.code yX1_addTo cX1_addTo 4 none, Cond.methodLink RX1 69 Lib.Math.min.name, Cond.static Lib.Math.min.name, Cond.initialized "java/lang/Math", Cond.code Lib.Math.min.name Lib.Math.min.code 2 (some .int)]
def wsX0_tryDoers : List Cond := .code yX0_tryDoers cX0_tryDoers 5 none :: ((wsX0_tryDoers_r1 ++ wsX0_tryDoers_r2) ++ wsX00 ++ wsX10)
def wsJ6_bitCount_0f7a4 : List Cond := .code yJ6_bitCount_0f7a4 cJ6_bitCount_0f7a4 1 (some .int) :: ([.constant RJ6 265 (1431655765), .constant RJ6 266 (858993459), .constant RJ6 267 (252645135)])
def wsX7_power : List Cond := .code yX7_power cX7_power 4 (some .int) :: ([])
def wsX0_waysOfTen_r1 : List Cond := [Cond.fieldLink RX0 65 "CowardsPot$Hall" "people" "I", Cond.fieldLink RX0 12 "CowardsPot$Foretelling" "trial" "LCowardsPot$Hall;", Cond.methodLink RX0 68 yX0_tryDoers, Cond.instanceMethod yX0_tryDoers, Cond.selects RX0 yX0_tryDoers yX0_tryDoers, Cond.initialized RX0, Cond.code yX0_tryDoers cX0_tryDoers 5 none, Cond.methodLink RX0 39 yX1_copyFrom, Cond.instanceMethod yX1_copyFrom, Cond.selects RX1 yX1_copyFrom yX1_copyFrom, Cond.initialized RX1, Cond.code yX1_copyFrom cX1_copyFrom 3 none, Cond.fieldLink RX1 9 "CowardsPot$Hall" "joints" "I", Cond.fieldLink RX1 15 "CowardsPot$Hall" "base" "I", Cond.fieldLink RX1 18 "CowardsPot$Hall" "step" "I", Cond.fieldLink RX1 21 "CowardsPot$Hall" "yearNumber" "I", Cond.fieldLink RX1 24 "CowardsPot$Hall" "people" "I", Cond.fieldLink RX1 27 "CowardsPot$Hall" "sorts" "I", Cond.fieldLink RX1 30 "CowardsPot$Hall" "kind" "[I", Cond.fieldLink RX1 34 "CowardsPot$Hall" "toldFame" "[I", Cond.fieldLink RX1 37 "CowardsPot$Hall" "fame" "[I", Cond.fieldLink RX1 40 "CowardsPot$Hall" "gain" "[I", Cond.fieldLink RX1 43 "CowardsPot$Hall" "fear" "[I", Cond.fieldLink RX1 46 "CowardsPot$Hall" "latest" "[I"]
def wsX0_waysOfTen_r2 : List Cond := [Cond.fieldLink RX1 49 "CowardsPot$Hall" "had" "[I", Cond.fieldLink RX1 52 "CowardsPot$Hall" "sortGain" "[I", Cond.fieldLink RX1 55 "CowardsPot$Hall" "sortFear" "[I", Cond.methodLink RX0 61 yX1_addDeed, Cond.instanceMethod yX1_addDeed, Cond.selects RX1 yX1_addDeed yX1_addDeed, Cond.code yX1_addDeed cX1_addDeed 3 none, Cond.methodLink RX1 75 yX1_addTo, Cond.instanceMethod yX1_addTo, Cond.selects RX1 yX1_addTo yX1_addTo, Cond.code yX1_addTo cX1_addTo 4 none, Cond.methodLink RX1 69 Lib.Math.min.name, Cond.static Lib.Math.min.name, Cond.initialized "java/lang/Math", Cond.code Lib.Math.min.name Lib.Math.min.code 2 (some .int), Cond.methodLink RX0 47 yX0_jointOf, Cond.instanceMethod yX0_jointOf, Cond.selects RX0 yX0_jointOf yX0_jointOf, Cond.code yX0_jointOf cX0_jointOf 3 (some .int), Cond.fieldLink RX0 18 "CowardsPot$Foretelling" "served" "[I", Cond.methodLink RX0 35 yX1_serveInto, Cond.instanceMethod yX1_serveInto, Cond.selects RX1 yX1_serveInto yX1_serveInto, Cond.code yX1_serveInto cX1_serveInto 7 none]
def wsX0_waysOfTen_r3 : List Cond := [Cond.fieldLink RX1 58 "CowardsPot$Hall" "scores" "[I", Cond.methodLink RX1 61 yX1_scoreOf, Cond.instanceMethod yX1_scoreOf, Cond.selects RX1 yX1_scoreOf yX1_scoreOf, Cond.code yX1_scoreOf cX1_scoreOf 3 (some .int), Cond.methodLink RX1 86 yX1_nextOf, Cond.instanceMethod yX1_nextOf, Cond.selects RX1 yX1_nextOf yX1_nextOf, Cond.code yX1_nextOf cX1_nextOf 5 (some .int), Cond.methodLink RX1 89 yX1_lastOf, Cond.instanceMethod yX1_lastOf, Cond.selects RX1 yX1_lastOf yX1_lastOf, Cond.code yX1_lastOf cX1_lastOf 3 (some .int), Cond.methodLink RX1 92 yX1_firstFor, Cond.instanceMethod yX1_firstFor, Cond.selects RX1 yX1_firstFor yX1_firstFor, Cond.code yX1_firstFor cX1_firstFor 4 (some .int), Cond.methodLink RX0 72 yJ6_bitCount_0f7a4, Cond.static yJ6_bitCount_0f7a4, Cond.initialized RJ6, Cond.code yJ6_bitCount_0f7a4 cJ6_bitCount_0f7a4 1 (some .int), Cond.constant RJ6 265 (1431655765), Cond.constant RJ6 266 (858993459), Cond.constant RJ6 267 (252645135)]
def wsX0_waysOfTen_r4 : List Cond := [Cond.static yX7_power, Cond.initialized RX7, Cond.code yX7_power cX7_power 4 (some .int)]
def wsX0_waysOfTen : List Cond := .code yX0_waysOfTen cX0_waysOfTen 10 (some .int) :: ((wsX0_waysOfTen_r1 ++ (wsX0_waysOfTen_r2 ++ (wsX0_waysOfTen_r3 ++ wsX0_waysOfTen_r4))) ++ wsX10 ++ wsX00)
def wsX1_clearFor : List Cond := .code yX1_clearFor cX1_clearFor 2 none :: ([.fieldLink RX1 9 "CowardsPot$Hall" "joints" "I", .fieldLink RX1 15 "CowardsPot$Hall" "base" "I", .fieldLink RX1 18 "CowardsPot$Hall" "step" "I", .fieldLink RX1 21 "CowardsPot$Hall" "yearNumber" "I", .fieldLink RX1 24 "CowardsPot$Hall" "people" "I", .fieldLink RX1 27 "CowardsPot$Hall" "sorts" "I"] ++ wsX10)
def wsX1_addPerson : List Cond := .code yX1_addPerson cX1_addPerson 3 none :: ([.fieldLink RX1 24 "CowardsPot$Hall" "people" "I", .fieldLink RX1 30 "CowardsPot$Hall" "kind" "[I", .fieldLink RX1 34 "CowardsPot$Hall" "toldFame" "[I"] ++ wsX10)
def wsX1_addSort : List Cond := .code yX1_addSort cX1_addSort 3 none :: ([.fieldLink RX1 27 "CowardsPot$Hall" "sorts" "I", .fieldLink RX1 52 "CowardsPot$Hall" "sortGain" "[I", .fieldLink RX1 55 "CowardsPot$Hall" "sortFear" "[I"] ++ wsX10)
def wsX1_beginAnew : List Cond := .code yX1_beginAnew cX1_beginAnew 2 none :: ([.fieldLink RX1 21 "CowardsPot$Hall" "yearNumber" "I", .fieldLink RX1 24 "CowardsPot$Hall" "people" "I", .fieldLink RX1 37 "CowardsPot$Hall" "fame" "[I", .fieldLink RX1 34 "CowardsPot$Hall" "toldFame" "[I", .fieldLink RX1 40 "CowardsPot$Hall" "gain" "[I", .fieldLink RX1 43 "CowardsPot$Hall" "fear" "[I", .fieldLink RX1 46 "CowardsPot$Hall" "latest" "[I", .fieldLink RX1 49 "CowardsPot$Hall" "had" "[I"] ++ wsX10)
def wsX1_isAfraid : List Cond := .code yX1_isAfraid cX1_isAfraid 2 (some .boolean) :: ([.fieldLink RX1 43 "CowardsPot$Hall" "fear" "[I", .methodLink RX1 61 yX1_scoreOf, .instanceMethod yX1_scoreOf, .selects RX1 yX1_scoreOf yX1_scoreOf, .initialized RX1, .code yX1_scoreOf cX1_scoreOf 3 (some .int), .fieldLink RX1 30 "CowardsPot$Hall" "kind" "[I", .fieldLink RX1 40 "CowardsPot$Hall" "gain" "[I", .fieldLink RX1 37 "CowardsPot$Hall" "fame" "[I"] ++ wsX10)
def wsX1_afraidBits : List Cond := .code yX1_afraidBits cX1_afraidBits 3 (some .int) :: ([.fieldLink RX1 24 "CowardsPot$Hall" "people" "I", .methodLink RX1 65 yX1_isAfraid, .instanceMethod yX1_isAfraid, .selects RX1 yX1_isAfraid yX1_isAfraid, .initialized RX1, .code yX1_isAfraid cX1_isAfraid 2 (some .boolean), .fieldLink RX1 43 "CowardsPot$Hall" "fear" "[I", .methodLink RX1 61 yX1_scoreOf, .instanceMethod yX1_scoreOf, .selects RX1 yX1_scoreOf yX1_scoreOf, .code yX1_scoreOf cX1_scoreOf 3 (some .int), .fieldLink RX1 30 "CowardsPot$Hall" "kind" "[I", .fieldLink RX1 40 "CowardsPot$Hall" "gain" "[I", .fieldLink RX1 37 "CowardsPot$Hall" "fame" "[I"] ++ wsX10)
def wsX1_fameAfterYear : List Cond := .code yX1_fameAfterYear cX1_fameAfterYear 3 (some .int) :: ([.fieldLink RX1 40 "CowardsPot$Hall" "gain" "[I", .fieldLink RX1 30 "CowardsPot$Hall" "kind" "[I", .fieldLink RX1 37 "CowardsPot$Hall" "fame" "[I", .methodLink RX1 69 Lib.Math.min.name, .static Lib.Math.min.name, .initialized "java/lang/Math", .code Lib.Math.min.name Lib.Math.min.code 2 (some .int)] ++ wsX10)
def wsX1_passYear : List Cond := .code yX1_passYear cX1_passYear 2 none :: ([.fieldLink RX1 24 "CowardsPot$Hall" "people" "I", .fieldLink RX1 37 "CowardsPot$Hall" "fame" "[I", .fieldLink RX1 40 "CowardsPot$Hall" "gain" "[I", .fieldLink RX1 43 "CowardsPot$Hall" "fear" "[I", .fieldLink RX1 21 "CowardsPot$Hall" "yearNumber" "I", .methodLink RX1 79 yX1_fameAfterYear, .instanceMethod yX1_fameAfterYear, .selects RX1 yX1_fameAfterYear yX1_fameAfterYear, .initialized RX1, .code yX1_fameAfterYear cX1_fameAfterYear 3 (some .int), .fieldLink RX1 30 "CowardsPot$Hall" "kind" "[I", .methodLink RX1 69 Lib.Math.min.name, .static Lib.Math.min.name, .initialized "java/lang/Math", .code Lib.Math.min.name Lib.Math.min.code 2 (some .int)] ++ wsX10)
def wsX1_holdFeast_r1 : List Cond := [Cond.fieldLink RX1 46 "CowardsPot$Hall" "latest" "[I", Cond.fieldLink RX1 24 "CowardsPot$Hall" "people" "I", Cond.fieldLink RX1 49 "CowardsPot$Hall" "had" "[I", Cond.methodLink RX1 82 yX1_serveInto, Cond.instanceMethod yX1_serveInto, Cond.selects RX1 yX1_serveInto yX1_serveInto, Cond.initialized RX1, Cond.code yX1_serveInto cX1_serveInto 7 none, Cond.fieldLink RX1 58 "CowardsPot$Hall" "scores" "[I", Cond.fieldLink RX1 43 "CowardsPot$Hall" "fear" "[I", Cond.fieldLink RX1 9 "CowardsPot$Hall" "joints" "I", Cond.fieldLink RX1 30 "CowardsPot$Hall" "kind" "[I", Cond.methodLink RX1 61 yX1_scoreOf, Cond.instanceMethod yX1_scoreOf, Cond.selects RX1 yX1_scoreOf yX1_scoreOf, Cond.code yX1_scoreOf cX1_scoreOf 3 (some .int), Cond.fieldLink RX1 40 "CowardsPot$Hall" "gain" "[I", Cond.fieldLink RX1 37 "CowardsPot$Hall" "fame" "[I", Cond.methodLink RX1 86 yX1_nextOf, Cond.instanceMethod yX1_nextOf, Cond.selects RX1 yX1_nextOf yX1_nextOf, Cond.code yX1_nextOf cX1_nextOf 5 (some .int), Cond.methodLink RX1 89 yX1_lastOf, Cond.instanceMethod yX1_lastOf]
def wsX1_holdFeast_r2 : List Cond := [Cond.selects RX1 yX1_lastOf yX1_lastOf, Cond.code yX1_lastOf cX1_lastOf 3 (some .int), Cond.methodLink RX1 92 yX1_firstFor, Cond.instanceMethod yX1_firstFor, Cond.selects RX1 yX1_firstFor yX1_firstFor, Cond.code yX1_firstFor cX1_firstFor 4 (some .int), Cond.fieldLink RX1 15 "CowardsPot$Hall" "base" "I", Cond.fieldLink RX1 18 "CowardsPot$Hall" "step" "I"]
def wsX1_holdFeast : List Cond := .code yX1_holdFeast cX1_holdFeast 3 (some .int) :: ((wsX1_holdFeast_r1 ++ wsX1_holdFeast_r2) ++ wsX10)
def wsX6_init : List Cond := .code yX6_init cX6_init 1 none :: ([.methodLink RX6 3 objectInit, .instanceMethod objectInit, .code objectInit ⟨#[0xb1]⟩ 1 none, .arrayClass .int, .fieldLink RX6 9 "CowardsPot$Text" "letters" "[I", .fieldLink RX6 15 "CowardsPot$Text" "length" "I"] ++ wsX60)
def wsX2_init_r1 : List Cond := [Cond.methodLink RX2 1 objectInit, Cond.instanceMethod objectInit, Cond.code objectInit ⟨#[0xb1]⟩ 1 none, Cond.classLink RX2 7 RX1, Cond.instantiable RX1 16, Cond.initialized RX1, Cond.fieldLink RX2 10 "CowardsPot$Kept" "hall" "LCowardsPot$Hall;", Cond.classLink RX2 16 RX6, Cond.instantiable RX6 2, Cond.initialized RX6, Cond.fieldLink RX2 19 "CowardsPot$Kept" "text" "LCowardsPot$Text;", Cond.fieldLink RX2 23 "CowardsPot$Kept" "isThere" "Z", Cond.instanceMethod yX1_init, Cond.code yX1_init cX1_init 1 none, Cond.methodLink RX1 3 objectInit, Cond.fieldLink RX1 9 "CowardsPot$Hall" "joints" "I", Cond.fieldLink RX1 15 "CowardsPot$Hall" "base" "I", Cond.fieldLink RX1 18 "CowardsPot$Hall" "step" "I", Cond.fieldLink RX1 21 "CowardsPot$Hall" "yearNumber" "I", Cond.fieldLink RX1 24 "CowardsPot$Hall" "people" "I", Cond.fieldLink RX1 27 "CowardsPot$Hall" "sorts" "I", Cond.arrayClass .int, Cond.fieldLink RX1 30 "CowardsPot$Hall" "kind" "[I", Cond.fieldLink RX1 34 "CowardsPot$Hall" "toldFame" "[I"]
def wsX2_init_r2 : List Cond := [Cond.fieldLink RX1 37 "CowardsPot$Hall" "fame" "[I", Cond.fieldLink RX1 40 "CowardsPot$Hall" "gain" "[I", Cond.fieldLink RX1 43 "CowardsPot$Hall" "fear" "[I", Cond.fieldLink RX1 46 "CowardsPot$Hall" "latest" "[I", Cond.fieldLink RX1 49 "CowardsPot$Hall" "had" "[I", Cond.fieldLink RX1 52 "CowardsPot$Hall" "sortGain" "[I", Cond.fieldLink RX1 55 "CowardsPot$Hall" "sortFear" "[I", Cond.fieldLink RX1 58 "CowardsPot$Hall" "scores" "[I", Cond.instanceMethod yX6_init, Cond.code yX6_init cX6_init 1 none, Cond.methodLink RX6 3 objectInit, Cond.fieldLink RX6 9 "CowardsPot$Text" "letters" "[I", Cond.fieldLink RX6 15 "CowardsPot$Text" "length" "I"]
def wsX2_init : List Cond := .code yX2_init cX2_init 1 none :: ((wsX2_init_r1 ++ wsX2_init_r2) ++ wsX10 ++ wsX20 ++ wsX60)
def wsX3_init_r1 : List Cond := [Cond.methodLink RX3 3 objectInit, Cond.instanceMethod objectInit, Cond.code objectInit ⟨#[0xb1]⟩ 1 none, Cond.classLink RX3 9 RX1, Cond.fieldLink RX3 11 "CowardsPot$Past" "halls" "[LCowardsPot$Hall;", Cond.fieldLink RX3 17 "CowardsPot$Past" "top" "I", Cond.fieldLink RX3 21 "CowardsPot$Past" "many" "I", Cond.instantiable RX1 16, Cond.initialized RX1, Cond.instanceMethod yX1_init, Cond.code yX1_init cX1_init 1 none, Cond.methodLink RX1 3 objectInit, Cond.fieldLink RX1 9 "CowardsPot$Hall" "joints" "I", Cond.fieldLink RX1 15 "CowardsPot$Hall" "base" "I", Cond.fieldLink RX1 18 "CowardsPot$Hall" "step" "I", Cond.fieldLink RX1 21 "CowardsPot$Hall" "yearNumber" "I", Cond.fieldLink RX1 24 "CowardsPot$Hall" "people" "I", Cond.fieldLink RX1 27 "CowardsPot$Hall" "sorts" "I", Cond.arrayClass .int, Cond.fieldLink RX1 30 "CowardsPot$Hall" "kind" "[I", Cond.fieldLink RX1 34 "CowardsPot$Hall" "toldFame" "[I", Cond.fieldLink RX1 37 "CowardsPot$Hall" "fame" "[I", Cond.fieldLink RX1 40 "CowardsPot$Hall" "gain" "[I", Cond.fieldLink RX1 43 "CowardsPot$Hall" "fear" "[I"]
def wsX3_init_r2 : List Cond := [Cond.fieldLink RX1 46 "CowardsPot$Hall" "latest" "[I", Cond.fieldLink RX1 49 "CowardsPot$Hall" "had" "[I", Cond.fieldLink RX1 52 "CowardsPot$Hall" "sortGain" "[I", Cond.fieldLink RX1 55 "CowardsPot$Hall" "sortFear" "[I", Cond.fieldLink RX1 58 "CowardsPot$Hall" "scores" "[I"]
def wsX3_init : List Cond := .code yX3_init cX3_init 2 none :: ((wsX3_init_r1 ++ wsX3_init_r2) ++ wsX30 ++ wsX10)
def wsX3_push_r1 : List Cond := [Cond.fieldLink RX3 11 "CowardsPot$Past" "halls" "[LCowardsPot$Hall;", Cond.fieldLink RX3 17 "CowardsPot$Past" "top" "I", Cond.fieldLink RX3 21 "CowardsPot$Past" "many" "I", Cond.methodLink RX3 29 Lib.Math.min.name, Cond.static Lib.Math.min.name, Cond.initialized "java/lang/Math", Cond.code Lib.Math.min.name Lib.Math.min.code 2 (some .int), Cond.methodLink RX3 25 yX1_copyFrom, Cond.instanceMethod yX1_copyFrom, Cond.selects RX1 yX1_copyFrom yX1_copyFrom, Cond.initialized RX1, Cond.code yX1_copyFrom cX1_copyFrom 3 none, Cond.fieldLink RX1 9 "CowardsPot$Hall" "joints" "I", Cond.fieldLink RX1 15 "CowardsPot$Hall" "base" "I", Cond.fieldLink RX1 18 "CowardsPot$Hall" "step" "I", Cond.fieldLink RX1 21 "CowardsPot$Hall" "yearNumber" "I", Cond.fieldLink RX1 24 "CowardsPot$Hall" "people" "I", Cond.fieldLink RX1 27 "CowardsPot$Hall" "sorts" "I", Cond.fieldLink RX1 30 "CowardsPot$Hall" "kind" "[I", Cond.fieldLink RX1 34 "CowardsPot$Hall" "toldFame" "[I", Cond.fieldLink RX1 37 "CowardsPot$Hall" "fame" "[I", Cond.fieldLink RX1 40 "CowardsPot$Hall" "gain" "[I", Cond.fieldLink RX1 43 "CowardsPot$Hall" "fear" "[I", Cond.fieldLink RX1 46 "CowardsPot$Hall" "latest" "[I"]
def wsX3_push_r2 : List Cond := [Cond.fieldLink RX1 49 "CowardsPot$Hall" "had" "[I", Cond.fieldLink RX1 52 "CowardsPot$Hall" "sortGain" "[I", Cond.fieldLink RX1 55 "CowardsPot$Hall" "sortFear" "[I"]
def wsX3_push : List Cond := .code yX3_push cX3_push 2 none :: ((wsX3_push_r1 ++ wsX3_push_r2) ++ wsX30 ++ wsX10)
def wsX3_popInto : List Cond := .code yX3_popInto cX3_popInto 2 none :: ([.fieldLink RX3 21 "CowardsPot$Past" "many" "I", .fieldLink RX3 17 "CowardsPot$Past" "top" "I", .fieldLink RX3 11 "CowardsPot$Past" "halls" "[LCowardsPot$Hall;", .methodLink RX3 25 yX1_copyFrom, .instanceMethod yX1_copyFrom, .selects RX1 yX1_copyFrom yX1_copyFrom, .initialized RX1, .code yX1_copyFrom cX1_copyFrom 3 none, .fieldLink RX1 9 "CowardsPot$Hall" "joints" "I", .fieldLink RX1 15 "CowardsPot$Hall" "base" "I", .fieldLink RX1 18 "CowardsPot$Hall" "step" "I", .fieldLink RX1 21 "CowardsPot$Hall" "yearNumber" "I", .fieldLink RX1 24 "CowardsPot$Hall" "people" "I", .fieldLink RX1 27 "CowardsPot$Hall" "sorts" "I", .fieldLink RX1 30 "CowardsPot$Hall" "kind" "[I", .fieldLink RX1 34 "CowardsPot$Hall" "toldFame" "[I", .fieldLink RX1 37 "CowardsPot$Hall" "fame" "[I", .fieldLink RX1 40 "CowardsPot$Hall" "gain" "[I", .fieldLink RX1 43 "CowardsPot$Hall" "fear" "[I", .fieldLink RX1 46 "CowardsPot$Hall" "latest" "[I", .fieldLink RX1 49 "CowardsPot$Hall" "had" "[I", .fieldLink RX1 52 "CowardsPot$Hall" "sortGain" "[I", .fieldLink RX1 55 "CowardsPot$Hall" "sortFear" "[I"] ++ wsX30 ++ wsX10)
def wsX4_init_r1 : List Cond := [Cond.methodLink RX4 3 objectInit, Cond.instanceMethod objectInit, Cond.code objectInit ⟨#[0xb1]⟩ 1 none, Cond.classLink RX4 9 RX1, Cond.instantiable RX1 16, Cond.initialized RX1, Cond.fieldLink RX4 12 "CowardsPot$Reader" "draft" "LCowardsPot$Hall;", Cond.fieldLink RX4 18 "CowardsPot$Reader" "clauses" "I", Cond.fieldLink RX4 22 "CowardsPot$Reader" "begin" "I", Cond.fieldLink RX4 25 "CowardsPot$Reader" "behind" "I", Cond.fieldLink RX4 28 "CowardsPot$Reader" "value" "I", Cond.instanceMethod yX1_init, Cond.code yX1_init cX1_init 1 none, Cond.methodLink RX1 3 objectInit, Cond.fieldLink RX1 9 "CowardsPot$Hall" "joints" "I", Cond.fieldLink RX1 15 "CowardsPot$Hall" "base" "I", Cond.fieldLink RX1 18 "CowardsPot$Hall" "step" "I", Cond.fieldLink RX1 21 "CowardsPot$Hall" "yearNumber" "I", Cond.fieldLink RX1 24 "CowardsPot$Hall" "people" "I", Cond.fieldLink RX1 27 "CowardsPot$Hall" "sorts" "I", Cond.arrayClass .int, Cond.fieldLink RX1 30 "CowardsPot$Hall" "kind" "[I", Cond.fieldLink RX1 34 "CowardsPot$Hall" "toldFame" "[I", Cond.fieldLink RX1 37 "CowardsPot$Hall" "fame" "[I"]
def wsX4_init_r2 : List Cond := [Cond.fieldLink RX1 40 "CowardsPot$Hall" "gain" "[I", Cond.fieldLink RX1 43 "CowardsPot$Hall" "fear" "[I", Cond.fieldLink RX1 46 "CowardsPot$Hall" "latest" "[I", Cond.fieldLink RX1 49 "CowardsPot$Hall" "had" "[I", Cond.fieldLink RX1 52 "CowardsPot$Hall" "sortGain" "[I", Cond.fieldLink RX1 55 "CowardsPot$Hall" "sortFear" "[I", Cond.fieldLink RX1 58 "CowardsPot$Hall" "scores" "[I"]
def wsX4_init : List Cond := .code yX4_init cX4_init 1 none :: ((wsX4_init_r1 ++ wsX4_init_r2) ++ wsX10 ++ wsX40)
def wsX6_at : List Cond := .code yX6_at cX6_at 2 (some .int) :: ([.fieldLink RX6 15 "CowardsPot$Text" "length" "I", .fieldLink RX6 9 "CowardsPot$Text" "letters" "[I"] ++ wsX60)
def wsX4_isSmallLetter : List Cond := .code yX4_isSmallLetter cX4_isSmallLetter 1 (some .boolean) :: ([])
def wsX4_isDigit : List Cond := .code yX4_isDigit cX4_isDigit 1 (some .boolean) :: ([])
def wsX4_goOn : List Cond := .code yX4_goOn cX4_goOn 2 none :: ([.fieldLink RX4 25 "CowardsPot$Reader" "behind" "I", .fieldLink RX4 22 "CowardsPot$Reader" "begin" "I", .fieldLink RX4 43 "CowardsPot$Text" "length" "I", .methodLink RX4 48 yX6_at, .instanceMethod yX6_at, .selects RX6 yX6_at yX6_at, .initialized RX6, .code yX6_at cX6_at 2 (some .int), .fieldLink RX6 15 "CowardsPot$Text" "length" "I", .fieldLink RX6 9 "CowardsPot$Text" "letters" "[I", .methodLink RX4 52 yX4_isSmallLetter, .static yX4_isSmallLetter, .initialized RX4, .code yX4_isSmallLetter cX4_isSmallLetter 1 (some .boolean), .methodLink RX4 56 yX4_isDigit, .static yX4_isDigit, .code yX4_isDigit cX4_isDigit 1 (some .boolean)] ++ wsX40 ++ wsX60)
def wsJ0_coder_7d493 : List Cond := .code yJ0_coder_7d493 cJ0_coder_7d493 1 (some .byte) :: ([.fieldLink RJ0 38 "java/lang/String" "COMPACT_STRINGS" "Z", .fieldLink RJ0 15 "java/lang/String" "coder" "B"])
def wsJ0_length_8abf5 : List Cond := .code yJ0_length_8abf5 cJ0_length_8abf5 1 (some .int) :: ([.fieldLink RJ0 9 "java/lang/String" "value" "[B", .methodLink RJ0 335 yJ0_coder_7d493, .instanceMethod yJ0_coder_7d493, .selects RJ0 yJ0_coder_7d493 yJ0_coder_7d493, .initialized RJ0, .code yJ0_coder_7d493 cJ0_coder_7d493 1 (some .byte), .fieldLink RJ0 38 "java/lang/String" "COMPACT_STRINGS" "Z", .fieldLink RJ0 15 "java/lang/String" "coder" "B"])
def wsJ0_isLatin1_aae02 : List Cond := .code yJ0_isLatin1_aae02 cJ0_isLatin1_aae02 1 (some .boolean) :: ([.fieldLink RJ0 38 "java/lang/String" "COMPACT_STRINGS" "Z", .fieldLink RJ0 15 "java/lang/String" "coder" "B"])
def wsJ3_checkIndex_8e157 : List Cond := .code yJ3_checkIndex_8e157 cJ3_checkIndex_8e157 3 (some .int) :: ([])
def wsJ0_checkIndex_df160 : List Cond := .code yJ0_checkIndex_df160 cJ0_checkIndex_df160 2 none :: ([.fieldLink RJ0 1053 "jdk/internal/util/Preconditions" "SIOOBE_FORMATTER" "Ljava/util/function/BiFunction;", .methodLink RJ0 1059 yJ3_checkIndex_8e157, .static yJ3_checkIndex_8e157, .initialized RJ3, .code yJ3_checkIndex_8e157 cJ3_checkIndex_8e157 3 (some .int)])
def wsJ1_charAt_3b067 : List Cond := .code yJ1_charAt_3b067 cJ1_charAt_3b067 2 (some .char) :: ([.methodLink RJ1 9 yJ0_checkIndex_df160, .static yJ0_checkIndex_df160, .initialized RJ0, .code yJ0_checkIndex_df160 cJ0_checkIndex_df160 2 none, .fieldLink RJ0 1053 "jdk/internal/util/Preconditions" "SIOOBE_FORMATTER" "Ljava/util/function/BiFunction;", .methodLink RJ0 1059 yJ3_checkIndex_8e157, .static yJ3_checkIndex_8e157, .initialized RJ3, .code yJ3_checkIndex_8e157 cJ3_checkIndex_8e157 3 (some .int)])
def wsJ2_length_9d52b : List Cond := .code yJ2_length_9d52b cJ2_length_9d52b 1 (some .int) :: ([])
def wsJ2_checkIndex_2214a : List Cond := .code yJ2_checkIndex_2214a cJ2_checkIndex_2214a 2 none :: ([.methodLink RJ2 48 yJ2_length_9d52b, .static yJ2_length_9d52b, .initialized RJ2, .code yJ2_length_9d52b cJ2_length_9d52b 1 (some .int), .methodLink RJ2 414 yJ0_checkIndex_df160, .static yJ0_checkIndex_df160, .initialized RJ0, .code yJ0_checkIndex_df160 cJ0_checkIndex_df160 2 none, .fieldLink RJ0 1053 "jdk/internal/util/Preconditions" "SIOOBE_FORMATTER" "Ljava/util/function/BiFunction;", .methodLink RJ0 1059 yJ3_checkIndex_8e157, .static yJ3_checkIndex_8e157, .initialized RJ3, .code yJ3_checkIndex_8e157 cJ3_checkIndex_8e157 3 (some .int)])
def wsJ2_getChar_3b067 : List Cond := .code yJ2_getChar_3b067 cJ2_getChar_3b067 2 (some .char) :: ([.fieldLink RJ2 44 "java/lang/StringUTF16" "$assertionsDisabled" "Z", .fieldLink RJ2 59 "java/lang/StringUTF16" "HI_BYTE_SHIFT" "I", .fieldLink RJ2 63 "java/lang/StringUTF16" "LO_BYTE_SHIFT" "I", .methodLink RJ2 48 yJ2_length_9d52b, .static yJ2_length_9d52b, .initialized RJ2, .code yJ2_length_9d52b cJ2_length_9d52b 1 (some .int)])
def wsJ2_charAt_3b067 : List Cond := .code yJ2_charAt_3b067 cJ2_charAt_3b067 2 (some .char) :: ([.methodLink RJ2 67 yJ2_checkIndex_2214a, .static yJ2_checkIndex_2214a, .initialized RJ2, .code yJ2_checkIndex_2214a cJ2_checkIndex_2214a 2 none, .methodLink RJ2 48 yJ2_length_9d52b, .static yJ2_length_9d52b, .code yJ2_length_9d52b cJ2_length_9d52b 1 (some .int), .methodLink RJ2 414 yJ0_checkIndex_df160, .static yJ0_checkIndex_df160, .initialized RJ0, .code yJ0_checkIndex_df160 cJ0_checkIndex_df160 2 none, .fieldLink RJ0 1053 "jdk/internal/util/Preconditions" "SIOOBE_FORMATTER" "Ljava/util/function/BiFunction;", .methodLink RJ0 1059 yJ3_checkIndex_8e157, .static yJ3_checkIndex_8e157, .initialized RJ3, .code yJ3_checkIndex_8e157 cJ3_checkIndex_8e157 3 (some .int), .methodLink RJ2 71 yJ2_getChar_3b067, .static yJ2_getChar_3b067, .code yJ2_getChar_3b067 cJ2_getChar_3b067 2 (some .char), .fieldLink RJ2 44 "java/lang/StringUTF16" "$assertionsDisabled" "Z", .fieldLink RJ2 59 "java/lang/StringUTF16" "HI_BYTE_SHIFT" "I", .fieldLink RJ2 63 "java/lang/StringUTF16" "LO_BYTE_SHIFT" "I"])
def wsJ0_charAt_5068e_r1 : List Cond := [Cond.fieldLink RJ0 9 "java/lang/String" "value" "[B", Cond.methodLink RJ0 492 yJ0_isLatin1_aae02, Cond.instanceMethod yJ0_isLatin1_aae02, Cond.selects RJ0 yJ0_isLatin1_aae02 yJ0_isLatin1_aae02, Cond.initialized RJ0, Cond.code yJ0_isLatin1_aae02 cJ0_isLatin1_aae02 1 (some .boolean), Cond.fieldLink RJ0 38 "java/lang/String" "COMPACT_STRINGS" "Z", Cond.fieldLink RJ0 15 "java/lang/String" "coder" "B", Cond.methodLink RJ0 495 yJ1_charAt_3b067, Cond.static yJ1_charAt_3b067, Cond.initialized RJ1, Cond.code yJ1_charAt_3b067 cJ1_charAt_3b067 2 (some .char), Cond.methodLink RJ1 9 yJ0_checkIndex_df160, Cond.static yJ0_checkIndex_df160, Cond.code yJ0_checkIndex_df160 cJ0_checkIndex_df160 2 none, Cond.fieldLink RJ0 1053 "jdk/internal/util/Preconditions" "SIOOBE_FORMATTER" "Ljava/util/function/BiFunction;", Cond.methodLink RJ0 1059 yJ3_checkIndex_8e157, Cond.static yJ3_checkIndex_8e157, Cond.initialized RJ3, Cond.code yJ3_checkIndex_8e157 cJ3_checkIndex_8e157 3 (some .int), Cond.methodLink RJ0 498 yJ2_charAt_3b067, Cond.static yJ2_charAt_3b067, Cond.initialized RJ2, Cond.code yJ2_charAt_3b067 cJ2_charAt_3b067 2 (some .char)]
def wsJ0_charAt_5068e_r2 : List Cond := [Cond.methodLink RJ2 67 yJ2_checkIndex_2214a, Cond.static yJ2_checkIndex_2214a, Cond.code yJ2_checkIndex_2214a cJ2_checkIndex_2214a 2 none, Cond.methodLink RJ2 48 yJ2_length_9d52b, Cond.static yJ2_length_9d52b, Cond.code yJ2_length_9d52b cJ2_length_9d52b 1 (some .int), Cond.methodLink RJ2 414 yJ0_checkIndex_df160, Cond.methodLink RJ2 71 yJ2_getChar_3b067, Cond.static yJ2_getChar_3b067, Cond.code yJ2_getChar_3b067 cJ2_getChar_3b067 2 (some .char), Cond.fieldLink RJ2 44 "java/lang/StringUTF16" "$assertionsDisabled" "Z", Cond.fieldLink RJ2 59 "java/lang/StringUTF16" "HI_BYTE_SHIFT" "I", Cond.fieldLink RJ2 63 "java/lang/StringUTF16" "LO_BYTE_SHIFT" "I"]
def wsJ0_charAt_5068e : List Cond := .code yJ0_charAt_5068e cJ0_charAt_5068e 2 (some .char) :: ((wsJ0_charAt_5068e_r1 ++ wsJ0_charAt_5068e_r2))
def wsX4_isWord_r1 : List Cond := [Cond.fieldLink RX4 25 "CowardsPot$Reader" "behind" "I", Cond.fieldLink RX4 22 "CowardsPot$Reader" "begin" "I", Cond.methodLink RX4 105 yJ0_length_8abf5, Cond.instanceMethod yJ0_length_8abf5, Cond.selects RJ0 yJ0_length_8abf5 yJ0_length_8abf5, Cond.initialized RJ0, Cond.code yJ0_length_8abf5 cJ0_length_8abf5 1 (some .int), Cond.fieldLink RJ0 9 "java/lang/String" "value" "[B", Cond.methodLink RJ0 335 yJ0_coder_7d493, Cond.instanceMethod yJ0_coder_7d493, Cond.selects RJ0 yJ0_coder_7d493 yJ0_coder_7d493, Cond.code yJ0_coder_7d493 cJ0_coder_7d493 1 (some .byte), Cond.fieldLink RJ0 38 "java/lang/String" "COMPACT_STRINGS" "Z", Cond.fieldLink RJ0 15 "java/lang/String" "coder" "B", Cond.methodLink RX4 48 yX6_at, Cond.instanceMethod yX6_at, Cond.selects RX6 yX6_at yX6_at, Cond.initialized RX6, Cond.code yX6_at cX6_at 2 (some .int), Cond.fieldLink RX6 15 "CowardsPot$Text" "length" "I", Cond.fieldLink RX6 9 "CowardsPot$Text" "letters" "[I", Cond.methodLink RX4 110 yJ0_charAt_5068e, Cond.instanceMethod yJ0_charAt_5068e, Cond.selects RJ0 yJ0_charAt_5068e yJ0_charAt_5068e]
def wsX4_isWord_r2 : List Cond := [Cond.code yJ0_charAt_5068e cJ0_charAt_5068e 2 (some .char), Cond.methodLink RJ0 492 yJ0_isLatin1_aae02, Cond.instanceMethod yJ0_isLatin1_aae02, Cond.selects RJ0 yJ0_isLatin1_aae02 yJ0_isLatin1_aae02, Cond.code yJ0_isLatin1_aae02 cJ0_isLatin1_aae02 1 (some .boolean), Cond.methodLink RJ0 495 yJ1_charAt_3b067, Cond.static yJ1_charAt_3b067, Cond.initialized RJ1, Cond.code yJ1_charAt_3b067 cJ1_charAt_3b067 2 (some .char), Cond.methodLink RJ1 9 yJ0_checkIndex_df160, Cond.static yJ0_checkIndex_df160, Cond.code yJ0_checkIndex_df160 cJ0_checkIndex_df160 2 none, Cond.fieldLink RJ0 1053 "jdk/internal/util/Preconditions" "SIOOBE_FORMATTER" "Ljava/util/function/BiFunction;", Cond.methodLink RJ0 1059 yJ3_checkIndex_8e157, Cond.static yJ3_checkIndex_8e157, Cond.initialized RJ3, Cond.code yJ3_checkIndex_8e157 cJ3_checkIndex_8e157 3 (some .int), Cond.methodLink RJ0 498 yJ2_charAt_3b067, Cond.static yJ2_charAt_3b067, Cond.initialized RJ2, Cond.code yJ2_charAt_3b067 cJ2_charAt_3b067 2 (some .char), Cond.methodLink RJ2 67 yJ2_checkIndex_2214a, Cond.static yJ2_checkIndex_2214a, Cond.code yJ2_checkIndex_2214a cJ2_checkIndex_2214a 2 none]
def wsX4_isWord_r3 : List Cond := [Cond.methodLink RJ2 48 yJ2_length_9d52b, Cond.static yJ2_length_9d52b, Cond.code yJ2_length_9d52b cJ2_length_9d52b 1 (some .int), Cond.methodLink RJ2 414 yJ0_checkIndex_df160, Cond.methodLink RJ2 71 yJ2_getChar_3b067, Cond.static yJ2_getChar_3b067, Cond.code yJ2_getChar_3b067 cJ2_getChar_3b067 2 (some .char), Cond.fieldLink RJ2 44 "java/lang/StringUTF16" "$assertionsDisabled" "Z", Cond.fieldLink RJ2 59 "java/lang/StringUTF16" "HI_BYTE_SHIFT" "I", Cond.fieldLink RJ2 63 "java/lang/StringUTF16" "LO_BYTE_SHIFT" "I"]
def wsX4_isWord : List Cond := .code yX4_isWord cX4_isWord 4 (some .boolean) :: ((wsX4_isWord_r1 ++ (wsX4_isWord_r2 ++ wsX4_isWord_r3)) ++ wsX40 ++ wsX60)
def wsX4_wordNumber_r1 : List Cond := [Cond.methodLink RX4 89 yX4_isWord, Cond.instanceMethod yX4_isWord, Cond.selects RX4 yX4_isWord yX4_isWord, Cond.initialized RX4, Cond.code yX4_isWord cX4_isWord 4 (some .boolean), Cond.fieldLink RX4 25 "CowardsPot$Reader" "behind" "I", Cond.fieldLink RX4 22 "CowardsPot$Reader" "begin" "I", Cond.methodLink RX4 105 yJ0_length_8abf5, Cond.instanceMethod yJ0_length_8abf5, Cond.selects RJ0 yJ0_length_8abf5 yJ0_length_8abf5, Cond.initialized RJ0, Cond.code yJ0_length_8abf5 cJ0_length_8abf5 1 (some .int), Cond.fieldLink RJ0 9 "java/lang/String" "value" "[B", Cond.methodLink RJ0 335 yJ0_coder_7d493, Cond.instanceMethod yJ0_coder_7d493, Cond.selects RJ0 yJ0_coder_7d493 yJ0_coder_7d493, Cond.code yJ0_coder_7d493 cJ0_coder_7d493 1 (some .byte), Cond.fieldLink RJ0 38 "java/lang/String" "COMPACT_STRINGS" "Z", Cond.fieldLink RJ0 15 "java/lang/String" "coder" "B", Cond.methodLink RX4 48 yX6_at, Cond.instanceMethod yX6_at, Cond.selects RX6 yX6_at yX6_at, Cond.initialized RX6, Cond.code yX6_at cX6_at 2 (some .int)]
def wsX4_wordNumber_r2 : List Cond := [Cond.fieldLink RX6 15 "CowardsPot$Text" "length" "I", Cond.fieldLink RX6 9 "CowardsPot$Text" "letters" "[I", Cond.methodLink RX4 110 yJ0_charAt_5068e, Cond.instanceMethod yJ0_charAt_5068e, Cond.selects RJ0 yJ0_charAt_5068e yJ0_charAt_5068e, Cond.code yJ0_charAt_5068e cJ0_charAt_5068e 2 (some .char), Cond.methodLink RJ0 492 yJ0_isLatin1_aae02, Cond.instanceMethod yJ0_isLatin1_aae02, Cond.selects RJ0 yJ0_isLatin1_aae02 yJ0_isLatin1_aae02, Cond.code yJ0_isLatin1_aae02 cJ0_isLatin1_aae02 1 (some .boolean), Cond.methodLink RJ0 495 yJ1_charAt_3b067, Cond.static yJ1_charAt_3b067, Cond.initialized RJ1, Cond.code yJ1_charAt_3b067 cJ1_charAt_3b067 2 (some .char), Cond.methodLink RJ1 9 yJ0_checkIndex_df160, Cond.static yJ0_checkIndex_df160, Cond.code yJ0_checkIndex_df160 cJ0_checkIndex_df160 2 none, Cond.fieldLink RJ0 1053 "jdk/internal/util/Preconditions" "SIOOBE_FORMATTER" "Ljava/util/function/BiFunction;", Cond.methodLink RJ0 1059 yJ3_checkIndex_8e157, Cond.static yJ3_checkIndex_8e157, Cond.initialized RJ3, Cond.code yJ3_checkIndex_8e157 cJ3_checkIndex_8e157 3 (some .int), Cond.methodLink RJ0 498 yJ2_charAt_3b067, Cond.static yJ2_charAt_3b067]
def wsX4_wordNumber_r3 : List Cond := [Cond.initialized RJ2, Cond.code yJ2_charAt_3b067 cJ2_charAt_3b067 2 (some .char), Cond.methodLink RJ2 67 yJ2_checkIndex_2214a, Cond.static yJ2_checkIndex_2214a, Cond.code yJ2_checkIndex_2214a cJ2_checkIndex_2214a 2 none, Cond.methodLink RJ2 48 yJ2_length_9d52b, Cond.static yJ2_length_9d52b, Cond.code yJ2_length_9d52b cJ2_length_9d52b 1 (some .int), Cond.methodLink RJ2 414 yJ0_checkIndex_df160, Cond.methodLink RJ2 71 yJ2_getChar_3b067, Cond.static yJ2_getChar_3b067, Cond.code yJ2_getChar_3b067 cJ2_getChar_3b067 2 (some .char), Cond.fieldLink RJ2 44 "java/lang/StringUTF16" "$assertionsDisabled" "Z", Cond.fieldLink RJ2 59 "java/lang/StringUTF16" "HI_BYTE_SHIFT" "I", Cond.fieldLink RJ2 63 "java/lang/StringUTF16" "LO_BYTE_SHIFT" "I"]
def wsX4_wordNumber : List Cond := .code yX4_wordNumber cX4_wordNumber 2 (some .int) :: ((wsX4_wordNumber_r1 ++ (wsX4_wordNumber_r2 ++ wsX4_wordNumber_r3)) ++ wsX40 ++ wsX60)
def wsX4_hasRoomFor : List Cond := .code yX4_hasRoomFor cX4_hasRoomFor 2 (some .boolean) :: ([.fieldLink RX4 12 "CowardsPot$Reader" "draft" "LCowardsPot$Hall;", .fieldLink RX4 114 "CowardsPot$Hall" "people" "I", .fieldLink RX4 117 "CowardsPot$Hall" "sorts" "I"] ++ wsX40 ++ wsX10)
def wsX4_isNumberRead : List Cond := .code yX4_isNumberRead cX4_isNumberRead 7 (some .boolean) :: ([.fieldLink RX4 25 "CowardsPot$Reader" "behind" "I", .fieldLink RX4 22 "CowardsPot$Reader" "begin" "I", .fieldLink RX4 28 "CowardsPot$Reader" "value" "I", .methodLink RX4 48 yX6_at, .instanceMethod yX6_at, .selects RX6 yX6_at yX6_at, .initialized RX6, .code yX6_at cX6_at 2 (some .int), .fieldLink RX6 15 "CowardsPot$Text" "length" "I", .fieldLink RX6 9 "CowardsPot$Text" "letters" "[I", .methodLink RX4 56 yX4_isDigit, .static yX4_isDigit, .initialized RX4, .code yX4_isDigit cX4_isDigit 1 (some .boolean)] ++ wsX40 ++ wsX60)
def wsX4_tell_r1 : List Cond := [Cond.fieldLink RX4 12 "CowardsPot$Reader" "draft" "LCowardsPot$Hall;", Cond.fieldLink RX4 124 "CowardsPot$Hall" "base" "I", Cond.fieldLink RX4 127 "CowardsPot$Hall" "step" "I", Cond.methodLink RX4 120 yX1_clearFor, Cond.instanceMethod yX1_clearFor, Cond.selects RX1 yX1_clearFor yX1_clearFor, Cond.initialized RX1, Cond.code yX1_clearFor cX1_clearFor 2 none, Cond.fieldLink RX1 9 "CowardsPot$Hall" "joints" "I", Cond.fieldLink RX1 15 "CowardsPot$Hall" "base" "I", Cond.fieldLink RX1 18 "CowardsPot$Hall" "step" "I", Cond.fieldLink RX1 21 "CowardsPot$Hall" "yearNumber" "I", Cond.fieldLink RX1 24 "CowardsPot$Hall" "people" "I", Cond.fieldLink RX1 27 "CowardsPot$Hall" "sorts" "I", Cond.methodLink RX4 130 yX1_addSort, Cond.instanceMethod yX1_addSort, Cond.selects RX1 yX1_addSort yX1_addSort, Cond.code yX1_addSort cX1_addSort 3 none, Cond.fieldLink RX1 52 "CowardsPot$Hall" "sortGain" "[I", Cond.fieldLink RX1 55 "CowardsPot$Hall" "sortFear" "[I", Cond.methodLink RX4 134 yX1_addPerson, Cond.instanceMethod yX1_addPerson, Cond.selects RX1 yX1_addPerson yX1_addPerson, Cond.code yX1_addPerson cX1_addPerson 3 none]
def wsX4_tell_r2 : List Cond := [Cond.fieldLink RX1 30 "CowardsPot$Hall" "kind" "[I", Cond.fieldLink RX1 34 "CowardsPot$Hall" "toldFame" "[I"]
def wsX4_tell : List Cond := .code yX4_tell cX4_tell 4 none :: ((wsX4_tell_r1 ++ wsX4_tell_r2) ++ wsX40 ++ wsX10)
def wsX4_isClauseRead_r1 : List Cond := [Cond.fieldLink RX4 28 "CowardsPot$Reader" "value" "I", Cond.methodLink RX4 59 yX4_wordNumber, Cond.instanceMethod yX4_wordNumber, Cond.selects RX4 yX4_wordNumber yX4_wordNumber, Cond.initialized RX4, Cond.code yX4_wordNumber cX4_wordNumber 2 (some .int), Cond.methodLink RX4 89 yX4_isWord, Cond.instanceMethod yX4_isWord, Cond.selects RX4 yX4_isWord yX4_isWord, Cond.code yX4_isWord cX4_isWord 4 (some .boolean), Cond.fieldLink RX4 25 "CowardsPot$Reader" "behind" "I", Cond.fieldLink RX4 22 "CowardsPot$Reader" "begin" "I", Cond.methodLink RX4 105 yJ0_length_8abf5, Cond.instanceMethod yJ0_length_8abf5, Cond.selects RJ0 yJ0_length_8abf5 yJ0_length_8abf5, Cond.initialized RJ0, Cond.code yJ0_length_8abf5 cJ0_length_8abf5 1 (some .int), Cond.fieldLink RJ0 9 "java/lang/String" "value" "[B", Cond.methodLink RJ0 335 yJ0_coder_7d493, Cond.instanceMethod yJ0_coder_7d493, Cond.selects RJ0 yJ0_coder_7d493 yJ0_coder_7d493, Cond.code yJ0_coder_7d493 cJ0_coder_7d493 1 (some .byte), Cond.fieldLink RJ0 38 "java/lang/String" "COMPACT_STRINGS" "Z", Cond.fieldLink RJ0 15 "java/lang/String" "coder" "B"]
def wsX4_isClauseRead_r2 : List Cond := [Cond.methodLink RX4 48 yX6_at, Cond.instanceMethod yX6_at, Cond.selects RX6 yX6_at yX6_at, Cond.initialized RX6, Cond.code yX6_at cX6_at 2 (some .int), Cond.fieldLink RX6 15 "CowardsPot$Text" "length" "I", Cond.fieldLink RX6 9 "CowardsPot$Text" "letters" "[I", Cond.methodLink RX4 110 yJ0_charAt_5068e, Cond.instanceMethod yJ0_charAt_5068e, Cond.selects RJ0 yJ0_charAt_5068e yJ0_charAt_5068e, Cond.code yJ0_charAt_5068e cJ0_charAt_5068e 2 (some .char), Cond.methodLink RJ0 492 yJ0_isLatin1_aae02, Cond.instanceMethod yJ0_isLatin1_aae02, Cond.selects RJ0 yJ0_isLatin1_aae02 yJ0_isLatin1_aae02, Cond.code yJ0_isLatin1_aae02 cJ0_isLatin1_aae02 1 (some .boolean), Cond.methodLink RJ0 495 yJ1_charAt_3b067, Cond.static yJ1_charAt_3b067, Cond.initialized RJ1, Cond.code yJ1_charAt_3b067 cJ1_charAt_3b067 2 (some .char), Cond.methodLink RJ1 9 yJ0_checkIndex_df160, Cond.static yJ0_checkIndex_df160, Cond.code yJ0_checkIndex_df160 cJ0_checkIndex_df160 2 none, Cond.fieldLink RJ0 1053 "jdk/internal/util/Preconditions" "SIOOBE_FORMATTER" "Ljava/util/function/BiFunction;", Cond.methodLink RJ0 1059 yJ3_checkIndex_8e157]
def wsX4_isClauseRead_r3 : List Cond := [Cond.static yJ3_checkIndex_8e157, Cond.initialized RJ3, Cond.code yJ3_checkIndex_8e157 cJ3_checkIndex_8e157 3 (some .int), Cond.methodLink RJ0 498 yJ2_charAt_3b067, Cond.static yJ2_charAt_3b067, Cond.initialized RJ2, Cond.code yJ2_charAt_3b067 cJ2_charAt_3b067 2 (some .char), Cond.methodLink RJ2 67 yJ2_checkIndex_2214a, Cond.static yJ2_checkIndex_2214a, Cond.code yJ2_checkIndex_2214a cJ2_checkIndex_2214a 2 none, Cond.methodLink RJ2 48 yJ2_length_9d52b, Cond.static yJ2_length_9d52b, Cond.code yJ2_length_9d52b cJ2_length_9d52b 1 (some .int), Cond.methodLink RJ2 414 yJ0_checkIndex_df160, Cond.methodLink RJ2 71 yJ2_getChar_3b067, Cond.static yJ2_getChar_3b067, Cond.code yJ2_getChar_3b067 cJ2_getChar_3b067 2 (some .char), Cond.fieldLink RJ2 44 "java/lang/StringUTF16" "$assertionsDisabled" "Z", Cond.fieldLink RJ2 59 "java/lang/StringUTF16" "HI_BYTE_SHIFT" "I", Cond.fieldLink RJ2 63 "java/lang/StringUTF16" "LO_BYTE_SHIFT" "I", Cond.methodLink RX4 63 yX4_hasRoomFor, Cond.instanceMethod yX4_hasRoomFor, Cond.selects RX4 yX4_hasRoomFor yX4_hasRoomFor, Cond.code yX4_hasRoomFor cX4_hasRoomFor 2 (some .boolean)]
def wsX4_isClauseRead_r4 : List Cond := [Cond.fieldLink RX4 12 "CowardsPot$Reader" "draft" "LCowardsPot$Hall;", Cond.fieldLink RX4 114 "CowardsPot$Hall" "people" "I", Cond.fieldLink RX4 117 "CowardsPot$Hall" "sorts" "I", Cond.methodLink RX4 35 yX4_goOn, Cond.instanceMethod yX4_goOn, Cond.selects RX4 yX4_goOn yX4_goOn, Cond.code yX4_goOn cX4_goOn 2 none, Cond.fieldLink RX4 43 "CowardsPot$Text" "length" "I", Cond.methodLink RX4 52 yX4_isSmallLetter, Cond.static yX4_isSmallLetter, Cond.code yX4_isSmallLetter cX4_isSmallLetter 1 (some .boolean), Cond.methodLink RX4 56 yX4_isDigit, Cond.static yX4_isDigit, Cond.code yX4_isDigit cX4_isDigit 1 (some .boolean), Cond.methodLink RX4 73 yX4_isNumberRead, Cond.instanceMethod yX4_isNumberRead, Cond.selects RX4 yX4_isNumberRead yX4_isNumberRead, Cond.code yX4_isNumberRead cX4_isNumberRead 7 (some .boolean), Cond.methodLink RX4 83 yX4_tell, Cond.instanceMethod yX4_tell, Cond.selects RX4 yX4_tell yX4_tell, Cond.code yX4_tell cX4_tell 4 none, Cond.fieldLink RX4 124 "CowardsPot$Hall" "base" "I", Cond.fieldLink RX4 127 "CowardsPot$Hall" "step" "I"]
def wsX4_isClauseRead_r5 : List Cond := [Cond.methodLink RX4 120 yX1_clearFor, Cond.instanceMethod yX1_clearFor, Cond.selects RX1 yX1_clearFor yX1_clearFor, Cond.initialized RX1, Cond.code yX1_clearFor cX1_clearFor 2 none, Cond.fieldLink RX1 9 "CowardsPot$Hall" "joints" "I", Cond.fieldLink RX1 15 "CowardsPot$Hall" "base" "I", Cond.fieldLink RX1 18 "CowardsPot$Hall" "step" "I", Cond.fieldLink RX1 21 "CowardsPot$Hall" "yearNumber" "I", Cond.fieldLink RX1 24 "CowardsPot$Hall" "people" "I", Cond.fieldLink RX1 27 "CowardsPot$Hall" "sorts" "I", Cond.methodLink RX4 130 yX1_addSort, Cond.instanceMethod yX1_addSort, Cond.selects RX1 yX1_addSort yX1_addSort, Cond.code yX1_addSort cX1_addSort 3 none, Cond.fieldLink RX1 52 "CowardsPot$Hall" "sortGain" "[I", Cond.fieldLink RX1 55 "CowardsPot$Hall" "sortFear" "[I", Cond.methodLink RX4 134 yX1_addPerson, Cond.instanceMethod yX1_addPerson, Cond.selects RX1 yX1_addPerson yX1_addPerson, Cond.code yX1_addPerson cX1_addPerson 3 none, Cond.fieldLink RX1 30 "CowardsPot$Hall" "kind" "[I", Cond.fieldLink RX1 34 "CowardsPot$Hall" "toldFame" "[I"]
def wsX4_isClauseRead : List Cond := .code yX4_isClauseRead cX4_isClauseRead 4 (some .boolean) :: ((wsX4_isClauseRead_r1 ++ (wsX4_isClauseRead_r2 ++ (wsX4_isClauseRead_r3 ++ (wsX4_isClauseRead_r4 ++ wsX4_isClauseRead_r5)))) ++ wsX40 ++ wsX60 ++ wsX10)
def wsX4_read_r1 : List Cond := [Cond.fieldLink RX4 12 "CowardsPot$Reader" "draft" "LCowardsPot$Hall;", Cond.fieldLink RX4 18 "CowardsPot$Reader" "clauses" "I", Cond.fieldLink RX4 25 "CowardsPot$Reader" "behind" "I", Cond.fieldLink RX4 22 "CowardsPot$Reader" "begin" "I", Cond.fieldLink RX4 43 "CowardsPot$Text" "length" "I", Cond.methodLink RX4 31 yX1_copyFrom, Cond.instanceMethod yX1_copyFrom, Cond.selects RX1 yX1_copyFrom yX1_copyFrom, Cond.initialized RX1, Cond.code yX1_copyFrom cX1_copyFrom 3 none, Cond.fieldLink RX1 9 "CowardsPot$Hall" "joints" "I", Cond.fieldLink RX1 15 "CowardsPot$Hall" "base" "I", Cond.fieldLink RX1 18 "CowardsPot$Hall" "step" "I", Cond.fieldLink RX1 21 "CowardsPot$Hall" "yearNumber" "I", Cond.fieldLink RX1 24 "CowardsPot$Hall" "people" "I", Cond.fieldLink RX1 27 "CowardsPot$Hall" "sorts" "I", Cond.fieldLink RX1 30 "CowardsPot$Hall" "kind" "[I", Cond.fieldLink RX1 34 "CowardsPot$Hall" "toldFame" "[I", Cond.fieldLink RX1 37 "CowardsPot$Hall" "fame" "[I", Cond.fieldLink RX1 40 "CowardsPot$Hall" "gain" "[I", Cond.fieldLink RX1 43 "CowardsPot$Hall" "fear" "[I", Cond.fieldLink RX1 46 "CowardsPot$Hall" "latest" "[I", Cond.fieldLink RX1 49 "CowardsPot$Hall" "had" "[I", Cond.fieldLink RX1 52 "CowardsPot$Hall" "sortGain" "[I"]
def wsX4_read_r2 : List Cond := [Cond.fieldLink RX1 55 "CowardsPot$Hall" "sortFear" "[I", Cond.methodLink RX4 35 yX4_goOn, Cond.instanceMethod yX4_goOn, Cond.selects RX4 yX4_goOn yX4_goOn, Cond.initialized RX4, Cond.code yX4_goOn cX4_goOn 2 none, Cond.methodLink RX4 48 yX6_at, Cond.instanceMethod yX6_at, Cond.selects RX6 yX6_at yX6_at, Cond.initialized RX6, Cond.code yX6_at cX6_at 2 (some .int), Cond.fieldLink RX6 15 "CowardsPot$Text" "length" "I", Cond.fieldLink RX6 9 "CowardsPot$Text" "letters" "[I", Cond.methodLink RX4 52 yX4_isSmallLetter, Cond.static yX4_isSmallLetter, Cond.code yX4_isSmallLetter cX4_isSmallLetter 1 (some .boolean), Cond.methodLink RX4 56 yX4_isDigit, Cond.static yX4_isDigit, Cond.code yX4_isDigit cX4_isDigit 1 (some .boolean), Cond.methodLink RX4 39 yX4_isClauseRead, Cond.instanceMethod yX4_isClauseRead, Cond.selects RX4 yX4_isClauseRead yX4_isClauseRead, Cond.code yX4_isClauseRead cX4_isClauseRead 4 (some .boolean), Cond.fieldLink RX4 28 "CowardsPot$Reader" "value" "I"]
def wsX4_read_r3 : List Cond := [Cond.methodLink RX4 59 yX4_wordNumber, Cond.instanceMethod yX4_wordNumber, Cond.selects RX4 yX4_wordNumber yX4_wordNumber, Cond.code yX4_wordNumber cX4_wordNumber 2 (some .int), Cond.methodLink RX4 89 yX4_isWord, Cond.instanceMethod yX4_isWord, Cond.selects RX4 yX4_isWord yX4_isWord, Cond.code yX4_isWord cX4_isWord 4 (some .boolean), Cond.methodLink RX4 105 yJ0_length_8abf5, Cond.instanceMethod yJ0_length_8abf5, Cond.selects RJ0 yJ0_length_8abf5 yJ0_length_8abf5, Cond.initialized RJ0, Cond.code yJ0_length_8abf5 cJ0_length_8abf5 1 (some .int), Cond.fieldLink RJ0 9 "java/lang/String" "value" "[B", Cond.methodLink RJ0 335 yJ0_coder_7d493, Cond.instanceMethod yJ0_coder_7d493, Cond.selects RJ0 yJ0_coder_7d493 yJ0_coder_7d493, Cond.code yJ0_coder_7d493 cJ0_coder_7d493 1 (some .byte), Cond.fieldLink RJ0 38 "java/lang/String" "COMPACT_STRINGS" "Z", Cond.fieldLink RJ0 15 "java/lang/String" "coder" "B", Cond.methodLink RX4 110 yJ0_charAt_5068e, Cond.instanceMethod yJ0_charAt_5068e, Cond.selects RJ0 yJ0_charAt_5068e yJ0_charAt_5068e, Cond.code yJ0_charAt_5068e cJ0_charAt_5068e 2 (some .char)]
def wsX4_read_r4 : List Cond := [Cond.methodLink RJ0 492 yJ0_isLatin1_aae02, Cond.instanceMethod yJ0_isLatin1_aae02, Cond.selects RJ0 yJ0_isLatin1_aae02 yJ0_isLatin1_aae02, Cond.code yJ0_isLatin1_aae02 cJ0_isLatin1_aae02 1 (some .boolean), Cond.methodLink RJ0 495 yJ1_charAt_3b067, Cond.static yJ1_charAt_3b067, Cond.initialized RJ1, Cond.code yJ1_charAt_3b067 cJ1_charAt_3b067 2 (some .char), Cond.methodLink RJ1 9 yJ0_checkIndex_df160, Cond.static yJ0_checkIndex_df160, Cond.code yJ0_checkIndex_df160 cJ0_checkIndex_df160 2 none, Cond.fieldLink RJ0 1053 "jdk/internal/util/Preconditions" "SIOOBE_FORMATTER" "Ljava/util/function/BiFunction;", Cond.methodLink RJ0 1059 yJ3_checkIndex_8e157, Cond.static yJ3_checkIndex_8e157, Cond.initialized RJ3, Cond.code yJ3_checkIndex_8e157 cJ3_checkIndex_8e157 3 (some .int), Cond.methodLink RJ0 498 yJ2_charAt_3b067, Cond.static yJ2_charAt_3b067, Cond.initialized RJ2, Cond.code yJ2_charAt_3b067 cJ2_charAt_3b067 2 (some .char), Cond.methodLink RJ2 67 yJ2_checkIndex_2214a, Cond.static yJ2_checkIndex_2214a, Cond.code yJ2_checkIndex_2214a cJ2_checkIndex_2214a 2 none, Cond.methodLink RJ2 48 yJ2_length_9d52b]
def wsX4_read_r5 : List Cond := [Cond.static yJ2_length_9d52b, Cond.code yJ2_length_9d52b cJ2_length_9d52b 1 (some .int), Cond.methodLink RJ2 414 yJ0_checkIndex_df160, Cond.methodLink RJ2 71 yJ2_getChar_3b067, Cond.static yJ2_getChar_3b067, Cond.code yJ2_getChar_3b067 cJ2_getChar_3b067 2 (some .char), Cond.fieldLink RJ2 44 "java/lang/StringUTF16" "$assertionsDisabled" "Z", Cond.fieldLink RJ2 59 "java/lang/StringUTF16" "HI_BYTE_SHIFT" "I", Cond.fieldLink RJ2 63 "java/lang/StringUTF16" "LO_BYTE_SHIFT" "I", Cond.methodLink RX4 63 yX4_hasRoomFor, Cond.instanceMethod yX4_hasRoomFor, Cond.selects RX4 yX4_hasRoomFor yX4_hasRoomFor, Cond.code yX4_hasRoomFor cX4_hasRoomFor 2 (some .boolean), Cond.fieldLink RX4 114 "CowardsPot$Hall" "people" "I", Cond.fieldLink RX4 117 "CowardsPot$Hall" "sorts" "I", Cond.methodLink RX4 73 yX4_isNumberRead, Cond.instanceMethod yX4_isNumberRead, Cond.selects RX4 yX4_isNumberRead yX4_isNumberRead, Cond.code yX4_isNumberRead cX4_isNumberRead 7 (some .boolean), Cond.methodLink RX4 83 yX4_tell, Cond.instanceMethod yX4_tell, Cond.selects RX4 yX4_tell yX4_tell, Cond.code yX4_tell cX4_tell 4 none, Cond.fieldLink RX4 124 "CowardsPot$Hall" "base" "I"]
def wsX4_read_r6 : List Cond := [Cond.fieldLink RX4 127 "CowardsPot$Hall" "step" "I", Cond.methodLink RX4 120 yX1_clearFor, Cond.instanceMethod yX1_clearFor, Cond.selects RX1 yX1_clearFor yX1_clearFor, Cond.code yX1_clearFor cX1_clearFor 2 none, Cond.methodLink RX4 130 yX1_addSort, Cond.instanceMethod yX1_addSort, Cond.selects RX1 yX1_addSort yX1_addSort, Cond.code yX1_addSort cX1_addSort 3 none, Cond.methodLink RX4 134 yX1_addPerson, Cond.instanceMethod yX1_addPerson, Cond.selects RX1 yX1_addPerson yX1_addPerson, Cond.code yX1_addPerson cX1_addPerson 3 none]
def wsX4_read : List Cond := .code yX4_read cX4_read 4 (some .int) :: ((wsX4_read_r1 ++ (wsX4_read_r2 ++ (wsX4_read_r3 ++ (wsX4_read_r4 ++ (wsX4_read_r5 ++ wsX4_read_r6))))) ++ wsX40 ++ wsX60 ++ wsX10)
def wsX5_init : List Cond := .code yX5_init cX5_init 1 none :: ([.methodLink RX5 3 objectInit, .instanceMethod objectInit, .code objectInit ⟨#[0xb1]⟩ 1 none, .arrayClass .int, .fieldLink RX5 9 "CowardsPot$Sightings" "scores" "[I", .fieldLink RX5 15 "CowardsPot$Sightings" "jointsHad" "[I", .fieldLink RX5 18 "CowardsPot$Sightings" "many" "I", .fieldLink RX5 22 "CowardsPot$Sightings" "scalesFound" "I", .fieldLink RX5 25 "CowardsPot$Sightings" "leastBase" "I", .fieldLink RX5 28 "CowardsPot$Sightings" "leastStep" "I", .classLink RX5 31 "[[I", .fieldLink RX5 33 "CowardsPot$Sightings" "bounds" "[[I", .fieldLink RX5 36 "CowardsPot$Sightings" "reached" "[I"] ++ wsX50)
def wsX5_add : List Cond := .code yX5_add cX5_add 3 none :: ([.fieldLink RX5 18 "CowardsPot$Sightings" "many" "I", .fieldLink RX5 9 "CowardsPot$Sightings" "scores" "[I", .fieldLink RX5 15 "CowardsPot$Sightings" "jointsHad" "[I"] ++ wsX50)
def wsX7_jointFor : List Cond := .code yX7_jointFor cX7_jointFor 5 (some .int) :: ([])
def wsX5_isSo : List Cond := .code yX5_isSo cX5_isSo 5 (some .boolean) :: ([.fieldLink RX5 18 "CowardsPot$Sightings" "many" "I", .fieldLink RX5 9 "CowardsPot$Sightings" "scores" "[I", .fieldLink RX5 15 "CowardsPot$Sightings" "jointsHad" "[I", .static yX7_jointFor, .initialized RX7, .code yX7_jointFor cX7_jointFor 5 (some .int)] ++ wsX50)
def wsX5_clearScales : List Cond := .code yX5_clearScales cX5_clearScales 3 none :: ([.fieldLink RX5 22 "CowardsPot$Sightings" "scalesFound" "I", .fieldLink RX5 25 "CowardsPot$Sightings" "leastBase" "I", .fieldLink RX5 28 "CowardsPot$Sightings" "leastStep" "I", .fieldLink RX5 36 "CowardsPot$Sightings" "reached" "[I", .fieldLink RX5 33 "CowardsPot$Sightings" "bounds" "[[I"] ++ wsX50)
def wsX5_noteScale : List Cond := .code yX5_noteScale cX5_noteScale 5 none :: ([.fieldLink RX5 22 "CowardsPot$Sightings" "scalesFound" "I", .fieldLink RX5 25 "CowardsPot$Sightings" "leastBase" "I", .fieldLink RX5 28 "CowardsPot$Sightings" "leastStep" "I", .fieldLink RX5 33 "CowardsPot$Sightings" "bounds" "[[I", .methodLink RX5 54 Lib.Math.max.name, .static Lib.Math.max.name, .initialized "java/lang/Math", .code Lib.Math.max.name Lib.Math.max.code 2 (some .int)] ++ wsX50)
def wsX5_findScales_r1 : List Cond := [Cond.methodLink RX5 43 yX5_clearScales, Cond.instanceMethod yX5_clearScales, Cond.selects RX5 yX5_clearScales yX5_clearScales, Cond.initialized RX5, Cond.code yX5_clearScales cX5_clearScales 3 none, Cond.fieldLink RX5 22 "CowardsPot$Sightings" "scalesFound" "I", Cond.fieldLink RX5 25 "CowardsPot$Sightings" "leastBase" "I", Cond.fieldLink RX5 28 "CowardsPot$Sightings" "leastStep" "I", Cond.fieldLink RX5 36 "CowardsPot$Sightings" "reached" "[I", Cond.fieldLink RX5 33 "CowardsPot$Sightings" "bounds" "[[I", Cond.methodLink RX5 46 yX5_isSo, Cond.instanceMethod yX5_isSo, Cond.selects RX5 yX5_isSo yX5_isSo, Cond.code yX5_isSo cX5_isSo 5 (some .boolean), Cond.fieldLink RX5 18 "CowardsPot$Sightings" "many" "I", Cond.fieldLink RX5 9 "CowardsPot$Sightings" "scores" "[I", Cond.fieldLink RX5 15 "CowardsPot$Sightings" "jointsHad" "[I", Cond.static yX7_jointFor, Cond.initialized RX7, Cond.code yX7_jointFor cX7_jointFor 5 (some .int), Cond.methodLink RX5 50 yX5_noteScale, Cond.instanceMethod yX5_noteScale, Cond.selects RX5 yX5_noteScale yX5_noteScale, Cond.code yX5_noteScale cX5_noteScale 5 none]
def wsX5_findScales_r2 : List Cond := [Cond.methodLink RX5 54 Lib.Math.max.name, Cond.static Lib.Math.max.name, Cond.initialized "java/lang/Math", Cond.code Lib.Math.max.name Lib.Math.max.code 2 (some .int)]
def wsX5_findScales : List Cond := .code yX5_findScales cX5_findScales 4 none :: ((wsX5_findScales_r1 ++ wsX5_findScales_r2) ++ wsX50)
def wsX5_mostAlike : List Cond := .code yX5_mostAlike cX5_mostAlike 6 (some .int) :: ([.fieldLink RX5 36 "CowardsPot$Sightings" "reached" "[I", .fieldLink RX5 33 "CowardsPot$Sightings" "bounds" "[[I", .methodLink RX5 54 Lib.Math.max.name, .static Lib.Math.max.name, .initialized "java/lang/Math", .code Lib.Math.max.name Lib.Math.max.code 2 (some .int), .fieldLink RX5 22 "CowardsPot$Sightings" "scalesFound" "I"] ++ wsX50)
def wsX5_mostTelling_r1 : List Cond := [Cond.fieldLink RX5 22 "CowardsPot$Sightings" "scalesFound" "I", Cond.methodLink RX5 60 yX5_findScales, Cond.instanceMethod yX5_findScales, Cond.selects RX5 yX5_findScales yX5_findScales, Cond.initialized RX5, Cond.code yX5_findScales cX5_findScales 4 none, Cond.methodLink RX5 43 yX5_clearScales, Cond.instanceMethod yX5_clearScales, Cond.selects RX5 yX5_clearScales yX5_clearScales, Cond.code yX5_clearScales cX5_clearScales 3 none, Cond.fieldLink RX5 25 "CowardsPot$Sightings" "leastBase" "I", Cond.fieldLink RX5 28 "CowardsPot$Sightings" "leastStep" "I", Cond.fieldLink RX5 36 "CowardsPot$Sightings" "reached" "[I", Cond.fieldLink RX5 33 "CowardsPot$Sightings" "bounds" "[[I", Cond.methodLink RX5 46 yX5_isSo, Cond.instanceMethod yX5_isSo, Cond.selects RX5 yX5_isSo yX5_isSo, Cond.code yX5_isSo cX5_isSo 5 (some .boolean), Cond.fieldLink RX5 18 "CowardsPot$Sightings" "many" "I", Cond.fieldLink RX5 9 "CowardsPot$Sightings" "scores" "[I", Cond.fieldLink RX5 15 "CowardsPot$Sightings" "jointsHad" "[I", Cond.static yX7_jointFor, Cond.initialized RX7, Cond.code yX7_jointFor cX7_jointFor 5 (some .int)]
def wsX5_mostTelling_r2 : List Cond := [Cond.methodLink RX5 50 yX5_noteScale, Cond.instanceMethod yX5_noteScale, Cond.selects RX5 yX5_noteScale yX5_noteScale, Cond.code yX5_noteScale cX5_noteScale 5 none, Cond.methodLink RX5 54 Lib.Math.max.name, Cond.static Lib.Math.max.name, Cond.initialized "java/lang/Math", Cond.code Lib.Math.max.name Lib.Math.max.code 2 (some .int), Cond.methodLink RX5 64 yX5_mostAlike, Cond.instanceMethod yX5_mostAlike, Cond.selects RX5 yX5_mostAlike yX5_mostAlike, Cond.code yX5_mostAlike cX5_mostAlike 6 (some .int)]
def wsX5_mostTelling : List Cond := .code yX5_mostTelling cX5_mostTelling 6 (some .int) :: ((wsX5_mostTelling_r1 ++ wsX5_mostTelling_r2) ++ wsX50)
def wsX6_add : List Cond := .code yX6_add cX6_add 2 none :: ([.fieldLink RX6 15 "CowardsPot$Text" "length" "I", .fieldLink RX6 9 "CowardsPot$Text" "letters" "[I"] ++ wsX60)
def wsX6_copyFrom : List Cond := .code yX6_copyFrom cX6_copyFrom 2 none :: ([.fieldLink RX6 15 "CowardsPot$Text" "length" "I", .fieldLink RX6 9 "CowardsPot$Text" "letters" "[I", .methodLink RX6 19 arraycopyName, .native arraycopyName, .static arraycopyName, .initialized "java/lang/System"] ++ wsX60)
def wsX7_init_r1 : List Cond := [Cond.methodLink RX7 1 objectInit, Cond.instanceMethod objectInit, Cond.code objectInit ⟨#[0xb1]⟩ 1 none, Cond.classLink RX7 7 RX6, Cond.instantiable RX6 2, Cond.initialized RX6, Cond.fieldLink RX7 10 "CowardsPot" "text" "LCowardsPot$Text;", Cond.classLink RX7 16 RX1, Cond.instantiable RX1 16, Cond.initialized RX1, Cond.fieldLink RX7 19 "CowardsPot" "now" "LCowardsPot$Hall;", Cond.classLink RX7 23 RX4, Cond.instantiable RX4 5, Cond.initialized RX4, Cond.fieldLink RX7 26 "CowardsPot" "reader" "LCowardsPot$Reader;", Cond.classLink RX7 30 RX3, Cond.instantiable RX3 3, Cond.initialized RX3, Cond.fieldLink RX7 33 "CowardsPot" "past" "LCowardsPot$Past;", Cond.classLink RX7 37 RX2, Cond.fieldLink RX7 39 "CowardsPot" "kept" "[LCowardsPot$Kept;", Cond.classLink RX7 43 RX5, Cond.instantiable RX5 8, Cond.initialized RX5]
def wsX7_init_r2 : List Cond := [Cond.fieldLink RX7 46 "CowardsPot" "sightings" "LCowardsPot$Sightings;", Cond.classLink RX7 50 RX0, Cond.instantiable RX0 6, Cond.initialized RX0, Cond.fieldLink RX7 53 "CowardsPot" "foretelling" "LCowardsPot$Foretelling;", Cond.instantiable RX2 3, Cond.initialized RX2, Cond.instanceMethod yX6_init, Cond.code yX6_init cX6_init 1 none, Cond.methodLink RX6 3 objectInit, Cond.arrayClass .int, Cond.fieldLink RX6 9 "CowardsPot$Text" "letters" "[I", Cond.fieldLink RX6 15 "CowardsPot$Text" "length" "I", Cond.instanceMethod yX1_init, Cond.code yX1_init cX1_init 1 none, Cond.methodLink RX1 3 objectInit, Cond.fieldLink RX1 9 "CowardsPot$Hall" "joints" "I", Cond.fieldLink RX1 15 "CowardsPot$Hall" "base" "I", Cond.fieldLink RX1 18 "CowardsPot$Hall" "step" "I", Cond.fieldLink RX1 21 "CowardsPot$Hall" "yearNumber" "I", Cond.fieldLink RX1 24 "CowardsPot$Hall" "people" "I", Cond.fieldLink RX1 27 "CowardsPot$Hall" "sorts" "I", Cond.fieldLink RX1 30 "CowardsPot$Hall" "kind" "[I", Cond.fieldLink RX1 34 "CowardsPot$Hall" "toldFame" "[I"]
def wsX7_init_r3 : List Cond := [Cond.fieldLink RX1 37 "CowardsPot$Hall" "fame" "[I", Cond.fieldLink RX1 40 "CowardsPot$Hall" "gain" "[I", Cond.fieldLink RX1 43 "CowardsPot$Hall" "fear" "[I", Cond.fieldLink RX1 46 "CowardsPot$Hall" "latest" "[I", Cond.fieldLink RX1 49 "CowardsPot$Hall" "had" "[I", Cond.fieldLink RX1 52 "CowardsPot$Hall" "sortGain" "[I", Cond.fieldLink RX1 55 "CowardsPot$Hall" "sortFear" "[I", Cond.fieldLink RX1 58 "CowardsPot$Hall" "scores" "[I", Cond.instanceMethod yX4_init, Cond.code yX4_init cX4_init 1 none, Cond.methodLink RX4 3 objectInit, Cond.classLink RX4 9 RX1, Cond.fieldLink RX4 12 "CowardsPot$Reader" "draft" "LCowardsPot$Hall;", Cond.fieldLink RX4 18 "CowardsPot$Reader" "clauses" "I", Cond.fieldLink RX4 22 "CowardsPot$Reader" "begin" "I", Cond.fieldLink RX4 25 "CowardsPot$Reader" "behind" "I", Cond.fieldLink RX4 28 "CowardsPot$Reader" "value" "I", Cond.methodLink RX7 32 yX3_init, Cond.instanceMethod yX3_init, Cond.code yX3_init cX3_init 2 none, Cond.methodLink RX3 3 objectInit, Cond.classLink RX3 9 RX1, Cond.fieldLink RX3 11 "CowardsPot$Past" "halls" "[LCowardsPot$Hall;", Cond.fieldLink RX3 17 "CowardsPot$Past" "top" "I"]
def wsX7_init_r4 : List Cond := [Cond.fieldLink RX3 21 "CowardsPot$Past" "many" "I", Cond.instanceMethod yX5_init, Cond.code yX5_init cX5_init 1 none, Cond.methodLink RX5 3 objectInit, Cond.fieldLink RX5 9 "CowardsPot$Sightings" "scores" "[I", Cond.fieldLink RX5 15 "CowardsPot$Sightings" "jointsHad" "[I", Cond.fieldLink RX5 18 "CowardsPot$Sightings" "many" "I", Cond.fieldLink RX5 22 "CowardsPot$Sightings" "scalesFound" "I", Cond.fieldLink RX5 25 "CowardsPot$Sightings" "leastBase" "I", Cond.fieldLink RX5 28 "CowardsPot$Sightings" "leastStep" "I", Cond.classLink RX5 31 "[[I", Cond.fieldLink RX5 33 "CowardsPot$Sightings" "bounds" "[[I", Cond.fieldLink RX5 36 "CowardsPot$Sightings" "reached" "[I", Cond.instanceMethod yX0_init, Cond.code yX0_init cX0_init 1 none, Cond.methodLink RX0 3 objectInit, Cond.classLink RX0 9 RX1, Cond.fieldLink RX0 12 "CowardsPot$Foretelling" "trial" "LCowardsPot$Hall;", Cond.fieldLink RX0 18 "CowardsPot$Foretelling" "served" "[I", Cond.fieldLink RX0 22 "CowardsPot$Foretelling" "tried" "[I", Cond.fieldLink RX0 25 "CowardsPot$Foretelling" "chosen" "[I", Cond.fieldLink RX0 28 "CowardsPot$Foretelling" "chosenMany" "I", Cond.fieldLink RX0 32 "CowardsPot$Foretelling" "chosenFear" "I", Cond.instanceMethod yX2_init]
def wsX7_init_r5 : List Cond := [Cond.code yX2_init cX2_init 1 none, Cond.methodLink RX2 1 objectInit, Cond.classLink RX2 7 RX1, Cond.fieldLink RX2 10 "CowardsPot$Kept" "hall" "LCowardsPot$Hall;", Cond.classLink RX2 16 RX6, Cond.fieldLink RX2 19 "CowardsPot$Kept" "text" "LCowardsPot$Text;", Cond.fieldLink RX2 23 "CowardsPot$Kept" "isThere" "Z"]
def wsX7_init : List Cond := .code yX7_init cX7_init 2 none :: ((wsX7_init_r1 ++ (wsX7_init_r2 ++ (wsX7_init_r3 ++ (wsX7_init_r4 ++ wsX7_init_r5)))) ++ wsX60 ++ wsX70 ++ wsX10 ++ wsX40 ++ wsX30 ++ wsX50 ++ wsX00 ++ wsX20)
def wsX7_write : List Cond := .code yX7_write cX7_write 2 (some .int) :: ([.fieldLink RX7 10 "CowardsPot" "text" "LCowardsPot$Text;", .fieldLink RX7 58 "CowardsPot$Text" "length" "I", .methodLink RX7 62 yX6_add, .instanceMethod yX6_add, .selects RX6 yX6_add yX6_add, .initialized RX6, .code yX6_add cX6_add 2 none, .fieldLink RX6 15 "CowardsPot$Text" "length" "I", .fieldLink RX6 9 "CowardsPot$Text" "letters" "[I"] ++ wsX70 ++ wsX60)
def wsX7_erase : List Cond := .code yX7_erase cX7_erase 2 (some .int) :: ([.fieldLink RX7 10 "CowardsPot" "text" "LCowardsPot$Text;", .fieldLink RX7 58 "CowardsPot$Text" "length" "I"] ++ wsX70 ++ wsX60)
def wsX7_fault_r1 : List Cond := [Cond.fieldLink RX7 26 "CowardsPot" "reader" "LCowardsPot$Reader;", Cond.fieldLink RX7 10 "CowardsPot" "text" "LCowardsPot$Text;", Cond.fieldLink RX7 19 "CowardsPot" "now" "LCowardsPot$Hall;", Cond.methodLink RX7 66 yX4_read, Cond.instanceMethod yX4_read, Cond.selects RX4 yX4_read yX4_read, Cond.initialized RX4, Cond.code yX4_read cX4_read 4 (some .int), Cond.fieldLink RX4 12 "CowardsPot$Reader" "draft" "LCowardsPot$Hall;", Cond.fieldLink RX4 18 "CowardsPot$Reader" "clauses" "I", Cond.fieldLink RX4 25 "CowardsPot$Reader" "behind" "I", Cond.fieldLink RX4 22 "CowardsPot$Reader" "begin" "I", Cond.fieldLink RX4 43 "CowardsPot$Text" "length" "I", Cond.methodLink RX4 31 yX1_copyFrom, Cond.instanceMethod yX1_copyFrom, Cond.selects RX1 yX1_copyFrom yX1_copyFrom, Cond.initialized RX1, Cond.code yX1_copyFrom cX1_copyFrom 3 none, Cond.fieldLink RX1 9 "CowardsPot$Hall" "joints" "I", Cond.fieldLink RX1 15 "CowardsPot$Hall" "base" "I", Cond.fieldLink RX1 18 "CowardsPot$Hall" "step" "I", Cond.fieldLink RX1 21 "CowardsPot$Hall" "yearNumber" "I", Cond.fieldLink RX1 24 "CowardsPot$Hall" "people" "I", Cond.fieldLink RX1 27 "CowardsPot$Hall" "sorts" "I"]
def wsX7_fault_r2 : List Cond := [Cond.fieldLink RX1 30 "CowardsPot$Hall" "kind" "[I", Cond.fieldLink RX1 34 "CowardsPot$Hall" "toldFame" "[I", Cond.fieldLink RX1 37 "CowardsPot$Hall" "fame" "[I", Cond.fieldLink RX1 40 "CowardsPot$Hall" "gain" "[I", Cond.fieldLink RX1 43 "CowardsPot$Hall" "fear" "[I", Cond.fieldLink RX1 46 "CowardsPot$Hall" "latest" "[I", Cond.fieldLink RX1 49 "CowardsPot$Hall" "had" "[I", Cond.fieldLink RX1 52 "CowardsPot$Hall" "sortGain" "[I", Cond.fieldLink RX1 55 "CowardsPot$Hall" "sortFear" "[I", Cond.methodLink RX4 35 yX4_goOn, Cond.instanceMethod yX4_goOn, Cond.selects RX4 yX4_goOn yX4_goOn, Cond.code yX4_goOn cX4_goOn 2 none, Cond.methodLink RX4 48 yX6_at, Cond.instanceMethod yX6_at, Cond.selects RX6 yX6_at yX6_at, Cond.initialized RX6, Cond.code yX6_at cX6_at 2 (some .int), Cond.fieldLink RX6 15 "CowardsPot$Text" "length" "I", Cond.fieldLink RX6 9 "CowardsPot$Text" "letters" "[I", Cond.methodLink RX4 52 yX4_isSmallLetter, Cond.static yX4_isSmallLetter, Cond.code yX4_isSmallLetter cX4_isSmallLetter 1 (some .boolean), Cond.methodLink RX4 56 yX4_isDigit]
def wsX7_fault_r3 : List Cond := [Cond.static yX4_isDigit, Cond.code yX4_isDigit cX4_isDigit 1 (some .boolean), Cond.methodLink RX4 39 yX4_isClauseRead, Cond.instanceMethod yX4_isClauseRead, Cond.selects RX4 yX4_isClauseRead yX4_isClauseRead, Cond.code yX4_isClauseRead cX4_isClauseRead 4 (some .boolean), Cond.fieldLink RX4 28 "CowardsPot$Reader" "value" "I", Cond.methodLink RX4 59 yX4_wordNumber, Cond.instanceMethod yX4_wordNumber, Cond.selects RX4 yX4_wordNumber yX4_wordNumber, Cond.code yX4_wordNumber cX4_wordNumber 2 (some .int), Cond.methodLink RX4 89 yX4_isWord, Cond.instanceMethod yX4_isWord, Cond.selects RX4 yX4_isWord yX4_isWord, Cond.code yX4_isWord cX4_isWord 4 (some .boolean), Cond.methodLink RX4 105 yJ0_length_8abf5, Cond.instanceMethod yJ0_length_8abf5, Cond.selects RJ0 yJ0_length_8abf5 yJ0_length_8abf5, Cond.initialized RJ0, Cond.code yJ0_length_8abf5 cJ0_length_8abf5 1 (some .int), Cond.fieldLink RJ0 9 "java/lang/String" "value" "[B", Cond.methodLink RJ0 335 yJ0_coder_7d493, Cond.instanceMethod yJ0_coder_7d493, Cond.selects RJ0 yJ0_coder_7d493 yJ0_coder_7d493]
def wsX7_fault_r4 : List Cond := [Cond.code yJ0_coder_7d493 cJ0_coder_7d493 1 (some .byte), Cond.fieldLink RJ0 38 "java/lang/String" "COMPACT_STRINGS" "Z", Cond.fieldLink RJ0 15 "java/lang/String" "coder" "B", Cond.methodLink RX4 110 yJ0_charAt_5068e, Cond.instanceMethod yJ0_charAt_5068e, Cond.selects RJ0 yJ0_charAt_5068e yJ0_charAt_5068e, Cond.code yJ0_charAt_5068e cJ0_charAt_5068e 2 (some .char), Cond.methodLink RJ0 492 yJ0_isLatin1_aae02, Cond.instanceMethod yJ0_isLatin1_aae02, Cond.selects RJ0 yJ0_isLatin1_aae02 yJ0_isLatin1_aae02, Cond.code yJ0_isLatin1_aae02 cJ0_isLatin1_aae02 1 (some .boolean), Cond.methodLink RJ0 495 yJ1_charAt_3b067, Cond.static yJ1_charAt_3b067, Cond.initialized RJ1, Cond.code yJ1_charAt_3b067 cJ1_charAt_3b067 2 (some .char), Cond.methodLink RJ1 9 yJ0_checkIndex_df160, Cond.static yJ0_checkIndex_df160, Cond.code yJ0_checkIndex_df160 cJ0_checkIndex_df160 2 none, Cond.fieldLink RJ0 1053 "jdk/internal/util/Preconditions" "SIOOBE_FORMATTER" "Ljava/util/function/BiFunction;", Cond.methodLink RJ0 1059 yJ3_checkIndex_8e157, Cond.static yJ3_checkIndex_8e157, Cond.initialized RJ3, Cond.code yJ3_checkIndex_8e157 cJ3_checkIndex_8e157 3 (some .int), Cond.methodLink RJ0 498 yJ2_charAt_3b067]
def wsX7_fault_r5 : List Cond := [Cond.static yJ2_charAt_3b067, Cond.initialized RJ2, Cond.code yJ2_charAt_3b067 cJ2_charAt_3b067 2 (some .char), Cond.methodLink RJ2 67 yJ2_checkIndex_2214a, Cond.static yJ2_checkIndex_2214a, Cond.code yJ2_checkIndex_2214a cJ2_checkIndex_2214a 2 none, Cond.methodLink RJ2 48 yJ2_length_9d52b, Cond.static yJ2_length_9d52b, Cond.code yJ2_length_9d52b cJ2_length_9d52b 1 (some .int), Cond.methodLink RJ2 414 yJ0_checkIndex_df160, Cond.methodLink RJ2 71 yJ2_getChar_3b067, Cond.static yJ2_getChar_3b067, Cond.code yJ2_getChar_3b067 cJ2_getChar_3b067 2 (some .char), Cond.fieldLink RJ2 44 "java/lang/StringUTF16" "$assertionsDisabled" "Z", Cond.fieldLink RJ2 59 "java/lang/StringUTF16" "HI_BYTE_SHIFT" "I", Cond.fieldLink RJ2 63 "java/lang/StringUTF16" "LO_BYTE_SHIFT" "I", Cond.methodLink RX4 63 yX4_hasRoomFor, Cond.instanceMethod yX4_hasRoomFor, Cond.selects RX4 yX4_hasRoomFor yX4_hasRoomFor, Cond.code yX4_hasRoomFor cX4_hasRoomFor 2 (some .boolean), Cond.fieldLink RX4 114 "CowardsPot$Hall" "people" "I", Cond.fieldLink RX4 117 "CowardsPot$Hall" "sorts" "I", Cond.methodLink RX4 73 yX4_isNumberRead, Cond.instanceMethod yX4_isNumberRead]
def wsX7_fault_r6 : List Cond := [Cond.selects RX4 yX4_isNumberRead yX4_isNumberRead, Cond.code yX4_isNumberRead cX4_isNumberRead 7 (some .boolean), Cond.methodLink RX4 83 yX4_tell, Cond.instanceMethod yX4_tell, Cond.selects RX4 yX4_tell yX4_tell, Cond.code yX4_tell cX4_tell 4 none, Cond.fieldLink RX4 124 "CowardsPot$Hall" "base" "I", Cond.fieldLink RX4 127 "CowardsPot$Hall" "step" "I", Cond.methodLink RX4 120 yX1_clearFor, Cond.instanceMethod yX1_clearFor, Cond.selects RX1 yX1_clearFor yX1_clearFor, Cond.code yX1_clearFor cX1_clearFor 2 none, Cond.methodLink RX4 130 yX1_addSort, Cond.instanceMethod yX1_addSort, Cond.selects RX1 yX1_addSort yX1_addSort, Cond.code yX1_addSort cX1_addSort 3 none, Cond.methodLink RX4 134 yX1_addPerson, Cond.instanceMethod yX1_addPerson, Cond.selects RX1 yX1_addPerson yX1_addPerson, Cond.code yX1_addPerson cX1_addPerson 3 none]
def wsX7_fault : List Cond := .code yX7_fault cX7_fault 1 (some .int) :: ((wsX7_fault_r1 ++ (wsX7_fault_r2 ++ (wsX7_fault_r3 ++ (wsX7_fault_r4 ++ (wsX7_fault_r5 ++ wsX7_fault_r6))))) ++ wsX70 ++ wsX40 ++ wsX60 ++ wsX10)
def wsX7_hall_r1 : List Cond := [Cond.fieldLink RX7 26 "CowardsPot" "reader" "LCowardsPot$Reader;", Cond.fieldLink RX7 10 "CowardsPot" "text" "LCowardsPot$Text;", Cond.fieldLink RX7 19 "CowardsPot" "now" "LCowardsPot$Hall;", Cond.fieldLink RX7 70 "CowardsPot$Reader" "draft" "LCowardsPot$Hall;", Cond.fieldLink RX7 58 "CowardsPot$Text" "length" "I", Cond.fieldLink RX7 46 "CowardsPot" "sightings" "LCowardsPot$Sightings;", Cond.fieldLink RX7 80 "CowardsPot$Sightings" "many" "I", Cond.fieldLink RX7 33 "CowardsPot" "past" "LCowardsPot$Past;", Cond.fieldLink RX7 83 "CowardsPot$Past" "many" "I", Cond.fieldLink RX7 39 "CowardsPot" "kept" "[LCowardsPot$Kept;", Cond.fieldLink RX7 84 "CowardsPot$Kept" "isThere" "Z", Cond.fieldLink RX7 88 "CowardsPot$Reader" "clauses" "I", Cond.methodLink RX7 66 yX4_read, Cond.instanceMethod yX4_read, Cond.selects RX4 yX4_read yX4_read, Cond.initialized RX4, Cond.code yX4_read cX4_read 4 (some .int), Cond.fieldLink RX4 12 "CowardsPot$Reader" "draft" "LCowardsPot$Hall;", Cond.fieldLink RX4 18 "CowardsPot$Reader" "clauses" "I", Cond.fieldLink RX4 25 "CowardsPot$Reader" "behind" "I", Cond.fieldLink RX4 22 "CowardsPot$Reader" "begin" "I", Cond.fieldLink RX4 43 "CowardsPot$Text" "length" "I", Cond.methodLink RX4 31 yX1_copyFrom, Cond.instanceMethod yX1_copyFrom]
def wsX7_hall_r2 : List Cond := [Cond.selects RX1 yX1_copyFrom yX1_copyFrom, Cond.initialized RX1, Cond.code yX1_copyFrom cX1_copyFrom 3 none, Cond.fieldLink RX1 9 "CowardsPot$Hall" "joints" "I", Cond.fieldLink RX1 15 "CowardsPot$Hall" "base" "I", Cond.fieldLink RX1 18 "CowardsPot$Hall" "step" "I", Cond.fieldLink RX1 21 "CowardsPot$Hall" "yearNumber" "I", Cond.fieldLink RX1 24 "CowardsPot$Hall" "people" "I", Cond.fieldLink RX1 27 "CowardsPot$Hall" "sorts" "I", Cond.fieldLink RX1 30 "CowardsPot$Hall" "kind" "[I", Cond.fieldLink RX1 34 "CowardsPot$Hall" "toldFame" "[I", Cond.fieldLink RX1 37 "CowardsPot$Hall" "fame" "[I", Cond.fieldLink RX1 40 "CowardsPot$Hall" "gain" "[I", Cond.fieldLink RX1 43 "CowardsPot$Hall" "fear" "[I", Cond.fieldLink RX1 46 "CowardsPot$Hall" "latest" "[I", Cond.fieldLink RX1 49 "CowardsPot$Hall" "had" "[I", Cond.fieldLink RX1 52 "CowardsPot$Hall" "sortGain" "[I", Cond.fieldLink RX1 55 "CowardsPot$Hall" "sortFear" "[I", Cond.methodLink RX4 35 yX4_goOn, Cond.instanceMethod yX4_goOn, Cond.selects RX4 yX4_goOn yX4_goOn, Cond.code yX4_goOn cX4_goOn 2 none, Cond.methodLink RX4 48 yX6_at, Cond.instanceMethod yX6_at]
def wsX7_hall_r3 : List Cond := [Cond.selects RX6 yX6_at yX6_at, Cond.initialized RX6, Cond.code yX6_at cX6_at 2 (some .int), Cond.fieldLink RX6 15 "CowardsPot$Text" "length" "I", Cond.fieldLink RX6 9 "CowardsPot$Text" "letters" "[I", Cond.methodLink RX4 52 yX4_isSmallLetter, Cond.static yX4_isSmallLetter, Cond.code yX4_isSmallLetter cX4_isSmallLetter 1 (some .boolean), Cond.methodLink RX4 56 yX4_isDigit, Cond.static yX4_isDigit, Cond.code yX4_isDigit cX4_isDigit 1 (some .boolean), Cond.methodLink RX4 39 yX4_isClauseRead, Cond.instanceMethod yX4_isClauseRead, Cond.selects RX4 yX4_isClauseRead yX4_isClauseRead, Cond.code yX4_isClauseRead cX4_isClauseRead 4 (some .boolean), Cond.fieldLink RX4 28 "CowardsPot$Reader" "value" "I", Cond.methodLink RX4 59 yX4_wordNumber, Cond.instanceMethod yX4_wordNumber, Cond.selects RX4 yX4_wordNumber yX4_wordNumber, Cond.code yX4_wordNumber cX4_wordNumber 2 (some .int), Cond.methodLink RX4 89 yX4_isWord, Cond.instanceMethod yX4_isWord, Cond.selects RX4 yX4_isWord yX4_isWord, Cond.code yX4_isWord cX4_isWord 4 (some .boolean)]
def wsX7_hall_r4 : List Cond := [Cond.methodLink RX4 105 yJ0_length_8abf5, Cond.instanceMethod yJ0_length_8abf5, Cond.selects RJ0 yJ0_length_8abf5 yJ0_length_8abf5, Cond.initialized RJ0, Cond.code yJ0_length_8abf5 cJ0_length_8abf5 1 (some .int), Cond.fieldLink RJ0 9 "java/lang/String" "value" "[B", Cond.methodLink RJ0 335 yJ0_coder_7d493, Cond.instanceMethod yJ0_coder_7d493, Cond.selects RJ0 yJ0_coder_7d493 yJ0_coder_7d493, Cond.code yJ0_coder_7d493 cJ0_coder_7d493 1 (some .byte), Cond.fieldLink RJ0 38 "java/lang/String" "COMPACT_STRINGS" "Z", Cond.fieldLink RJ0 15 "java/lang/String" "coder" "B", Cond.methodLink RX4 110 yJ0_charAt_5068e, Cond.instanceMethod yJ0_charAt_5068e, Cond.selects RJ0 yJ0_charAt_5068e yJ0_charAt_5068e, Cond.code yJ0_charAt_5068e cJ0_charAt_5068e 2 (some .char), Cond.methodLink RJ0 492 yJ0_isLatin1_aae02, Cond.instanceMethod yJ0_isLatin1_aae02, Cond.selects RJ0 yJ0_isLatin1_aae02 yJ0_isLatin1_aae02, Cond.code yJ0_isLatin1_aae02 cJ0_isLatin1_aae02 1 (some .boolean), Cond.methodLink RJ0 495 yJ1_charAt_3b067, Cond.static yJ1_charAt_3b067, Cond.initialized RJ1, Cond.code yJ1_charAt_3b067 cJ1_charAt_3b067 2 (some .char)]
def wsX7_hall_r5 : List Cond := [Cond.methodLink RJ1 9 yJ0_checkIndex_df160, Cond.static yJ0_checkIndex_df160, Cond.code yJ0_checkIndex_df160 cJ0_checkIndex_df160 2 none, Cond.fieldLink RJ0 1053 "jdk/internal/util/Preconditions" "SIOOBE_FORMATTER" "Ljava/util/function/BiFunction;", Cond.methodLink RJ0 1059 yJ3_checkIndex_8e157, Cond.static yJ3_checkIndex_8e157, Cond.initialized RJ3, Cond.code yJ3_checkIndex_8e157 cJ3_checkIndex_8e157 3 (some .int), Cond.methodLink RJ0 498 yJ2_charAt_3b067, Cond.static yJ2_charAt_3b067, Cond.initialized RJ2, Cond.code yJ2_charAt_3b067 cJ2_charAt_3b067 2 (some .char), Cond.methodLink RJ2 67 yJ2_checkIndex_2214a, Cond.static yJ2_checkIndex_2214a, Cond.code yJ2_checkIndex_2214a cJ2_checkIndex_2214a 2 none, Cond.methodLink RJ2 48 yJ2_length_9d52b, Cond.static yJ2_length_9d52b, Cond.code yJ2_length_9d52b cJ2_length_9d52b 1 (some .int), Cond.methodLink RJ2 414 yJ0_checkIndex_df160, Cond.methodLink RJ2 71 yJ2_getChar_3b067, Cond.static yJ2_getChar_3b067, Cond.code yJ2_getChar_3b067 cJ2_getChar_3b067 2 (some .char), Cond.fieldLink RJ2 44 "java/lang/StringUTF16" "$assertionsDisabled" "Z", Cond.fieldLink RJ2 59 "java/lang/StringUTF16" "HI_BYTE_SHIFT" "I"]
def wsX7_hall_r6 : List Cond := [Cond.fieldLink RJ2 63 "java/lang/StringUTF16" "LO_BYTE_SHIFT" "I", Cond.methodLink RX4 63 yX4_hasRoomFor, Cond.instanceMethod yX4_hasRoomFor, Cond.selects RX4 yX4_hasRoomFor yX4_hasRoomFor, Cond.code yX4_hasRoomFor cX4_hasRoomFor 2 (some .boolean), Cond.fieldLink RX4 114 "CowardsPot$Hall" "people" "I", Cond.fieldLink RX4 117 "CowardsPot$Hall" "sorts" "I", Cond.methodLink RX4 73 yX4_isNumberRead, Cond.instanceMethod yX4_isNumberRead, Cond.selects RX4 yX4_isNumberRead yX4_isNumberRead, Cond.code yX4_isNumberRead cX4_isNumberRead 7 (some .boolean), Cond.methodLink RX4 83 yX4_tell, Cond.instanceMethod yX4_tell, Cond.selects RX4 yX4_tell yX4_tell, Cond.code yX4_tell cX4_tell 4 none, Cond.fieldLink RX4 124 "CowardsPot$Hall" "base" "I", Cond.fieldLink RX4 127 "CowardsPot$Hall" "step" "I", Cond.methodLink RX4 120 yX1_clearFor, Cond.instanceMethod yX1_clearFor, Cond.selects RX1 yX1_clearFor yX1_clearFor, Cond.code yX1_clearFor cX1_clearFor 2 none, Cond.methodLink RX4 130 yX1_addSort, Cond.instanceMethod yX1_addSort, Cond.selects RX1 yX1_addSort yX1_addSort]
def wsX7_hall_r7 : List Cond := [Cond.code yX1_addSort cX1_addSort 3 none, Cond.methodLink RX4 134 yX1_addPerson, Cond.instanceMethod yX1_addPerson, Cond.selects RX1 yX1_addPerson yX1_addPerson, Cond.code yX1_addPerson cX1_addPerson 3 none, Cond.methodLink RX7 73 yX1_copyFrom, Cond.methodLink RX7 77 yX1_beginAnew, Cond.instanceMethod yX1_beginAnew, Cond.selects RX1 yX1_beginAnew yX1_beginAnew, Cond.code yX1_beginAnew cX1_beginAnew 2 none]
def wsX7_hall : List Cond := .code yX7_hall cX7_hall 2 (some .int) :: ((wsX7_hall_r1 ++ (wsX7_hall_r2 ++ (wsX7_hall_r3 ++ (wsX7_hall_r4 ++ (wsX7_hall_r5 ++ (wsX7_hall_r6 ++ wsX7_hall_r7)))))) ++ wsX70 ++ wsX40 ++ wsX60 ++ wsX50 ++ wsX30 ++ wsX20 ++ wsX10)
def wsX7_isPerson : List Cond := .code yX7_isPerson cX7_isPerson 2 (some .boolean) :: ([.fieldLink RX7 19 "CowardsPot" "now" "LCowardsPot$Hall;", .fieldLink RX7 147 "CowardsPot$Hall" "people" "I"] ++ wsX70 ++ wsX10)
def wsX7_person_r1 : List Cond := [Cond.fieldLink RX7 19 "CowardsPot" "now" "LCowardsPot$Hall;", Cond.fieldLink RX7 95 "CowardsPot$Hall" "kind" "[I", Cond.fieldLink RX7 99 "CowardsPot$Hall" "fame" "[I", Cond.fieldLink RX7 102 "CowardsPot$Hall" "gain" "[I", Cond.fieldLink RX7 105 "CowardsPot$Hall" "fear" "[I", Cond.fieldLink RX7 115 "CowardsPot$Hall" "latest" "[I", Cond.fieldLink RX7 118 "CowardsPot$Hall" "had" "[I", Cond.methodLink RX7 91 yX7_isPerson, Cond.instanceMethod yX7_isPerson, Cond.selects RX7 yX7_isPerson yX7_isPerson, Cond.initialized RX7, Cond.code yX7_isPerson cX7_isPerson 2 (some .boolean), Cond.fieldLink RX7 147 "CowardsPot$Hall" "people" "I", Cond.methodLink RX7 108 yX1_scoreOf, Cond.instanceMethod yX1_scoreOf, Cond.selects RX1 yX1_scoreOf yX1_scoreOf, Cond.initialized RX1, Cond.code yX1_scoreOf cX1_scoreOf 3 (some .int), Cond.fieldLink RX1 30 "CowardsPot$Hall" "kind" "[I", Cond.fieldLink RX1 40 "CowardsPot$Hall" "gain" "[I", Cond.fieldLink RX1 37 "CowardsPot$Hall" "fame" "[I", Cond.methodLink RX7 112 yX1_isAfraid, Cond.instanceMethod yX1_isAfraid, Cond.selects RX1 yX1_isAfraid yX1_isAfraid]
def wsX7_person_r2 : List Cond := [Cond.code yX1_isAfraid cX1_isAfraid 2 (some .boolean), Cond.fieldLink RX1 43 "CowardsPot$Hall" "fear" "[I", Cond.methodLink RX1 61 yX1_scoreOf]
def wsX7_person : List Cond := .code yX7_person cX7_person 3 (some .int) :: ((wsX7_person_r1 ++ wsX7_person_r2) ++ wsX70 ++ wsX10)
def wsX7_isSort : List Cond := .code yX7_isSort cX7_isSort 2 (some .boolean) :: ([.fieldLink RX7 19 "CowardsPot" "now" "LCowardsPot$Hall;", .fieldLink RX7 231 "CowardsPot$Hall" "sorts" "I"] ++ wsX70 ++ wsX10)
def wsX7_sort : List Cond := .code yX7_sort cX7_sort 3 (some .int) :: ([.fieldLink RX7 19 "CowardsPot" "now" "LCowardsPot$Hall;", .fieldLink RX7 124 "CowardsPot$Hall" "sortGain" "[I", .fieldLink RX7 127 "CowardsPot$Hall" "sortFear" "[I", .methodLink RX7 121 yX7_isSort, .instanceMethod yX7_isSort, .selects RX7 yX7_isSort yX7_isSort, .initialized RX7, .code yX7_isSort cX7_isSort 2 (some .boolean), .fieldLink RX7 231 "CowardsPot$Hall" "sorts" "I"] ++ wsX70 ++ wsX10)
def wsX7_isKindUnder : List Cond := .code yX7_isKindUnder cX7_isKindUnder 4 (some .boolean) :: ([.fieldLink RX7 130 "CowardsPot" "ABOVE" "[I"])
def wsX7_as_r1 : List Cond := [Cond.fieldLink RX7 130 "CowardsPot" "ABOVE" "[I", Cond.fieldLink RX7 19 "CowardsPot" "now" "LCowardsPot$Hall;", Cond.fieldLink RX7 95 "CowardsPot$Hall" "kind" "[I", Cond.fieldLink RX7 99 "CowardsPot$Hall" "fame" "[I", Cond.methodLink RX7 91 yX7_isPerson, Cond.instanceMethod yX7_isPerson, Cond.selects RX7 yX7_isPerson yX7_isPerson, Cond.initialized RX7, Cond.code yX7_isPerson cX7_isPerson 2 (some .boolean), Cond.fieldLink RX7 147 "CowardsPot$Hall" "people" "I", Cond.methodLink RX7 133 yX7_isKindUnder, Cond.static yX7_isKindUnder, Cond.code yX7_isKindUnder cX7_isKindUnder 4 (some .boolean), Cond.methodLink RX7 137 yX1_fameAfterYear, Cond.instanceMethod yX1_fameAfterYear, Cond.selects RX1 yX1_fameAfterYear yX1_fameAfterYear, Cond.initialized RX1, Cond.code yX1_fameAfterYear cX1_fameAfterYear 3 (some .int), Cond.fieldLink RX1 40 "CowardsPot$Hall" "gain" "[I", Cond.fieldLink RX1 30 "CowardsPot$Hall" "kind" "[I", Cond.fieldLink RX1 37 "CowardsPot$Hall" "fame" "[I", Cond.methodLink RX1 69 Lib.Math.min.name, Cond.static Lib.Math.min.name, Cond.initialized "java/lang/Math"]
def wsX7_as_r2 : List Cond := [Cond.code Lib.Math.min.name Lib.Math.min.code 2 (some .int)]
def wsX7_as : List Cond := .code yX7_as cX7_as 3 (some .int) :: ((wsX7_as_r1 ++ wsX7_as_r2) ++ wsX70 ++ wsX10)
def wsX7_deed_r1 : List Cond := [Cond.fieldLink RX7 33 "CowardsPot" "past" "LCowardsPot$Past;", Cond.fieldLink RX7 19 "CowardsPot" "now" "LCowardsPot$Hall;", Cond.methodLink RX7 91 yX7_isPerson, Cond.instanceMethod yX7_isPerson, Cond.selects RX7 yX7_isPerson yX7_isPerson, Cond.initialized RX7, Cond.code yX7_isPerson cX7_isPerson 2 (some .boolean), Cond.fieldLink RX7 147 "CowardsPot$Hall" "people" "I", Cond.methodLink RX7 121 yX7_isSort, Cond.instanceMethod yX7_isSort, Cond.selects RX7 yX7_isSort yX7_isSort, Cond.code yX7_isSort cX7_isSort 2 (some .boolean), Cond.fieldLink RX7 231 "CowardsPot$Hall" "sorts" "I", Cond.methodLink RX7 140 yX3_push, Cond.instanceMethod yX3_push, Cond.selects RX3 yX3_push yX3_push, Cond.initialized RX3, Cond.code yX3_push cX3_push 2 none, Cond.fieldLink RX3 11 "CowardsPot$Past" "halls" "[LCowardsPot$Hall;", Cond.fieldLink RX3 17 "CowardsPot$Past" "top" "I", Cond.fieldLink RX3 21 "CowardsPot$Past" "many" "I", Cond.methodLink RX3 29 Lib.Math.min.name, Cond.static Lib.Math.min.name, Cond.initialized "java/lang/Math"]
def wsX7_deed_r2 : List Cond := [Cond.code Lib.Math.min.name Lib.Math.min.code 2 (some .int), Cond.methodLink RX3 25 yX1_copyFrom, Cond.instanceMethod yX1_copyFrom, Cond.selects RX1 yX1_copyFrom yX1_copyFrom, Cond.initialized RX1, Cond.code yX1_copyFrom cX1_copyFrom 3 none, Cond.fieldLink RX1 9 "CowardsPot$Hall" "joints" "I", Cond.fieldLink RX1 15 "CowardsPot$Hall" "base" "I", Cond.fieldLink RX1 18 "CowardsPot$Hall" "step" "I", Cond.fieldLink RX1 21 "CowardsPot$Hall" "yearNumber" "I", Cond.fieldLink RX1 24 "CowardsPot$Hall" "people" "I", Cond.fieldLink RX1 27 "CowardsPot$Hall" "sorts" "I", Cond.fieldLink RX1 30 "CowardsPot$Hall" "kind" "[I", Cond.fieldLink RX1 34 "CowardsPot$Hall" "toldFame" "[I", Cond.fieldLink RX1 37 "CowardsPot$Hall" "fame" "[I", Cond.fieldLink RX1 40 "CowardsPot$Hall" "gain" "[I", Cond.fieldLink RX1 43 "CowardsPot$Hall" "fear" "[I", Cond.fieldLink RX1 46 "CowardsPot$Hall" "latest" "[I", Cond.fieldLink RX1 49 "CowardsPot$Hall" "had" "[I", Cond.fieldLink RX1 52 "CowardsPot$Hall" "sortGain" "[I", Cond.fieldLink RX1 55 "CowardsPot$Hall" "sortFear" "[I", Cond.methodLink RX7 143 yX1_addDeed, Cond.instanceMethod yX1_addDeed, Cond.selects RX1 yX1_addDeed yX1_addDeed]
def wsX7_deed_r3 : List Cond := [Cond.code yX1_addDeed cX1_addDeed 3 none, Cond.methodLink RX1 75 yX1_addTo, Cond.instanceMethod yX1_addTo, Cond.selects RX1 yX1_addTo yX1_addTo, Cond.code yX1_addTo cX1_addTo 4 none, Cond.methodLink RX1 69 Lib.Math.min.name, Cond.methodLink RX7 108 yX1_scoreOf, Cond.instanceMethod yX1_scoreOf, Cond.selects RX1 yX1_scoreOf yX1_scoreOf, Cond.code yX1_scoreOf cX1_scoreOf 3 (some .int)]
def wsX7_deed : List Cond := .code yX7_deed cX7_deed 3 (some .int) :: ((wsX7_deed_r1 ++ (wsX7_deed_r2 ++ wsX7_deed_r3)) ++ wsX70 ++ wsX10 ++ wsX30)
def wsX7_feast_r1 : List Cond := [Cond.fieldLink RX7 19 "CowardsPot" "now" "LCowardsPot$Hall;", Cond.fieldLink RX7 147 "CowardsPot$Hall" "people" "I", Cond.fieldLink RX7 33 "CowardsPot" "past" "LCowardsPot$Past;", Cond.methodLink RX7 140 yX3_push, Cond.instanceMethod yX3_push, Cond.selects RX3 yX3_push yX3_push, Cond.initialized RX3, Cond.code yX3_push cX3_push 2 none, Cond.fieldLink RX3 11 "CowardsPot$Past" "halls" "[LCowardsPot$Hall;", Cond.fieldLink RX3 17 "CowardsPot$Past" "top" "I", Cond.fieldLink RX3 21 "CowardsPot$Past" "many" "I", Cond.methodLink RX3 29 Lib.Math.min.name, Cond.static Lib.Math.min.name, Cond.initialized "java/lang/Math", Cond.code Lib.Math.min.name Lib.Math.min.code 2 (some .int), Cond.methodLink RX3 25 yX1_copyFrom, Cond.instanceMethod yX1_copyFrom, Cond.selects RX1 yX1_copyFrom yX1_copyFrom, Cond.initialized RX1, Cond.code yX1_copyFrom cX1_copyFrom 3 none, Cond.fieldLink RX1 9 "CowardsPot$Hall" "joints" "I", Cond.fieldLink RX1 15 "CowardsPot$Hall" "base" "I", Cond.fieldLink RX1 18 "CowardsPot$Hall" "step" "I", Cond.fieldLink RX1 21 "CowardsPot$Hall" "yearNumber" "I"]
def wsX7_feast_r2 : List Cond := [Cond.fieldLink RX1 24 "CowardsPot$Hall" "people" "I", Cond.fieldLink RX1 27 "CowardsPot$Hall" "sorts" "I", Cond.fieldLink RX1 30 "CowardsPot$Hall" "kind" "[I", Cond.fieldLink RX1 34 "CowardsPot$Hall" "toldFame" "[I", Cond.fieldLink RX1 37 "CowardsPot$Hall" "fame" "[I", Cond.fieldLink RX1 40 "CowardsPot$Hall" "gain" "[I", Cond.fieldLink RX1 43 "CowardsPot$Hall" "fear" "[I", Cond.fieldLink RX1 46 "CowardsPot$Hall" "latest" "[I", Cond.fieldLink RX1 49 "CowardsPot$Hall" "had" "[I", Cond.fieldLink RX1 52 "CowardsPot$Hall" "sortGain" "[I", Cond.fieldLink RX1 55 "CowardsPot$Hall" "sortFear" "[I", Cond.methodLink RX7 150 yX1_holdFeast, Cond.instanceMethod yX1_holdFeast, Cond.selects RX1 yX1_holdFeast yX1_holdFeast, Cond.code yX1_holdFeast cX1_holdFeast 3 (some .int), Cond.methodLink RX1 82 yX1_serveInto, Cond.instanceMethod yX1_serveInto, Cond.selects RX1 yX1_serveInto yX1_serveInto, Cond.code yX1_serveInto cX1_serveInto 7 none, Cond.fieldLink RX1 58 "CowardsPot$Hall" "scores" "[I", Cond.methodLink RX1 61 yX1_scoreOf, Cond.instanceMethod yX1_scoreOf, Cond.selects RX1 yX1_scoreOf yX1_scoreOf, Cond.code yX1_scoreOf cX1_scoreOf 3 (some .int)]
def wsX7_feast_r3 : List Cond := [Cond.methodLink RX1 86 yX1_nextOf, Cond.instanceMethod yX1_nextOf, Cond.selects RX1 yX1_nextOf yX1_nextOf, Cond.code yX1_nextOf cX1_nextOf 5 (some .int), Cond.methodLink RX1 89 yX1_lastOf, Cond.instanceMethod yX1_lastOf, Cond.selects RX1 yX1_lastOf yX1_lastOf, Cond.code yX1_lastOf cX1_lastOf 3 (some .int), Cond.methodLink RX1 92 yX1_firstFor, Cond.instanceMethod yX1_firstFor, Cond.selects RX1 yX1_firstFor yX1_firstFor, Cond.code yX1_firstFor cX1_firstFor 4 (some .int)]
def wsX7_feast : List Cond := .code yX7_feast cX7_feast 1 (some .int) :: ((wsX7_feast_r1 ++ (wsX7_feast_r2 ++ wsX7_feast_r3)) ++ wsX70 ++ wsX10 ++ wsX30)
def wsX7_year_r1 : List Cond := [Cond.fieldLink RX7 19 "CowardsPot" "now" "LCowardsPot$Hall;", Cond.fieldLink RX7 154 "CowardsPot$Hall" "yearNumber" "I", Cond.fieldLink RX7 33 "CowardsPot" "past" "LCowardsPot$Past;", Cond.methodLink RX7 140 yX3_push, Cond.instanceMethod yX3_push, Cond.selects RX3 yX3_push yX3_push, Cond.initialized RX3, Cond.code yX3_push cX3_push 2 none, Cond.fieldLink RX3 11 "CowardsPot$Past" "halls" "[LCowardsPot$Hall;", Cond.fieldLink RX3 17 "CowardsPot$Past" "top" "I", Cond.fieldLink RX3 21 "CowardsPot$Past" "many" "I", Cond.methodLink RX3 29 Lib.Math.min.name, Cond.static Lib.Math.min.name, Cond.initialized "java/lang/Math", Cond.code Lib.Math.min.name Lib.Math.min.code 2 (some .int), Cond.methodLink RX3 25 yX1_copyFrom, Cond.instanceMethod yX1_copyFrom, Cond.selects RX1 yX1_copyFrom yX1_copyFrom, Cond.initialized RX1, Cond.code yX1_copyFrom cX1_copyFrom 3 none, Cond.fieldLink RX1 9 "CowardsPot$Hall" "joints" "I", Cond.fieldLink RX1 15 "CowardsPot$Hall" "base" "I", Cond.fieldLink RX1 18 "CowardsPot$Hall" "step" "I", Cond.fieldLink RX1 21 "CowardsPot$Hall" "yearNumber" "I"]
def wsX7_year_r2 : List Cond := [Cond.fieldLink RX1 24 "CowardsPot$Hall" "people" "I", Cond.fieldLink RX1 27 "CowardsPot$Hall" "sorts" "I", Cond.fieldLink RX1 30 "CowardsPot$Hall" "kind" "[I", Cond.fieldLink RX1 34 "CowardsPot$Hall" "toldFame" "[I", Cond.fieldLink RX1 37 "CowardsPot$Hall" "fame" "[I", Cond.fieldLink RX1 40 "CowardsPot$Hall" "gain" "[I", Cond.fieldLink RX1 43 "CowardsPot$Hall" "fear" "[I", Cond.fieldLink RX1 46 "CowardsPot$Hall" "latest" "[I", Cond.fieldLink RX1 49 "CowardsPot$Hall" "had" "[I", Cond.fieldLink RX1 52 "CowardsPot$Hall" "sortGain" "[I", Cond.fieldLink RX1 55 "CowardsPot$Hall" "sortFear" "[I", Cond.methodLink RX7 157 yX1_passYear, Cond.instanceMethod yX1_passYear, Cond.selects RX1 yX1_passYear yX1_passYear, Cond.code yX1_passYear cX1_passYear 2 none, Cond.methodLink RX1 79 yX1_fameAfterYear, Cond.instanceMethod yX1_fameAfterYear, Cond.selects RX1 yX1_fameAfterYear yX1_fameAfterYear, Cond.code yX1_fameAfterYear cX1_fameAfterYear 3 (some .int), Cond.methodLink RX1 69 Lib.Math.min.name]
def wsX7_year : List Cond := .code yX7_year cX7_year 1 (some .int) :: ((wsX7_year_r1 ++ wsX7_year_r2) ++ wsX70 ++ wsX10 ++ wsX30)
def wsX7_scale_r1 : List Cond := [Cond.fieldLink RX7 33 "CowardsPot" "past" "LCowardsPot$Past;", Cond.fieldLink RX7 19 "CowardsPot" "now" "LCowardsPot$Hall;", Cond.fieldLink RX7 160 "CowardsPot$Hall" "base" "I", Cond.fieldLink RX7 163 "CowardsPot$Hall" "step" "I", Cond.methodLink RX7 140 yX3_push, Cond.instanceMethod yX3_push, Cond.selects RX3 yX3_push yX3_push, Cond.initialized RX3, Cond.code yX3_push cX3_push 2 none, Cond.fieldLink RX3 11 "CowardsPot$Past" "halls" "[LCowardsPot$Hall;", Cond.fieldLink RX3 17 "CowardsPot$Past" "top" "I", Cond.fieldLink RX3 21 "CowardsPot$Past" "many" "I", Cond.methodLink RX3 29 Lib.Math.min.name, Cond.static Lib.Math.min.name, Cond.initialized "java/lang/Math", Cond.code Lib.Math.min.name Lib.Math.min.code 2 (some .int), Cond.methodLink RX3 25 yX1_copyFrom, Cond.instanceMethod yX1_copyFrom, Cond.selects RX1 yX1_copyFrom yX1_copyFrom, Cond.initialized RX1, Cond.code yX1_copyFrom cX1_copyFrom 3 none, Cond.fieldLink RX1 9 "CowardsPot$Hall" "joints" "I", Cond.fieldLink RX1 15 "CowardsPot$Hall" "base" "I", Cond.fieldLink RX1 18 "CowardsPot$Hall" "step" "I"]
def wsX7_scale_r2 : List Cond := [Cond.fieldLink RX1 21 "CowardsPot$Hall" "yearNumber" "I", Cond.fieldLink RX1 24 "CowardsPot$Hall" "people" "I", Cond.fieldLink RX1 27 "CowardsPot$Hall" "sorts" "I", Cond.fieldLink RX1 30 "CowardsPot$Hall" "kind" "[I", Cond.fieldLink RX1 34 "CowardsPot$Hall" "toldFame" "[I", Cond.fieldLink RX1 37 "CowardsPot$Hall" "fame" "[I", Cond.fieldLink RX1 40 "CowardsPot$Hall" "gain" "[I", Cond.fieldLink RX1 43 "CowardsPot$Hall" "fear" "[I", Cond.fieldLink RX1 46 "CowardsPot$Hall" "latest" "[I", Cond.fieldLink RX1 49 "CowardsPot$Hall" "had" "[I", Cond.fieldLink RX1 52 "CowardsPot$Hall" "sortGain" "[I", Cond.fieldLink RX1 55 "CowardsPot$Hall" "sortFear" "[I"]
def wsX7_scale : List Cond := .code yX7_scale cX7_scale 4 (some .int) :: ((wsX7_scale_r1 ++ wsX7_scale_r2) ++ wsX70 ++ wsX10 ++ wsX30)
def wsX7_undo_r1 : List Cond := [Cond.fieldLink RX7 33 "CowardsPot" "past" "LCowardsPot$Past;", Cond.fieldLink RX7 83 "CowardsPot$Past" "many" "I", Cond.fieldLink RX7 19 "CowardsPot" "now" "LCowardsPot$Hall;", Cond.methodLink RX7 166 yX3_popInto, Cond.instanceMethod yX3_popInto, Cond.selects RX3 yX3_popInto yX3_popInto, Cond.initialized RX3, Cond.code yX3_popInto cX3_popInto 2 none, Cond.fieldLink RX3 21 "CowardsPot$Past" "many" "I", Cond.fieldLink RX3 17 "CowardsPot$Past" "top" "I", Cond.fieldLink RX3 11 "CowardsPot$Past" "halls" "[LCowardsPot$Hall;", Cond.methodLink RX3 25 yX1_copyFrom, Cond.instanceMethod yX1_copyFrom, Cond.selects RX1 yX1_copyFrom yX1_copyFrom, Cond.initialized RX1, Cond.code yX1_copyFrom cX1_copyFrom 3 none, Cond.fieldLink RX1 9 "CowardsPot$Hall" "joints" "I", Cond.fieldLink RX1 15 "CowardsPot$Hall" "base" "I", Cond.fieldLink RX1 18 "CowardsPot$Hall" "step" "I", Cond.fieldLink RX1 21 "CowardsPot$Hall" "yearNumber" "I", Cond.fieldLink RX1 24 "CowardsPot$Hall" "people" "I", Cond.fieldLink RX1 27 "CowardsPot$Hall" "sorts" "I", Cond.fieldLink RX1 30 "CowardsPot$Hall" "kind" "[I", Cond.fieldLink RX1 34 "CowardsPot$Hall" "toldFame" "[I"]
def wsX7_undo_r2 : List Cond := [Cond.fieldLink RX1 37 "CowardsPot$Hall" "fame" "[I", Cond.fieldLink RX1 40 "CowardsPot$Hall" "gain" "[I", Cond.fieldLink RX1 43 "CowardsPot$Hall" "fear" "[I", Cond.fieldLink RX1 46 "CowardsPot$Hall" "latest" "[I", Cond.fieldLink RX1 49 "CowardsPot$Hall" "had" "[I", Cond.fieldLink RX1 52 "CowardsPot$Hall" "sortGain" "[I", Cond.fieldLink RX1 55 "CowardsPot$Hall" "sortFear" "[I"]
def wsX7_undo : List Cond := .code yX7_undo cX7_undo 1 (some .int) :: ((wsX7_undo_r1 ++ wsX7_undo_r2) ++ wsX70 ++ wsX30 ++ wsX10)
def wsX7_isKeptPlace : List Cond := .code yX7_isKeptPlace cX7_isKeptPlace 1 (some .boolean) :: ([])
def wsX7_keep_r1 : List Cond := [Cond.fieldLink RX7 39 "CowardsPot" "kept" "[LCowardsPot$Kept;", Cond.fieldLink RX7 172 "CowardsPot$Kept" "hall" "LCowardsPot$Hall;", Cond.fieldLink RX7 19 "CowardsPot" "now" "LCowardsPot$Hall;", Cond.fieldLink RX7 175 "CowardsPot$Kept" "text" "LCowardsPot$Text;", Cond.fieldLink RX7 10 "CowardsPot" "text" "LCowardsPot$Text;", Cond.fieldLink RX7 84 "CowardsPot$Kept" "isThere" "Z", Cond.fieldLink RX7 154 "CowardsPot$Hall" "yearNumber" "I", Cond.methodLink RX7 169 yX7_isKeptPlace, Cond.static yX7_isKeptPlace, Cond.initialized RX7, Cond.code yX7_isKeptPlace cX7_isKeptPlace 1 (some .boolean), Cond.methodLink RX7 73 yX1_copyFrom, Cond.instanceMethod yX1_copyFrom, Cond.selects RX1 yX1_copyFrom yX1_copyFrom, Cond.initialized RX1, Cond.code yX1_copyFrom cX1_copyFrom 3 none, Cond.fieldLink RX1 9 "CowardsPot$Hall" "joints" "I", Cond.fieldLink RX1 15 "CowardsPot$Hall" "base" "I", Cond.fieldLink RX1 18 "CowardsPot$Hall" "step" "I", Cond.fieldLink RX1 21 "CowardsPot$Hall" "yearNumber" "I", Cond.fieldLink RX1 24 "CowardsPot$Hall" "people" "I", Cond.fieldLink RX1 27 "CowardsPot$Hall" "sorts" "I", Cond.fieldLink RX1 30 "CowardsPot$Hall" "kind" "[I", Cond.fieldLink RX1 34 "CowardsPot$Hall" "toldFame" "[I"]
def wsX7_keep_r2 : List Cond := [Cond.fieldLink RX1 37 "CowardsPot$Hall" "fame" "[I", Cond.fieldLink RX1 40 "CowardsPot$Hall" "gain" "[I", Cond.fieldLink RX1 43 "CowardsPot$Hall" "fear" "[I", Cond.fieldLink RX1 46 "CowardsPot$Hall" "latest" "[I", Cond.fieldLink RX1 49 "CowardsPot$Hall" "had" "[I", Cond.fieldLink RX1 52 "CowardsPot$Hall" "sortGain" "[I", Cond.fieldLink RX1 55 "CowardsPot$Hall" "sortFear" "[I", Cond.methodLink RX7 176 yX6_copyFrom, Cond.instanceMethod yX6_copyFrom, Cond.selects RX6 yX6_copyFrom yX6_copyFrom, Cond.initialized RX6, Cond.code yX6_copyFrom cX6_copyFrom 2 none, Cond.fieldLink RX6 15 "CowardsPot$Text" "length" "I", Cond.fieldLink RX6 9 "CowardsPot$Text" "letters" "[I", Cond.methodLink RX6 19 arraycopyName, Cond.native arraycopyName, Cond.static arraycopyName, Cond.initialized "java/lang/System"]
def wsX7_keep : List Cond := .code yX7_keep cX7_keep 2 (some .int) :: ((wsX7_keep_r1 ++ wsX7_keep_r2) ++ wsX70 ++ wsX20 ++ wsX10 ++ wsX60)
def wsX7_back_r1 : List Cond := [Cond.fieldLink RX7 39 "CowardsPot" "kept" "[LCowardsPot$Kept;", Cond.fieldLink RX7 84 "CowardsPot$Kept" "isThere" "Z", Cond.fieldLink RX7 19 "CowardsPot" "now" "LCowardsPot$Hall;", Cond.fieldLink RX7 172 "CowardsPot$Kept" "hall" "LCowardsPot$Hall;", Cond.fieldLink RX7 10 "CowardsPot" "text" "LCowardsPot$Text;", Cond.fieldLink RX7 175 "CowardsPot$Kept" "text" "LCowardsPot$Text;", Cond.fieldLink RX7 33 "CowardsPot" "past" "LCowardsPot$Past;", Cond.fieldLink RX7 83 "CowardsPot$Past" "many" "I", Cond.fieldLink RX7 154 "CowardsPot$Hall" "yearNumber" "I", Cond.methodLink RX7 169 yX7_isKeptPlace, Cond.static yX7_isKeptPlace, Cond.initialized RX7, Cond.code yX7_isKeptPlace cX7_isKeptPlace 1 (some .boolean), Cond.methodLink RX7 73 yX1_copyFrom, Cond.instanceMethod yX1_copyFrom, Cond.selects RX1 yX1_copyFrom yX1_copyFrom, Cond.initialized RX1, Cond.code yX1_copyFrom cX1_copyFrom 3 none, Cond.fieldLink RX1 9 "CowardsPot$Hall" "joints" "I", Cond.fieldLink RX1 15 "CowardsPot$Hall" "base" "I", Cond.fieldLink RX1 18 "CowardsPot$Hall" "step" "I", Cond.fieldLink RX1 21 "CowardsPot$Hall" "yearNumber" "I", Cond.fieldLink RX1 24 "CowardsPot$Hall" "people" "I", Cond.fieldLink RX1 27 "CowardsPot$Hall" "sorts" "I"]
def wsX7_back_r2 : List Cond := [Cond.fieldLink RX1 30 "CowardsPot$Hall" "kind" "[I", Cond.fieldLink RX1 34 "CowardsPot$Hall" "toldFame" "[I", Cond.fieldLink RX1 37 "CowardsPot$Hall" "fame" "[I", Cond.fieldLink RX1 40 "CowardsPot$Hall" "gain" "[I", Cond.fieldLink RX1 43 "CowardsPot$Hall" "fear" "[I", Cond.fieldLink RX1 46 "CowardsPot$Hall" "latest" "[I", Cond.fieldLink RX1 49 "CowardsPot$Hall" "had" "[I", Cond.fieldLink RX1 52 "CowardsPot$Hall" "sortGain" "[I", Cond.fieldLink RX1 55 "CowardsPot$Hall" "sortFear" "[I", Cond.methodLink RX7 176 yX6_copyFrom, Cond.instanceMethod yX6_copyFrom, Cond.selects RX6 yX6_copyFrom yX6_copyFrom, Cond.initialized RX6, Cond.code yX6_copyFrom cX6_copyFrom 2 none, Cond.fieldLink RX6 15 "CowardsPot$Text" "length" "I", Cond.fieldLink RX6 9 "CowardsPot$Text" "letters" "[I", Cond.methodLink RX6 19 arraycopyName, Cond.native arraycopyName, Cond.static arraycopyName, Cond.initialized "java/lang/System"]
def wsX7_back : List Cond := .code yX7_back cX7_back 2 (some .int) :: ((wsX7_back_r1 ++ wsX7_back_r2) ++ wsX70 ++ wsX20 ++ wsX30 ++ wsX10 ++ wsX60)
def wsX7_gets_r1 : List Cond := [Cond.fieldLink RX7 53 "CowardsPot" "foretelling" "LCowardsPot$Foretelling;", Cond.fieldLink RX7 19 "CowardsPot" "now" "LCowardsPot$Hall;", Cond.methodLink RX7 91 yX7_isPerson, Cond.instanceMethod yX7_isPerson, Cond.selects RX7 yX7_isPerson yX7_isPerson, Cond.initialized RX7, Cond.code yX7_isPerson cX7_isPerson 2 (some .boolean), Cond.fieldLink RX7 147 "CowardsPot$Hall" "people" "I", Cond.methodLink RX7 179 yX0_jointOf, Cond.instanceMethod yX0_jointOf, Cond.selects RX0 yX0_jointOf yX0_jointOf, Cond.initialized RX0, Cond.code yX0_jointOf cX0_jointOf 3 (some .int), Cond.fieldLink RX0 18 "CowardsPot$Foretelling" "served" "[I", Cond.methodLink RX0 35 yX1_serveInto, Cond.instanceMethod yX1_serveInto, Cond.selects RX1 yX1_serveInto yX1_serveInto, Cond.initialized RX1, Cond.code yX1_serveInto cX1_serveInto 7 none, Cond.fieldLink RX1 24 "CowardsPot$Hall" "people" "I", Cond.fieldLink RX1 58 "CowardsPot$Hall" "scores" "[I", Cond.fieldLink RX1 43 "CowardsPot$Hall" "fear" "[I", Cond.fieldLink RX1 9 "CowardsPot$Hall" "joints" "I", Cond.fieldLink RX1 30 "CowardsPot$Hall" "kind" "[I"]
def wsX7_gets_r2 : List Cond := [Cond.methodLink RX1 61 yX1_scoreOf, Cond.instanceMethod yX1_scoreOf, Cond.selects RX1 yX1_scoreOf yX1_scoreOf, Cond.code yX1_scoreOf cX1_scoreOf 3 (some .int), Cond.fieldLink RX1 40 "CowardsPot$Hall" "gain" "[I", Cond.fieldLink RX1 37 "CowardsPot$Hall" "fame" "[I", Cond.methodLink RX1 86 yX1_nextOf, Cond.instanceMethod yX1_nextOf, Cond.selects RX1 yX1_nextOf yX1_nextOf, Cond.code yX1_nextOf cX1_nextOf 5 (some .int), Cond.methodLink RX1 89 yX1_lastOf, Cond.instanceMethod yX1_lastOf, Cond.selects RX1 yX1_lastOf yX1_lastOf, Cond.code yX1_lastOf cX1_lastOf 3 (some .int), Cond.methodLink RX1 92 yX1_firstFor, Cond.instanceMethod yX1_firstFor, Cond.selects RX1 yX1_firstFor yX1_firstFor, Cond.code yX1_firstFor cX1_firstFor 4 (some .int), Cond.fieldLink RX1 15 "CowardsPot$Hall" "base" "I", Cond.fieldLink RX1 18 "CowardsPot$Hall" "step" "I"]
def wsX7_gets : List Cond := .code yX7_gets cX7_gets 2 (some .int) :: ((wsX7_gets_r1 ++ wsX7_gets_r2) ++ wsX70 ++ wsX10 ++ wsX00)
def wsX7_isJoint : List Cond := .code yX7_isJoint cX7_isJoint 2 (some .boolean) :: ([.fieldLink RX7 19 "CowardsPot" "now" "LCowardsPot$Hall;", .fieldLink RX7 202 "CowardsPot$Hall" "joints" "I"] ++ wsX70 ++ wsX10)
def wsX7_need_r1 : List Cond := [Cond.fieldLink RX7 53 "CowardsPot" "foretelling" "LCowardsPot$Foretelling;", Cond.fieldLink RX7 19 "CowardsPot" "now" "LCowardsPot$Hall;", Cond.methodLink RX7 91 yX7_isPerson, Cond.instanceMethod yX7_isPerson, Cond.selects RX7 yX7_isPerson yX7_isPerson, Cond.initialized RX7, Cond.code yX7_isPerson cX7_isPerson 2 (some .boolean), Cond.fieldLink RX7 147 "CowardsPot$Hall" "people" "I", Cond.methodLink RX7 183 yX7_isJoint, Cond.instanceMethod yX7_isJoint, Cond.selects RX7 yX7_isJoint yX7_isJoint, Cond.code yX7_isJoint cX7_isJoint 2 (some .boolean), Cond.fieldLink RX7 202 "CowardsPot$Hall" "joints" "I", Cond.methodLink RX7 186 yX0_leastGain, Cond.instanceMethod yX0_leastGain, Cond.selects RX0 yX0_leastGain yX0_leastGain, Cond.initialized RX0, Cond.code yX0_leastGain cX0_leastGain 6 (some .int), Cond.fieldLink RX0 12 "CowardsPot$Foretelling" "trial" "LCowardsPot$Hall;", Cond.methodLink RX0 39 yX1_copyFrom, Cond.instanceMethod yX1_copyFrom, Cond.selects RX1 yX1_copyFrom yX1_copyFrom, Cond.initialized RX1, Cond.code yX1_copyFrom cX1_copyFrom 3 none]
def wsX7_need_r2 : List Cond := [Cond.fieldLink RX1 9 "CowardsPot$Hall" "joints" "I", Cond.fieldLink RX1 15 "CowardsPot$Hall" "base" "I", Cond.fieldLink RX1 18 "CowardsPot$Hall" "step" "I", Cond.fieldLink RX1 21 "CowardsPot$Hall" "yearNumber" "I", Cond.fieldLink RX1 24 "CowardsPot$Hall" "people" "I", Cond.fieldLink RX1 27 "CowardsPot$Hall" "sorts" "I", Cond.fieldLink RX1 30 "CowardsPot$Hall" "kind" "[I", Cond.fieldLink RX1 34 "CowardsPot$Hall" "toldFame" "[I", Cond.fieldLink RX1 37 "CowardsPot$Hall" "fame" "[I", Cond.fieldLink RX1 40 "CowardsPot$Hall" "gain" "[I", Cond.fieldLink RX1 43 "CowardsPot$Hall" "fear" "[I", Cond.fieldLink RX1 46 "CowardsPot$Hall" "latest" "[I", Cond.fieldLink RX1 49 "CowardsPot$Hall" "had" "[I", Cond.fieldLink RX1 52 "CowardsPot$Hall" "sortGain" "[I", Cond.fieldLink RX1 55 "CowardsPot$Hall" "sortFear" "[I", Cond.methodLink RX0 43 yX1_addTo, Cond.instanceMethod yX1_addTo, Cond.selects RX1 yX1_addTo yX1_addTo, Cond.code yX1_addTo cX1_addTo 4 none, Cond.methodLink RX1 69 Lib.Math.min.name, Cond.static Lib.Math.min.name, Cond.initialized "java/lang/Math", Cond.code Lib.Math.min.name Lib.Math.min.code 2 (some .int), Cond.methodLink RX0 47 yX0_jointOf]
def wsX7_need_r3 : List Cond := [Cond.instanceMethod yX0_jointOf, Cond.selects RX0 yX0_jointOf yX0_jointOf, Cond.code yX0_jointOf cX0_jointOf 3 (some .int), Cond.fieldLink RX0 18 "CowardsPot$Foretelling" "served" "[I", Cond.methodLink RX0 35 yX1_serveInto, Cond.instanceMethod yX1_serveInto, Cond.selects RX1 yX1_serveInto yX1_serveInto, Cond.code yX1_serveInto cX1_serveInto 7 none, Cond.fieldLink RX1 58 "CowardsPot$Hall" "scores" "[I", Cond.methodLink RX1 61 yX1_scoreOf, Cond.instanceMethod yX1_scoreOf, Cond.selects RX1 yX1_scoreOf yX1_scoreOf, Cond.code yX1_scoreOf cX1_scoreOf 3 (some .int), Cond.methodLink RX1 86 yX1_nextOf, Cond.instanceMethod yX1_nextOf, Cond.selects RX1 yX1_nextOf yX1_nextOf, Cond.code yX1_nextOf cX1_nextOf 5 (some .int), Cond.methodLink RX1 89 yX1_lastOf, Cond.instanceMethod yX1_lastOf, Cond.selects RX1 yX1_lastOf yX1_lastOf, Cond.code yX1_lastOf cX1_lastOf 3 (some .int), Cond.methodLink RX1 92 yX1_firstFor, Cond.instanceMethod yX1_firstFor, Cond.selects RX1 yX1_firstFor yX1_firstFor]
def wsX7_need_r4 : List Cond := [Cond.code yX1_firstFor cX1_firstFor 4 (some .int)]
def wsX7_need : List Cond := .code yX7_need cX7_need 3 (some .int) :: ((wsX7_need_r1 ++ (wsX7_need_r2 ++ (wsX7_need_r3 ++ wsX7_need_r4))) ++ wsX70 ++ wsX10 ++ wsX00)
def wsX7_deeds_r1 : List Cond := [Cond.fieldLink RX7 53 "CowardsPot" "foretelling" "LCowardsPot$Foretelling;", Cond.fieldLink RX7 19 "CowardsPot" "now" "LCowardsPot$Hall;", Cond.fieldLink RX7 194 "CowardsPot$Foretelling" "chosenMany" "I", Cond.fieldLink RX7 197 "CowardsPot$Foretelling" "chosen" "[I", Cond.methodLink RX7 91 yX7_isPerson, Cond.instanceMethod yX7_isPerson, Cond.selects RX7 yX7_isPerson yX7_isPerson, Cond.initialized RX7, Cond.code yX7_isPerson cX7_isPerson 2 (some .boolean), Cond.fieldLink RX7 147 "CowardsPot$Hall" "people" "I", Cond.methodLink RX7 183 yX7_isJoint, Cond.instanceMethod yX7_isJoint, Cond.selects RX7 yX7_isJoint yX7_isJoint, Cond.code yX7_isJoint cX7_isJoint 2 (some .boolean), Cond.fieldLink RX7 202 "CowardsPot$Hall" "joints" "I", Cond.methodLink RX7 190 yX0_chooseDeeds, Cond.instanceMethod yX0_chooseDeeds, Cond.selects RX0 yX0_chooseDeeds yX0_chooseDeeds, Cond.initialized RX0, Cond.code yX0_chooseDeeds cX0_chooseDeeds 7 none, Cond.fieldLink RX0 28 "CowardsPot$Foretelling" "chosenMany" "I", Cond.fieldLink RX0 51 "CowardsPot$Hall" "sorts" "I", Cond.fieldLink RX0 22 "CowardsPot$Foretelling" "tried" "[I", Cond.methodLink RX0 54 yX0_weigh]
def wsX7_deeds_r2 : List Cond := [Cond.instanceMethod yX0_weigh, Cond.selects RX0 yX0_weigh yX0_weigh, Cond.code yX0_weigh cX0_weigh 8 none, Cond.fieldLink RX0 12 "CowardsPot$Foretelling" "trial" "LCowardsPot$Hall;", Cond.fieldLink RX0 58 "CowardsPot$Hall" "sortFear" "[I", Cond.fieldLink RX0 32 "CowardsPot$Foretelling" "chosenFear" "I", Cond.fieldLink RX0 25 "CowardsPot$Foretelling" "chosen" "[I", Cond.methodLink RX0 39 yX1_copyFrom, Cond.instanceMethod yX1_copyFrom, Cond.selects RX1 yX1_copyFrom yX1_copyFrom, Cond.initialized RX1, Cond.code yX1_copyFrom cX1_copyFrom 3 none, Cond.fieldLink RX1 9 "CowardsPot$Hall" "joints" "I", Cond.fieldLink RX1 15 "CowardsPot$Hall" "base" "I", Cond.fieldLink RX1 18 "CowardsPot$Hall" "step" "I", Cond.fieldLink RX1 21 "CowardsPot$Hall" "yearNumber" "I", Cond.fieldLink RX1 24 "CowardsPot$Hall" "people" "I", Cond.fieldLink RX1 27 "CowardsPot$Hall" "sorts" "I", Cond.fieldLink RX1 30 "CowardsPot$Hall" "kind" "[I", Cond.fieldLink RX1 34 "CowardsPot$Hall" "toldFame" "[I", Cond.fieldLink RX1 37 "CowardsPot$Hall" "fame" "[I", Cond.fieldLink RX1 40 "CowardsPot$Hall" "gain" "[I", Cond.fieldLink RX1 43 "CowardsPot$Hall" "fear" "[I", Cond.fieldLink RX1 46 "CowardsPot$Hall" "latest" "[I"]
def wsX7_deeds_r3 : List Cond := [Cond.fieldLink RX1 49 "CowardsPot$Hall" "had" "[I", Cond.fieldLink RX1 52 "CowardsPot$Hall" "sortGain" "[I", Cond.fieldLink RX1 55 "CowardsPot$Hall" "sortFear" "[I", Cond.methodLink RX0 61 yX1_addDeed, Cond.instanceMethod yX1_addDeed, Cond.selects RX1 yX1_addDeed yX1_addDeed, Cond.code yX1_addDeed cX1_addDeed 3 none, Cond.methodLink RX1 75 yX1_addTo, Cond.instanceMethod yX1_addTo, Cond.selects RX1 yX1_addTo yX1_addTo, Cond.code yX1_addTo cX1_addTo 4 none, Cond.methodLink RX1 69 Lib.Math.min.name, Cond.static Lib.Math.min.name, Cond.initialized "java/lang/Math", Cond.code Lib.Math.min.name Lib.Math.min.code 2 (some .int), Cond.methodLink RX0 47 yX0_jointOf, Cond.instanceMethod yX0_jointOf, Cond.selects RX0 yX0_jointOf yX0_jointOf, Cond.code yX0_jointOf cX0_jointOf 3 (some .int), Cond.fieldLink RX0 18 "CowardsPot$Foretelling" "served" "[I", Cond.methodLink RX0 35 yX1_serveInto, Cond.instanceMethod yX1_serveInto, Cond.selects RX1 yX1_serveInto yX1_serveInto, Cond.code yX1_serveInto cX1_serveInto 7 none]
def wsX7_deeds_r4 : List Cond := [Cond.fieldLink RX1 58 "CowardsPot$Hall" "scores" "[I", Cond.methodLink RX1 61 yX1_scoreOf, Cond.instanceMethod yX1_scoreOf, Cond.selects RX1 yX1_scoreOf yX1_scoreOf, Cond.code yX1_scoreOf cX1_scoreOf 3 (some .int), Cond.methodLink RX1 86 yX1_nextOf, Cond.instanceMethod yX1_nextOf, Cond.selects RX1 yX1_nextOf yX1_nextOf, Cond.code yX1_nextOf cX1_nextOf 5 (some .int), Cond.methodLink RX1 89 yX1_lastOf, Cond.instanceMethod yX1_lastOf, Cond.selects RX1 yX1_lastOf yX1_lastOf, Cond.code yX1_lastOf cX1_lastOf 3 (some .int), Cond.methodLink RX1 92 yX1_firstFor, Cond.instanceMethod yX1_firstFor, Cond.selects RX1 yX1_firstFor yX1_firstFor, Cond.code yX1_firstFor cX1_firstFor 4 (some .int)]
def wsX7_deeds : List Cond := .code yX7_deeds cX7_deeds 4 (some .int) :: ((wsX7_deeds_r1 ++ (wsX7_deeds_r2 ++ (wsX7_deeds_r3 ++ wsX7_deeds_r4))) ++ wsX70 ++ wsX00 ++ wsX10)
def wsX7_seen : List Cond := .code yX7_seen cX7_seen 3 (some .int) :: ([.fieldLink RX7 46 "CowardsPot" "sightings" "LCowardsPot$Sightings;", .fieldLink RX7 80 "CowardsPot$Sightings" "many" "I", .methodLink RX7 183 yX7_isJoint, .instanceMethod yX7_isJoint, .selects RX7 yX7_isJoint yX7_isJoint, .initialized RX7, .code yX7_isJoint cX7_isJoint 2 (some .boolean), .fieldLink RX7 19 "CowardsPot" "now" "LCowardsPot$Hall;", .fieldLink RX7 202 "CowardsPot$Hall" "joints" "I", .methodLink RX7 200 yX5_add, .instanceMethod yX5_add, .selects RX5 yX5_add yX5_add, .initialized RX5, .code yX5_add cX5_add 3 none, .fieldLink RX5 18 "CowardsPot$Sightings" "many" "I", .fieldLink RX5 9 "CowardsPot$Sightings" "scores" "[I", .fieldLink RX5 15 "CowardsPot$Sightings" "jointsHad" "[I"] ++ wsX70 ++ wsX50 ++ wsX10)
def wsX7_forget : List Cond := .code yX7_forget cX7_forget 2 (some .int) :: ([.fieldLink RX7 46 "CowardsPot" "sightings" "LCowardsPot$Sightings;", .fieldLink RX7 80 "CowardsPot$Sightings" "many" "I"] ++ wsX70 ++ wsX50)
def wsX7_scales_r1 : List Cond := [Cond.fieldLink RX7 46 "CowardsPot" "sightings" "LCowardsPot$Sightings;", Cond.fieldLink RX7 19 "CowardsPot" "now" "LCowardsPot$Hall;", Cond.fieldLink RX7 202 "CowardsPot$Hall" "joints" "I", Cond.fieldLink RX7 208 "CowardsPot$Sightings" "scalesFound" "I", Cond.fieldLink RX7 211 "CowardsPot$Sightings" "leastBase" "I", Cond.fieldLink RX7 214 "CowardsPot$Sightings" "leastStep" "I", Cond.methodLink RX7 205 yX5_findScales, Cond.instanceMethod yX5_findScales, Cond.selects RX5 yX5_findScales yX5_findScales, Cond.initialized RX5, Cond.code yX5_findScales cX5_findScales 4 none, Cond.methodLink RX5 43 yX5_clearScales, Cond.instanceMethod yX5_clearScales, Cond.selects RX5 yX5_clearScales yX5_clearScales, Cond.code yX5_clearScales cX5_clearScales 3 none, Cond.fieldLink RX5 22 "CowardsPot$Sightings" "scalesFound" "I", Cond.fieldLink RX5 25 "CowardsPot$Sightings" "leastBase" "I", Cond.fieldLink RX5 28 "CowardsPot$Sightings" "leastStep" "I", Cond.fieldLink RX5 36 "CowardsPot$Sightings" "reached" "[I", Cond.fieldLink RX5 33 "CowardsPot$Sightings" "bounds" "[[I", Cond.methodLink RX5 46 yX5_isSo, Cond.instanceMethod yX5_isSo, Cond.selects RX5 yX5_isSo yX5_isSo, Cond.code yX5_isSo cX5_isSo 5 (some .boolean)]
def wsX7_scales_r2 : List Cond := [Cond.fieldLink RX5 18 "CowardsPot$Sightings" "many" "I", Cond.fieldLink RX5 9 "CowardsPot$Sightings" "scores" "[I", Cond.fieldLink RX5 15 "CowardsPot$Sightings" "jointsHad" "[I", Cond.static yX7_jointFor, Cond.initialized RX7, Cond.code yX7_jointFor cX7_jointFor 5 (some .int), Cond.methodLink RX5 50 yX5_noteScale, Cond.instanceMethod yX5_noteScale, Cond.selects RX5 yX5_noteScale yX5_noteScale, Cond.code yX5_noteScale cX5_noteScale 5 none, Cond.methodLink RX5 54 Lib.Math.max.name, Cond.static Lib.Math.max.name, Cond.initialized "java/lang/Math", Cond.code Lib.Math.max.name Lib.Math.max.code 2 (some .int)]
def wsX7_scales : List Cond := .code yX7_scales cX7_scales 2 (some .int) :: ((wsX7_scales_r1 ++ wsX7_scales_r2) ++ wsX70 ++ wsX10 ++ wsX50)
def wsX7_tells_r1 : List Cond := [Cond.fieldLink RX7 46 "CowardsPot" "sightings" "LCowardsPot$Sightings;", Cond.fieldLink RX7 19 "CowardsPot" "now" "LCowardsPot$Hall;", Cond.fieldLink RX7 202 "CowardsPot$Hall" "joints" "I", Cond.methodLink RX7 217 yX5_mostTelling, Cond.instanceMethod yX5_mostTelling, Cond.selects RX5 yX5_mostTelling yX5_mostTelling, Cond.initialized RX5, Cond.code yX5_mostTelling cX5_mostTelling 6 (some .int), Cond.fieldLink RX5 22 "CowardsPot$Sightings" "scalesFound" "I", Cond.methodLink RX5 60 yX5_findScales, Cond.instanceMethod yX5_findScales, Cond.selects RX5 yX5_findScales yX5_findScales, Cond.code yX5_findScales cX5_findScales 4 none, Cond.methodLink RX5 43 yX5_clearScales, Cond.instanceMethod yX5_clearScales, Cond.selects RX5 yX5_clearScales yX5_clearScales, Cond.code yX5_clearScales cX5_clearScales 3 none, Cond.fieldLink RX5 25 "CowardsPot$Sightings" "leastBase" "I", Cond.fieldLink RX5 28 "CowardsPot$Sightings" "leastStep" "I", Cond.fieldLink RX5 36 "CowardsPot$Sightings" "reached" "[I", Cond.fieldLink RX5 33 "CowardsPot$Sightings" "bounds" "[[I", Cond.methodLink RX5 46 yX5_isSo, Cond.instanceMethod yX5_isSo, Cond.selects RX5 yX5_isSo yX5_isSo]
def wsX7_tells_r2 : List Cond := [Cond.code yX5_isSo cX5_isSo 5 (some .boolean), Cond.fieldLink RX5 18 "CowardsPot$Sightings" "many" "I", Cond.fieldLink RX5 9 "CowardsPot$Sightings" "scores" "[I", Cond.fieldLink RX5 15 "CowardsPot$Sightings" "jointsHad" "[I", Cond.static yX7_jointFor, Cond.initialized RX7, Cond.code yX7_jointFor cX7_jointFor 5 (some .int), Cond.methodLink RX5 50 yX5_noteScale, Cond.instanceMethod yX5_noteScale, Cond.selects RX5 yX5_noteScale yX5_noteScale, Cond.code yX5_noteScale cX5_noteScale 5 none, Cond.methodLink RX5 54 Lib.Math.max.name, Cond.static Lib.Math.max.name, Cond.initialized "java/lang/Math", Cond.code Lib.Math.max.name Lib.Math.max.code 2 (some .int), Cond.methodLink RX5 64 yX5_mostAlike, Cond.instanceMethod yX5_mostAlike, Cond.selects RX5 yX5_mostAlike yX5_mostAlike, Cond.code yX5_mostAlike cX5_mostAlike 6 (some .int)]
def wsX7_tells : List Cond := .code yX7_tells cX7_tells 1 (some .int) :: ((wsX7_tells_r1 ++ wsX7_tells_r2) ++ wsX70 ++ wsX10 ++ wsX50)
def wsX7_commonDivisor : List Cond := .code yX7_commonDivisor cX7_commonDivisor 6 (some .int) :: ([])
def wsX7_chance_r1 : List Cond := [Cond.fieldLink RX7 53 "CowardsPot" "foretelling" "LCowardsPot$Foretelling;", Cond.fieldLink RX7 19 "CowardsPot" "now" "LCowardsPot$Hall;", Cond.fieldLink RX7 147 "CowardsPot$Hall" "people" "I", Cond.methodLink RX7 91 yX7_isPerson, Cond.instanceMethod yX7_isPerson, Cond.selects RX7 yX7_isPerson yX7_isPerson, Cond.initialized RX7, Cond.code yX7_isPerson cX7_isPerson 2 (some .boolean), Cond.methodLink RX7 183 yX7_isJoint, Cond.instanceMethod yX7_isJoint, Cond.selects RX7 yX7_isJoint yX7_isJoint, Cond.code yX7_isJoint cX7_isJoint 2 (some .boolean), Cond.fieldLink RX7 202 "CowardsPot$Hall" "joints" "I", Cond.methodLink RX7 121 yX7_isSort, Cond.instanceMethod yX7_isSort, Cond.selects RX7 yX7_isSort yX7_isSort, Cond.code yX7_isSort cX7_isSort 2 (some .boolean), Cond.fieldLink RX7 231 "CowardsPot$Hall" "sorts" "I", Cond.methodLink RX7 220 yX0_waysOfTen, Cond.instanceMethod yX0_waysOfTen, Cond.selects RX0 yX0_waysOfTen yX0_waysOfTen, Cond.initialized RX0, Cond.code yX0_waysOfTen cX0_waysOfTen 10 (some .int), Cond.fieldLink RX0 65 "CowardsPot$Hall" "people" "I"]
def wsX7_chance_r2 : List Cond := [Cond.fieldLink RX0 12 "CowardsPot$Foretelling" "trial" "LCowardsPot$Hall;", Cond.methodLink RX0 68 yX0_tryDoers, Cond.instanceMethod yX0_tryDoers, Cond.selects RX0 yX0_tryDoers yX0_tryDoers, Cond.code yX0_tryDoers cX0_tryDoers 5 none, Cond.methodLink RX0 39 yX1_copyFrom, Cond.instanceMethod yX1_copyFrom, Cond.selects RX1 yX1_copyFrom yX1_copyFrom, Cond.initialized RX1, Cond.code yX1_copyFrom cX1_copyFrom 3 none, Cond.fieldLink RX1 9 "CowardsPot$Hall" "joints" "I", Cond.fieldLink RX1 15 "CowardsPot$Hall" "base" "I", Cond.fieldLink RX1 18 "CowardsPot$Hall" "step" "I", Cond.fieldLink RX1 21 "CowardsPot$Hall" "yearNumber" "I", Cond.fieldLink RX1 24 "CowardsPot$Hall" "people" "I", Cond.fieldLink RX1 27 "CowardsPot$Hall" "sorts" "I", Cond.fieldLink RX1 30 "CowardsPot$Hall" "kind" "[I", Cond.fieldLink RX1 34 "CowardsPot$Hall" "toldFame" "[I", Cond.fieldLink RX1 37 "CowardsPot$Hall" "fame" "[I", Cond.fieldLink RX1 40 "CowardsPot$Hall" "gain" "[I", Cond.fieldLink RX1 43 "CowardsPot$Hall" "fear" "[I", Cond.fieldLink RX1 46 "CowardsPot$Hall" "latest" "[I", Cond.fieldLink RX1 49 "CowardsPot$Hall" "had" "[I", Cond.fieldLink RX1 52 "CowardsPot$Hall" "sortGain" "[I"]
def wsX7_chance_r3 : List Cond := [Cond.fieldLink RX1 55 "CowardsPot$Hall" "sortFear" "[I", Cond.methodLink RX0 61 yX1_addDeed, Cond.instanceMethod yX1_addDeed, Cond.selects RX1 yX1_addDeed yX1_addDeed, Cond.code yX1_addDeed cX1_addDeed 3 none, Cond.methodLink RX1 75 yX1_addTo, Cond.instanceMethod yX1_addTo, Cond.selects RX1 yX1_addTo yX1_addTo, Cond.code yX1_addTo cX1_addTo 4 none, Cond.methodLink RX1 69 Lib.Math.min.name, Cond.static Lib.Math.min.name, Cond.initialized "java/lang/Math", Cond.code Lib.Math.min.name Lib.Math.min.code 2 (some .int), Cond.methodLink RX0 47 yX0_jointOf, Cond.instanceMethod yX0_jointOf, Cond.selects RX0 yX0_jointOf yX0_jointOf, Cond.code yX0_jointOf cX0_jointOf 3 (some .int), Cond.fieldLink RX0 18 "CowardsPot$Foretelling" "served" "[I", Cond.methodLink RX0 35 yX1_serveInto, Cond.instanceMethod yX1_serveInto, Cond.selects RX1 yX1_serveInto yX1_serveInto, Cond.code yX1_serveInto cX1_serveInto 7 none, Cond.fieldLink RX1 58 "CowardsPot$Hall" "scores" "[I", Cond.methodLink RX1 61 yX1_scoreOf]
def wsX7_chance_r4 : List Cond := [Cond.instanceMethod yX1_scoreOf, Cond.selects RX1 yX1_scoreOf yX1_scoreOf, Cond.code yX1_scoreOf cX1_scoreOf 3 (some .int), Cond.methodLink RX1 86 yX1_nextOf, Cond.instanceMethod yX1_nextOf, Cond.selects RX1 yX1_nextOf yX1_nextOf, Cond.code yX1_nextOf cX1_nextOf 5 (some .int), Cond.methodLink RX1 89 yX1_lastOf, Cond.instanceMethod yX1_lastOf, Cond.selects RX1 yX1_lastOf yX1_lastOf, Cond.code yX1_lastOf cX1_lastOf 3 (some .int), Cond.methodLink RX1 92 yX1_firstFor, Cond.instanceMethod yX1_firstFor, Cond.selects RX1 yX1_firstFor yX1_firstFor, Cond.code yX1_firstFor cX1_firstFor 4 (some .int), Cond.methodLink RX0 72 yJ6_bitCount_0f7a4, Cond.static yJ6_bitCount_0f7a4, Cond.initialized RJ6, Cond.code yJ6_bitCount_0f7a4 cJ6_bitCount_0f7a4 1 (some .int), Cond.constant RJ6 265 (1431655765), Cond.constant RJ6 266 (858993459), Cond.constant RJ6 267 (252645135), Cond.static yX7_power, Cond.code yX7_power cX7_power 4 (some .int)]
def wsX7_chance_r5 : List Cond := [Cond.methodLink RX7 224 yX7_power, Cond.methodLink RX7 228 yX7_commonDivisor, Cond.static yX7_commonDivisor, Cond.code yX7_commonDivisor cX7_commonDivisor 6 (some .int)]
def wsX7_chance : List Cond := .code yX7_chance cX7_chance 9 (some .int) :: ((wsX7_chance_r1 ++ (wsX7_chance_r2 ++ (wsX7_chance_r3 ++ (wsX7_chance_r4 ++ wsX7_chance_r5)))) ++ wsX70 ++ wsX10 ++ wsX00)
def wsX7_count_r1 : List Cond := [Cond.fieldLink RX7 19 "CowardsPot" "now" "LCowardsPot$Hall;", Cond.fieldLink RX7 202 "CowardsPot$Hall" "joints" "I", Cond.fieldLink RX7 147 "CowardsPot$Hall" "people" "I", Cond.fieldLink RX7 231 "CowardsPot$Hall" "sorts" "I", Cond.fieldLink RX7 154 "CowardsPot$Hall" "yearNumber" "I", Cond.fieldLink RX7 160 "CowardsPot$Hall" "base" "I", Cond.fieldLink RX7 163 "CowardsPot$Hall" "step" "I", Cond.fieldLink RX7 46 "CowardsPot" "sightings" "LCowardsPot$Sightings;", Cond.fieldLink RX7 80 "CowardsPot$Sightings" "many" "I", Cond.fieldLink RX7 33 "CowardsPot" "past" "LCowardsPot$Past;", Cond.fieldLink RX7 83 "CowardsPot$Past" "many" "I", Cond.fieldLink RX7 10 "CowardsPot" "text" "LCowardsPot$Text;", Cond.fieldLink RX7 58 "CowardsPot$Text" "length" "I", Cond.methodLink RX7 234 yX1_afraidBits, Cond.instanceMethod yX1_afraidBits, Cond.selects RX1 yX1_afraidBits yX1_afraidBits, Cond.initialized RX1, Cond.code yX1_afraidBits cX1_afraidBits 3 (some .int), Cond.fieldLink RX1 24 "CowardsPot$Hall" "people" "I", Cond.methodLink RX1 65 yX1_isAfraid, Cond.instanceMethod yX1_isAfraid, Cond.selects RX1 yX1_isAfraid yX1_isAfraid, Cond.code yX1_isAfraid cX1_isAfraid 2 (some .boolean), Cond.fieldLink RX1 43 "CowardsPot$Hall" "fear" "[I"]
def wsX7_count_r2 : List Cond := [Cond.methodLink RX1 61 yX1_scoreOf, Cond.instanceMethod yX1_scoreOf, Cond.selects RX1 yX1_scoreOf yX1_scoreOf, Cond.code yX1_scoreOf cX1_scoreOf 3 (some .int), Cond.fieldLink RX1 30 "CowardsPot$Hall" "kind" "[I", Cond.fieldLink RX1 40 "CowardsPot$Hall" "gain" "[I", Cond.fieldLink RX1 37 "CowardsPot$Hall" "fame" "[I"]
def wsX7_count : List Cond := .code yX7_count cX7_count 2 (some .int) :: ((wsX7_count_r1 ++ wsX7_count_r2) ++ wsX70 ++ wsX10 ++ wsX50 ++ wsX30 ++ wsX60)
def wsX8_forgets : List Cond := .code yX8_forgets cX8_forgets 3 none :: ([.fieldLink RX8 16 "CowardsPotModel" "draft" "[I"] ++ wsX80)
def wsX8_in : List Cond := .code yX8_in cX8_in 3 (some .boolean) :: ([])
def wsX8_lays : List Cond := .code yX8_lays cX8_lays 2 none :: ([.fieldLink RX8 19 "CowardsPotModel" "s" "[I", .fieldLink RX8 13 "CowardsPotModel" "told" "[I", .fieldLink RX8 114 "CowardsPotModel" "known" "I", .fieldLink RX8 117 "CowardsPotModel" "noted" "I", .fieldLink RX8 28 "CowardsPotModel" "kept" "[Z", .methodLink RX8 60 yX8_in, .static yX8_in, .initialized RX8, .code yX8_in cX8_in 3 (some .boolean)] ++ wsX80)
def wsX8_init_r1 : List Cond := [Cond.methodLink RX8 1 objectInit, Cond.instanceMethod objectInit, Cond.code objectInit ⟨#[0xb1]⟩ 1 none, Cond.arrayClass .int, Cond.fieldLink RX8 7 "CowardsPotModel" "text" "[I", Cond.fieldLink RX8 13 "CowardsPotModel" "told" "[I", Cond.fieldLink RX8 16 "CowardsPotModel" "draft" "[I", Cond.fieldLink RX8 19 "CowardsPotModel" "s" "[I", Cond.fieldLink RX8 22 "CowardsPotModel" "past" "[I", Cond.fieldLink RX8 25 "CowardsPotModel" "images" "[I", Cond.arrayClass .boolean, Cond.fieldLink RX8 28 "CowardsPotModel" "kept" "[Z", Cond.fieldLink RX8 32 "CowardsPotModel" "notes" "[I", Cond.fieldLink RX8 35 "CowardsPotModel" "joints" "[I", Cond.fieldLink RX8 38 "CowardsPotModel" "tries" "[I", Cond.fieldLink RX8 41 "CowardsPotModel" "best" "[I", Cond.fieldLink RX8 44 "CowardsPotModel" "fits" "[I", Cond.fieldLink RX8 47 "CowardsPotModel" "groups" "[I", Cond.fieldLink RX8 50 "CowardsPotModel" "aside" "[I", Cond.methodLink RX8 53 yX8_forgets, Cond.instanceMethod yX8_forgets, Cond.selects RX8 yX8_forgets yX8_forgets, Cond.initialized RX8, Cond.code yX8_forgets cX8_forgets 3 none]
def wsX8_init_r2 : List Cond := [Cond.methodLink RX8 57 yX8_lays, Cond.instanceMethod yX8_lays, Cond.selects RX8 yX8_lays yX8_lays, Cond.code yX8_lays cX8_lays 2 none, Cond.fieldLink RX8 114 "CowardsPotModel" "known" "I", Cond.fieldLink RX8 117 "CowardsPotModel" "noted" "I", Cond.methodLink RX8 60 yX8_in, Cond.static yX8_in, Cond.code yX8_in cX8_in 3 (some .boolean)]
def wsX8_init : List Cond := .code yX8_init cX8_init 2 none :: ((wsX8_init_r1 ++ wsX8_init_r2) ++ wsX80)
def wsX8_isPerson : List Cond := .code yX8_isPerson cX8_isPerson 2 (some .boolean) :: ([.fieldLink RX8 13 "CowardsPotModel" "told" "[I", .methodLink RX8 60 yX8_in, .static yX8_in, .initialized RX8, .code yX8_in cX8_in 3 (some .boolean)] ++ wsX80)
def wsX8_isSort : List Cond := .code yX8_isSort cX8_isSort 2 (some .boolean) :: ([.fieldLink RX8 13 "CowardsPotModel" "told" "[I", .methodLink RX8 60 yX8_in, .static yX8_in, .initialized RX8, .code yX8_in cX8_in 3 (some .boolean)] ++ wsX80)
def wsX8_isJoint : List Cond := .code yX8_isJoint cX8_isJoint 2 (some .boolean) :: ([.fieldLink RX8 13 "CowardsPotModel" "told" "[I", .methodLink RX8 60 yX8_in, .static yX8_in, .initialized RX8, .code yX8_in cX8_in 3 (some .boolean)] ++ wsX80)
def wsX8_write : List Cond := .code yX8_write cX8_write 2 (some .int) :: ([.fieldLink RX8 64 "CowardsPotModel" "typed" "I", .fieldLink RX8 7 "CowardsPotModel" "text" "[I", .methodLink RX8 60 yX8_in, .static yX8_in, .initialized RX8, .code yX8_in cX8_in 3 (some .boolean)] ++ wsX80)
def wsX8_erase : List Cond := .code yX8_erase cX8_erase 2 (some .int) :: ([.fieldLink RX8 64 "CowardsPotModel" "typed" "I"] ++ wsX80)
def wsX8_letterAt : List Cond := .code yX8_letterAt cX8_letterAt 2 (some .int) :: ([.fieldLink RX8 64 "CowardsPotModel" "typed" "I", .fieldLink RX8 7 "CowardsPotModel" "text" "[I"] ++ wsX80)
def wsX8_isLetter : List Cond := .code yX8_isLetter cX8_isLetter 1 (some .boolean) :: ([.methodLink RX8 60 yX8_in, .static yX8_in, .initialized RX8, .code yX8_in cX8_in 3 (some .boolean)])
def wsX8_isDigit : List Cond := .code yX8_isDigit cX8_isDigit 1 (some .boolean) :: ([.methodLink RX8 60 yX8_in, .static yX8_in, .initialized RX8, .code yX8_in cX8_in 3 (some .boolean)])
def wsX8_token : List Cond := .code yX8_token cX8_token 2 none :: ([.fieldLink RX8 68 "CowardsPotModel" "at" "I", .fieldLink RX8 75 "CowardsPotModel" "start" "I", .fieldLink RX8 85 "CowardsPotModel" "sort" "I", .fieldLink RX8 88 "CowardsPotModel" "value" "I", .fieldLink RX8 7 "CowardsPotModel" "text" "[I", .methodLink RX8 71 yX8_letterAt, .instanceMethod yX8_letterAt, .selects RX8 yX8_letterAt yX8_letterAt, .initialized RX8, .code yX8_letterAt cX8_letterAt 2 (some .int), .fieldLink RX8 64 "CowardsPotModel" "typed" "I", .methodLink RX8 78 yX8_isLetter, .static yX8_isLetter, .code yX8_isLetter cX8_isLetter 1 (some .boolean), .methodLink RX8 60 yX8_in, .static yX8_in, .code yX8_in cX8_in 3 (some .boolean), .methodLink RX8 82 yX8_isDigit, .static yX8_isDigit, .code yX8_isDigit cX8_isDigit 1 (some .boolean)] ++ wsX80)
def wsX8_isWord : List Cond := .code yX8_isWord cX8_isWord 11 (some .boolean) :: ([.fieldLink RX8 85 "CowardsPotModel" "sort" "I", .fieldLink RX8 68 "CowardsPotModel" "at" "I", .fieldLink RX8 75 "CowardsPotModel" "start" "I", .fieldLink RX8 7 "CowardsPotModel" "text" "[I"] ++ wsX80)
def wsX8_number_r1 : List Cond := [Cond.fieldLink RX8 16 "CowardsPotModel" "draft" "[I", Cond.fieldLink RX8 88 "CowardsPotModel" "value" "I", Cond.fieldLink RX8 85 "CowardsPotModel" "sort" "I", Cond.methodLink RX8 91 yX8_token, Cond.instanceMethod yX8_token, Cond.selects RX8 yX8_token yX8_token, Cond.initialized RX8, Cond.code yX8_token cX8_token 2 none, Cond.fieldLink RX8 68 "CowardsPotModel" "at" "I", Cond.fieldLink RX8 75 "CowardsPotModel" "start" "I", Cond.fieldLink RX8 7 "CowardsPotModel" "text" "[I", Cond.methodLink RX8 71 yX8_letterAt, Cond.instanceMethod yX8_letterAt, Cond.selects RX8 yX8_letterAt yX8_letterAt, Cond.code yX8_letterAt cX8_letterAt 2 (some .int), Cond.fieldLink RX8 64 "CowardsPotModel" "typed" "I", Cond.methodLink RX8 78 yX8_isLetter, Cond.static yX8_isLetter, Cond.code yX8_isLetter cX8_isLetter 1 (some .boolean), Cond.methodLink RX8 60 yX8_in, Cond.static yX8_in, Cond.code yX8_in cX8_in 3 (some .boolean), Cond.methodLink RX8 82 yX8_isDigit, Cond.static yX8_isDigit]
def wsX8_number_r2 : List Cond := [Cond.code yX8_isDigit cX8_isDigit 1 (some .boolean)]
def wsX8_number : List Cond := .code yX8_number cX8_number 4 (some .boolean) :: ((wsX8_number_r1 ++ wsX8_number_r2) ++ wsX80)
def wsX8_readsHall_r1 : List Cond := [Cond.fieldLink RX8 85 "CowardsPotModel" "sort" "I", Cond.fieldLink RX8 88 "CowardsPotModel" "value" "I", Cond.methodLink RX8 91 yX8_token, Cond.instanceMethod yX8_token, Cond.selects RX8 yX8_token yX8_token, Cond.initialized RX8, Cond.code yX8_token cX8_token 2 none, Cond.fieldLink RX8 68 "CowardsPotModel" "at" "I", Cond.fieldLink RX8 75 "CowardsPotModel" "start" "I", Cond.fieldLink RX8 7 "CowardsPotModel" "text" "[I", Cond.methodLink RX8 71 yX8_letterAt, Cond.instanceMethod yX8_letterAt, Cond.selects RX8 yX8_letterAt yX8_letterAt, Cond.code yX8_letterAt cX8_letterAt 2 (some .int), Cond.fieldLink RX8 64 "CowardsPotModel" "typed" "I", Cond.methodLink RX8 78 yX8_isLetter, Cond.static yX8_isLetter, Cond.code yX8_isLetter cX8_isLetter 1 (some .boolean), Cond.methodLink RX8 60 yX8_in, Cond.static yX8_in, Cond.code yX8_in cX8_in 3 (some .boolean), Cond.methodLink RX8 82 yX8_isDigit, Cond.static yX8_isDigit, Cond.code yX8_isDigit cX8_isDigit 1 (some .boolean)]
def wsX8_readsHall_r2 : List Cond := [Cond.methodLink RX8 53 yX8_forgets, Cond.instanceMethod yX8_forgets, Cond.selects RX8 yX8_forgets yX8_forgets, Cond.code yX8_forgets cX8_forgets 3 none, Cond.fieldLink RX8 16 "CowardsPotModel" "draft" "[I"]
def wsX8_readsHall : List Cond := .code yX8_readsHall cX8_readsHall 1 (some .boolean) :: ((wsX8_readsHall_r1 ++ wsX8_readsHall_r2) ++ wsX80)
def wsX8_readsPerson_r1 : List Cond := [Cond.fieldLink RX8 16 "CowardsPotModel" "draft" "[I", Cond.methodLink RX8 94 yX8_number, Cond.instanceMethod yX8_number, Cond.selects RX8 yX8_number yX8_number, Cond.initialized RX8, Cond.code yX8_number cX8_number 4 (some .boolean), Cond.fieldLink RX8 88 "CowardsPotModel" "value" "I", Cond.fieldLink RX8 85 "CowardsPotModel" "sort" "I", Cond.methodLink RX8 91 yX8_token, Cond.instanceMethod yX8_token, Cond.selects RX8 yX8_token yX8_token, Cond.code yX8_token cX8_token 2 none, Cond.fieldLink RX8 68 "CowardsPotModel" "at" "I", Cond.fieldLink RX8 75 "CowardsPotModel" "start" "I", Cond.fieldLink RX8 7 "CowardsPotModel" "text" "[I", Cond.methodLink RX8 71 yX8_letterAt, Cond.instanceMethod yX8_letterAt, Cond.selects RX8 yX8_letterAt yX8_letterAt, Cond.code yX8_letterAt cX8_letterAt 2 (some .int), Cond.fieldLink RX8 64 "CowardsPotModel" "typed" "I", Cond.methodLink RX8 78 yX8_isLetter, Cond.static yX8_isLetter, Cond.code yX8_isLetter cX8_isLetter 1 (some .boolean), Cond.methodLink RX8 60 yX8_in]
def wsX8_readsPerson_r2 : List Cond := [Cond.static yX8_in, Cond.code yX8_in cX8_in 3 (some .boolean), Cond.methodLink RX8 82 yX8_isDigit, Cond.static yX8_isDigit, Cond.code yX8_isDigit cX8_isDigit 1 (some .boolean)]
def wsX8_readsPerson : List Cond := .code yX8_readsPerson cX8_readsPerson 3 (some .boolean) :: ((wsX8_readsPerson_r1 ++ wsX8_readsPerson_r2) ++ wsX80)
def wsX8_readsSort_r1 : List Cond := [Cond.fieldLink RX8 16 "CowardsPotModel" "draft" "[I", Cond.methodLink RX8 94 yX8_number, Cond.instanceMethod yX8_number, Cond.selects RX8 yX8_number yX8_number, Cond.initialized RX8, Cond.code yX8_number cX8_number 4 (some .boolean), Cond.fieldLink RX8 88 "CowardsPotModel" "value" "I", Cond.fieldLink RX8 85 "CowardsPotModel" "sort" "I", Cond.methodLink RX8 91 yX8_token, Cond.instanceMethod yX8_token, Cond.selects RX8 yX8_token yX8_token, Cond.code yX8_token cX8_token 2 none, Cond.fieldLink RX8 68 "CowardsPotModel" "at" "I", Cond.fieldLink RX8 75 "CowardsPotModel" "start" "I", Cond.fieldLink RX8 7 "CowardsPotModel" "text" "[I", Cond.methodLink RX8 71 yX8_letterAt, Cond.instanceMethod yX8_letterAt, Cond.selects RX8 yX8_letterAt yX8_letterAt, Cond.code yX8_letterAt cX8_letterAt 2 (some .int), Cond.fieldLink RX8 64 "CowardsPotModel" "typed" "I", Cond.methodLink RX8 78 yX8_isLetter, Cond.static yX8_isLetter, Cond.code yX8_isLetter cX8_isLetter 1 (some .boolean), Cond.methodLink RX8 60 yX8_in]
def wsX8_readsSort_r2 : List Cond := [Cond.static yX8_in, Cond.code yX8_in cX8_in 3 (some .boolean), Cond.methodLink RX8 82 yX8_isDigit, Cond.static yX8_isDigit, Cond.code yX8_isDigit cX8_isDigit 1 (some .boolean)]
def wsX8_readsSort : List Cond := .code yX8_readsSort cX8_readsSort 2 (some .boolean) :: ((wsX8_readsSort_r1 ++ wsX8_readsSort_r2) ++ wsX80)
def wsX8_readsClause_r1 : List Cond := [Cond.methodLink RX8 97 yX8_isWord, Cond.instanceMethod yX8_isWord, Cond.selects RX8 yX8_isWord yX8_isWord, Cond.initialized RX8, Cond.code yX8_isWord cX8_isWord 11 (some .boolean), Cond.fieldLink RX8 85 "CowardsPotModel" "sort" "I", Cond.fieldLink RX8 68 "CowardsPotModel" "at" "I", Cond.fieldLink RX8 75 "CowardsPotModel" "start" "I", Cond.fieldLink RX8 7 "CowardsPotModel" "text" "[I", Cond.methodLink RX8 101 yX8_readsHall, Cond.instanceMethod yX8_readsHall, Cond.selects RX8 yX8_readsHall yX8_readsHall, Cond.code yX8_readsHall cX8_readsHall 1 (some .boolean), Cond.fieldLink RX8 88 "CowardsPotModel" "value" "I", Cond.methodLink RX8 91 yX8_token, Cond.instanceMethod yX8_token, Cond.selects RX8 yX8_token yX8_token, Cond.code yX8_token cX8_token 2 none, Cond.methodLink RX8 71 yX8_letterAt, Cond.instanceMethod yX8_letterAt, Cond.selects RX8 yX8_letterAt yX8_letterAt, Cond.code yX8_letterAt cX8_letterAt 2 (some .int), Cond.fieldLink RX8 64 "CowardsPotModel" "typed" "I", Cond.methodLink RX8 78 yX8_isLetter]
def wsX8_readsClause_r2 : List Cond := [Cond.static yX8_isLetter, Cond.code yX8_isLetter cX8_isLetter 1 (some .boolean), Cond.methodLink RX8 60 yX8_in, Cond.static yX8_in, Cond.code yX8_in cX8_in 3 (some .boolean), Cond.methodLink RX8 82 yX8_isDigit, Cond.static yX8_isDigit, Cond.code yX8_isDigit cX8_isDigit 1 (some .boolean), Cond.methodLink RX8 53 yX8_forgets, Cond.instanceMethod yX8_forgets, Cond.selects RX8 yX8_forgets yX8_forgets, Cond.code yX8_forgets cX8_forgets 3 none, Cond.fieldLink RX8 16 "CowardsPotModel" "draft" "[I", Cond.methodLink RX8 94 yX8_number, Cond.instanceMethod yX8_number, Cond.selects RX8 yX8_number yX8_number, Cond.code yX8_number cX8_number 4 (some .boolean), Cond.methodLink RX8 105 yX8_readsPerson, Cond.instanceMethod yX8_readsPerson, Cond.selects RX8 yX8_readsPerson yX8_readsPerson, Cond.code yX8_readsPerson cX8_readsPerson 3 (some .boolean), Cond.methodLink RX8 108 yX8_readsSort, Cond.instanceMethod yX8_readsSort, Cond.selects RX8 yX8_readsSort yX8_readsSort]
def wsX8_readsClause_r3 : List Cond := [Cond.code yX8_readsSort cX8_readsSort 2 (some .boolean)]
def wsX8_readsClause : List Cond := .code yX8_readsClause cX8_readsClause 1 (some .boolean) :: ((wsX8_readsClause_r1 ++ (wsX8_readsClause_r2 ++ wsX8_readsClause_r3)) ++ wsX80)
def wsX8_reads_r1 : List Cond := [Cond.fieldLink RX8 16 "CowardsPotModel" "draft" "[I", Cond.fieldLink RX8 13 "CowardsPotModel" "told" "[I", Cond.fieldLink RX8 68 "CowardsPotModel" "at" "I", Cond.fieldLink RX8 85 "CowardsPotModel" "sort" "I", Cond.fieldLink RX8 7 "CowardsPotModel" "text" "[I", Cond.fieldLink RX8 75 "CowardsPotModel" "start" "I", Cond.methodLink RX8 91 yX8_token, Cond.instanceMethod yX8_token, Cond.selects RX8 yX8_token yX8_token, Cond.initialized RX8, Cond.code yX8_token cX8_token 2 none, Cond.fieldLink RX8 88 "CowardsPotModel" "value" "I", Cond.methodLink RX8 71 yX8_letterAt, Cond.instanceMethod yX8_letterAt, Cond.selects RX8 yX8_letterAt yX8_letterAt, Cond.code yX8_letterAt cX8_letterAt 2 (some .int), Cond.fieldLink RX8 64 "CowardsPotModel" "typed" "I", Cond.methodLink RX8 78 yX8_isLetter, Cond.static yX8_isLetter, Cond.code yX8_isLetter cX8_isLetter 1 (some .boolean), Cond.methodLink RX8 60 yX8_in, Cond.static yX8_in, Cond.code yX8_in cX8_in 3 (some .boolean), Cond.methodLink RX8 82 yX8_isDigit]
def wsX8_reads_r2 : List Cond := [Cond.static yX8_isDigit, Cond.code yX8_isDigit cX8_isDigit 1 (some .boolean), Cond.methodLink RX8 111 yX8_readsClause, Cond.instanceMethod yX8_readsClause, Cond.selects RX8 yX8_readsClause yX8_readsClause, Cond.code yX8_readsClause cX8_readsClause 1 (some .boolean), Cond.methodLink RX8 97 yX8_isWord, Cond.instanceMethod yX8_isWord, Cond.selects RX8 yX8_isWord yX8_isWord, Cond.code yX8_isWord cX8_isWord 11 (some .boolean), Cond.methodLink RX8 101 yX8_readsHall, Cond.instanceMethod yX8_readsHall, Cond.selects RX8 yX8_readsHall yX8_readsHall, Cond.code yX8_readsHall cX8_readsHall 1 (some .boolean), Cond.methodLink RX8 53 yX8_forgets, Cond.instanceMethod yX8_forgets, Cond.selects RX8 yX8_forgets yX8_forgets, Cond.code yX8_forgets cX8_forgets 3 none, Cond.methodLink RX8 94 yX8_number, Cond.instanceMethod yX8_number, Cond.selects RX8 yX8_number yX8_number, Cond.code yX8_number cX8_number 4 (some .boolean), Cond.methodLink RX8 105 yX8_readsPerson, Cond.instanceMethod yX8_readsPerson]
def wsX8_reads_r3 : List Cond := [Cond.selects RX8 yX8_readsPerson yX8_readsPerson, Cond.code yX8_readsPerson cX8_readsPerson 3 (some .boolean), Cond.methodLink RX8 108 yX8_readsSort, Cond.instanceMethod yX8_readsSort, Cond.selects RX8 yX8_readsSort yX8_readsSort, Cond.code yX8_readsSort cX8_readsSort 2 (some .boolean)]
def wsX8_reads : List Cond := .code yX8_reads cX8_reads 3 (some .int) :: ((wsX8_reads_r1 ++ (wsX8_reads_r2 ++ wsX8_reads_r3)) ++ wsX80)
def wsX8_fault_r1 : List Cond := [Cond.fieldLink RX8 75 "CowardsPotModel" "start" "I", Cond.methodLink RX8 120 yX8_reads, Cond.instanceMethod yX8_reads, Cond.selects RX8 yX8_reads yX8_reads, Cond.initialized RX8, Cond.code yX8_reads cX8_reads 3 (some .int), Cond.fieldLink RX8 16 "CowardsPotModel" "draft" "[I", Cond.fieldLink RX8 13 "CowardsPotModel" "told" "[I", Cond.fieldLink RX8 68 "CowardsPotModel" "at" "I", Cond.fieldLink RX8 85 "CowardsPotModel" "sort" "I", Cond.fieldLink RX8 7 "CowardsPotModel" "text" "[I", Cond.methodLink RX8 91 yX8_token, Cond.instanceMethod yX8_token, Cond.selects RX8 yX8_token yX8_token, Cond.code yX8_token cX8_token 2 none, Cond.fieldLink RX8 88 "CowardsPotModel" "value" "I", Cond.methodLink RX8 71 yX8_letterAt, Cond.instanceMethod yX8_letterAt, Cond.selects RX8 yX8_letterAt yX8_letterAt, Cond.code yX8_letterAt cX8_letterAt 2 (some .int), Cond.fieldLink RX8 64 "CowardsPotModel" "typed" "I", Cond.methodLink RX8 78 yX8_isLetter, Cond.static yX8_isLetter, Cond.code yX8_isLetter cX8_isLetter 1 (some .boolean)]
def wsX8_fault_r2 : List Cond := [Cond.methodLink RX8 60 yX8_in, Cond.static yX8_in, Cond.code yX8_in cX8_in 3 (some .boolean), Cond.methodLink RX8 82 yX8_isDigit, Cond.static yX8_isDigit, Cond.code yX8_isDigit cX8_isDigit 1 (some .boolean), Cond.methodLink RX8 111 yX8_readsClause, Cond.instanceMethod yX8_readsClause, Cond.selects RX8 yX8_readsClause yX8_readsClause, Cond.code yX8_readsClause cX8_readsClause 1 (some .boolean), Cond.methodLink RX8 97 yX8_isWord, Cond.instanceMethod yX8_isWord, Cond.selects RX8 yX8_isWord yX8_isWord, Cond.code yX8_isWord cX8_isWord 11 (some .boolean), Cond.methodLink RX8 101 yX8_readsHall, Cond.instanceMethod yX8_readsHall, Cond.selects RX8 yX8_readsHall yX8_readsHall, Cond.code yX8_readsHall cX8_readsHall 1 (some .boolean), Cond.methodLink RX8 53 yX8_forgets, Cond.instanceMethod yX8_forgets, Cond.selects RX8 yX8_forgets yX8_forgets, Cond.code yX8_forgets cX8_forgets 3 none, Cond.methodLink RX8 94 yX8_number, Cond.instanceMethod yX8_number]
def wsX8_fault_r3 : List Cond := [Cond.selects RX8 yX8_number yX8_number, Cond.code yX8_number cX8_number 4 (some .boolean), Cond.methodLink RX8 105 yX8_readsPerson, Cond.instanceMethod yX8_readsPerson, Cond.selects RX8 yX8_readsPerson yX8_readsPerson, Cond.code yX8_readsPerson cX8_readsPerson 3 (some .boolean), Cond.methodLink RX8 108 yX8_readsSort, Cond.instanceMethod yX8_readsSort, Cond.selects RX8 yX8_readsSort yX8_readsSort, Cond.code yX8_readsSort cX8_readsSort 2 (some .boolean)]
def wsX8_fault : List Cond := .code yX8_fault cX8_fault 1 (some .int) :: ((wsX8_fault_r1 ++ (wsX8_fault_r2 ++ wsX8_fault_r3)) ++ wsX80)
def wsX8_hall_r1 : List Cond := [Cond.fieldLink RX8 13 "CowardsPotModel" "told" "[I", Cond.fieldLink RX8 16 "CowardsPotModel" "draft" "[I", Cond.fieldLink RX8 64 "CowardsPotModel" "typed" "I", Cond.methodLink RX8 120 yX8_reads, Cond.instanceMethod yX8_reads, Cond.selects RX8 yX8_reads yX8_reads, Cond.initialized RX8, Cond.code yX8_reads cX8_reads 3 (some .int), Cond.fieldLink RX8 68 "CowardsPotModel" "at" "I", Cond.fieldLink RX8 85 "CowardsPotModel" "sort" "I", Cond.fieldLink RX8 7 "CowardsPotModel" "text" "[I", Cond.fieldLink RX8 75 "CowardsPotModel" "start" "I", Cond.methodLink RX8 91 yX8_token, Cond.instanceMethod yX8_token, Cond.selects RX8 yX8_token yX8_token, Cond.code yX8_token cX8_token 2 none, Cond.fieldLink RX8 88 "CowardsPotModel" "value" "I", Cond.methodLink RX8 71 yX8_letterAt, Cond.instanceMethod yX8_letterAt, Cond.selects RX8 yX8_letterAt yX8_letterAt, Cond.code yX8_letterAt cX8_letterAt 2 (some .int), Cond.methodLink RX8 78 yX8_isLetter, Cond.static yX8_isLetter, Cond.code yX8_isLetter cX8_isLetter 1 (some .boolean)]
def wsX8_hall_r2 : List Cond := [Cond.methodLink RX8 60 yX8_in, Cond.static yX8_in, Cond.code yX8_in cX8_in 3 (some .boolean), Cond.methodLink RX8 82 yX8_isDigit, Cond.static yX8_isDigit, Cond.code yX8_isDigit cX8_isDigit 1 (some .boolean), Cond.methodLink RX8 111 yX8_readsClause, Cond.instanceMethod yX8_readsClause, Cond.selects RX8 yX8_readsClause yX8_readsClause, Cond.code yX8_readsClause cX8_readsClause 1 (some .boolean), Cond.methodLink RX8 97 yX8_isWord, Cond.instanceMethod yX8_isWord, Cond.selects RX8 yX8_isWord yX8_isWord, Cond.code yX8_isWord cX8_isWord 11 (some .boolean), Cond.methodLink RX8 101 yX8_readsHall, Cond.instanceMethod yX8_readsHall, Cond.selects RX8 yX8_readsHall yX8_readsHall, Cond.code yX8_readsHall cX8_readsHall 1 (some .boolean), Cond.methodLink RX8 53 yX8_forgets, Cond.instanceMethod yX8_forgets, Cond.selects RX8 yX8_forgets yX8_forgets, Cond.code yX8_forgets cX8_forgets 3 none, Cond.methodLink RX8 94 yX8_number, Cond.instanceMethod yX8_number]
def wsX8_hall_r3 : List Cond := [Cond.selects RX8 yX8_number yX8_number, Cond.code yX8_number cX8_number 4 (some .boolean), Cond.methodLink RX8 105 yX8_readsPerson, Cond.instanceMethod yX8_readsPerson, Cond.selects RX8 yX8_readsPerson yX8_readsPerson, Cond.code yX8_readsPerson cX8_readsPerson 3 (some .boolean), Cond.methodLink RX8 108 yX8_readsSort, Cond.instanceMethod yX8_readsSort, Cond.selects RX8 yX8_readsSort yX8_readsSort, Cond.code yX8_readsSort cX8_readsSort 2 (some .boolean), Cond.methodLink RX8 57 yX8_lays, Cond.instanceMethod yX8_lays, Cond.selects RX8 yX8_lays yX8_lays, Cond.code yX8_lays cX8_lays 2 none, Cond.fieldLink RX8 19 "CowardsPotModel" "s" "[I", Cond.fieldLink RX8 114 "CowardsPotModel" "known" "I", Cond.fieldLink RX8 117 "CowardsPotModel" "noted" "I", Cond.fieldLink RX8 28 "CowardsPotModel" "kept" "[Z"]
def wsX8_hall : List Cond := .code yX8_hall cX8_hall 3 (some .int) :: ((wsX8_hall_r1 ++ (wsX8_hall_r2 ++ wsX8_hall_r3)) ++ wsX80)
def wsX8_scoreOf : List Cond := .code yX8_scoreOf cX8_scoreOf 5 (some .int) :: ([.fieldLink RX8 13 "CowardsPotModel" "told" "[I", .fieldLink RX8 19 "CowardsPotModel" "s" "[I"] ++ wsX80)
def wsX8_isAfraid : List Cond := .code yX8_isAfraid cX8_isAfraid 2 (some .boolean) :: ([.fieldLink RX8 19 "CowardsPotModel" "s" "[I", .methodLink RX8 124 yX8_scoreOf, .instanceMethod yX8_scoreOf, .selects RX8 yX8_scoreOf yX8_scoreOf, .initialized RX8, .code yX8_scoreOf cX8_scoreOf 5 (some .int), .fieldLink RX8 13 "CowardsPotModel" "told" "[I"] ++ wsX80)
def wsX8_person : List Cond := .code yX8_person cX8_person 3 (some .int) :: ([.fieldLink RX8 13 "CowardsPotModel" "told" "[I", .fieldLink RX8 19 "CowardsPotModel" "s" "[I", .methodLink RX8 127 yX8_isPerson, .instanceMethod yX8_isPerson, .selects RX8 yX8_isPerson yX8_isPerson, .initialized RX8, .code yX8_isPerson cX8_isPerson 2 (some .boolean), .methodLink RX8 60 yX8_in, .static yX8_in, .code yX8_in cX8_in 3 (some .boolean), .methodLink RX8 124 yX8_scoreOf, .instanceMethod yX8_scoreOf, .selects RX8 yX8_scoreOf yX8_scoreOf, .code yX8_scoreOf cX8_scoreOf 5 (some .int), .methodLink RX8 130 yX8_isAfraid, .instanceMethod yX8_isAfraid, .selects RX8 yX8_isAfraid yX8_isAfraid, .code yX8_isAfraid cX8_isAfraid 2 (some .boolean)] ++ wsX80)
def wsX8_sort : List Cond := .code yX8_sort cX8_sort 3 (some .int) :: ([.fieldLink RX8 13 "CowardsPotModel" "told" "[I", .methodLink RX8 133 yX8_isSort, .instanceMethod yX8_isSort, .selects RX8 yX8_isSort yX8_isSort, .initialized RX8, .code yX8_isSort cX8_isSort 2 (some .boolean), .methodLink RX8 60 yX8_in, .static yX8_in, .code yX8_in cX8_in 3 (some .boolean)] ++ wsX80)
def wsX8_fameBehind : List Cond := .code yX8_fameBehind cX8_fameBehind 3 (some .int) :: ([.fieldLink RX8 19 "CowardsPotModel" "s" "[I", .fieldLink RX8 13 "CowardsPotModel" "told" "[I"] ++ wsX80)
def wsX8_as : List Cond := .code yX8_as cX8_as 5 (some .int) :: ([.fieldLink RX8 13 "CowardsPotModel" "told" "[I", .fieldLink RX8 19 "CowardsPotModel" "s" "[I", .methodLink RX8 127 yX8_isPerson, .instanceMethod yX8_isPerson, .selects RX8 yX8_isPerson yX8_isPerson, .initialized RX8, .code yX8_isPerson cX8_isPerson 2 (some .boolean), .methodLink RX8 60 yX8_in, .static yX8_in, .code yX8_in cX8_in 3 (some .boolean), .methodLink RX8 136 yX8_fameBehind, .instanceMethod yX8_fameBehind, .selects RX8 yX8_fameBehind yX8_fameBehind, .code yX8_fameBehind cX8_fameBehind 3 (some .int)] ++ wsX80)
def wsX8_keeps : List Cond := .code yX8_keeps cX8_keeps 2 none :: ([.fieldLink RX8 114 "CowardsPotModel" "known" "I", .fieldLink RX8 22 "CowardsPotModel" "past" "[I", .fieldLink RX8 19 "CowardsPotModel" "s" "[I"] ++ wsX80)
def wsX8_bound : List Cond := .code yX8_bound cX8_bound 1 (some .int) :: ([])
def wsX8_does : List Cond := .code yX8_does cX8_does 3 none :: ([.fieldLink RX8 19 "CowardsPotModel" "s" "[I", .fieldLink RX8 13 "CowardsPotModel" "told" "[I", .methodLink RX8 139 yX8_bound, .static yX8_bound, .initialized RX8, .code yX8_bound cX8_bound 1 (some .int)] ++ wsX80)
def wsX8_deed_r1 : List Cond := [Cond.methodLink RX8 127 yX8_isPerson, Cond.instanceMethod yX8_isPerson, Cond.selects RX8 yX8_isPerson yX8_isPerson, Cond.initialized RX8, Cond.code yX8_isPerson cX8_isPerson 2 (some .boolean), Cond.fieldLink RX8 13 "CowardsPotModel" "told" "[I", Cond.methodLink RX8 60 yX8_in, Cond.static yX8_in, Cond.code yX8_in cX8_in 3 (some .boolean), Cond.methodLink RX8 133 yX8_isSort, Cond.instanceMethod yX8_isSort, Cond.selects RX8 yX8_isSort yX8_isSort, Cond.code yX8_isSort cX8_isSort 2 (some .boolean), Cond.methodLink RX8 142 yX8_keeps, Cond.instanceMethod yX8_keeps, Cond.selects RX8 yX8_keeps yX8_keeps, Cond.code yX8_keeps cX8_keeps 2 none, Cond.fieldLink RX8 114 "CowardsPotModel" "known" "I", Cond.fieldLink RX8 22 "CowardsPotModel" "past" "[I", Cond.fieldLink RX8 19 "CowardsPotModel" "s" "[I", Cond.methodLink RX8 145 yX8_does, Cond.instanceMethod yX8_does, Cond.selects RX8 yX8_does yX8_does, Cond.code yX8_does cX8_does 3 none]
def wsX8_deed_r2 : List Cond := [Cond.methodLink RX8 139 yX8_bound, Cond.static yX8_bound, Cond.code yX8_bound cX8_bound 1 (some .int), Cond.methodLink RX8 124 yX8_scoreOf, Cond.instanceMethod yX8_scoreOf, Cond.selects RX8 yX8_scoreOf yX8_scoreOf, Cond.code yX8_scoreOf cX8_scoreOf 5 (some .int)]
def wsX8_deed : List Cond := .code yX8_deed cX8_deed 3 (some .int) :: ((wsX8_deed_r1 ++ wsX8_deed_r2) ++ wsX80)
def wsX8_jointFor : List Cond := .code yX8_jointFor cX8_jointFor 9 (some .int) :: ([.fieldLink RX8 13 "CowardsPotModel" "told" "[I"] ++ wsX80)
def wsX8_feasts : List Cond := .code yX8_feasts cX8_feasts 7 none :: ([.fieldLink RX8 13 "CowardsPotModel" "told" "[I", .fieldLink RX8 35 "CowardsPotModel" "joints" "[I", .fieldLink RX8 19 "CowardsPotModel" "s" "[I", .methodLink RX8 130 yX8_isAfraid, .instanceMethod yX8_isAfraid, .selects RX8 yX8_isAfraid yX8_isAfraid, .initialized RX8, .code yX8_isAfraid cX8_isAfraid 2 (some .boolean), .methodLink RX8 124 yX8_scoreOf, .instanceMethod yX8_scoreOf, .selects RX8 yX8_scoreOf yX8_scoreOf, .code yX8_scoreOf cX8_scoreOf 5 (some .int), .methodLink RX8 149 yX8_jointFor, .instanceMethod yX8_jointFor, .selects RX8 yX8_jointFor yX8_jointFor, .code yX8_jointFor cX8_jointFor 9 (some .int)] ++ wsX80)
def wsX8_feast_r1 : List Cond := [Cond.fieldLink RX8 13 "CowardsPotModel" "told" "[I", Cond.fieldLink RX8 19 "CowardsPotModel" "s" "[I", Cond.fieldLink RX8 35 "CowardsPotModel" "joints" "[I", Cond.methodLink RX8 142 yX8_keeps, Cond.instanceMethod yX8_keeps, Cond.selects RX8 yX8_keeps yX8_keeps, Cond.initialized RX8, Cond.code yX8_keeps cX8_keeps 2 none, Cond.fieldLink RX8 114 "CowardsPotModel" "known" "I", Cond.fieldLink RX8 22 "CowardsPotModel" "past" "[I", Cond.methodLink RX8 153 yX8_feasts, Cond.instanceMethod yX8_feasts, Cond.selects RX8 yX8_feasts yX8_feasts, Cond.code yX8_feasts cX8_feasts 7 none, Cond.methodLink RX8 130 yX8_isAfraid, Cond.instanceMethod yX8_isAfraid, Cond.selects RX8 yX8_isAfraid yX8_isAfraid, Cond.code yX8_isAfraid cX8_isAfraid 2 (some .boolean), Cond.methodLink RX8 124 yX8_scoreOf, Cond.instanceMethod yX8_scoreOf, Cond.selects RX8 yX8_scoreOf yX8_scoreOf, Cond.code yX8_scoreOf cX8_scoreOf 5 (some .int), Cond.methodLink RX8 149 yX8_jointFor, Cond.instanceMethod yX8_jointFor]
def wsX8_feast_r2 : List Cond := [Cond.selects RX8 yX8_jointFor yX8_jointFor, Cond.code yX8_jointFor cX8_jointFor 9 (some .int)]
def wsX8_feast : List Cond := .code yX8_feast cX8_feast 3 (some .int) :: ((wsX8_feast_r1 ++ wsX8_feast_r2) ++ wsX80)
def wsX8_year : List Cond := .code yX8_year cX8_year 2 (some .int) :: ([.fieldLink RX8 19 "CowardsPotModel" "s" "[I", .fieldLink RX8 13 "CowardsPotModel" "told" "[I", .methodLink RX8 142 yX8_keeps, .instanceMethod yX8_keeps, .selects RX8 yX8_keeps yX8_keeps, .initialized RX8, .code yX8_keeps cX8_keeps 2 none, .fieldLink RX8 114 "CowardsPotModel" "known" "I", .fieldLink RX8 22 "CowardsPotModel" "past" "[I", .methodLink RX8 136 yX8_fameBehind, .instanceMethod yX8_fameBehind, .selects RX8 yX8_fameBehind yX8_fameBehind, .code yX8_fameBehind cX8_fameBehind 3 (some .int)] ++ wsX80)
def wsX8_scale : List Cond := .code yX8_scale cX8_scale 4 (some .int) :: ([.fieldLink RX8 19 "CowardsPotModel" "s" "[I", .methodLink RX8 60 yX8_in, .static yX8_in, .initialized RX8, .code yX8_in cX8_in 3 (some .boolean), .methodLink RX8 142 yX8_keeps, .instanceMethod yX8_keeps, .selects RX8 yX8_keeps yX8_keeps, .code yX8_keeps cX8_keeps 2 none, .fieldLink RX8 114 "CowardsPotModel" "known" "I", .fieldLink RX8 22 "CowardsPotModel" "past" "[I"] ++ wsX80)
def wsX8_undo : List Cond := .code yX8_undo cX8_undo 2 (some .int) :: ([.fieldLink RX8 114 "CowardsPotModel" "known" "I", .fieldLink RX8 19 "CowardsPotModel" "s" "[I", .fieldLink RX8 22 "CowardsPotModel" "past" "[I"] ++ wsX80)
def wsX8_keep : List Cond := .code yX8_keep cX8_keep 3 (some .int) :: ([.fieldLink RX8 25 "CowardsPotModel" "images" "[I", .fieldLink RX8 19 "CowardsPotModel" "s" "[I", .fieldLink RX8 28 "CowardsPotModel" "kept" "[Z", .methodLink RX8 60 yX8_in, .static yX8_in, .initialized RX8, .code yX8_in cX8_in 3 (some .boolean)] ++ wsX80)
def wsX8_back : List Cond := .code yX8_back cX8_back 3 (some .int) :: ([.fieldLink RX8 28 "CowardsPotModel" "kept" "[Z", .fieldLink RX8 19 "CowardsPotModel" "s" "[I", .fieldLink RX8 25 "CowardsPotModel" "images" "[I", .fieldLink RX8 114 "CowardsPotModel" "known" "I", .methodLink RX8 60 yX8_in, .static yX8_in, .initialized RX8, .code yX8_in cX8_in 3 (some .boolean)] ++ wsX80)
def wsX8_getsNow : List Cond := .code yX8_getsNow cX8_getsNow 2 (some .int) :: ([.fieldLink RX8 35 "CowardsPotModel" "joints" "[I", .methodLink RX8 153 yX8_feasts, .instanceMethod yX8_feasts, .selects RX8 yX8_feasts yX8_feasts, .initialized RX8, .code yX8_feasts cX8_feasts 7 none, .fieldLink RX8 13 "CowardsPotModel" "told" "[I", .fieldLink RX8 19 "CowardsPotModel" "s" "[I", .methodLink RX8 130 yX8_isAfraid, .instanceMethod yX8_isAfraid, .selects RX8 yX8_isAfraid yX8_isAfraid, .code yX8_isAfraid cX8_isAfraid 2 (some .boolean), .methodLink RX8 124 yX8_scoreOf, .instanceMethod yX8_scoreOf, .selects RX8 yX8_scoreOf yX8_scoreOf, .code yX8_scoreOf cX8_scoreOf 5 (some .int), .methodLink RX8 149 yX8_jointFor, .instanceMethod yX8_jointFor, .selects RX8 yX8_jointFor yX8_jointFor, .code yX8_jointFor cX8_jointFor 9 (some .int)] ++ wsX80)
def wsX8_gets_r1 : List Cond := [Cond.methodLink RX8 127 yX8_isPerson, Cond.instanceMethod yX8_isPerson, Cond.selects RX8 yX8_isPerson yX8_isPerson, Cond.initialized RX8, Cond.code yX8_isPerson cX8_isPerson 2 (some .boolean), Cond.fieldLink RX8 13 "CowardsPotModel" "told" "[I", Cond.methodLink RX8 60 yX8_in, Cond.static yX8_in, Cond.code yX8_in cX8_in 3 (some .boolean), Cond.methodLink RX8 156 yX8_getsNow, Cond.instanceMethod yX8_getsNow, Cond.selects RX8 yX8_getsNow yX8_getsNow, Cond.code yX8_getsNow cX8_getsNow 2 (some .int), Cond.fieldLink RX8 35 "CowardsPotModel" "joints" "[I", Cond.methodLink RX8 153 yX8_feasts, Cond.instanceMethod yX8_feasts, Cond.selects RX8 yX8_feasts yX8_feasts, Cond.code yX8_feasts cX8_feasts 7 none, Cond.fieldLink RX8 19 "CowardsPotModel" "s" "[I", Cond.methodLink RX8 130 yX8_isAfraid, Cond.instanceMethod yX8_isAfraid, Cond.selects RX8 yX8_isAfraid yX8_isAfraid, Cond.code yX8_isAfraid cX8_isAfraid 2 (some .boolean), Cond.methodLink RX8 124 yX8_scoreOf]
def wsX8_gets_r2 : List Cond := [Cond.instanceMethod yX8_scoreOf, Cond.selects RX8 yX8_scoreOf yX8_scoreOf, Cond.code yX8_scoreOf cX8_scoreOf 5 (some .int), Cond.methodLink RX8 149 yX8_jointFor, Cond.instanceMethod yX8_jointFor, Cond.selects RX8 yX8_jointFor yX8_jointFor, Cond.code yX8_jointFor cX8_jointFor 9 (some .int)]
def wsX8_gets : List Cond := .code yX8_gets cX8_gets 2 (some .int) :: ((wsX8_gets_r1 ++ wsX8_gets_r2) ++ wsX80)
def wsX8_need_r1 : List Cond := [Cond.fieldLink RX8 19 "CowardsPotModel" "s" "[I", Cond.methodLink RX8 127 yX8_isPerson, Cond.instanceMethod yX8_isPerson, Cond.selects RX8 yX8_isPerson yX8_isPerson, Cond.initialized RX8, Cond.code yX8_isPerson cX8_isPerson 2 (some .boolean), Cond.fieldLink RX8 13 "CowardsPotModel" "told" "[I", Cond.methodLink RX8 60 yX8_in, Cond.static yX8_in, Cond.code yX8_in cX8_in 3 (some .boolean), Cond.methodLink RX8 159 yX8_isJoint, Cond.instanceMethod yX8_isJoint, Cond.selects RX8 yX8_isJoint yX8_isJoint, Cond.code yX8_isJoint cX8_isJoint 2 (some .boolean), Cond.methodLink RX8 139 yX8_bound, Cond.static yX8_bound, Cond.code yX8_bound cX8_bound 1 (some .int), Cond.methodLink RX8 156 yX8_getsNow, Cond.instanceMethod yX8_getsNow, Cond.selects RX8 yX8_getsNow yX8_getsNow, Cond.code yX8_getsNow cX8_getsNow 2 (some .int), Cond.fieldLink RX8 35 "CowardsPotModel" "joints" "[I", Cond.methodLink RX8 153 yX8_feasts, Cond.instanceMethod yX8_feasts]
def wsX8_need_r2 : List Cond := [Cond.selects RX8 yX8_feasts yX8_feasts, Cond.code yX8_feasts cX8_feasts 7 none, Cond.methodLink RX8 130 yX8_isAfraid, Cond.instanceMethod yX8_isAfraid, Cond.selects RX8 yX8_isAfraid yX8_isAfraid, Cond.code yX8_isAfraid cX8_isAfraid 2 (some .boolean), Cond.methodLink RX8 124 yX8_scoreOf, Cond.instanceMethod yX8_scoreOf, Cond.selects RX8 yX8_scoreOf yX8_scoreOf, Cond.code yX8_scoreOf cX8_scoreOf 5 (some .int), Cond.methodLink RX8 149 yX8_jointFor, Cond.instanceMethod yX8_jointFor, Cond.selects RX8 yX8_jointFor yX8_jointFor, Cond.code yX8_jointFor cX8_jointFor 9 (some .int)]
def wsX8_need : List Cond := .code yX8_need cX8_need 7 (some .int) :: ((wsX8_need_r1 ++ wsX8_need_r2) ++ wsX80)
def wsX8_bring_r1 : List Cond := [Cond.fieldLink RX8 19 "CowardsPotModel" "s" "[I", Cond.fieldLink RX8 38 "CowardsPotModel" "tries" "[I", Cond.methodLink RX8 145 yX8_does, Cond.instanceMethod yX8_does, Cond.selects RX8 yX8_does yX8_does, Cond.initialized RX8, Cond.code yX8_does cX8_does 3 none, Cond.fieldLink RX8 13 "CowardsPotModel" "told" "[I", Cond.methodLink RX8 139 yX8_bound, Cond.static yX8_bound, Cond.code yX8_bound cX8_bound 1 (some .int), Cond.methodLink RX8 156 yX8_getsNow, Cond.instanceMethod yX8_getsNow, Cond.selects RX8 yX8_getsNow yX8_getsNow, Cond.code yX8_getsNow cX8_getsNow 2 (some .int), Cond.fieldLink RX8 35 "CowardsPotModel" "joints" "[I", Cond.methodLink RX8 153 yX8_feasts, Cond.instanceMethod yX8_feasts, Cond.selects RX8 yX8_feasts yX8_feasts, Cond.code yX8_feasts cX8_feasts 7 none, Cond.methodLink RX8 130 yX8_isAfraid, Cond.instanceMethod yX8_isAfraid, Cond.selects RX8 yX8_isAfraid yX8_isAfraid, Cond.code yX8_isAfraid cX8_isAfraid 2 (some .boolean)]
def wsX8_bring_r2 : List Cond := [Cond.methodLink RX8 124 yX8_scoreOf, Cond.instanceMethod yX8_scoreOf, Cond.selects RX8 yX8_scoreOf yX8_scoreOf, Cond.code yX8_scoreOf cX8_scoreOf 5 (some .int), Cond.methodLink RX8 149 yX8_jointFor, Cond.instanceMethod yX8_jointFor, Cond.selects RX8 yX8_jointFor yX8_jointFor, Cond.code yX8_jointFor cX8_jointFor 9 (some .int)]
def wsX8_bring : List Cond := .code yX8_bring cX8_bring 7 (some .boolean) :: ((wsX8_bring_r1 ++ wsX8_bring_r2) ++ wsX80)
def wsX8_deeds_r1 : List Cond := [Cond.fieldLink RX8 38 "CowardsPotModel" "tries" "[I", Cond.fieldLink RX8 13 "CowardsPotModel" "told" "[I", Cond.fieldLink RX8 41 "CowardsPotModel" "best" "[I", Cond.methodLink RX8 127 yX8_isPerson, Cond.instanceMethod yX8_isPerson, Cond.selects RX8 yX8_isPerson yX8_isPerson, Cond.initialized RX8, Cond.code yX8_isPerson cX8_isPerson 2 (some .boolean), Cond.methodLink RX8 60 yX8_in, Cond.static yX8_in, Cond.code yX8_in cX8_in 3 (some .boolean), Cond.methodLink RX8 159 yX8_isJoint, Cond.instanceMethod yX8_isJoint, Cond.selects RX8 yX8_isJoint yX8_isJoint, Cond.code yX8_isJoint cX8_isJoint 2 (some .boolean), Cond.methodLink RX8 162 yX8_bring, Cond.instanceMethod yX8_bring, Cond.selects RX8 yX8_bring yX8_bring, Cond.code yX8_bring cX8_bring 7 (some .boolean), Cond.fieldLink RX8 19 "CowardsPotModel" "s" "[I", Cond.methodLink RX8 145 yX8_does, Cond.instanceMethod yX8_does, Cond.selects RX8 yX8_does yX8_does, Cond.code yX8_does cX8_does 3 none]
def wsX8_deeds_r2 : List Cond := [Cond.methodLink RX8 139 yX8_bound, Cond.static yX8_bound, Cond.code yX8_bound cX8_bound 1 (some .int), Cond.methodLink RX8 156 yX8_getsNow, Cond.instanceMethod yX8_getsNow, Cond.selects RX8 yX8_getsNow yX8_getsNow, Cond.code yX8_getsNow cX8_getsNow 2 (some .int), Cond.fieldLink RX8 35 "CowardsPotModel" "joints" "[I", Cond.methodLink RX8 153 yX8_feasts, Cond.instanceMethod yX8_feasts, Cond.selects RX8 yX8_feasts yX8_feasts, Cond.code yX8_feasts cX8_feasts 7 none, Cond.methodLink RX8 130 yX8_isAfraid, Cond.instanceMethod yX8_isAfraid, Cond.selects RX8 yX8_isAfraid yX8_isAfraid, Cond.code yX8_isAfraid cX8_isAfraid 2 (some .boolean), Cond.methodLink RX8 124 yX8_scoreOf, Cond.instanceMethod yX8_scoreOf, Cond.selects RX8 yX8_scoreOf yX8_scoreOf, Cond.code yX8_scoreOf cX8_scoreOf 5 (some .int), Cond.methodLink RX8 149 yX8_jointFor, Cond.instanceMethod yX8_jointFor, Cond.selects RX8 yX8_jointFor yX8_jointFor, Cond.code yX8_jointFor cX8_jointFor 9 (some .int)]
def wsX8_deeds : List Cond := .code yX8_deeds cX8_deeds 11 (some .int) :: ((wsX8_deeds_r1 ++ wsX8_deeds_r2) ++ wsX80)
def wsX8_seen : List Cond := .code yX8_seen cX8_seen 3 (some .int) :: ([.fieldLink RX8 117 "CowardsPotModel" "noted" "I", .fieldLink RX8 32 "CowardsPotModel" "notes" "[I", .methodLink RX8 159 yX8_isJoint, .instanceMethod yX8_isJoint, .selects RX8 yX8_isJoint yX8_isJoint, .initialized RX8, .code yX8_isJoint cX8_isJoint 2 (some .boolean), .fieldLink RX8 13 "CowardsPotModel" "told" "[I", .methodLink RX8 60 yX8_in, .static yX8_in, .code yX8_in cX8_in 3 (some .boolean)] ++ wsX80)
def wsX8_forget : List Cond := .code yX8_forget cX8_forget 2 (some .int) :: ([.fieldLink RX8 117 "CowardsPotModel" "noted" "I"] ++ wsX80)
def wsX8_jointBy : List Cond := .code yX8_jointBy cX8_jointBy 4 (some .int) :: ([.fieldLink RX8 13 "CowardsPotModel" "told" "[I", .methodLink RX8 149 yX8_jointFor, .instanceMethod yX8_jointFor, .selects RX8 yX8_jointFor yX8_jointFor, .initialized RX8, .code yX8_jointFor cX8_jointFor 9 (some .int)] ++ wsX80)
def wsX8_isSo : List Cond := .code yX8_isSo cX8_isSo 5 (some .boolean) :: ([.fieldLink RX8 117 "CowardsPotModel" "noted" "I", .fieldLink RX8 32 "CowardsPotModel" "notes" "[I", .methodLink RX8 165 yX8_jointBy, .instanceMethod yX8_jointBy, .selects RX8 yX8_jointBy yX8_jointBy, .initialized RX8, .code yX8_jointBy cX8_jointBy 4 (some .int), .fieldLink RX8 13 "CowardsPotModel" "told" "[I", .methodLink RX8 149 yX8_jointFor, .instanceMethod yX8_jointFor, .selects RX8 yX8_jointFor yX8_jointFor, .code yX8_jointFor cX8_jointFor 9 (some .int)] ++ wsX80)
def wsX8_scales : List Cond := .code yX8_scales cX8_scales 7 (some .int) :: ([.methodLink RX8 60 yX8_in, .static yX8_in, .initialized RX8, .code yX8_in cX8_in 3 (some .boolean), .methodLink RX8 169 yX8_isSo, .instanceMethod yX8_isSo, .selects RX8 yX8_isSo yX8_isSo, .code yX8_isSo cX8_isSo 5 (some .boolean), .fieldLink RX8 117 "CowardsPotModel" "noted" "I", .fieldLink RX8 32 "CowardsPotModel" "notes" "[I", .methodLink RX8 165 yX8_jointBy, .instanceMethod yX8_jointBy, .selects RX8 yX8_jointBy yX8_jointBy, .code yX8_jointBy cX8_jointBy 4 (some .int), .fieldLink RX8 13 "CowardsPotModel" "told" "[I", .methodLink RX8 149 yX8_jointFor, .instanceMethod yX8_jointFor, .selects RX8 yX8_jointFor yX8_jointFor, .code yX8_jointFor cX8_jointFor 9 (some .int)] ++ wsX80)
def wsX8_tells : List Cond := .code yX8_tells cX8_tells 9 (some .int) :: ([.fieldLink RX8 44 "CowardsPotModel" "fits" "[I", .fieldLink RX8 47 "CowardsPotModel" "groups" "[I", .methodLink RX8 169 yX8_isSo, .instanceMethod yX8_isSo, .selects RX8 yX8_isSo yX8_isSo, .initialized RX8, .code yX8_isSo cX8_isSo 5 (some .boolean), .fieldLink RX8 117 "CowardsPotModel" "noted" "I", .fieldLink RX8 32 "CowardsPotModel" "notes" "[I", .methodLink RX8 165 yX8_jointBy, .instanceMethod yX8_jointBy, .selects RX8 yX8_jointBy yX8_jointBy, .code yX8_jointBy cX8_jointBy 4 (some .int), .fieldLink RX8 13 "CowardsPotModel" "told" "[I", .methodLink RX8 149 yX8_jointFor, .instanceMethod yX8_jointFor, .selects RX8 yX8_jointFor yX8_jointFor, .code yX8_jointFor cX8_jointFor 9 (some .int)] ++ wsX80)
def wsX8_keepsAside : List Cond := .code yX8_keepsAside cX8_keepsAside 2 none :: ([.fieldLink RX8 50 "CowardsPotModel" "aside" "[I", .fieldLink RX8 19 "CowardsPotModel" "s" "[I"] ++ wsX80)
def wsX8_bringsBack : List Cond := .code yX8_bringsBack cX8_bringsBack 2 none :: ([.fieldLink RX8 19 "CowardsPotModel" "s" "[I", .fieldLink RX8 50 "CowardsPotModel" "aside" "[I"] ++ wsX80)
def wsX8_chance_r1 : List Cond := [Cond.fieldLink RX8 13 "CowardsPotModel" "told" "[I", Cond.methodLink RX8 127 yX8_isPerson, Cond.instanceMethod yX8_isPerson, Cond.selects RX8 yX8_isPerson yX8_isPerson, Cond.initialized RX8, Cond.code yX8_isPerson cX8_isPerson 2 (some .boolean), Cond.methodLink RX8 60 yX8_in, Cond.static yX8_in, Cond.code yX8_in cX8_in 3 (some .boolean), Cond.methodLink RX8 159 yX8_isJoint, Cond.instanceMethod yX8_isJoint, Cond.selects RX8 yX8_isJoint yX8_isJoint, Cond.code yX8_isJoint cX8_isJoint 2 (some .boolean), Cond.methodLink RX8 133 yX8_isSort, Cond.instanceMethod yX8_isSort, Cond.selects RX8 yX8_isSort yX8_isSort, Cond.code yX8_isSort cX8_isSort 2 (some .boolean), Cond.methodLink RX8 173 yX8_keepsAside, Cond.instanceMethod yX8_keepsAside, Cond.selects RX8 yX8_keepsAside yX8_keepsAside, Cond.code yX8_keepsAside cX8_keepsAside 2 none, Cond.fieldLink RX8 50 "CowardsPotModel" "aside" "[I", Cond.fieldLink RX8 19 "CowardsPotModel" "s" "[I", Cond.methodLink RX8 145 yX8_does]
def wsX8_chance_r2 : List Cond := [Cond.instanceMethod yX8_does, Cond.selects RX8 yX8_does yX8_does, Cond.code yX8_does cX8_does 3 none, Cond.methodLink RX8 139 yX8_bound, Cond.static yX8_bound, Cond.code yX8_bound cX8_bound 1 (some .int), Cond.methodLink RX8 156 yX8_getsNow, Cond.instanceMethod yX8_getsNow, Cond.selects RX8 yX8_getsNow yX8_getsNow, Cond.code yX8_getsNow cX8_getsNow 2 (some .int), Cond.fieldLink RX8 35 "CowardsPotModel" "joints" "[I", Cond.methodLink RX8 153 yX8_feasts, Cond.instanceMethod yX8_feasts, Cond.selects RX8 yX8_feasts yX8_feasts, Cond.code yX8_feasts cX8_feasts 7 none, Cond.methodLink RX8 130 yX8_isAfraid, Cond.instanceMethod yX8_isAfraid, Cond.selects RX8 yX8_isAfraid yX8_isAfraid, Cond.code yX8_isAfraid cX8_isAfraid 2 (some .boolean), Cond.methodLink RX8 124 yX8_scoreOf, Cond.instanceMethod yX8_scoreOf, Cond.selects RX8 yX8_scoreOf yX8_scoreOf, Cond.code yX8_scoreOf cX8_scoreOf 5 (some .int), Cond.methodLink RX8 149 yX8_jointFor]
def wsX8_chance_r3 : List Cond := [Cond.instanceMethod yX8_jointFor, Cond.selects RX8 yX8_jointFor yX8_jointFor, Cond.code yX8_jointFor cX8_jointFor 9 (some .int), Cond.methodLink RX8 176 yX8_bringsBack, Cond.instanceMethod yX8_bringsBack, Cond.selects RX8 yX8_bringsBack yX8_bringsBack, Cond.code yX8_bringsBack cX8_bringsBack 2 none]
def wsX8_chance : List Cond := .code yX8_chance cX8_chance 12 (some .int) :: ((wsX8_chance_r1 ++ (wsX8_chance_r2 ++ wsX8_chance_r3)) ++ wsX80)
def wsX8_count : List Cond := .code yX8_count cX8_count 4 (some .int) :: ([.fieldLink RX8 13 "CowardsPotModel" "told" "[I", .fieldLink RX8 19 "CowardsPotModel" "s" "[I", .fieldLink RX8 117 "CowardsPotModel" "noted" "I", .fieldLink RX8 114 "CowardsPotModel" "known" "I", .fieldLink RX8 64 "CowardsPotModel" "typed" "I", .methodLink RX8 130 yX8_isAfraid, .instanceMethod yX8_isAfraid, .selects RX8 yX8_isAfraid yX8_isAfraid, .initialized RX8, .code yX8_isAfraid cX8_isAfraid 2 (some .boolean), .methodLink RX8 124 yX8_scoreOf, .instanceMethod yX8_scoreOf, .selects RX8 yX8_scoreOf yX8_scoreOf, .code yX8_scoreOf cX8_scoreOf 5 (some .int)] ++ wsX80)
def wsJ9_max_7cf53 : List Cond := .code yJ9_max_7cf53 cJ9_max_7cf53 2 (some .int) :: ([])
def wsJ9_min_7cf53 : List Cond := .code yJ9_min_7cf53 cJ9_min_7cf53 2 (some .int) :: ([])
def wsL_law_r1 : List Cond := [Cond.classLink RL 7 RX7, Cond.instantiable RX7 7, Cond.initialized RX7, Cond.classLink RL 10 RX8, Cond.instantiable RX8 21, Cond.initialized RX8, Cond.methodLink RL 9 yX7_init, Cond.instanceMethod yX7_init, Cond.code yX7_init cX7_init 2 none, Cond.methodLink RX7 1 objectInit, Cond.instanceMethod objectInit, Cond.code objectInit ⟨#[0xb1]⟩ 1 none, Cond.classLink RX7 7 RX6, Cond.instantiable RX6 2, Cond.initialized RX6, Cond.fieldLink RX7 10 "CowardsPot" "text" "LCowardsPot$Text;", Cond.classLink RX7 16 RX1, Cond.instantiable RX1 16, Cond.initialized RX1, Cond.fieldLink RX7 19 "CowardsPot" "now" "LCowardsPot$Hall;", Cond.classLink RX7 23 RX4, Cond.instantiable RX4 5, Cond.initialized RX4, Cond.fieldLink RX7 26 "CowardsPot" "reader" "LCowardsPot$Reader;"]
def wsL_law_r2 : List Cond := [Cond.classLink RX7 30 RX3, Cond.instantiable RX3 3, Cond.initialized RX3, Cond.fieldLink RX7 33 "CowardsPot" "past" "LCowardsPot$Past;", Cond.classLink RX7 37 RX2, Cond.fieldLink RX7 39 "CowardsPot" "kept" "[LCowardsPot$Kept;", Cond.classLink RX7 43 RX5, Cond.instantiable RX5 8, Cond.initialized RX5, Cond.fieldLink RX7 46 "CowardsPot" "sightings" "LCowardsPot$Sightings;", Cond.classLink RX7 50 RX0, Cond.instantiable RX0 6, Cond.initialized RX0, Cond.fieldLink RX7 53 "CowardsPot" "foretelling" "LCowardsPot$Foretelling;", Cond.instantiable RX2 3, Cond.initialized RX2, Cond.instanceMethod yX6_init, Cond.code yX6_init cX6_init 1 none, Cond.methodLink RX6 3 objectInit, Cond.arrayClass .int, Cond.fieldLink RX6 9 "CowardsPot$Text" "letters" "[I", Cond.fieldLink RX6 15 "CowardsPot$Text" "length" "I", Cond.instanceMethod yX1_init, Cond.code yX1_init cX1_init 1 none]
def wsL_law_r3 : List Cond := [Cond.methodLink RX1 3 objectInit, Cond.fieldLink RX1 9 "CowardsPot$Hall" "joints" "I", Cond.fieldLink RX1 15 "CowardsPot$Hall" "base" "I", Cond.fieldLink RX1 18 "CowardsPot$Hall" "step" "I", Cond.fieldLink RX1 21 "CowardsPot$Hall" "yearNumber" "I", Cond.fieldLink RX1 24 "CowardsPot$Hall" "people" "I", Cond.fieldLink RX1 27 "CowardsPot$Hall" "sorts" "I", Cond.fieldLink RX1 30 "CowardsPot$Hall" "kind" "[I", Cond.fieldLink RX1 34 "CowardsPot$Hall" "toldFame" "[I", Cond.fieldLink RX1 37 "CowardsPot$Hall" "fame" "[I", Cond.fieldLink RX1 40 "CowardsPot$Hall" "gain" "[I", Cond.fieldLink RX1 43 "CowardsPot$Hall" "fear" "[I", Cond.fieldLink RX1 46 "CowardsPot$Hall" "latest" "[I", Cond.fieldLink RX1 49 "CowardsPot$Hall" "had" "[I", Cond.fieldLink RX1 52 "CowardsPot$Hall" "sortGain" "[I", Cond.fieldLink RX1 55 "CowardsPot$Hall" "sortFear" "[I", Cond.fieldLink RX1 58 "CowardsPot$Hall" "scores" "[I", Cond.instanceMethod yX4_init, Cond.code yX4_init cX4_init 1 none, Cond.methodLink RX4 3 objectInit, Cond.classLink RX4 9 RX1, Cond.fieldLink RX4 12 "CowardsPot$Reader" "draft" "LCowardsPot$Hall;", Cond.fieldLink RX4 18 "CowardsPot$Reader" "clauses" "I", Cond.fieldLink RX4 22 "CowardsPot$Reader" "begin" "I"]
def wsL_law_r4 : List Cond := [Cond.fieldLink RX4 25 "CowardsPot$Reader" "behind" "I", Cond.fieldLink RX4 28 "CowardsPot$Reader" "value" "I", Cond.methodLink RX7 32 yX3_init, Cond.instanceMethod yX3_init, Cond.code yX3_init cX3_init 2 none, Cond.methodLink RX3 3 objectInit, Cond.classLink RX3 9 RX1, Cond.fieldLink RX3 11 "CowardsPot$Past" "halls" "[LCowardsPot$Hall;", Cond.fieldLink RX3 17 "CowardsPot$Past" "top" "I", Cond.fieldLink RX3 21 "CowardsPot$Past" "many" "I", Cond.instanceMethod yX5_init, Cond.code yX5_init cX5_init 1 none, Cond.methodLink RX5 3 objectInit, Cond.fieldLink RX5 9 "CowardsPot$Sightings" "scores" "[I", Cond.fieldLink RX5 15 "CowardsPot$Sightings" "jointsHad" "[I", Cond.fieldLink RX5 18 "CowardsPot$Sightings" "many" "I", Cond.fieldLink RX5 22 "CowardsPot$Sightings" "scalesFound" "I", Cond.fieldLink RX5 25 "CowardsPot$Sightings" "leastBase" "I", Cond.fieldLink RX5 28 "CowardsPot$Sightings" "leastStep" "I", Cond.classLink RX5 31 "[[I", Cond.fieldLink RX5 33 "CowardsPot$Sightings" "bounds" "[[I", Cond.fieldLink RX5 36 "CowardsPot$Sightings" "reached" "[I", Cond.instanceMethod yX0_init, Cond.code yX0_init cX0_init 1 none]
def wsL_law_r5 : List Cond := [Cond.methodLink RX0 3 objectInit, Cond.classLink RX0 9 RX1, Cond.fieldLink RX0 12 "CowardsPot$Foretelling" "trial" "LCowardsPot$Hall;", Cond.fieldLink RX0 18 "CowardsPot$Foretelling" "served" "[I", Cond.fieldLink RX0 22 "CowardsPot$Foretelling" "tried" "[I", Cond.fieldLink RX0 25 "CowardsPot$Foretelling" "chosen" "[I", Cond.fieldLink RX0 28 "CowardsPot$Foretelling" "chosenMany" "I", Cond.fieldLink RX0 32 "CowardsPot$Foretelling" "chosenFear" "I", Cond.instanceMethod yX2_init, Cond.code yX2_init cX2_init 1 none, Cond.methodLink RX2 1 objectInit, Cond.classLink RX2 7 RX1, Cond.fieldLink RX2 10 "CowardsPot$Kept" "hall" "LCowardsPot$Hall;", Cond.classLink RX2 16 RX6, Cond.fieldLink RX2 19 "CowardsPot$Kept" "text" "LCowardsPot$Text;", Cond.fieldLink RX2 23 "CowardsPot$Kept" "isThere" "Z", Cond.methodLink RL 12 yX8_init, Cond.instanceMethod yX8_init, Cond.code yX8_init cX8_init 2 none, Cond.methodLink RX8 1 objectInit, Cond.fieldLink RX8 7 "CowardsPotModel" "text" "[I", Cond.fieldLink RX8 13 "CowardsPotModel" "told" "[I", Cond.fieldLink RX8 16 "CowardsPotModel" "draft" "[I", Cond.fieldLink RX8 19 "CowardsPotModel" "s" "[I"]
def wsL_law_r6 : List Cond := [Cond.fieldLink RX8 22 "CowardsPotModel" "past" "[I", Cond.fieldLink RX8 25 "CowardsPotModel" "images" "[I", Cond.arrayClass .boolean, Cond.fieldLink RX8 28 "CowardsPotModel" "kept" "[Z", Cond.fieldLink RX8 32 "CowardsPotModel" "notes" "[I", Cond.fieldLink RX8 35 "CowardsPotModel" "joints" "[I", Cond.fieldLink RX8 38 "CowardsPotModel" "tries" "[I", Cond.fieldLink RX8 41 "CowardsPotModel" "best" "[I", Cond.fieldLink RX8 44 "CowardsPotModel" "fits" "[I", Cond.fieldLink RX8 47 "CowardsPotModel" "groups" "[I", Cond.fieldLink RX8 50 "CowardsPotModel" "aside" "[I", Cond.methodLink RX8 53 yX8_forgets, Cond.instanceMethod yX8_forgets, Cond.selects RX8 yX8_forgets yX8_forgets, Cond.code yX8_forgets cX8_forgets 3 none, Cond.methodLink RX8 57 yX8_lays, Cond.instanceMethod yX8_lays, Cond.selects RX8 yX8_lays yX8_lays, Cond.code yX8_lays cX8_lays 2 none, Cond.fieldLink RX8 114 "CowardsPotModel" "known" "I", Cond.fieldLink RX8 117 "CowardsPotModel" "noted" "I", Cond.methodLink RX8 60 yX8_in, Cond.static yX8_in, Cond.code yX8_in cX8_in 3 (some .boolean)]
def wsL_law_r7 : List Cond := [Cond.methodLink RL 13 yX7_write, Cond.instanceMethod yX7_write, Cond.selects RX7 yX7_write yX7_write, Cond.code yX7_write cX7_write 2 (some .int), Cond.fieldLink RX7 58 "CowardsPot$Text" "length" "I", Cond.methodLink RX7 62 yX6_add, Cond.instanceMethod yX6_add, Cond.selects RX6 yX6_add yX6_add, Cond.code yX6_add cX6_add 2 none, Cond.methodLink RL 17 yX8_write, Cond.instanceMethod yX8_write, Cond.selects RX8 yX8_write yX8_write, Cond.code yX8_write cX8_write 2 (some .int), Cond.fieldLink RX8 64 "CowardsPotModel" "typed" "I", Cond.methodLink RL 18 yX7_erase, Cond.instanceMethod yX7_erase, Cond.selects RX7 yX7_erase yX7_erase, Cond.code yX7_erase cX7_erase 2 (some .int), Cond.methodLink RL 22 yX8_erase, Cond.instanceMethod yX8_erase, Cond.selects RX8 yX8_erase yX8_erase, Cond.code yX8_erase cX8_erase 2 (some .int), Cond.methodLink RL 23 yX7_fault, Cond.instanceMethod yX7_fault]
def wsL_law_r8 : List Cond := [Cond.selects RX7 yX7_fault yX7_fault, Cond.code yX7_fault cX7_fault 1 (some .int), Cond.methodLink RX7 66 yX4_read, Cond.instanceMethod yX4_read, Cond.selects RX4 yX4_read yX4_read, Cond.code yX4_read cX4_read 4 (some .int), Cond.fieldLink RX4 43 "CowardsPot$Text" "length" "I", Cond.methodLink RX4 31 yX1_copyFrom, Cond.instanceMethod yX1_copyFrom, Cond.selects RX1 yX1_copyFrom yX1_copyFrom, Cond.code yX1_copyFrom cX1_copyFrom 3 none, Cond.methodLink RX4 35 yX4_goOn, Cond.instanceMethod yX4_goOn, Cond.selects RX4 yX4_goOn yX4_goOn, Cond.code yX4_goOn cX4_goOn 2 none, Cond.methodLink RX4 48 yX6_at, Cond.instanceMethod yX6_at, Cond.selects RX6 yX6_at yX6_at, Cond.code yX6_at cX6_at 2 (some .int), Cond.methodLink RX4 52 yX4_isSmallLetter, Cond.static yX4_isSmallLetter, Cond.code yX4_isSmallLetter cX4_isSmallLetter 1 (some .boolean), Cond.methodLink RX4 56 yX4_isDigit, Cond.static yX4_isDigit]
def wsL_law_r9 : List Cond := [Cond.code yX4_isDigit cX4_isDigit 1 (some .boolean), Cond.methodLink RX4 39 yX4_isClauseRead, Cond.instanceMethod yX4_isClauseRead, Cond.selects RX4 yX4_isClauseRead yX4_isClauseRead, Cond.code yX4_isClauseRead cX4_isClauseRead 4 (some .boolean), Cond.methodLink RX4 59 yX4_wordNumber, Cond.instanceMethod yX4_wordNumber, Cond.selects RX4 yX4_wordNumber yX4_wordNumber, Cond.code yX4_wordNumber cX4_wordNumber 2 (some .int), Cond.methodLink RX4 89 yX4_isWord, Cond.instanceMethod yX4_isWord, Cond.selects RX4 yX4_isWord yX4_isWord, Cond.code yX4_isWord cX4_isWord 4 (some .boolean), Cond.methodLink RX4 105 yJ0_length_8abf5, Cond.instanceMethod yJ0_length_8abf5, Cond.selects RJ0 yJ0_length_8abf5 yJ0_length_8abf5, Cond.initialized RJ0, Cond.code yJ0_length_8abf5 cJ0_length_8abf5 1 (some .int), Cond.fieldLink RJ0 9 "java/lang/String" "value" "[B", Cond.methodLink RJ0 335 yJ0_coder_7d493, Cond.instanceMethod yJ0_coder_7d493, Cond.selects RJ0 yJ0_coder_7d493 yJ0_coder_7d493, Cond.code yJ0_coder_7d493 cJ0_coder_7d493 1 (some .byte), Cond.fieldLink RJ0 38 "java/lang/String" "COMPACT_STRINGS" "Z"]
def wsL_law_r10 : List Cond := [Cond.fieldLink RJ0 15 "java/lang/String" "coder" "B", Cond.methodLink RX4 110 yJ0_charAt_5068e, Cond.instanceMethod yJ0_charAt_5068e, Cond.selects RJ0 yJ0_charAt_5068e yJ0_charAt_5068e, Cond.code yJ0_charAt_5068e cJ0_charAt_5068e 2 (some .char), Cond.methodLink RJ0 492 yJ0_isLatin1_aae02, Cond.instanceMethod yJ0_isLatin1_aae02, Cond.selects RJ0 yJ0_isLatin1_aae02 yJ0_isLatin1_aae02, Cond.code yJ0_isLatin1_aae02 cJ0_isLatin1_aae02 1 (some .boolean), Cond.methodLink RJ0 495 yJ1_charAt_3b067, Cond.static yJ1_charAt_3b067, Cond.initialized RJ1, Cond.code yJ1_charAt_3b067 cJ1_charAt_3b067 2 (some .char), Cond.methodLink RJ1 9 yJ0_checkIndex_df160, Cond.static yJ0_checkIndex_df160, Cond.code yJ0_checkIndex_df160 cJ0_checkIndex_df160 2 none, Cond.fieldLink RJ0 1053 "jdk/internal/util/Preconditions" "SIOOBE_FORMATTER" "Ljava/util/function/BiFunction;", Cond.methodLink RJ0 1059 yJ3_checkIndex_8e157, Cond.static yJ3_checkIndex_8e157, Cond.initialized RJ3, Cond.code yJ3_checkIndex_8e157 cJ3_checkIndex_8e157 3 (some .int), Cond.methodLink RJ0 498 yJ2_charAt_3b067, Cond.static yJ2_charAt_3b067, Cond.initialized RJ2]
def wsL_law_r11 : List Cond := [Cond.code yJ2_charAt_3b067 cJ2_charAt_3b067 2 (some .char), Cond.methodLink RJ2 67 yJ2_checkIndex_2214a, Cond.static yJ2_checkIndex_2214a, Cond.code yJ2_checkIndex_2214a cJ2_checkIndex_2214a 2 none, Cond.methodLink RJ2 48 yJ2_length_9d52b, Cond.static yJ2_length_9d52b, Cond.code yJ2_length_9d52b cJ2_length_9d52b 1 (some .int), Cond.methodLink RJ2 414 yJ0_checkIndex_df160, Cond.methodLink RJ2 71 yJ2_getChar_3b067, Cond.static yJ2_getChar_3b067, Cond.code yJ2_getChar_3b067 cJ2_getChar_3b067 2 (some .char), Cond.fieldLink RJ2 44 "java/lang/StringUTF16" "$assertionsDisabled" "Z", Cond.fieldLink RJ2 59 "java/lang/StringUTF16" "HI_BYTE_SHIFT" "I", Cond.fieldLink RJ2 63 "java/lang/StringUTF16" "LO_BYTE_SHIFT" "I", Cond.methodLink RX4 63 yX4_hasRoomFor, Cond.instanceMethod yX4_hasRoomFor, Cond.selects RX4 yX4_hasRoomFor yX4_hasRoomFor, Cond.code yX4_hasRoomFor cX4_hasRoomFor 2 (some .boolean), Cond.fieldLink RX4 114 "CowardsPot$Hall" "people" "I", Cond.fieldLink RX4 117 "CowardsPot$Hall" "sorts" "I", Cond.methodLink RX4 73 yX4_isNumberRead, Cond.instanceMethod yX4_isNumberRead, Cond.selects RX4 yX4_isNumberRead yX4_isNumberRead, Cond.code yX4_isNumberRead cX4_isNumberRead 7 (some .boolean)]
def wsL_law_r12 : List Cond := [Cond.methodLink RX4 83 yX4_tell, Cond.instanceMethod yX4_tell, Cond.selects RX4 yX4_tell yX4_tell, Cond.code yX4_tell cX4_tell 4 none, Cond.fieldLink RX4 124 "CowardsPot$Hall" "base" "I", Cond.fieldLink RX4 127 "CowardsPot$Hall" "step" "I", Cond.methodLink RX4 120 yX1_clearFor, Cond.instanceMethod yX1_clearFor, Cond.selects RX1 yX1_clearFor yX1_clearFor, Cond.code yX1_clearFor cX1_clearFor 2 none, Cond.methodLink RX4 130 yX1_addSort, Cond.instanceMethod yX1_addSort, Cond.selects RX1 yX1_addSort yX1_addSort, Cond.code yX1_addSort cX1_addSort 3 none, Cond.methodLink RX4 134 yX1_addPerson, Cond.instanceMethod yX1_addPerson, Cond.selects RX1 yX1_addPerson yX1_addPerson, Cond.code yX1_addPerson cX1_addPerson 3 none, Cond.methodLink RL 26 yX8_fault, Cond.instanceMethod yX8_fault, Cond.selects RX8 yX8_fault yX8_fault, Cond.code yX8_fault cX8_fault 1 (some .int), Cond.fieldLink RX8 75 "CowardsPotModel" "start" "I", Cond.methodLink RX8 120 yX8_reads]
def wsL_law_r13 : List Cond := [Cond.instanceMethod yX8_reads, Cond.selects RX8 yX8_reads yX8_reads, Cond.code yX8_reads cX8_reads 3 (some .int), Cond.fieldLink RX8 68 "CowardsPotModel" "at" "I", Cond.fieldLink RX8 85 "CowardsPotModel" "sort" "I", Cond.methodLink RX8 91 yX8_token, Cond.instanceMethod yX8_token, Cond.selects RX8 yX8_token yX8_token, Cond.code yX8_token cX8_token 2 none, Cond.fieldLink RX8 88 "CowardsPotModel" "value" "I", Cond.methodLink RX8 71 yX8_letterAt, Cond.instanceMethod yX8_letterAt, Cond.selects RX8 yX8_letterAt yX8_letterAt, Cond.code yX8_letterAt cX8_letterAt 2 (some .int), Cond.methodLink RX8 78 yX8_isLetter, Cond.static yX8_isLetter, Cond.code yX8_isLetter cX8_isLetter 1 (some .boolean), Cond.methodLink RX8 82 yX8_isDigit, Cond.static yX8_isDigit, Cond.code yX8_isDigit cX8_isDigit 1 (some .boolean), Cond.methodLink RX8 111 yX8_readsClause, Cond.instanceMethod yX8_readsClause, Cond.selects RX8 yX8_readsClause yX8_readsClause, Cond.code yX8_readsClause cX8_readsClause 1 (some .boolean)]
def wsL_law_r14 : List Cond := [Cond.methodLink RX8 97 yX8_isWord, Cond.instanceMethod yX8_isWord, Cond.selects RX8 yX8_isWord yX8_isWord, Cond.code yX8_isWord cX8_isWord 11 (some .boolean), Cond.methodLink RX8 101 yX8_readsHall, Cond.instanceMethod yX8_readsHall, Cond.selects RX8 yX8_readsHall yX8_readsHall, Cond.code yX8_readsHall cX8_readsHall 1 (some .boolean), Cond.methodLink RX8 94 yX8_number, Cond.instanceMethod yX8_number, Cond.selects RX8 yX8_number yX8_number, Cond.code yX8_number cX8_number 4 (some .boolean), Cond.methodLink RX8 105 yX8_readsPerson, Cond.instanceMethod yX8_readsPerson, Cond.selects RX8 yX8_readsPerson yX8_readsPerson, Cond.code yX8_readsPerson cX8_readsPerson 3 (some .boolean), Cond.methodLink RX8 108 yX8_readsSort, Cond.instanceMethod yX8_readsSort, Cond.selects RX8 yX8_readsSort yX8_readsSort, Cond.code yX8_readsSort cX8_readsSort 2 (some .boolean), Cond.methodLink RL 27 yX7_hall, Cond.instanceMethod yX7_hall, Cond.selects RX7 yX7_hall yX7_hall, Cond.code yX7_hall cX7_hall 2 (some .int)]
def wsL_law_r15 : List Cond := [Cond.fieldLink RX7 70 "CowardsPot$Reader" "draft" "LCowardsPot$Hall;", Cond.fieldLink RX7 80 "CowardsPot$Sightings" "many" "I", Cond.fieldLink RX7 83 "CowardsPot$Past" "many" "I", Cond.fieldLink RX7 84 "CowardsPot$Kept" "isThere" "Z", Cond.fieldLink RX7 88 "CowardsPot$Reader" "clauses" "I", Cond.methodLink RX7 73 yX1_copyFrom, Cond.methodLink RX7 77 yX1_beginAnew, Cond.instanceMethod yX1_beginAnew, Cond.selects RX1 yX1_beginAnew yX1_beginAnew, Cond.code yX1_beginAnew cX1_beginAnew 2 none, Cond.methodLink RL 30 yX8_hall, Cond.instanceMethod yX8_hall, Cond.selects RX8 yX8_hall yX8_hall, Cond.code yX8_hall cX8_hall 3 (some .int), Cond.methodLink RL 31 yX7_person, Cond.instanceMethod yX7_person, Cond.selects RX7 yX7_person yX7_person, Cond.code yX7_person cX7_person 3 (some .int), Cond.fieldLink RX7 95 "CowardsPot$Hall" "kind" "[I", Cond.fieldLink RX7 99 "CowardsPot$Hall" "fame" "[I", Cond.fieldLink RX7 102 "CowardsPot$Hall" "gain" "[I", Cond.fieldLink RX7 105 "CowardsPot$Hall" "fear" "[I", Cond.fieldLink RX7 115 "CowardsPot$Hall" "latest" "[I", Cond.fieldLink RX7 118 "CowardsPot$Hall" "had" "[I"]
def wsL_law_r16 : List Cond := [Cond.methodLink RX7 91 yX7_isPerson, Cond.instanceMethod yX7_isPerson, Cond.selects RX7 yX7_isPerson yX7_isPerson, Cond.code yX7_isPerson cX7_isPerson 2 (some .boolean), Cond.fieldLink RX7 147 "CowardsPot$Hall" "people" "I", Cond.methodLink RX7 108 yX1_scoreOf, Cond.instanceMethod yX1_scoreOf, Cond.selects RX1 yX1_scoreOf yX1_scoreOf, Cond.code yX1_scoreOf cX1_scoreOf 3 (some .int), Cond.methodLink RX7 112 yX1_isAfraid, Cond.instanceMethod yX1_isAfraid, Cond.selects RX1 yX1_isAfraid yX1_isAfraid, Cond.code yX1_isAfraid cX1_isAfraid 2 (some .boolean), Cond.methodLink RX1 61 yX1_scoreOf, Cond.methodLink RL 35 yX8_person, Cond.instanceMethod yX8_person, Cond.selects RX8 yX8_person yX8_person, Cond.code yX8_person cX8_person 3 (some .int), Cond.methodLink RX8 127 yX8_isPerson, Cond.instanceMethod yX8_isPerson, Cond.selects RX8 yX8_isPerson yX8_isPerson, Cond.code yX8_isPerson cX8_isPerson 2 (some .boolean), Cond.methodLink RX8 124 yX8_scoreOf, Cond.instanceMethod yX8_scoreOf]
def wsL_law_r17 : List Cond := [Cond.selects RX8 yX8_scoreOf yX8_scoreOf, Cond.code yX8_scoreOf cX8_scoreOf 5 (some .int), Cond.methodLink RX8 130 yX8_isAfraid, Cond.instanceMethod yX8_isAfraid, Cond.selects RX8 yX8_isAfraid yX8_isAfraid, Cond.code yX8_isAfraid cX8_isAfraid 2 (some .boolean), Cond.methodLink RL 36 yX7_sort, Cond.instanceMethod yX7_sort, Cond.selects RX7 yX7_sort yX7_sort, Cond.code yX7_sort cX7_sort 3 (some .int), Cond.fieldLink RX7 124 "CowardsPot$Hall" "sortGain" "[I", Cond.fieldLink RX7 127 "CowardsPot$Hall" "sortFear" "[I", Cond.methodLink RX7 121 yX7_isSort, Cond.instanceMethod yX7_isSort, Cond.selects RX7 yX7_isSort yX7_isSort, Cond.code yX7_isSort cX7_isSort 2 (some .boolean), Cond.fieldLink RX7 231 "CowardsPot$Hall" "sorts" "I", Cond.methodLink RL 39 yX8_sort, Cond.instanceMethod yX8_sort, Cond.selects RX8 yX8_sort yX8_sort, Cond.code yX8_sort cX8_sort 3 (some .int), Cond.methodLink RX8 133 yX8_isSort, Cond.instanceMethod yX8_isSort, Cond.selects RX8 yX8_isSort yX8_isSort]
def wsL_law_r18 : List Cond := [Cond.code yX8_isSort cX8_isSort 2 (some .boolean), Cond.methodLink RL 40 yX7_as, Cond.instanceMethod yX7_as, Cond.selects RX7 yX7_as yX7_as, Cond.code yX7_as cX7_as 3 (some .int), Cond.fieldLink RX7 130 "CowardsPot" "ABOVE" "[I", Cond.methodLink RX7 133 yX7_isKindUnder, Cond.static yX7_isKindUnder, Cond.code yX7_isKindUnder cX7_isKindUnder 4 (some .boolean), Cond.methodLink RX7 137 yX1_fameAfterYear, Cond.instanceMethod yX1_fameAfterYear, Cond.selects RX1 yX1_fameAfterYear yX1_fameAfterYear, Cond.code yX1_fameAfterYear cX1_fameAfterYear 3 (some .int), Cond.methodLink RX1 69 Lib.Math.min.name, Cond.static Lib.Math.min.name, Cond.initialized "java/lang/Math", Cond.code Lib.Math.min.name Lib.Math.min.code 2 (some .int), Cond.methodLink RL 43 yX8_as, Cond.instanceMethod yX8_as, Cond.selects RX8 yX8_as yX8_as, Cond.code yX8_as cX8_as 5 (some .int), Cond.methodLink RX8 136 yX8_fameBehind, Cond.instanceMethod yX8_fameBehind, Cond.selects RX8 yX8_fameBehind yX8_fameBehind]
def wsL_law_r19 : List Cond := [Cond.code yX8_fameBehind cX8_fameBehind 3 (some .int), Cond.methodLink RL 44 yX7_deed, Cond.instanceMethod yX7_deed, Cond.selects RX7 yX7_deed yX7_deed, Cond.code yX7_deed cX7_deed 3 (some .int), Cond.methodLink RX7 140 yX3_push, Cond.instanceMethod yX3_push, Cond.selects RX3 yX3_push yX3_push, Cond.code yX3_push cX3_push 2 none, Cond.methodLink RX3 29 Lib.Math.min.name, Cond.methodLink RX3 25 yX1_copyFrom, Cond.methodLink RX7 143 yX1_addDeed, Cond.instanceMethod yX1_addDeed, Cond.selects RX1 yX1_addDeed yX1_addDeed, Cond.code yX1_addDeed cX1_addDeed 3 none, Cond.methodLink RX1 75 yX1_addTo, Cond.instanceMethod yX1_addTo, Cond.selects RX1 yX1_addTo yX1_addTo, Cond.code yX1_addTo cX1_addTo 4 none, Cond.methodLink RL 47 yX8_deed, Cond.instanceMethod yX8_deed, Cond.selects RX8 yX8_deed yX8_deed, Cond.code yX8_deed cX8_deed 3 (some .int), Cond.methodLink RX8 142 yX8_keeps]
def wsL_law_r20 : List Cond := [Cond.instanceMethod yX8_keeps, Cond.selects RX8 yX8_keeps yX8_keeps, Cond.code yX8_keeps cX8_keeps 2 none, Cond.methodLink RX8 145 yX8_does, Cond.instanceMethod yX8_does, Cond.selects RX8 yX8_does yX8_does, Cond.code yX8_does cX8_does 3 none, Cond.methodLink RX8 139 yX8_bound, Cond.static yX8_bound, Cond.code yX8_bound cX8_bound 1 (some .int), Cond.methodLink RL 48 yX7_feast, Cond.instanceMethod yX7_feast, Cond.selects RX7 yX7_feast yX7_feast, Cond.code yX7_feast cX7_feast 1 (some .int), Cond.methodLink RX7 150 yX1_holdFeast, Cond.instanceMethod yX1_holdFeast, Cond.selects RX1 yX1_holdFeast yX1_holdFeast, Cond.code yX1_holdFeast cX1_holdFeast 3 (some .int), Cond.methodLink RX1 82 yX1_serveInto, Cond.instanceMethod yX1_serveInto, Cond.selects RX1 yX1_serveInto yX1_serveInto, Cond.code yX1_serveInto cX1_serveInto 7 none, Cond.methodLink RX1 86 yX1_nextOf, Cond.instanceMethod yX1_nextOf]
def wsL_law_r21 : List Cond := [Cond.selects RX1 yX1_nextOf yX1_nextOf, Cond.code yX1_nextOf cX1_nextOf 5 (some .int), Cond.methodLink RX1 89 yX1_lastOf, Cond.instanceMethod yX1_lastOf, Cond.selects RX1 yX1_lastOf yX1_lastOf, Cond.code yX1_lastOf cX1_lastOf 3 (some .int), Cond.methodLink RX1 92 yX1_firstFor, Cond.instanceMethod yX1_firstFor, Cond.selects RX1 yX1_firstFor yX1_firstFor, Cond.code yX1_firstFor cX1_firstFor 4 (some .int), Cond.methodLink RL 51 yX8_feast, Cond.instanceMethod yX8_feast, Cond.selects RX8 yX8_feast yX8_feast, Cond.code yX8_feast cX8_feast 3 (some .int), Cond.methodLink RX8 153 yX8_feasts, Cond.instanceMethod yX8_feasts, Cond.selects RX8 yX8_feasts yX8_feasts, Cond.code yX8_feasts cX8_feasts 7 none, Cond.methodLink RX8 149 yX8_jointFor, Cond.instanceMethod yX8_jointFor, Cond.selects RX8 yX8_jointFor yX8_jointFor, Cond.code yX8_jointFor cX8_jointFor 9 (some .int), Cond.methodLink RL 52 yX7_year, Cond.instanceMethod yX7_year]
def wsL_law_r22 : List Cond := [Cond.selects RX7 yX7_year yX7_year, Cond.code yX7_year cX7_year 1 (some .int), Cond.fieldLink RX7 154 "CowardsPot$Hall" "yearNumber" "I", Cond.methodLink RX7 157 yX1_passYear, Cond.instanceMethod yX1_passYear, Cond.selects RX1 yX1_passYear yX1_passYear, Cond.code yX1_passYear cX1_passYear 2 none, Cond.methodLink RX1 79 yX1_fameAfterYear, Cond.methodLink RL 55 yX8_year, Cond.instanceMethod yX8_year, Cond.selects RX8 yX8_year yX8_year, Cond.code yX8_year cX8_year 2 (some .int), Cond.methodLink RL 56 yX7_scale, Cond.instanceMethod yX7_scale, Cond.selects RX7 yX7_scale yX7_scale, Cond.code yX7_scale cX7_scale 4 (some .int), Cond.fieldLink RX7 160 "CowardsPot$Hall" "base" "I", Cond.fieldLink RX7 163 "CowardsPot$Hall" "step" "I", Cond.methodLink RL 59 yX8_scale, Cond.instanceMethod yX8_scale, Cond.selects RX8 yX8_scale yX8_scale, Cond.code yX8_scale cX8_scale 4 (some .int), Cond.methodLink RL 60 yX7_undo, Cond.instanceMethod yX7_undo]
def wsL_law_r23 : List Cond := [Cond.selects RX7 yX7_undo yX7_undo, Cond.code yX7_undo cX7_undo 1 (some .int), Cond.methodLink RX7 166 yX3_popInto, Cond.instanceMethod yX3_popInto, Cond.selects RX3 yX3_popInto yX3_popInto, Cond.code yX3_popInto cX3_popInto 2 none, Cond.methodLink RL 63 yX8_undo, Cond.instanceMethod yX8_undo, Cond.selects RX8 yX8_undo yX8_undo, Cond.code yX8_undo cX8_undo 2 (some .int), Cond.methodLink RL 64 yX7_keep, Cond.instanceMethod yX7_keep, Cond.selects RX7 yX7_keep yX7_keep, Cond.code yX7_keep cX7_keep 2 (some .int), Cond.fieldLink RX7 172 "CowardsPot$Kept" "hall" "LCowardsPot$Hall;", Cond.fieldLink RX7 175 "CowardsPot$Kept" "text" "LCowardsPot$Text;", Cond.methodLink RX7 169 yX7_isKeptPlace, Cond.static yX7_isKeptPlace, Cond.code yX7_isKeptPlace cX7_isKeptPlace 1 (some .boolean), Cond.methodLink RX7 176 yX6_copyFrom, Cond.instanceMethod yX6_copyFrom, Cond.selects RX6 yX6_copyFrom yX6_copyFrom, Cond.code yX6_copyFrom cX6_copyFrom 2 none, Cond.methodLink RX6 19 arraycopyName]
def wsL_law_r24 : List Cond := [Cond.native arraycopyName, Cond.static arraycopyName, Cond.initialized "java/lang/System", Cond.methodLink RL 67 yX8_keep, Cond.instanceMethod yX8_keep, Cond.selects RX8 yX8_keep yX8_keep, Cond.code yX8_keep cX8_keep 3 (some .int), Cond.methodLink RL 68 yX7_back, Cond.instanceMethod yX7_back, Cond.selects RX7 yX7_back yX7_back, Cond.code yX7_back cX7_back 2 (some .int), Cond.methodLink RL 71 yX8_back, Cond.instanceMethod yX8_back, Cond.selects RX8 yX8_back yX8_back, Cond.code yX8_back cX8_back 3 (some .int), Cond.methodLink RL 72 yX7_gets, Cond.instanceMethod yX7_gets, Cond.selects RX7 yX7_gets yX7_gets, Cond.code yX7_gets cX7_gets 2 (some .int), Cond.methodLink RX7 179 yX0_jointOf, Cond.instanceMethod yX0_jointOf, Cond.selects RX0 yX0_jointOf yX0_jointOf, Cond.code yX0_jointOf cX0_jointOf 3 (some .int), Cond.methodLink RX0 35 yX1_serveInto]
def wsL_law_r25 : List Cond := [Cond.methodLink RL 75 yX8_gets, Cond.instanceMethod yX8_gets, Cond.selects RX8 yX8_gets yX8_gets, Cond.code yX8_gets cX8_gets 2 (some .int), Cond.methodLink RX8 156 yX8_getsNow, Cond.instanceMethod yX8_getsNow, Cond.selects RX8 yX8_getsNow yX8_getsNow, Cond.code yX8_getsNow cX8_getsNow 2 (some .int), Cond.methodLink RL 76 yX7_need, Cond.instanceMethod yX7_need, Cond.selects RX7 yX7_need yX7_need, Cond.code yX7_need cX7_need 3 (some .int), Cond.methodLink RX7 183 yX7_isJoint, Cond.instanceMethod yX7_isJoint, Cond.selects RX7 yX7_isJoint yX7_isJoint, Cond.code yX7_isJoint cX7_isJoint 2 (some .boolean), Cond.fieldLink RX7 202 "CowardsPot$Hall" "joints" "I", Cond.methodLink RX7 186 yX0_leastGain, Cond.instanceMethod yX0_leastGain, Cond.selects RX0 yX0_leastGain yX0_leastGain, Cond.code yX0_leastGain cX0_leastGain 6 (some .int), Cond.methodLink RX0 39 yX1_copyFrom, Cond.methodLink RX0 43 yX1_addTo, Cond.methodLink RX0 47 yX0_jointOf]
def wsL_law_r26 : List Cond := [Cond.methodLink RL 79 yX8_need, Cond.instanceMethod yX8_need, Cond.selects RX8 yX8_need yX8_need, Cond.code yX8_need cX8_need 7 (some .int), Cond.methodLink RX8 159 yX8_isJoint, Cond.instanceMethod yX8_isJoint, Cond.selects RX8 yX8_isJoint yX8_isJoint, Cond.code yX8_isJoint cX8_isJoint 2 (some .boolean), Cond.methodLink RL 80 yX7_deeds, Cond.instanceMethod yX7_deeds, Cond.selects RX7 yX7_deeds yX7_deeds, Cond.code yX7_deeds cX7_deeds 4 (some .int), Cond.fieldLink RX7 194 "CowardsPot$Foretelling" "chosenMany" "I", Cond.fieldLink RX7 197 "CowardsPot$Foretelling" "chosen" "[I", Cond.methodLink RX7 190 yX0_chooseDeeds, Cond.instanceMethod yX0_chooseDeeds, Cond.selects RX0 yX0_chooseDeeds yX0_chooseDeeds, Cond.code yX0_chooseDeeds cX0_chooseDeeds 7 none, Cond.fieldLink RX0 51 "CowardsPot$Hall" "sorts" "I", Cond.methodLink RX0 54 yX0_weigh, Cond.instanceMethod yX0_weigh, Cond.selects RX0 yX0_weigh yX0_weigh, Cond.code yX0_weigh cX0_weigh 8 none, Cond.fieldLink RX0 58 "CowardsPot$Hall" "sortFear" "[I"]
def wsL_law_r27 : List Cond := [Cond.methodLink RX0 61 yX1_addDeed, Cond.methodLink RL 84 yX8_deeds, Cond.instanceMethod yX8_deeds, Cond.selects RX8 yX8_deeds yX8_deeds, Cond.code yX8_deeds cX8_deeds 11 (some .int), Cond.methodLink RX8 162 yX8_bring, Cond.instanceMethod yX8_bring, Cond.selects RX8 yX8_bring yX8_bring, Cond.code yX8_bring cX8_bring 7 (some .boolean), Cond.methodLink RL 85 yX7_seen, Cond.instanceMethod yX7_seen, Cond.selects RX7 yX7_seen yX7_seen, Cond.code yX7_seen cX7_seen 3 (some .int), Cond.methodLink RX7 200 yX5_add, Cond.instanceMethod yX5_add, Cond.selects RX5 yX5_add yX5_add, Cond.code yX5_add cX5_add 3 none, Cond.methodLink RL 88 yX8_seen, Cond.instanceMethod yX8_seen, Cond.selects RX8 yX8_seen yX8_seen, Cond.code yX8_seen cX8_seen 3 (some .int), Cond.methodLink RL 89 yX7_forget, Cond.instanceMethod yX7_forget, Cond.selects RX7 yX7_forget yX7_forget]
def wsL_law_r28 : List Cond := [Cond.code yX7_forget cX7_forget 2 (some .int), Cond.methodLink RL 92 yX8_forget, Cond.instanceMethod yX8_forget, Cond.selects RX8 yX8_forget yX8_forget, Cond.code yX8_forget cX8_forget 2 (some .int), Cond.methodLink RL 93 yX7_scales, Cond.instanceMethod yX7_scales, Cond.selects RX7 yX7_scales yX7_scales, Cond.code yX7_scales cX7_scales 2 (some .int), Cond.fieldLink RX7 208 "CowardsPot$Sightings" "scalesFound" "I", Cond.fieldLink RX7 211 "CowardsPot$Sightings" "leastBase" "I", Cond.fieldLink RX7 214 "CowardsPot$Sightings" "leastStep" "I", Cond.methodLink RX7 205 yX5_findScales, Cond.instanceMethod yX5_findScales, Cond.selects RX5 yX5_findScales yX5_findScales, Cond.code yX5_findScales cX5_findScales 4 none, Cond.methodLink RX5 43 yX5_clearScales, Cond.instanceMethod yX5_clearScales, Cond.selects RX5 yX5_clearScales yX5_clearScales, Cond.code yX5_clearScales cX5_clearScales 3 none, Cond.methodLink RX5 46 yX5_isSo, Cond.instanceMethod yX5_isSo, Cond.selects RX5 yX5_isSo yX5_isSo, Cond.code yX5_isSo cX5_isSo 5 (some .boolean)]
def wsL_law_r29 : List Cond := [Cond.static yX7_jointFor, Cond.code yX7_jointFor cX7_jointFor 5 (some .int), Cond.methodLink RX5 50 yX5_noteScale, Cond.instanceMethod yX5_noteScale, Cond.selects RX5 yX5_noteScale yX5_noteScale, Cond.code yX5_noteScale cX5_noteScale 5 none, Cond.methodLink RX5 54 Lib.Math.max.name, Cond.static Lib.Math.max.name, Cond.code Lib.Math.max.name Lib.Math.max.code 2 (some .int), Cond.methodLink RL 96 yX8_scales, Cond.instanceMethod yX8_scales, Cond.selects RX8 yX8_scales yX8_scales, Cond.code yX8_scales cX8_scales 7 (some .int), Cond.methodLink RX8 169 yX8_isSo, Cond.instanceMethod yX8_isSo, Cond.selects RX8 yX8_isSo yX8_isSo, Cond.code yX8_isSo cX8_isSo 5 (some .boolean), Cond.methodLink RX8 165 yX8_jointBy, Cond.instanceMethod yX8_jointBy, Cond.selects RX8 yX8_jointBy yX8_jointBy, Cond.code yX8_jointBy cX8_jointBy 4 (some .int), Cond.methodLink RL 97 yX7_tells, Cond.instanceMethod yX7_tells, Cond.selects RX7 yX7_tells yX7_tells]
def wsL_law_r30 : List Cond := [Cond.code yX7_tells cX7_tells 1 (some .int), Cond.methodLink RX7 217 yX5_mostTelling, Cond.instanceMethod yX5_mostTelling, Cond.selects RX5 yX5_mostTelling yX5_mostTelling, Cond.code yX5_mostTelling cX5_mostTelling 6 (some .int), Cond.methodLink RX5 60 yX5_findScales, Cond.methodLink RX5 64 yX5_mostAlike, Cond.instanceMethod yX5_mostAlike, Cond.selects RX5 yX5_mostAlike yX5_mostAlike, Cond.code yX5_mostAlike cX5_mostAlike 6 (some .int), Cond.methodLink RL 100 yX8_tells, Cond.instanceMethod yX8_tells, Cond.selects RX8 yX8_tells yX8_tells, Cond.code yX8_tells cX8_tells 9 (some .int), Cond.methodLink RL 101 yX7_chance, Cond.instanceMethod yX7_chance, Cond.selects RX7 yX7_chance yX7_chance, Cond.code yX7_chance cX7_chance 9 (some .int), Cond.methodLink RX7 220 yX0_waysOfTen, Cond.instanceMethod yX0_waysOfTen, Cond.selects RX0 yX0_waysOfTen yX0_waysOfTen, Cond.code yX0_waysOfTen cX0_waysOfTen 10 (some .int), Cond.fieldLink RX0 65 "CowardsPot$Hall" "people" "I", Cond.methodLink RX0 68 yX0_tryDoers]
def wsL_law_r31 : List Cond := [Cond.instanceMethod yX0_tryDoers, Cond.selects RX0 yX0_tryDoers yX0_tryDoers, Cond.code yX0_tryDoers cX0_tryDoers 5 none, Cond.methodLink RX0 72 yJ6_bitCount_0f7a4, Cond.static yJ6_bitCount_0f7a4, Cond.initialized RJ6, Cond.code yJ6_bitCount_0f7a4 cJ6_bitCount_0f7a4 1 (some .int), Cond.constant RJ6 265 (1431655765), Cond.constant RJ6 266 (858993459), Cond.constant RJ6 267 (252645135), Cond.static yX7_power, Cond.code yX7_power cX7_power 4 (some .int), Cond.methodLink RX7 224 yX7_power, Cond.methodLink RX7 228 yX7_commonDivisor, Cond.static yX7_commonDivisor, Cond.code yX7_commonDivisor cX7_commonDivisor 6 (some .int), Cond.methodLink RL 105 yX8_chance, Cond.instanceMethod yX8_chance, Cond.selects RX8 yX8_chance yX8_chance, Cond.code yX8_chance cX8_chance 12 (some .int), Cond.methodLink RX8 173 yX8_keepsAside, Cond.instanceMethod yX8_keepsAside, Cond.selects RX8 yX8_keepsAside yX8_keepsAside, Cond.code yX8_keepsAside cX8_keepsAside 2 none]
def wsL_law_r32 : List Cond := [Cond.methodLink RX8 176 yX8_bringsBack, Cond.instanceMethod yX8_bringsBack, Cond.selects RX8 yX8_bringsBack yX8_bringsBack, Cond.code yX8_bringsBack cX8_bringsBack 2 none, Cond.methodLink RL 106 yX7_count, Cond.instanceMethod yX7_count, Cond.selects RX7 yX7_count yX7_count, Cond.code yX7_count cX7_count 2 (some .int), Cond.methodLink RX7 234 yX1_afraidBits, Cond.instanceMethod yX1_afraidBits, Cond.selects RX1 yX1_afraidBits yX1_afraidBits, Cond.code yX1_afraidBits cX1_afraidBits 3 (some .int), Cond.methodLink RX1 65 yX1_isAfraid, Cond.methodLink RL 109 yX8_count, Cond.instanceMethod yX8_count, Cond.selects RX8 yX8_count yX8_count, Cond.code yX8_count cX8_count 4 (some .int)]
def wsL_law : List Cond := (wsL_law_r1 ++ (wsL_law_r2 ++ (wsL_law_r3 ++ (wsL_law_r4 ++ (wsL_law_r5 ++ (wsL_law_r6 ++ (wsL_law_r7 ++ (wsL_law_r8 ++ (wsL_law_r9 ++ (wsL_law_r10 ++ (wsL_law_r11 ++ (wsL_law_r12 ++ (wsL_law_r13 ++ (wsL_law_r14 ++ (wsL_law_r15 ++ (wsL_law_r16 ++ (wsL_law_r17 ++ (wsL_law_r18 ++ (wsL_law_r19 ++ (wsL_law_r20 ++ (wsL_law_r21 ++ (wsL_law_r22 ++ (wsL_law_r23 ++ (wsL_law_r24 ++ (wsL_law_r25 ++ (wsL_law_r26 ++ (wsL_law_r27 ++ (wsL_law_r28 ++ (wsL_law_r29 ++ (wsL_law_r30 ++ (wsL_law_r31 ++ wsL_law_r32))))))))))))))))))))))))))))))) ++ wsX70 ++ wsX80 ++ wsX60 ++ wsX10 ++ wsX40 ++ wsX30 ++ wsX50 ++ wsX00 ++ wsX20 ++ ([] : List Cond)
end
section
/-! MY LAYER: one situation, one form of contract, a row a call -/
abbrev cls : List vw_C := [(RX0, TX0, 6), (RX1, TX1, 16), (RX2, TX2, 3), (RX3, TX3, 3), (RX4, TX4, 5), (RX5, TX5, 8), (RX6, TX6, 2), (RX7, TX7, 7), (RX8, TX8, 21)]
/-- the classes of arrays -/
abbrev TY (g : Nat → ClassId) : List (ClassId × FieldType) := [(g 0, .int), (g 1, .boolean), (g 2, .object RX1), (g 3, .object RX2), (g 4, .array .int)]
theorem vin {i : Int32} {n : Nat} (h : (!decide (i < 0) && decide (i.toNatClampNeg < n)) = true) : vp_in i n := by
  simp only [Bool.and_eq_true, Bool.not_eq_true', decide_eq_false_iff_not, decide_eq_true_eq] at h
  intro q
  rcases q with q | q
  · exact h.1 q
  · omega
/-- the machine's side of a method's walk -/
def Cx (p : Program) (s : State) (m : MethodId) (args : Array Value) (meth : Method) (c : Code) (cc : ByteArray) (nL : Nat) (Ts : List Cond) (y : MethodName) (ret : Option FieldType) : Prop :=
  CallFix p m c cc nL s args Ts y.cls ∧ meth.sig.returnType = ret ∧ meth.locks = false
/-- the world's side: what the tables say, the cells, apart, what has changed since the start, what is new is mine -/
def Sit (D : va_G) (T : List (ClassId × FieldType)) (A : Nat → Prop) (s : State) (ws : va_W) (H : Heap) (locs : List Loc) : Prop :=
  va_K D cls T s ∧ va_P D cls ws H ∧ va_D A ws ∧ va_S A s.heap H locs ∧ ∀ q, s.heap.size ≤ q → A q
theorem fm_of_map {α β : Type} {f : α → Option β} : ∀ {is : List α} {ws : List β}, is.map f = ws.map some → is.filterMap f = ws
  | [], [], _ => rfl
  | [], _ :: _, h => by simp at h
  | _ :: _, [], h => by simp at h
  | a :: is, b :: ws, h => by
    rw [List.map_cons, List.map_cons] at h
    have h1 := (List.cons.inj h).1
    have h2 := (List.cons.inj h).2
    rw [List.filterMap_cons, h1, fm_of_map h2]
theorem Sit.sub {D : va_G} {T : List (ClassId × FieldType)} {A : Nat → Prop} {s : State} {ws : va_W} {H : Heap} {locs : List Loc} (h : Sit D T A s ws H locs) (ws' : va_W) (is : List Nat) (hn : va_nd is = true) (hs : is.map (fun i => ws[i]?) = ws'.map some) : Sit D T A s ws' H locs :=
  ⟨h.1, h.2.1.sub is (fm_of_map hs), h.2.2.1.sub is hn hs, h.2.2.2.1, h.2.2.2.2⟩
/-- the same class id for the same type of array -/
theorem va_K.one {D : va_G} {cl : List vw_C} {T : List (ClassId × FieldType)} {s : State} (h : va_K D cl T s) {i j : Nat} {c1 c2 : ClassId} {ty : FieldType} (h1 : T[i]? = some (c1, ty)) (h2 : T[j]? = some (c2, ty)) : c1 = c2 := by
  have g1 := (h.2 i _ h1).2
  have g2 := (h.2 j _ h2).2
  cases ty with
  | object C =>
    obtain ⟨_, _, _, _, _, e1⟩ := g1
    obtain ⟨_, _, _, _, _, e2⟩ := g2
    exact Option.some.inj (e1.symm.trans e2)
  | _ => exact Option.some.inj (Eq.trans (Eq.symm g1) g2)
/-- a contract's start -/
def PreC (D : va_G) (T : List (ClassId × FieldType)) (av : List Value) (X : State → Prop) (wi : va_W) (sz : Nat) : Array Value → State → Prop :=
  va_Pc av (fun U => U.heap.size = sz ∧ va_P D cls wi U.heap ∧ va_K D cls T U ∧ va_D (fun _ => True) wi ∧ X U)
def Blind (X : State → Prop) : Prop := ∀ (a : Array Value) (U : State) (g : JFrame) (mk : MethodId), X U → X (U.calling g mk a)
theorem blind_T : Blind (fun _ => True) := fun _ _ _ _ _ => trivial
theorem PreC.blind {D : va_G} {T : List (ClassId × FieldType)} {av : List Value} {X : State → Prop} {wi : va_W} {sz : Nat} (h : Blind X) : FrameBlind (PreC D T av X wi sz) := by
  intro a U g mk q
  obtain ⟨q0, q1, qP, qK, qD, qX⟩ := q
  exact ⟨q0, q1, qP, va_K.moved (u := U) (U := U.calling g mk a) (Vm.Alike.refl U.vm) qK, qD, h a U g mk qX⟩
/-- a contract whose answer is an int (boolean, too) -/
def CtI {S : Type} (l : Launch) (y : MethodName) (ws : List Cond) (rm : Room) (D : va_G) (T : List (ClassId × FieldType)) (av : List Value) (X : State → Prop) (wi : va_W) (post : Int32 → S → Prop) (wo : S → va_W) : Prop :=
  ∀ sz : Nat, Met l y ws rm (PreC D T av X wi sz) (va_Qi post (fun u t => va_P D cls (wo u) t.heap ∧ va_D (va_A wi sz) (wo u)) (va_A wi sz)) rm.cells rm.slots (va_A wi sz)
/-- a contract without an answer -/
def CtV {S : Type} (l : Launch) (y : MethodName) (ws : List Cond) (rm : Room) (D : va_G) (T : List (ClassId × FieldType)) (av : List Value) (X : State → Prop) (wi : va_W) (post : S → Prop) (wo : S → va_W) : Prop :=
  ∀ sz : Nat, Met l y ws rm (PreC D T av X wi sz) (va_Qv post (fun u t => va_P D cls (wo u) t.heap ∧ va_D (va_A wi sz) (wo u)) (va_A wi sz)) rm.cells rm.slots (va_A wi sz)
/-- the goal at a method's end -/
def EndI {S : Type} (below : List Frame) (args : Array Value) (s : State) (rm : Room) (D : va_G) (A : Nat → Prop) (post : Int32 → S → Prop) (wo : S → va_W) : State → Prop :=
  MQ below (va_Qi post (fun u t => va_P D cls (wo u) t.heap ∧ va_D A (wo u)) A) args s rm.cells rm.slots A
def EndV {S : Type} (below : List Frame) (args : Array Value) (s : State) (rm : Room) (D : va_G) (A : Nat → Prop) (post : S → Prop) (wo : S → va_W) : State → Prop :=
  MQ below (va_Qv post (fun u t => va_P D cls (wo u) t.heap ∧ va_D A (wo u)) A) args s rm.cells rm.slots A
theorem CtI.intro {S : Type} {l : Launch} {y : MethodName} {ws ws' : List Cond} {rm : Room} {D : va_G} {T : List (ClassId × FieldType)} {av : List Value} {X : State → Prop} {wi : va_W} {post : Int32 → S → Prop} {wo : S → va_W} {cc : ByteArray} {maxL : Nat} {ret : Option FieldType}
    (hw : ws = Cond.code y cc maxL ret :: ws') (hy : plainName y.cls = true) (hn : (lg_sl av).length ≤ maxL)
    (body : ∀ (p : Program) (e : Env) (s : State) (m : MethodId) (below : List Frame) (meth : Method) (c : Code) (A : Nat → Prop) (ls : Array Slot), Cx p s m av.toArray meth c cc maxL ws y ret → meth.name = y.name → X s → (A = va_A wi s.heap.size) → Sit D T A s wi s.heap [] → lv_has ls maxL (lv_args 0 av) →
      W p l e rm s m av.toArray below meth c s.heap [] 0 0 (EndI below av.toArray s rm D A post wo) (F0 m 0 ls [])) : CtI l y ws rm D T av X wi post wo := by
  intro sz
  refine Met.ofW (cc := cc) (maxL := maxL) (ret := ret) hy hw ?_
  intro p e s m args below meth c s₁ B hml hv
  obtain ⟨rfl, hsz, hP, hK, hD0, hX⟩ := hv
  subst hsz
  rw [lg_entry_eq]
  exact body p e s m below meth c (va_A wi s.heap.size) _ ⟨⟨B.exec, B.bytes, hml, findClass_of_methodNamed B.named, atoms_spec (ws := ws) B.pre⟩, B.returns, B.notSynchronized⟩ (name_of_methodNamed B.named B.method).1 hX rfl ⟨hK, hP, hD0.self, va_S.rf, fun q h => Or.inr h⟩ (lv_entry av hn)
theorem CtV.intro {S : Type} {l : Launch} {y : MethodName} {ws ws' : List Cond} {rm : Room} {D : va_G} {T : List (ClassId × FieldType)} {av : List Value} {X : State → Prop} {wi : va_W} {post : S → Prop} {wo : S → va_W} {cc : ByteArray} {maxL : Nat} {ret : Option FieldType}
    (hw : ws = Cond.code y cc maxL ret :: ws') (hy : plainName y.cls = true) (hn : (lg_sl av).length ≤ maxL)
    (body : ∀ (p : Program) (e : Env) (s : State) (m : MethodId) (below : List Frame) (meth : Method) (c : Code) (A : Nat → Prop) (ls : Array Slot), Cx p s m av.toArray meth c cc maxL ws y ret → meth.name = y.name → X s → (A = va_A wi s.heap.size) → Sit D T A s wi s.heap [] → lv_has ls maxL (lv_args 0 av) →
      W p l e rm s m av.toArray below meth c s.heap [] 0 0 (EndV below av.toArray s rm D A post wo) (F0 m 0 ls [])) : CtV l y ws rm D T av X wi post wo := by
  intro sz
  refine Met.ofW (cc := cc) (maxL := maxL) (ret := ret) hy hw ?_
  intro p e s m args below meth c s₁ B hml hv
  obtain ⟨rfl, hsz, hP, hK, hD0, hX⟩ := hv
  subst hsz
  rw [lg_entry_eq]
  exact body p e s m below meth c (va_A wi s.heap.size) _ ⟨⟨B.exec, B.bytes, hml, findClass_of_methodNamed B.named, atoms_spec (ws := ws) B.pre⟩, B.returns, B.notSynchronized⟩ (name_of_methodNamed B.named B.method).1 hX rfl ⟨hK, hP, hD0.self, va_S.rf, fun q h => Or.inr h⟩ (lv_entry av hn)
section LY
variable {p : Program} {l : Launch} {e : Env} {R : Room} {s : State} {m : MethodId} {args : Array Value} {below : List Frame} {meth : Method} {c : Code} {H : Heap} {locs : List Loc} {cells slots : Nat} {Q : State → Prop}
variable {cc : ByteArray} {pc nL : Nat} {ls : Array Slot} {rest st : List Value} {D : va_G} {T : List (ClassId × FieldType)} {A : Nat → Prop} {ws : va_W} {Ts : List Cond} {y0 : MethodName} {ret : Option FieldType}
theorem z_eq {x y : Int32} (h : x = y) (k : W p l e R s m args below meth c H locs cells slots Q (F0 m pc ls (.int y :: rest))) : W p l e R s m args below meth c H locs cells slots Q (F0 m pc ls (.int x :: rest)) := h ▸ k
theorem z_iret {S : Type} {rm : Room} {post : Int32 → S → Prop} {wo : S → va_W} {v : Int32} (C : Cx p s m args meth c cc nL Ts y0 ret) (hret : ret = some .int) (hT : Sit D T A s ws H locs) (u : S) (hp : post v u) (is : List Nat) (hn : va_nd is = true) (hs : is.map (fun i => ws[i]?) = (wo u).map some) (h1 : cells ≤ rm.cells) (h2 : slots ≤ rm.slots) (hdg : decode cc pc = .ok (.ireturn, 1)) : W p l e R s m args below meth c H locs cells slots (EndI below args s rm D A post wo) (F0 m pc ls [.int v]) := by
  refine W.widen h1 h2 ?_
  exact W.iret (v := v) C.1.1 C.1.2.1 (C.2.1.trans hret) (fun t ht hW => ⟨⟨v, u, rfl, hp, by rw [ht]; exact hT.2.1.sub is (fm_of_map hs), hT.2.2.1.sub is hn hs⟩, hT.2.2.2.1.F ht⟩) hT.2.2.2.1.2.2 hdg C.2.2
theorem z_zret {S : Type} {rm : Room} {post : Int32 → S → Prop} {wo : S → va_W} {v : Int32} (C : Cx p s m args meth c cc nL Ts y0 ret) (hret : ret = some .boolean) (hz : narrow .boolean (.int v) = .int v) (hT : Sit D T A s ws H locs) (u : S) (hp : post v u) (is : List Nat) (hn : va_nd is = true) (hs : is.map (fun i => ws[i]?) = (wo u).map some) (h1 : cells ≤ rm.cells) (h2 : slots ≤ rm.slots) (hdg : decode cc pc = .ok (.ireturn, 1)) : W p l e R s m args below meth c H locs cells slots (EndI below args s rm D A post wo) (F0 m pc ls [.int v]) := by
  refine W.widen h1 h2 ?_
  exact W.zret (v := v) C.1.1 C.1.2.1 (C.2.1.trans hret) hz (fun t ht hW => ⟨⟨v, u, rfl, hp, by rw [ht]; exact hT.2.1.sub is (fm_of_map hs), hT.2.2.1.sub is hn hs⟩, hT.2.2.2.1.F ht⟩) hT.2.2.2.1.2.2 hdg C.2.2
theorem z_vret {S : Type} {rm : Room} {post : S → Prop} {wo : S → va_W} (C : Cx p s m args meth c cc nL Ts y0 ret) (hret : ret = none) (hT : Sit D T A s ws H locs) (u : S) (hp : post u) (is : List Nat) (hn : va_nd is = true) (hs : is.map (fun i => ws[i]?) = (wo u).map some) (h1 : cells ≤ rm.cells) (h2 : slots ≤ rm.slots) (hdg : decode cc pc = .ok (.return_, 1)) : W p l e R s m args below meth c H locs cells slots (EndV below args s rm D A post wo) (F0 m pc ls []) := by
  refine W.widen h1 h2 ?_
  exact W.vret C.1.1 C.1.2.1 (C.2.1.trans hret) (fun t ht hW => ⟨⟨u, rfl, hp, by rw [ht]; exact hT.2.1.sub is (fm_of_map hs), hT.2.2.1.sub is hn hs⟩, hT.2.2.2.1.F ht⟩) hT.2.2.2.1.2.2 hdg C.2.2
theorem z_get (C : Cx p s m args meth c cc nL Ts y0 ret) {ci N index a : Nat} {Cn : String} {TT : u_T} {fs : List Value} {v : Value} (hc : cls[ci]? = some (Cn, TT, N)) (hin : ∀ w ∈ u_ws Cn TT N, w ∈ Ts) (hT : Sit D T A s ws H locs) (q0 k : Nat) (he : ws[q0]? = some (a, .inr (ci, fs))) (hv : fs[k]? = some v) (hk : k < N) (hl : Cond.fieldLink y0.cls index (TT k).1 (TT k).2.1 (TT k).2.2.1 ∈ Ts) (hdg : decode cc pc = .ok (.getfield index, 3))
    (kk : W p l e R s m args below meth c H locs cells slots Q (F0 m (pc + 3) ls (v :: rest))) : W p l e R s m args below meth c H locs cells slots Q (F0 m pc ls (.ref a :: rest)) :=
  va_get C.1.1 C.1.2.1 C.1.2.2.2.2 hin C.1.2.2.2.1 hT.1 hT.2.1 q0 he hc k hk (C.1.2.2.2.2 _ hl) (fun _ h => h) hv hdg kk
theorem z_put (C : Cx p s m args meth c cc nL Ts y0 ret) {ci N index a : Nat} {Cn : String} {TT : u_T} {fs : List Value} {v : Value} {ty0 : Nat → FieldType} (hc : cls[ci]? = some (Cn, TT, N)) (hin : ∀ w ∈ u_ws Cn TT N, w ∈ Ts) (hty : ∀ k, k < N → parseFieldDescriptor (TT k).2.2.1 = some (ty0 k)) (hnm : ∀ a, a < N → ∀ b, b < N → a ≠ b → (TT a).2.1 ≠ (TT b).2.1) (hT : Sit D T A s ws H locs) (q0 k : Nat) (he : ws[q0]? = some (a, .inr (ci, fs))) (hkl : k < fs.length) (hk : k < N) (hl : Cond.fieldLink y0.cls index (TT k).1 (TT k).2.1 (TT k).2.2.1 ∈ Ts) (hfin : (TT k).2.2.2 = false) (hn : narrow (ty0 k) v = v) (hfit : fits (ty0 k) v = true) (hdg : decode cc pc = .ok (.putfield index, 3)) (ws' : va_W) (hw : ws.set q0 (a, .inr (ci, fs.set k v)) = ws')
    (kk : ∀ (H : Heap) (locs : List Loc), Sit D T A s ws' H locs → W p l e R s m args below meth c H locs cells slots Q (F0 m (pc + 3) ls rest)) : W p l e R s m args below meth c H locs cells slots Q (F0 m pc ls (v :: .ref a :: rest)) := by
  subst hw
  exact va_put C.1.1 C.1.2.1 C.1.2.2.2.2 hin ty0 hty hnm C.1.2.2.2.1 hT.1 hT.2.1 hT.2.2.1 hT.2.2.2.1 q0 he hc k hk (C.1.2.2.2.2 _ hl) (fun _ h => h) hfin (hty k hk) hn hfit hkl hdg (fun H1 l1 g1 g2 g3 => kk H1 l1 ⟨hT.1, g1, g2, g3, hT.2.2.2.2⟩)
theorem z_putF (C : Cx p s m args meth c cc nL Ts y0 ret) {ci N index a : Nat} {Cn : String} {TT : u_T} {fs : List Value} {v : Value} {ty0 : Nat → FieldType} (hc : cls[ci]? = some (Cn, TT, N)) (hin : ∀ w ∈ u_ws Cn TT N, w ∈ Ts) (hty : ∀ k, k < N → parseFieldDescriptor (TT k).2.2.1 = some (ty0 k)) (hnm : ∀ a, a < N → ∀ b, b < N → a ≠ b → (TT a).2.1 ≠ (TT b).2.1) (hT : Sit D T A s ws H locs) (q0 k : Nat) (he : ws[q0]? = some (a, .inr (ci, fs))) (hkl : k < fs.length) (hk : k < N) (hl : Cond.fieldLink y0.cls index (TT k).1 (TT k).2.1 (TT k).2.2.1 ∈ Ts) (hfin : (TT k).2.2.2 = true) (hmn : meth.name = "<init>") (hdecl : (TT k).1 = y0.cls) (hn : narrow (ty0 k) v = v) (hfit : fits (ty0 k) v = true) (hdg : decode cc pc = .ok (.putfield index, 3)) (ws' : va_W) (hw : ws.set q0 (a, .inr (ci, fs.set k v)) = ws')
    (kk : ∀ (H : Heap) (locs : List Loc), Sit D T A s ws' H locs → W p l e R s m args below meth c H locs cells slots Q (F0 m (pc + 3) ls rest)) : W p l e R s m args below meth c H locs cells slots Q (F0 m pc ls (v :: .ref a :: rest)) := by
  subst hw
  exact va_putF C.1.1 C.1.2.1 C.1.2.2.2.2 hin ty0 hty hnm C.1.2.2.2.1 hT.1 hT.2.1 hT.2.2.1 hT.2.2.2.1 q0 he hc k hk (C.1.2.2.2.2 _ hl) (fun _ h => h) hfin hmn hdecl (hty k hk) hn hfit hkl hdg (fun H1 l1 g1 g2 g3 => kk H1 l1 ⟨hT.1, g1, g2, g3, hT.2.2.2.2⟩)
theorem z_iald (C : Cx p s m args meth c cc nL Ts y0 ret) (hT : Sit D T A s ws H locs) (q0 t0 : Nat) {a n : Nat} {cA : ClassId} {f : Nat → Int32} {i v : Int32} (ha : ws[q0]? = some (a, .inl (cA, n, .inl f))) (ht : T[t0]? = some (cA, .int)) (hin : vp_in i n) (hv : f i.toNatClampNeg = v) (hdg : decode cc pc = .ok (.iaload, 1))
    (kk : W p l e R s m args below meth c H locs cells slots Q (F0 m (pc + 1) ls (.int v :: rest))) : W p l e R s m args below meth c H locs cells slots Q (F0 m pc ls (.int i :: .ref a :: rest)) := by
  subst hv
  exact va_iald C.1.1 C.1.2.1 hT.1 hT.2.1 q0 t0 ha ht hin hdg kk
theorem z_iast (C : Cx p s m args meth c cc nL Ts y0 ret) (hT : Sit D T A s ws H locs) (q0 t0 : Nat) {a n : Nat} {cA : ClassId} {f : Nat → Int32} {i x : Int32} (ha : ws[q0]? = some (a, .inl (cA, n, .inl f))) (ht : T[t0]? = some (cA, .int)) (hin : vp_in i n) (hdg : decode cc pc = .ok (.iastore, 1)) (f' : Nat → Int32) (hf : upd f i.toNatClampNeg x = f') (ws' : va_W) (hw : ws.set q0 (a, .inl (cA, n, .inl f')) = ws')
    (kk : ∀ (H : Heap) (locs : List Loc), Sit D T A s ws' H locs → W p l e R s m args below meth c H locs cells slots Q (F0 m (pc + 1) ls rest)) : W p l e R s m args below meth c H locs cells slots Q (F0 m pc ls (.int x :: .int i :: .ref a :: rest)) := by
  subst hw
  subst hf
  exact va_iast C.1.1 C.1.2.1 hT.1 hT.2.1 hT.2.2.1 hT.2.2.2.1 q0 t0 ha ht hin hdg (fun H1 l1 g1 g2 g3 => kk H1 l1 ⟨hT.1, g1, g2, g3, hT.2.2.2.2⟩)
theorem z_zald (C : Cx p s m args meth c cc nL Ts y0 ret) (hT : Sit D T A s ws H locs) (q0 t0 : Nat) {a n : Nat} {cA : ClassId} {f : Nat → Int32} {i v : Int32} (ha : ws[q0]? = some (a, .inl (cA, n, .inl f))) (ht : T[t0]? = some (cA, .boolean)) (hin : vp_in i n) (hv : f i.toNatClampNeg = v) (hdg : decode cc pc = .ok (.baload, 1))
    (kk : W p l e R s m args below meth c H locs cells slots Q (F0 m (pc + 1) ls (.int v :: rest))) : W p l e R s m args below meth c H locs cells slots Q (F0 m pc ls (.int i :: .ref a :: rest)) := by
  subst hv
  exact va_zald C.1.1 C.1.2.1 hT.1 hT.2.1 q0 t0 ha ht hin hdg kk
theorem z_zast (C : Cx p s m args meth c cc nL Ts y0 ret) (hT : Sit D T A s ws H locs) (q0 t0 : Nat) {a n : Nat} {cA : ClassId} {f : Nat → Int32} {i x : Int32} (ha : ws[q0]? = some (a, .inl (cA, n, .inl f))) (ht : T[t0]? = some (cA, .boolean)) (hin : vp_in i n) (hdg : decode cc pc = .ok (.bastore, 1)) (f' : Nat → Int32) (hf : upd f i.toNatClampNeg (vp_nar .boolean x) = f') (ws' : va_W) (hw : ws.set q0 (a, .inl (cA, n, .inl f')) = ws')
    (kk : ∀ (H : Heap) (locs : List Loc), Sit D T A s ws' H locs → W p l e R s m args below meth c H locs cells slots Q (F0 m (pc + 1) ls rest)) : W p l e R s m args below meth c H locs cells slots Q (F0 m pc ls (.int x :: .int i :: .ref a :: rest)) := by
  subst hw
  subst hf
  exact va_zast C.1.1 C.1.2.1 hT.1 hT.2.1 hT.2.2.1 hT.2.2.2.1 q0 t0 ha ht hin hdg (fun H1 l1 g1 g2 g3 => kk H1 l1 ⟨hT.1, g1, g2, g3, hT.2.2.2.2⟩)
/-- an element of an array of references: of objects, or of arrays -/
theorem z_aald (C : Cx p s m args meth c cc nL Ts y0 ret) (hT : Sit D T A s ws H locs) (q0 t0 : Nat) {a n : Nat} {cA : ClassId} {ty : FieldType} {f : Nat → Option Nat} {i : Int32} {v : Value} (ha : ws[q0]? = some (a, .inl (cA, n, .inr (.inr (.inr (.inr f)))))) (ht : T[t0]? = some (cA, ty)) (hk : refKind ty = true) (hin : vp_in i n) (hv : va_rf (f i.toNatClampNeg) = v) (hdg : decode cc pc = .ok (.aaload, 1))
    (kk : W p l e R s m args below meth c H locs cells slots Q (F0 m (pc + 1) ls (v :: rest))) : W p l e R s m args below meth c H locs cells slots Q (F0 m pc ls (.int i :: .ref a :: rest)) := by
  subst hv
  have hlt : i.toNatClampNeg < n := Nat.not_le.mp fun q => hin (Or.inr q)
  exact W.aald (v := va_rf (f i.toNatClampNeg)) (ty := ty) C.1.1 C.1.2.1 (hT.2.1 q0 _ ha) ((hT.1.2 t0 _ ht).1 n (fun j => va_rf (f j))) hk (fun q => by cases q) (by show ¬ (i < 0 ∨ (arrV _ _ _).slots.size ≤ _); rw [arrV_size]; exact hin) (by show (arrV _ _ _).slots[_]? = _; rw [arrV_read _ _ hlt]) rfl rfl hdg kk
theorem z_aast (C : Cx p s m args meth c cc nL Ts y0 ret) (hT : Sit D T A s ws H locs) (q0 t0 qk ci : Nat) {a n v : Nat} {cA : ClassId} {r : vw_C} {vs : List Value} {f : Nat → Option Nat} {i : Int32} (ha : ws[q0]? = some (a, .inl (cA, n, .inr (.inr (.inr (.inr f)))))) (ht : T[t0]? = some (cA, .object r.1)) (hv : ws[qk]? = some (v, .inr (ci, vs))) (hc : cls[ci]? = some r) (hin : vp_in i n) (hdg : decode cc pc = .ok (.aastore, 1)) (f' : Nat → Option Nat) (hf : va_up f i.toNatClampNeg (some v) = f') (ws' : va_W) (hw : ws.set q0 (a, .inl (cA, n, .inr (.inr (.inr (.inr f'))))) = ws')
    (kk : ∀ (H : Heap) (locs : List Loc), Sit D T A s ws' H locs → W p l e R s m args below meth c H locs cells slots Q (F0 m (pc + 1) ls rest)) : W p l e R s m args below meth c H locs cells slots Q (F0 m pc ls (.ref v :: .int i :: .ref a :: rest)) := by
  subst hw
  subst hf
  exact va_astq C.1.1 C.1.2.1 hT.1 hT.2.1 hT.2.2.1 hT.2.2.2.1 q0 t0 qk ci ha ht hv hc hin hdg (fun H1 l1 g1 g2 g3 => kk H1 l1 ⟨hT.1, g1, g2, g3, hT.2.2.2.2⟩)
theorem z_newa (C : Cx p s m args meth c cc nL Ts y0 ret) (hT : Sit D T A s ws H locs) (t0 : Nat) {atype : ArrayType} {ty : FieldType} {cA : ClassId} {n : Int32} {N' : Nat} (harr : Cond.arrayClass (newarray.typeOf atype) ∈ Ts) (hty : newarray.typeOf atype = ty) (ht : T[t0]? = some (cA, ty)) (h0 : ∀ cA : ClassId, vp_cell cA (N', .inl (fun _ => 0)) = arrV cA N' (fun _ => defaultValue ty)) (hn : ¬ n < 0) (hN : n.toNatClampNeg = N') (hbytes : N' * componentBytes ty ≤ 536870912) (hcells : cells + 1 ≤ R.cells) (hslots : slots + N' ≤ R.slots) (hdg : decode cc pc = .ok (.newarray atype, 2))
    (kk : ∀ (q : Nat) (H : Heap), Sit D T A s (ws ++ [(q, .inl (cA, N', .inl (fun _ => 0)))]) H locs → W p l e R s m args below meth c H locs (cells + 1) (slots + N') Q (F0 m (pc + 2) ls (.ref q :: rest))) : W p l e R s m args below meth c H locs cells slots Q (F0 m pc ls (.int n :: rest)) := by
  refine va_newa (a0 := (N', .inl (fun _ => 0))) C.1.1 C.1.2.1 (C.1.2.2.2.2 _ harr) hty hT.1 hT.2.1 hT.2.2.1 hT.2.2.2.1 hT.2.2.2.2 h0 hn hN hbytes hcells hslots hdg (fun q cB H1 gK gP gD gS => ?_)
  have hl : t0 < T.length := (List.getElem?_eq_some_iff.mp ht).1
  have e : cA = cB := gK.one (i := t0) (j := T.length) (by rw [List.getElem?_append_left hl]; exact ht) (by rw [List.getElem?_append_right (Nat.le_refl _)]; simp)
  subst e
  exact kk q H1 ⟨hT.1, gP, gD, gS, hT.2.2.2.2⟩
theorem z_newq (C : Cx p s m args meth c cc nL Ts y0 ret) (hT : Sit D T A s ws H locs) (t0 : Nat) {Cn : String} {index : Nat} {cA : ClassId} {n : Int32} {N' : Nat} (hcl : Cond.classLink y0.cls index Cn ∈ Ts) (hov : va_AO Cn s) (ht : T[t0]? = some (cA, .object Cn)) (hn : ¬ n < 0) (hN : n.toNatClampNeg = N') (hbytes : N' * 4 ≤ 536870912) (hcells : cells + 1 ≤ R.cells) (hslots : slots + N' ≤ R.slots) (hdg : decode cc pc = .ok (.anewarray index, 3))
    (kk : ∀ (q : Nat) (H : Heap), Sit D T A s (ws ++ [(q, .inl (cA, N', .inr (.inr (.inr (.inr (fun _ => none))))))]) H locs → W p l e R s m args below meth c H locs (cells + 1) (slots + N') Q (F0 m (pc + 3) ls (.ref q :: rest))) : W p l e R s m args below meth c H locs cells slots Q (F0 m pc ls (.int n :: rest)) := by
  refine va_newq C.1.1 C.1.2.1 C.1.2.2.2.1 (C.1.2.2.2.2 _ hcl) hov hT.1 hT.2.1 hT.2.2.1 hT.2.2.2.1 hT.2.2.2.2 hn hN hbytes hcells hslots hdg (fun q cB H1 gK gP gD gS => ?_)
  have hl : t0 < T.length := (List.getElem?_eq_some_iff.mp ht).1
  have e : cA = cB := gK.one (i := t0) (j := T.length) (by rw [List.getElem?_append_left hl]; exact ht) (by rw [List.getElem?_append_right (Nat.le_refl _)]; simp)
  subst e
  exact kk q H1 ⟨hT.1, gP, gD, gS, hT.2.2.2.2⟩
theorem z_new (C : Cx p s m args meth c cc nL Ts y0 ret) {ci N index : Nat} {Cn : String} {TT : u_T} {ty0 : Nat → FieldType} (hc : cls[ci]? = some (Cn, TT, N)) (hin : ∀ w ∈ u_ws Cn TT N, w ∈ Ts) (hty : ∀ k, k < N → parseFieldDescriptor (TT k).2.2.1 = some (ty0 k)) (hT : Sit D T A s ws H locs) (fs : List Value) (hcl : Cond.classLink y0.cls index Cn ∈ Ts) (hinst : Cond.instantiable Cn N ∈ Ts) (hini : Cond.initialized Cn ∈ Ts) (hfs : ∀ j, j < N → defaultValue (ty0 j) = vp_V fs j) (hcells : cells + 1 ≤ R.cells) (hslots : slots + N ≤ R.slots) (hdg : decode cc pc = .ok (.new index, 3))
    (kk : ∀ (q : Nat) (H : Heap), Sit D T A s (ws ++ [(q, .inr (ci, fs))]) H locs → W p l e R s m args below meth c H locs (cells + 1) (slots + N) Q (F0 m (pc + 3) ls (.ref q :: rest))) : W p l e R s m args below meth c H locs cells slots Q (F0 m pc ls rest) :=
  va_new (c0 := c) C.1.1 C.1.2.1 C.1.2.2.2.2 hin ty0 hty C.1.2.2.2.1 (C.1.2.2.2.2 _ hcl) (C.1.2.2.2.2 _ hinst) (C.1.2.2.2.2 _ hini) hT.1 hT.2.1 hT.2.2.1 hT.2.2.2.1 hT.2.2.2.2 hc hfs hcells hslots hdg (fun q H1 gP gD gS => kk q H1 ⟨hT.1, gP, gD, gS, hT.2.2.2.2⟩)
theorem z_objInit (C : Cx p s m args meth c cc nL Ts y0 ret) {idx a : Nat} (hl : Cond.methodLink y0.cls idx Lib.objectInit ∈ Ts) (hi : Cond.instanceMethod Lib.objectInit ∈ Ts) (hcd : Cond.code Lib.objectInit ⟨#[0xb1]⟩ 1 none ∈ Ts) (hsz : ls.size = nL) (hdg : decode cc pc = .ok (.invokespecial idx, 3)) (hf : 1 ≤ R.frames) (hlo : 2 * (F0 m pc ls (.ref a :: rest)).monitorRoom + (rest.map fun v => v.category).sum + 12 ≤ R.locals)
    (kk : W p l e R s m args below meth c H locs cells slots Q (F0 m (pc + 3) ls rest)) : W p l e R s m args below meth c H locs cells slots Q (F0 m pc ls (.ref a :: rest)) :=
  W.objInit C.1.1 C.1.2.1 C.1.2.2.2.1 (C.1.2.2.2.2 _ hl) (C.1.2.2.2.2 _ hi) (C.1.2.2.2.2 _ hcd) rfl (by rw [C.1.2.2.1]; exact hsz) rfl hdg hf hlo kk
/-- the callee's start, out of the caller's situation -/
theorem z_pre {X : State → Prop} {wi : va_W} {av : List Value} (hT : Sit D T A s ws H locs) (isC : List Nat) (hnC : va_nd isC = true) (hC : isC.map (fun i => ws[i]?) = wi.map some) (hX : ∀ U : State, U.heap = H → s.WarmedH U.vm → X U) : ∀ U : State, U.heap = H → s.WarmedH U.vm → PreC D T av X wi H.size av.toArray U := by
  intro U hU hW
  refine ⟨rfl, by rw [hU], by rw [hU]; exact hT.2.1.sub isC (fm_of_map hC), va_K.moved hW.alike hT.1, (hT.2.2.1.sub isC hnC hC).weaken (fun _ _ _ _ => trivial), hX U hU hW⟩
theorem z_after {wi wr wo : va_W} {H1 : Heap} {locs1 : List Loc} (hT : Sit D T A s ws H locs) (isC isR : List Nat) (hC : isC.map (fun i => ws[i]?) = wi.map some) (hR : isR.map (fun i => ws[i]?) = wr.map some) (hnR : va_nd isR = true) (hdis : (isR.all fun i => !isC.contains i) = true)
    (hk : ∀ q : Nat, q < H.size → ¬ va_A wi H.size q → H1[q]? = H[q]?) (hP1 : va_P D cls wo H1) (hD1 : va_D (va_A wi H.size) wo) (hS1 : va_S A s.heap H1 locs1) : Sit D T A s (wr ++ wo) H1 locs1 := by
  have hF := va_free (wc := wi) hT.2.2.1 hT.2.2.2.1 hT.2.2.2.2 isC hC
  have h := va_join (wr := wr) (w1 := wo) hT.2.1 hT.2.2.1 isC isR hC hR hnR (fun i hi h => by
    have h2 := List.all_eq_true.mp hdis i hi
    simp [h] at h2) hk hF hP1 hD1
  exact ⟨hT.1, h.1, h.2, hS1, hT.2.2.2.2⟩
theorem z_callVI {S : Type} {y : MethodName} {bytes : ByteArray} {maxL n index : Nat} {retc : Option FieldType} {wsC wsC' : List Cond} {rm : Room} {X : State → Prop} {b : Nat} {As : List Value} {wi wr : va_W} {post : Int32 → S → Prop} {wo : S → va_W} {ci N : Nat} {Cn : String} {TT : u_T} {fs : List Value}
    (C : Cx p s m args meth c cc nL Ts y0 ret) (hM : CtI l y wsC rm D T (.ref b :: As) X wi post wo) (hG : GoodIn Ts (wsV y0.cls index y.cls y wsC)) (hw : wsC = Cond.code y bytes maxL retc :: wsC') (hd : y.cls = y.cls ∧ y.cls ≠ "java/lang/invoke/MethodHandle" ∧ y.cls ≠ "java/lang/invoke/VarHandle" ∧ (parseMethodDescriptor y.desc).map (fun d => d.parameters.length) = some n) (hR : rm.frames + 1 ≤ R.frames ∧ 8 + (maxL + 11) + rm.locals ≤ R.locals) (hf : cells + rm.cells ≤ R.cells ∧ slots + rm.slots ≤ R.slots)
    (hB : Blind X) (hX : ∀ U : State, U.heap = H → s.WarmedH U.vm → X U) (hT : Sit D T A s ws H locs) (isC isR : List Nat) (hnC : va_nd isC = true) (hC : isC.map (fun i => ws[i]?) = wi.map some) (hRr : isR.map (fun i => ws[i]?) = wr.map some) (hnR : va_nd isR = true) (hdis : (isR.all fun i => !isC.contains i) = true) (qr : Nat) (hrv : ws[qr]? = some (b, .inr (ci, fs))) (hcl : cls[ci]? = some (Cn, TT, N)) (hcn : Cn = y.cls) (hlen : As.length = n) (hsz : ls.size = nL) (hst : st = As.reverse ++ .ref b :: rest) (hroom : (rest.map fun v => v.category).sum ≤ 8) (hdg : decode cc pc = .ok (.invokevirtual index, 3))
    (kk : ∀ (r : Int32) (u : S) (H : Heap) (locs : List Loc), post r u → Sit D T A s (wr ++ wo u) H locs → W p l e R s m args below meth c H locs (cells + rm.cells) (slots + rm.slots) Q (F0 m (pc + 3) ls (.int r :: rest))) : W p l e R s m args below meth c H locs cells slots Q (F0 m pc ls st) := by
  subst hst
  subst hcn
  have hF := va_free (wc := wi) hT.2.2.1 hT.2.2.2.1 hT.2.2.2.2 isC hC
  refine va_calli (va_runV (As := As) (rest := rest) C.1 (hM H.size) (cwV n C.1.2.2.2.2 hG hw rfl rfl hd hR) ⟨PreC.blind hB, va_recv hT.1 hT.2.1 hcl hrv, z_pre hT isC hnC hC hX⟩ rfl hlen hsz rfl (lv_room hroom) hdg hf) hT.2.2.2.1 (fun q _ h => hF q h) hF (fun r u t H1 locs1 ht hvm hw hB1 hz1 hk1 hS => ?_)
  obtain ⟨hP1, hD1⟩ := hB1
  rw [ht] at hP1
  exact kk r u H1 locs1 hw (z_after hT isC isR hC hRr hnR hdis hk1 hP1 hD1 hS)
theorem z_callVV {S : Type} {y : MethodName} {bytes : ByteArray} {maxL n index : Nat} {retc : Option FieldType} {wsC wsC' : List Cond} {rm : Room} {X : State → Prop} {b : Nat} {As : List Value} {wi wr : va_W} {post : S → Prop} {wo : S → va_W} {ci N : Nat} {Cn : String} {TT : u_T} {fs : List Value}
    (C : Cx p s m args meth c cc nL Ts y0 ret) (hM : CtV l y wsC rm D T (.ref b :: As) X wi post wo) (hG : GoodIn Ts (wsV y0.cls index y.cls y wsC)) (hw : wsC = Cond.code y bytes maxL retc :: wsC') (hd : y.cls = y.cls ∧ y.cls ≠ "java/lang/invoke/MethodHandle" ∧ y.cls ≠ "java/lang/invoke/VarHandle" ∧ (parseMethodDescriptor y.desc).map (fun d => d.parameters.length) = some n) (hR : rm.frames + 1 ≤ R.frames ∧ 8 + (maxL + 11) + rm.locals ≤ R.locals) (hf : cells + rm.cells ≤ R.cells ∧ slots + rm.slots ≤ R.slots)
    (hB : Blind X) (hX : ∀ U : State, U.heap = H → s.WarmedH U.vm → X U) (hT : Sit D T A s ws H locs) (isC isR : List Nat) (hnC : va_nd isC = true) (hC : isC.map (fun i => ws[i]?) = wi.map some) (hRr : isR.map (fun i => ws[i]?) = wr.map some) (hnR : va_nd isR = true) (hdis : (isR.all fun i => !isC.contains i) = true) (qr : Nat) (hrv : ws[qr]? = some (b, .inr (ci, fs))) (hcl : cls[ci]? = some (Cn, TT, N)) (hcn : Cn = y.cls) (hlen : As.length = n) (hsz : ls.size = nL) (hst : st = As.reverse ++ .ref b :: rest) (hroom : (rest.map fun v => v.category).sum ≤ 8) (hdg : decode cc pc = .ok (.invokevirtual index, 3))
    (kk : ∀ (u : S) (H : Heap) (locs : List Loc), post u → Sit D T A s (wr ++ wo u) H locs → W p l e R s m args below meth c H locs (cells + rm.cells) (slots + rm.slots) Q (F0 m (pc + 3) ls rest)) : W p l e R s m args below meth c H locs cells slots Q (F0 m pc ls st) := by
  subst hst
  subst hcn
  have hF := va_free (wc := wi) hT.2.2.1 hT.2.2.2.1 hT.2.2.2.2 isC hC
  refine va_callv (va_runV (As := As) (rest := rest) C.1 (hM H.size) (cwV n C.1.2.2.2.2 hG hw rfl rfl hd hR) ⟨PreC.blind hB, va_recv hT.1 hT.2.1 hcl hrv, z_pre hT isC hnC hC hX⟩ rfl hlen hsz rfl (lv_room hroom) hdg hf) hT.2.2.2.1 (fun q _ h => hF q h) hF (fun u t H1 locs1 ht hvm hw hB1 hz1 hk1 hS => ?_)
  obtain ⟨hP1, hD1⟩ := hB1
  rw [ht] at hP1
  exact kk u H1 locs1 hw (z_after hT isC isR hC hRr hnR hdis hk1 hP1 hD1 hS)
theorem z_callSI {S : Type} {y : MethodName} {bytes : ByteArray} {maxL n index : Nat} {retc : Option FieldType} {wsC wsC' : List Cond} {rm : Room} {X : State → Prop} {As : List Value} {wi wr : va_W} {post : Int32 → S → Prop} {wo : S → va_W}
    (C : Cx p s m args meth c cc nL Ts y0 ret) (hM : CtI l y wsC rm D T As X wi post wo) (hG : GoodIn Ts (va_wsS y0.cls index y wsC)) (hw : wsC = Cond.code y bytes maxL retc :: wsC') (hd : y.cls ≠ "java/lang/invoke/MethodHandle" ∧ y.cls ≠ "java/lang/invoke/VarHandle" ∧ (parseMethodDescriptor y.desc).map (fun d => d.parameters.length) = some n) (hR : rm.frames + 1 ≤ R.frames ∧ 8 + (maxL + 11) + rm.locals ≤ R.locals) (hf : cells + rm.cells ≤ R.cells ∧ slots + rm.slots ≤ R.slots)
    (hB : Blind X) (hX : ∀ U : State, U.heap = H → s.WarmedH U.vm → X U) (hT : Sit D T A s ws H locs) (isC isR : List Nat) (hnC : va_nd isC = true) (hC : isC.map (fun i => ws[i]?) = wi.map some) (hRr : isR.map (fun i => ws[i]?) = wr.map some) (hnR : va_nd isR = true) (hdis : (isR.all fun i => !isC.contains i) = true) (hlen : As.length = n) (hsz : ls.size = nL) (hst : st = As.reverse ++ rest) (hroom : (rest.map fun v => v.category).sum ≤ 8) (hdg : decode cc pc = .ok (.invokestatic index, 3))
    (kk : ∀ (r : Int32) (u : S) (H : Heap) (locs : List Loc), post r u → Sit D T A s (wr ++ wo u) H locs → W p l e R s m args below meth c H locs (cells + rm.cells) (slots + rm.slots) Q (F0 m (pc + 3) ls (.int r :: rest))) : W p l e R s m args below meth c H locs cells slots Q (F0 m pc ls st) := by
  subst hst
  have hF := va_free (wc := wi) hT.2.2.1 hT.2.2.2.1 hT.2.2.2.2 isC hC
  refine va_calli (va_runS (As := As) (rest := rest) C.1 (hM H.size) (va_cwS n C.1.2.2.2.2 hG hw rfl rfl hd hR) ⟨PreC.blind hB, z_pre hT isC hnC hC hX⟩ rfl hlen hsz rfl (lv_room hroom) hdg hf) hT.2.2.2.1 (fun q _ h => hF q h) hF (fun r u t H1 locs1 ht hvm hw hB1 hz1 hk1 hS => ?_)
  obtain ⟨hP1, hD1⟩ := hB1
  rw [ht] at hP1
  exact kk r u H1 locs1 hw (z_after hT isC isR hC hRr hnR hdis hk1 hP1 hD1 hS)
/-- a constructor, linked as any other -/
theorem z_callI {S : Type} {y : MethodName} {bytes : ByteArray} {maxL n index : Nat} {wsC wsC' : List Cond} {rm : Room} {X : State → Prop} {b : Nat} {As : List Value} {wi wr : va_W} {post : S → Prop} {wo : S → va_W}
    (C : Cx p s m args meth c cc nL Ts y0 ret) (hM : CtV l y wsC rm D T (.ref b :: As) X wi post wo) (hG : GoodIn Ts wsC) (hw : wsC = Cond.code y bytes maxL none :: wsC') (hini : Cond.initialized y.cls ∈ Ts) (hlk : Cond.methodLink y0.cls index y ∈ Ts) (hinm : Cond.instanceMethod y ∈ Ts) (hyn : y.name = "<init>") (hd : y.cls ≠ "java/lang/invoke/MethodHandle" ∧ y.cls ≠ "java/lang/invoke/VarHandle" ∧ (parseMethodDescriptor y.desc).map (fun d => d.parameters.length) = some n) (hR : rm.frames + 1 ≤ R.frames ∧ 8 + (maxL + 11) + rm.locals ≤ R.locals) (hf : cells + rm.cells ≤ R.cells ∧ slots + rm.slots ≤ R.slots)
    (hB : Blind X) (hX : ∀ U : State, U.heap = H → s.WarmedH U.vm → X U) (hT : Sit D T A s ws H locs) (isC isR : List Nat) (hnC : va_nd isC = true) (hC : isC.map (fun i => ws[i]?) = wi.map some) (hRr : isR.map (fun i => ws[i]?) = wr.map some) (hnR : va_nd isR = true) (hdis : (isR.all fun i => !isC.contains i) = true) (hlen : As.length = n) (hsz : ls.size = nL) (hst : st = As.reverse ++ .ref b :: rest) (hroom : (rest.map fun v => v.category).sum ≤ 8) (hdg : decode cc pc = .ok (.invokespecial index, 3))
    (kk : ∀ (u : S) (H : Heap) (locs : List Loc), post u → Sit D T A s (wr ++ wo u) H locs → W p l e R s m args below meth c H locs (cells + rm.cells) (slots + rm.slots) Q (F0 m (pc + 3) ls rest)) : W p l e R s m args below meth c H locs cells slots Q (F0 m pc ls st) := by
  subst hst
  have hF := va_free (wc := wi) hT.2.2.1 hT.2.2.2.1 hT.2.2.2.2 isC hC
  refine va_callv (va_runI (As := As) (rest := rest) C.1 (hM H.size) (cwI n C.1.2.2.2.2 hG hw rfl rfl (C.1.2.2.2.2 _ hini) (C.1.2.2.2.2 _ hlk) (C.1.2.2.2.2 _ hinm) hyn hd hR) ⟨PreC.blind hB, z_pre hT isC hnC hC hX⟩ rfl hlen hsz rfl (lv_room hroom) hdg hf) hT.2.2.2.1 (fun q _ h => hF q h) hF (fun u t H1 locs1 ht hvm hw hB1 hz1 hk1 hS => ?_)
  obtain ⟨hP1, hD1⟩ := hB1
  rw [ht] at hP1
  exact kk u H1 locs1 hw (z_after hT isC isR hC hRr hnR hdis hk1 hP1 hD1 hS)
/-- a private constructor of a nest mate -/
theorem z_callIN {S : Type} {y : MethodName} {bytes : ByteArray} {maxL n index : Nat} {host : String} {wsC wsC' : List Cond} {rm : Room} {X : State → Prop} {b : Nat} {As : List Value} {wi wr : va_W} {post : S → Prop} {wo : S → va_W}
    (C : Cx p s m args meth c cc nL Ts y0 ret) (hM : CtV l y wsC rm D T (.ref b :: As) X wi post wo) (hG : GoodIn Ts wsC) (hw : wsC = Cond.code y bytes maxL none :: wsC') (hlk : va_Nw (.methodLinkNest y0.cls index y host) s) (hini : Cond.initialized y.cls ∈ Ts) (hinm : Cond.instanceMethod y ∈ Ts) (hyn : y.name = "<init>") (hd : y.cls ≠ "java/lang/invoke/MethodHandle" ∧ y.cls ≠ "java/lang/invoke/VarHandle" ∧ (parseMethodDescriptor y.desc).map (fun d => d.parameters.length) = some n) (hR : rm.frames + 1 ≤ R.frames ∧ 8 + (maxL + 11) + rm.locals ≤ R.locals) (hf : cells + rm.cells ≤ R.cells ∧ slots + rm.slots ≤ R.slots)
    (hB : Blind X) (hX : ∀ U : State, U.heap = H → s.WarmedH U.vm → X U) (hT : Sit D T A s ws H locs) (isC isR : List Nat) (hnC : va_nd isC = true) (hC : isC.map (fun i => ws[i]?) = wi.map some) (hRr : isR.map (fun i => ws[i]?) = wr.map some) (hnR : va_nd isR = true) (hdis : (isR.all fun i => !isC.contains i) = true) (hlen : As.length = n) (hsz : ls.size = nL) (hst : st = As.reverse ++ .ref b :: rest) (hroom : (rest.map fun v => v.category).sum ≤ 8) (hdg : decode cc pc = .ok (.invokespecial index, 3))
    (kk : ∀ (u : S) (H : Heap) (locs : List Loc), post u → Sit D T A s (wr ++ wo u) H locs → W p l e R s m args below meth c H locs (cells + rm.cells) (slots + rm.slots) Q (F0 m (pc + 3) ls rest)) : W p l e R s m args below meth c H locs cells slots Q (F0 m pc ls st) := by
  subst hst
  have hF := va_free (wc := wi) hT.2.2.1 hT.2.2.2.1 hT.2.2.2.2 isC hC
  refine va_callv (va_runIN (As := As) (rest := rest) C.1 (hM H.size) ⟨va_cnB n C.1.2.2.2.2 hG hw rfl rfl hlk (C.1.2.2.2.2 _ hini) hd hR, hyn, C.1.2.2.2.2 _ hinm⟩ ⟨PreC.blind hB, z_pre hT isC hnC hC hX⟩ rfl hlen hsz rfl (lv_room hroom) hdg hf) hT.2.2.2.1 (fun q _ h => hF q h) hF (fun u t H1 locs1 ht hvm hw hB1 hz1 hk1 hS => ?_)
  obtain ⟨hP1, hD1⟩ := hB1
  rw [ht] at hP1
  exact kk u H1 locs1 hw (z_after hT isC isR hC hRr hnR hdis hk1 hP1 hD1 hS)
end LY
end
section
/-! WHAT A STATE SAYS OF NEST MATES AND OF ARRAYS OF REFERENCES -/
theorem va_AOA.moved {t : FieldType} {u U : State} (hvm : u.vm.Alike U.vm) (h : va_AOA t u) : va_AOA t U := by
  have e := Cond.arrayOver_setVmC (args := #[]) (s := u) (vm' := U.vm) hvm (.array t)
  have h1 : (Cond.arrayOver (.array t)).before #[] (u.setVm U.vm) = true := e.trans h
  exact h1
def ev_L : List (String × Nat × MethodName) := [(RX7, 9, yX6_init), (RX7, 18, yX1_init), (RX7, 25, yX4_init), (RX7, 45, yX5_init), (RX7, 52, yX0_init), (RX7, 57, yX2_init), (RX0, 11, yX1_init), (RX2, 9, yX1_init), (RX2, 18, yX6_init), (RX3, 24, yX1_init), (RX4, 11, yX1_init)]
def Ev (U : State) : Prop := va_AO RX1 U ∧ va_AO RX2 U ∧ va_AOA .int U ∧ ∀ q ∈ ev_L, va_Nw (.methodLinkNest q.1 q.2.1 q.2.2 RX7) U
theorem Ev.warm {s U : State} (h : Ev s) (hW : s.WarmedH U.vm) : Ev U := ⟨h.1.moved hW.alike, h.2.1.moved hW.alike, h.2.2.1.moved hW.alike, fun q hq => va_Nw.warmM hW (h.2.2.2 q hq)⟩
theorem Ev.blind : Blind Ev := fun a U g mk h => ⟨va_AO.moved (u := U) (U := U.calling g mk a) (Vm.Alike.refl U.vm) h.1, va_AO.moved (u := U) (U := U.calling g mk a) (Vm.Alike.refl U.vm) h.2.1, va_AOA.moved (u := U) (U := U.calling g mk a) (Vm.Alike.refl U.vm) h.2.2.1, fun q hq => va_Nw.same rfl (u := U) (U := U.calling g mk a) rfl (h.2.2.2 q hq)⟩
theorem Ev.nw {s : State} (h : Ev s) (k : Nat) {a : String} {i : Nat} {y : MethodName} (hk : ev_L[k]? = some (a, i, y)) : va_Nw (.methodLinkNest a i y RX7) s := h.2.2.2 (a, i, y) (List.mem_of_getElem? hk)
theorem zf_0 (N : Nat) (cA : ClassId) : vp_cell cA (N, .inl (fun _ => 0)) = arrV cA N (fun _ => defaultValue .int) := rfl
theorem zf_1 (N : Nat) (cA : ClassId) : vp_cell cA (N, .inl (fun _ => 0)) = arrV cA N (fun _ => defaultValue .boolean) := rfl
section LYN
variable {p : Program} {l : Launch} {e : Env} {R : Room} {s : State} {m : MethodId} {args : Array Value} {below : List Frame} {meth : Method} {c : Code} {H : Heap} {locs : List Loc} {cells slots : Nat} {Q : State → Prop}
variable {cc : ByteArray} {pc nL : Nat} {ls : Array Slot} {rest st : List Value} {D : va_G} {T : List (ClassId × FieldType)} {A : Nat → Prop} {ws : va_W} {Ts : List Cond} {y0 : MethodName} {ret : Option FieldType}
theorem z_new0 (C : Cx p s m args meth c cc nL Ts y0 ret) (hT : Sit D T A s ws H locs) (t0 N' : Nat) {cA : ClassId} {n : Int32} (harr : Cond.arrayClass .int ∈ Ts) (ht : T[t0]? = some (cA, .int)) (hn : ¬ n < 0) (hN : n.toNatClampNeg = N') (hbytes : N' * 4 ≤ 536870912) (hcells : cells + 1 ≤ R.cells) (hslots : slots + N' ≤ R.slots) (hdg : decode cc pc = .ok (.newarray .int, 2))
    (kk : ∀ (q : Nat) (H : Heap), Sit D T A s (ws ++ [(q, .inl (cA, N', .inl (fun _ => 0)))]) H locs → W p l e R s m args below meth c H locs (cells + 1) (slots + N') Q (F0 m (pc + 2) ls (.ref q :: rest))) : W p l e R s m args below meth c H locs cells slots Q (F0 m pc ls (.int n :: rest)) :=
  z_newa (atype := .int) (ty := .int) C hT t0 harr rfl ht (zf_0 N') hn hN hbytes hcells hslots hdg kk
theorem z_new1 (C : Cx p s m args meth c cc nL Ts y0 ret) (hT : Sit D T A s ws H locs) (t0 N' : Nat) {cA : ClassId} {n : Int32} (harr : Cond.arrayClass .boolean ∈ Ts) (ht : T[t0]? = some (cA, .boolean)) (hn : ¬ n < 0) (hN : n.toNatClampNeg = N') (hbytes : N' * 1 ≤ 536870912) (hcells : cells + 1 ≤ R.cells) (hslots : slots + N' ≤ R.slots) (hdg : decode cc pc = .ok (.newarray .boolean, 2))
    (kk : ∀ (q : Nat) (H : Heap), Sit D T A s (ws ++ [(q, .inl (cA, N', .inl (fun _ => 0)))]) H locs → W p l e R s m args below meth c H locs (cells + 1) (slots + N') Q (F0 m (pc + 2) ls (.ref q :: rest))) : W p l e R s m args below meth c H locs cells slots Q (F0 m pc ls (.int n :: rest)) :=
  z_newa (atype := .boolean) (ty := .boolean) C hT t0 harr rfl ht (zf_1 N') hn hN hbytes hcells hslots hdg kk
end LYN
end
section
set_option maxRecDepth 20000 in
theorem ggX0_init_X1_init : GoodIn wsX0_init wsX1_init := goodIn_r _ [15, 16, 2, 3, 17, 18, 19, 20, 21, 22, 8, 23, 24, 25, 26, 27, 28, 29, 30, 31, 32, 33, 34, 35, 36, 37, 38, 39, 40, 41, 42, 43, 44, 45, 46, 47, 48] (by decide +kernel) (by decide +kernel)
set_option maxRecDepth 20000 in
theorem gX0_init_X1_init_n11 : GoodIn wsX0_init (wsX1_init) := ggX0_init_X1_init
theorem dX0_init_0 : decode cX0_init 0 = .ok (.aload_n 0, 1) := by decide +kernel
theorem dX0_init_1 : decode cX0_init 1 = .ok (.invokespecial 3, 3) := by decide +kernel
theorem dX0_init_4 : decode cX0_init 4 = .ok (.aload_n 0, 1) := by decide +kernel
theorem dX0_init_5 : decode cX0_init 5 = .ok (.new 9, 3) := by decide +kernel
theorem dX0_init_8 : decode cX0_init 8 = .ok (.dup, 1) := by decide +kernel
theorem dX0_init_9 : decode cX0_init 9 = .ok (.invokespecial 11, 3) := by decide +kernel
theorem dX0_init_12 : decode cX0_init 12 = .ok (.putfield 12, 3) := by decide +kernel
theorem dX0_init_15 : decode cX0_init 15 = .ok (.aload_n 0, 1) := by decide +kernel
theorem dX0_init_16 : decode cX0_init 16 = .ok (.bipush 6, 2) := by decide +kernel
theorem dX0_init_18 : decode cX0_init 18 = .ok (.newarray .int, 2) := by decide +kernel
theorem dX0_init_20 : decode cX0_init 20 = .ok (.putfield 18, 3) := by decide +kernel
theorem dX0_init_23 : decode cX0_init 23 = .ok (.aload_n 0, 1) := by decide +kernel
theorem dX0_init_24 : decode cX0_init 24 = .ok (.iconst 3, 1) := by decide +kernel
theorem dX0_init_25 : decode cX0_init 25 = .ok (.newarray .int, 2) := by decide +kernel
theorem dX0_init_27 : decode cX0_init 27 = .ok (.putfield 22, 3) := by decide +kernel
theorem dX0_init_30 : decode cX0_init 30 = .ok (.aload_n 0, 1) := by decide +kernel
theorem dX0_init_31 : decode cX0_init 31 = .ok (.iconst 3, 1) := by decide +kernel
theorem dX0_init_32 : decode cX0_init 32 = .ok (.newarray .int, 2) := by decide +kernel
theorem dX0_init_34 : decode cX0_init 34 = .ok (.putfield 25, 3) := by decide +kernel
theorem dX0_init_37 : decode cX0_init 37 = .ok (.aload_n 0, 1) := by decide +kernel
theorem dX0_init_38 : decode cX0_init 38 = .ok (.iconst (-1), 1) := by decide +kernel
theorem dX0_init_39 : decode cX0_init 39 = .ok (.putfield 28, 3) := by decide +kernel
theorem dX0_init_42 : decode cX0_init 42 = .ok (.aload_n 0, 1) := by decide +kernel
theorem dX0_init_43 : decode cX0_init 43 = .ok (.iconst 0, 1) := by decide +kernel
theorem dX0_init_44 : decode cX0_init 44 = .ok (.putfield 32, 3) := by decide +kernel
theorem dX0_init_47 : decode cX0_init 47 = .ok (.return_, 1) := by decide +kernel
theorem dX1_init_0 : decode cX1_init 0 = .ok (.aload_n 0, 1) := by decide +kernel
theorem dX1_init_1 : decode cX1_init 1 = .ok (.invokespecial 3, 3) := by decide +kernel
theorem dX1_init_4 : decode cX1_init 4 = .ok (.aload_n 0, 1) := by decide +kernel
theorem dX1_init_5 : decode cX1_init 5 = .ok (.iconst 5, 1) := by decide +kernel
theorem dX1_init_6 : decode cX1_init 6 = .ok (.putfield 9, 3) := by decide +kernel
theorem dX1_init_9 : decode cX1_init 9 = .ok (.aload_n 0, 1) := by decide +kernel
theorem dX1_init_10 : decode cX1_init 10 = .ok (.bipush 40, 2) := by decide +kernel
theorem dX1_init_12 : decode cX1_init 12 = .ok (.putfield 15, 3) := by decide +kernel
theorem dX1_init_15 : decode cX1_init 15 = .ok (.aload_n 0, 1) := by decide +kernel
theorem dX1_init_16 : decode cX1_init 16 = .ok (.bipush 8, 2) := by decide +kernel
theorem dX1_init_18 : decode cX1_init 18 = .ok (.putfield 18, 3) := by decide +kernel
theorem dX1_init_21 : decode cX1_init 21 = .ok (.aload_n 0, 1) := by decide +kernel
theorem dX1_init_22 : decode cX1_init 22 = .ok (.iconst 0, 1) := by decide +kernel
theorem dX1_init_23 : decode cX1_init 23 = .ok (.putfield 21, 3) := by decide +kernel
theorem dX1_init_26 : decode cX1_init 26 = .ok (.aload_n 0, 1) := by decide +kernel
theorem dX1_init_27 : decode cX1_init 27 = .ok (.iconst 0, 1) := by decide +kernel
theorem dX1_init_28 : decode cX1_init 28 = .ok (.putfield 24, 3) := by decide +kernel
theorem dX1_init_31 : decode cX1_init 31 = .ok (.aload_n 0, 1) := by decide +kernel
theorem dX1_init_32 : decode cX1_init 32 = .ok (.iconst 0, 1) := by decide +kernel
theorem dX1_init_33 : decode cX1_init 33 = .ok (.putfield 27, 3) := by decide +kernel
theorem dX1_init_36 : decode cX1_init 36 = .ok (.aload_n 0, 1) := by decide +kernel
theorem dX1_init_37 : decode cX1_init 37 = .ok (.bipush 6, 2) := by decide +kernel
theorem dX1_init_39 : decode cX1_init 39 = .ok (.newarray .int, 2) := by decide +kernel
theorem dX1_init_41 : decode cX1_init 41 = .ok (.putfield 30, 3) := by decide +kernel
theorem dX1_init_44 : decode cX1_init 44 = .ok (.aload_n 0, 1) := by decide +kernel
theorem dX1_init_45 : decode cX1_init 45 = .ok (.bipush 6, 2) := by decide +kernel
theorem dX1_init_47 : decode cX1_init 47 = .ok (.newarray .int, 2) := by decide +kernel
theorem dX1_init_49 : decode cX1_init 49 = .ok (.putfield 34, 3) := by decide +kernel
theorem dX1_init_52 : decode cX1_init 52 = .ok (.aload_n 0, 1) := by decide +kernel
theorem dX1_init_53 : decode cX1_init 53 = .ok (.bipush 6, 2) := by decide +kernel
theorem dX1_init_55 : decode cX1_init 55 = .ok (.newarray .int, 2) := by decide +kernel
theorem dX1_init_57 : decode cX1_init 57 = .ok (.putfield 37, 3) := by decide +kernel
theorem dX1_init_60 : decode cX1_init 60 = .ok (.aload_n 0, 1) := by decide +kernel
theorem dX1_init_61 : decode cX1_init 61 = .ok (.bipush 6, 2) := by decide +kernel
theorem dX1_init_63 : decode cX1_init 63 = .ok (.newarray .int, 2) := by decide +kernel
theorem dX1_init_65 : decode cX1_init 65 = .ok (.putfield 40, 3) := by decide +kernel
theorem dX1_init_68 : decode cX1_init 68 = .ok (.aload_n 0, 1) := by decide +kernel
theorem dX1_init_69 : decode cX1_init 69 = .ok (.bipush 6, 2) := by decide +kernel
theorem dX1_init_71 : decode cX1_init 71 = .ok (.newarray .int, 2) := by decide +kernel
theorem dX1_init_73 : decode cX1_init 73 = .ok (.putfield 43, 3) := by decide +kernel
theorem dX1_init_76 : decode cX1_init 76 = .ok (.aload_n 0, 1) := by decide +kernel
theorem dX1_init_77 : decode cX1_init 77 = .ok (.bipush 6, 2) := by decide +kernel
theorem dX1_init_79 : decode cX1_init 79 = .ok (.newarray .int, 2) := by decide +kernel
theorem dX1_init_81 : decode cX1_init 81 = .ok (.putfield 46, 3) := by decide +kernel
theorem dX1_init_84 : decode cX1_init 84 = .ok (.aload_n 0, 1) := by decide +kernel
theorem dX1_init_85 : decode cX1_init 85 = .ok (.bipush 6, 2) := by decide +kernel
theorem dX1_init_87 : decode cX1_init 87 = .ok (.newarray .int, 2) := by decide +kernel
theorem dX1_init_89 : decode cX1_init 89 = .ok (.putfield 49, 3) := by decide +kernel
theorem dX1_init_92 : decode cX1_init 92 = .ok (.aload_n 0, 1) := by decide +kernel
theorem dX1_init_93 : decode cX1_init 93 = .ok (.bipush 6, 2) := by decide +kernel
theorem dX1_init_95 : decode cX1_init 95 = .ok (.newarray .int, 2) := by decide +kernel
theorem dX1_init_97 : decode cX1_init 97 = .ok (.putfield 52, 3) := by decide +kernel
theorem dX1_init_100 : decode cX1_init 100 = .ok (.aload_n 0, 1) := by decide +kernel
theorem dX1_init_101 : decode cX1_init 101 = .ok (.bipush 6, 2) := by decide +kernel
theorem dX1_init_103 : decode cX1_init 103 = .ok (.newarray .int, 2) := by decide +kernel
theorem dX1_init_105 : decode cX1_init 105 = .ok (.putfield 55, 3) := by decide +kernel
theorem dX1_init_108 : decode cX1_init 108 = .ok (.aload_n 0, 1) := by decide +kernel
theorem dX1_init_109 : decode cX1_init 109 = .ok (.bipush 6, 2) := by decide +kernel
theorem dX1_init_111 : decode cX1_init 111 = .ok (.newarray .int, 2) := by decide +kernel
theorem dX1_init_113 : decode cX1_init 113 = .ok (.putfield 58, 3) := by decide +kernel
theorem dX1_init_116 : decode cX1_init 116 = .ok (.return_, 1) := by decide +kernel
set_option maxRecDepth 20000 in
theorem ggX2_init_X1_init : GoodIn wsX2_init wsX1_init := goodIn_r _ [14, 15, 2, 3, 16, 17, 18, 19, 20, 21, 22, 23, 24, 25, 26, 27, 28, 29, 30, 31, 32, 38, 39, 40, 41, 42, 43, 44, 45, 46, 47, 48, 49, 50, 51, 52, 53] (by decide +kernel) (by decide +kernel)
set_option maxRecDepth 20000 in
theorem gX2_init_X1_init_n9 : GoodIn wsX2_init (wsX1_init) := ggX2_init_X1_init
set_option maxRecDepth 20000 in
theorem ggX2_init_X6_init : GoodIn wsX2_init wsX6_init := goodIn_r _ [34, 35, 2, 3, 22, 36, 37, 57, 58] (by decide +kernel) (by decide +kernel)
set_option maxRecDepth 20000 in
theorem gX2_init_X6_init_n18 : GoodIn wsX2_init (wsX6_init) := ggX2_init_X6_init
theorem dX2_init_0 : decode cX2_init 0 = .ok (.aload_n 0, 1) := by decide +kernel
theorem dX2_init_1 : decode cX2_init 1 = .ok (.invokespecial 1, 3) := by decide +kernel
theorem dX2_init_4 : decode cX2_init 4 = .ok (.aload_n 0, 1) := by decide +kernel
theorem dX2_init_5 : decode cX2_init 5 = .ok (.new 7, 3) := by decide +kernel
theorem dX2_init_8 : decode cX2_init 8 = .ok (.dup, 1) := by decide +kernel
theorem dX2_init_9 : decode cX2_init 9 = .ok (.invokespecial 9, 3) := by decide +kernel
theorem dX2_init_12 : decode cX2_init 12 = .ok (.putfield 10, 3) := by decide +kernel
theorem dX2_init_15 : decode cX2_init 15 = .ok (.aload_n 0, 1) := by decide +kernel
theorem dX2_init_16 : decode cX2_init 16 = .ok (.new 16, 3) := by decide +kernel
theorem dX2_init_19 : decode cX2_init 19 = .ok (.dup, 1) := by decide +kernel
theorem dX2_init_20 : decode cX2_init 20 = .ok (.invokespecial 18, 3) := by decide +kernel
theorem dX2_init_23 : decode cX2_init 23 = .ok (.putfield 19, 3) := by decide +kernel
theorem dX2_init_26 : decode cX2_init 26 = .ok (.aload_n 0, 1) := by decide +kernel
theorem dX2_init_27 : decode cX2_init 27 = .ok (.iconst 0, 1) := by decide +kernel
theorem dX2_init_28 : decode cX2_init 28 = .ok (.putfield 23, 3) := by decide +kernel
theorem dX2_init_31 : decode cX2_init 31 = .ok (.return_, 1) := by decide +kernel
set_option maxRecDepth 20000 in
theorem ggX3_init_X1_init : GoodIn wsX3_init wsX1_init := goodIn_r _ [11, 12, 2, 3, 13, 14, 15, 16, 17, 18, 19, 20, 21, 22, 23, 24, 25, 26, 27, 28, 29, 33, 34, 35, 36, 37, 38, 39, 40, 41, 42, 43, 44, 45, 46, 47, 48] (by decide +kernel) (by decide +kernel)
set_option maxRecDepth 20000 in
theorem gX3_init_X1_init_n24 : GoodIn wsX3_init (wsX1_init) := ggX3_init_X1_init
theorem dX3_init_0 : decode cX3_init 0 = .ok (.aload_n 0, 1) := by decide +kernel
theorem dX3_init_1 : decode cX3_init 1 = .ok (.invokespecial 3, 3) := by decide +kernel
theorem dX3_init_4 : decode cX3_init 4 = .ok (.aload_n 0, 1) := by decide +kernel
theorem dX3_init_5 : decode cX3_init 5 = .ok (.bipush 8, 2) := by decide +kernel
theorem dX3_init_7 : decode cX3_init 7 = .ok (.anewarray 9, 3) := by decide +kernel
theorem dX3_init_10 : decode cX3_init 10 = .ok (.putfield 11, 3) := by decide +kernel
theorem dX3_init_13 : decode cX3_init 13 = .ok (.aload_n 0, 1) := by decide +kernel
theorem dX3_init_14 : decode cX3_init 14 = .ok (.iconst 0, 1) := by decide +kernel
theorem dX3_init_15 : decode cX3_init 15 = .ok (.putfield 17, 3) := by decide +kernel
theorem dX3_init_18 : decode cX3_init 18 = .ok (.aload_n 0, 1) := by decide +kernel
theorem dX3_init_19 : decode cX3_init 19 = .ok (.iconst 0, 1) := by decide +kernel
theorem dX3_init_20 : decode cX3_init 20 = .ok (.putfield 21, 3) := by decide +kernel
theorem dX3_init_23 : decode cX3_init 23 = .ok (.iconst 0, 1) := by decide +kernel
theorem dX3_init_24 : decode cX3_init 24 = .ok (.istore_n 1, 1) := by decide +kernel
theorem dX3_init_25 : decode cX3_init 25 = .ok (.iload_n 1, 1) := by decide +kernel
theorem dX3_init_26 : decode cX3_init 26 = .ok (.bipush 8, 2) := by decide +kernel
theorem dX3_init_28 : decode cX3_init 28 = .ok (.if_icmp .ge 22, 3) := by decide +kernel
theorem dX3_init_31 : decode cX3_init 31 = .ok (.aload_n 0, 1) := by decide +kernel
theorem dX3_init_32 : decode cX3_init 32 = .ok (.getfield 11, 3) := by decide +kernel
theorem dX3_init_35 : decode cX3_init 35 = .ok (.iload_n 1, 1) := by decide +kernel
theorem dX3_init_36 : decode cX3_init 36 = .ok (.new 9, 3) := by decide +kernel
theorem dX3_init_39 : decode cX3_init 39 = .ok (.dup, 1) := by decide +kernel
theorem dX3_init_40 : decode cX3_init 40 = .ok (.invokespecial 24, 3) := by decide +kernel
theorem dX3_init_43 : decode cX3_init 43 = .ok (.aastore, 1) := by decide +kernel
theorem dX3_init_44 : decode cX3_init 44 = .ok (.iinc 1 1, 3) := by decide +kernel
theorem dX3_init_47 : decode cX3_init 47 = .ok (.goto (-22), 3) := by decide +kernel
theorem dX3_init_50 : decode cX3_init 50 = .ok (.return_, 1) := by decide +kernel
set_option maxRecDepth 20000 in
theorem ggX4_init_X1_init : GoodIn wsX4_init wsX1_init := goodIn_r _ [13, 14, 2, 3, 15, 16, 17, 18, 19, 20, 21, 22, 23, 24, 25, 26, 27, 28, 29, 30, 31, 32, 33, 34, 35, 36, 37, 38, 39, 40, 41, 42, 43, 44, 45, 46, 47] (by decide +kernel) (by decide +kernel)
set_option maxRecDepth 20000 in
theorem gX4_init_X1_init_n11 : GoodIn wsX4_init (wsX1_init) := ggX4_init_X1_init
theorem dX4_init_0 : decode cX4_init 0 = .ok (.aload_n 0, 1) := by decide +kernel
theorem dX4_init_1 : decode cX4_init 1 = .ok (.invokespecial 3, 3) := by decide +kernel
theorem dX4_init_4 : decode cX4_init 4 = .ok (.aload_n 0, 1) := by decide +kernel
theorem dX4_init_5 : decode cX4_init 5 = .ok (.new 9, 3) := by decide +kernel
theorem dX4_init_8 : decode cX4_init 8 = .ok (.dup, 1) := by decide +kernel
theorem dX4_init_9 : decode cX4_init 9 = .ok (.invokespecial 11, 3) := by decide +kernel
theorem dX4_init_12 : decode cX4_init 12 = .ok (.putfield 12, 3) := by decide +kernel
theorem dX4_init_15 : decode cX4_init 15 = .ok (.aload_n 0, 1) := by decide +kernel
theorem dX4_init_16 : decode cX4_init 16 = .ok (.iconst 0, 1) := by decide +kernel
theorem dX4_init_17 : decode cX4_init 17 = .ok (.putfield 18, 3) := by decide +kernel
theorem dX4_init_20 : decode cX4_init 20 = .ok (.aload_n 0, 1) := by decide +kernel
theorem dX4_init_21 : decode cX4_init 21 = .ok (.iconst 0, 1) := by decide +kernel
theorem dX4_init_22 : decode cX4_init 22 = .ok (.putfield 22, 3) := by decide +kernel
theorem dX4_init_25 : decode cX4_init 25 = .ok (.aload_n 0, 1) := by decide +kernel
theorem dX4_init_26 : decode cX4_init 26 = .ok (.iconst 0, 1) := by decide +kernel
theorem dX4_init_27 : decode cX4_init 27 = .ok (.putfield 25, 3) := by decide +kernel
theorem dX4_init_30 : decode cX4_init 30 = .ok (.aload_n 0, 1) := by decide +kernel
theorem dX4_init_31 : decode cX4_init 31 = .ok (.iconst 0, 1) := by decide +kernel
theorem dX4_init_32 : decode cX4_init 32 = .ok (.putfield 28, 3) := by decide +kernel
theorem dX4_init_35 : decode cX4_init 35 = .ok (.return_, 1) := by decide +kernel
theorem dX6_init_0 : decode cX6_init 0 = .ok (.aload_n 0, 1) := by decide +kernel
theorem dX6_init_1 : decode cX6_init 1 = .ok (.invokespecial 3, 3) := by decide +kernel
theorem dX6_init_4 : decode cX6_init 4 = .ok (.aload_n 0, 1) := by decide +kernel
theorem dX6_init_5 : decode cX6_init 5 = .ok (.sipush 160, 3) := by decide +kernel
theorem dX6_init_8 : decode cX6_init 8 = .ok (.newarray .int, 2) := by decide +kernel
theorem dX6_init_10 : decode cX6_init 10 = .ok (.putfield 9, 3) := by decide +kernel
theorem dX6_init_13 : decode cX6_init 13 = .ok (.aload_n 0, 1) := by decide +kernel
theorem dX6_init_14 : decode cX6_init 14 = .ok (.iconst 0, 1) := by decide +kernel
theorem dX6_init_15 : decode cX6_init 15 = .ok (.putfield 15, 3) := by decide +kernel
theorem dX6_init_18 : decode cX6_init 18 = .ok (.return_, 1) := by decide +kernel
set_option maxHeartbeats 4000000 in
set_option maxRecDepth 100000 in
/-- Text(): an empty row of 160 letters -/
theorem c_Text_init (l : Launch) (D : va_G) (g : Nat → ClassId) (h0 : Nat) : CtV l yX6_init wsX6_init { frames := 1, cells := 1, slots := 160, locals := 12 } D (TY g) [.ref h0] (fun _ => True) [(h0, .inr (6, [.null, .int 0]))] (fun _ : Nat → Nat => True) (fun u => [(h0, .inr (6, [.ref (u 0), .int 0])), ((u 0), .inl (g 0, 160, .inl (fun _ => 0)))]) := by
  refine CtV.intro (cc := cX6_init) (maxL := 1) (ret := none) rfl (by decide +kernel) (Nat.le_of_ble_eq_true rfl) ?_
  intro p e s m below meth c A ls C hmn hX hAe hT hl
  have hx := C.1.1
  have hb := C.1.2.1
  have hl : lv_has ls 1 [(0, .ref h0)] := hl
  have hin6 : ∀ w ∈ u_ws RX6 TX6 2, w ∈ wsX6_init := by decide +kernel
  refine lv_aload_n hx hb dX6_init_0 rfl (lv_at hl 0 rfl) ?_
  refine z_objInit C (by decide +kernel) (by decide +kernel) (by decide +kernel) hl.1 dX6_init_1 (Nat.le_of_ble_eq_true rfl) (Nat.le_of_ble_eq_true rfl) ?_
  refine lv_aload_n hx hb dX6_init_4 rfl (lv_at hl 0 rfl) ?_
  refine lv_sipush (v := 160) hx hb dX6_init_5 (by decide +kernel) ?_
  refine z_new0 C hT 0 160 (by decide +kernel) rfl (by decide +kernel) (by decide +kernel) (by decide +kernel) (Nat.le_of_ble_eq_true rfl) (Nat.le_of_ble_eq_true rfl) dX6_init_8 (fun q_1 H hT => ?_)
  have hT : Sit D (TY g) A s [(h0, .inr (6, [.null, .int 0])), (q_1, .inl (g 0, 160, .inl (fun _ => 0)))] H _ := hT
  refine z_putF C (ci := 6) (N := 2) rfl hin6 tyX6_ok nmX6 hT 0 0 rfl (Nat.le_of_ble_eq_true rfl) (by decide +kernel) (by decide +kernel) rfl hmn rfl rfl rfl dX6_init_10 [(h0, .inr (6, [.ref q_1, .int 0])), (q_1, .inl (g 0, 160, .inl (fun _ => 0)))] rfl (fun H locs hT => ?_)
  refine lv_aload_n hx hb dX6_init_13 rfl (lv_at hl 0 rfl) ?_
  refine lv_iconst (v := 0) hx hb dX6_init_14 (by decide +kernel) ?_
  refine z_put C (ci := 6) (N := 2) rfl hin6 tyX6_ok nmX6 hT 0 1 rfl (Nat.le_of_ble_eq_true rfl) (by decide +kernel) (by decide +kernel) rfl rfl rfl dX6_init_15 [(h0, .inr (6, [.ref q_1, .int 0])), (q_1, .inl (g 0, 160, .inl (fun _ => 0)))] rfl (fun H locs hT => ?_)
  exact z_vret C rfl hT (fun k => ([q_1] : List Nat).getD k 0) trivial [0, 1] rfl rfl (Nat.le_of_ble_eq_true rfl) (Nat.le_of_ble_eq_true rfl) dX6_init_18

set_option maxHeartbeats 4000000 in
set_option maxRecDepth 100000 in
/-- Hall(): five joints, nobody -/
theorem c_Hall_init (l : Launch) (D : va_G) (g : Nat → ClassId) (h0 : Nat) : CtV l yX1_init wsX1_init { frames := 1, cells := 10, slots := 60, locals := 12 } D (TY g) [.ref h0] (fun _ => True) [(h0, .inr (1, [.int 0, .int 0, .int 0, .int 0, .int 0, .int 0, .null, .null, .null, .null, .null, .null, .null, .null, .null, .null]))] (fun _ : Nat → Nat => True) (fun u => [(h0, .inr (1, [.int 5, .int 40, .int 8, .int 0, .int 0, .int 0, .ref (u 0), .ref (u 1), .ref (u 2), .ref (u 3), .ref (u 4), .ref (u 5), .ref (u 6), .ref (u 7), .ref (u 8), .ref (u 9)])), ((u 0), .inl (g 0, 6, .inl (fun _ => 0))), ((u 1), .inl (g 0, 6, .inl (fun _ => 0))), ((u 2), .inl (g 0, 6, .inl (fun _ => 0))), ((u 3), .inl (g 0, 6, .inl (fun _ => 0))), ((u 4), .inl (g 0, 6, .inl (fun _ => 0))), ((u 5), .inl (g 0, 6, .inl (fun _ => 0))), ((u 6), .inl (g 0, 6, .inl (fun _ => 0))), ((u 7), .inl (g 0, 6, .inl (fun _ => 0))), ((u 8), .inl (g 0, 6, .inl (fun _ => 0)))]) := by
  refine CtV.intro (cc := cX1_init) (maxL := 1) (ret := none) rfl (by decide +kernel) (Nat.le_of_ble_eq_true rfl) ?_
  intro p e s m below meth c A ls C hmn hX hAe hT hl
  have hx := C.1.1
  have hb := C.1.2.1
  have hl : lv_has ls 1 [(0, .ref h0)] := hl
  have hin1 : ∀ w ∈ u_ws RX1 TX1 16, w ∈ wsX1_init := by decide +kernel
  refine lv_aload_n hx hb dX1_init_0 rfl (lv_at hl 0 rfl) ?_
  refine z_objInit C (by decide +kernel) (by decide +kernel) (by decide +kernel) hl.1 dX1_init_1 (Nat.le_of_ble_eq_true rfl) (Nat.le_of_ble_eq_true rfl) ?_
  refine lv_aload_n hx hb dX1_init_4 rfl (lv_at hl 0 rfl) ?_
  refine lv_iconst (v := 5) hx hb dX1_init_5 (by decide +kernel) ?_
  refine z_put C (ci := 1) (N := 16) rfl hin1 tyX1_ok nmX1 hT 0 0 rfl (Nat.le_of_ble_eq_true rfl) (by decide +kernel) (by decide +kernel) rfl rfl rfl dX1_init_6 [(h0, .inr (1, [.int 5, .int 0, .int 0, .int 0, .int 0, .int 0, .null, .null, .null, .null, .null, .null, .null, .null, .null, .null]))] rfl (fun H locs hT => ?_)
  refine lv_aload_n hx hb dX1_init_9 rfl (lv_at hl 0 rfl) ?_
  refine lv_bipush (v := 40) hx hb dX1_init_10 (by decide +kernel) ?_
  refine z_put C (ci := 1) (N := 16) rfl hin1 tyX1_ok nmX1 hT 0 1 rfl (Nat.le_of_ble_eq_true rfl) (by decide +kernel) (by decide +kernel) rfl rfl rfl dX1_init_12 [(h0, .inr (1, [.int 5, .int 40, .int 0, .int 0, .int 0, .int 0, .null, .null, .null, .null, .null, .null, .null, .null, .null, .null]))] rfl (fun H locs hT => ?_)
  refine lv_aload_n hx hb dX1_init_15 rfl (lv_at hl 0 rfl) ?_
  refine lv_bipush (v := 8) hx hb dX1_init_16 (by decide +kernel) ?_
  refine z_put C (ci := 1) (N := 16) rfl hin1 tyX1_ok nmX1 hT 0 2 rfl (Nat.le_of_ble_eq_true rfl) (by decide +kernel) (by decide +kernel) rfl rfl rfl dX1_init_18 [(h0, .inr (1, [.int 5, .int 40, .int 8, .int 0, .int 0, .int 0, .null, .null, .null, .null, .null, .null, .null, .null, .null, .null]))] rfl (fun H locs hT => ?_)
  refine lv_aload_n hx hb dX1_init_21 rfl (lv_at hl 0 rfl) ?_
  refine lv_iconst (v := 0) hx hb dX1_init_22 (by decide +kernel) ?_
  refine z_put C (ci := 1) (N := 16) rfl hin1 tyX1_ok nmX1 hT 0 3 rfl (Nat.le_of_ble_eq_true rfl) (by decide +kernel) (by decide +kernel) rfl rfl rfl dX1_init_23 [(h0, .inr (1, [.int 5, .int 40, .int 8, .int 0, .int 0, .int 0, .null, .null, .null, .null, .null, .null, .null, .null, .null, .null]))] rfl (fun H locs hT => ?_)
  refine lv_aload_n hx hb dX1_init_26 rfl (lv_at hl 0 rfl) ?_
  refine lv_iconst (v := 0) hx hb dX1_init_27 (by decide +kernel) ?_
  refine z_put C (ci := 1) (N := 16) rfl hin1 tyX1_ok nmX1 hT 0 4 rfl (Nat.le_of_ble_eq_true rfl) (by decide +kernel) (by decide +kernel) rfl rfl rfl dX1_init_28 [(h0, .inr (1, [.int 5, .int 40, .int 8, .int 0, .int 0, .int 0, .null, .null, .null, .null, .null, .null, .null, .null, .null, .null]))] rfl (fun H locs hT => ?_)
  refine lv_aload_n hx hb dX1_init_31 rfl (lv_at hl 0 rfl) ?_
  refine lv_iconst (v := 0) hx hb dX1_init_32 (by decide +kernel) ?_
  refine z_put C (ci := 1) (N := 16) rfl hin1 tyX1_ok nmX1 hT 0 5 rfl (Nat.le_of_ble_eq_true rfl) (by decide +kernel) (by decide +kernel) rfl rfl rfl dX1_init_33 [(h0, .inr (1, [.int 5, .int 40, .int 8, .int 0, .int 0, .int 0, .null, .null, .null, .null, .null, .null, .null, .null, .null, .null]))] rfl (fun H locs hT => ?_)
  refine lv_aload_n hx hb dX1_init_36 rfl (lv_at hl 0 rfl) ?_
  refine lv_bipush (v := 6) hx hb dX1_init_37 (by decide +kernel) ?_
  refine z_new0 C hT 0 6 (by decide +kernel) rfl (by decide +kernel) (by decide +kernel) (by decide +kernel) (Nat.le_of_ble_eq_true rfl) (Nat.le_of_ble_eq_true rfl) dX1_init_39 (fun q_1 H hT => ?_)
  have hT : Sit D (TY g) A s [(h0, .inr (1, [.int 5, .int 40, .int 8, .int 0, .int 0, .int 0, .null, .null, .null, .null, .null, .null, .null, .null, .null, .null])), (q_1, .inl (g 0, 6, .inl (fun _ => 0)))] H _ := hT
  refine z_putF C (ci := 1) (N := 16) rfl hin1 tyX1_ok nmX1 hT 0 6 rfl (Nat.le_of_ble_eq_true rfl) (by decide +kernel) (by decide +kernel) rfl hmn rfl rfl rfl dX1_init_41 [(h0, .inr (1, [.int 5, .int 40, .int 8, .int 0, .int 0, .int 0, .ref q_1, .null, .null, .null, .null, .null, .null, .null, .null, .null])), (q_1, .inl (g 0, 6, .inl (fun _ => 0)))] rfl (fun H locs hT => ?_)
  refine lv_aload_n hx hb dX1_init_44 rfl (lv_at hl 0 rfl) ?_
  refine lv_bipush (v := 6) hx hb dX1_init_45 (by decide +kernel) ?_
  refine z_new0 C hT 0 6 (by decide +kernel) rfl (by decide +kernel) (by decide +kernel) (by decide +kernel) (Nat.le_of_ble_eq_true rfl) (Nat.le_of_ble_eq_true rfl) dX1_init_47 (fun q_2 H hT => ?_)
  have hT : Sit D (TY g) A s [(h0, .inr (1, [.int 5, .int 40, .int 8, .int 0, .int 0, .int 0, .ref q_1, .null, .null, .null, .null, .null, .null, .null, .null, .null])), (q_1, .inl (g 0, 6, .inl (fun _ => 0))), (q_2, .inl (g 0, 6, .inl (fun _ => 0)))] H _ := hT
  refine z_putF C (ci := 1) (N := 16) rfl hin1 tyX1_ok nmX1 hT 0 7 rfl (Nat.le_of_ble_eq_true rfl) (by decide +kernel) (by decide +kernel) rfl hmn rfl rfl rfl dX1_init_49 [(h0, .inr (1, [.int 5, .int 40, .int 8, .int 0, .int 0, .int 0, .ref q_1, .ref q_2, .null, .null, .null, .null, .null, .null, .null, .null])), (q_1, .inl (g 0, 6, .inl (fun _ => 0))), (q_2, .inl (g 0, 6, .inl (fun _ => 0)))] rfl (fun H locs hT => ?_)
  refine lv_aload_n hx hb dX1_init_52 rfl (lv_at hl 0 rfl) ?_
  refine lv_bipush (v := 6) hx hb dX1_init_53 (by decide +kernel) ?_
  refine z_new0 C hT 0 6 (by decide +kernel) rfl (by decide +kernel) (by decide +kernel) (by decide +kernel) (Nat.le_of_ble_eq_true rfl) (Nat.le_of_ble_eq_true rfl) dX1_init_55 (fun q_3 H hT => ?_)
  have hT : Sit D (TY g) A s [(h0, .inr (1, [.int 5, .int 40, .int 8, .int 0, .int 0, .int 0, .ref q_1, .ref q_2, .null, .null, .null, .null, .null, .null, .null, .null])), (q_1, .inl (g 0, 6, .inl (fun _ => 0))), (q_2, .inl (g 0, 6, .inl (fun _ => 0))), (q_3, .inl (g 0, 6, .inl (fun _ => 0)))] H _ := hT
  refine z_putF C (ci := 1) (N := 16) rfl hin1 tyX1_ok nmX1 hT 0 8 rfl (Nat.le_of_ble_eq_true rfl) (by decide +kernel) (by decide +kernel) rfl hmn rfl rfl rfl dX1_init_57 [(h0, .inr (1, [.int 5, .int 40, .int 8, .int 0, .int 0, .int 0, .ref q_1, .ref q_2, .ref q_3, .null, .null, .null, .null, .null, .null, .null])), (q_1, .inl (g 0, 6, .inl (fun _ => 0))), (q_2, .inl (g 0, 6, .inl (fun _ => 0))), (q_3, .inl (g 0, 6, .inl (fun _ => 0)))] rfl (fun H locs hT => ?_)
  refine lv_aload_n hx hb dX1_init_60 rfl (lv_at hl 0 rfl) ?_
  refine lv_bipush (v := 6) hx hb dX1_init_61 (by decide +kernel) ?_
  refine z_new0 C hT 0 6 (by decide +kernel) rfl (by decide +kernel) (by decide +kernel) (by decide +kernel) (Nat.le_of_ble_eq_true rfl) (Nat.le_of_ble_eq_true rfl) dX1_init_63 (fun q_4 H hT => ?_)
  have hT : Sit D (TY g) A s [(h0, .inr (1, [.int 5, .int 40, .int 8, .int 0, .int 0, .int 0, .ref q_1, .ref q_2, .ref q_3, .null, .null, .null, .null, .null, .null, .null])), (q_1, .inl (g 0, 6, .inl (fun _ => 0))), (q_2, .inl (g 0, 6, .inl (fun _ => 0))), (q_3, .inl (g 0, 6, .inl (fun _ => 0))), (q_4, .inl (g 0, 6, .inl (fun _ => 0)))] H _ := hT
  refine z_putF C (ci := 1) (N := 16) rfl hin1 tyX1_ok nmX1 hT 0 9 rfl (Nat.le_of_ble_eq_true rfl) (by decide +kernel) (by decide +kernel) rfl hmn rfl rfl rfl dX1_init_65 [(h0, .inr (1, [.int 5, .int 40, .int 8, .int 0, .int 0, .int 0, .ref q_1, .ref q_2, .ref q_3, .ref q_4, .null, .null, .null, .null, .null, .null])), (q_1, .inl (g 0, 6, .inl (fun _ => 0))), (q_2, .inl (g 0, 6, .inl (fun _ => 0))), (q_3, .inl (g 0, 6, .inl (fun _ => 0))), (q_4, .inl (g 0, 6, .inl (fun _ => 0)))] rfl (fun H locs hT => ?_)
  refine lv_aload_n hx hb dX1_init_68 rfl (lv_at hl 0 rfl) ?_
  refine lv_bipush (v := 6) hx hb dX1_init_69 (by decide +kernel) ?_
  refine z_new0 C hT 0 6 (by decide +kernel) rfl (by decide +kernel) (by decide +kernel) (by decide +kernel) (Nat.le_of_ble_eq_true rfl) (Nat.le_of_ble_eq_true rfl) dX1_init_71 (fun q_5 H hT => ?_)
  have hT : Sit D (TY g) A s [(h0, .inr (1, [.int 5, .int 40, .int 8, .int 0, .int 0, .int 0, .ref q_1, .ref q_2, .ref q_3, .ref q_4, .null, .null, .null, .null, .null, .null])), (q_1, .inl (g 0, 6, .inl (fun _ => 0))), (q_2, .inl (g 0, 6, .inl (fun _ => 0))), (q_3, .inl (g 0, 6, .inl (fun _ => 0))), (q_4, .inl (g 0, 6, .inl (fun _ => 0))), (q_5, .inl (g 0, 6, .inl (fun _ => 0)))] H _ := hT
  refine z_putF C (ci := 1) (N := 16) rfl hin1 tyX1_ok nmX1 hT 0 10 rfl (Nat.le_of_ble_eq_true rfl) (by decide +kernel) (by decide +kernel) rfl hmn rfl rfl rfl dX1_init_73 [(h0, .inr (1, [.int 5, .int 40, .int 8, .int 0, .int 0, .int 0, .ref q_1, .ref q_2, .ref q_3, .ref q_4, .ref q_5, .null, .null, .null, .null, .null])), (q_1, .inl (g 0, 6, .inl (fun _ => 0))), (q_2, .inl (g 0, 6, .inl (fun _ => 0))), (q_3, .inl (g 0, 6, .inl (fun _ => 0))), (q_4, .inl (g 0, 6, .inl (fun _ => 0))), (q_5, .inl (g 0, 6, .inl (fun _ => 0)))] rfl (fun H locs hT => ?_)
  refine lv_aload_n hx hb dX1_init_76 rfl (lv_at hl 0 rfl) ?_
  refine lv_bipush (v := 6) hx hb dX1_init_77 (by decide +kernel) ?_
  refine z_new0 C hT 0 6 (by decide +kernel) rfl (by decide +kernel) (by decide +kernel) (by decide +kernel) (Nat.le_of_ble_eq_true rfl) (Nat.le_of_ble_eq_true rfl) dX1_init_79 (fun q_6 H hT => ?_)
  have hT : Sit D (TY g) A s [(h0, .inr (1, [.int 5, .int 40, .int 8, .int 0, .int 0, .int 0, .ref q_1, .ref q_2, .ref q_3, .ref q_4, .ref q_5, .null, .null, .null, .null, .null])), (q_1, .inl (g 0, 6, .inl (fun _ => 0))), (q_2, .inl (g 0, 6, .inl (fun _ => 0))), (q_3, .inl (g 0, 6, .inl (fun _ => 0))), (q_4, .inl (g 0, 6, .inl (fun _ => 0))), (q_5, .inl (g 0, 6, .inl (fun _ => 0))), (q_6, .inl (g 0, 6, .inl (fun _ => 0)))] H _ := hT
  refine z_putF C (ci := 1) (N := 16) rfl hin1 tyX1_ok nmX1 hT 0 11 rfl (Nat.le_of_ble_eq_true rfl) (by decide +kernel) (by decide +kernel) rfl hmn rfl rfl rfl dX1_init_81 [(h0, .inr (1, [.int 5, .int 40, .int 8, .int 0, .int 0, .int 0, .ref q_1, .ref q_2, .ref q_3, .ref q_4, .ref q_5, .ref q_6, .null, .null, .null, .null])), (q_1, .inl (g 0, 6, .inl (fun _ => 0))), (q_2, .inl (g 0, 6, .inl (fun _ => 0))), (q_3, .inl (g 0, 6, .inl (fun _ => 0))), (q_4, .inl (g 0, 6, .inl (fun _ => 0))), (q_5, .inl (g 0, 6, .inl (fun _ => 0))), (q_6, .inl (g 0, 6, .inl (fun _ => 0)))] rfl (fun H locs hT => ?_)
  refine lv_aload_n hx hb dX1_init_84 rfl (lv_at hl 0 rfl) ?_
  refine lv_bipush (v := 6) hx hb dX1_init_85 (by decide +kernel) ?_
  refine z_new0 C hT 0 6 (by decide +kernel) rfl (by decide +kernel) (by decide +kernel) (by decide +kernel) (Nat.le_of_ble_eq_true rfl) (Nat.le_of_ble_eq_true rfl) dX1_init_87 (fun q_7 H hT => ?_)
  have hT : Sit D (TY g) A s [(h0, .inr (1, [.int 5, .int 40, .int 8, .int 0, .int 0, .int 0, .ref q_1, .ref q_2, .ref q_3, .ref q_4, .ref q_5, .ref q_6, .null, .null, .null, .null])), (q_1, .inl (g 0, 6, .inl (fun _ => 0))), (q_2, .inl (g 0, 6, .inl (fun _ => 0))), (q_3, .inl (g 0, 6, .inl (fun _ => 0))), (q_4, .inl (g 0, 6, .inl (fun _ => 0))), (q_5, .inl (g 0, 6, .inl (fun _ => 0))), (q_6, .inl (g 0, 6, .inl (fun _ => 0))), (q_7, .inl (g 0, 6, .inl (fun _ => 0)))] H _ := hT
  refine z_putF C (ci := 1) (N := 16) rfl hin1 tyX1_ok nmX1 hT 0 12 rfl (Nat.le_of_ble_eq_true rfl) (by decide +kernel) (by decide +kernel) rfl hmn rfl rfl rfl dX1_init_89 [(h0, .inr (1, [.int 5, .int 40, .int 8, .int 0, .int 0, .int 0, .ref q_1, .ref q_2, .ref q_3, .ref q_4, .ref q_5, .ref q_6, .ref q_7, .null, .null, .null])), (q_1, .inl (g 0, 6, .inl (fun _ => 0))), (q_2, .inl (g 0, 6, .inl (fun _ => 0))), (q_3, .inl (g 0, 6, .inl (fun _ => 0))), (q_4, .inl (g 0, 6, .inl (fun _ => 0))), (q_5, .inl (g 0, 6, .inl (fun _ => 0))), (q_6, .inl (g 0, 6, .inl (fun _ => 0))), (q_7, .inl (g 0, 6, .inl (fun _ => 0)))] rfl (fun H locs hT => ?_)
  refine lv_aload_n hx hb dX1_init_92 rfl (lv_at hl 0 rfl) ?_
  refine lv_bipush (v := 6) hx hb dX1_init_93 (by decide +kernel) ?_
  refine z_new0 C hT 0 6 (by decide +kernel) rfl (by decide +kernel) (by decide +kernel) (by decide +kernel) (Nat.le_of_ble_eq_true rfl) (Nat.le_of_ble_eq_true rfl) dX1_init_95 (fun q_8 H hT => ?_)
  have hT : Sit D (TY g) A s [(h0, .inr (1, [.int 5, .int 40, .int 8, .int 0, .int 0, .int 0, .ref q_1, .ref q_2, .ref q_3, .ref q_4, .ref q_5, .ref q_6, .ref q_7, .null, .null, .null])), (q_1, .inl (g 0, 6, .inl (fun _ => 0))), (q_2, .inl (g 0, 6, .inl (fun _ => 0))), (q_3, .inl (g 0, 6, .inl (fun _ => 0))), (q_4, .inl (g 0, 6, .inl (fun _ => 0))), (q_5, .inl (g 0, 6, .inl (fun _ => 0))), (q_6, .inl (g 0, 6, .inl (fun _ => 0))), (q_7, .inl (g 0, 6, .inl (fun _ => 0))), (q_8, .inl (g 0, 6, .inl (fun _ => 0)))] H _ := hT
  refine z_putF C (ci := 1) (N := 16) rfl hin1 tyX1_ok nmX1 hT 0 13 rfl (Nat.le_of_ble_eq_true rfl) (by decide +kernel) (by decide +kernel) rfl hmn rfl rfl rfl dX1_init_97 [(h0, .inr (1, [.int 5, .int 40, .int 8, .int 0, .int 0, .int 0, .ref q_1, .ref q_2, .ref q_3, .ref q_4, .ref q_5, .ref q_6, .ref q_7, .ref q_8, .null, .null])), (q_1, .inl (g 0, 6, .inl (fun _ => 0))), (q_2, .inl (g 0, 6, .inl (fun _ => 0))), (q_3, .inl (g 0, 6, .inl (fun _ => 0))), (q_4, .inl (g 0, 6, .inl (fun _ => 0))), (q_5, .inl (g 0, 6, .inl (fun _ => 0))), (q_6, .inl (g 0, 6, .inl (fun _ => 0))), (q_7, .inl (g 0, 6, .inl (fun _ => 0))), (q_8, .inl (g 0, 6, .inl (fun _ => 0)))] rfl (fun H locs hT => ?_)
  refine lv_aload_n hx hb dX1_init_100 rfl (lv_at hl 0 rfl) ?_
  refine lv_bipush (v := 6) hx hb dX1_init_101 (by decide +kernel) ?_
  refine z_new0 C hT 0 6 (by decide +kernel) rfl (by decide +kernel) (by decide +kernel) (by decide +kernel) (Nat.le_of_ble_eq_true rfl) (Nat.le_of_ble_eq_true rfl) dX1_init_103 (fun q_9 H hT => ?_)
  have hT : Sit D (TY g) A s [(h0, .inr (1, [.int 5, .int 40, .int 8, .int 0, .int 0, .int 0, .ref q_1, .ref q_2, .ref q_3, .ref q_4, .ref q_5, .ref q_6, .ref q_7, .ref q_8, .null, .null])), (q_1, .inl (g 0, 6, .inl (fun _ => 0))), (q_2, .inl (g 0, 6, .inl (fun _ => 0))), (q_3, .inl (g 0, 6, .inl (fun _ => 0))), (q_4, .inl (g 0, 6, .inl (fun _ => 0))), (q_5, .inl (g 0, 6, .inl (fun _ => 0))), (q_6, .inl (g 0, 6, .inl (fun _ => 0))), (q_7, .inl (g 0, 6, .inl (fun _ => 0))), (q_8, .inl (g 0, 6, .inl (fun _ => 0))), (q_9, .inl (g 0, 6, .inl (fun _ => 0)))] H _ := hT
  refine z_putF C (ci := 1) (N := 16) rfl hin1 tyX1_ok nmX1 hT 0 14 rfl (Nat.le_of_ble_eq_true rfl) (by decide +kernel) (by decide +kernel) rfl hmn rfl rfl rfl dX1_init_105 [(h0, .inr (1, [.int 5, .int 40, .int 8, .int 0, .int 0, .int 0, .ref q_1, .ref q_2, .ref q_3, .ref q_4, .ref q_5, .ref q_6, .ref q_7, .ref q_8, .ref q_9, .null])), (q_1, .inl (g 0, 6, .inl (fun _ => 0))), (q_2, .inl (g 0, 6, .inl (fun _ => 0))), (q_3, .inl (g 0, 6, .inl (fun _ => 0))), (q_4, .inl (g 0, 6, .inl (fun _ => 0))), (q_5, .inl (g 0, 6, .inl (fun _ => 0))), (q_6, .inl (g 0, 6, .inl (fun _ => 0))), (q_7, .inl (g 0, 6, .inl (fun _ => 0))), (q_8, .inl (g 0, 6, .inl (fun _ => 0))), (q_9, .inl (g 0, 6, .inl (fun _ => 0)))] rfl (fun H locs hT => ?_)
  refine lv_aload_n hx hb dX1_init_108 rfl (lv_at hl 0 rfl) ?_
  refine lv_bipush (v := 6) hx hb dX1_init_109 (by decide +kernel) ?_
  refine z_new0 C hT 0 6 (by decide +kernel) rfl (by decide +kernel) (by decide +kernel) (by decide +kernel) (Nat.le_of_ble_eq_true rfl) (Nat.le_of_ble_eq_true rfl) dX1_init_111 (fun q_10 H hT => ?_)
  have hT : Sit D (TY g) A s [(h0, .inr (1, [.int 5, .int 40, .int 8, .int 0, .int 0, .int 0, .ref q_1, .ref q_2, .ref q_3, .ref q_4, .ref q_5, .ref q_6, .ref q_7, .ref q_8, .ref q_9, .null])), (q_1, .inl (g 0, 6, .inl (fun _ => 0))), (q_2, .inl (g 0, 6, .inl (fun _ => 0))), (q_3, .inl (g 0, 6, .inl (fun _ => 0))), (q_4, .inl (g 0, 6, .inl (fun _ => 0))), (q_5, .inl (g 0, 6, .inl (fun _ => 0))), (q_6, .inl (g 0, 6, .inl (fun _ => 0))), (q_7, .inl (g 0, 6, .inl (fun _ => 0))), (q_8, .inl (g 0, 6, .inl (fun _ => 0))), (q_9, .inl (g 0, 6, .inl (fun _ => 0))), (q_10, .inl (g 0, 6, .inl (fun _ => 0)))] H _ := hT
  refine z_putF C (ci := 1) (N := 16) rfl hin1 tyX1_ok nmX1 hT 0 15 rfl (Nat.le_of_ble_eq_true rfl) (by decide +kernel) (by decide +kernel) rfl hmn rfl rfl rfl dX1_init_113 [(h0, .inr (1, [.int 5, .int 40, .int 8, .int 0, .int 0, .int 0, .ref q_1, .ref q_2, .ref q_3, .ref q_4, .ref q_5, .ref q_6, .ref q_7, .ref q_8, .ref q_9, .ref q_10])), (q_1, .inl (g 0, 6, .inl (fun _ => 0))), (q_2, .inl (g 0, 6, .inl (fun _ => 0))), (q_3, .inl (g 0, 6, .inl (fun _ => 0))), (q_4, .inl (g 0, 6, .inl (fun _ => 0))), (q_5, .inl (g 0, 6, .inl (fun _ => 0))), (q_6, .inl (g 0, 6, .inl (fun _ => 0))), (q_7, .inl (g 0, 6, .inl (fun _ => 0))), (q_8, .inl (g 0, 6, .inl (fun _ => 0))), (q_9, .inl (g 0, 6, .inl (fun _ => 0))), (q_10, .inl (g 0, 6, .inl (fun _ => 0)))] rfl (fun H locs hT => ?_)
  exact z_vret C rfl hT (fun k => ([q_1, q_2, q_3, q_4, q_5, q_6, q_7, q_8, q_9, q_10] : List Nat).getD k 0) trivial [0, 1, 2, 3, 4, 5, 6, 7, 8, 9] rfl rfl (Nat.le_of_ble_eq_true rfl) (Nat.le_of_ble_eq_true rfl) dX1_init_116

set_option maxHeartbeats 4000000 in
set_option maxRecDepth 100000 in
/-- Kept() -/
theorem c_Kept_init (l : Launch) (D : va_G) (g : Nat → ClassId) (h0 : Nat) : CtV l yX2_init wsX2_init { frames := 2, cells := 13, slots := 238, locals := 32 } D (TY g) [.ref h0] Ev [(h0, .inr (2, [.null, .null, .int 0]))] (fun _ : Nat → Nat => True) (fun u => [(h0, .inr (2, [.ref (u 0), .ref (u 1), .int 0])), ((u 0), .inr (1, [.int 5, .int 40, .int 8, .int 0, .int 0, .int 0, .ref (u 2), .ref (u 3), .ref (u 4), .ref (u 5), .ref (u 6), .ref (u 7), .ref (u 8), .ref (u 9), .ref (u 10), .ref (u 11)])), ((u 2), .inl (g 0, 6, .inl (fun _ => 0))), ((u 3), .inl (g 0, 6, .inl (fun _ => 0))), ((u 4), .inl (g 0, 6, .inl (fun _ => 0))), ((u 5), .inl (g 0, 6, .inl (fun _ => 0))), ((u 6), .inl (g 0, 6, .inl (fun _ => 0))), ((u 7), .inl (g 0, 6, .inl (fun _ => 0))), ((u 8), .inl (g 0, 6, .inl (fun _ => 0))), ((u 9), .inl (g 0, 6, .inl (fun _ => 0))), ((u 10), .inl (g 0, 6, .inl (fun _ => 0))), ((u 1), .inr (6, [.ref (u 12), .int 0])), ((u 12), .inl (g 0, 160, .inl (fun _ => 0)))]) := by
  refine CtV.intro (cc := cX2_init) (maxL := 1) (ret := none) rfl (by decide +kernel) (Nat.le_of_ble_eq_true rfl) ?_
  intro p e s m below meth c A ls C hmn hX hAe hT hl
  have hx := C.1.1
  have hb := C.1.2.1
  have hl : lv_has ls 1 [(0, .ref h0)] := hl
  have hin1 : ∀ w ∈ u_ws RX1 TX1 16, w ∈ wsX2_init := by decide +kernel
  have hin2 : ∀ w ∈ u_ws RX2 TX2 3, w ∈ wsX2_init := by decide +kernel
  have hin6 : ∀ w ∈ u_ws RX6 TX6 2, w ∈ wsX2_init := by decide +kernel
  refine lv_aload_n hx hb dX2_init_0 rfl (lv_at hl 0 rfl) ?_
  refine z_objInit C (by decide +kernel) (by decide +kernel) (by decide +kernel) hl.1 dX2_init_1 (Nat.le_of_ble_eq_true rfl) (Nat.le_of_ble_eq_true rfl) ?_
  refine lv_aload_n hx hb dX2_init_4 rfl (lv_at hl 0 rfl) ?_
  refine z_new C (ci := 1) (N := 16) rfl hin1 tyX1_ok hT [.int 0, .int 0, .int 0, .int 0, .int 0, .int 0, .null, .null, .null, .null, .null, .null, .null, .null, .null, .null] (by decide +kernel) (by decide +kernel) (by decide +kernel) (by decide +kernel) (Nat.le_of_ble_eq_true rfl) (Nat.le_of_ble_eq_true rfl) dX2_init_5 (fun q_1 H hT => ?_)
  have hT : Sit D (TY g) A s [(h0, .inr (2, [.null, .null, .int 0])), (q_1, .inr (1, [.int 0, .int 0, .int 0, .int 0, .int 0, .int 0, .null, .null, .null, .null, .null, .null, .null, .null, .null, .null]))] H _ := hT
  refine lv_dup hx hb dX2_init_8 rfl ?_
  refine z_callIN (wr := [(h0, .inr (2, [.null, .null, .int 0]))]) C (c_Hall_init l D g q_1) gX2_init_X1_init_n9 rfl (hX.nw 7 rfl) (by decide +kernel) (by decide +kernel) rfl (by decide +kernel) ⟨Nat.le_of_ble_eq_true rfl, Nat.le_of_ble_eq_true rfl⟩ ⟨Nat.le_of_ble_eq_true rfl, Nat.le_of_ble_eq_true rfl⟩ blind_T (fun _ _ _ => trivial) hT [1] [0] rfl rfl rfl rfl rfl rfl hl.1 rfl (Nat.le_of_ble_eq_true rfl) dX2_init_9 (fun u_2 H locs hp_3 hT => ?_)
  have hT : Sit D (TY g) A s [(h0, .inr (2, [.null, .null, .int 0])), (q_1, .inr (1, [.int 5, .int 40, .int 8, .int 0, .int 0, .int 0, .ref (u_2 0), .ref (u_2 1), .ref (u_2 2), .ref (u_2 3), .ref (u_2 4), .ref (u_2 5), .ref (u_2 6), .ref (u_2 7), .ref (u_2 8), .ref (u_2 9)])), ((u_2 0), .inl (g 0, 6, .inl (fun _ => 0))), ((u_2 1), .inl (g 0, 6, .inl (fun _ => 0))), ((u_2 2), .inl (g 0, 6, .inl (fun _ => 0))), ((u_2 3), .inl (g 0, 6, .inl (fun _ => 0))), ((u_2 4), .inl (g 0, 6, .inl (fun _ => 0))), ((u_2 5), .inl (g 0, 6, .inl (fun _ => 0))), ((u_2 6), .inl (g 0, 6, .inl (fun _ => 0))), ((u_2 7), .inl (g 0, 6, .inl (fun _ => 0))), ((u_2 8), .inl (g 0, 6, .inl (fun _ => 0)))] H _ := hT
  refine z_putF C (ci := 2) (N := 3) rfl hin2 tyX2_ok nmX2 hT 0 0 rfl (Nat.le_of_ble_eq_true rfl) (by decide +kernel) (by decide +kernel) rfl hmn rfl rfl rfl dX2_init_12 [(h0, .inr (2, [.ref q_1, .null, .int 0])), (q_1, .inr (1, [.int 5, .int 40, .int 8, .int 0, .int 0, .int 0, .ref (u_2 0), .ref (u_2 1), .ref (u_2 2), .ref (u_2 3), .ref (u_2 4), .ref (u_2 5), .ref (u_2 6), .ref (u_2 7), .ref (u_2 8), .ref (u_2 9)])), ((u_2 0), .inl (g 0, 6, .inl (fun _ => 0))), ((u_2 1), .inl (g 0, 6, .inl (fun _ => 0))), ((u_2 2), .inl (g 0, 6, .inl (fun _ => 0))), ((u_2 3), .inl (g 0, 6, .inl (fun _ => 0))), ((u_2 4), .inl (g 0, 6, .inl (fun _ => 0))), ((u_2 5), .inl (g 0, 6, .inl (fun _ => 0))), ((u_2 6), .inl (g 0, 6, .inl (fun _ => 0))), ((u_2 7), .inl (g 0, 6, .inl (fun _ => 0))), ((u_2 8), .inl (g 0, 6, .inl (fun _ => 0)))] rfl (fun H locs hT => ?_)
  refine lv_aload_n hx hb dX2_init_15 rfl (lv_at hl 0 rfl) ?_
  refine z_new C (ci := 6) (N := 2) rfl hin6 tyX6_ok hT [.null, .int 0] (by decide +kernel) (by decide +kernel) (by decide +kernel) (by decide +kernel) (Nat.le_of_ble_eq_true rfl) (Nat.le_of_ble_eq_true rfl) dX2_init_16 (fun q_4 H hT => ?_)
  have hT : Sit D (TY g) A s [(h0, .inr (2, [.ref q_1, .null, .int 0])), (q_1, .inr (1, [.int 5, .int 40, .int 8, .int 0, .int 0, .int 0, .ref (u_2 0), .ref (u_2 1), .ref (u_2 2), .ref (u_2 3), .ref (u_2 4), .ref (u_2 5), .ref (u_2 6), .ref (u_2 7), .ref (u_2 8), .ref (u_2 9)])), ((u_2 0), .inl (g 0, 6, .inl (fun _ => 0))), ((u_2 1), .inl (g 0, 6, .inl (fun _ => 0))), ((u_2 2), .inl (g 0, 6, .inl (fun _ => 0))), ((u_2 3), .inl (g 0, 6, .inl (fun _ => 0))), ((u_2 4), .inl (g 0, 6, .inl (fun _ => 0))), ((u_2 5), .inl (g 0, 6, .inl (fun _ => 0))), ((u_2 6), .inl (g 0, 6, .inl (fun _ => 0))), ((u_2 7), .inl (g 0, 6, .inl (fun _ => 0))), ((u_2 8), .inl (g 0, 6, .inl (fun _ => 0))), (q_4, .inr (6, [.null, .int 0]))] H _ := hT
  refine lv_dup hx hb dX2_init_19 rfl ?_
  refine z_callIN (wr := [(h0, .inr (2, [.ref q_1, .null, .int 0])), (q_1, .inr (1, [.int 5, .int 40, .int 8, .int 0, .int 0, .int 0, .ref (u_2 0), .ref (u_2 1), .ref (u_2 2), .ref (u_2 3), .ref (u_2 4), .ref (u_2 5), .ref (u_2 6), .ref (u_2 7), .ref (u_2 8), .ref (u_2 9)])), ((u_2 0), .inl (g 0, 6, .inl (fun _ => 0))), ((u_2 1), .inl (g 0, 6, .inl (fun _ => 0))), ((u_2 2), .inl (g 0, 6, .inl (fun _ => 0))), ((u_2 3), .inl (g 0, 6, .inl (fun _ => 0))), ((u_2 4), .inl (g 0, 6, .inl (fun _ => 0))), ((u_2 5), .inl (g 0, 6, .inl (fun _ => 0))), ((u_2 6), .inl (g 0, 6, .inl (fun _ => 0))), ((u_2 7), .inl (g 0, 6, .inl (fun _ => 0))), ((u_2 8), .inl (g 0, 6, .inl (fun _ => 0)))]) C (c_Text_init l D g q_4) gX2_init_X6_init_n18 rfl (hX.nw 8 rfl) (by decide +kernel) (by decide +kernel) rfl (by decide +kernel) ⟨Nat.le_of_ble_eq_true rfl, Nat.le_of_ble_eq_true rfl⟩ ⟨Nat.le_of_ble_eq_true rfl, Nat.le_of_ble_eq_true rfl⟩ blind_T (fun _ _ _ => trivial) hT [11] [0, 1, 2, 3, 4, 5, 6, 7, 8, 9, 10] rfl rfl rfl rfl rfl rfl hl.1 rfl (Nat.le_of_ble_eq_true rfl) dX2_init_20 (fun u_5 H locs hp_6 hT => ?_)
  have hT : Sit D (TY g) A s [(h0, .inr (2, [.ref q_1, .null, .int 0])), (q_1, .inr (1, [.int 5, .int 40, .int 8, .int 0, .int 0, .int 0, .ref (u_2 0), .ref (u_2 1), .ref (u_2 2), .ref (u_2 3), .ref (u_2 4), .ref (u_2 5), .ref (u_2 6), .ref (u_2 7), .ref (u_2 8), .ref (u_2 9)])), ((u_2 0), .inl (g 0, 6, .inl (fun _ => 0))), ((u_2 1), .inl (g 0, 6, .inl (fun _ => 0))), ((u_2 2), .inl (g 0, 6, .inl (fun _ => 0))), ((u_2 3), .inl (g 0, 6, .inl (fun _ => 0))), ((u_2 4), .inl (g 0, 6, .inl (fun _ => 0))), ((u_2 5), .inl (g 0, 6, .inl (fun _ => 0))), ((u_2 6), .inl (g 0, 6, .inl (fun _ => 0))), ((u_2 7), .inl (g 0, 6, .inl (fun _ => 0))), ((u_2 8), .inl (g 0, 6, .inl (fun _ => 0))), (q_4, .inr (6, [.ref (u_5 0), .int 0])), ((u_5 0), .inl (g 0, 160, .inl (fun _ => 0)))] H _ := hT
  refine z_putF C (ci := 2) (N := 3) rfl hin2 tyX2_ok nmX2 hT 0 1 rfl (Nat.le_of_ble_eq_true rfl) (by decide +kernel) (by decide +kernel) rfl hmn rfl rfl rfl dX2_init_23 [(h0, .inr (2, [.ref q_1, .ref q_4, .int 0])), (q_1, .inr (1, [.int 5, .int 40, .int 8, .int 0, .int 0, .int 0, .ref (u_2 0), .ref (u_2 1), .ref (u_2 2), .ref (u_2 3), .ref (u_2 4), .ref (u_2 5), .ref (u_2 6), .ref (u_2 7), .ref (u_2 8), .ref (u_2 9)])), ((u_2 0), .inl (g 0, 6, .inl (fun _ => 0))), ((u_2 1), .inl (g 0, 6, .inl (fun _ => 0))), ((u_2 2), .inl (g 0, 6, .inl (fun _ => 0))), ((u_2 3), .inl (g 0, 6, .inl (fun _ => 0))), ((u_2 4), .inl (g 0, 6, .inl (fun _ => 0))), ((u_2 5), .inl (g 0, 6, .inl (fun _ => 0))), ((u_2 6), .inl (g 0, 6, .inl (fun _ => 0))), ((u_2 7), .inl (g 0, 6, .inl (fun _ => 0))), ((u_2 8), .inl (g 0, 6, .inl (fun _ => 0))), (q_4, .inr (6, [.ref (u_5 0), .int 0])), ((u_5 0), .inl (g 0, 160, .inl (fun _ => 0)))] rfl (fun H locs hT => ?_)
  refine lv_aload_n hx hb dX2_init_26 rfl (lv_at hl 0 rfl) ?_
  refine lv_iconst (v := 0) hx hb dX2_init_27 (by decide +kernel) ?_
  refine z_put C (ci := 2) (N := 3) rfl hin2 tyX2_ok nmX2 hT 0 2 rfl (Nat.le_of_ble_eq_true rfl) (by decide +kernel) (by decide +kernel) rfl rfl rfl dX2_init_28 [(h0, .inr (2, [.ref q_1, .ref q_4, .int 0])), (q_1, .inr (1, [.int 5, .int 40, .int 8, .int 0, .int 0, .int 0, .ref (u_2 0), .ref (u_2 1), .ref (u_2 2), .ref (u_2 3), .ref (u_2 4), .ref (u_2 5), .ref (u_2 6), .ref (u_2 7), .ref (u_2 8), .ref (u_2 9)])), ((u_2 0), .inl (g 0, 6, .inl (fun _ => 0))), ((u_2 1), .inl (g 0, 6, .inl (fun _ => 0))), ((u_2 2), .inl (g 0, 6, .inl (fun _ => 0))), ((u_2 3), .inl (g 0, 6, .inl (fun _ => 0))), ((u_2 4), .inl (g 0, 6, .inl (fun _ => 0))), ((u_2 5), .inl (g 0, 6, .inl (fun _ => 0))), ((u_2 6), .inl (g 0, 6, .inl (fun _ => 0))), ((u_2 7), .inl (g 0, 6, .inl (fun _ => 0))), ((u_2 8), .inl (g 0, 6, .inl (fun _ => 0))), (q_4, .inr (6, [.ref (u_5 0), .int 0])), ((u_5 0), .inl (g 0, 160, .inl (fun _ => 0)))] rfl (fun H locs hT => ?_)
  exact z_vret C rfl hT (fun k => ([q_1, q_4, (u_2 0), (u_2 1), (u_2 2), (u_2 3), (u_2 4), (u_2 5), (u_2 6), (u_2 7), (u_2 8), (u_2 9), (u_5 0)] : List Nat).getD k 0) trivial [0, 1, 2, 3, 4, 5, 6, 7, 8, 9, 10, 11, 12] rfl rfl (Nat.le_of_ble_eq_true rfl) (Nat.le_of_ble_eq_true rfl) dX2_init_31

set_option maxHeartbeats 4000000 in
set_option maxRecDepth 100000 in
/-- Reader() -/
theorem c_Reader_init (l : Launch) (D : va_G) (g : Nat → ClassId) (h0 : Nat) : CtV l yX4_init wsX4_init { frames := 2, cells := 11, slots := 76, locals := 32 } D (TY g) [.ref h0] Ev [(h0, .inr (4, [.null, .int 0, .int 0, .int 0, .int 0]))] (fun _ : Nat → Nat => True) (fun u => [(h0, .inr (4, [.ref (u 0), .int 0, .int 0, .int 0, .int 0])), ((u 0), .inr (1, [.int 5, .int 40, .int 8, .int 0, .int 0, .int 0, .ref (u 1), .ref (u 2), .ref (u 3), .ref (u 4), .ref (u 5), .ref (u 6), .ref (u 7), .ref (u 8), .ref (u 9), .ref (u 10)])), ((u 1), .inl (g 0, 6, .inl (fun _ => 0))), ((u 2), .inl (g 0, 6, .inl (fun _ => 0))), ((u 3), .inl (g 0, 6, .inl (fun _ => 0))), ((u 4), .inl (g 0, 6, .inl (fun _ => 0))), ((u 5), .inl (g 0, 6, .inl (fun _ => 0))), ((u 6), .inl (g 0, 6, .inl (fun _ => 0))), ((u 7), .inl (g 0, 6, .inl (fun _ => 0))), ((u 8), .inl (g 0, 6, .inl (fun _ => 0))), ((u 9), .inl (g 0, 6, .inl (fun _ => 0)))]) := by
  refine CtV.intro (cc := cX4_init) (maxL := 1) (ret := none) rfl (by decide +kernel) (Nat.le_of_ble_eq_true rfl) ?_
  intro p e s m below meth c A ls C hmn hX hAe hT hl
  have hx := C.1.1
  have hb := C.1.2.1
  have hl : lv_has ls 1 [(0, .ref h0)] := hl
  have hin1 : ∀ w ∈ u_ws RX1 TX1 16, w ∈ wsX4_init := by decide +kernel
  have hin4 : ∀ w ∈ u_ws RX4 TX4 5, w ∈ wsX4_init := by decide +kernel
  refine lv_aload_n hx hb dX4_init_0 rfl (lv_at hl 0 rfl) ?_
  refine z_objInit C (by decide +kernel) (by decide +kernel) (by decide +kernel) hl.1 dX4_init_1 (Nat.le_of_ble_eq_true rfl) (Nat.le_of_ble_eq_true rfl) ?_
  refine lv_aload_n hx hb dX4_init_4 rfl (lv_at hl 0 rfl) ?_
  refine z_new C (ci := 1) (N := 16) rfl hin1 tyX1_ok hT [.int 0, .int 0, .int 0, .int 0, .int 0, .int 0, .null, .null, .null, .null, .null, .null, .null, .null, .null, .null] (by decide +kernel) (by decide +kernel) (by decide +kernel) (by decide +kernel) (Nat.le_of_ble_eq_true rfl) (Nat.le_of_ble_eq_true rfl) dX4_init_5 (fun q_1 H hT => ?_)
  have hT : Sit D (TY g) A s [(h0, .inr (4, [.null, .int 0, .int 0, .int 0, .int 0])), (q_1, .inr (1, [.int 0, .int 0, .int 0, .int 0, .int 0, .int 0, .null, .null, .null, .null, .null, .null, .null, .null, .null, .null]))] H _ := hT
  refine lv_dup hx hb dX4_init_8 rfl ?_
  refine z_callIN (wr := [(h0, .inr (4, [.null, .int 0, .int 0, .int 0, .int 0]))]) C (c_Hall_init l D g q_1) gX4_init_X1_init_n11 rfl (hX.nw 10 rfl) (by decide +kernel) (by decide +kernel) rfl (by decide +kernel) ⟨Nat.le_of_ble_eq_true rfl, Nat.le_of_ble_eq_true rfl⟩ ⟨Nat.le_of_ble_eq_true rfl, Nat.le_of_ble_eq_true rfl⟩ blind_T (fun _ _ _ => trivial) hT [1] [0] rfl rfl rfl rfl rfl rfl hl.1 rfl (Nat.le_of_ble_eq_true rfl) dX4_init_9 (fun u_2 H locs hp_3 hT => ?_)
  have hT : Sit D (TY g) A s [(h0, .inr (4, [.null, .int 0, .int 0, .int 0, .int 0])), (q_1, .inr (1, [.int 5, .int 40, .int 8, .int 0, .int 0, .int 0, .ref (u_2 0), .ref (u_2 1), .ref (u_2 2), .ref (u_2 3), .ref (u_2 4), .ref (u_2 5), .ref (u_2 6), .ref (u_2 7), .ref (u_2 8), .ref (u_2 9)])), ((u_2 0), .inl (g 0, 6, .inl (fun _ => 0))), ((u_2 1), .inl (g 0, 6, .inl (fun _ => 0))), ((u_2 2), .inl (g 0, 6, .inl (fun _ => 0))), ((u_2 3), .inl (g 0, 6, .inl (fun _ => 0))), ((u_2 4), .inl (g 0, 6, .inl (fun _ => 0))), ((u_2 5), .inl (g 0, 6, .inl (fun _ => 0))), ((u_2 6), .inl (g 0, 6, .inl (fun _ => 0))), ((u_2 7), .inl (g 0, 6, .inl (fun _ => 0))), ((u_2 8), .inl (g 0, 6, .inl (fun _ => 0)))] H _ := hT
  refine z_putF C (ci := 4) (N := 5) rfl hin4 tyX4_ok nmX4 hT 0 0 rfl (Nat.le_of_ble_eq_true rfl) (by decide +kernel) (by decide +kernel) rfl hmn rfl rfl rfl dX4_init_12 [(h0, .inr (4, [.ref q_1, .int 0, .int 0, .int 0, .int 0])), (q_1, .inr (1, [.int 5, .int 40, .int 8, .int 0, .int 0, .int 0, .ref (u_2 0), .ref (u_2 1), .ref (u_2 2), .ref (u_2 3), .ref (u_2 4), .ref (u_2 5), .ref (u_2 6), .ref (u_2 7), .ref (u_2 8), .ref (u_2 9)])), ((u_2 0), .inl (g 0, 6, .inl (fun _ => 0))), ((u_2 1), .inl (g 0, 6, .inl (fun _ => 0))), ((u_2 2), .inl (g 0, 6, .inl (fun _ => 0))), ((u_2 3), .inl (g 0, 6, .inl (fun _ => 0))), ((u_2 4), .inl (g 0, 6, .inl (fun _ => 0))), ((u_2 5), .inl (g 0, 6, .inl (fun _ => 0))), ((u_2 6), .inl (g 0, 6, .inl (fun _ => 0))), ((u_2 7), .inl (g 0, 6, .inl (fun _ => 0))), ((u_2 8), .inl (g 0, 6, .inl (fun _ => 0)))] rfl (fun H locs hT => ?_)
  refine lv_aload_n hx hb dX4_init_15 rfl (lv_at hl 0 rfl) ?_
  refine lv_iconst (v := 0) hx hb dX4_init_16 (by decide +kernel) ?_
  refine z_put C (ci := 4) (N := 5) rfl hin4 tyX4_ok nmX4 hT 0 1 rfl (Nat.le_of_ble_eq_true rfl) (by decide +kernel) (by decide +kernel) rfl rfl rfl dX4_init_17 [(h0, .inr (4, [.ref q_1, .int 0, .int 0, .int 0, .int 0])), (q_1, .inr (1, [.int 5, .int 40, .int 8, .int 0, .int 0, .int 0, .ref (u_2 0), .ref (u_2 1), .ref (u_2 2), .ref (u_2 3), .ref (u_2 4), .ref (u_2 5), .ref (u_2 6), .ref (u_2 7), .ref (u_2 8), .ref (u_2 9)])), ((u_2 0), .inl (g 0, 6, .inl (fun _ => 0))), ((u_2 1), .inl (g 0, 6, .inl (fun _ => 0))), ((u_2 2), .inl (g 0, 6, .inl (fun _ => 0))), ((u_2 3), .inl (g 0, 6, .inl (fun _ => 0))), ((u_2 4), .inl (g 0, 6, .inl (fun _ => 0))), ((u_2 5), .inl (g 0, 6, .inl (fun _ => 0))), ((u_2 6), .inl (g 0, 6, .inl (fun _ => 0))), ((u_2 7), .inl (g 0, 6, .inl (fun _ => 0))), ((u_2 8), .inl (g 0, 6, .inl (fun _ => 0)))] rfl (fun H locs hT => ?_)
  refine lv_aload_n hx hb dX4_init_20 rfl (lv_at hl 0 rfl) ?_
  refine lv_iconst (v := 0) hx hb dX4_init_21 (by decide +kernel) ?_
  refine z_put C (ci := 4) (N := 5) rfl hin4 tyX4_ok nmX4 hT 0 2 rfl (Nat.le_of_ble_eq_true rfl) (by decide +kernel) (by decide +kernel) rfl rfl rfl dX4_init_22 [(h0, .inr (4, [.ref q_1, .int 0, .int 0, .int 0, .int 0])), (q_1, .inr (1, [.int 5, .int 40, .int 8, .int 0, .int 0, .int 0, .ref (u_2 0), .ref (u_2 1), .ref (u_2 2), .ref (u_2 3), .ref (u_2 4), .ref (u_2 5), .ref (u_2 6), .ref (u_2 7), .ref (u_2 8), .ref (u_2 9)])), ((u_2 0), .inl (g 0, 6, .inl (fun _ => 0))), ((u_2 1), .inl (g 0, 6, .inl (fun _ => 0))), ((u_2 2), .inl (g 0, 6, .inl (fun _ => 0))), ((u_2 3), .inl (g 0, 6, .inl (fun _ => 0))), ((u_2 4), .inl (g 0, 6, .inl (fun _ => 0))), ((u_2 5), .inl (g 0, 6, .inl (fun _ => 0))), ((u_2 6), .inl (g 0, 6, .inl (fun _ => 0))), ((u_2 7), .inl (g 0, 6, .inl (fun _ => 0))), ((u_2 8), .inl (g 0, 6, .inl (fun _ => 0)))] rfl (fun H locs hT => ?_)
  refine lv_aload_n hx hb dX4_init_25 rfl (lv_at hl 0 rfl) ?_
  refine lv_iconst (v := 0) hx hb dX4_init_26 (by decide +kernel) ?_
  refine z_put C (ci := 4) (N := 5) rfl hin4 tyX4_ok nmX4 hT 0 3 rfl (Nat.le_of_ble_eq_true rfl) (by decide +kernel) (by decide +kernel) rfl rfl rfl dX4_init_27 [(h0, .inr (4, [.ref q_1, .int 0, .int 0, .int 0, .int 0])), (q_1, .inr (1, [.int 5, .int 40, .int 8, .int 0, .int 0, .int 0, .ref (u_2 0), .ref (u_2 1), .ref (u_2 2), .ref (u_2 3), .ref (u_2 4), .ref (u_2 5), .ref (u_2 6), .ref (u_2 7), .ref (u_2 8), .ref (u_2 9)])), ((u_2 0), .inl (g 0, 6, .inl (fun _ => 0))), ((u_2 1), .inl (g 0, 6, .inl (fun _ => 0))), ((u_2 2), .inl (g 0, 6, .inl (fun _ => 0))), ((u_2 3), .inl (g 0, 6, .inl (fun _ => 0))), ((u_2 4), .inl (g 0, 6, .inl (fun _ => 0))), ((u_2 5), .inl (g 0, 6, .inl (fun _ => 0))), ((u_2 6), .inl (g 0, 6, .inl (fun _ => 0))), ((u_2 7), .inl (g 0, 6, .inl (fun _ => 0))), ((u_2 8), .inl (g 0, 6, .inl (fun _ => 0)))] rfl (fun H locs hT => ?_)
  refine lv_aload_n hx hb dX4_init_30 rfl (lv_at hl 0 rfl) ?_
  refine lv_iconst (v := 0) hx hb dX4_init_31 (by decide +kernel) ?_
  refine z_put C (ci := 4) (N := 5) rfl hin4 tyX4_ok nmX4 hT 0 4 rfl (Nat.le_of_ble_eq_true rfl) (by decide +kernel) (by decide +kernel) rfl rfl rfl dX4_init_32 [(h0, .inr (4, [.ref q_1, .int 0, .int 0, .int 0, .int 0])), (q_1, .inr (1, [.int 5, .int 40, .int 8, .int 0, .int 0, .int 0, .ref (u_2 0), .ref (u_2 1), .ref (u_2 2), .ref (u_2 3), .ref (u_2 4), .ref (u_2 5), .ref (u_2 6), .ref (u_2 7), .ref (u_2 8), .ref (u_2 9)])), ((u_2 0), .inl (g 0, 6, .inl (fun _ => 0))), ((u_2 1), .inl (g 0, 6, .inl (fun _ => 0))), ((u_2 2), .inl (g 0, 6, .inl (fun _ => 0))), ((u_2 3), .inl (g 0, 6, .inl (fun _ => 0))), ((u_2 4), .inl (g 0, 6, .inl (fun _ => 0))), ((u_2 5), .inl (g 0, 6, .inl (fun _ => 0))), ((u_2 6), .inl (g 0, 6, .inl (fun _ => 0))), ((u_2 7), .inl (g 0, 6, .inl (fun _ => 0))), ((u_2 8), .inl (g 0, 6, .inl (fun _ => 0)))] rfl (fun H locs hT => ?_)
  exact z_vret C rfl hT (fun k => ([q_1, (u_2 0), (u_2 1), (u_2 2), (u_2 3), (u_2 4), (u_2 5), (u_2 6), (u_2 7), (u_2 8), (u_2 9)] : List Nat).getD k 0) trivial [0, 1, 2, 3, 4, 5, 6, 7, 8, 9, 10] rfl rfl (Nat.le_of_ble_eq_true rfl) (Nat.le_of_ble_eq_true rfl) dX4_init_35

set_option maxHeartbeats 4000000 in
set_option maxRecDepth 100000 in
/-- Past(): eight halls, the first one told -/
theorem c_Past_init (l : Launch) (D : va_G) (g : Nat → ClassId) (h0 : Nat) : CtV l yX3_init wsX3_init { frames := 2, cells := 89, slots := 616, locals := 32 } D (TY g) [.ref h0] Ev [(h0, .inr (3, [.null, .int 0, .int 0]))] (fun z : (Nat → Nat) × (Nat → Option Nat) => z.2 0 = some (z.1 1)) (fun z : (Nat → Nat) × (Nat → Option Nat) => [(h0, .inr (3, [.ref (z.1 0), .int 0, .int 0])), (z.1 0, .inl (g 2, 8, .inr (.inr (.inr (.inr z.2))))), ((z.1 1), .inr (1, [.int 5, .int 40, .int 8, .int 0, .int 0, .int 0, .ref (z.1 2), .ref (z.1 3), .ref (z.1 4), .ref (z.1 5), .ref (z.1 6), .ref (z.1 7), .ref (z.1 8), .ref (z.1 9), .ref (z.1 10), .ref (z.1 11)])), ((z.1 2), .inl (g 0, 6, .inl (fun _ => 0))), ((z.1 3), .inl (g 0, 6, .inl (fun _ => 0))), ((z.1 4), .inl (g 0, 6, .inl (fun _ => 0))), ((z.1 5), .inl (g 0, 6, .inl (fun _ => 0))), ((z.1 6), .inl (g 0, 6, .inl (fun _ => 0))), ((z.1 7), .inl (g 0, 6, .inl (fun _ => 0))), ((z.1 8), .inl (g 0, 6, .inl (fun _ => 0))), ((z.1 9), .inl (g 0, 6, .inl (fun _ => 0))), ((z.1 10), .inl (g 0, 6, .inl (fun _ => 0)))]) := by
  refine CtV.intro (cc := cX3_init) (maxL := 2) (ret := none) rfl (by decide +kernel) (Nat.le_of_ble_eq_true rfl) ?_
  intro p e s m below meth c A ls C hmn hX hAe hT hl
  have hx := C.1.1
  have hb := C.1.2.1
  have hl : lv_has ls 2 [(0, .ref h0)] := hl
  have hin1 : ∀ w ∈ u_ws RX1 TX1 16, w ∈ wsX3_init := by decide +kernel
  have hin3 : ∀ w ∈ u_ws RX3 TX3 3, w ∈ wsX3_init := by decide +kernel
  refine lv_aload_n hx hb dX3_init_0 rfl (lv_at hl 0 rfl) ?_
  refine z_objInit C (by decide +kernel) (by decide +kernel) (by decide +kernel) hl.1 dX3_init_1 (Nat.le_of_ble_eq_true rfl) (Nat.le_of_ble_eq_true rfl) ?_
  refine lv_aload_n hx hb dX3_init_4 rfl (lv_at hl 0 rfl) ?_
  refine lv_bipush (v := 8) hx hb dX3_init_5 (by decide +kernel) ?_
  refine z_newq C hT 2 (by decide +kernel) hX.1 rfl (by decide +kernel) (N' := 8) (by decide +kernel) (by decide +kernel) (Nat.le_of_ble_eq_true rfl) (Nat.le_of_ble_eq_true rfl) dX3_init_7 (fun q_1 H hT => ?_)
  have hT : Sit D (TY g) A s [(h0, .inr (3, [.null, .int 0, .int 0])), (q_1, .inl (g 2, 8, .inr (.inr (.inr (.inr (fun _ => none))))))] H _ := hT
  refine z_putF C (ci := 3) (N := 3) rfl hin3 tyX3_ok nmX3 hT 0 0 rfl (Nat.le_of_ble_eq_true rfl) (by decide +kernel) (by decide +kernel) rfl hmn rfl rfl rfl dX3_init_10 [(h0, .inr (3, [.ref q_1, .int 0, .int 0])), (q_1, .inl (g 2, 8, .inr (.inr (.inr (.inr (fun _ => none))))))] rfl (fun H locs hT => ?_)
  refine lv_aload_n hx hb dX3_init_13 rfl (lv_at hl 0 rfl) ?_
  refine lv_iconst (v := 0) hx hb dX3_init_14 (by decide +kernel) ?_
  refine z_put C (ci := 3) (N := 3) rfl hin3 tyX3_ok nmX3 hT 0 1 rfl (Nat.le_of_ble_eq_true rfl) (by decide +kernel) (by decide +kernel) rfl rfl rfl dX3_init_15 [(h0, .inr (3, [.ref q_1, .int 0, .int 0])), (q_1, .inl (g 2, 8, .inr (.inr (.inr (.inr (fun _ => none))))))] rfl (fun H locs hT => ?_)
  refine lv_aload_n hx hb dX3_init_18 rfl (lv_at hl 0 rfl) ?_
  refine lv_iconst (v := 0) hx hb dX3_init_19 (by decide +kernel) ?_
  refine z_put C (ci := 3) (N := 3) rfl hin3 tyX3_ok nmX3 hT 0 2 rfl (Nat.le_of_ble_eq_true rfl) (by decide +kernel) (by decide +kernel) rfl rfl rfl dX3_init_20 [(h0, .inr (3, [.ref q_1, .int 0, .int 0])), (q_1, .inl (g 2, 8, .inr (.inr (.inr (.inr (fun _ => none))))))] rfl (fun H locs hT => ?_)
  refine lv_iconst (v := 0) hx hb dX3_init_23 (by decide +kernel) ?_
  refine lv_istore_n (lv' := [(1, .int 0), (0, .ref h0)]) hx hb dX3_init_24 rfl hl (by decide +kernel) rfl (fun ls hl => ?_)
  refine lv_iload_n hx hb dX3_init_25 rfl (lv_at hl 0 rfl) ?_
  refine lv_bipush (v := 8) hx hb dX3_init_26 (by decide +kernel) ?_
  refine lv_icmp_ge (tgt := 50) hx hb dX3_init_28 (by decide +kernel) (fun c9 => absurd c9 (by decide +kernel)) (fun _ => ?_)
  refine lv_aload_n hx hb dX3_init_31 rfl (lv_at hl 1 rfl) ?_
  refine z_get C (ci := 3) (N := 3) rfl hin3 hT 0 0 rfl rfl (by decide +kernel) (by decide +kernel) dX3_init_32 ?_
  refine lv_iload_n hx hb dX3_init_35 rfl (lv_at hl 0 rfl) ?_
  refine z_new C (ci := 1) (N := 16) rfl hin1 tyX1_ok hT [.int 0, .int 0, .int 0, .int 0, .int 0, .int 0, .null, .null, .null, .null, .null, .null, .null, .null, .null, .null] (by decide +kernel) (by decide +kernel) (by decide +kernel) (by decide +kernel) (Nat.le_of_ble_eq_true rfl) (Nat.le_of_ble_eq_true rfl) dX3_init_36 (fun q_2 H hT => ?_)
  have hT : Sit D (TY g) A s [(h0, .inr (3, [.ref q_1, .int 0, .int 0])), (q_1, .inl (g 2, 8, .inr (.inr (.inr (.inr (fun _ => none)))))), (q_2, .inr (1, [.int 0, .int 0, .int 0, .int 0, .int 0, .int 0, .null, .null, .null, .null, .null, .null, .null, .null, .null, .null]))] H _ := hT
  refine lv_dup hx hb dX3_init_39 rfl ?_
  refine z_callIN (wr := [(h0, .inr (3, [.ref q_1, .int 0, .int 0])), (q_1, .inl (g 2, 8, .inr (.inr (.inr (.inr (fun _ => none))))))]) C (c_Hall_init l D g q_2) gX3_init_X1_init_n24 rfl (hX.nw 9 rfl) (by decide +kernel) (by decide +kernel) rfl (by decide +kernel) ⟨Nat.le_of_ble_eq_true rfl, Nat.le_of_ble_eq_true rfl⟩ ⟨Nat.le_of_ble_eq_true rfl, Nat.le_of_ble_eq_true rfl⟩ blind_T (fun _ _ _ => trivial) hT [2] [0, 1] rfl rfl rfl rfl rfl rfl hl.1 rfl (Nat.le_of_ble_eq_true rfl) dX3_init_40 (fun u_3 H locs hp_4 hT => ?_)
  have hT : Sit D (TY g) A s [(h0, .inr (3, [.ref q_1, .int 0, .int 0])), (q_1, .inl (g 2, 8, .inr (.inr (.inr (.inr (fun _ => none)))))), (q_2, .inr (1, [.int 5, .int 40, .int 8, .int 0, .int 0, .int 0, .ref (u_3 0), .ref (u_3 1), .ref (u_3 2), .ref (u_3 3), .ref (u_3 4), .ref (u_3 5), .ref (u_3 6), .ref (u_3 7), .ref (u_3 8), .ref (u_3 9)])), ((u_3 0), .inl (g 0, 6, .inl (fun _ => 0))), ((u_3 1), .inl (g 0, 6, .inl (fun _ => 0))), ((u_3 2), .inl (g 0, 6, .inl (fun _ => 0))), ((u_3 3), .inl (g 0, 6, .inl (fun _ => 0))), ((u_3 4), .inl (g 0, 6, .inl (fun _ => 0))), ((u_3 5), .inl (g 0, 6, .inl (fun _ => 0))), ((u_3 6), .inl (g 0, 6, .inl (fun _ => 0))), ((u_3 7), .inl (g 0, 6, .inl (fun _ => 0))), ((u_3 8), .inl (g 0, 6, .inl (fun _ => 0)))] H _ := hT
  refine z_aast C hT 1 2 2 1 rfl rfl rfl rfl (vin rfl) dX3_init_43 (va_up (fun _ => none) 0 (some q_2)) rfl [(h0, .inr (3, [.ref q_1, .int 0, .int 0])), (q_1, .inl (g 2, 8, .inr (.inr (.inr (.inr (va_up (fun _ => none) 0 (some q_2))))))), (q_2, .inr (1, [.int 5, .int 40, .int 8, .int 0, .int 0, .int 0, .ref (u_3 0), .ref (u_3 1), .ref (u_3 2), .ref (u_3 3), .ref (u_3 4), .ref (u_3 5), .ref (u_3 6), .ref (u_3 7), .ref (u_3 8), .ref (u_3 9)])), ((u_3 0), .inl (g 0, 6, .inl (fun _ => 0))), ((u_3 1), .inl (g 0, 6, .inl (fun _ => 0))), ((u_3 2), .inl (g 0, 6, .inl (fun _ => 0))), ((u_3 3), .inl (g 0, 6, .inl (fun _ => 0))), ((u_3 4), .inl (g 0, 6, .inl (fun _ => 0))), ((u_3 5), .inl (g 0, 6, .inl (fun _ => 0))), ((u_3 6), .inl (g 0, 6, .inl (fun _ => 0))), ((u_3 7), .inl (g 0, 6, .inl (fun _ => 0))), ((u_3 8), .inl (g 0, 6, .inl (fun _ => 0)))] rfl (fun H locs hT => ?_)
  refine lv_iinc (v := 1) (lv' := [(1, .int 1), (0, .ref h0)]) hx hb dX3_init_44 hl (k := 0) rfl (by decide +kernel) (by decide +kernel) rfl (fun ls hl => ?_)
  refine lv_goto (tgt := 25) hx hb dX3_init_47 (by decide +kernel) ?_
  refine lv_iload_n hx hb dX3_init_25 rfl (lv_at hl 0 rfl) ?_
  refine lv_bipush (v := 8) hx hb dX3_init_26 (by decide +kernel) ?_
  refine lv_icmp_ge (tgt := 50) hx hb dX3_init_28 (by decide +kernel) (fun c9 => absurd c9 (by decide +kernel)) (fun _ => ?_)
  refine lv_aload_n hx hb dX3_init_31 rfl (lv_at hl 1 rfl) ?_
  refine z_get C (ci := 3) (N := 3) rfl hin3 hT 0 0 rfl rfl (by decide +kernel) (by decide +kernel) dX3_init_32 ?_
  refine lv_iload_n hx hb dX3_init_35 rfl (lv_at hl 0 rfl) ?_
  refine z_new C (ci := 1) (N := 16) rfl hin1 tyX1_ok hT [.int 0, .int 0, .int 0, .int 0, .int 0, .int 0, .null, .null, .null, .null, .null, .null, .null, .null, .null, .null] (by decide +kernel) (by decide +kernel) (by decide +kernel) (by decide +kernel) (Nat.le_of_ble_eq_true rfl) (Nat.le_of_ble_eq_true rfl) dX3_init_36 (fun q_5 H hT => ?_)
  have hT : Sit D (TY g) A s [(h0, .inr (3, [.ref q_1, .int 0, .int 0])), (q_1, .inl (g 2, 8, .inr (.inr (.inr (.inr (va_up (fun _ => none) 0 (some q_2))))))), (q_2, .inr (1, [.int 5, .int 40, .int 8, .int 0, .int 0, .int 0, .ref (u_3 0), .ref (u_3 1), .ref (u_3 2), .ref (u_3 3), .ref (u_3 4), .ref (u_3 5), .ref (u_3 6), .ref (u_3 7), .ref (u_3 8), .ref (u_3 9)])), ((u_3 0), .inl (g 0, 6, .inl (fun _ => 0))), ((u_3 1), .inl (g 0, 6, .inl (fun _ => 0))), ((u_3 2), .inl (g 0, 6, .inl (fun _ => 0))), ((u_3 3), .inl (g 0, 6, .inl (fun _ => 0))), ((u_3 4), .inl (g 0, 6, .inl (fun _ => 0))), ((u_3 5), .inl (g 0, 6, .inl (fun _ => 0))), ((u_3 6), .inl (g 0, 6, .inl (fun _ => 0))), ((u_3 7), .inl (g 0, 6, .inl (fun _ => 0))), ((u_3 8), .inl (g 0, 6, .inl (fun _ => 0))), (q_5, .inr (1, [.int 0, .int 0, .int 0, .int 0, .int 0, .int 0, .null, .null, .null, .null, .null, .null, .null, .null, .null, .null]))] H _ := hT
  refine lv_dup hx hb dX3_init_39 rfl ?_
  refine z_callIN (wr := [(h0, .inr (3, [.ref q_1, .int 0, .int 0])), (q_1, .inl (g 2, 8, .inr (.inr (.inr (.inr (va_up (fun _ => none) 0 (some q_2))))))), (q_2, .inr (1, [.int 5, .int 40, .int 8, .int 0, .int 0, .int 0, .ref (u_3 0), .ref (u_3 1), .ref (u_3 2), .ref (u_3 3), .ref (u_3 4), .ref (u_3 5), .ref (u_3 6), .ref (u_3 7), .ref (u_3 8), .ref (u_3 9)])), ((u_3 0), .inl (g 0, 6, .inl (fun _ => 0))), ((u_3 1), .inl (g 0, 6, .inl (fun _ => 0))), ((u_3 2), .inl (g 0, 6, .inl (fun _ => 0))), ((u_3 3), .inl (g 0, 6, .inl (fun _ => 0))), ((u_3 4), .inl (g 0, 6, .inl (fun _ => 0))), ((u_3 5), .inl (g 0, 6, .inl (fun _ => 0))), ((u_3 6), .inl (g 0, 6, .inl (fun _ => 0))), ((u_3 7), .inl (g 0, 6, .inl (fun _ => 0))), ((u_3 8), .inl (g 0, 6, .inl (fun _ => 0)))]) C (c_Hall_init l D g q_5) gX3_init_X1_init_n24 rfl (hX.nw 9 rfl) (by decide +kernel) (by decide +kernel) rfl (by decide +kernel) ⟨Nat.le_of_ble_eq_true rfl, Nat.le_of_ble_eq_true rfl⟩ ⟨Nat.le_of_ble_eq_true rfl, Nat.le_of_ble_eq_true rfl⟩ blind_T (fun _ _ _ => trivial) hT [12] [0, 1, 2, 3, 4, 5, 6, 7, 8, 9, 10, 11] rfl rfl rfl rfl rfl rfl hl.1 rfl (Nat.le_of_ble_eq_true rfl) dX3_init_40 (fun u_6 H locs hp_7 hT => ?_)
  have hT : Sit D (TY g) A s [(h0, .inr (3, [.ref q_1, .int 0, .int 0])), (q_1, .inl (g 2, 8, .inr (.inr (.inr (.inr (va_up (fun _ => none) 0 (some q_2))))))), (q_2, .inr (1, [.int 5, .int 40, .int 8, .int 0, .int 0, .int 0, .ref (u_3 0), .ref (u_3 1), .ref (u_3 2), .ref (u_3 3), .ref (u_3 4), .ref (u_3 5), .ref (u_3 6), .ref (u_3 7), .ref (u_3 8), .ref (u_3 9)])), ((u_3 0), .inl (g 0, 6, .inl (fun _ => 0))), ((u_3 1), .inl (g 0, 6, .inl (fun _ => 0))), ((u_3 2), .inl (g 0, 6, .inl (fun _ => 0))), ((u_3 3), .inl (g 0, 6, .inl (fun _ => 0))), ((u_3 4), .inl (g 0, 6, .inl (fun _ => 0))), ((u_3 5), .inl (g 0, 6, .inl (fun _ => 0))), ((u_3 6), .inl (g 0, 6, .inl (fun _ => 0))), ((u_3 7), .inl (g 0, 6, .inl (fun _ => 0))), ((u_3 8), .inl (g 0, 6, .inl (fun _ => 0))), (q_5, .inr (1, [.int 5, .int 40, .int 8, .int 0, .int 0, .int 0, .ref (u_6 0), .ref (u_6 1), .ref (u_6 2), .ref (u_6 3), .ref (u_6 4), .ref (u_6 5), .ref (u_6 6), .ref (u_6 7), .ref (u_6 8), .ref (u_6 9)])), ((u_6 0), .inl (g 0, 6, .inl (fun _ => 0))), ((u_6 1), .inl (g 0, 6, .inl (fun _ => 0))), ((u_6 2), .inl (g 0, 6, .inl (fun _ => 0))), ((u_6 3), .inl (g 0, 6, .inl (fun _ => 0))), ((u_6 4), .inl (g 0, 6, .inl (fun _ => 0))), ((u_6 5), .inl (g 0, 6, .inl (fun _ => 0))), ((u_6 6), .inl (g 0, 6, .inl (fun _ => 0))), ((u_6 7), .inl (g 0, 6, .inl (fun _ => 0))), ((u_6 8), .inl (g 0, 6, .inl (fun _ => 0)))] H _ := hT
  refine z_aast C hT 1 2 12 1 rfl rfl rfl rfl (vin rfl) dX3_init_43 (va_up (va_up (fun _ => none) 0 (some q_2)) 1 (some q_5)) rfl [(h0, .inr (3, [.ref q_1, .int 0, .int 0])), (q_1, .inl (g 2, 8, .inr (.inr (.inr (.inr (va_up (va_up (fun _ => none) 0 (some q_2)) 1 (some q_5))))))), (q_2, .inr (1, [.int 5, .int 40, .int 8, .int 0, .int 0, .int 0, .ref (u_3 0), .ref (u_3 1), .ref (u_3 2), .ref (u_3 3), .ref (u_3 4), .ref (u_3 5), .ref (u_3 6), .ref (u_3 7), .ref (u_3 8), .ref (u_3 9)])), ((u_3 0), .inl (g 0, 6, .inl (fun _ => 0))), ((u_3 1), .inl (g 0, 6, .inl (fun _ => 0))), ((u_3 2), .inl (g 0, 6, .inl (fun _ => 0))), ((u_3 3), .inl (g 0, 6, .inl (fun _ => 0))), ((u_3 4), .inl (g 0, 6, .inl (fun _ => 0))), ((u_3 5), .inl (g 0, 6, .inl (fun _ => 0))), ((u_3 6), .inl (g 0, 6, .inl (fun _ => 0))), ((u_3 7), .inl (g 0, 6, .inl (fun _ => 0))), ((u_3 8), .inl (g 0, 6, .inl (fun _ => 0))), (q_5, .inr (1, [.int 5, .int 40, .int 8, .int 0, .int 0, .int 0, .ref (u_6 0), .ref (u_6 1), .ref (u_6 2), .ref (u_6 3), .ref (u_6 4), .ref (u_6 5), .ref (u_6 6), .ref (u_6 7), .ref (u_6 8), .ref (u_6 9)])), ((u_6 0), .inl (g 0, 6, .inl (fun _ => 0))), ((u_6 1), .inl (g 0, 6, .inl (fun _ => 0))), ((u_6 2), .inl (g 0, 6, .inl (fun _ => 0))), ((u_6 3), .inl (g 0, 6, .inl (fun _ => 0))), ((u_6 4), .inl (g 0, 6, .inl (fun _ => 0))), ((u_6 5), .inl (g 0, 6, .inl (fun _ => 0))), ((u_6 6), .inl (g 0, 6, .inl (fun _ => 0))), ((u_6 7), .inl (g 0, 6, .inl (fun _ => 0))), ((u_6 8), .inl (g 0, 6, .inl (fun _ => 0)))] rfl (fun H locs hT => ?_)
  have hT := hT.sub [(h0, .inr (3, [.ref q_1, .int 0, .int 0])), (q_1, .inl (g 2, 8, .inr (.inr (.inr (.inr (va_up (va_up (fun _ => none) 0 (some q_2)) 1 (some q_5))))))), (q_2, .inr (1, [.int 5, .int 40, .int 8, .int 0, .int 0, .int 0, .ref (u_3 0), .ref (u_3 1), .ref (u_3 2), .ref (u_3 3), .ref (u_3 4), .ref (u_3 5), .ref (u_3 6), .ref (u_3 7), .ref (u_3 8), .ref (u_3 9)])), ((u_3 0), .inl (g 0, 6, .inl (fun _ => 0))), ((u_3 1), .inl (g 0, 6, .inl (fun _ => 0))), ((u_3 2), .inl (g 0, 6, .inl (fun _ => 0))), ((u_3 3), .inl (g 0, 6, .inl (fun _ => 0))), ((u_3 4), .inl (g 0, 6, .inl (fun _ => 0))), ((u_3 5), .inl (g 0, 6, .inl (fun _ => 0))), ((u_3 6), .inl (g 0, 6, .inl (fun _ => 0))), ((u_3 7), .inl (g 0, 6, .inl (fun _ => 0))), ((u_3 8), .inl (g 0, 6, .inl (fun _ => 0)))] [0, 1, 2, 3, 4, 5, 6, 7, 8, 9, 10, 11] rfl rfl
  refine lv_iinc (v := 2) (lv' := [(1, .int 2), (0, .ref h0)]) hx hb dX3_init_44 hl (k := 0) rfl (by decide +kernel) (by decide +kernel) rfl (fun ls hl => ?_)
  refine lv_goto (tgt := 25) hx hb dX3_init_47 (by decide +kernel) ?_
  refine lv_iload_n hx hb dX3_init_25 rfl (lv_at hl 0 rfl) ?_
  refine lv_bipush (v := 8) hx hb dX3_init_26 (by decide +kernel) ?_
  refine lv_icmp_ge (tgt := 50) hx hb dX3_init_28 (by decide +kernel) (fun c9 => absurd c9 (by decide +kernel)) (fun _ => ?_)
  refine lv_aload_n hx hb dX3_init_31 rfl (lv_at hl 1 rfl) ?_
  refine z_get C (ci := 3) (N := 3) rfl hin3 hT 0 0 rfl rfl (by decide +kernel) (by decide +kernel) dX3_init_32 ?_
  refine lv_iload_n hx hb dX3_init_35 rfl (lv_at hl 0 rfl) ?_
  refine z_new C (ci := 1) (N := 16) rfl hin1 tyX1_ok hT [.int 0, .int 0, .int 0, .int 0, .int 0, .int 0, .null, .null, .null, .null, .null, .null, .null, .null, .null, .null] (by decide +kernel) (by decide +kernel) (by decide +kernel) (by decide +kernel) (Nat.le_of_ble_eq_true rfl) (Nat.le_of_ble_eq_true rfl) dX3_init_36 (fun q_8 H hT => ?_)
  have hT : Sit D (TY g) A s [(h0, .inr (3, [.ref q_1, .int 0, .int 0])), (q_1, .inl (g 2, 8, .inr (.inr (.inr (.inr (va_up (va_up (fun _ => none) 0 (some q_2)) 1 (some q_5))))))), (q_2, .inr (1, [.int 5, .int 40, .int 8, .int 0, .int 0, .int 0, .ref (u_3 0), .ref (u_3 1), .ref (u_3 2), .ref (u_3 3), .ref (u_3 4), .ref (u_3 5), .ref (u_3 6), .ref (u_3 7), .ref (u_3 8), .ref (u_3 9)])), ((u_3 0), .inl (g 0, 6, .inl (fun _ => 0))), ((u_3 1), .inl (g 0, 6, .inl (fun _ => 0))), ((u_3 2), .inl (g 0, 6, .inl (fun _ => 0))), ((u_3 3), .inl (g 0, 6, .inl (fun _ => 0))), ((u_3 4), .inl (g 0, 6, .inl (fun _ => 0))), ((u_3 5), .inl (g 0, 6, .inl (fun _ => 0))), ((u_3 6), .inl (g 0, 6, .inl (fun _ => 0))), ((u_3 7), .inl (g 0, 6, .inl (fun _ => 0))), ((u_3 8), .inl (g 0, 6, .inl (fun _ => 0))), (q_8, .inr (1, [.int 0, .int 0, .int 0, .int 0, .int 0, .int 0, .null, .null, .null, .null, .null, .null, .null, .null, .null, .null]))] H _ := hT
  refine lv_dup hx hb dX3_init_39 rfl ?_
  refine z_callIN (wr := [(h0, .inr (3, [.ref q_1, .int 0, .int 0])), (q_1, .inl (g 2, 8, .inr (.inr (.inr (.inr (va_up (va_up (fun _ => none) 0 (some q_2)) 1 (some q_5))))))), (q_2, .inr (1, [.int 5, .int 40, .int 8, .int 0, .int 0, .int 0, .ref (u_3 0), .ref (u_3 1), .ref (u_3 2), .ref (u_3 3), .ref (u_3 4), .ref (u_3 5), .ref (u_3 6), .ref (u_3 7), .ref (u_3 8), .ref (u_3 9)])), ((u_3 0), .inl (g 0, 6, .inl (fun _ => 0))), ((u_3 1), .inl (g 0, 6, .inl (fun _ => 0))), ((u_3 2), .inl (g 0, 6, .inl (fun _ => 0))), ((u_3 3), .inl (g 0, 6, .inl (fun _ => 0))), ((u_3 4), .inl (g 0, 6, .inl (fun _ => 0))), ((u_3 5), .inl (g 0, 6, .inl (fun _ => 0))), ((u_3 6), .inl (g 0, 6, .inl (fun _ => 0))), ((u_3 7), .inl (g 0, 6, .inl (fun _ => 0))), ((u_3 8), .inl (g 0, 6, .inl (fun _ => 0)))]) C (c_Hall_init l D g q_8) gX3_init_X1_init_n24 rfl (hX.nw 9 rfl) (by decide +kernel) (by decide +kernel) rfl (by decide +kernel) ⟨Nat.le_of_ble_eq_true rfl, Nat.le_of_ble_eq_true rfl⟩ ⟨Nat.le_of_ble_eq_true rfl, Nat.le_of_ble_eq_true rfl⟩ blind_T (fun _ _ _ => trivial) hT [12] [0, 1, 2, 3, 4, 5, 6, 7, 8, 9, 10, 11] rfl rfl rfl rfl rfl rfl hl.1 rfl (Nat.le_of_ble_eq_true rfl) dX3_init_40 (fun u_9 H locs hp_10 hT => ?_)
  have hT : Sit D (TY g) A s [(h0, .inr (3, [.ref q_1, .int 0, .int 0])), (q_1, .inl (g 2, 8, .inr (.inr (.inr (.inr (va_up (va_up (fun _ => none) 0 (some q_2)) 1 (some q_5))))))), (q_2, .inr (1, [.int 5, .int 40, .int 8, .int 0, .int 0, .int 0, .ref (u_3 0), .ref (u_3 1), .ref (u_3 2), .ref (u_3 3), .ref (u_3 4), .ref (u_3 5), .ref (u_3 6), .ref (u_3 7), .ref (u_3 8), .ref (u_3 9)])), ((u_3 0), .inl (g 0, 6, .inl (fun _ => 0))), ((u_3 1), .inl (g 0, 6, .inl (fun _ => 0))), ((u_3 2), .inl (g 0, 6, .inl (fun _ => 0))), ((u_3 3), .inl (g 0, 6, .inl (fun _ => 0))), ((u_3 4), .inl (g 0, 6, .inl (fun _ => 0))), ((u_3 5), .inl (g 0, 6, .inl (fun _ => 0))), ((u_3 6), .inl (g 0, 6, .inl (fun _ => 0))), ((u_3 7), .inl (g 0, 6, .inl (fun _ => 0))), ((u_3 8), .inl (g 0, 6, .inl (fun _ => 0))), (q_8, .inr (1, [.int 5, .int 40, .int 8, .int 0, .int 0, .int 0, .ref (u_9 0), .ref (u_9 1), .ref (u_9 2), .ref (u_9 3), .ref (u_9 4), .ref (u_9 5), .ref (u_9 6), .ref (u_9 7), .ref (u_9 8), .ref (u_9 9)])), ((u_9 0), .inl (g 0, 6, .inl (fun _ => 0))), ((u_9 1), .inl (g 0, 6, .inl (fun _ => 0))), ((u_9 2), .inl (g 0, 6, .inl (fun _ => 0))), ((u_9 3), .inl (g 0, 6, .inl (fun _ => 0))), ((u_9 4), .inl (g 0, 6, .inl (fun _ => 0))), ((u_9 5), .inl (g 0, 6, .inl (fun _ => 0))), ((u_9 6), .inl (g 0, 6, .inl (fun _ => 0))), ((u_9 7), .inl (g 0, 6, .inl (fun _ => 0))), ((u_9 8), .inl (g 0, 6, .inl (fun _ => 0)))] H _ := hT
  refine z_aast C hT 1 2 12 1 rfl rfl rfl rfl (vin rfl) dX3_init_43 (va_up (va_up (va_up (fun _ => none) 0 (some q_2)) 1 (some q_5)) 2 (some q_8)) rfl [(h0, .inr (3, [.ref q_1, .int 0, .int 0])), (q_1, .inl (g 2, 8, .inr (.inr (.inr (.inr (va_up (va_up (va_up (fun _ => none) 0 (some q_2)) 1 (some q_5)) 2 (some q_8))))))), (q_2, .inr (1, [.int 5, .int 40, .int 8, .int 0, .int 0, .int 0, .ref (u_3 0), .ref (u_3 1), .ref (u_3 2), .ref (u_3 3), .ref (u_3 4), .ref (u_3 5), .ref (u_3 6), .ref (u_3 7), .ref (u_3 8), .ref (u_3 9)])), ((u_3 0), .inl (g 0, 6, .inl (fun _ => 0))), ((u_3 1), .inl (g 0, 6, .inl (fun _ => 0))), ((u_3 2), .inl (g 0, 6, .inl (fun _ => 0))), ((u_3 3), .inl (g 0, 6, .inl (fun _ => 0))), ((u_3 4), .inl (g 0, 6, .inl (fun _ => 0))), ((u_3 5), .inl (g 0, 6, .inl (fun _ => 0))), ((u_3 6), .inl (g 0, 6, .inl (fun _ => 0))), ((u_3 7), .inl (g 0, 6, .inl (fun _ => 0))), ((u_3 8), .inl (g 0, 6, .inl (fun _ => 0))), (q_8, .inr (1, [.int 5, .int 40, .int 8, .int 0, .int 0, .int 0, .ref (u_9 0), .ref (u_9 1), .ref (u_9 2), .ref (u_9 3), .ref (u_9 4), .ref (u_9 5), .ref (u_9 6), .ref (u_9 7), .ref (u_9 8), .ref (u_9 9)])), ((u_9 0), .inl (g 0, 6, .inl (fun _ => 0))), ((u_9 1), .inl (g 0, 6, .inl (fun _ => 0))), ((u_9 2), .inl (g 0, 6, .inl (fun _ => 0))), ((u_9 3), .inl (g 0, 6, .inl (fun _ => 0))), ((u_9 4), .inl (g 0, 6, .inl (fun _ => 0))), ((u_9 5), .inl (g 0, 6, .inl (fun _ => 0))), ((u_9 6), .inl (g 0, 6, .inl (fun _ => 0))), ((u_9 7), .inl (g 0, 6, .inl (fun _ => 0))), ((u_9 8), .inl (g 0, 6, .inl (fun _ => 0)))] rfl (fun H locs hT => ?_)
  have hT := hT.sub [(h0, .inr (3, [.ref q_1, .int 0, .int 0])), (q_1, .inl (g 2, 8, .inr (.inr (.inr (.inr (va_up (va_up (va_up (fun _ => none) 0 (some q_2)) 1 (some q_5)) 2 (some q_8))))))), (q_2, .inr (1, [.int 5, .int 40, .int 8, .int 0, .int 0, .int 0, .ref (u_3 0), .ref (u_3 1), .ref (u_3 2), .ref (u_3 3), .ref (u_3 4), .ref (u_3 5), .ref (u_3 6), .ref (u_3 7), .ref (u_3 8), .ref (u_3 9)])), ((u_3 0), .inl (g 0, 6, .inl (fun _ => 0))), ((u_3 1), .inl (g 0, 6, .inl (fun _ => 0))), ((u_3 2), .inl (g 0, 6, .inl (fun _ => 0))), ((u_3 3), .inl (g 0, 6, .inl (fun _ => 0))), ((u_3 4), .inl (g 0, 6, .inl (fun _ => 0))), ((u_3 5), .inl (g 0, 6, .inl (fun _ => 0))), ((u_3 6), .inl (g 0, 6, .inl (fun _ => 0))), ((u_3 7), .inl (g 0, 6, .inl (fun _ => 0))), ((u_3 8), .inl (g 0, 6, .inl (fun _ => 0)))] [0, 1, 2, 3, 4, 5, 6, 7, 8, 9, 10, 11] rfl rfl
  refine lv_iinc (v := 3) (lv' := [(1, .int 3), (0, .ref h0)]) hx hb dX3_init_44 hl (k := 0) rfl (by decide +kernel) (by decide +kernel) rfl (fun ls hl => ?_)
  refine lv_goto (tgt := 25) hx hb dX3_init_47 (by decide +kernel) ?_
  refine lv_iload_n hx hb dX3_init_25 rfl (lv_at hl 0 rfl) ?_
  refine lv_bipush (v := 8) hx hb dX3_init_26 (by decide +kernel) ?_
  refine lv_icmp_ge (tgt := 50) hx hb dX3_init_28 (by decide +kernel) (fun c9 => absurd c9 (by decide +kernel)) (fun _ => ?_)
  refine lv_aload_n hx hb dX3_init_31 rfl (lv_at hl 1 rfl) ?_
  refine z_get C (ci := 3) (N := 3) rfl hin3 hT 0 0 rfl rfl (by decide +kernel) (by decide +kernel) dX3_init_32 ?_
  refine lv_iload_n hx hb dX3_init_35 rfl (lv_at hl 0 rfl) ?_
  refine z_new C (ci := 1) (N := 16) rfl hin1 tyX1_ok hT [.int 0, .int 0, .int 0, .int 0, .int 0, .int 0, .null, .null, .null, .null, .null, .null, .null, .null, .null, .null] (by decide +kernel) (by decide +kernel) (by decide +kernel) (by decide +kernel) (Nat.le_of_ble_eq_true rfl) (Nat.le_of_ble_eq_true rfl) dX3_init_36 (fun q_11 H hT => ?_)
  have hT : Sit D (TY g) A s [(h0, .inr (3, [.ref q_1, .int 0, .int 0])), (q_1, .inl (g 2, 8, .inr (.inr (.inr (.inr (va_up (va_up (va_up (fun _ => none) 0 (some q_2)) 1 (some q_5)) 2 (some q_8))))))), (q_2, .inr (1, [.int 5, .int 40, .int 8, .int 0, .int 0, .int 0, .ref (u_3 0), .ref (u_3 1), .ref (u_3 2), .ref (u_3 3), .ref (u_3 4), .ref (u_3 5), .ref (u_3 6), .ref (u_3 7), .ref (u_3 8), .ref (u_3 9)])), ((u_3 0), .inl (g 0, 6, .inl (fun _ => 0))), ((u_3 1), .inl (g 0, 6, .inl (fun _ => 0))), ((u_3 2), .inl (g 0, 6, .inl (fun _ => 0))), ((u_3 3), .inl (g 0, 6, .inl (fun _ => 0))), ((u_3 4), .inl (g 0, 6, .inl (fun _ => 0))), ((u_3 5), .inl (g 0, 6, .inl (fun _ => 0))), ((u_3 6), .inl (g 0, 6, .inl (fun _ => 0))), ((u_3 7), .inl (g 0, 6, .inl (fun _ => 0))), ((u_3 8), .inl (g 0, 6, .inl (fun _ => 0))), (q_11, .inr (1, [.int 0, .int 0, .int 0, .int 0, .int 0, .int 0, .null, .null, .null, .null, .null, .null, .null, .null, .null, .null]))] H _ := hT
  refine lv_dup hx hb dX3_init_39 rfl ?_
  refine z_callIN (wr := [(h0, .inr (3, [.ref q_1, .int 0, .int 0])), (q_1, .inl (g 2, 8, .inr (.inr (.inr (.inr (va_up (va_up (va_up (fun _ => none) 0 (some q_2)) 1 (some q_5)) 2 (some q_8))))))), (q_2, .inr (1, [.int 5, .int 40, .int 8, .int 0, .int 0, .int 0, .ref (u_3 0), .ref (u_3 1), .ref (u_3 2), .ref (u_3 3), .ref (u_3 4), .ref (u_3 5), .ref (u_3 6), .ref (u_3 7), .ref (u_3 8), .ref (u_3 9)])), ((u_3 0), .inl (g 0, 6, .inl (fun _ => 0))), ((u_3 1), .inl (g 0, 6, .inl (fun _ => 0))), ((u_3 2), .inl (g 0, 6, .inl (fun _ => 0))), ((u_3 3), .inl (g 0, 6, .inl (fun _ => 0))), ((u_3 4), .inl (g 0, 6, .inl (fun _ => 0))), ((u_3 5), .inl (g 0, 6, .inl (fun _ => 0))), ((u_3 6), .inl (g 0, 6, .inl (fun _ => 0))), ((u_3 7), .inl (g 0, 6, .inl (fun _ => 0))), ((u_3 8), .inl (g 0, 6, .inl (fun _ => 0)))]) C (c_Hall_init l D g q_11) gX3_init_X1_init_n24 rfl (hX.nw 9 rfl) (by decide +kernel) (by decide +kernel) rfl (by decide +kernel) ⟨Nat.le_of_ble_eq_true rfl, Nat.le_of_ble_eq_true rfl⟩ ⟨Nat.le_of_ble_eq_true rfl, Nat.le_of_ble_eq_true rfl⟩ blind_T (fun _ _ _ => trivial) hT [12] [0, 1, 2, 3, 4, 5, 6, 7, 8, 9, 10, 11] rfl rfl rfl rfl rfl rfl hl.1 rfl (Nat.le_of_ble_eq_true rfl) dX3_init_40 (fun u_12 H locs hp_13 hT => ?_)
  have hT : Sit D (TY g) A s [(h0, .inr (3, [.ref q_1, .int 0, .int 0])), (q_1, .inl (g 2, 8, .inr (.inr (.inr (.inr (va_up (va_up (va_up (fun _ => none) 0 (some q_2)) 1 (some q_5)) 2 (some q_8))))))), (q_2, .inr (1, [.int 5, .int 40, .int 8, .int 0, .int 0, .int 0, .ref (u_3 0), .ref (u_3 1), .ref (u_3 2), .ref (u_3 3), .ref (u_3 4), .ref (u_3 5), .ref (u_3 6), .ref (u_3 7), .ref (u_3 8), .ref (u_3 9)])), ((u_3 0), .inl (g 0, 6, .inl (fun _ => 0))), ((u_3 1), .inl (g 0, 6, .inl (fun _ => 0))), ((u_3 2), .inl (g 0, 6, .inl (fun _ => 0))), ((u_3 3), .inl (g 0, 6, .inl (fun _ => 0))), ((u_3 4), .inl (g 0, 6, .inl (fun _ => 0))), ((u_3 5), .inl (g 0, 6, .inl (fun _ => 0))), ((u_3 6), .inl (g 0, 6, .inl (fun _ => 0))), ((u_3 7), .inl (g 0, 6, .inl (fun _ => 0))), ((u_3 8), .inl (g 0, 6, .inl (fun _ => 0))), (q_11, .inr (1, [.int 5, .int 40, .int 8, .int 0, .int 0, .int 0, .ref (u_12 0), .ref (u_12 1), .ref (u_12 2), .ref (u_12 3), .ref (u_12 4), .ref (u_12 5), .ref (u_12 6), .ref (u_12 7), .ref (u_12 8), .ref (u_12 9)])), ((u_12 0), .inl (g 0, 6, .inl (fun _ => 0))), ((u_12 1), .inl (g 0, 6, .inl (fun _ => 0))), ((u_12 2), .inl (g 0, 6, .inl (fun _ => 0))), ((u_12 3), .inl (g 0, 6, .inl (fun _ => 0))), ((u_12 4), .inl (g 0, 6, .inl (fun _ => 0))), ((u_12 5), .inl (g 0, 6, .inl (fun _ => 0))), ((u_12 6), .inl (g 0, 6, .inl (fun _ => 0))), ((u_12 7), .inl (g 0, 6, .inl (fun _ => 0))), ((u_12 8), .inl (g 0, 6, .inl (fun _ => 0)))] H _ := hT
  refine z_aast C hT 1 2 12 1 rfl rfl rfl rfl (vin rfl) dX3_init_43 (va_up (va_up (va_up (va_up (fun _ => none) 0 (some q_2)) 1 (some q_5)) 2 (some q_8)) 3 (some q_11)) rfl [(h0, .inr (3, [.ref q_1, .int 0, .int 0])), (q_1, .inl (g 2, 8, .inr (.inr (.inr (.inr (va_up (va_up (va_up (va_up (fun _ => none) 0 (some q_2)) 1 (some q_5)) 2 (some q_8)) 3 (some q_11))))))), (q_2, .inr (1, [.int 5, .int 40, .int 8, .int 0, .int 0, .int 0, .ref (u_3 0), .ref (u_3 1), .ref (u_3 2), .ref (u_3 3), .ref (u_3 4), .ref (u_3 5), .ref (u_3 6), .ref (u_3 7), .ref (u_3 8), .ref (u_3 9)])), ((u_3 0), .inl (g 0, 6, .inl (fun _ => 0))), ((u_3 1), .inl (g 0, 6, .inl (fun _ => 0))), ((u_3 2), .inl (g 0, 6, .inl (fun _ => 0))), ((u_3 3), .inl (g 0, 6, .inl (fun _ => 0))), ((u_3 4), .inl (g 0, 6, .inl (fun _ => 0))), ((u_3 5), .inl (g 0, 6, .inl (fun _ => 0))), ((u_3 6), .inl (g 0, 6, .inl (fun _ => 0))), ((u_3 7), .inl (g 0, 6, .inl (fun _ => 0))), ((u_3 8), .inl (g 0, 6, .inl (fun _ => 0))), (q_11, .inr (1, [.int 5, .int 40, .int 8, .int 0, .int 0, .int 0, .ref (u_12 0), .ref (u_12 1), .ref (u_12 2), .ref (u_12 3), .ref (u_12 4), .ref (u_12 5), .ref (u_12 6), .ref (u_12 7), .ref (u_12 8), .ref (u_12 9)])), ((u_12 0), .inl (g 0, 6, .inl (fun _ => 0))), ((u_12 1), .inl (g 0, 6, .inl (fun _ => 0))), ((u_12 2), .inl (g 0, 6, .inl (fun _ => 0))), ((u_12 3), .inl (g 0, 6, .inl (fun _ => 0))), ((u_12 4), .inl (g 0, 6, .inl (fun _ => 0))), ((u_12 5), .inl (g 0, 6, .inl (fun _ => 0))), ((u_12 6), .inl (g 0, 6, .inl (fun _ => 0))), ((u_12 7), .inl (g 0, 6, .inl (fun _ => 0))), ((u_12 8), .inl (g 0, 6, .inl (fun _ => 0)))] rfl (fun H locs hT => ?_)
  have hT := hT.sub [(h0, .inr (3, [.ref q_1, .int 0, .int 0])), (q_1, .inl (g 2, 8, .inr (.inr (.inr (.inr (va_up (va_up (va_up (va_up (fun _ => none) 0 (some q_2)) 1 (some q_5)) 2 (some q_8)) 3 (some q_11))))))), (q_2, .inr (1, [.int 5, .int 40, .int 8, .int 0, .int 0, .int 0, .ref (u_3 0), .ref (u_3 1), .ref (u_3 2), .ref (u_3 3), .ref (u_3 4), .ref (u_3 5), .ref (u_3 6), .ref (u_3 7), .ref (u_3 8), .ref (u_3 9)])), ((u_3 0), .inl (g 0, 6, .inl (fun _ => 0))), ((u_3 1), .inl (g 0, 6, .inl (fun _ => 0))), ((u_3 2), .inl (g 0, 6, .inl (fun _ => 0))), ((u_3 3), .inl (g 0, 6, .inl (fun _ => 0))), ((u_3 4), .inl (g 0, 6, .inl (fun _ => 0))), ((u_3 5), .inl (g 0, 6, .inl (fun _ => 0))), ((u_3 6), .inl (g 0, 6, .inl (fun _ => 0))), ((u_3 7), .inl (g 0, 6, .inl (fun _ => 0))), ((u_3 8), .inl (g 0, 6, .inl (fun _ => 0)))] [0, 1, 2, 3, 4, 5, 6, 7, 8, 9, 10, 11] rfl rfl
  refine lv_iinc (v := 4) (lv' := [(1, .int 4), (0, .ref h0)]) hx hb dX3_init_44 hl (k := 0) rfl (by decide +kernel) (by decide +kernel) rfl (fun ls hl => ?_)
  refine lv_goto (tgt := 25) hx hb dX3_init_47 (by decide +kernel) ?_
  refine lv_iload_n hx hb dX3_init_25 rfl (lv_at hl 0 rfl) ?_
  refine lv_bipush (v := 8) hx hb dX3_init_26 (by decide +kernel) ?_
  refine lv_icmp_ge (tgt := 50) hx hb dX3_init_28 (by decide +kernel) (fun c9 => absurd c9 (by decide +kernel)) (fun _ => ?_)
  refine lv_aload_n hx hb dX3_init_31 rfl (lv_at hl 1 rfl) ?_
  refine z_get C (ci := 3) (N := 3) rfl hin3 hT 0 0 rfl rfl (by decide +kernel) (by decide +kernel) dX3_init_32 ?_
  refine lv_iload_n hx hb dX3_init_35 rfl (lv_at hl 0 rfl) ?_
  refine z_new C (ci := 1) (N := 16) rfl hin1 tyX1_ok hT [.int 0, .int 0, .int 0, .int 0, .int 0, .int 0, .null, .null, .null, .null, .null, .null, .null, .null, .null, .null] (by decide +kernel) (by decide +kernel) (by decide +kernel) (by decide +kernel) (Nat.le_of_ble_eq_true rfl) (Nat.le_of_ble_eq_true rfl) dX3_init_36 (fun q_14 H hT => ?_)
  have hT : Sit D (TY g) A s [(h0, .inr (3, [.ref q_1, .int 0, .int 0])), (q_1, .inl (g 2, 8, .inr (.inr (.inr (.inr (va_up (va_up (va_up (va_up (fun _ => none) 0 (some q_2)) 1 (some q_5)) 2 (some q_8)) 3 (some q_11))))))), (q_2, .inr (1, [.int 5, .int 40, .int 8, .int 0, .int 0, .int 0, .ref (u_3 0), .ref (u_3 1), .ref (u_3 2), .ref (u_3 3), .ref (u_3 4), .ref (u_3 5), .ref (u_3 6), .ref (u_3 7), .ref (u_3 8), .ref (u_3 9)])), ((u_3 0), .inl (g 0, 6, .inl (fun _ => 0))), ((u_3 1), .inl (g 0, 6, .inl (fun _ => 0))), ((u_3 2), .inl (g 0, 6, .inl (fun _ => 0))), ((u_3 3), .inl (g 0, 6, .inl (fun _ => 0))), ((u_3 4), .inl (g 0, 6, .inl (fun _ => 0))), ((u_3 5), .inl (g 0, 6, .inl (fun _ => 0))), ((u_3 6), .inl (g 0, 6, .inl (fun _ => 0))), ((u_3 7), .inl (g 0, 6, .inl (fun _ => 0))), ((u_3 8), .inl (g 0, 6, .inl (fun _ => 0))), (q_14, .inr (1, [.int 0, .int 0, .int 0, .int 0, .int 0, .int 0, .null, .null, .null, .null, .null, .null, .null, .null, .null, .null]))] H _ := hT
  refine lv_dup hx hb dX3_init_39 rfl ?_
  refine z_callIN (wr := [(h0, .inr (3, [.ref q_1, .int 0, .int 0])), (q_1, .inl (g 2, 8, .inr (.inr (.inr (.inr (va_up (va_up (va_up (va_up (fun _ => none) 0 (some q_2)) 1 (some q_5)) 2 (some q_8)) 3 (some q_11))))))), (q_2, .inr (1, [.int 5, .int 40, .int 8, .int 0, .int 0, .int 0, .ref (u_3 0), .ref (u_3 1), .ref (u_3 2), .ref (u_3 3), .ref (u_3 4), .ref (u_3 5), .ref (u_3 6), .ref (u_3 7), .ref (u_3 8), .ref (u_3 9)])), ((u_3 0), .inl (g 0, 6, .inl (fun _ => 0))), ((u_3 1), .inl (g 0, 6, .inl (fun _ => 0))), ((u_3 2), .inl (g 0, 6, .inl (fun _ => 0))), ((u_3 3), .inl (g 0, 6, .inl (fun _ => 0))), ((u_3 4), .inl (g 0, 6, .inl (fun _ => 0))), ((u_3 5), .inl (g 0, 6, .inl (fun _ => 0))), ((u_3 6), .inl (g 0, 6, .inl (fun _ => 0))), ((u_3 7), .inl (g 0, 6, .inl (fun _ => 0))), ((u_3 8), .inl (g 0, 6, .inl (fun _ => 0)))]) C (c_Hall_init l D g q_14) gX3_init_X1_init_n24 rfl (hX.nw 9 rfl) (by decide +kernel) (by decide +kernel) rfl (by decide +kernel) ⟨Nat.le_of_ble_eq_true rfl, Nat.le_of_ble_eq_true rfl⟩ ⟨Nat.le_of_ble_eq_true rfl, Nat.le_of_ble_eq_true rfl⟩ blind_T (fun _ _ _ => trivial) hT [12] [0, 1, 2, 3, 4, 5, 6, 7, 8, 9, 10, 11] rfl rfl rfl rfl rfl rfl hl.1 rfl (Nat.le_of_ble_eq_true rfl) dX3_init_40 (fun u_15 H locs hp_16 hT => ?_)
  have hT : Sit D (TY g) A s [(h0, .inr (3, [.ref q_1, .int 0, .int 0])), (q_1, .inl (g 2, 8, .inr (.inr (.inr (.inr (va_up (va_up (va_up (va_up (fun _ => none) 0 (some q_2)) 1 (some q_5)) 2 (some q_8)) 3 (some q_11))))))), (q_2, .inr (1, [.int 5, .int 40, .int 8, .int 0, .int 0, .int 0, .ref (u_3 0), .ref (u_3 1), .ref (u_3 2), .ref (u_3 3), .ref (u_3 4), .ref (u_3 5), .ref (u_3 6), .ref (u_3 7), .ref (u_3 8), .ref (u_3 9)])), ((u_3 0), .inl (g 0, 6, .inl (fun _ => 0))), ((u_3 1), .inl (g 0, 6, .inl (fun _ => 0))), ((u_3 2), .inl (g 0, 6, .inl (fun _ => 0))), ((u_3 3), .inl (g 0, 6, .inl (fun _ => 0))), ((u_3 4), .inl (g 0, 6, .inl (fun _ => 0))), ((u_3 5), .inl (g 0, 6, .inl (fun _ => 0))), ((u_3 6), .inl (g 0, 6, .inl (fun _ => 0))), ((u_3 7), .inl (g 0, 6, .inl (fun _ => 0))), ((u_3 8), .inl (g 0, 6, .inl (fun _ => 0))), (q_14, .inr (1, [.int 5, .int 40, .int 8, .int 0, .int 0, .int 0, .ref (u_15 0), .ref (u_15 1), .ref (u_15 2), .ref (u_15 3), .ref (u_15 4), .ref (u_15 5), .ref (u_15 6), .ref (u_15 7), .ref (u_15 8), .ref (u_15 9)])), ((u_15 0), .inl (g 0, 6, .inl (fun _ => 0))), ((u_15 1), .inl (g 0, 6, .inl (fun _ => 0))), ((u_15 2), .inl (g 0, 6, .inl (fun _ => 0))), ((u_15 3), .inl (g 0, 6, .inl (fun _ => 0))), ((u_15 4), .inl (g 0, 6, .inl (fun _ => 0))), ((u_15 5), .inl (g 0, 6, .inl (fun _ => 0))), ((u_15 6), .inl (g 0, 6, .inl (fun _ => 0))), ((u_15 7), .inl (g 0, 6, .inl (fun _ => 0))), ((u_15 8), .inl (g 0, 6, .inl (fun _ => 0)))] H _ := hT
  refine z_aast C hT 1 2 12 1 rfl rfl rfl rfl (vin rfl) dX3_init_43 (va_up (va_up (va_up (va_up (va_up (fun _ => none) 0 (some q_2)) 1 (some q_5)) 2 (some q_8)) 3 (some q_11)) 4 (some q_14)) rfl [(h0, .inr (3, [.ref q_1, .int 0, .int 0])), (q_1, .inl (g 2, 8, .inr (.inr (.inr (.inr (va_up (va_up (va_up (va_up (va_up (fun _ => none) 0 (some q_2)) 1 (some q_5)) 2 (some q_8)) 3 (some q_11)) 4 (some q_14))))))), (q_2, .inr (1, [.int 5, .int 40, .int 8, .int 0, .int 0, .int 0, .ref (u_3 0), .ref (u_3 1), .ref (u_3 2), .ref (u_3 3), .ref (u_3 4), .ref (u_3 5), .ref (u_3 6), .ref (u_3 7), .ref (u_3 8), .ref (u_3 9)])), ((u_3 0), .inl (g 0, 6, .inl (fun _ => 0))), ((u_3 1), .inl (g 0, 6, .inl (fun _ => 0))), ((u_3 2), .inl (g 0, 6, .inl (fun _ => 0))), ((u_3 3), .inl (g 0, 6, .inl (fun _ => 0))), ((u_3 4), .inl (g 0, 6, .inl (fun _ => 0))), ((u_3 5), .inl (g 0, 6, .inl (fun _ => 0))), ((u_3 6), .inl (g 0, 6, .inl (fun _ => 0))), ((u_3 7), .inl (g 0, 6, .inl (fun _ => 0))), ((u_3 8), .inl (g 0, 6, .inl (fun _ => 0))), (q_14, .inr (1, [.int 5, .int 40, .int 8, .int 0, .int 0, .int 0, .ref (u_15 0), .ref (u_15 1), .ref (u_15 2), .ref (u_15 3), .ref (u_15 4), .ref (u_15 5), .ref (u_15 6), .ref (u_15 7), .ref (u_15 8), .ref (u_15 9)])), ((u_15 0), .inl (g 0, 6, .inl (fun _ => 0))), ((u_15 1), .inl (g 0, 6, .inl (fun _ => 0))), ((u_15 2), .inl (g 0, 6, .inl (fun _ => 0))), ((u_15 3), .inl (g 0, 6, .inl (fun _ => 0))), ((u_15 4), .inl (g 0, 6, .inl (fun _ => 0))), ((u_15 5), .inl (g 0, 6, .inl (fun _ => 0))), ((u_15 6), .inl (g 0, 6, .inl (fun _ => 0))), ((u_15 7), .inl (g 0, 6, .inl (fun _ => 0))), ((u_15 8), .inl (g 0, 6, .inl (fun _ => 0)))] rfl (fun H locs hT => ?_)
  have hT := hT.sub [(h0, .inr (3, [.ref q_1, .int 0, .int 0])), (q_1, .inl (g 2, 8, .inr (.inr (.inr (.inr (va_up (va_up (va_up (va_up (va_up (fun _ => none) 0 (some q_2)) 1 (some q_5)) 2 (some q_8)) 3 (some q_11)) 4 (some q_14))))))), (q_2, .inr (1, [.int 5, .int 40, .int 8, .int 0, .int 0, .int 0, .ref (u_3 0), .ref (u_3 1), .ref (u_3 2), .ref (u_3 3), .ref (u_3 4), .ref (u_3 5), .ref (u_3 6), .ref (u_3 7), .ref (u_3 8), .ref (u_3 9)])), ((u_3 0), .inl (g 0, 6, .inl (fun _ => 0))), ((u_3 1), .inl (g 0, 6, .inl (fun _ => 0))), ((u_3 2), .inl (g 0, 6, .inl (fun _ => 0))), ((u_3 3), .inl (g 0, 6, .inl (fun _ => 0))), ((u_3 4), .inl (g 0, 6, .inl (fun _ => 0))), ((u_3 5), .inl (g 0, 6, .inl (fun _ => 0))), ((u_3 6), .inl (g 0, 6, .inl (fun _ => 0))), ((u_3 7), .inl (g 0, 6, .inl (fun _ => 0))), ((u_3 8), .inl (g 0, 6, .inl (fun _ => 0)))] [0, 1, 2, 3, 4, 5, 6, 7, 8, 9, 10, 11] rfl rfl
  refine lv_iinc (v := 5) (lv' := [(1, .int 5), (0, .ref h0)]) hx hb dX3_init_44 hl (k := 0) rfl (by decide +kernel) (by decide +kernel) rfl (fun ls hl => ?_)
  refine lv_goto (tgt := 25) hx hb dX3_init_47 (by decide +kernel) ?_
  refine lv_iload_n hx hb dX3_init_25 rfl (lv_at hl 0 rfl) ?_
  refine lv_bipush (v := 8) hx hb dX3_init_26 (by decide +kernel) ?_
  refine lv_icmp_ge (tgt := 50) hx hb dX3_init_28 (by decide +kernel) (fun c9 => absurd c9 (by decide +kernel)) (fun _ => ?_)
  refine lv_aload_n hx hb dX3_init_31 rfl (lv_at hl 1 rfl) ?_
  refine z_get C (ci := 3) (N := 3) rfl hin3 hT 0 0 rfl rfl (by decide +kernel) (by decide +kernel) dX3_init_32 ?_
  refine lv_iload_n hx hb dX3_init_35 rfl (lv_at hl 0 rfl) ?_
  refine z_new C (ci := 1) (N := 16) rfl hin1 tyX1_ok hT [.int 0, .int 0, .int 0, .int 0, .int 0, .int 0, .null, .null, .null, .null, .null, .null, .null, .null, .null, .null] (by decide +kernel) (by decide +kernel) (by decide +kernel) (by decide +kernel) (Nat.le_of_ble_eq_true rfl) (Nat.le_of_ble_eq_true rfl) dX3_init_36 (fun q_17 H hT => ?_)
  have hT : Sit D (TY g) A s [(h0, .inr (3, [.ref q_1, .int 0, .int 0])), (q_1, .inl (g 2, 8, .inr (.inr (.inr (.inr (va_up (va_up (va_up (va_up (va_up (fun _ => none) 0 (some q_2)) 1 (some q_5)) 2 (some q_8)) 3 (some q_11)) 4 (some q_14))))))), (q_2, .inr (1, [.int 5, .int 40, .int 8, .int 0, .int 0, .int 0, .ref (u_3 0), .ref (u_3 1), .ref (u_3 2), .ref (u_3 3), .ref (u_3 4), .ref (u_3 5), .ref (u_3 6), .ref (u_3 7), .ref (u_3 8), .ref (u_3 9)])), ((u_3 0), .inl (g 0, 6, .inl (fun _ => 0))), ((u_3 1), .inl (g 0, 6, .inl (fun _ => 0))), ((u_3 2), .inl (g 0, 6, .inl (fun _ => 0))), ((u_3 3), .inl (g 0, 6, .inl (fun _ => 0))), ((u_3 4), .inl (g 0, 6, .inl (fun _ => 0))), ((u_3 5), .inl (g 0, 6, .inl (fun _ => 0))), ((u_3 6), .inl (g 0, 6, .inl (fun _ => 0))), ((u_3 7), .inl (g 0, 6, .inl (fun _ => 0))), ((u_3 8), .inl (g 0, 6, .inl (fun _ => 0))), (q_17, .inr (1, [.int 0, .int 0, .int 0, .int 0, .int 0, .int 0, .null, .null, .null, .null, .null, .null, .null, .null, .null, .null]))] H _ := hT
  refine lv_dup hx hb dX3_init_39 rfl ?_
  refine z_callIN (wr := [(h0, .inr (3, [.ref q_1, .int 0, .int 0])), (q_1, .inl (g 2, 8, .inr (.inr (.inr (.inr (va_up (va_up (va_up (va_up (va_up (fun _ => none) 0 (some q_2)) 1 (some q_5)) 2 (some q_8)) 3 (some q_11)) 4 (some q_14))))))), (q_2, .inr (1, [.int 5, .int 40, .int 8, .int 0, .int 0, .int 0, .ref (u_3 0), .ref (u_3 1), .ref (u_3 2), .ref (u_3 3), .ref (u_3 4), .ref (u_3 5), .ref (u_3 6), .ref (u_3 7), .ref (u_3 8), .ref (u_3 9)])), ((u_3 0), .inl (g 0, 6, .inl (fun _ => 0))), ((u_3 1), .inl (g 0, 6, .inl (fun _ => 0))), ((u_3 2), .inl (g 0, 6, .inl (fun _ => 0))), ((u_3 3), .inl (g 0, 6, .inl (fun _ => 0))), ((u_3 4), .inl (g 0, 6, .inl (fun _ => 0))), ((u_3 5), .inl (g 0, 6, .inl (fun _ => 0))), ((u_3 6), .inl (g 0, 6, .inl (fun _ => 0))), ((u_3 7), .inl (g 0, 6, .inl (fun _ => 0))), ((u_3 8), .inl (g 0, 6, .inl (fun _ => 0)))]) C (c_Hall_init l D g q_17) gX3_init_X1_init_n24 rfl (hX.nw 9 rfl) (by decide +kernel) (by decide +kernel) rfl (by decide +kernel) ⟨Nat.le_of_ble_eq_true rfl, Nat.le_of_ble_eq_true rfl⟩ ⟨Nat.le_of_ble_eq_true rfl, Nat.le_of_ble_eq_true rfl⟩ blind_T (fun _ _ _ => trivial) hT [12] [0, 1, 2, 3, 4, 5, 6, 7, 8, 9, 10, 11] rfl rfl rfl rfl rfl rfl hl.1 rfl (Nat.le_of_ble_eq_true rfl) dX3_init_40 (fun u_18 H locs hp_19 hT => ?_)
  have hT : Sit D (TY g) A s [(h0, .inr (3, [.ref q_1, .int 0, .int 0])), (q_1, .inl (g 2, 8, .inr (.inr (.inr (.inr (va_up (va_up (va_up (va_up (va_up (fun _ => none) 0 (some q_2)) 1 (some q_5)) 2 (some q_8)) 3 (some q_11)) 4 (some q_14))))))), (q_2, .inr (1, [.int 5, .int 40, .int 8, .int 0, .int 0, .int 0, .ref (u_3 0), .ref (u_3 1), .ref (u_3 2), .ref (u_3 3), .ref (u_3 4), .ref (u_3 5), .ref (u_3 6), .ref (u_3 7), .ref (u_3 8), .ref (u_3 9)])), ((u_3 0), .inl (g 0, 6, .inl (fun _ => 0))), ((u_3 1), .inl (g 0, 6, .inl (fun _ => 0))), ((u_3 2), .inl (g 0, 6, .inl (fun _ => 0))), ((u_3 3), .inl (g 0, 6, .inl (fun _ => 0))), ((u_3 4), .inl (g 0, 6, .inl (fun _ => 0))), ((u_3 5), .inl (g 0, 6, .inl (fun _ => 0))), ((u_3 6), .inl (g 0, 6, .inl (fun _ => 0))), ((u_3 7), .inl (g 0, 6, .inl (fun _ => 0))), ((u_3 8), .inl (g 0, 6, .inl (fun _ => 0))), (q_17, .inr (1, [.int 5, .int 40, .int 8, .int 0, .int 0, .int 0, .ref (u_18 0), .ref (u_18 1), .ref (u_18 2), .ref (u_18 3), .ref (u_18 4), .ref (u_18 5), .ref (u_18 6), .ref (u_18 7), .ref (u_18 8), .ref (u_18 9)])), ((u_18 0), .inl (g 0, 6, .inl (fun _ => 0))), ((u_18 1), .inl (g 0, 6, .inl (fun _ => 0))), ((u_18 2), .inl (g 0, 6, .inl (fun _ => 0))), ((u_18 3), .inl (g 0, 6, .inl (fun _ => 0))), ((u_18 4), .inl (g 0, 6, .inl (fun _ => 0))), ((u_18 5), .inl (g 0, 6, .inl (fun _ => 0))), ((u_18 6), .inl (g 0, 6, .inl (fun _ => 0))), ((u_18 7), .inl (g 0, 6, .inl (fun _ => 0))), ((u_18 8), .inl (g 0, 6, .inl (fun _ => 0)))] H _ := hT
  refine z_aast C hT 1 2 12 1 rfl rfl rfl rfl (vin rfl) dX3_init_43 (va_up (va_up (va_up (va_up (va_up (va_up (fun _ => none) 0 (some q_2)) 1 (some q_5)) 2 (some q_8)) 3 (some q_11)) 4 (some q_14)) 5 (some q_17)) rfl [(h0, .inr (3, [.ref q_1, .int 0, .int 0])), (q_1, .inl (g 2, 8, .inr (.inr (.inr (.inr (va_up (va_up (va_up (va_up (va_up (va_up (fun _ => none) 0 (some q_2)) 1 (some q_5)) 2 (some q_8)) 3 (some q_11)) 4 (some q_14)) 5 (some q_17))))))), (q_2, .inr (1, [.int 5, .int 40, .int 8, .int 0, .int 0, .int 0, .ref (u_3 0), .ref (u_3 1), .ref (u_3 2), .ref (u_3 3), .ref (u_3 4), .ref (u_3 5), .ref (u_3 6), .ref (u_3 7), .ref (u_3 8), .ref (u_3 9)])), ((u_3 0), .inl (g 0, 6, .inl (fun _ => 0))), ((u_3 1), .inl (g 0, 6, .inl (fun _ => 0))), ((u_3 2), .inl (g 0, 6, .inl (fun _ => 0))), ((u_3 3), .inl (g 0, 6, .inl (fun _ => 0))), ((u_3 4), .inl (g 0, 6, .inl (fun _ => 0))), ((u_3 5), .inl (g 0, 6, .inl (fun _ => 0))), ((u_3 6), .inl (g 0, 6, .inl (fun _ => 0))), ((u_3 7), .inl (g 0, 6, .inl (fun _ => 0))), ((u_3 8), .inl (g 0, 6, .inl (fun _ => 0))), (q_17, .inr (1, [.int 5, .int 40, .int 8, .int 0, .int 0, .int 0, .ref (u_18 0), .ref (u_18 1), .ref (u_18 2), .ref (u_18 3), .ref (u_18 4), .ref (u_18 5), .ref (u_18 6), .ref (u_18 7), .ref (u_18 8), .ref (u_18 9)])), ((u_18 0), .inl (g 0, 6, .inl (fun _ => 0))), ((u_18 1), .inl (g 0, 6, .inl (fun _ => 0))), ((u_18 2), .inl (g 0, 6, .inl (fun _ => 0))), ((u_18 3), .inl (g 0, 6, .inl (fun _ => 0))), ((u_18 4), .inl (g 0, 6, .inl (fun _ => 0))), ((u_18 5), .inl (g 0, 6, .inl (fun _ => 0))), ((u_18 6), .inl (g 0, 6, .inl (fun _ => 0))), ((u_18 7), .inl (g 0, 6, .inl (fun _ => 0))), ((u_18 8), .inl (g 0, 6, .inl (fun _ => 0)))] rfl (fun H locs hT => ?_)
  have hT := hT.sub [(h0, .inr (3, [.ref q_1, .int 0, .int 0])), (q_1, .inl (g 2, 8, .inr (.inr (.inr (.inr (va_up (va_up (va_up (va_up (va_up (va_up (fun _ => none) 0 (some q_2)) 1 (some q_5)) 2 (some q_8)) 3 (some q_11)) 4 (some q_14)) 5 (some q_17))))))), (q_2, .inr (1, [.int 5, .int 40, .int 8, .int 0, .int 0, .int 0, .ref (u_3 0), .ref (u_3 1), .ref (u_3 2), .ref (u_3 3), .ref (u_3 4), .ref (u_3 5), .ref (u_3 6), .ref (u_3 7), .ref (u_3 8), .ref (u_3 9)])), ((u_3 0), .inl (g 0, 6, .inl (fun _ => 0))), ((u_3 1), .inl (g 0, 6, .inl (fun _ => 0))), ((u_3 2), .inl (g 0, 6, .inl (fun _ => 0))), ((u_3 3), .inl (g 0, 6, .inl (fun _ => 0))), ((u_3 4), .inl (g 0, 6, .inl (fun _ => 0))), ((u_3 5), .inl (g 0, 6, .inl (fun _ => 0))), ((u_3 6), .inl (g 0, 6, .inl (fun _ => 0))), ((u_3 7), .inl (g 0, 6, .inl (fun _ => 0))), ((u_3 8), .inl (g 0, 6, .inl (fun _ => 0)))] [0, 1, 2, 3, 4, 5, 6, 7, 8, 9, 10, 11] rfl rfl
  refine lv_iinc (v := 6) (lv' := [(1, .int 6), (0, .ref h0)]) hx hb dX3_init_44 hl (k := 0) rfl (by decide +kernel) (by decide +kernel) rfl (fun ls hl => ?_)
  refine lv_goto (tgt := 25) hx hb dX3_init_47 (by decide +kernel) ?_
  refine lv_iload_n hx hb dX3_init_25 rfl (lv_at hl 0 rfl) ?_
  refine lv_bipush (v := 8) hx hb dX3_init_26 (by decide +kernel) ?_
  refine lv_icmp_ge (tgt := 50) hx hb dX3_init_28 (by decide +kernel) (fun c9 => absurd c9 (by decide +kernel)) (fun _ => ?_)
  refine lv_aload_n hx hb dX3_init_31 rfl (lv_at hl 1 rfl) ?_
  refine z_get C (ci := 3) (N := 3) rfl hin3 hT 0 0 rfl rfl (by decide +kernel) (by decide +kernel) dX3_init_32 ?_
  refine lv_iload_n hx hb dX3_init_35 rfl (lv_at hl 0 rfl) ?_
  refine z_new C (ci := 1) (N := 16) rfl hin1 tyX1_ok hT [.int 0, .int 0, .int 0, .int 0, .int 0, .int 0, .null, .null, .null, .null, .null, .null, .null, .null, .null, .null] (by decide +kernel) (by decide +kernel) (by decide +kernel) (by decide +kernel) (Nat.le_of_ble_eq_true rfl) (Nat.le_of_ble_eq_true rfl) dX3_init_36 (fun q_20 H hT => ?_)
  have hT : Sit D (TY g) A s [(h0, .inr (3, [.ref q_1, .int 0, .int 0])), (q_1, .inl (g 2, 8, .inr (.inr (.inr (.inr (va_up (va_up (va_up (va_up (va_up (va_up (fun _ => none) 0 (some q_2)) 1 (some q_5)) 2 (some q_8)) 3 (some q_11)) 4 (some q_14)) 5 (some q_17))))))), (q_2, .inr (1, [.int 5, .int 40, .int 8, .int 0, .int 0, .int 0, .ref (u_3 0), .ref (u_3 1), .ref (u_3 2), .ref (u_3 3), .ref (u_3 4), .ref (u_3 5), .ref (u_3 6), .ref (u_3 7), .ref (u_3 8), .ref (u_3 9)])), ((u_3 0), .inl (g 0, 6, .inl (fun _ => 0))), ((u_3 1), .inl (g 0, 6, .inl (fun _ => 0))), ((u_3 2), .inl (g 0, 6, .inl (fun _ => 0))), ((u_3 3), .inl (g 0, 6, .inl (fun _ => 0))), ((u_3 4), .inl (g 0, 6, .inl (fun _ => 0))), ((u_3 5), .inl (g 0, 6, .inl (fun _ => 0))), ((u_3 6), .inl (g 0, 6, .inl (fun _ => 0))), ((u_3 7), .inl (g 0, 6, .inl (fun _ => 0))), ((u_3 8), .inl (g 0, 6, .inl (fun _ => 0))), (q_20, .inr (1, [.int 0, .int 0, .int 0, .int 0, .int 0, .int 0, .null, .null, .null, .null, .null, .null, .null, .null, .null, .null]))] H _ := hT
  refine lv_dup hx hb dX3_init_39 rfl ?_
  refine z_callIN (wr := [(h0, .inr (3, [.ref q_1, .int 0, .int 0])), (q_1, .inl (g 2, 8, .inr (.inr (.inr (.inr (va_up (va_up (va_up (va_up (va_up (va_up (fun _ => none) 0 (some q_2)) 1 (some q_5)) 2 (some q_8)) 3 (some q_11)) 4 (some q_14)) 5 (some q_17))))))), (q_2, .inr (1, [.int 5, .int 40, .int 8, .int 0, .int 0, .int 0, .ref (u_3 0), .ref (u_3 1), .ref (u_3 2), .ref (u_3 3), .ref (u_3 4), .ref (u_3 5), .ref (u_3 6), .ref (u_3 7), .ref (u_3 8), .ref (u_3 9)])), ((u_3 0), .inl (g 0, 6, .inl (fun _ => 0))), ((u_3 1), .inl (g 0, 6, .inl (fun _ => 0))), ((u_3 2), .inl (g 0, 6, .inl (fun _ => 0))), ((u_3 3), .inl (g 0, 6, .inl (fun _ => 0))), ((u_3 4), .inl (g 0, 6, .inl (fun _ => 0))), ((u_3 5), .inl (g 0, 6, .inl (fun _ => 0))), ((u_3 6), .inl (g 0, 6, .inl (fun _ => 0))), ((u_3 7), .inl (g 0, 6, .inl (fun _ => 0))), ((u_3 8), .inl (g 0, 6, .inl (fun _ => 0)))]) C (c_Hall_init l D g q_20) gX3_init_X1_init_n24 rfl (hX.nw 9 rfl) (by decide +kernel) (by decide +kernel) rfl (by decide +kernel) ⟨Nat.le_of_ble_eq_true rfl, Nat.le_of_ble_eq_true rfl⟩ ⟨Nat.le_of_ble_eq_true rfl, Nat.le_of_ble_eq_true rfl⟩ blind_T (fun _ _ _ => trivial) hT [12] [0, 1, 2, 3, 4, 5, 6, 7, 8, 9, 10, 11] rfl rfl rfl rfl rfl rfl hl.1 rfl (Nat.le_of_ble_eq_true rfl) dX3_init_40 (fun u_21 H locs hp_22 hT => ?_)
  have hT : Sit D (TY g) A s [(h0, .inr (3, [.ref q_1, .int 0, .int 0])), (q_1, .inl (g 2, 8, .inr (.inr (.inr (.inr (va_up (va_up (va_up (va_up (va_up (va_up (fun _ => none) 0 (some q_2)) 1 (some q_5)) 2 (some q_8)) 3 (some q_11)) 4 (some q_14)) 5 (some q_17))))))), (q_2, .inr (1, [.int 5, .int 40, .int 8, .int 0, .int 0, .int 0, .ref (u_3 0), .ref (u_3 1), .ref (u_3 2), .ref (u_3 3), .ref (u_3 4), .ref (u_3 5), .ref (u_3 6), .ref (u_3 7), .ref (u_3 8), .ref (u_3 9)])), ((u_3 0), .inl (g 0, 6, .inl (fun _ => 0))), ((u_3 1), .inl (g 0, 6, .inl (fun _ => 0))), ((u_3 2), .inl (g 0, 6, .inl (fun _ => 0))), ((u_3 3), .inl (g 0, 6, .inl (fun _ => 0))), ((u_3 4), .inl (g 0, 6, .inl (fun _ => 0))), ((u_3 5), .inl (g 0, 6, .inl (fun _ => 0))), ((u_3 6), .inl (g 0, 6, .inl (fun _ => 0))), ((u_3 7), .inl (g 0, 6, .inl (fun _ => 0))), ((u_3 8), .inl (g 0, 6, .inl (fun _ => 0))), (q_20, .inr (1, [.int 5, .int 40, .int 8, .int 0, .int 0, .int 0, .ref (u_21 0), .ref (u_21 1), .ref (u_21 2), .ref (u_21 3), .ref (u_21 4), .ref (u_21 5), .ref (u_21 6), .ref (u_21 7), .ref (u_21 8), .ref (u_21 9)])), ((u_21 0), .inl (g 0, 6, .inl (fun _ => 0))), ((u_21 1), .inl (g 0, 6, .inl (fun _ => 0))), ((u_21 2), .inl (g 0, 6, .inl (fun _ => 0))), ((u_21 3), .inl (g 0, 6, .inl (fun _ => 0))), ((u_21 4), .inl (g 0, 6, .inl (fun _ => 0))), ((u_21 5), .inl (g 0, 6, .inl (fun _ => 0))), ((u_21 6), .inl (g 0, 6, .inl (fun _ => 0))), ((u_21 7), .inl (g 0, 6, .inl (fun _ => 0))), ((u_21 8), .inl (g 0, 6, .inl (fun _ => 0)))] H _ := hT
  refine z_aast C hT 1 2 12 1 rfl rfl rfl rfl (vin rfl) dX3_init_43 (va_up (va_up (va_up (va_up (va_up (va_up (va_up (fun _ => none) 0 (some q_2)) 1 (some q_5)) 2 (some q_8)) 3 (some q_11)) 4 (some q_14)) 5 (some q_17)) 6 (some q_20)) rfl [(h0, .inr (3, [.ref q_1, .int 0, .int 0])), (q_1, .inl (g 2, 8, .inr (.inr (.inr (.inr (va_up (va_up (va_up (va_up (va_up (va_up (va_up (fun _ => none) 0 (some q_2)) 1 (some q_5)) 2 (some q_8)) 3 (some q_11)) 4 (some q_14)) 5 (some q_17)) 6 (some q_20))))))), (q_2, .inr (1, [.int 5, .int 40, .int 8, .int 0, .int 0, .int 0, .ref (u_3 0), .ref (u_3 1), .ref (u_3 2), .ref (u_3 3), .ref (u_3 4), .ref (u_3 5), .ref (u_3 6), .ref (u_3 7), .ref (u_3 8), .ref (u_3 9)])), ((u_3 0), .inl (g 0, 6, .inl (fun _ => 0))), ((u_3 1), .inl (g 0, 6, .inl (fun _ => 0))), ((u_3 2), .inl (g 0, 6, .inl (fun _ => 0))), ((u_3 3), .inl (g 0, 6, .inl (fun _ => 0))), ((u_3 4), .inl (g 0, 6, .inl (fun _ => 0))), ((u_3 5), .inl (g 0, 6, .inl (fun _ => 0))), ((u_3 6), .inl (g 0, 6, .inl (fun _ => 0))), ((u_3 7), .inl (g 0, 6, .inl (fun _ => 0))), ((u_3 8), .inl (g 0, 6, .inl (fun _ => 0))), (q_20, .inr (1, [.int 5, .int 40, .int 8, .int 0, .int 0, .int 0, .ref (u_21 0), .ref (u_21 1), .ref (u_21 2), .ref (u_21 3), .ref (u_21 4), .ref (u_21 5), .ref (u_21 6), .ref (u_21 7), .ref (u_21 8), .ref (u_21 9)])), ((u_21 0), .inl (g 0, 6, .inl (fun _ => 0))), ((u_21 1), .inl (g 0, 6, .inl (fun _ => 0))), ((u_21 2), .inl (g 0, 6, .inl (fun _ => 0))), ((u_21 3), .inl (g 0, 6, .inl (fun _ => 0))), ((u_21 4), .inl (g 0, 6, .inl (fun _ => 0))), ((u_21 5), .inl (g 0, 6, .inl (fun _ => 0))), ((u_21 6), .inl (g 0, 6, .inl (fun _ => 0))), ((u_21 7), .inl (g 0, 6, .inl (fun _ => 0))), ((u_21 8), .inl (g 0, 6, .inl (fun _ => 0)))] rfl (fun H locs hT => ?_)
  have hT := hT.sub [(h0, .inr (3, [.ref q_1, .int 0, .int 0])), (q_1, .inl (g 2, 8, .inr (.inr (.inr (.inr (va_up (va_up (va_up (va_up (va_up (va_up (va_up (fun _ => none) 0 (some q_2)) 1 (some q_5)) 2 (some q_8)) 3 (some q_11)) 4 (some q_14)) 5 (some q_17)) 6 (some q_20))))))), (q_2, .inr (1, [.int 5, .int 40, .int 8, .int 0, .int 0, .int 0, .ref (u_3 0), .ref (u_3 1), .ref (u_3 2), .ref (u_3 3), .ref (u_3 4), .ref (u_3 5), .ref (u_3 6), .ref (u_3 7), .ref (u_3 8), .ref (u_3 9)])), ((u_3 0), .inl (g 0, 6, .inl (fun _ => 0))), ((u_3 1), .inl (g 0, 6, .inl (fun _ => 0))), ((u_3 2), .inl (g 0, 6, .inl (fun _ => 0))), ((u_3 3), .inl (g 0, 6, .inl (fun _ => 0))), ((u_3 4), .inl (g 0, 6, .inl (fun _ => 0))), ((u_3 5), .inl (g 0, 6, .inl (fun _ => 0))), ((u_3 6), .inl (g 0, 6, .inl (fun _ => 0))), ((u_3 7), .inl (g 0, 6, .inl (fun _ => 0))), ((u_3 8), .inl (g 0, 6, .inl (fun _ => 0)))] [0, 1, 2, 3, 4, 5, 6, 7, 8, 9, 10, 11] rfl rfl
  refine lv_iinc (v := 7) (lv' := [(1, .int 7), (0, .ref h0)]) hx hb dX3_init_44 hl (k := 0) rfl (by decide +kernel) (by decide +kernel) rfl (fun ls hl => ?_)
  refine lv_goto (tgt := 25) hx hb dX3_init_47 (by decide +kernel) ?_
  refine lv_iload_n hx hb dX3_init_25 rfl (lv_at hl 0 rfl) ?_
  refine lv_bipush (v := 8) hx hb dX3_init_26 (by decide +kernel) ?_
  refine lv_icmp_ge (tgt := 50) hx hb dX3_init_28 (by decide +kernel) (fun c9 => absurd c9 (by decide +kernel)) (fun _ => ?_)
  refine lv_aload_n hx hb dX3_init_31 rfl (lv_at hl 1 rfl) ?_
  refine z_get C (ci := 3) (N := 3) rfl hin3 hT 0 0 rfl rfl (by decide +kernel) (by decide +kernel) dX3_init_32 ?_
  refine lv_iload_n hx hb dX3_init_35 rfl (lv_at hl 0 rfl) ?_
  refine z_new C (ci := 1) (N := 16) rfl hin1 tyX1_ok hT [.int 0, .int 0, .int 0, .int 0, .int 0, .int 0, .null, .null, .null, .null, .null, .null, .null, .null, .null, .null] (by decide +kernel) (by decide +kernel) (by decide +kernel) (by decide +kernel) (Nat.le_of_ble_eq_true rfl) (Nat.le_of_ble_eq_true rfl) dX3_init_36 (fun q_23 H hT => ?_)
  have hT : Sit D (TY g) A s [(h0, .inr (3, [.ref q_1, .int 0, .int 0])), (q_1, .inl (g 2, 8, .inr (.inr (.inr (.inr (va_up (va_up (va_up (va_up (va_up (va_up (va_up (fun _ => none) 0 (some q_2)) 1 (some q_5)) 2 (some q_8)) 3 (some q_11)) 4 (some q_14)) 5 (some q_17)) 6 (some q_20))))))), (q_2, .inr (1, [.int 5, .int 40, .int 8, .int 0, .int 0, .int 0, .ref (u_3 0), .ref (u_3 1), .ref (u_3 2), .ref (u_3 3), .ref (u_3 4), .ref (u_3 5), .ref (u_3 6), .ref (u_3 7), .ref (u_3 8), .ref (u_3 9)])), ((u_3 0), .inl (g 0, 6, .inl (fun _ => 0))), ((u_3 1), .inl (g 0, 6, .inl (fun _ => 0))), ((u_3 2), .inl (g 0, 6, .inl (fun _ => 0))), ((u_3 3), .inl (g 0, 6, .inl (fun _ => 0))), ((u_3 4), .inl (g 0, 6, .inl (fun _ => 0))), ((u_3 5), .inl (g 0, 6, .inl (fun _ => 0))), ((u_3 6), .inl (g 0, 6, .inl (fun _ => 0))), ((u_3 7), .inl (g 0, 6, .inl (fun _ => 0))), ((u_3 8), .inl (g 0, 6, .inl (fun _ => 0))), (q_23, .inr (1, [.int 0, .int 0, .int 0, .int 0, .int 0, .int 0, .null, .null, .null, .null, .null, .null, .null, .null, .null, .null]))] H _ := hT
  refine lv_dup hx hb dX3_init_39 rfl ?_
  refine z_callIN (wr := [(h0, .inr (3, [.ref q_1, .int 0, .int 0])), (q_1, .inl (g 2, 8, .inr (.inr (.inr (.inr (va_up (va_up (va_up (va_up (va_up (va_up (va_up (fun _ => none) 0 (some q_2)) 1 (some q_5)) 2 (some q_8)) 3 (some q_11)) 4 (some q_14)) 5 (some q_17)) 6 (some q_20))))))), (q_2, .inr (1, [.int 5, .int 40, .int 8, .int 0, .int 0, .int 0, .ref (u_3 0), .ref (u_3 1), .ref (u_3 2), .ref (u_3 3), .ref (u_3 4), .ref (u_3 5), .ref (u_3 6), .ref (u_3 7), .ref (u_3 8), .ref (u_3 9)])), ((u_3 0), .inl (g 0, 6, .inl (fun _ => 0))), ((u_3 1), .inl (g 0, 6, .inl (fun _ => 0))), ((u_3 2), .inl (g 0, 6, .inl (fun _ => 0))), ((u_3 3), .inl (g 0, 6, .inl (fun _ => 0))), ((u_3 4), .inl (g 0, 6, .inl (fun _ => 0))), ((u_3 5), .inl (g 0, 6, .inl (fun _ => 0))), ((u_3 6), .inl (g 0, 6, .inl (fun _ => 0))), ((u_3 7), .inl (g 0, 6, .inl (fun _ => 0))), ((u_3 8), .inl (g 0, 6, .inl (fun _ => 0)))]) C (c_Hall_init l D g q_23) gX3_init_X1_init_n24 rfl (hX.nw 9 rfl) (by decide +kernel) (by decide +kernel) rfl (by decide +kernel) ⟨Nat.le_of_ble_eq_true rfl, Nat.le_of_ble_eq_true rfl⟩ ⟨Nat.le_of_ble_eq_true rfl, Nat.le_of_ble_eq_true rfl⟩ blind_T (fun _ _ _ => trivial) hT [12] [0, 1, 2, 3, 4, 5, 6, 7, 8, 9, 10, 11] rfl rfl rfl rfl rfl rfl hl.1 rfl (Nat.le_of_ble_eq_true rfl) dX3_init_40 (fun u_24 H locs hp_25 hT => ?_)
  have hT : Sit D (TY g) A s [(h0, .inr (3, [.ref q_1, .int 0, .int 0])), (q_1, .inl (g 2, 8, .inr (.inr (.inr (.inr (va_up (va_up (va_up (va_up (va_up (va_up (va_up (fun _ => none) 0 (some q_2)) 1 (some q_5)) 2 (some q_8)) 3 (some q_11)) 4 (some q_14)) 5 (some q_17)) 6 (some q_20))))))), (q_2, .inr (1, [.int 5, .int 40, .int 8, .int 0, .int 0, .int 0, .ref (u_3 0), .ref (u_3 1), .ref (u_3 2), .ref (u_3 3), .ref (u_3 4), .ref (u_3 5), .ref (u_3 6), .ref (u_3 7), .ref (u_3 8), .ref (u_3 9)])), ((u_3 0), .inl (g 0, 6, .inl (fun _ => 0))), ((u_3 1), .inl (g 0, 6, .inl (fun _ => 0))), ((u_3 2), .inl (g 0, 6, .inl (fun _ => 0))), ((u_3 3), .inl (g 0, 6, .inl (fun _ => 0))), ((u_3 4), .inl (g 0, 6, .inl (fun _ => 0))), ((u_3 5), .inl (g 0, 6, .inl (fun _ => 0))), ((u_3 6), .inl (g 0, 6, .inl (fun _ => 0))), ((u_3 7), .inl (g 0, 6, .inl (fun _ => 0))), ((u_3 8), .inl (g 0, 6, .inl (fun _ => 0))), (q_23, .inr (1, [.int 5, .int 40, .int 8, .int 0, .int 0, .int 0, .ref (u_24 0), .ref (u_24 1), .ref (u_24 2), .ref (u_24 3), .ref (u_24 4), .ref (u_24 5), .ref (u_24 6), .ref (u_24 7), .ref (u_24 8), .ref (u_24 9)])), ((u_24 0), .inl (g 0, 6, .inl (fun _ => 0))), ((u_24 1), .inl (g 0, 6, .inl (fun _ => 0))), ((u_24 2), .inl (g 0, 6, .inl (fun _ => 0))), ((u_24 3), .inl (g 0, 6, .inl (fun _ => 0))), ((u_24 4), .inl (g 0, 6, .inl (fun _ => 0))), ((u_24 5), .inl (g 0, 6, .inl (fun _ => 0))), ((u_24 6), .inl (g 0, 6, .inl (fun _ => 0))), ((u_24 7), .inl (g 0, 6, .inl (fun _ => 0))), ((u_24 8), .inl (g 0, 6, .inl (fun _ => 0)))] H _ := hT
  refine z_aast C hT 1 2 12 1 rfl rfl rfl rfl (vin rfl) dX3_init_43 (va_up (va_up (va_up (va_up (va_up (va_up (va_up (va_up (fun _ => none) 0 (some q_2)) 1 (some q_5)) 2 (some q_8)) 3 (some q_11)) 4 (some q_14)) 5 (some q_17)) 6 (some q_20)) 7 (some q_23)) rfl [(h0, .inr (3, [.ref q_1, .int 0, .int 0])), (q_1, .inl (g 2, 8, .inr (.inr (.inr (.inr (va_up (va_up (va_up (va_up (va_up (va_up (va_up (va_up (fun _ => none) 0 (some q_2)) 1 (some q_5)) 2 (some q_8)) 3 (some q_11)) 4 (some q_14)) 5 (some q_17)) 6 (some q_20)) 7 (some q_23))))))), (q_2, .inr (1, [.int 5, .int 40, .int 8, .int 0, .int 0, .int 0, .ref (u_3 0), .ref (u_3 1), .ref (u_3 2), .ref (u_3 3), .ref (u_3 4), .ref (u_3 5), .ref (u_3 6), .ref (u_3 7), .ref (u_3 8), .ref (u_3 9)])), ((u_3 0), .inl (g 0, 6, .inl (fun _ => 0))), ((u_3 1), .inl (g 0, 6, .inl (fun _ => 0))), ((u_3 2), .inl (g 0, 6, .inl (fun _ => 0))), ((u_3 3), .inl (g 0, 6, .inl (fun _ => 0))), ((u_3 4), .inl (g 0, 6, .inl (fun _ => 0))), ((u_3 5), .inl (g 0, 6, .inl (fun _ => 0))), ((u_3 6), .inl (g 0, 6, .inl (fun _ => 0))), ((u_3 7), .inl (g 0, 6, .inl (fun _ => 0))), ((u_3 8), .inl (g 0, 6, .inl (fun _ => 0))), (q_23, .inr (1, [.int 5, .int 40, .int 8, .int 0, .int 0, .int 0, .ref (u_24 0), .ref (u_24 1), .ref (u_24 2), .ref (u_24 3), .ref (u_24 4), .ref (u_24 5), .ref (u_24 6), .ref (u_24 7), .ref (u_24 8), .ref (u_24 9)])), ((u_24 0), .inl (g 0, 6, .inl (fun _ => 0))), ((u_24 1), .inl (g 0, 6, .inl (fun _ => 0))), ((u_24 2), .inl (g 0, 6, .inl (fun _ => 0))), ((u_24 3), .inl (g 0, 6, .inl (fun _ => 0))), ((u_24 4), .inl (g 0, 6, .inl (fun _ => 0))), ((u_24 5), .inl (g 0, 6, .inl (fun _ => 0))), ((u_24 6), .inl (g 0, 6, .inl (fun _ => 0))), ((u_24 7), .inl (g 0, 6, .inl (fun _ => 0))), ((u_24 8), .inl (g 0, 6, .inl (fun _ => 0)))] rfl (fun H locs hT => ?_)
  have hT := hT.sub [(h0, .inr (3, [.ref q_1, .int 0, .int 0])), (q_1, .inl (g 2, 8, .inr (.inr (.inr (.inr (va_up (va_up (va_up (va_up (va_up (va_up (va_up (va_up (fun _ => none) 0 (some q_2)) 1 (some q_5)) 2 (some q_8)) 3 (some q_11)) 4 (some q_14)) 5 (some q_17)) 6 (some q_20)) 7 (some q_23))))))), (q_2, .inr (1, [.int 5, .int 40, .int 8, .int 0, .int 0, .int 0, .ref (u_3 0), .ref (u_3 1), .ref (u_3 2), .ref (u_3 3), .ref (u_3 4), .ref (u_3 5), .ref (u_3 6), .ref (u_3 7), .ref (u_3 8), .ref (u_3 9)])), ((u_3 0), .inl (g 0, 6, .inl (fun _ => 0))), ((u_3 1), .inl (g 0, 6, .inl (fun _ => 0))), ((u_3 2), .inl (g 0, 6, .inl (fun _ => 0))), ((u_3 3), .inl (g 0, 6, .inl (fun _ => 0))), ((u_3 4), .inl (g 0, 6, .inl (fun _ => 0))), ((u_3 5), .inl (g 0, 6, .inl (fun _ => 0))), ((u_3 6), .inl (g 0, 6, .inl (fun _ => 0))), ((u_3 7), .inl (g 0, 6, .inl (fun _ => 0))), ((u_3 8), .inl (g 0, 6, .inl (fun _ => 0)))] [0, 1, 2, 3, 4, 5, 6, 7, 8, 9, 10, 11] rfl rfl
  refine lv_iinc (v := 8) (lv' := [(1, .int 8), (0, .ref h0)]) hx hb dX3_init_44 hl (k := 0) rfl (by decide +kernel) (by decide +kernel) rfl (fun ls hl => ?_)
  refine lv_goto (tgt := 25) hx hb dX3_init_47 (by decide +kernel) ?_
  refine lv_iload_n hx hb dX3_init_25 rfl (lv_at hl 0 rfl) ?_
  refine lv_bipush (v := 8) hx hb dX3_init_26 (by decide +kernel) ?_
  refine lv_icmp_ge (tgt := 50) hx hb dX3_init_28 (by decide +kernel) (fun _ => ?_) (fun c9 => absurd (by decide +kernel) c9)
  exact z_vret C rfl hT ((fun k => ([q_1, q_2, (u_3 0), (u_3 1), (u_3 2), (u_3 3), (u_3 4), (u_3 5), (u_3 6), (u_3 7), (u_3 8), (u_3 9)] : List Nat).getD k 0), (va_up (va_up (va_up (va_up (va_up (va_up (va_up (va_up (fun _ => none) 0 (some q_2)) 1 (some q_5)) 2 (some q_8)) 3 (some q_11)) 4 (some q_14)) 5 (some q_17)) 6 (some q_20)) 7 (some q_23))) rfl [0, 1, 2, 3, 4, 5, 6, 7, 8, 9, 10, 11] rfl rfl (Nat.le_of_ble_eq_true rfl) (Nat.le_of_ble_eq_true rfl) dX3_init_50

set_option maxHeartbeats 4000000 in
set_option maxRecDepth 100000 in
/-- Foretelling() -/
theorem c_Foretelling_init (l : Launch) (D : va_G) (g : Nat → ClassId) (h0 : Nat) : CtV l yX0_init wsX0_init { frames := 2, cells := 14, slots := 88, locals := 32 } D (TY g) [.ref h0] Ev [(h0, .inr (0, [.null, .null, .null, .null, .int 0, .int 0]))] (fun _ : Nat → Nat => True) (fun u => [(h0, .inr (0, [.ref (u 0), .ref (u 1), .ref (u 2), .ref (u 3), .int (-1), .int 0]))]) := by
  refine CtV.intro (cc := cX0_init) (maxL := 1) (ret := none) rfl (by decide +kernel) (Nat.le_of_ble_eq_true rfl) ?_
  intro p e s m below meth c A ls C hmn hX hAe hT hl
  have hx := C.1.1
  have hb := C.1.2.1
  have hl : lv_has ls 1 [(0, .ref h0)] := hl
  have hin0 : ∀ w ∈ u_ws RX0 TX0 6, w ∈ wsX0_init := by decide +kernel
  have hin1 : ∀ w ∈ u_ws RX1 TX1 16, w ∈ wsX0_init := by decide +kernel
  refine lv_aload_n hx hb dX0_init_0 rfl (lv_at hl 0 rfl) ?_
  refine z_objInit C (by decide +kernel) (by decide +kernel) (by decide +kernel) hl.1 dX0_init_1 (Nat.le_of_ble_eq_true rfl) (Nat.le_of_ble_eq_true rfl) ?_
  refine lv_aload_n hx hb dX0_init_4 rfl (lv_at hl 0 rfl) ?_
  refine z_new C (ci := 1) (N := 16) rfl hin1 tyX1_ok hT [.int 0, .int 0, .int 0, .int 0, .int 0, .int 0, .null, .null, .null, .null, .null, .null, .null, .null, .null, .null] (by decide +kernel) (by decide +kernel) (by decide +kernel) (by decide +kernel) (Nat.le_of_ble_eq_true rfl) (Nat.le_of_ble_eq_true rfl) dX0_init_5 (fun q_1 H hT => ?_)
  have hT : Sit D (TY g) A s [(h0, .inr (0, [.null, .null, .null, .null, .int 0, .int 0])), (q_1, .inr (1, [.int 0, .int 0, .int 0, .int 0, .int 0, .int 0, .null, .null, .null, .null, .null, .null, .null, .null, .null, .null]))] H _ := hT
  refine lv_dup hx hb dX0_init_8 rfl ?_
  refine z_callIN (wr := [(h0, .inr (0, [.null, .null, .null, .null, .int 0, .int 0]))]) C (c_Hall_init l D g q_1) gX0_init_X1_init_n11 rfl (hX.nw 6 rfl) (by decide +kernel) (by decide +kernel) rfl (by decide +kernel) ⟨Nat.le_of_ble_eq_true rfl, Nat.le_of_ble_eq_true rfl⟩ ⟨Nat.le_of_ble_eq_true rfl, Nat.le_of_ble_eq_true rfl⟩ blind_T (fun _ _ _ => trivial) hT [1] [0] rfl rfl rfl rfl rfl rfl hl.1 rfl (Nat.le_of_ble_eq_true rfl) dX0_init_9 (fun u_2 H locs hp_3 hT => ?_)
  have hT : Sit D (TY g) A s [(h0, .inr (0, [.null, .null, .null, .null, .int 0, .int 0])), (q_1, .inr (1, [.int 5, .int 40, .int 8, .int 0, .int 0, .int 0, .ref (u_2 0), .ref (u_2 1), .ref (u_2 2), .ref (u_2 3), .ref (u_2 4), .ref (u_2 5), .ref (u_2 6), .ref (u_2 7), .ref (u_2 8), .ref (u_2 9)])), ((u_2 0), .inl (g 0, 6, .inl (fun _ => 0))), ((u_2 1), .inl (g 0, 6, .inl (fun _ => 0))), ((u_2 2), .inl (g 0, 6, .inl (fun _ => 0))), ((u_2 3), .inl (g 0, 6, .inl (fun _ => 0))), ((u_2 4), .inl (g 0, 6, .inl (fun _ => 0))), ((u_2 5), .inl (g 0, 6, .inl (fun _ => 0))), ((u_2 6), .inl (g 0, 6, .inl (fun _ => 0))), ((u_2 7), .inl (g 0, 6, .inl (fun _ => 0))), ((u_2 8), .inl (g 0, 6, .inl (fun _ => 0)))] H _ := hT
  refine z_putF C (ci := 0) (N := 6) rfl hin0 tyX0_ok nmX0 hT 0 0 rfl (Nat.le_of_ble_eq_true rfl) (by decide +kernel) (by decide +kernel) rfl hmn rfl rfl rfl dX0_init_12 [(h0, .inr (0, [.ref q_1, .null, .null, .null, .int 0, .int 0])), (q_1, .inr (1, [.int 5, .int 40, .int 8, .int 0, .int 0, .int 0, .ref (u_2 0), .ref (u_2 1), .ref (u_2 2), .ref (u_2 3), .ref (u_2 4), .ref (u_2 5), .ref (u_2 6), .ref (u_2 7), .ref (u_2 8), .ref (u_2 9)])), ((u_2 0), .inl (g 0, 6, .inl (fun _ => 0))), ((u_2 1), .inl (g 0, 6, .inl (fun _ => 0))), ((u_2 2), .inl (g 0, 6, .inl (fun _ => 0))), ((u_2 3), .inl (g 0, 6, .inl (fun _ => 0))), ((u_2 4), .inl (g 0, 6, .inl (fun _ => 0))), ((u_2 5), .inl (g 0, 6, .inl (fun _ => 0))), ((u_2 6), .inl (g 0, 6, .inl (fun _ => 0))), ((u_2 7), .inl (g 0, 6, .inl (fun _ => 0))), ((u_2 8), .inl (g 0, 6, .inl (fun _ => 0)))] rfl (fun H locs hT => ?_)
  refine lv_aload_n hx hb dX0_init_15 rfl (lv_at hl 0 rfl) ?_
  refine lv_bipush (v := 6) hx hb dX0_init_16 (by decide +kernel) ?_
  refine z_new0 C hT 0 6 (by decide +kernel) rfl (by decide +kernel) (by decide +kernel) (by decide +kernel) (Nat.le_of_ble_eq_true rfl) (Nat.le_of_ble_eq_true rfl) dX0_init_18 (fun q_4 H hT => ?_)
  have hT : Sit D (TY g) A s [(h0, .inr (0, [.ref q_1, .null, .null, .null, .int 0, .int 0])), (q_1, .inr (1, [.int 5, .int 40, .int 8, .int 0, .int 0, .int 0, .ref (u_2 0), .ref (u_2 1), .ref (u_2 2), .ref (u_2 3), .ref (u_2 4), .ref (u_2 5), .ref (u_2 6), .ref (u_2 7), .ref (u_2 8), .ref (u_2 9)])), ((u_2 0), .inl (g 0, 6, .inl (fun _ => 0))), ((u_2 1), .inl (g 0, 6, .inl (fun _ => 0))), ((u_2 2), .inl (g 0, 6, .inl (fun _ => 0))), ((u_2 3), .inl (g 0, 6, .inl (fun _ => 0))), ((u_2 4), .inl (g 0, 6, .inl (fun _ => 0))), ((u_2 5), .inl (g 0, 6, .inl (fun _ => 0))), ((u_2 6), .inl (g 0, 6, .inl (fun _ => 0))), ((u_2 7), .inl (g 0, 6, .inl (fun _ => 0))), ((u_2 8), .inl (g 0, 6, .inl (fun _ => 0))), (q_4, .inl (g 0, 6, .inl (fun _ => 0)))] H _ := hT
  refine z_putF C (ci := 0) (N := 6) rfl hin0 tyX0_ok nmX0 hT 0 1 rfl (Nat.le_of_ble_eq_true rfl) (by decide +kernel) (by decide +kernel) rfl hmn rfl rfl rfl dX0_init_20 [(h0, .inr (0, [.ref q_1, .ref q_4, .null, .null, .int 0, .int 0])), (q_1, .inr (1, [.int 5, .int 40, .int 8, .int 0, .int 0, .int 0, .ref (u_2 0), .ref (u_2 1), .ref (u_2 2), .ref (u_2 3), .ref (u_2 4), .ref (u_2 5), .ref (u_2 6), .ref (u_2 7), .ref (u_2 8), .ref (u_2 9)])), ((u_2 0), .inl (g 0, 6, .inl (fun _ => 0))), ((u_2 1), .inl (g 0, 6, .inl (fun _ => 0))), ((u_2 2), .inl (g 0, 6, .inl (fun _ => 0))), ((u_2 3), .inl (g 0, 6, .inl (fun _ => 0))), ((u_2 4), .inl (g 0, 6, .inl (fun _ => 0))), ((u_2 5), .inl (g 0, 6, .inl (fun _ => 0))), ((u_2 6), .inl (g 0, 6, .inl (fun _ => 0))), ((u_2 7), .inl (g 0, 6, .inl (fun _ => 0))), ((u_2 8), .inl (g 0, 6, .inl (fun _ => 0))), (q_4, .inl (g 0, 6, .inl (fun _ => 0)))] rfl (fun H locs hT => ?_)
  refine lv_aload_n hx hb dX0_init_23 rfl (lv_at hl 0 rfl) ?_
  refine lv_iconst (v := 3) hx hb dX0_init_24 (by decide +kernel) ?_
  refine z_new0 C hT 0 3 (by decide +kernel) rfl (by decide +kernel) (by decide +kernel) (by decide +kernel) (Nat.le_of_ble_eq_true rfl) (Nat.le_of_ble_eq_true rfl) dX0_init_25 (fun q_5 H hT => ?_)
  have hT : Sit D (TY g) A s [(h0, .inr (0, [.ref q_1, .ref q_4, .null, .null, .int 0, .int 0])), (q_1, .inr (1, [.int 5, .int 40, .int 8, .int 0, .int 0, .int 0, .ref (u_2 0), .ref (u_2 1), .ref (u_2 2), .ref (u_2 3), .ref (u_2 4), .ref (u_2 5), .ref (u_2 6), .ref (u_2 7), .ref (u_2 8), .ref (u_2 9)])), ((u_2 0), .inl (g 0, 6, .inl (fun _ => 0))), ((u_2 1), .inl (g 0, 6, .inl (fun _ => 0))), ((u_2 2), .inl (g 0, 6, .inl (fun _ => 0))), ((u_2 3), .inl (g 0, 6, .inl (fun _ => 0))), ((u_2 4), .inl (g 0, 6, .inl (fun _ => 0))), ((u_2 5), .inl (g 0, 6, .inl (fun _ => 0))), ((u_2 6), .inl (g 0, 6, .inl (fun _ => 0))), ((u_2 7), .inl (g 0, 6, .inl (fun _ => 0))), ((u_2 8), .inl (g 0, 6, .inl (fun _ => 0))), (q_4, .inl (g 0, 6, .inl (fun _ => 0))), (q_5, .inl (g 0, 3, .inl (fun _ => 0)))] H _ := hT
  refine z_putF C (ci := 0) (N := 6) rfl hin0 tyX0_ok nmX0 hT 0 2 rfl (Nat.le_of_ble_eq_true rfl) (by decide +kernel) (by decide +kernel) rfl hmn rfl rfl rfl dX0_init_27 [(h0, .inr (0, [.ref q_1, .ref q_4, .ref q_5, .null, .int 0, .int 0])), (q_1, .inr (1, [.int 5, .int 40, .int 8, .int 0, .int 0, .int 0, .ref (u_2 0), .ref (u_2 1), .ref (u_2 2), .ref (u_2 3), .ref (u_2 4), .ref (u_2 5), .ref (u_2 6), .ref (u_2 7), .ref (u_2 8), .ref (u_2 9)])), ((u_2 0), .inl (g 0, 6, .inl (fun _ => 0))), ((u_2 1), .inl (g 0, 6, .inl (fun _ => 0))), ((u_2 2), .inl (g 0, 6, .inl (fun _ => 0))), ((u_2 3), .inl (g 0, 6, .inl (fun _ => 0))), ((u_2 4), .inl (g 0, 6, .inl (fun _ => 0))), ((u_2 5), .inl (g 0, 6, .inl (fun _ => 0))), ((u_2 6), .inl (g 0, 6, .inl (fun _ => 0))), ((u_2 7), .inl (g 0, 6, .inl (fun _ => 0))), ((u_2 8), .inl (g 0, 6, .inl (fun _ => 0))), (q_4, .inl (g 0, 6, .inl (fun _ => 0))), (q_5, .inl (g 0, 3, .inl (fun _ => 0)))] rfl (fun H locs hT => ?_)
  refine lv_aload_n hx hb dX0_init_30 rfl (lv_at hl 0 rfl) ?_
  refine lv_iconst (v := 3) hx hb dX0_init_31 (by decide +kernel) ?_
  refine z_new0 C hT 0 3 (by decide +kernel) rfl (by decide +kernel) (by decide +kernel) (by decide +kernel) (Nat.le_of_ble_eq_true rfl) (Nat.le_of_ble_eq_true rfl) dX0_init_32 (fun q_6 H hT => ?_)
  have hT : Sit D (TY g) A s [(h0, .inr (0, [.ref q_1, .ref q_4, .ref q_5, .null, .int 0, .int 0])), (q_1, .inr (1, [.int 5, .int 40, .int 8, .int 0, .int 0, .int 0, .ref (u_2 0), .ref (u_2 1), .ref (u_2 2), .ref (u_2 3), .ref (u_2 4), .ref (u_2 5), .ref (u_2 6), .ref (u_2 7), .ref (u_2 8), .ref (u_2 9)])), ((u_2 0), .inl (g 0, 6, .inl (fun _ => 0))), ((u_2 1), .inl (g 0, 6, .inl (fun _ => 0))), ((u_2 2), .inl (g 0, 6, .inl (fun _ => 0))), ((u_2 3), .inl (g 0, 6, .inl (fun _ => 0))), ((u_2 4), .inl (g 0, 6, .inl (fun _ => 0))), ((u_2 5), .inl (g 0, 6, .inl (fun _ => 0))), ((u_2 6), .inl (g 0, 6, .inl (fun _ => 0))), ((u_2 7), .inl (g 0, 6, .inl (fun _ => 0))), ((u_2 8), .inl (g 0, 6, .inl (fun _ => 0))), (q_4, .inl (g 0, 6, .inl (fun _ => 0))), (q_5, .inl (g 0, 3, .inl (fun _ => 0))), (q_6, .inl (g 0, 3, .inl (fun _ => 0)))] H _ := hT
  refine z_putF C (ci := 0) (N := 6) rfl hin0 tyX0_ok nmX0 hT 0 3 rfl (Nat.le_of_ble_eq_true rfl) (by decide +kernel) (by decide +kernel) rfl hmn rfl rfl rfl dX0_init_34 [(h0, .inr (0, [.ref q_1, .ref q_4, .ref q_5, .ref q_6, .int 0, .int 0])), (q_1, .inr (1, [.int 5, .int 40, .int 8, .int 0, .int 0, .int 0, .ref (u_2 0), .ref (u_2 1), .ref (u_2 2), .ref (u_2 3), .ref (u_2 4), .ref (u_2 5), .ref (u_2 6), .ref (u_2 7), .ref (u_2 8), .ref (u_2 9)])), ((u_2 0), .inl (g 0, 6, .inl (fun _ => 0))), ((u_2 1), .inl (g 0, 6, .inl (fun _ => 0))), ((u_2 2), .inl (g 0, 6, .inl (fun _ => 0))), ((u_2 3), .inl (g 0, 6, .inl (fun _ => 0))), ((u_2 4), .inl (g 0, 6, .inl (fun _ => 0))), ((u_2 5), .inl (g 0, 6, .inl (fun _ => 0))), ((u_2 6), .inl (g 0, 6, .inl (fun _ => 0))), ((u_2 7), .inl (g 0, 6, .inl (fun _ => 0))), ((u_2 8), .inl (g 0, 6, .inl (fun _ => 0))), (q_4, .inl (g 0, 6, .inl (fun _ => 0))), (q_5, .inl (g 0, 3, .inl (fun _ => 0))), (q_6, .inl (g 0, 3, .inl (fun _ => 0)))] rfl (fun H locs hT => ?_)
  refine lv_aload_n hx hb dX0_init_37 rfl (lv_at hl 0 rfl) ?_
  refine lv_iconst (v := (-1)) hx hb dX0_init_38 (by decide +kernel) ?_
  refine z_put C (ci := 0) (N := 6) rfl hin0 tyX0_ok nmX0 hT 0 4 rfl (Nat.le_of_ble_eq_true rfl) (by decide +kernel) (by decide +kernel) rfl rfl rfl dX0_init_39 [(h0, .inr (0, [.ref q_1, .ref q_4, .ref q_5, .ref q_6, .int (-1), .int 0])), (q_1, .inr (1, [.int 5, .int 40, .int 8, .int 0, .int 0, .int 0, .ref (u_2 0), .ref (u_2 1), .ref (u_2 2), .ref (u_2 3), .ref (u_2 4), .ref (u_2 5), .ref (u_2 6), .ref (u_2 7), .ref (u_2 8), .ref (u_2 9)])), ((u_2 0), .inl (g 0, 6, .inl (fun _ => 0))), ((u_2 1), .inl (g 0, 6, .inl (fun _ => 0))), ((u_2 2), .inl (g 0, 6, .inl (fun _ => 0))), ((u_2 3), .inl (g 0, 6, .inl (fun _ => 0))), ((u_2 4), .inl (g 0, 6, .inl (fun _ => 0))), ((u_2 5), .inl (g 0, 6, .inl (fun _ => 0))), ((u_2 6), .inl (g 0, 6, .inl (fun _ => 0))), ((u_2 7), .inl (g 0, 6, .inl (fun _ => 0))), ((u_2 8), .inl (g 0, 6, .inl (fun _ => 0))), (q_4, .inl (g 0, 6, .inl (fun _ => 0))), (q_5, .inl (g 0, 3, .inl (fun _ => 0))), (q_6, .inl (g 0, 3, .inl (fun _ => 0)))] rfl (fun H locs hT => ?_)
  refine lv_aload_n hx hb dX0_init_42 rfl (lv_at hl 0 rfl) ?_
  refine lv_iconst (v := 0) hx hb dX0_init_43 (by decide +kernel) ?_
  refine z_put C (ci := 0) (N := 6) rfl hin0 tyX0_ok nmX0 hT 0 5 rfl (Nat.le_of_ble_eq_true rfl) (by decide +kernel) (by decide +kernel) rfl rfl rfl dX0_init_44 [(h0, .inr (0, [.ref q_1, .ref q_4, .ref q_5, .ref q_6, .int (-1), .int 0])), (q_1, .inr (1, [.int 5, .int 40, .int 8, .int 0, .int 0, .int 0, .ref (u_2 0), .ref (u_2 1), .ref (u_2 2), .ref (u_2 3), .ref (u_2 4), .ref (u_2 5), .ref (u_2 6), .ref (u_2 7), .ref (u_2 8), .ref (u_2 9)])), ((u_2 0), .inl (g 0, 6, .inl (fun _ => 0))), ((u_2 1), .inl (g 0, 6, .inl (fun _ => 0))), ((u_2 2), .inl (g 0, 6, .inl (fun _ => 0))), ((u_2 3), .inl (g 0, 6, .inl (fun _ => 0))), ((u_2 4), .inl (g 0, 6, .inl (fun _ => 0))), ((u_2 5), .inl (g 0, 6, .inl (fun _ => 0))), ((u_2 6), .inl (g 0, 6, .inl (fun _ => 0))), ((u_2 7), .inl (g 0, 6, .inl (fun _ => 0))), ((u_2 8), .inl (g 0, 6, .inl (fun _ => 0))), (q_4, .inl (g 0, 6, .inl (fun _ => 0))), (q_5, .inl (g 0, 3, .inl (fun _ => 0))), (q_6, .inl (g 0, 3, .inl (fun _ => 0)))] rfl (fun H locs hT => ?_)
  exact z_vret C rfl hT (fun k => ([q_1, q_4, q_5, q_6] : List Nat).getD k 0) trivial [0] rfl rfl (Nat.le_of_ble_eq_true rfl) (Nat.le_of_ble_eq_true rfl) dX0_init_47
end
section
section LYG
variable {p : Program} {l : Launch} {e : Env} {R : Room} {s : State} {m : MethodId} {args : Array Value} {below : List Frame} {meth : Method} {c : Code} {H : Heap} {locs : List Loc} {cells slots : Nat} {Q : State → Prop}
variable {cc : ByteArray} {pc nL : Nat} {ls : Array Slot} {rest st : List Value} {D : va_G} {T : List (ClassId × FieldType)} {A : Nat → Prop} {ws : va_W} {Ts : List Cond} {y0 : MethodName} {ret : Option FieldType}
/-- new int[n][k]: the outer row, and its n rows -/
theorem z_grid (C : Cx p s m args meth c cc nL Ts y0 ret) (hT : Sit D T A s ws H locs) (t0 t1 N' K' : Nat) {cA cI : ClassId} {index : Nat} {n k : Int32} (hcl : Cond.classLink y0.cls index ("[" ++ (FieldType.array .int).toString) ∈ Ts) (hov : va_AOA .int s) (harr : Cond.arrayClass .int ∈ Ts) (ht : T[t0]? = some (cA, .array .int)) (hti : T[t1]? = some (cI, .int)) (hn : ¬ n < 0) (hk : ¬ k < 0) (hN : n.toNatClampNeg = N') (hM : k.toNatClampNeg = K') (hb1 : N' * 4 ≤ 536870912) (hb2 : K' * 4 ≤ 536870912) (hb3 : K' ≤ 536870912) (hcells : cells + (1 + N') ≤ R.cells) (hslots : slots + (N' + N' * K') ≤ R.slots) (hdg : decode cc pc = .ok (.multianewarray index 2, 4))
    (kk : ∀ (q : Nat) (r : Nat → Nat) (H : Heap), Sit D T A s ((ws ++ [(q, .inl (cA, N', .inr (.inr (.inr (.inr (fun i => if i < N' then some (r i) else none))))))]) ++ ((List.range N').map r).map (fun a => (a, .inl (cI, K', .inl (fun _ => 0))))) H locs → W p l e R s m args below meth c H locs (cells + 1 + N') (slots + N' + N' * K') Q (F0 m (pc + 4) ls (.ref q :: rest))) : W p l e R s m args below meth c H locs cells slots Q (F0 m pc ls (.int k :: .int n :: rest)) := by
  have e0 : ws ++ va_pl [] (fun _ => .inr (0, [])) = ws := List.append_nil ws
  have hcy : s.vm.findClass (FieldType.array .int).toString = some cI := (hT.1.2 t1 _ hti).2
  refine va_mna (X := ws) (L := []) (f := fun _ => .inr (0, [])) (z := (K', .inl (fun _ => 0))) C.1.1 C.1.2.1 C.1.2.2.2.1 (C.1.2.2.2.2 _ hcl) hov (C.1.2.2.2.2 _ harr) hcy hT.1 (by rw [e0]; exact hT.2.1) (by rw [e0]; exact hT.2.2.1) hT.2.2.2.1 hT.2.2.2.2 hn hk hN hM hb1 hb2 hb3 rfl rfl hcells hslots (fun c => arrV_new c K' (.int 0)) hdg (fun q r cB H1 _ hr gK gP gD gS => ?_)
  have hl : t0 < T.length := (List.getElem?_eq_some_iff.mp ht).1
  have e : cA = cB := gK.one (i := t0) (j := T.length) (by rw [List.getElem?_append_left hl]; exact ht) (by rw [List.getElem?_append_right (Nat.le_refl _)]; simp)
  subst e
  have er := vr_rows (L := []) (l := (List.range N').map r) (f := fun _ => (.inr (0, []) : va_E)) (e := .inl (cI, K', .inl (fun _ => 0))) (fun a _ h => by cases h)
  rw [← er] at gP gD
  exact kk q r H1 ⟨hT.1, gP, gD, gS, hT.2.2.2.2⟩
end LYG
end
section
theorem dX5_init_0 : decode cX5_init 0 = .ok (.aload_n 0, 1) := by decide +kernel
theorem dX5_init_1 : decode cX5_init 1 = .ok (.invokespecial 3, 3) := by decide +kernel
theorem dX5_init_4 : decode cX5_init 4 = .ok (.aload_n 0, 1) := by decide +kernel
theorem dX5_init_5 : decode cX5_init 5 = .ok (.bipush 6, 2) := by decide +kernel
theorem dX5_init_7 : decode cX5_init 7 = .ok (.newarray .int, 2) := by decide +kernel
theorem dX5_init_9 : decode cX5_init 9 = .ok (.putfield 9, 3) := by decide +kernel
theorem dX5_init_12 : decode cX5_init 12 = .ok (.aload_n 0, 1) := by decide +kernel
theorem dX5_init_13 : decode cX5_init 13 = .ok (.bipush 6, 2) := by decide +kernel
theorem dX5_init_15 : decode cX5_init 15 = .ok (.newarray .int, 2) := by decide +kernel
theorem dX5_init_17 : decode cX5_init 17 = .ok (.putfield 15, 3) := by decide +kernel
theorem dX5_init_20 : decode cX5_init 20 = .ok (.aload_n 0, 1) := by decide +kernel
theorem dX5_init_21 : decode cX5_init 21 = .ok (.iconst 0, 1) := by decide +kernel
theorem dX5_init_22 : decode cX5_init 22 = .ok (.putfield 18, 3) := by decide +kernel
theorem dX5_init_25 : decode cX5_init 25 = .ok (.aload_n 0, 1) := by decide +kernel
theorem dX5_init_26 : decode cX5_init 26 = .ok (.iconst 0, 1) := by decide +kernel
theorem dX5_init_27 : decode cX5_init 27 = .ok (.putfield 22, 3) := by decide +kernel
theorem dX5_init_30 : decode cX5_init 30 = .ok (.aload_n 0, 1) := by decide +kernel
theorem dX5_init_31 : decode cX5_init 31 = .ok (.iconst (-1), 1) := by decide +kernel
theorem dX5_init_32 : decode cX5_init 32 = .ok (.putfield 25, 3) := by decide +kernel
theorem dX5_init_35 : decode cX5_init 35 = .ok (.aload_n 0, 1) := by decide +kernel
theorem dX5_init_36 : decode cX5_init 36 = .ok (.iconst (-1), 1) := by decide +kernel
theorem dX5_init_37 : decode cX5_init 37 = .ok (.putfield 28, 3) := by decide +kernel
theorem dX5_init_40 : decode cX5_init 40 = .ok (.aload_n 0, 1) := by decide +kernel
theorem dX5_init_41 : decode cX5_init 41 = .ok (.bipush 9, 2) := by decide +kernel
theorem dX5_init_43 : decode cX5_init 43 = .ok (.bipush 100, 2) := by decide +kernel
theorem dX5_init_45 : decode cX5_init 45 = .ok (.multianewarray 31 2, 4) := by decide +kernel
theorem dX5_init_49 : decode cX5_init 49 = .ok (.putfield 33, 3) := by decide +kernel
theorem dX5_init_52 : decode cX5_init 52 = .ok (.aload_n 0, 1) := by decide +kernel
theorem dX5_init_53 : decode cX5_init 53 = .ok (.bipush 9, 2) := by decide +kernel
theorem dX5_init_55 : decode cX5_init 55 = .ok (.newarray .int, 2) := by decide +kernel
theorem dX5_init_57 : decode cX5_init 57 = .ok (.putfield 36, 3) := by decide +kernel
theorem dX5_init_60 : decode cX5_init 60 = .ok (.return_, 1) := by decide +kernel
set_option maxRecDepth 20000 in
theorem ggX7_init_X6_init : GoodIn wsX7_init wsX6_init := goodIn_r _ [33, 34, 2, 3, 35, 36, 37, 104, 105] (by decide +kernel) (by decide +kernel)
set_option maxRecDepth 20000 in
theorem gX7_init_X6_init_n9 : GoodIn wsX7_init (wsX6_init) := ggX7_init_X6_init
set_option maxRecDepth 20000 in
theorem ggX7_init_X1_init : GoodIn wsX7_init wsX1_init := goodIn_r _ [39, 40, 2, 3, 41, 42, 43, 44, 45, 46, 35, 47, 48, 49, 50, 51, 52, 53, 54, 55, 56, 113, 114, 115, 116, 117, 118, 119, 120, 121, 122, 123, 124, 125, 126, 127, 128] (by decide +kernel) (by decide +kernel)
set_option maxRecDepth 20000 in
theorem gX7_init_X1_init_n18 : GoodIn wsX7_init (wsX1_init) := ggX7_init_X1_init
set_option maxRecDepth 20000 in
theorem ggX7_init_X4_init : GoodIn wsX7_init wsX4_init := goodIn_r _ [58, 59, 2, 3, 60, 9, 10, 61, 62, 63, 64, 65, 38, 39, 40, 41, 42, 43, 44, 45, 46, 35, 47, 48, 49, 50, 51, 52, 53, 54, 55, 56, 113, 114, 115, 116, 117, 118, 119, 120, 121, 122, 123, 124, 125, 126, 127, 128, 129, 130, 131, 132, 133] (by decide +kernel) (by decide +kernel)
set_option maxRecDepth 20000 in
theorem gX7_init_X4_init_n25 : GoodIn wsX7_init (wsX4_init) := ggX7_init_X4_init
set_option maxRecDepth 20000 in
theorem ggX7_init_X3_init : GoodIn wsX7_init wsX3_init := goodIn_r _ [68, 69, 2, 3, 70, 71, 72, 73, 9, 10, 38, 39, 40, 41, 42, 43, 44, 45, 46, 35, 47, 48, 49, 50, 51, 52, 53, 54, 55, 56, 134, 135, 136, 113, 114, 115, 116, 117, 118, 119, 120, 121, 122, 123, 124, 125, 126, 127, 128] (by decide +kernel) (by decide +kernel)
set_option maxRecDepth 20000 in
theorem gX7_init_X3_init : GoodIn wsX7_init (wsX3_init) := ggX7_init_X3_init
set_option maxRecDepth 20000 in
theorem ggX7_init_X5_init : GoodIn wsX7_init wsX5_init := goodIn_r _ [75, 76, 2, 3, 35, 77, 78, 79, 80, 81, 82, 83, 84, 85, 137, 138, 139, 140, 141, 142, 143, 144] (by decide +kernel) (by decide +kernel)
set_option maxRecDepth 20000 in
theorem gX7_init_X5_init_n45 : GoodIn wsX7_init (wsX5_init) := ggX7_init_X5_init
set_option maxRecDepth 20000 in
theorem ggX7_init_X0_init : GoodIn wsX7_init wsX0_init := goodIn_r _ [87, 88, 2, 3, 89, 9, 10, 90, 35, 91, 92, 93, 94, 95, 38, 39, 40, 41, 42, 43, 44, 45, 46, 47, 48, 49, 50, 51, 52, 53, 54, 55, 56, 113, 114, 115, 116, 117, 118, 119, 120, 121, 122, 123, 124, 125, 126, 127, 128, 145, 146, 147, 148, 149, 150] (by decide +kernel) (by decide +kernel)
set_option maxRecDepth 20000 in
theorem gX7_init_X0_init_n52 : GoodIn wsX7_init (wsX0_init) := ggX7_init_X0_init
set_option maxRecDepth 20000 in
theorem ggX7_init_X2_init : GoodIn wsX7_init wsX2_init := goodIn_r _ [97, 98, 2, 3, 99, 9, 10, 100, 101, 5, 6, 102, 103, 38, 39, 40, 41, 42, 43, 44, 45, 46, 35, 47, 48, 49, 50, 51, 52, 53, 54, 55, 56, 32, 33, 34, 36, 37, 113, 114, 115, 116, 117, 118, 119, 120, 121, 122, 123, 124, 125, 126, 127, 128, 151, 152, 153, 104, 105] (by decide +kernel) (by decide +kernel)
set_option maxRecDepth 20000 in
theorem gX7_init_X2_init_n57 : GoodIn wsX7_init (wsX2_init) := ggX7_init_X2_init
theorem dX7_init_0 : decode cX7_init 0 = .ok (.aload_n 0, 1) := by decide +kernel
theorem dX7_init_1 : decode cX7_init 1 = .ok (.invokespecial 1, 3) := by decide +kernel
theorem dX7_init_4 : decode cX7_init 4 = .ok (.aload_n 0, 1) := by decide +kernel
theorem dX7_init_5 : decode cX7_init 5 = .ok (.new 7, 3) := by decide +kernel
theorem dX7_init_8 : decode cX7_init 8 = .ok (.dup, 1) := by decide +kernel
theorem dX7_init_9 : decode cX7_init 9 = .ok (.invokespecial 9, 3) := by decide +kernel
theorem dX7_init_12 : decode cX7_init 12 = .ok (.putfield 10, 3) := by decide +kernel
theorem dX7_init_15 : decode cX7_init 15 = .ok (.aload_n 0, 1) := by decide +kernel
theorem dX7_init_16 : decode cX7_init 16 = .ok (.new 16, 3) := by decide +kernel
theorem dX7_init_19 : decode cX7_init 19 = .ok (.dup, 1) := by decide +kernel
theorem dX7_init_20 : decode cX7_init 20 = .ok (.invokespecial 18, 3) := by decide +kernel
theorem dX7_init_23 : decode cX7_init 23 = .ok (.putfield 19, 3) := by decide +kernel
theorem dX7_init_26 : decode cX7_init 26 = .ok (.aload_n 0, 1) := by decide +kernel
theorem dX7_init_27 : decode cX7_init 27 = .ok (.new 23, 3) := by decide +kernel
theorem dX7_init_30 : decode cX7_init 30 = .ok (.dup, 1) := by decide +kernel
theorem dX7_init_31 : decode cX7_init 31 = .ok (.invokespecial 25, 3) := by decide +kernel
theorem dX7_init_34 : decode cX7_init 34 = .ok (.putfield 26, 3) := by decide +kernel
theorem dX7_init_37 : decode cX7_init 37 = .ok (.aload_n 0, 1) := by decide +kernel
theorem dX7_init_38 : decode cX7_init 38 = .ok (.new 30, 3) := by decide +kernel
theorem dX7_init_41 : decode cX7_init 41 = .ok (.dup, 1) := by decide +kernel
theorem dX7_init_42 : decode cX7_init 42 = .ok (.invokespecial 32, 3) := by decide +kernel
theorem dX7_init_45 : decode cX7_init 45 = .ok (.putfield 33, 3) := by decide +kernel
theorem dX7_init_48 : decode cX7_init 48 = .ok (.aload_n 0, 1) := by decide +kernel
theorem dX7_init_49 : decode cX7_init 49 = .ok (.iconst 2, 1) := by decide +kernel
theorem dX7_init_50 : decode cX7_init 50 = .ok (.anewarray 37, 3) := by decide +kernel
theorem dX7_init_53 : decode cX7_init 53 = .ok (.putfield 39, 3) := by decide +kernel
theorem dX7_init_56 : decode cX7_init 56 = .ok (.aload_n 0, 1) := by decide +kernel
theorem dX7_init_57 : decode cX7_init 57 = .ok (.new 43, 3) := by decide +kernel
theorem dX7_init_60 : decode cX7_init 60 = .ok (.dup, 1) := by decide +kernel
theorem dX7_init_61 : decode cX7_init 61 = .ok (.invokespecial 45, 3) := by decide +kernel
theorem dX7_init_64 : decode cX7_init 64 = .ok (.putfield 46, 3) := by decide +kernel
theorem dX7_init_67 : decode cX7_init 67 = .ok (.aload_n 0, 1) := by decide +kernel
theorem dX7_init_68 : decode cX7_init 68 = .ok (.new 50, 3) := by decide +kernel
theorem dX7_init_71 : decode cX7_init 71 = .ok (.dup, 1) := by decide +kernel
theorem dX7_init_72 : decode cX7_init 72 = .ok (.invokespecial 52, 3) := by decide +kernel
theorem dX7_init_75 : decode cX7_init 75 = .ok (.putfield 53, 3) := by decide +kernel
theorem dX7_init_78 : decode cX7_init 78 = .ok (.iconst 0, 1) := by decide +kernel
theorem dX7_init_79 : decode cX7_init 79 = .ok (.istore_n 1, 1) := by decide +kernel
theorem dX7_init_80 : decode cX7_init 80 = .ok (.iload_n 1, 1) := by decide +kernel
theorem dX7_init_81 : decode cX7_init 81 = .ok (.iconst 2, 1) := by decide +kernel
theorem dX7_init_82 : decode cX7_init 82 = .ok (.if_icmp .ge 22, 3) := by decide +kernel
theorem dX7_init_85 : decode cX7_init 85 = .ok (.aload_n 0, 1) := by decide +kernel
theorem dX7_init_86 : decode cX7_init 86 = .ok (.getfield 39, 3) := by decide +kernel
theorem dX7_init_89 : decode cX7_init 89 = .ok (.iload_n 1, 1) := by decide +kernel
theorem dX7_init_90 : decode cX7_init 90 = .ok (.new 37, 3) := by decide +kernel
theorem dX7_init_93 : decode cX7_init 93 = .ok (.dup, 1) := by decide +kernel
theorem dX7_init_94 : decode cX7_init 94 = .ok (.invokespecial 57, 3) := by decide +kernel
theorem dX7_init_97 : decode cX7_init 97 = .ok (.aastore, 1) := by decide +kernel
theorem dX7_init_98 : decode cX7_init 98 = .ok (.iinc 1 1, 3) := by decide +kernel
theorem dX7_init_101 : decode cX7_init 101 = .ok (.goto (-21), 3) := by decide +kernel
theorem dX7_init_104 : decode cX7_init 104 = .ok (.return_, 1) := by decide +kernel
set_option maxHeartbeats 4000000 in
set_option maxRecDepth 100000 in
/-- Sightings() -/
theorem c_Sight_init (l : Launch) (D : va_G) (g : Nat → ClassId) (h0 : Nat) : CtV l yX5_init wsX5_init { frames := 1, cells := 13, slots := 930, locals := 12 } D (TY g) [.ref h0] Ev [(h0, .inr (5, [.null, .null, .int 0, .int 0, .int 0, .int 0, .null, .null]))] (fun z : (Nat → Nat) × (Nat → Option Nat) => ∀ k, k < 9 → z.2 k = some (z.1 (4 + k))) (fun z : (Nat → Nat) × (Nat → Option Nat) => [(h0, .inr (5, [.ref (z.1 0), .ref (z.1 1), .int 0, .int 0, .int (-1), .int (-1), .ref (z.1 2), .ref (z.1 3)])), ((z.1 0), .inl (g 0, 6, .inl (fun _ => 0))), ((z.1 1), .inl (g 0, 6, .inl (fun _ => 0))), ((z.1 2), .inl (g 4, 9, .inr (.inr (.inr (.inr z.2))))), ((z.1 3), .inl (g 0, 9, .inl (fun _ => 0))), ((z.1 4), .inl (g 0, 100, .inl (fun _ => 0))), ((z.1 5), .inl (g 0, 100, .inl (fun _ => 0))), ((z.1 6), .inl (g 0, 100, .inl (fun _ => 0))), ((z.1 7), .inl (g 0, 100, .inl (fun _ => 0))), ((z.1 8), .inl (g 0, 100, .inl (fun _ => 0))), ((z.1 9), .inl (g 0, 100, .inl (fun _ => 0))), ((z.1 10), .inl (g 0, 100, .inl (fun _ => 0))), ((z.1 11), .inl (g 0, 100, .inl (fun _ => 0))), ((z.1 12), .inl (g 0, 100, .inl (fun _ => 0)))]) := by
  refine CtV.intro (cc := cX5_init) (maxL := 1) (ret := none) rfl (by decide +kernel) (Nat.le_of_ble_eq_true rfl) ?_
  intro p e s m below meth c A ls C hmn hX hAe hT hl
  have hx := C.1.1
  have hb := C.1.2.1
  have hl : lv_has ls 1 [(0, .ref h0)] := hl
  have hin5 : ∀ w ∈ u_ws RX5 TX5 8, w ∈ wsX5_init := by decide +kernel
  refine lv_aload_n hx hb dX5_init_0 rfl (lv_at hl 0 rfl) ?_
  refine z_objInit C (by decide +kernel) (by decide +kernel) (by decide +kernel) hl.1 dX5_init_1 (Nat.le_of_ble_eq_true rfl) (Nat.le_of_ble_eq_true rfl) ?_
  refine lv_aload_n hx hb dX5_init_4 rfl (lv_at hl 0 rfl) ?_
  refine lv_bipush (v := 6) hx hb dX5_init_5 (by decide +kernel) ?_
  refine z_new0 C hT 0 6 (by decide +kernel) rfl (by decide +kernel) (by decide +kernel) (by decide +kernel) (Nat.le_of_ble_eq_true rfl) (Nat.le_of_ble_eq_true rfl) dX5_init_7 (fun q_1 H hT => ?_)
  have hT : Sit D (TY g) A s [(h0, .inr (5, [.null, .null, .int 0, .int 0, .int 0, .int 0, .null, .null])), (q_1, .inl (g 0, 6, .inl (fun _ => 0)))] H _ := hT
  refine z_putF C (ci := 5) (N := 8) rfl hin5 tyX5_ok nmX5 hT 0 0 rfl (Nat.le_of_ble_eq_true rfl) (by decide +kernel) (by decide +kernel) rfl hmn rfl rfl rfl dX5_init_9 [(h0, .inr (5, [.ref q_1, .null, .int 0, .int 0, .int 0, .int 0, .null, .null])), (q_1, .inl (g 0, 6, .inl (fun _ => 0)))] rfl (fun H locs hT => ?_)
  refine lv_aload_n hx hb dX5_init_12 rfl (lv_at hl 0 rfl) ?_
  refine lv_bipush (v := 6) hx hb dX5_init_13 (by decide +kernel) ?_
  refine z_new0 C hT 0 6 (by decide +kernel) rfl (by decide +kernel) (by decide +kernel) (by decide +kernel) (Nat.le_of_ble_eq_true rfl) (Nat.le_of_ble_eq_true rfl) dX5_init_15 (fun q_2 H hT => ?_)
  have hT : Sit D (TY g) A s [(h0, .inr (5, [.ref q_1, .null, .int 0, .int 0, .int 0, .int 0, .null, .null])), (q_1, .inl (g 0, 6, .inl (fun _ => 0))), (q_2, .inl (g 0, 6, .inl (fun _ => 0)))] H _ := hT
  refine z_putF C (ci := 5) (N := 8) rfl hin5 tyX5_ok nmX5 hT 0 1 rfl (Nat.le_of_ble_eq_true rfl) (by decide +kernel) (by decide +kernel) rfl hmn rfl rfl rfl dX5_init_17 [(h0, .inr (5, [.ref q_1, .ref q_2, .int 0, .int 0, .int 0, .int 0, .null, .null])), (q_1, .inl (g 0, 6, .inl (fun _ => 0))), (q_2, .inl (g 0, 6, .inl (fun _ => 0)))] rfl (fun H locs hT => ?_)
  refine lv_aload_n hx hb dX5_init_20 rfl (lv_at hl 0 rfl) ?_
  refine lv_iconst (v := 0) hx hb dX5_init_21 (by decide +kernel) ?_
  refine z_put C (ci := 5) (N := 8) rfl hin5 tyX5_ok nmX5 hT 0 2 rfl (Nat.le_of_ble_eq_true rfl) (by decide +kernel) (by decide +kernel) rfl rfl rfl dX5_init_22 [(h0, .inr (5, [.ref q_1, .ref q_2, .int 0, .int 0, .int 0, .int 0, .null, .null])), (q_1, .inl (g 0, 6, .inl (fun _ => 0))), (q_2, .inl (g 0, 6, .inl (fun _ => 0)))] rfl (fun H locs hT => ?_)
  refine lv_aload_n hx hb dX5_init_25 rfl (lv_at hl 0 rfl) ?_
  refine lv_iconst (v := 0) hx hb dX5_init_26 (by decide +kernel) ?_
  refine z_put C (ci := 5) (N := 8) rfl hin5 tyX5_ok nmX5 hT 0 3 rfl (Nat.le_of_ble_eq_true rfl) (by decide +kernel) (by decide +kernel) rfl rfl rfl dX5_init_27 [(h0, .inr (5, [.ref q_1, .ref q_2, .int 0, .int 0, .int 0, .int 0, .null, .null])), (q_1, .inl (g 0, 6, .inl (fun _ => 0))), (q_2, .inl (g 0, 6, .inl (fun _ => 0)))] rfl (fun H locs hT => ?_)
  refine lv_aload_n hx hb dX5_init_30 rfl (lv_at hl 0 rfl) ?_
  refine lv_iconst (v := (-1)) hx hb dX5_init_31 (by decide +kernel) ?_
  refine z_put C (ci := 5) (N := 8) rfl hin5 tyX5_ok nmX5 hT 0 4 rfl (Nat.le_of_ble_eq_true rfl) (by decide +kernel) (by decide +kernel) rfl rfl rfl dX5_init_32 [(h0, .inr (5, [.ref q_1, .ref q_2, .int 0, .int 0, .int (-1), .int 0, .null, .null])), (q_1, .inl (g 0, 6, .inl (fun _ => 0))), (q_2, .inl (g 0, 6, .inl (fun _ => 0)))] rfl (fun H locs hT => ?_)
  refine lv_aload_n hx hb dX5_init_35 rfl (lv_at hl 0 rfl) ?_
  refine lv_iconst (v := (-1)) hx hb dX5_init_36 (by decide +kernel) ?_
  refine z_put C (ci := 5) (N := 8) rfl hin5 tyX5_ok nmX5 hT 0 5 rfl (Nat.le_of_ble_eq_true rfl) (by decide +kernel) (by decide +kernel) rfl rfl rfl dX5_init_37 [(h0, .inr (5, [.ref q_1, .ref q_2, .int 0, .int 0, .int (-1), .int (-1), .null, .null])), (q_1, .inl (g 0, 6, .inl (fun _ => 0))), (q_2, .inl (g 0, 6, .inl (fun _ => 0)))] rfl (fun H locs hT => ?_)
  refine lv_aload_n hx hb dX5_init_40 rfl (lv_at hl 0 rfl) ?_
  refine lv_bipush (v := 9) hx hb dX5_init_41 (by decide +kernel) ?_
  refine lv_bipush (v := 100) hx hb dX5_init_43 (by decide +kernel) ?_
  refine z_grid C hT 4 0 9 100 (by decide +kernel) hX.2.2.1 (by decide +kernel) rfl rfl (by decide +kernel) (by decide +kernel) (by decide +kernel) (by decide +kernel) (by decide +kernel) (by decide +kernel) (by decide +kernel) (Nat.le_of_ble_eq_true rfl) (Nat.le_of_ble_eq_true rfl) dX5_init_45 (fun q_3 rw_4 H hT => ?_)
  have hT : Sit D (TY g) A s [(h0, .inr (5, [.ref q_1, .ref q_2, .int 0, .int 0, .int (-1), .int (-1), .null, .null])), (q_1, .inl (g 0, 6, .inl (fun _ => 0))), (q_2, .inl (g 0, 6, .inl (fun _ => 0))), (q_3, .inl (g 4, 9, .inr (.inr (.inr (.inr (fun i => if i < 9 then some (rw_4 i) else none)))))), ((rw_4 0), .inl (g 0, 100, .inl (fun _ => 0))), ((rw_4 1), .inl (g 0, 100, .inl (fun _ => 0))), ((rw_4 2), .inl (g 0, 100, .inl (fun _ => 0))), ((rw_4 3), .inl (g 0, 100, .inl (fun _ => 0))), ((rw_4 4), .inl (g 0, 100, .inl (fun _ => 0))), ((rw_4 5), .inl (g 0, 100, .inl (fun _ => 0))), ((rw_4 6), .inl (g 0, 100, .inl (fun _ => 0))), ((rw_4 7), .inl (g 0, 100, .inl (fun _ => 0))), ((rw_4 8), .inl (g 0, 100, .inl (fun _ => 0)))] H _ := hT
  refine z_putF C (ci := 5) (N := 8) rfl hin5 tyX5_ok nmX5 hT 0 6 rfl (Nat.le_of_ble_eq_true rfl) (by decide +kernel) (by decide +kernel) rfl hmn rfl rfl rfl dX5_init_49 [(h0, .inr (5, [.ref q_1, .ref q_2, .int 0, .int 0, .int (-1), .int (-1), .ref q_3, .null])), (q_1, .inl (g 0, 6, .inl (fun _ => 0))), (q_2, .inl (g 0, 6, .inl (fun _ => 0))), (q_3, .inl (g 4, 9, .inr (.inr (.inr (.inr (fun i => if i < 9 then some (rw_4 i) else none)))))), ((rw_4 0), .inl (g 0, 100, .inl (fun _ => 0))), ((rw_4 1), .inl (g 0, 100, .inl (fun _ => 0))), ((rw_4 2), .inl (g 0, 100, .inl (fun _ => 0))), ((rw_4 3), .inl (g 0, 100, .inl (fun _ => 0))), ((rw_4 4), .inl (g 0, 100, .inl (fun _ => 0))), ((rw_4 5), .inl (g 0, 100, .inl (fun _ => 0))), ((rw_4 6), .inl (g 0, 100, .inl (fun _ => 0))), ((rw_4 7), .inl (g 0, 100, .inl (fun _ => 0))), ((rw_4 8), .inl (g 0, 100, .inl (fun _ => 0)))] rfl (fun H locs hT => ?_)
  refine lv_aload_n hx hb dX5_init_52 rfl (lv_at hl 0 rfl) ?_
  refine lv_bipush (v := 9) hx hb dX5_init_53 (by decide +kernel) ?_
  refine z_new0 C hT 0 9 (by decide +kernel) rfl (by decide +kernel) (by decide +kernel) (by decide +kernel) (Nat.le_of_ble_eq_true rfl) (Nat.le_of_ble_eq_true rfl) dX5_init_55 (fun q_5 H hT => ?_)
  have hT : Sit D (TY g) A s [(h0, .inr (5, [.ref q_1, .ref q_2, .int 0, .int 0, .int (-1), .int (-1), .ref q_3, .null])), (q_1, .inl (g 0, 6, .inl (fun _ => 0))), (q_2, .inl (g 0, 6, .inl (fun _ => 0))), (q_3, .inl (g 4, 9, .inr (.inr (.inr (.inr (fun i => if i < 9 then some (rw_4 i) else none)))))), ((rw_4 0), .inl (g 0, 100, .inl (fun _ => 0))), ((rw_4 1), .inl (g 0, 100, .inl (fun _ => 0))), ((rw_4 2), .inl (g 0, 100, .inl (fun _ => 0))), ((rw_4 3), .inl (g 0, 100, .inl (fun _ => 0))), ((rw_4 4), .inl (g 0, 100, .inl (fun _ => 0))), ((rw_4 5), .inl (g 0, 100, .inl (fun _ => 0))), ((rw_4 6), .inl (g 0, 100, .inl (fun _ => 0))), ((rw_4 7), .inl (g 0, 100, .inl (fun _ => 0))), ((rw_4 8), .inl (g 0, 100, .inl (fun _ => 0))), (q_5, .inl (g 0, 9, .inl (fun _ => 0)))] H _ := hT
  refine z_putF C (ci := 5) (N := 8) rfl hin5 tyX5_ok nmX5 hT 0 7 rfl (Nat.le_of_ble_eq_true rfl) (by decide +kernel) (by decide +kernel) rfl hmn rfl rfl rfl dX5_init_57 [(h0, .inr (5, [.ref q_1, .ref q_2, .int 0, .int 0, .int (-1), .int (-1), .ref q_3, .ref q_5])), (q_1, .inl (g 0, 6, .inl (fun _ => 0))), (q_2, .inl (g 0, 6, .inl (fun _ => 0))), (q_3, .inl (g 4, 9, .inr (.inr (.inr (.inr (fun i => if i < 9 then some (rw_4 i) else none)))))), ((rw_4 0), .inl (g 0, 100, .inl (fun _ => 0))), ((rw_4 1), .inl (g 0, 100, .inl (fun _ => 0))), ((rw_4 2), .inl (g 0, 100, .inl (fun _ => 0))), ((rw_4 3), .inl (g 0, 100, .inl (fun _ => 0))), ((rw_4 4), .inl (g 0, 100, .inl (fun _ => 0))), ((rw_4 5), .inl (g 0, 100, .inl (fun _ => 0))), ((rw_4 6), .inl (g 0, 100, .inl (fun _ => 0))), ((rw_4 7), .inl (g 0, 100, .inl (fun _ => 0))), ((rw_4 8), .inl (g 0, 100, .inl (fun _ => 0))), (q_5, .inl (g 0, 9, .inl (fun _ => 0)))] rfl (fun H locs hT => ?_)
  exact z_vret C rfl hT ((fun k => ([q_1, q_2, q_3, q_5, (rw_4 0), (rw_4 1), (rw_4 2), (rw_4 3), (rw_4 4), (rw_4 5), (rw_4 6), (rw_4 7), (rw_4 8)] : List Nat).getD k 0), (fun i => if i < 9 then some (rw_4 i) else none)) (fun k hk => by rcases (show k = 0 ∨ k = 1 ∨ k = 2 ∨ k = 3 ∨ k = 4 ∨ k = 5 ∨ k = 6 ∨ k = 7 ∨ k = 8 by omega) with rfl | rfl | rfl | rfl | rfl | rfl | rfl | rfl | rfl <;> rfl) [0, 1, 2, 3, 13, 4, 5, 6, 7, 8, 9, 10, 11, 12] rfl rfl (Nat.le_of_ble_eq_true rfl) (Nat.le_of_ble_eq_true rfl) dX5_init_60

/-- a new pot's told cells: the first hall that could be undone, the places to keep, the rows of bounds -/
def potF (u : Nat → Nat) (pf kf bf : Nat → Option Nat) : Prop := pf 0 = some (u 30) ∧ kf 0 = some (u 41) ∧ kf 1 = some (u 55) ∧ ∀ k, k < 9 → bf k = some (u (73 + k))
abbrev potW (g : Nat → ClassId) (x : Nat) (u : Nat → Nat) (pf kf bf : Nat → Option Nat) : va_W := [(x, .inr (7, [.ref (u 0), .ref (u 1), .ref (u 2), .ref (u 3), .ref (u 4), .ref (u 5), .ref (u 6)])), ((u 0), .inr (6, [.ref (u 7), .int 0])), ((u 7), .inl (g 0, 160, .inl (fun _ => 0))), ((u 1), .inr (1, [.int 5, .int 40, .int 8, .int 0, .int 0, .int 0, .ref (u 8), .ref (u 9), .ref (u 10), .ref (u 11), .ref (u 12), .ref (u 13), .ref (u 14), .ref (u 15), .ref (u 16), .ref (u 17)])), ((u 8), .inl (g 0, 6, .inl (fun _ => 0))), ((u 9), .inl (g 0, 6, .inl (fun _ => 0))), ((u 10), .inl (g 0, 6, .inl (fun _ => 0))), ((u 11), .inl (g 0, 6, .inl (fun _ => 0))), ((u 12), .inl (g 0, 6, .inl (fun _ => 0))), ((u 13), .inl (g 0, 6, .inl (fun _ => 0))), ((u 14), .inl (g 0, 6, .inl (fun _ => 0))), ((u 15), .inl (g 0, 6, .inl (fun _ => 0))), ((u 16), .inl (g 0, 6, .inl (fun _ => 0))), ((u 2), .inr (4, [.ref (u 18), .int 0, .int 0, .int 0, .int 0])), ((u 18), .inr (1, [.int 5, .int 40, .int 8, .int 0, .int 0, .int 0, .ref (u 19), .ref (u 20), .ref (u 21), .ref (u 22), .ref (u 23), .ref (u 24), .ref (u 25), .ref (u 26), .ref (u 27), .ref (u 28)])), ((u 19), .inl (g 0, 6, .inl (fun _ => 0))), ((u 20), .inl (g 0, 6, .inl (fun _ => 0))), ((u 21), .inl (g 0, 6, .inl (fun _ => 0))), ((u 22), .inl (g 0, 6, .inl (fun _ => 0))), ((u 23), .inl (g 0, 6, .inl (fun _ => 0))), ((u 24), .inl (g 0, 6, .inl (fun _ => 0))), ((u 25), .inl (g 0, 6, .inl (fun _ => 0))), ((u 26), .inl (g 0, 6, .inl (fun _ => 0))), ((u 27), .inl (g 0, 6, .inl (fun _ => 0))), ((u 3), .inr (3, [.ref (u 29), .int 0, .int 0])), ((u 29), .inl (g 2, 8, .inr (.inr (.inr (.inr pf))))), ((u 30), .inr (1, [.int 5, .int 40, .int 8, .int 0, .int 0, .int 0, .ref (u 31), .ref (u 32), .ref (u 33), .ref (u 34), .ref (u 35), .ref (u 36), .ref (u 37), .ref (u 38), .ref (u 39), .ref (u 40)])), ((u 31), .inl (g 0, 6, .inl (fun _ => 0))), ((u 32), .inl (g 0, 6, .inl (fun _ => 0))), ((u 33), .inl (g 0, 6, .inl (fun _ => 0))), ((u 34), .inl (g 0, 6, .inl (fun _ => 0))), ((u 35), .inl (g 0, 6, .inl (fun _ => 0))), ((u 36), .inl (g 0, 6, .inl (fun _ => 0))), ((u 37), .inl (g 0, 6, .inl (fun _ => 0))), ((u 38), .inl (g 0, 6, .inl (fun _ => 0))), ((u 39), .inl (g 0, 6, .inl (fun _ => 0))), ((u 4), .inl (g 3, 2, .inr (.inr (.inr (.inr kf))))), ((u 41), .inr (2, [.ref (u 42), .ref (u 43), .int 0])), ((u 42), .inr (1, [.int 5, .int 40, .int 8, .int 0, .int 0, .int 0, .ref (u 44), .ref (u 45), .ref (u 46), .ref (u 47), .ref (u 48), .ref (u 49), .ref (u 50), .ref (u 51), .ref (u 52), .ref (u 53)])), ((u 44), .inl (g 0, 6, .inl (fun _ => 0))), ((u 45), .inl (g 0, 6, .inl (fun _ => 0))), ((u 46), .inl (g 0, 6, .inl (fun _ => 0))), ((u 47), .inl (g 0, 6, .inl (fun _ => 0))), ((u 48), .inl (g 0, 6, .inl (fun _ => 0))), ((u 49), .inl (g 0, 6, .inl (fun _ => 0))), ((u 50), .inl (g 0, 6, .inl (fun _ => 0))), ((u 51), .inl (g 0, 6, .inl (fun _ => 0))), ((u 52), .inl (g 0, 6, .inl (fun _ => 0))), ((u 43), .inr (6, [.ref (u 54), .int 0])), ((u 54), .inl (g 0, 160, .inl (fun _ => 0))), ((u 55), .inr (2, [.ref (u 56), .ref (u 57), .int 0])), ((u 56), .inr (1, [.int 5, .int 40, .int 8, .int 0, .int 0, .int 0, .ref (u 58), .ref (u 59), .ref (u 60), .ref (u 61), .ref (u 62), .ref (u 63), .ref (u 64), .ref (u 65), .ref (u 66), .ref (u 67)])), ((u 58), .inl (g 0, 6, .inl (fun _ => 0))), ((u 59), .inl (g 0, 6, .inl (fun _ => 0))), ((u 60), .inl (g 0, 6, .inl (fun _ => 0))), ((u 61), .inl (g 0, 6, .inl (fun _ => 0))), ((u 62), .inl (g 0, 6, .inl (fun _ => 0))), ((u 63), .inl (g 0, 6, .inl (fun _ => 0))), ((u 64), .inl (g 0, 6, .inl (fun _ => 0))), ((u 65), .inl (g 0, 6, .inl (fun _ => 0))), ((u 66), .inl (g 0, 6, .inl (fun _ => 0))), ((u 57), .inr (6, [.ref (u 68), .int 0])), ((u 68), .inl (g 0, 160, .inl (fun _ => 0))), ((u 5), .inr (5, [.ref (u 69), .ref (u 70), .int 0, .int 0, .int (-1), .int (-1), .ref (u 71), .ref (u 72)])), ((u 69), .inl (g 0, 6, .inl (fun _ => 0))), ((u 70), .inl (g 0, 6, .inl (fun _ => 0))), ((u 71), .inl (g 4, 9, .inr (.inr (.inr (.inr bf))))), ((u 72), .inl (g 0, 9, .inl (fun _ => 0))), ((u 73), .inl (g 0, 100, .inl (fun _ => 0))), ((u 74), .inl (g 0, 100, .inl (fun _ => 0))), ((u 75), .inl (g 0, 100, .inl (fun _ => 0))), ((u 76), .inl (g 0, 100, .inl (fun _ => 0))), ((u 77), .inl (g 0, 100, .inl (fun _ => 0))), ((u 78), .inl (g 0, 100, .inl (fun _ => 0))), ((u 79), .inl (g 0, 100, .inl (fun _ => 0))), ((u 80), .inl (g 0, 100, .inl (fun _ => 0))), ((u 81), .inl (g 0, 100, .inl (fun _ => 0)))]
set_option maxHeartbeats 4000000 in
set_option maxRecDepth 100000 in
/-- CowardsPot(): a new pot -/
theorem c_Pot_init (l : Launch) (D : va_G) (g : Nat → ClassId) (h0 : Nat) : CtV l yX7_init wsX7_init { frames := 3, cells := 173, slots := 2454, locals := 60 } D (TY g) [.ref h0] Ev [(h0, .inr (7, [.null, .null, .null, .null, .null, .null, .null]))] (fun z : (Nat → Nat) × (Nat → Option Nat) × (Nat → Option Nat) × (Nat → Option Nat) => potF z.1 z.2.1 z.2.2.1 z.2.2.2) (fun z : (Nat → Nat) × (Nat → Option Nat) × (Nat → Option Nat) × (Nat → Option Nat) => potW g h0 z.1 z.2.1 z.2.2.1 z.2.2.2) := by
  refine CtV.intro (cc := cX7_init) (maxL := 2) (ret := none) rfl (by decide +kernel) (Nat.le_of_ble_eq_true rfl) ?_
  intro p e s m below meth c A ls C hmn hX hAe hT hl
  have hx := C.1.1
  have hb := C.1.2.1
  have hl : lv_has ls 2 [(0, .ref h0)] := hl
  have hin0 : ∀ w ∈ u_ws RX0 TX0 6, w ∈ wsX7_init := by decide +kernel
  have hin1 : ∀ w ∈ u_ws RX1 TX1 16, w ∈ wsX7_init := by decide +kernel
  have hin2 : ∀ w ∈ u_ws RX2 TX2 3, w ∈ wsX7_init := by decide +kernel
  have hin3 : ∀ w ∈ u_ws RX3 TX3 3, w ∈ wsX7_init := by decide +kernel
  have hin4 : ∀ w ∈ u_ws RX4 TX4 5, w ∈ wsX7_init := by decide +kernel
  have hin5 : ∀ w ∈ u_ws RX5 TX5 8, w ∈ wsX7_init := by decide +kernel
  have hin6 : ∀ w ∈ u_ws RX6 TX6 2, w ∈ wsX7_init := by decide +kernel
  have hin7 : ∀ w ∈ u_ws RX7 TX7 7, w ∈ wsX7_init := by decide +kernel
  refine lv_aload_n hx hb dX7_init_0 rfl (lv_at hl 0 rfl) ?_
  refine z_objInit C (by decide +kernel) (by decide +kernel) (by decide +kernel) hl.1 dX7_init_1 (Nat.le_of_ble_eq_true rfl) (Nat.le_of_ble_eq_true rfl) ?_
  refine lv_aload_n hx hb dX7_init_4 rfl (lv_at hl 0 rfl) ?_
  refine z_new C (ci := 6) (N := 2) rfl hin6 tyX6_ok hT [.null, .int 0] (by decide +kernel) (by decide +kernel) (by decide +kernel) (by decide +kernel) (Nat.le_of_ble_eq_true rfl) (Nat.le_of_ble_eq_true rfl) dX7_init_5 (fun q_1 H hT => ?_)
  have hT : Sit D (TY g) A s [(h0, .inr (7, [.null, .null, .null, .null, .null, .null, .null])), (q_1, .inr (6, [.null, .int 0]))] H _ := hT
  refine lv_dup hx hb dX7_init_8 rfl ?_
  refine z_callIN (wr := [(h0, .inr (7, [.null, .null, .null, .null, .null, .null, .null]))]) C (c_Text_init l D g q_1) gX7_init_X6_init_n9 rfl (hX.nw 0 rfl) (by decide +kernel) (by decide +kernel) rfl (by decide +kernel) ⟨Nat.le_of_ble_eq_true rfl, Nat.le_of_ble_eq_true rfl⟩ ⟨Nat.le_of_ble_eq_true rfl, Nat.le_of_ble_eq_true rfl⟩ blind_T (fun _ _ _ => trivial) hT [1] [0] rfl rfl rfl rfl rfl rfl hl.1 rfl (Nat.le_of_ble_eq_true rfl) dX7_init_9 (fun u_2 H locs hp_3 hT => ?_)
  have hT : Sit D (TY g) A s [(h0, .inr (7, [.null, .null, .null, .null, .null, .null, .null])), (q_1, .inr (6, [.ref (u_2 0), .int 0])), ((u_2 0), .inl (g 0, 160, .inl (fun _ => 0)))] H _ := hT
  refine z_putF C (ci := 7) (N := 7) rfl hin7 tyX7_ok nmX7 hT 0 0 rfl (Nat.le_of_ble_eq_true rfl) (by decide +kernel) (by decide +kernel) rfl hmn rfl rfl rfl dX7_init_12 [(h0, .inr (7, [.ref q_1, .null, .null, .null, .null, .null, .null])), (q_1, .inr (6, [.ref (u_2 0), .int 0])), ((u_2 0), .inl (g 0, 160, .inl (fun _ => 0)))] rfl (fun H locs hT => ?_)
  refine lv_aload_n hx hb dX7_init_15 rfl (lv_at hl 0 rfl) ?_
  refine z_new C (ci := 1) (N := 16) rfl hin1 tyX1_ok hT [.int 0, .int 0, .int 0, .int 0, .int 0, .int 0, .null, .null, .null, .null, .null, .null, .null, .null, .null, .null] (by decide +kernel) (by decide +kernel) (by decide +kernel) (by decide +kernel) (Nat.le_of_ble_eq_true rfl) (Nat.le_of_ble_eq_true rfl) dX7_init_16 (fun q_4 H hT => ?_)
  have hT : Sit D (TY g) A s [(h0, .inr (7, [.ref q_1, .null, .null, .null, .null, .null, .null])), (q_1, .inr (6, [.ref (u_2 0), .int 0])), ((u_2 0), .inl (g 0, 160, .inl (fun _ => 0))), (q_4, .inr (1, [.int 0, .int 0, .int 0, .int 0, .int 0, .int 0, .null, .null, .null, .null, .null, .null, .null, .null, .null, .null]))] H _ := hT
  refine lv_dup hx hb dX7_init_19 rfl ?_
  refine z_callIN (wr := [(h0, .inr (7, [.ref q_1, .null, .null, .null, .null, .null, .null])), (q_1, .inr (6, [.ref (u_2 0), .int 0])), ((u_2 0), .inl (g 0, 160, .inl (fun _ => 0)))]) C (c_Hall_init l D g q_4) gX7_init_X1_init_n18 rfl (hX.nw 1 rfl) (by decide +kernel) (by decide +kernel) rfl (by decide +kernel) ⟨Nat.le_of_ble_eq_true rfl, Nat.le_of_ble_eq_true rfl⟩ ⟨Nat.le_of_ble_eq_true rfl, Nat.le_of_ble_eq_true rfl⟩ blind_T (fun _ _ _ => trivial) hT [3] [0, 1, 2] rfl rfl rfl rfl rfl rfl hl.1 rfl (Nat.le_of_ble_eq_true rfl) dX7_init_20 (fun u_5 H locs hp_6 hT => ?_)
  have hT : Sit D (TY g) A s [(h0, .inr (7, [.ref q_1, .null, .null, .null, .null, .null, .null])), (q_1, .inr (6, [.ref (u_2 0), .int 0])), ((u_2 0), .inl (g 0, 160, .inl (fun _ => 0))), (q_4, .inr (1, [.int 5, .int 40, .int 8, .int 0, .int 0, .int 0, .ref (u_5 0), .ref (u_5 1), .ref (u_5 2), .ref (u_5 3), .ref (u_5 4), .ref (u_5 5), .ref (u_5 6), .ref (u_5 7), .ref (u_5 8), .ref (u_5 9)])), ((u_5 0), .inl (g 0, 6, .inl (fun _ => 0))), ((u_5 1), .inl (g 0, 6, .inl (fun _ => 0))), ((u_5 2), .inl (g 0, 6, .inl (fun _ => 0))), ((u_5 3), .inl (g 0, 6, .inl (fun _ => 0))), ((u_5 4), .inl (g 0, 6, .inl (fun _ => 0))), ((u_5 5), .inl (g 0, 6, .inl (fun _ => 0))), ((u_5 6), .inl (g 0, 6, .inl (fun _ => 0))), ((u_5 7), .inl (g 0, 6, .inl (fun _ => 0))), ((u_5 8), .inl (g 0, 6, .inl (fun _ => 0)))] H _ := hT
  refine z_putF C (ci := 7) (N := 7) rfl hin7 tyX7_ok nmX7 hT 0 1 rfl (Nat.le_of_ble_eq_true rfl) (by decide +kernel) (by decide +kernel) rfl hmn rfl rfl rfl dX7_init_23 [(h0, .inr (7, [.ref q_1, .ref q_4, .null, .null, .null, .null, .null])), (q_1, .inr (6, [.ref (u_2 0), .int 0])), ((u_2 0), .inl (g 0, 160, .inl (fun _ => 0))), (q_4, .inr (1, [.int 5, .int 40, .int 8, .int 0, .int 0, .int 0, .ref (u_5 0), .ref (u_5 1), .ref (u_5 2), .ref (u_5 3), .ref (u_5 4), .ref (u_5 5), .ref (u_5 6), .ref (u_5 7), .ref (u_5 8), .ref (u_5 9)])), ((u_5 0), .inl (g 0, 6, .inl (fun _ => 0))), ((u_5 1), .inl (g 0, 6, .inl (fun _ => 0))), ((u_5 2), .inl (g 0, 6, .inl (fun _ => 0))), ((u_5 3), .inl (g 0, 6, .inl (fun _ => 0))), ((u_5 4), .inl (g 0, 6, .inl (fun _ => 0))), ((u_5 5), .inl (g 0, 6, .inl (fun _ => 0))), ((u_5 6), .inl (g 0, 6, .inl (fun _ => 0))), ((u_5 7), .inl (g 0, 6, .inl (fun _ => 0))), ((u_5 8), .inl (g 0, 6, .inl (fun _ => 0)))] rfl (fun H locs hT => ?_)
  refine lv_aload_n hx hb dX7_init_26 rfl (lv_at hl 0 rfl) ?_
  refine z_new C (ci := 4) (N := 5) rfl hin4 tyX4_ok hT [.null, .int 0, .int 0, .int 0, .int 0] (by decide +kernel) (by decide +kernel) (by decide +kernel) (by decide +kernel) (Nat.le_of_ble_eq_true rfl) (Nat.le_of_ble_eq_true rfl) dX7_init_27 (fun q_7 H hT => ?_)
  have hT : Sit D (TY g) A s [(h0, .inr (7, [.ref q_1, .ref q_4, .null, .null, .null, .null, .null])), (q_1, .inr (6, [.ref (u_2 0), .int 0])), ((u_2 0), .inl (g 0, 160, .inl (fun _ => 0))), (q_4, .inr (1, [.int 5, .int 40, .int 8, .int 0, .int 0, .int 0, .ref (u_5 0), .ref (u_5 1), .ref (u_5 2), .ref (u_5 3), .ref (u_5 4), .ref (u_5 5), .ref (u_5 6), .ref (u_5 7), .ref (u_5 8), .ref (u_5 9)])), ((u_5 0), .inl (g 0, 6, .inl (fun _ => 0))), ((u_5 1), .inl (g 0, 6, .inl (fun _ => 0))), ((u_5 2), .inl (g 0, 6, .inl (fun _ => 0))), ((u_5 3), .inl (g 0, 6, .inl (fun _ => 0))), ((u_5 4), .inl (g 0, 6, .inl (fun _ => 0))), ((u_5 5), .inl (g 0, 6, .inl (fun _ => 0))), ((u_5 6), .inl (g 0, 6, .inl (fun _ => 0))), ((u_5 7), .inl (g 0, 6, .inl (fun _ => 0))), ((u_5 8), .inl (g 0, 6, .inl (fun _ => 0))), (q_7, .inr (4, [.null, .int 0, .int 0, .int 0, .int 0]))] H _ := hT
  refine lv_dup hx hb dX7_init_30 rfl ?_
  refine z_callIN (wr := [(h0, .inr (7, [.ref q_1, .ref q_4, .null, .null, .null, .null, .null])), (q_1, .inr (6, [.ref (u_2 0), .int 0])), ((u_2 0), .inl (g 0, 160, .inl (fun _ => 0))), (q_4, .inr (1, [.int 5, .int 40, .int 8, .int 0, .int 0, .int 0, .ref (u_5 0), .ref (u_5 1), .ref (u_5 2), .ref (u_5 3), .ref (u_5 4), .ref (u_5 5), .ref (u_5 6), .ref (u_5 7), .ref (u_5 8), .ref (u_5 9)])), ((u_5 0), .inl (g 0, 6, .inl (fun _ => 0))), ((u_5 1), .inl (g 0, 6, .inl (fun _ => 0))), ((u_5 2), .inl (g 0, 6, .inl (fun _ => 0))), ((u_5 3), .inl (g 0, 6, .inl (fun _ => 0))), ((u_5 4), .inl (g 0, 6, .inl (fun _ => 0))), ((u_5 5), .inl (g 0, 6, .inl (fun _ => 0))), ((u_5 6), .inl (g 0, 6, .inl (fun _ => 0))), ((u_5 7), .inl (g 0, 6, .inl (fun _ => 0))), ((u_5 8), .inl (g 0, 6, .inl (fun _ => 0)))]) C (c_Reader_init l D g q_7) gX7_init_X4_init_n25 rfl (hX.nw 2 rfl) (by decide +kernel) (by decide +kernel) rfl (by decide +kernel) ⟨Nat.le_of_ble_eq_true rfl, Nat.le_of_ble_eq_true rfl⟩ ⟨Nat.le_of_ble_eq_true rfl, Nat.le_of_ble_eq_true rfl⟩ Ev.blind (fun U hU hW => hX.warm hW) hT [13] [0, 1, 2, 3, 4, 5, 6, 7, 8, 9, 10, 11, 12] rfl rfl rfl rfl rfl rfl hl.1 rfl (Nat.le_of_ble_eq_true rfl) dX7_init_31 (fun u_8 H locs hp_9 hT => ?_)
  have hT : Sit D (TY g) A s [(h0, .inr (7, [.ref q_1, .ref q_4, .null, .null, .null, .null, .null])), (q_1, .inr (6, [.ref (u_2 0), .int 0])), ((u_2 0), .inl (g 0, 160, .inl (fun _ => 0))), (q_4, .inr (1, [.int 5, .int 40, .int 8, .int 0, .int 0, .int 0, .ref (u_5 0), .ref (u_5 1), .ref (u_5 2), .ref (u_5 3), .ref (u_5 4), .ref (u_5 5), .ref (u_5 6), .ref (u_5 7), .ref (u_5 8), .ref (u_5 9)])), ((u_5 0), .inl (g 0, 6, .inl (fun _ => 0))), ((u_5 1), .inl (g 0, 6, .inl (fun _ => 0))), ((u_5 2), .inl (g 0, 6, .inl (fun _ => 0))), ((u_5 3), .inl (g 0, 6, .inl (fun _ => 0))), ((u_5 4), .inl (g 0, 6, .inl (fun _ => 0))), ((u_5 5), .inl (g 0, 6, .inl (fun _ => 0))), ((u_5 6), .inl (g 0, 6, .inl (fun _ => 0))), ((u_5 7), .inl (g 0, 6, .inl (fun _ => 0))), ((u_5 8), .inl (g 0, 6, .inl (fun _ => 0))), (q_7, .inr (4, [.ref (u_8 0), .int 0, .int 0, .int 0, .int 0])), ((u_8 0), .inr (1, [.int 5, .int 40, .int 8, .int 0, .int 0, .int 0, .ref (u_8 1), .ref (u_8 2), .ref (u_8 3), .ref (u_8 4), .ref (u_8 5), .ref (u_8 6), .ref (u_8 7), .ref (u_8 8), .ref (u_8 9), .ref (u_8 10)])), ((u_8 1), .inl (g 0, 6, .inl (fun _ => 0))), ((u_8 2), .inl (g 0, 6, .inl (fun _ => 0))), ((u_8 3), .inl (g 0, 6, .inl (fun _ => 0))), ((u_8 4), .inl (g 0, 6, .inl (fun _ => 0))), ((u_8 5), .inl (g 0, 6, .inl (fun _ => 0))), ((u_8 6), .inl (g 0, 6, .inl (fun _ => 0))), ((u_8 7), .inl (g 0, 6, .inl (fun _ => 0))), ((u_8 8), .inl (g 0, 6, .inl (fun _ => 0))), ((u_8 9), .inl (g 0, 6, .inl (fun _ => 0)))] H _ := hT
  refine z_putF C (ci := 7) (N := 7) rfl hin7 tyX7_ok nmX7 hT 0 2 rfl (Nat.le_of_ble_eq_true rfl) (by decide +kernel) (by decide +kernel) rfl hmn rfl rfl rfl dX7_init_34 [(h0, .inr (7, [.ref q_1, .ref q_4, .ref q_7, .null, .null, .null, .null])), (q_1, .inr (6, [.ref (u_2 0), .int 0])), ((u_2 0), .inl (g 0, 160, .inl (fun _ => 0))), (q_4, .inr (1, [.int 5, .int 40, .int 8, .int 0, .int 0, .int 0, .ref (u_5 0), .ref (u_5 1), .ref (u_5 2), .ref (u_5 3), .ref (u_5 4), .ref (u_5 5), .ref (u_5 6), .ref (u_5 7), .ref (u_5 8), .ref (u_5 9)])), ((u_5 0), .inl (g 0, 6, .inl (fun _ => 0))), ((u_5 1), .inl (g 0, 6, .inl (fun _ => 0))), ((u_5 2), .inl (g 0, 6, .inl (fun _ => 0))), ((u_5 3), .inl (g 0, 6, .inl (fun _ => 0))), ((u_5 4), .inl (g 0, 6, .inl (fun _ => 0))), ((u_5 5), .inl (g 0, 6, .inl (fun _ => 0))), ((u_5 6), .inl (g 0, 6, .inl (fun _ => 0))), ((u_5 7), .inl (g 0, 6, .inl (fun _ => 0))), ((u_5 8), .inl (g 0, 6, .inl (fun _ => 0))), (q_7, .inr (4, [.ref (u_8 0), .int 0, .int 0, .int 0, .int 0])), ((u_8 0), .inr (1, [.int 5, .int 40, .int 8, .int 0, .int 0, .int 0, .ref (u_8 1), .ref (u_8 2), .ref (u_8 3), .ref (u_8 4), .ref (u_8 5), .ref (u_8 6), .ref (u_8 7), .ref (u_8 8), .ref (u_8 9), .ref (u_8 10)])), ((u_8 1), .inl (g 0, 6, .inl (fun _ => 0))), ((u_8 2), .inl (g 0, 6, .inl (fun _ => 0))), ((u_8 3), .inl (g 0, 6, .inl (fun _ => 0))), ((u_8 4), .inl (g 0, 6, .inl (fun _ => 0))), ((u_8 5), .inl (g 0, 6, .inl (fun _ => 0))), ((u_8 6), .inl (g 0, 6, .inl (fun _ => 0))), ((u_8 7), .inl (g 0, 6, .inl (fun _ => 0))), ((u_8 8), .inl (g 0, 6, .inl (fun _ => 0))), ((u_8 9), .inl (g 0, 6, .inl (fun _ => 0)))] rfl (fun H locs hT => ?_)
  refine lv_aload_n hx hb dX7_init_37 rfl (lv_at hl 0 rfl) ?_
  refine z_new C (ci := 3) (N := 3) rfl hin3 tyX3_ok hT [.null, .int 0, .int 0] (by decide +kernel) (by decide +kernel) (by decide +kernel) (by decide +kernel) (Nat.le_of_ble_eq_true rfl) (Nat.le_of_ble_eq_true rfl) dX7_init_38 (fun q_10 H hT => ?_)
  have hT : Sit D (TY g) A s [(h0, .inr (7, [.ref q_1, .ref q_4, .ref q_7, .null, .null, .null, .null])), (q_1, .inr (6, [.ref (u_2 0), .int 0])), ((u_2 0), .inl (g 0, 160, .inl (fun _ => 0))), (q_4, .inr (1, [.int 5, .int 40, .int 8, .int 0, .int 0, .int 0, .ref (u_5 0), .ref (u_5 1), .ref (u_5 2), .ref (u_5 3), .ref (u_5 4), .ref (u_5 5), .ref (u_5 6), .ref (u_5 7), .ref (u_5 8), .ref (u_5 9)])), ((u_5 0), .inl (g 0, 6, .inl (fun _ => 0))), ((u_5 1), .inl (g 0, 6, .inl (fun _ => 0))), ((u_5 2), .inl (g 0, 6, .inl (fun _ => 0))), ((u_5 3), .inl (g 0, 6, .inl (fun _ => 0))), ((u_5 4), .inl (g 0, 6, .inl (fun _ => 0))), ((u_5 5), .inl (g 0, 6, .inl (fun _ => 0))), ((u_5 6), .inl (g 0, 6, .inl (fun _ => 0))), ((u_5 7), .inl (g 0, 6, .inl (fun _ => 0))), ((u_5 8), .inl (g 0, 6, .inl (fun _ => 0))), (q_7, .inr (4, [.ref (u_8 0), .int 0, .int 0, .int 0, .int 0])), ((u_8 0), .inr (1, [.int 5, .int 40, .int 8, .int 0, .int 0, .int 0, .ref (u_8 1), .ref (u_8 2), .ref (u_8 3), .ref (u_8 4), .ref (u_8 5), .ref (u_8 6), .ref (u_8 7), .ref (u_8 8), .ref (u_8 9), .ref (u_8 10)])), ((u_8 1), .inl (g 0, 6, .inl (fun _ => 0))), ((u_8 2), .inl (g 0, 6, .inl (fun _ => 0))), ((u_8 3), .inl (g 0, 6, .inl (fun _ => 0))), ((u_8 4), .inl (g 0, 6, .inl (fun _ => 0))), ((u_8 5), .inl (g 0, 6, .inl (fun _ => 0))), ((u_8 6), .inl (g 0, 6, .inl (fun _ => 0))), ((u_8 7), .inl (g 0, 6, .inl (fun _ => 0))), ((u_8 8), .inl (g 0, 6, .inl (fun _ => 0))), ((u_8 9), .inl (g 0, 6, .inl (fun _ => 0))), (q_10, .inr (3, [.null, .int 0, .int 0]))] H _ := hT
  refine lv_dup hx hb dX7_init_41 rfl ?_
  refine z_callI (wr := [(h0, .inr (7, [.ref q_1, .ref q_4, .ref q_7, .null, .null, .null, .null])), (q_1, .inr (6, [.ref (u_2 0), .int 0])), ((u_2 0), .inl (g 0, 160, .inl (fun _ => 0))), (q_4, .inr (1, [.int 5, .int 40, .int 8, .int 0, .int 0, .int 0, .ref (u_5 0), .ref (u_5 1), .ref (u_5 2), .ref (u_5 3), .ref (u_5 4), .ref (u_5 5), .ref (u_5 6), .ref (u_5 7), .ref (u_5 8), .ref (u_5 9)])), ((u_5 0), .inl (g 0, 6, .inl (fun _ => 0))), ((u_5 1), .inl (g 0, 6, .inl (fun _ => 0))), ((u_5 2), .inl (g 0, 6, .inl (fun _ => 0))), ((u_5 3), .inl (g 0, 6, .inl (fun _ => 0))), ((u_5 4), .inl (g 0, 6, .inl (fun _ => 0))), ((u_5 5), .inl (g 0, 6, .inl (fun _ => 0))), ((u_5 6), .inl (g 0, 6, .inl (fun _ => 0))), ((u_5 7), .inl (g 0, 6, .inl (fun _ => 0))), ((u_5 8), .inl (g 0, 6, .inl (fun _ => 0))), (q_7, .inr (4, [.ref (u_8 0), .int 0, .int 0, .int 0, .int 0])), ((u_8 0), .inr (1, [.int 5, .int 40, .int 8, .int 0, .int 0, .int 0, .ref (u_8 1), .ref (u_8 2), .ref (u_8 3), .ref (u_8 4), .ref (u_8 5), .ref (u_8 6), .ref (u_8 7), .ref (u_8 8), .ref (u_8 9), .ref (u_8 10)])), ((u_8 1), .inl (g 0, 6, .inl (fun _ => 0))), ((u_8 2), .inl (g 0, 6, .inl (fun _ => 0))), ((u_8 3), .inl (g 0, 6, .inl (fun _ => 0))), ((u_8 4), .inl (g 0, 6, .inl (fun _ => 0))), ((u_8 5), .inl (g 0, 6, .inl (fun _ => 0))), ((u_8 6), .inl (g 0, 6, .inl (fun _ => 0))), ((u_8 7), .inl (g 0, 6, .inl (fun _ => 0))), ((u_8 8), .inl (g 0, 6, .inl (fun _ => 0))), ((u_8 9), .inl (g 0, 6, .inl (fun _ => 0)))]) C (c_Past_init l D g q_10) gX7_init_X3_init rfl (by decide +kernel) (by decide +kernel) (by decide +kernel) rfl (by decide +kernel) ⟨Nat.le_of_ble_eq_true rfl, Nat.le_of_ble_eq_true rfl⟩ ⟨Nat.le_of_ble_eq_true rfl, Nat.le_of_ble_eq_true rfl⟩ Ev.blind (fun U hU hW => hX.warm hW) hT [24] [0, 1, 2, 3, 4, 5, 6, 7, 8, 9, 10, 11, 12, 13, 14, 15, 16, 17, 18, 19, 20, 21, 22, 23] rfl rfl rfl rfl rfl rfl hl.1 rfl (Nat.le_of_ble_eq_true rfl) dX7_init_42 (fun u_11 H locs hp_12 hT => ?_)
  have hT : Sit D (TY g) A s [(h0, .inr (7, [.ref q_1, .ref q_4, .ref q_7, .null, .null, .null, .null])), (q_1, .inr (6, [.ref (u_2 0), .int 0])), ((u_2 0), .inl (g 0, 160, .inl (fun _ => 0))), (q_4, .inr (1, [.int 5, .int 40, .int 8, .int 0, .int 0, .int 0, .ref (u_5 0), .ref (u_5 1), .ref (u_5 2), .ref (u_5 3), .ref (u_5 4), .ref (u_5 5), .ref (u_5 6), .ref (u_5 7), .ref (u_5 8), .ref (u_5 9)])), ((u_5 0), .inl (g 0, 6, .inl (fun _ => 0))), ((u_5 1), .inl (g 0, 6, .inl (fun _ => 0))), ((u_5 2), .inl (g 0, 6, .inl (fun _ => 0))), ((u_5 3), .inl (g 0, 6, .inl (fun _ => 0))), ((u_5 4), .inl (g 0, 6, .inl (fun _ => 0))), ((u_5 5), .inl (g 0, 6, .inl (fun _ => 0))), ((u_5 6), .inl (g 0, 6, .inl (fun _ => 0))), ((u_5 7), .inl (g 0, 6, .inl (fun _ => 0))), ((u_5 8), .inl (g 0, 6, .inl (fun _ => 0))), (q_7, .inr (4, [.ref (u_8 0), .int 0, .int 0, .int 0, .int 0])), ((u_8 0), .inr (1, [.int 5, .int 40, .int 8, .int 0, .int 0, .int 0, .ref (u_8 1), .ref (u_8 2), .ref (u_8 3), .ref (u_8 4), .ref (u_8 5), .ref (u_8 6), .ref (u_8 7), .ref (u_8 8), .ref (u_8 9), .ref (u_8 10)])), ((u_8 1), .inl (g 0, 6, .inl (fun _ => 0))), ((u_8 2), .inl (g 0, 6, .inl (fun _ => 0))), ((u_8 3), .inl (g 0, 6, .inl (fun _ => 0))), ((u_8 4), .inl (g 0, 6, .inl (fun _ => 0))), ((u_8 5), .inl (g 0, 6, .inl (fun _ => 0))), ((u_8 6), .inl (g 0, 6, .inl (fun _ => 0))), ((u_8 7), .inl (g 0, 6, .inl (fun _ => 0))), ((u_8 8), .inl (g 0, 6, .inl (fun _ => 0))), ((u_8 9), .inl (g 0, 6, .inl (fun _ => 0))), (q_10, .inr (3, [.ref (u_11.1 0), .int 0, .int 0])), ((u_11.1 0), .inl (g 2, 8, .inr (.inr (.inr (.inr u_11.2))))), ((u_11.1 1), .inr (1, [.int 5, .int 40, .int 8, .int 0, .int 0, .int 0, .ref (u_11.1 2), .ref (u_11.1 3), .ref (u_11.1 4), .ref (u_11.1 5), .ref (u_11.1 6), .ref (u_11.1 7), .ref (u_11.1 8), .ref (u_11.1 9), .ref (u_11.1 10), .ref (u_11.1 11)])), ((u_11.1 2), .inl (g 0, 6, .inl (fun _ => 0))), ((u_11.1 3), .inl (g 0, 6, .inl (fun _ => 0))), ((u_11.1 4), .inl (g 0, 6, .inl (fun _ => 0))), ((u_11.1 5), .inl (g 0, 6, .inl (fun _ => 0))), ((u_11.1 6), .inl (g 0, 6, .inl (fun _ => 0))), ((u_11.1 7), .inl (g 0, 6, .inl (fun _ => 0))), ((u_11.1 8), .inl (g 0, 6, .inl (fun _ => 0))), ((u_11.1 9), .inl (g 0, 6, .inl (fun _ => 0))), ((u_11.1 10), .inl (g 0, 6, .inl (fun _ => 0)))] H _ := hT
  refine z_putF C (ci := 7) (N := 7) rfl hin7 tyX7_ok nmX7 hT 0 3 rfl (Nat.le_of_ble_eq_true rfl) (by decide +kernel) (by decide +kernel) rfl hmn rfl rfl rfl dX7_init_45 [(h0, .inr (7, [.ref q_1, .ref q_4, .ref q_7, .ref q_10, .null, .null, .null])), (q_1, .inr (6, [.ref (u_2 0), .int 0])), ((u_2 0), .inl (g 0, 160, .inl (fun _ => 0))), (q_4, .inr (1, [.int 5, .int 40, .int 8, .int 0, .int 0, .int 0, .ref (u_5 0), .ref (u_5 1), .ref (u_5 2), .ref (u_5 3), .ref (u_5 4), .ref (u_5 5), .ref (u_5 6), .ref (u_5 7), .ref (u_5 8), .ref (u_5 9)])), ((u_5 0), .inl (g 0, 6, .inl (fun _ => 0))), ((u_5 1), .inl (g 0, 6, .inl (fun _ => 0))), ((u_5 2), .inl (g 0, 6, .inl (fun _ => 0))), ((u_5 3), .inl (g 0, 6, .inl (fun _ => 0))), ((u_5 4), .inl (g 0, 6, .inl (fun _ => 0))), ((u_5 5), .inl (g 0, 6, .inl (fun _ => 0))), ((u_5 6), .inl (g 0, 6, .inl (fun _ => 0))), ((u_5 7), .inl (g 0, 6, .inl (fun _ => 0))), ((u_5 8), .inl (g 0, 6, .inl (fun _ => 0))), (q_7, .inr (4, [.ref (u_8 0), .int 0, .int 0, .int 0, .int 0])), ((u_8 0), .inr (1, [.int 5, .int 40, .int 8, .int 0, .int 0, .int 0, .ref (u_8 1), .ref (u_8 2), .ref (u_8 3), .ref (u_8 4), .ref (u_8 5), .ref (u_8 6), .ref (u_8 7), .ref (u_8 8), .ref (u_8 9), .ref (u_8 10)])), ((u_8 1), .inl (g 0, 6, .inl (fun _ => 0))), ((u_8 2), .inl (g 0, 6, .inl (fun _ => 0))), ((u_8 3), .inl (g 0, 6, .inl (fun _ => 0))), ((u_8 4), .inl (g 0, 6, .inl (fun _ => 0))), ((u_8 5), .inl (g 0, 6, .inl (fun _ => 0))), ((u_8 6), .inl (g 0, 6, .inl (fun _ => 0))), ((u_8 7), .inl (g 0, 6, .inl (fun _ => 0))), ((u_8 8), .inl (g 0, 6, .inl (fun _ => 0))), ((u_8 9), .inl (g 0, 6, .inl (fun _ => 0))), (q_10, .inr (3, [.ref (u_11.1 0), .int 0, .int 0])), ((u_11.1 0), .inl (g 2, 8, .inr (.inr (.inr (.inr u_11.2))))), ((u_11.1 1), .inr (1, [.int 5, .int 40, .int 8, .int 0, .int 0, .int 0, .ref (u_11.1 2), .ref (u_11.1 3), .ref (u_11.1 4), .ref (u_11.1 5), .ref (u_11.1 6), .ref (u_11.1 7), .ref (u_11.1 8), .ref (u_11.1 9), .ref (u_11.1 10), .ref (u_11.1 11)])), ((u_11.1 2), .inl (g 0, 6, .inl (fun _ => 0))), ((u_11.1 3), .inl (g 0, 6, .inl (fun _ => 0))), ((u_11.1 4), .inl (g 0, 6, .inl (fun _ => 0))), ((u_11.1 5), .inl (g 0, 6, .inl (fun _ => 0))), ((u_11.1 6), .inl (g 0, 6, .inl (fun _ => 0))), ((u_11.1 7), .inl (g 0, 6, .inl (fun _ => 0))), ((u_11.1 8), .inl (g 0, 6, .inl (fun _ => 0))), ((u_11.1 9), .inl (g 0, 6, .inl (fun _ => 0))), ((u_11.1 10), .inl (g 0, 6, .inl (fun _ => 0)))] rfl (fun H locs hT => ?_)
  refine lv_aload_n hx hb dX7_init_48 rfl (lv_at hl 0 rfl) ?_
  refine lv_iconst (v := 2) hx hb dX7_init_49 (by decide +kernel) ?_
  refine z_newq C hT 3 (by decide +kernel) hX.2.1 rfl (by decide +kernel) (N' := 2) (by decide +kernel) (by decide +kernel) (Nat.le_of_ble_eq_true rfl) (Nat.le_of_ble_eq_true rfl) dX7_init_50 (fun q_13 H hT => ?_)
  have hT : Sit D (TY g) A s [(h0, .inr (7, [.ref q_1, .ref q_4, .ref q_7, .ref q_10, .null, .null, .null])), (q_1, .inr (6, [.ref (u_2 0), .int 0])), ((u_2 0), .inl (g 0, 160, .inl (fun _ => 0))), (q_4, .inr (1, [.int 5, .int 40, .int 8, .int 0, .int 0, .int 0, .ref (u_5 0), .ref (u_5 1), .ref (u_5 2), .ref (u_5 3), .ref (u_5 4), .ref (u_5 5), .ref (u_5 6), .ref (u_5 7), .ref (u_5 8), .ref (u_5 9)])), ((u_5 0), .inl (g 0, 6, .inl (fun _ => 0))), ((u_5 1), .inl (g 0, 6, .inl (fun _ => 0))), ((u_5 2), .inl (g 0, 6, .inl (fun _ => 0))), ((u_5 3), .inl (g 0, 6, .inl (fun _ => 0))), ((u_5 4), .inl (g 0, 6, .inl (fun _ => 0))), ((u_5 5), .inl (g 0, 6, .inl (fun _ => 0))), ((u_5 6), .inl (g 0, 6, .inl (fun _ => 0))), ((u_5 7), .inl (g 0, 6, .inl (fun _ => 0))), ((u_5 8), .inl (g 0, 6, .inl (fun _ => 0))), (q_7, .inr (4, [.ref (u_8 0), .int 0, .int 0, .int 0, .int 0])), ((u_8 0), .inr (1, [.int 5, .int 40, .int 8, .int 0, .int 0, .int 0, .ref (u_8 1), .ref (u_8 2), .ref (u_8 3), .ref (u_8 4), .ref (u_8 5), .ref (u_8 6), .ref (u_8 7), .ref (u_8 8), .ref (u_8 9), .ref (u_8 10)])), ((u_8 1), .inl (g 0, 6, .inl (fun _ => 0))), ((u_8 2), .inl (g 0, 6, .inl (fun _ => 0))), ((u_8 3), .inl (g 0, 6, .inl (fun _ => 0))), ((u_8 4), .inl (g 0, 6, .inl (fun _ => 0))), ((u_8 5), .inl (g 0, 6, .inl (fun _ => 0))), ((u_8 6), .inl (g 0, 6, .inl (fun _ => 0))), ((u_8 7), .inl (g 0, 6, .inl (fun _ => 0))), ((u_8 8), .inl (g 0, 6, .inl (fun _ => 0))), ((u_8 9), .inl (g 0, 6, .inl (fun _ => 0))), (q_10, .inr (3, [.ref (u_11.1 0), .int 0, .int 0])), ((u_11.1 0), .inl (g 2, 8, .inr (.inr (.inr (.inr u_11.2))))), ((u_11.1 1), .inr (1, [.int 5, .int 40, .int 8, .int 0, .int 0, .int 0, .ref (u_11.1 2), .ref (u_11.1 3), .ref (u_11.1 4), .ref (u_11.1 5), .ref (u_11.1 6), .ref (u_11.1 7), .ref (u_11.1 8), .ref (u_11.1 9), .ref (u_11.1 10), .ref (u_11.1 11)])), ((u_11.1 2), .inl (g 0, 6, .inl (fun _ => 0))), ((u_11.1 3), .inl (g 0, 6, .inl (fun _ => 0))), ((u_11.1 4), .inl (g 0, 6, .inl (fun _ => 0))), ((u_11.1 5), .inl (g 0, 6, .inl (fun _ => 0))), ((u_11.1 6), .inl (g 0, 6, .inl (fun _ => 0))), ((u_11.1 7), .inl (g 0, 6, .inl (fun _ => 0))), ((u_11.1 8), .inl (g 0, 6, .inl (fun _ => 0))), ((u_11.1 9), .inl (g 0, 6, .inl (fun _ => 0))), ((u_11.1 10), .inl (g 0, 6, .inl (fun _ => 0))), (q_13, .inl (g 3, 2, .inr (.inr (.inr (.inr (fun _ => none))))))] H _ := hT
  refine z_putF C (ci := 7) (N := 7) rfl hin7 tyX7_ok nmX7 hT 0 4 rfl (Nat.le_of_ble_eq_true rfl) (by decide +kernel) (by decide +kernel) rfl hmn rfl rfl rfl dX7_init_53 [(h0, .inr (7, [.ref q_1, .ref q_4, .ref q_7, .ref q_10, .ref q_13, .null, .null])), (q_1, .inr (6, [.ref (u_2 0), .int 0])), ((u_2 0), .inl (g 0, 160, .inl (fun _ => 0))), (q_4, .inr (1, [.int 5, .int 40, .int 8, .int 0, .int 0, .int 0, .ref (u_5 0), .ref (u_5 1), .ref (u_5 2), .ref (u_5 3), .ref (u_5 4), .ref (u_5 5), .ref (u_5 6), .ref (u_5 7), .ref (u_5 8), .ref (u_5 9)])), ((u_5 0), .inl (g 0, 6, .inl (fun _ => 0))), ((u_5 1), .inl (g 0, 6, .inl (fun _ => 0))), ((u_5 2), .inl (g 0, 6, .inl (fun _ => 0))), ((u_5 3), .inl (g 0, 6, .inl (fun _ => 0))), ((u_5 4), .inl (g 0, 6, .inl (fun _ => 0))), ((u_5 5), .inl (g 0, 6, .inl (fun _ => 0))), ((u_5 6), .inl (g 0, 6, .inl (fun _ => 0))), ((u_5 7), .inl (g 0, 6, .inl (fun _ => 0))), ((u_5 8), .inl (g 0, 6, .inl (fun _ => 0))), (q_7, .inr (4, [.ref (u_8 0), .int 0, .int 0, .int 0, .int 0])), ((u_8 0), .inr (1, [.int 5, .int 40, .int 8, .int 0, .int 0, .int 0, .ref (u_8 1), .ref (u_8 2), .ref (u_8 3), .ref (u_8 4), .ref (u_8 5), .ref (u_8 6), .ref (u_8 7), .ref (u_8 8), .ref (u_8 9), .ref (u_8 10)])), ((u_8 1), .inl (g 0, 6, .inl (fun _ => 0))), ((u_8 2), .inl (g 0, 6, .inl (fun _ => 0))), ((u_8 3), .inl (g 0, 6, .inl (fun _ => 0))), ((u_8 4), .inl (g 0, 6, .inl (fun _ => 0))), ((u_8 5), .inl (g 0, 6, .inl (fun _ => 0))), ((u_8 6), .inl (g 0, 6, .inl (fun _ => 0))), ((u_8 7), .inl (g 0, 6, .inl (fun _ => 0))), ((u_8 8), .inl (g 0, 6, .inl (fun _ => 0))), ((u_8 9), .inl (g 0, 6, .inl (fun _ => 0))), (q_10, .inr (3, [.ref (u_11.1 0), .int 0, .int 0])), ((u_11.1 0), .inl (g 2, 8, .inr (.inr (.inr (.inr u_11.2))))), ((u_11.1 1), .inr (1, [.int 5, .int 40, .int 8, .int 0, .int 0, .int 0, .ref (u_11.1 2), .ref (u_11.1 3), .ref (u_11.1 4), .ref (u_11.1 5), .ref (u_11.1 6), .ref (u_11.1 7), .ref (u_11.1 8), .ref (u_11.1 9), .ref (u_11.1 10), .ref (u_11.1 11)])), ((u_11.1 2), .inl (g 0, 6, .inl (fun _ => 0))), ((u_11.1 3), .inl (g 0, 6, .inl (fun _ => 0))), ((u_11.1 4), .inl (g 0, 6, .inl (fun _ => 0))), ((u_11.1 5), .inl (g 0, 6, .inl (fun _ => 0))), ((u_11.1 6), .inl (g 0, 6, .inl (fun _ => 0))), ((u_11.1 7), .inl (g 0, 6, .inl (fun _ => 0))), ((u_11.1 8), .inl (g 0, 6, .inl (fun _ => 0))), ((u_11.1 9), .inl (g 0, 6, .inl (fun _ => 0))), ((u_11.1 10), .inl (g 0, 6, .inl (fun _ => 0))), (q_13, .inl (g 3, 2, .inr (.inr (.inr (.inr (fun _ => none))))))] rfl (fun H locs hT => ?_)
  refine lv_aload_n hx hb dX7_init_56 rfl (lv_at hl 0 rfl) ?_
  refine z_new C (ci := 5) (N := 8) rfl hin5 tyX5_ok hT [.null, .null, .int 0, .int 0, .int 0, .int 0, .null, .null] (by decide +kernel) (by decide +kernel) (by decide +kernel) (by decide +kernel) (Nat.le_of_ble_eq_true rfl) (Nat.le_of_ble_eq_true rfl) dX7_init_57 (fun q_14 H hT => ?_)
  have hT : Sit D (TY g) A s [(h0, .inr (7, [.ref q_1, .ref q_4, .ref q_7, .ref q_10, .ref q_13, .null, .null])), (q_1, .inr (6, [.ref (u_2 0), .int 0])), ((u_2 0), .inl (g 0, 160, .inl (fun _ => 0))), (q_4, .inr (1, [.int 5, .int 40, .int 8, .int 0, .int 0, .int 0, .ref (u_5 0), .ref (u_5 1), .ref (u_5 2), .ref (u_5 3), .ref (u_5 4), .ref (u_5 5), .ref (u_5 6), .ref (u_5 7), .ref (u_5 8), .ref (u_5 9)])), ((u_5 0), .inl (g 0, 6, .inl (fun _ => 0))), ((u_5 1), .inl (g 0, 6, .inl (fun _ => 0))), ((u_5 2), .inl (g 0, 6, .inl (fun _ => 0))), ((u_5 3), .inl (g 0, 6, .inl (fun _ => 0))), ((u_5 4), .inl (g 0, 6, .inl (fun _ => 0))), ((u_5 5), .inl (g 0, 6, .inl (fun _ => 0))), ((u_5 6), .inl (g 0, 6, .inl (fun _ => 0))), ((u_5 7), .inl (g 0, 6, .inl (fun _ => 0))), ((u_5 8), .inl (g 0, 6, .inl (fun _ => 0))), (q_7, .inr (4, [.ref (u_8 0), .int 0, .int 0, .int 0, .int 0])), ((u_8 0), .inr (1, [.int 5, .int 40, .int 8, .int 0, .int 0, .int 0, .ref (u_8 1), .ref (u_8 2), .ref (u_8 3), .ref (u_8 4), .ref (u_8 5), .ref (u_8 6), .ref (u_8 7), .ref (u_8 8), .ref (u_8 9), .ref (u_8 10)])), ((u_8 1), .inl (g 0, 6, .inl (fun _ => 0))), ((u_8 2), .inl (g 0, 6, .inl (fun _ => 0))), ((u_8 3), .inl (g 0, 6, .inl (fun _ => 0))), ((u_8 4), .inl (g 0, 6, .inl (fun _ => 0))), ((u_8 5), .inl (g 0, 6, .inl (fun _ => 0))), ((u_8 6), .inl (g 0, 6, .inl (fun _ => 0))), ((u_8 7), .inl (g 0, 6, .inl (fun _ => 0))), ((u_8 8), .inl (g 0, 6, .inl (fun _ => 0))), ((u_8 9), .inl (g 0, 6, .inl (fun _ => 0))), (q_10, .inr (3, [.ref (u_11.1 0), .int 0, .int 0])), ((u_11.1 0), .inl (g 2, 8, .inr (.inr (.inr (.inr u_11.2))))), ((u_11.1 1), .inr (1, [.int 5, .int 40, .int 8, .int 0, .int 0, .int 0, .ref (u_11.1 2), .ref (u_11.1 3), .ref (u_11.1 4), .ref (u_11.1 5), .ref (u_11.1 6), .ref (u_11.1 7), .ref (u_11.1 8), .ref (u_11.1 9), .ref (u_11.1 10), .ref (u_11.1 11)])), ((u_11.1 2), .inl (g 0, 6, .inl (fun _ => 0))), ((u_11.1 3), .inl (g 0, 6, .inl (fun _ => 0))), ((u_11.1 4), .inl (g 0, 6, .inl (fun _ => 0))), ((u_11.1 5), .inl (g 0, 6, .inl (fun _ => 0))), ((u_11.1 6), .inl (g 0, 6, .inl (fun _ => 0))), ((u_11.1 7), .inl (g 0, 6, .inl (fun _ => 0))), ((u_11.1 8), .inl (g 0, 6, .inl (fun _ => 0))), ((u_11.1 9), .inl (g 0, 6, .inl (fun _ => 0))), ((u_11.1 10), .inl (g 0, 6, .inl (fun _ => 0))), (q_13, .inl (g 3, 2, .inr (.inr (.inr (.inr (fun _ => none)))))), (q_14, .inr (5, [.null, .null, .int 0, .int 0, .int 0, .int 0, .null, .null]))] H _ := hT
  refine lv_dup hx hb dX7_init_60 rfl ?_
  refine z_callIN (wr := [(h0, .inr (7, [.ref q_1, .ref q_4, .ref q_7, .ref q_10, .ref q_13, .null, .null])), (q_1, .inr (6, [.ref (u_2 0), .int 0])), ((u_2 0), .inl (g 0, 160, .inl (fun _ => 0))), (q_4, .inr (1, [.int 5, .int 40, .int 8, .int 0, .int 0, .int 0, .ref (u_5 0), .ref (u_5 1), .ref (u_5 2), .ref (u_5 3), .ref (u_5 4), .ref (u_5 5), .ref (u_5 6), .ref (u_5 7), .ref (u_5 8), .ref (u_5 9)])), ((u_5 0), .inl (g 0, 6, .inl (fun _ => 0))), ((u_5 1), .inl (g 0, 6, .inl (fun _ => 0))), ((u_5 2), .inl (g 0, 6, .inl (fun _ => 0))), ((u_5 3), .inl (g 0, 6, .inl (fun _ => 0))), ((u_5 4), .inl (g 0, 6, .inl (fun _ => 0))), ((u_5 5), .inl (g 0, 6, .inl (fun _ => 0))), ((u_5 6), .inl (g 0, 6, .inl (fun _ => 0))), ((u_5 7), .inl (g 0, 6, .inl (fun _ => 0))), ((u_5 8), .inl (g 0, 6, .inl (fun _ => 0))), (q_7, .inr (4, [.ref (u_8 0), .int 0, .int 0, .int 0, .int 0])), ((u_8 0), .inr (1, [.int 5, .int 40, .int 8, .int 0, .int 0, .int 0, .ref (u_8 1), .ref (u_8 2), .ref (u_8 3), .ref (u_8 4), .ref (u_8 5), .ref (u_8 6), .ref (u_8 7), .ref (u_8 8), .ref (u_8 9), .ref (u_8 10)])), ((u_8 1), .inl (g 0, 6, .inl (fun _ => 0))), ((u_8 2), .inl (g 0, 6, .inl (fun _ => 0))), ((u_8 3), .inl (g 0, 6, .inl (fun _ => 0))), ((u_8 4), .inl (g 0, 6, .inl (fun _ => 0))), ((u_8 5), .inl (g 0, 6, .inl (fun _ => 0))), ((u_8 6), .inl (g 0, 6, .inl (fun _ => 0))), ((u_8 7), .inl (g 0, 6, .inl (fun _ => 0))), ((u_8 8), .inl (g 0, 6, .inl (fun _ => 0))), ((u_8 9), .inl (g 0, 6, .inl (fun _ => 0))), (q_10, .inr (3, [.ref (u_11.1 0), .int 0, .int 0])), ((u_11.1 0), .inl (g 2, 8, .inr (.inr (.inr (.inr u_11.2))))), ((u_11.1 1), .inr (1, [.int 5, .int 40, .int 8, .int 0, .int 0, .int 0, .ref (u_11.1 2), .ref (u_11.1 3), .ref (u_11.1 4), .ref (u_11.1 5), .ref (u_11.1 6), .ref (u_11.1 7), .ref (u_11.1 8), .ref (u_11.1 9), .ref (u_11.1 10), .ref (u_11.1 11)])), ((u_11.1 2), .inl (g 0, 6, .inl (fun _ => 0))), ((u_11.1 3), .inl (g 0, 6, .inl (fun _ => 0))), ((u_11.1 4), .inl (g 0, 6, .inl (fun _ => 0))), ((u_11.1 5), .inl (g 0, 6, .inl (fun _ => 0))), ((u_11.1 6), .inl (g 0, 6, .inl (fun _ => 0))), ((u_11.1 7), .inl (g 0, 6, .inl (fun _ => 0))), ((u_11.1 8), .inl (g 0, 6, .inl (fun _ => 0))), ((u_11.1 9), .inl (g 0, 6, .inl (fun _ => 0))), ((u_11.1 10), .inl (g 0, 6, .inl (fun _ => 0))), (q_13, .inl (g 3, 2, .inr (.inr (.inr (.inr (fun _ => none))))))]) C (c_Sight_init l D g q_14) gX7_init_X5_init_n45 rfl (hX.nw 3 rfl) (by decide +kernel) (by decide +kernel) rfl (by decide +kernel) ⟨Nat.le_of_ble_eq_true rfl, Nat.le_of_ble_eq_true rfl⟩ ⟨Nat.le_of_ble_eq_true rfl, Nat.le_of_ble_eq_true rfl⟩ Ev.blind (fun U hU hW => hX.warm hW) hT [37] [0, 1, 2, 3, 4, 5, 6, 7, 8, 9, 10, 11, 12, 13, 14, 15, 16, 17, 18, 19, 20, 21, 22, 23, 24, 25, 26, 27, 28, 29, 30, 31, 32, 33, 34, 35, 36] rfl rfl rfl rfl rfl rfl hl.1 rfl (Nat.le_of_ble_eq_true rfl) dX7_init_61 (fun u_15 H locs hp_16 hT => ?_)
  have hT : Sit D (TY g) A s [(h0, .inr (7, [.ref q_1, .ref q_4, .ref q_7, .ref q_10, .ref q_13, .null, .null])), (q_1, .inr (6, [.ref (u_2 0), .int 0])), ((u_2 0), .inl (g 0, 160, .inl (fun _ => 0))), (q_4, .inr (1, [.int 5, .int 40, .int 8, .int 0, .int 0, .int 0, .ref (u_5 0), .ref (u_5 1), .ref (u_5 2), .ref (u_5 3), .ref (u_5 4), .ref (u_5 5), .ref (u_5 6), .ref (u_5 7), .ref (u_5 8), .ref (u_5 9)])), ((u_5 0), .inl (g 0, 6, .inl (fun _ => 0))), ((u_5 1), .inl (g 0, 6, .inl (fun _ => 0))), ((u_5 2), .inl (g 0, 6, .inl (fun _ => 0))), ((u_5 3), .inl (g 0, 6, .inl (fun _ => 0))), ((u_5 4), .inl (g 0, 6, .inl (fun _ => 0))), ((u_5 5), .inl (g 0, 6, .inl (fun _ => 0))), ((u_5 6), .inl (g 0, 6, .inl (fun _ => 0))), ((u_5 7), .inl (g 0, 6, .inl (fun _ => 0))), ((u_5 8), .inl (g 0, 6, .inl (fun _ => 0))), (q_7, .inr (4, [.ref (u_8 0), .int 0, .int 0, .int 0, .int 0])), ((u_8 0), .inr (1, [.int 5, .int 40, .int 8, .int 0, .int 0, .int 0, .ref (u_8 1), .ref (u_8 2), .ref (u_8 3), .ref (u_8 4), .ref (u_8 5), .ref (u_8 6), .ref (u_8 7), .ref (u_8 8), .ref (u_8 9), .ref (u_8 10)])), ((u_8 1), .inl (g 0, 6, .inl (fun _ => 0))), ((u_8 2), .inl (g 0, 6, .inl (fun _ => 0))), ((u_8 3), .inl (g 0, 6, .inl (fun _ => 0))), ((u_8 4), .inl (g 0, 6, .inl (fun _ => 0))), ((u_8 5), .inl (g 0, 6, .inl (fun _ => 0))), ((u_8 6), .inl (g 0, 6, .inl (fun _ => 0))), ((u_8 7), .inl (g 0, 6, .inl (fun _ => 0))), ((u_8 8), .inl (g 0, 6, .inl (fun _ => 0))), ((u_8 9), .inl (g 0, 6, .inl (fun _ => 0))), (q_10, .inr (3, [.ref (u_11.1 0), .int 0, .int 0])), ((u_11.1 0), .inl (g 2, 8, .inr (.inr (.inr (.inr u_11.2))))), ((u_11.1 1), .inr (1, [.int 5, .int 40, .int 8, .int 0, .int 0, .int 0, .ref (u_11.1 2), .ref (u_11.1 3), .ref (u_11.1 4), .ref (u_11.1 5), .ref (u_11.1 6), .ref (u_11.1 7), .ref (u_11.1 8), .ref (u_11.1 9), .ref (u_11.1 10), .ref (u_11.1 11)])), ((u_11.1 2), .inl (g 0, 6, .inl (fun _ => 0))), ((u_11.1 3), .inl (g 0, 6, .inl (fun _ => 0))), ((u_11.1 4), .inl (g 0, 6, .inl (fun _ => 0))), ((u_11.1 5), .inl (g 0, 6, .inl (fun _ => 0))), ((u_11.1 6), .inl (g 0, 6, .inl (fun _ => 0))), ((u_11.1 7), .inl (g 0, 6, .inl (fun _ => 0))), ((u_11.1 8), .inl (g 0, 6, .inl (fun _ => 0))), ((u_11.1 9), .inl (g 0, 6, .inl (fun _ => 0))), ((u_11.1 10), .inl (g 0, 6, .inl (fun _ => 0))), (q_13, .inl (g 3, 2, .inr (.inr (.inr (.inr (fun _ => none)))))), (q_14, .inr (5, [.ref (u_15.1 0), .ref (u_15.1 1), .int 0, .int 0, .int (-1), .int (-1), .ref (u_15.1 2), .ref (u_15.1 3)])), ((u_15.1 0), .inl (g 0, 6, .inl (fun _ => 0))), ((u_15.1 1), .inl (g 0, 6, .inl (fun _ => 0))), ((u_15.1 2), .inl (g 4, 9, .inr (.inr (.inr (.inr u_15.2))))), ((u_15.1 3), .inl (g 0, 9, .inl (fun _ => 0))), ((u_15.1 4), .inl (g 0, 100, .inl (fun _ => 0))), ((u_15.1 5), .inl (g 0, 100, .inl (fun _ => 0))), ((u_15.1 6), .inl (g 0, 100, .inl (fun _ => 0))), ((u_15.1 7), .inl (g 0, 100, .inl (fun _ => 0))), ((u_15.1 8), .inl (g 0, 100, .inl (fun _ => 0))), ((u_15.1 9), .inl (g 0, 100, .inl (fun _ => 0))), ((u_15.1 10), .inl (g 0, 100, .inl (fun _ => 0))), ((u_15.1 11), .inl (g 0, 100, .inl (fun _ => 0))), ((u_15.1 12), .inl (g 0, 100, .inl (fun _ => 0)))] H _ := hT
  refine z_putF C (ci := 7) (N := 7) rfl hin7 tyX7_ok nmX7 hT 0 5 rfl (Nat.le_of_ble_eq_true rfl) (by decide +kernel) (by decide +kernel) rfl hmn rfl rfl rfl dX7_init_64 [(h0, .inr (7, [.ref q_1, .ref q_4, .ref q_7, .ref q_10, .ref q_13, .ref q_14, .null])), (q_1, .inr (6, [.ref (u_2 0), .int 0])), ((u_2 0), .inl (g 0, 160, .inl (fun _ => 0))), (q_4, .inr (1, [.int 5, .int 40, .int 8, .int 0, .int 0, .int 0, .ref (u_5 0), .ref (u_5 1), .ref (u_5 2), .ref (u_5 3), .ref (u_5 4), .ref (u_5 5), .ref (u_5 6), .ref (u_5 7), .ref (u_5 8), .ref (u_5 9)])), ((u_5 0), .inl (g 0, 6, .inl (fun _ => 0))), ((u_5 1), .inl (g 0, 6, .inl (fun _ => 0))), ((u_5 2), .inl (g 0, 6, .inl (fun _ => 0))), ((u_5 3), .inl (g 0, 6, .inl (fun _ => 0))), ((u_5 4), .inl (g 0, 6, .inl (fun _ => 0))), ((u_5 5), .inl (g 0, 6, .inl (fun _ => 0))), ((u_5 6), .inl (g 0, 6, .inl (fun _ => 0))), ((u_5 7), .inl (g 0, 6, .inl (fun _ => 0))), ((u_5 8), .inl (g 0, 6, .inl (fun _ => 0))), (q_7, .inr (4, [.ref (u_8 0), .int 0, .int 0, .int 0, .int 0])), ((u_8 0), .inr (1, [.int 5, .int 40, .int 8, .int 0, .int 0, .int 0, .ref (u_8 1), .ref (u_8 2), .ref (u_8 3), .ref (u_8 4), .ref (u_8 5), .ref (u_8 6), .ref (u_8 7), .ref (u_8 8), .ref (u_8 9), .ref (u_8 10)])), ((u_8 1), .inl (g 0, 6, .inl (fun _ => 0))), ((u_8 2), .inl (g 0, 6, .inl (fun _ => 0))), ((u_8 3), .inl (g 0, 6, .inl (fun _ => 0))), ((u_8 4), .inl (g 0, 6, .inl (fun _ => 0))), ((u_8 5), .inl (g 0, 6, .inl (fun _ => 0))), ((u_8 6), .inl (g 0, 6, .inl (fun _ => 0))), ((u_8 7), .inl (g 0, 6, .inl (fun _ => 0))), ((u_8 8), .inl (g 0, 6, .inl (fun _ => 0))), ((u_8 9), .inl (g 0, 6, .inl (fun _ => 0))), (q_10, .inr (3, [.ref (u_11.1 0), .int 0, .int 0])), ((u_11.1 0), .inl (g 2, 8, .inr (.inr (.inr (.inr u_11.2))))), ((u_11.1 1), .inr (1, [.int 5, .int 40, .int 8, .int 0, .int 0, .int 0, .ref (u_11.1 2), .ref (u_11.1 3), .ref (u_11.1 4), .ref (u_11.1 5), .ref (u_11.1 6), .ref (u_11.1 7), .ref (u_11.1 8), .ref (u_11.1 9), .ref (u_11.1 10), .ref (u_11.1 11)])), ((u_11.1 2), .inl (g 0, 6, .inl (fun _ => 0))), ((u_11.1 3), .inl (g 0, 6, .inl (fun _ => 0))), ((u_11.1 4), .inl (g 0, 6, .inl (fun _ => 0))), ((u_11.1 5), .inl (g 0, 6, .inl (fun _ => 0))), ((u_11.1 6), .inl (g 0, 6, .inl (fun _ => 0))), ((u_11.1 7), .inl (g 0, 6, .inl (fun _ => 0))), ((u_11.1 8), .inl (g 0, 6, .inl (fun _ => 0))), ((u_11.1 9), .inl (g 0, 6, .inl (fun _ => 0))), ((u_11.1 10), .inl (g 0, 6, .inl (fun _ => 0))), (q_13, .inl (g 3, 2, .inr (.inr (.inr (.inr (fun _ => none)))))), (q_14, .inr (5, [.ref (u_15.1 0), .ref (u_15.1 1), .int 0, .int 0, .int (-1), .int (-1), .ref (u_15.1 2), .ref (u_15.1 3)])), ((u_15.1 0), .inl (g 0, 6, .inl (fun _ => 0))), ((u_15.1 1), .inl (g 0, 6, .inl (fun _ => 0))), ((u_15.1 2), .inl (g 4, 9, .inr (.inr (.inr (.inr u_15.2))))), ((u_15.1 3), .inl (g 0, 9, .inl (fun _ => 0))), ((u_15.1 4), .inl (g 0, 100, .inl (fun _ => 0))), ((u_15.1 5), .inl (g 0, 100, .inl (fun _ => 0))), ((u_15.1 6), .inl (g 0, 100, .inl (fun _ => 0))), ((u_15.1 7), .inl (g 0, 100, .inl (fun _ => 0))), ((u_15.1 8), .inl (g 0, 100, .inl (fun _ => 0))), ((u_15.1 9), .inl (g 0, 100, .inl (fun _ => 0))), ((u_15.1 10), .inl (g 0, 100, .inl (fun _ => 0))), ((u_15.1 11), .inl (g 0, 100, .inl (fun _ => 0))), ((u_15.1 12), .inl (g 0, 100, .inl (fun _ => 0)))] rfl (fun H locs hT => ?_)
  refine lv_aload_n hx hb dX7_init_67 rfl (lv_at hl 0 rfl) ?_
  refine z_new C (ci := 0) (N := 6) rfl hin0 tyX0_ok hT [.null, .null, .null, .null, .int 0, .int 0] (by decide +kernel) (by decide +kernel) (by decide +kernel) (by decide +kernel) (Nat.le_of_ble_eq_true rfl) (Nat.le_of_ble_eq_true rfl) dX7_init_68 (fun q_17 H hT => ?_)
  have hT : Sit D (TY g) A s [(h0, .inr (7, [.ref q_1, .ref q_4, .ref q_7, .ref q_10, .ref q_13, .ref q_14, .null])), (q_1, .inr (6, [.ref (u_2 0), .int 0])), ((u_2 0), .inl (g 0, 160, .inl (fun _ => 0))), (q_4, .inr (1, [.int 5, .int 40, .int 8, .int 0, .int 0, .int 0, .ref (u_5 0), .ref (u_5 1), .ref (u_5 2), .ref (u_5 3), .ref (u_5 4), .ref (u_5 5), .ref (u_5 6), .ref (u_5 7), .ref (u_5 8), .ref (u_5 9)])), ((u_5 0), .inl (g 0, 6, .inl (fun _ => 0))), ((u_5 1), .inl (g 0, 6, .inl (fun _ => 0))), ((u_5 2), .inl (g 0, 6, .inl (fun _ => 0))), ((u_5 3), .inl (g 0, 6, .inl (fun _ => 0))), ((u_5 4), .inl (g 0, 6, .inl (fun _ => 0))), ((u_5 5), .inl (g 0, 6, .inl (fun _ => 0))), ((u_5 6), .inl (g 0, 6, .inl (fun _ => 0))), ((u_5 7), .inl (g 0, 6, .inl (fun _ => 0))), ((u_5 8), .inl (g 0, 6, .inl (fun _ => 0))), (q_7, .inr (4, [.ref (u_8 0), .int 0, .int 0, .int 0, .int 0])), ((u_8 0), .inr (1, [.int 5, .int 40, .int 8, .int 0, .int 0, .int 0, .ref (u_8 1), .ref (u_8 2), .ref (u_8 3), .ref (u_8 4), .ref (u_8 5), .ref (u_8 6), .ref (u_8 7), .ref (u_8 8), .ref (u_8 9), .ref (u_8 10)])), ((u_8 1), .inl (g 0, 6, .inl (fun _ => 0))), ((u_8 2), .inl (g 0, 6, .inl (fun _ => 0))), ((u_8 3), .inl (g 0, 6, .inl (fun _ => 0))), ((u_8 4), .inl (g 0, 6, .inl (fun _ => 0))), ((u_8 5), .inl (g 0, 6, .inl (fun _ => 0))), ((u_8 6), .inl (g 0, 6, .inl (fun _ => 0))), ((u_8 7), .inl (g 0, 6, .inl (fun _ => 0))), ((u_8 8), .inl (g 0, 6, .inl (fun _ => 0))), ((u_8 9), .inl (g 0, 6, .inl (fun _ => 0))), (q_10, .inr (3, [.ref (u_11.1 0), .int 0, .int 0])), ((u_11.1 0), .inl (g 2, 8, .inr (.inr (.inr (.inr u_11.2))))), ((u_11.1 1), .inr (1, [.int 5, .int 40, .int 8, .int 0, .int 0, .int 0, .ref (u_11.1 2), .ref (u_11.1 3), .ref (u_11.1 4), .ref (u_11.1 5), .ref (u_11.1 6), .ref (u_11.1 7), .ref (u_11.1 8), .ref (u_11.1 9), .ref (u_11.1 10), .ref (u_11.1 11)])), ((u_11.1 2), .inl (g 0, 6, .inl (fun _ => 0))), ((u_11.1 3), .inl (g 0, 6, .inl (fun _ => 0))), ((u_11.1 4), .inl (g 0, 6, .inl (fun _ => 0))), ((u_11.1 5), .inl (g 0, 6, .inl (fun _ => 0))), ((u_11.1 6), .inl (g 0, 6, .inl (fun _ => 0))), ((u_11.1 7), .inl (g 0, 6, .inl (fun _ => 0))), ((u_11.1 8), .inl (g 0, 6, .inl (fun _ => 0))), ((u_11.1 9), .inl (g 0, 6, .inl (fun _ => 0))), ((u_11.1 10), .inl (g 0, 6, .inl (fun _ => 0))), (q_13, .inl (g 3, 2, .inr (.inr (.inr (.inr (fun _ => none)))))), (q_14, .inr (5, [.ref (u_15.1 0), .ref (u_15.1 1), .int 0, .int 0, .int (-1), .int (-1), .ref (u_15.1 2), .ref (u_15.1 3)])), ((u_15.1 0), .inl (g 0, 6, .inl (fun _ => 0))), ((u_15.1 1), .inl (g 0, 6, .inl (fun _ => 0))), ((u_15.1 2), .inl (g 4, 9, .inr (.inr (.inr (.inr u_15.2))))), ((u_15.1 3), .inl (g 0, 9, .inl (fun _ => 0))), ((u_15.1 4), .inl (g 0, 100, .inl (fun _ => 0))), ((u_15.1 5), .inl (g 0, 100, .inl (fun _ => 0))), ((u_15.1 6), .inl (g 0, 100, .inl (fun _ => 0))), ((u_15.1 7), .inl (g 0, 100, .inl (fun _ => 0))), ((u_15.1 8), .inl (g 0, 100, .inl (fun _ => 0))), ((u_15.1 9), .inl (g 0, 100, .inl (fun _ => 0))), ((u_15.1 10), .inl (g 0, 100, .inl (fun _ => 0))), ((u_15.1 11), .inl (g 0, 100, .inl (fun _ => 0))), ((u_15.1 12), .inl (g 0, 100, .inl (fun _ => 0))), (q_17, .inr (0, [.null, .null, .null, .null, .int 0, .int 0]))] H _ := hT
  refine lv_dup hx hb dX7_init_71 rfl ?_
  refine z_callIN (wr := [(h0, .inr (7, [.ref q_1, .ref q_4, .ref q_7, .ref q_10, .ref q_13, .ref q_14, .null])), (q_1, .inr (6, [.ref (u_2 0), .int 0])), ((u_2 0), .inl (g 0, 160, .inl (fun _ => 0))), (q_4, .inr (1, [.int 5, .int 40, .int 8, .int 0, .int 0, .int 0, .ref (u_5 0), .ref (u_5 1), .ref (u_5 2), .ref (u_5 3), .ref (u_5 4), .ref (u_5 5), .ref (u_5 6), .ref (u_5 7), .ref (u_5 8), .ref (u_5 9)])), ((u_5 0), .inl (g 0, 6, .inl (fun _ => 0))), ((u_5 1), .inl (g 0, 6, .inl (fun _ => 0))), ((u_5 2), .inl (g 0, 6, .inl (fun _ => 0))), ((u_5 3), .inl (g 0, 6, .inl (fun _ => 0))), ((u_5 4), .inl (g 0, 6, .inl (fun _ => 0))), ((u_5 5), .inl (g 0, 6, .inl (fun _ => 0))), ((u_5 6), .inl (g 0, 6, .inl (fun _ => 0))), ((u_5 7), .inl (g 0, 6, .inl (fun _ => 0))), ((u_5 8), .inl (g 0, 6, .inl (fun _ => 0))), (q_7, .inr (4, [.ref (u_8 0), .int 0, .int 0, .int 0, .int 0])), ((u_8 0), .inr (1, [.int 5, .int 40, .int 8, .int 0, .int 0, .int 0, .ref (u_8 1), .ref (u_8 2), .ref (u_8 3), .ref (u_8 4), .ref (u_8 5), .ref (u_8 6), .ref (u_8 7), .ref (u_8 8), .ref (u_8 9), .ref (u_8 10)])), ((u_8 1), .inl (g 0, 6, .inl (fun _ => 0))), ((u_8 2), .inl (g 0, 6, .inl (fun _ => 0))), ((u_8 3), .inl (g 0, 6, .inl (fun _ => 0))), ((u_8 4), .inl (g 0, 6, .inl (fun _ => 0))), ((u_8 5), .inl (g 0, 6, .inl (fun _ => 0))), ((u_8 6), .inl (g 0, 6, .inl (fun _ => 0))), ((u_8 7), .inl (g 0, 6, .inl (fun _ => 0))), ((u_8 8), .inl (g 0, 6, .inl (fun _ => 0))), ((u_8 9), .inl (g 0, 6, .inl (fun _ => 0))), (q_10, .inr (3, [.ref (u_11.1 0), .int 0, .int 0])), ((u_11.1 0), .inl (g 2, 8, .inr (.inr (.inr (.inr u_11.2))))), ((u_11.1 1), .inr (1, [.int 5, .int 40, .int 8, .int 0, .int 0, .int 0, .ref (u_11.1 2), .ref (u_11.1 3), .ref (u_11.1 4), .ref (u_11.1 5), .ref (u_11.1 6), .ref (u_11.1 7), .ref (u_11.1 8), .ref (u_11.1 9), .ref (u_11.1 10), .ref (u_11.1 11)])), ((u_11.1 2), .inl (g 0, 6, .inl (fun _ => 0))), ((u_11.1 3), .inl (g 0, 6, .inl (fun _ => 0))), ((u_11.1 4), .inl (g 0, 6, .inl (fun _ => 0))), ((u_11.1 5), .inl (g 0, 6, .inl (fun _ => 0))), ((u_11.1 6), .inl (g 0, 6, .inl (fun _ => 0))), ((u_11.1 7), .inl (g 0, 6, .inl (fun _ => 0))), ((u_11.1 8), .inl (g 0, 6, .inl (fun _ => 0))), ((u_11.1 9), .inl (g 0, 6, .inl (fun _ => 0))), ((u_11.1 10), .inl (g 0, 6, .inl (fun _ => 0))), (q_13, .inl (g 3, 2, .inr (.inr (.inr (.inr (fun _ => none)))))), (q_14, .inr (5, [.ref (u_15.1 0), .ref (u_15.1 1), .int 0, .int 0, .int (-1), .int (-1), .ref (u_15.1 2), .ref (u_15.1 3)])), ((u_15.1 0), .inl (g 0, 6, .inl (fun _ => 0))), ((u_15.1 1), .inl (g 0, 6, .inl (fun _ => 0))), ((u_15.1 2), .inl (g 4, 9, .inr (.inr (.inr (.inr u_15.2))))), ((u_15.1 3), .inl (g 0, 9, .inl (fun _ => 0))), ((u_15.1 4), .inl (g 0, 100, .inl (fun _ => 0))), ((u_15.1 5), .inl (g 0, 100, .inl (fun _ => 0))), ((u_15.1 6), .inl (g 0, 100, .inl (fun _ => 0))), ((u_15.1 7), .inl (g 0, 100, .inl (fun _ => 0))), ((u_15.1 8), .inl (g 0, 100, .inl (fun _ => 0))), ((u_15.1 9), .inl (g 0, 100, .inl (fun _ => 0))), ((u_15.1 10), .inl (g 0, 100, .inl (fun _ => 0))), ((u_15.1 11), .inl (g 0, 100, .inl (fun _ => 0))), ((u_15.1 12), .inl (g 0, 100, .inl (fun _ => 0)))]) C (c_Foretelling_init l D g q_17) gX7_init_X0_init_n52 rfl (hX.nw 4 rfl) (by decide +kernel) (by decide +kernel) rfl (by decide +kernel) ⟨Nat.le_of_ble_eq_true rfl, Nat.le_of_ble_eq_true rfl⟩ ⟨Nat.le_of_ble_eq_true rfl, Nat.le_of_ble_eq_true rfl⟩ Ev.blind (fun U hU hW => hX.warm hW) hT [51] [0, 1, 2, 3, 4, 5, 6, 7, 8, 9, 10, 11, 12, 13, 14, 15, 16, 17, 18, 19, 20, 21, 22, 23, 24, 25, 26, 27, 28, 29, 30, 31, 32, 33, 34, 35, 36, 37, 38, 39, 40, 41, 42, 43, 44, 45, 46, 47, 48, 49, 50] rfl rfl rfl rfl rfl rfl hl.1 rfl (Nat.le_of_ble_eq_true rfl) dX7_init_72 (fun u_18 H locs hp_19 hT => ?_)
  have hT : Sit D (TY g) A s [(h0, .inr (7, [.ref q_1, .ref q_4, .ref q_7, .ref q_10, .ref q_13, .ref q_14, .null])), (q_1, .inr (6, [.ref (u_2 0), .int 0])), ((u_2 0), .inl (g 0, 160, .inl (fun _ => 0))), (q_4, .inr (1, [.int 5, .int 40, .int 8, .int 0, .int 0, .int 0, .ref (u_5 0), .ref (u_5 1), .ref (u_5 2), .ref (u_5 3), .ref (u_5 4), .ref (u_5 5), .ref (u_5 6), .ref (u_5 7), .ref (u_5 8), .ref (u_5 9)])), ((u_5 0), .inl (g 0, 6, .inl (fun _ => 0))), ((u_5 1), .inl (g 0, 6, .inl (fun _ => 0))), ((u_5 2), .inl (g 0, 6, .inl (fun _ => 0))), ((u_5 3), .inl (g 0, 6, .inl (fun _ => 0))), ((u_5 4), .inl (g 0, 6, .inl (fun _ => 0))), ((u_5 5), .inl (g 0, 6, .inl (fun _ => 0))), ((u_5 6), .inl (g 0, 6, .inl (fun _ => 0))), ((u_5 7), .inl (g 0, 6, .inl (fun _ => 0))), ((u_5 8), .inl (g 0, 6, .inl (fun _ => 0))), (q_7, .inr (4, [.ref (u_8 0), .int 0, .int 0, .int 0, .int 0])), ((u_8 0), .inr (1, [.int 5, .int 40, .int 8, .int 0, .int 0, .int 0, .ref (u_8 1), .ref (u_8 2), .ref (u_8 3), .ref (u_8 4), .ref (u_8 5), .ref (u_8 6), .ref (u_8 7), .ref (u_8 8), .ref (u_8 9), .ref (u_8 10)])), ((u_8 1), .inl (g 0, 6, .inl (fun _ => 0))), ((u_8 2), .inl (g 0, 6, .inl (fun _ => 0))), ((u_8 3), .inl (g 0, 6, .inl (fun _ => 0))), ((u_8 4), .inl (g 0, 6, .inl (fun _ => 0))), ((u_8 5), .inl (g 0, 6, .inl (fun _ => 0))), ((u_8 6), .inl (g 0, 6, .inl (fun _ => 0))), ((u_8 7), .inl (g 0, 6, .inl (fun _ => 0))), ((u_8 8), .inl (g 0, 6, .inl (fun _ => 0))), ((u_8 9), .inl (g 0, 6, .inl (fun _ => 0))), (q_10, .inr (3, [.ref (u_11.1 0), .int 0, .int 0])), ((u_11.1 0), .inl (g 2, 8, .inr (.inr (.inr (.inr u_11.2))))), ((u_11.1 1), .inr (1, [.int 5, .int 40, .int 8, .int 0, .int 0, .int 0, .ref (u_11.1 2), .ref (u_11.1 3), .ref (u_11.1 4), .ref (u_11.1 5), .ref (u_11.1 6), .ref (u_11.1 7), .ref (u_11.1 8), .ref (u_11.1 9), .ref (u_11.1 10), .ref (u_11.1 11)])), ((u_11.1 2), .inl (g 0, 6, .inl (fun _ => 0))), ((u_11.1 3), .inl (g 0, 6, .inl (fun _ => 0))), ((u_11.1 4), .inl (g 0, 6, .inl (fun _ => 0))), ((u_11.1 5), .inl (g 0, 6, .inl (fun _ => 0))), ((u_11.1 6), .inl (g 0, 6, .inl (fun _ => 0))), ((u_11.1 7), .inl (g 0, 6, .inl (fun _ => 0))), ((u_11.1 8), .inl (g 0, 6, .inl (fun _ => 0))), ((u_11.1 9), .inl (g 0, 6, .inl (fun _ => 0))), ((u_11.1 10), .inl (g 0, 6, .inl (fun _ => 0))), (q_13, .inl (g 3, 2, .inr (.inr (.inr (.inr (fun _ => none)))))), (q_14, .inr (5, [.ref (u_15.1 0), .ref (u_15.1 1), .int 0, .int 0, .int (-1), .int (-1), .ref (u_15.1 2), .ref (u_15.1 3)])), ((u_15.1 0), .inl (g 0, 6, .inl (fun _ => 0))), ((u_15.1 1), .inl (g 0, 6, .inl (fun _ => 0))), ((u_15.1 2), .inl (g 4, 9, .inr (.inr (.inr (.inr u_15.2))))), ((u_15.1 3), .inl (g 0, 9, .inl (fun _ => 0))), ((u_15.1 4), .inl (g 0, 100, .inl (fun _ => 0))), ((u_15.1 5), .inl (g 0, 100, .inl (fun _ => 0))), ((u_15.1 6), .inl (g 0, 100, .inl (fun _ => 0))), ((u_15.1 7), .inl (g 0, 100, .inl (fun _ => 0))), ((u_15.1 8), .inl (g 0, 100, .inl (fun _ => 0))), ((u_15.1 9), .inl (g 0, 100, .inl (fun _ => 0))), ((u_15.1 10), .inl (g 0, 100, .inl (fun _ => 0))), ((u_15.1 11), .inl (g 0, 100, .inl (fun _ => 0))), ((u_15.1 12), .inl (g 0, 100, .inl (fun _ => 0))), (q_17, .inr (0, [.ref (u_18 0), .ref (u_18 1), .ref (u_18 2), .ref (u_18 3), .int (-1), .int 0]))] H _ := hT
  refine z_putF C (ci := 7) (N := 7) rfl hin7 tyX7_ok nmX7 hT 0 6 rfl (Nat.le_of_ble_eq_true rfl) (by decide +kernel) (by decide +kernel) rfl hmn rfl rfl rfl dX7_init_75 [(h0, .inr (7, [.ref q_1, .ref q_4, .ref q_7, .ref q_10, .ref q_13, .ref q_14, .ref q_17])), (q_1, .inr (6, [.ref (u_2 0), .int 0])), ((u_2 0), .inl (g 0, 160, .inl (fun _ => 0))), (q_4, .inr (1, [.int 5, .int 40, .int 8, .int 0, .int 0, .int 0, .ref (u_5 0), .ref (u_5 1), .ref (u_5 2), .ref (u_5 3), .ref (u_5 4), .ref (u_5 5), .ref (u_5 6), .ref (u_5 7), .ref (u_5 8), .ref (u_5 9)])), ((u_5 0), .inl (g 0, 6, .inl (fun _ => 0))), ((u_5 1), .inl (g 0, 6, .inl (fun _ => 0))), ((u_5 2), .inl (g 0, 6, .inl (fun _ => 0))), ((u_5 3), .inl (g 0, 6, .inl (fun _ => 0))), ((u_5 4), .inl (g 0, 6, .inl (fun _ => 0))), ((u_5 5), .inl (g 0, 6, .inl (fun _ => 0))), ((u_5 6), .inl (g 0, 6, .inl (fun _ => 0))), ((u_5 7), .inl (g 0, 6, .inl (fun _ => 0))), ((u_5 8), .inl (g 0, 6, .inl (fun _ => 0))), (q_7, .inr (4, [.ref (u_8 0), .int 0, .int 0, .int 0, .int 0])), ((u_8 0), .inr (1, [.int 5, .int 40, .int 8, .int 0, .int 0, .int 0, .ref (u_8 1), .ref (u_8 2), .ref (u_8 3), .ref (u_8 4), .ref (u_8 5), .ref (u_8 6), .ref (u_8 7), .ref (u_8 8), .ref (u_8 9), .ref (u_8 10)])), ((u_8 1), .inl (g 0, 6, .inl (fun _ => 0))), ((u_8 2), .inl (g 0, 6, .inl (fun _ => 0))), ((u_8 3), .inl (g 0, 6, .inl (fun _ => 0))), ((u_8 4), .inl (g 0, 6, .inl (fun _ => 0))), ((u_8 5), .inl (g 0, 6, .inl (fun _ => 0))), ((u_8 6), .inl (g 0, 6, .inl (fun _ => 0))), ((u_8 7), .inl (g 0, 6, .inl (fun _ => 0))), ((u_8 8), .inl (g 0, 6, .inl (fun _ => 0))), ((u_8 9), .inl (g 0, 6, .inl (fun _ => 0))), (q_10, .inr (3, [.ref (u_11.1 0), .int 0, .int 0])), ((u_11.1 0), .inl (g 2, 8, .inr (.inr (.inr (.inr u_11.2))))), ((u_11.1 1), .inr (1, [.int 5, .int 40, .int 8, .int 0, .int 0, .int 0, .ref (u_11.1 2), .ref (u_11.1 3), .ref (u_11.1 4), .ref (u_11.1 5), .ref (u_11.1 6), .ref (u_11.1 7), .ref (u_11.1 8), .ref (u_11.1 9), .ref (u_11.1 10), .ref (u_11.1 11)])), ((u_11.1 2), .inl (g 0, 6, .inl (fun _ => 0))), ((u_11.1 3), .inl (g 0, 6, .inl (fun _ => 0))), ((u_11.1 4), .inl (g 0, 6, .inl (fun _ => 0))), ((u_11.1 5), .inl (g 0, 6, .inl (fun _ => 0))), ((u_11.1 6), .inl (g 0, 6, .inl (fun _ => 0))), ((u_11.1 7), .inl (g 0, 6, .inl (fun _ => 0))), ((u_11.1 8), .inl (g 0, 6, .inl (fun _ => 0))), ((u_11.1 9), .inl (g 0, 6, .inl (fun _ => 0))), ((u_11.1 10), .inl (g 0, 6, .inl (fun _ => 0))), (q_13, .inl (g 3, 2, .inr (.inr (.inr (.inr (fun _ => none)))))), (q_14, .inr (5, [.ref (u_15.1 0), .ref (u_15.1 1), .int 0, .int 0, .int (-1), .int (-1), .ref (u_15.1 2), .ref (u_15.1 3)])), ((u_15.1 0), .inl (g 0, 6, .inl (fun _ => 0))), ((u_15.1 1), .inl (g 0, 6, .inl (fun _ => 0))), ((u_15.1 2), .inl (g 4, 9, .inr (.inr (.inr (.inr u_15.2))))), ((u_15.1 3), .inl (g 0, 9, .inl (fun _ => 0))), ((u_15.1 4), .inl (g 0, 100, .inl (fun _ => 0))), ((u_15.1 5), .inl (g 0, 100, .inl (fun _ => 0))), ((u_15.1 6), .inl (g 0, 100, .inl (fun _ => 0))), ((u_15.1 7), .inl (g 0, 100, .inl (fun _ => 0))), ((u_15.1 8), .inl (g 0, 100, .inl (fun _ => 0))), ((u_15.1 9), .inl (g 0, 100, .inl (fun _ => 0))), ((u_15.1 10), .inl (g 0, 100, .inl (fun _ => 0))), ((u_15.1 11), .inl (g 0, 100, .inl (fun _ => 0))), ((u_15.1 12), .inl (g 0, 100, .inl (fun _ => 0))), (q_17, .inr (0, [.ref (u_18 0), .ref (u_18 1), .ref (u_18 2), .ref (u_18 3), .int (-1), .int 0]))] rfl (fun H locs hT => ?_)
  refine lv_iconst (v := 0) hx hb dX7_init_78 (by decide +kernel) ?_
  refine lv_istore_n (lv' := [(1, .int 0), (0, .ref h0)]) hx hb dX7_init_79 rfl hl (by decide +kernel) rfl (fun ls hl => ?_)
  refine lv_iload_n hx hb dX7_init_80 rfl (lv_at hl 0 rfl) ?_
  refine lv_iconst (v := 2) hx hb dX7_init_81 (by decide +kernel) ?_
  refine lv_icmp_ge (tgt := 104) hx hb dX7_init_82 (by decide +kernel) (fun c9 => absurd c9 (by decide +kernel)) (fun _ => ?_)
  refine lv_aload_n hx hb dX7_init_85 rfl (lv_at hl 1 rfl) ?_
  refine z_get C (ci := 7) (N := 7) rfl hin7 hT 0 4 rfl rfl (by decide +kernel) (by decide +kernel) dX7_init_86 ?_
  refine lv_iload_n hx hb dX7_init_89 rfl (lv_at hl 0 rfl) ?_
  refine z_new C (ci := 2) (N := 3) rfl hin2 tyX2_ok hT [.null, .null, .int 0] (by decide +kernel) (by decide +kernel) (by decide +kernel) (by decide +kernel) (Nat.le_of_ble_eq_true rfl) (Nat.le_of_ble_eq_true rfl) dX7_init_90 (fun q_20 H hT => ?_)
  have hT : Sit D (TY g) A s [(h0, .inr (7, [.ref q_1, .ref q_4, .ref q_7, .ref q_10, .ref q_13, .ref q_14, .ref q_17])), (q_1, .inr (6, [.ref (u_2 0), .int 0])), ((u_2 0), .inl (g 0, 160, .inl (fun _ => 0))), (q_4, .inr (1, [.int 5, .int 40, .int 8, .int 0, .int 0, .int 0, .ref (u_5 0), .ref (u_5 1), .ref (u_5 2), .ref (u_5 3), .ref (u_5 4), .ref (u_5 5), .ref (u_5 6), .ref (u_5 7), .ref (u_5 8), .ref (u_5 9)])), ((u_5 0), .inl (g 0, 6, .inl (fun _ => 0))), ((u_5 1), .inl (g 0, 6, .inl (fun _ => 0))), ((u_5 2), .inl (g 0, 6, .inl (fun _ => 0))), ((u_5 3), .inl (g 0, 6, .inl (fun _ => 0))), ((u_5 4), .inl (g 0, 6, .inl (fun _ => 0))), ((u_5 5), .inl (g 0, 6, .inl (fun _ => 0))), ((u_5 6), .inl (g 0, 6, .inl (fun _ => 0))), ((u_5 7), .inl (g 0, 6, .inl (fun _ => 0))), ((u_5 8), .inl (g 0, 6, .inl (fun _ => 0))), (q_7, .inr (4, [.ref (u_8 0), .int 0, .int 0, .int 0, .int 0])), ((u_8 0), .inr (1, [.int 5, .int 40, .int 8, .int 0, .int 0, .int 0, .ref (u_8 1), .ref (u_8 2), .ref (u_8 3), .ref (u_8 4), .ref (u_8 5), .ref (u_8 6), .ref (u_8 7), .ref (u_8 8), .ref (u_8 9), .ref (u_8 10)])), ((u_8 1), .inl (g 0, 6, .inl (fun _ => 0))), ((u_8 2), .inl (g 0, 6, .inl (fun _ => 0))), ((u_8 3), .inl (g 0, 6, .inl (fun _ => 0))), ((u_8 4), .inl (g 0, 6, .inl (fun _ => 0))), ((u_8 5), .inl (g 0, 6, .inl (fun _ => 0))), ((u_8 6), .inl (g 0, 6, .inl (fun _ => 0))), ((u_8 7), .inl (g 0, 6, .inl (fun _ => 0))), ((u_8 8), .inl (g 0, 6, .inl (fun _ => 0))), ((u_8 9), .inl (g 0, 6, .inl (fun _ => 0))), (q_10, .inr (3, [.ref (u_11.1 0), .int 0, .int 0])), ((u_11.1 0), .inl (g 2, 8, .inr (.inr (.inr (.inr u_11.2))))), ((u_11.1 1), .inr (1, [.int 5, .int 40, .int 8, .int 0, .int 0, .int 0, .ref (u_11.1 2), .ref (u_11.1 3), .ref (u_11.1 4), .ref (u_11.1 5), .ref (u_11.1 6), .ref (u_11.1 7), .ref (u_11.1 8), .ref (u_11.1 9), .ref (u_11.1 10), .ref (u_11.1 11)])), ((u_11.1 2), .inl (g 0, 6, .inl (fun _ => 0))), ((u_11.1 3), .inl (g 0, 6, .inl (fun _ => 0))), ((u_11.1 4), .inl (g 0, 6, .inl (fun _ => 0))), ((u_11.1 5), .inl (g 0, 6, .inl (fun _ => 0))), ((u_11.1 6), .inl (g 0, 6, .inl (fun _ => 0))), ((u_11.1 7), .inl (g 0, 6, .inl (fun _ => 0))), ((u_11.1 8), .inl (g 0, 6, .inl (fun _ => 0))), ((u_11.1 9), .inl (g 0, 6, .inl (fun _ => 0))), ((u_11.1 10), .inl (g 0, 6, .inl (fun _ => 0))), (q_13, .inl (g 3, 2, .inr (.inr (.inr (.inr (fun _ => none)))))), (q_14, .inr (5, [.ref (u_15.1 0), .ref (u_15.1 1), .int 0, .int 0, .int (-1), .int (-1), .ref (u_15.1 2), .ref (u_15.1 3)])), ((u_15.1 0), .inl (g 0, 6, .inl (fun _ => 0))), ((u_15.1 1), .inl (g 0, 6, .inl (fun _ => 0))), ((u_15.1 2), .inl (g 4, 9, .inr (.inr (.inr (.inr u_15.2))))), ((u_15.1 3), .inl (g 0, 9, .inl (fun _ => 0))), ((u_15.1 4), .inl (g 0, 100, .inl (fun _ => 0))), ((u_15.1 5), .inl (g 0, 100, .inl (fun _ => 0))), ((u_15.1 6), .inl (g 0, 100, .inl (fun _ => 0))), ((u_15.1 7), .inl (g 0, 100, .inl (fun _ => 0))), ((u_15.1 8), .inl (g 0, 100, .inl (fun _ => 0))), ((u_15.1 9), .inl (g 0, 100, .inl (fun _ => 0))), ((u_15.1 10), .inl (g 0, 100, .inl (fun _ => 0))), ((u_15.1 11), .inl (g 0, 100, .inl (fun _ => 0))), ((u_15.1 12), .inl (g 0, 100, .inl (fun _ => 0))), (q_17, .inr (0, [.ref (u_18 0), .ref (u_18 1), .ref (u_18 2), .ref (u_18 3), .int (-1), .int 0])), (q_20, .inr (2, [.null, .null, .int 0]))] H _ := hT
  refine lv_dup hx hb dX7_init_93 rfl ?_
  refine z_callIN (wr := [(h0, .inr (7, [.ref q_1, .ref q_4, .ref q_7, .ref q_10, .ref q_13, .ref q_14, .ref q_17])), (q_1, .inr (6, [.ref (u_2 0), .int 0])), ((u_2 0), .inl (g 0, 160, .inl (fun _ => 0))), (q_4, .inr (1, [.int 5, .int 40, .int 8, .int 0, .int 0, .int 0, .ref (u_5 0), .ref (u_5 1), .ref (u_5 2), .ref (u_5 3), .ref (u_5 4), .ref (u_5 5), .ref (u_5 6), .ref (u_5 7), .ref (u_5 8), .ref (u_5 9)])), ((u_5 0), .inl (g 0, 6, .inl (fun _ => 0))), ((u_5 1), .inl (g 0, 6, .inl (fun _ => 0))), ((u_5 2), .inl (g 0, 6, .inl (fun _ => 0))), ((u_5 3), .inl (g 0, 6, .inl (fun _ => 0))), ((u_5 4), .inl (g 0, 6, .inl (fun _ => 0))), ((u_5 5), .inl (g 0, 6, .inl (fun _ => 0))), ((u_5 6), .inl (g 0, 6, .inl (fun _ => 0))), ((u_5 7), .inl (g 0, 6, .inl (fun _ => 0))), ((u_5 8), .inl (g 0, 6, .inl (fun _ => 0))), (q_7, .inr (4, [.ref (u_8 0), .int 0, .int 0, .int 0, .int 0])), ((u_8 0), .inr (1, [.int 5, .int 40, .int 8, .int 0, .int 0, .int 0, .ref (u_8 1), .ref (u_8 2), .ref (u_8 3), .ref (u_8 4), .ref (u_8 5), .ref (u_8 6), .ref (u_8 7), .ref (u_8 8), .ref (u_8 9), .ref (u_8 10)])), ((u_8 1), .inl (g 0, 6, .inl (fun _ => 0))), ((u_8 2), .inl (g 0, 6, .inl (fun _ => 0))), ((u_8 3), .inl (g 0, 6, .inl (fun _ => 0))), ((u_8 4), .inl (g 0, 6, .inl (fun _ => 0))), ((u_8 5), .inl (g 0, 6, .inl (fun _ => 0))), ((u_8 6), .inl (g 0, 6, .inl (fun _ => 0))), ((u_8 7), .inl (g 0, 6, .inl (fun _ => 0))), ((u_8 8), .inl (g 0, 6, .inl (fun _ => 0))), ((u_8 9), .inl (g 0, 6, .inl (fun _ => 0))), (q_10, .inr (3, [.ref (u_11.1 0), .int 0, .int 0])), ((u_11.1 0), .inl (g 2, 8, .inr (.inr (.inr (.inr u_11.2))))), ((u_11.1 1), .inr (1, [.int 5, .int 40, .int 8, .int 0, .int 0, .int 0, .ref (u_11.1 2), .ref (u_11.1 3), .ref (u_11.1 4), .ref (u_11.1 5), .ref (u_11.1 6), .ref (u_11.1 7), .ref (u_11.1 8), .ref (u_11.1 9), .ref (u_11.1 10), .ref (u_11.1 11)])), ((u_11.1 2), .inl (g 0, 6, .inl (fun _ => 0))), ((u_11.1 3), .inl (g 0, 6, .inl (fun _ => 0))), ((u_11.1 4), .inl (g 0, 6, .inl (fun _ => 0))), ((u_11.1 5), .inl (g 0, 6, .inl (fun _ => 0))), ((u_11.1 6), .inl (g 0, 6, .inl (fun _ => 0))), ((u_11.1 7), .inl (g 0, 6, .inl (fun _ => 0))), ((u_11.1 8), .inl (g 0, 6, .inl (fun _ => 0))), ((u_11.1 9), .inl (g 0, 6, .inl (fun _ => 0))), ((u_11.1 10), .inl (g 0, 6, .inl (fun _ => 0))), (q_13, .inl (g 3, 2, .inr (.inr (.inr (.inr (fun _ => none)))))), (q_14, .inr (5, [.ref (u_15.1 0), .ref (u_15.1 1), .int 0, .int 0, .int (-1), .int (-1), .ref (u_15.1 2), .ref (u_15.1 3)])), ((u_15.1 0), .inl (g 0, 6, .inl (fun _ => 0))), ((u_15.1 1), .inl (g 0, 6, .inl (fun _ => 0))), ((u_15.1 2), .inl (g 4, 9, .inr (.inr (.inr (.inr u_15.2))))), ((u_15.1 3), .inl (g 0, 9, .inl (fun _ => 0))), ((u_15.1 4), .inl (g 0, 100, .inl (fun _ => 0))), ((u_15.1 5), .inl (g 0, 100, .inl (fun _ => 0))), ((u_15.1 6), .inl (g 0, 100, .inl (fun _ => 0))), ((u_15.1 7), .inl (g 0, 100, .inl (fun _ => 0))), ((u_15.1 8), .inl (g 0, 100, .inl (fun _ => 0))), ((u_15.1 9), .inl (g 0, 100, .inl (fun _ => 0))), ((u_15.1 10), .inl (g 0, 100, .inl (fun _ => 0))), ((u_15.1 11), .inl (g 0, 100, .inl (fun _ => 0))), ((u_15.1 12), .inl (g 0, 100, .inl (fun _ => 0))), (q_17, .inr (0, [.ref (u_18 0), .ref (u_18 1), .ref (u_18 2), .ref (u_18 3), .int (-1), .int 0]))]) C (c_Kept_init l D g q_20) gX7_init_X2_init_n57 rfl (hX.nw 5 rfl) (by decide +kernel) (by decide +kernel) rfl (by decide +kernel) ⟨Nat.le_of_ble_eq_true rfl, Nat.le_of_ble_eq_true rfl⟩ ⟨Nat.le_of_ble_eq_true rfl, Nat.le_of_ble_eq_true rfl⟩ Ev.blind (fun U hU hW => hX.warm hW) hT [52] [0, 1, 2, 3, 4, 5, 6, 7, 8, 9, 10, 11, 12, 13, 14, 15, 16, 17, 18, 19, 20, 21, 22, 23, 24, 25, 26, 27, 28, 29, 30, 31, 32, 33, 34, 35, 36, 37, 38, 39, 40, 41, 42, 43, 44, 45, 46, 47, 48, 49, 50, 51] rfl rfl rfl rfl rfl rfl hl.1 rfl (Nat.le_of_ble_eq_true rfl) dX7_init_94 (fun u_21 H locs hp_22 hT => ?_)
  have hT : Sit D (TY g) A s [(h0, .inr (7, [.ref q_1, .ref q_4, .ref q_7, .ref q_10, .ref q_13, .ref q_14, .ref q_17])), (q_1, .inr (6, [.ref (u_2 0), .int 0])), ((u_2 0), .inl (g 0, 160, .inl (fun _ => 0))), (q_4, .inr (1, [.int 5, .int 40, .int 8, .int 0, .int 0, .int 0, .ref (u_5 0), .ref (u_5 1), .ref (u_5 2), .ref (u_5 3), .ref (u_5 4), .ref (u_5 5), .ref (u_5 6), .ref (u_5 7), .ref (u_5 8), .ref (u_5 9)])), ((u_5 0), .inl (g 0, 6, .inl (fun _ => 0))), ((u_5 1), .inl (g 0, 6, .inl (fun _ => 0))), ((u_5 2), .inl (g 0, 6, .inl (fun _ => 0))), ((u_5 3), .inl (g 0, 6, .inl (fun _ => 0))), ((u_5 4), .inl (g 0, 6, .inl (fun _ => 0))), ((u_5 5), .inl (g 0, 6, .inl (fun _ => 0))), ((u_5 6), .inl (g 0, 6, .inl (fun _ => 0))), ((u_5 7), .inl (g 0, 6, .inl (fun _ => 0))), ((u_5 8), .inl (g 0, 6, .inl (fun _ => 0))), (q_7, .inr (4, [.ref (u_8 0), .int 0, .int 0, .int 0, .int 0])), ((u_8 0), .inr (1, [.int 5, .int 40, .int 8, .int 0, .int 0, .int 0, .ref (u_8 1), .ref (u_8 2), .ref (u_8 3), .ref (u_8 4), .ref (u_8 5), .ref (u_8 6), .ref (u_8 7), .ref (u_8 8), .ref (u_8 9), .ref (u_8 10)])), ((u_8 1), .inl (g 0, 6, .inl (fun _ => 0))), ((u_8 2), .inl (g 0, 6, .inl (fun _ => 0))), ((u_8 3), .inl (g 0, 6, .inl (fun _ => 0))), ((u_8 4), .inl (g 0, 6, .inl (fun _ => 0))), ((u_8 5), .inl (g 0, 6, .inl (fun _ => 0))), ((u_8 6), .inl (g 0, 6, .inl (fun _ => 0))), ((u_8 7), .inl (g 0, 6, .inl (fun _ => 0))), ((u_8 8), .inl (g 0, 6, .inl (fun _ => 0))), ((u_8 9), .inl (g 0, 6, .inl (fun _ => 0))), (q_10, .inr (3, [.ref (u_11.1 0), .int 0, .int 0])), ((u_11.1 0), .inl (g 2, 8, .inr (.inr (.inr (.inr u_11.2))))), ((u_11.1 1), .inr (1, [.int 5, .int 40, .int 8, .int 0, .int 0, .int 0, .ref (u_11.1 2), .ref (u_11.1 3), .ref (u_11.1 4), .ref (u_11.1 5), .ref (u_11.1 6), .ref (u_11.1 7), .ref (u_11.1 8), .ref (u_11.1 9), .ref (u_11.1 10), .ref (u_11.1 11)])), ((u_11.1 2), .inl (g 0, 6, .inl (fun _ => 0))), ((u_11.1 3), .inl (g 0, 6, .inl (fun _ => 0))), ((u_11.1 4), .inl (g 0, 6, .inl (fun _ => 0))), ((u_11.1 5), .inl (g 0, 6, .inl (fun _ => 0))), ((u_11.1 6), .inl (g 0, 6, .inl (fun _ => 0))), ((u_11.1 7), .inl (g 0, 6, .inl (fun _ => 0))), ((u_11.1 8), .inl (g 0, 6, .inl (fun _ => 0))), ((u_11.1 9), .inl (g 0, 6, .inl (fun _ => 0))), ((u_11.1 10), .inl (g 0, 6, .inl (fun _ => 0))), (q_13, .inl (g 3, 2, .inr (.inr (.inr (.inr (fun _ => none)))))), (q_14, .inr (5, [.ref (u_15.1 0), .ref (u_15.1 1), .int 0, .int 0, .int (-1), .int (-1), .ref (u_15.1 2), .ref (u_15.1 3)])), ((u_15.1 0), .inl (g 0, 6, .inl (fun _ => 0))), ((u_15.1 1), .inl (g 0, 6, .inl (fun _ => 0))), ((u_15.1 2), .inl (g 4, 9, .inr (.inr (.inr (.inr u_15.2))))), ((u_15.1 3), .inl (g 0, 9, .inl (fun _ => 0))), ((u_15.1 4), .inl (g 0, 100, .inl (fun _ => 0))), ((u_15.1 5), .inl (g 0, 100, .inl (fun _ => 0))), ((u_15.1 6), .inl (g 0, 100, .inl (fun _ => 0))), ((u_15.1 7), .inl (g 0, 100, .inl (fun _ => 0))), ((u_15.1 8), .inl (g 0, 100, .inl (fun _ => 0))), ((u_15.1 9), .inl (g 0, 100, .inl (fun _ => 0))), ((u_15.1 10), .inl (g 0, 100, .inl (fun _ => 0))), ((u_15.1 11), .inl (g 0, 100, .inl (fun _ => 0))), ((u_15.1 12), .inl (g 0, 100, .inl (fun _ => 0))), (q_17, .inr (0, [.ref (u_18 0), .ref (u_18 1), .ref (u_18 2), .ref (u_18 3), .int (-1), .int 0])), (q_20, .inr (2, [.ref (u_21 0), .ref (u_21 1), .int 0])), ((u_21 0), .inr (1, [.int 5, .int 40, .int 8, .int 0, .int 0, .int 0, .ref (u_21 2), .ref (u_21 3), .ref (u_21 4), .ref (u_21 5), .ref (u_21 6), .ref (u_21 7), .ref (u_21 8), .ref (u_21 9), .ref (u_21 10), .ref (u_21 11)])), ((u_21 2), .inl (g 0, 6, .inl (fun _ => 0))), ((u_21 3), .inl (g 0, 6, .inl (fun _ => 0))), ((u_21 4), .inl (g 0, 6, .inl (fun _ => 0))), ((u_21 5), .inl (g 0, 6, .inl (fun _ => 0))), ((u_21 6), .inl (g 0, 6, .inl (fun _ => 0))), ((u_21 7), .inl (g 0, 6, .inl (fun _ => 0))), ((u_21 8), .inl (g 0, 6, .inl (fun _ => 0))), ((u_21 9), .inl (g 0, 6, .inl (fun _ => 0))), ((u_21 10), .inl (g 0, 6, .inl (fun _ => 0))), ((u_21 1), .inr (6, [.ref (u_21 12), .int 0])), ((u_21 12), .inl (g 0, 160, .inl (fun _ => 0)))] H _ := hT
  refine z_aast C hT 36 3 52 2 rfl rfl rfl rfl (vin rfl) dX7_init_97 (va_up (fun _ => none) 0 (some q_20)) rfl [(h0, .inr (7, [.ref q_1, .ref q_4, .ref q_7, .ref q_10, .ref q_13, .ref q_14, .ref q_17])), (q_1, .inr (6, [.ref (u_2 0), .int 0])), ((u_2 0), .inl (g 0, 160, .inl (fun _ => 0))), (q_4, .inr (1, [.int 5, .int 40, .int 8, .int 0, .int 0, .int 0, .ref (u_5 0), .ref (u_5 1), .ref (u_5 2), .ref (u_5 3), .ref (u_5 4), .ref (u_5 5), .ref (u_5 6), .ref (u_5 7), .ref (u_5 8), .ref (u_5 9)])), ((u_5 0), .inl (g 0, 6, .inl (fun _ => 0))), ((u_5 1), .inl (g 0, 6, .inl (fun _ => 0))), ((u_5 2), .inl (g 0, 6, .inl (fun _ => 0))), ((u_5 3), .inl (g 0, 6, .inl (fun _ => 0))), ((u_5 4), .inl (g 0, 6, .inl (fun _ => 0))), ((u_5 5), .inl (g 0, 6, .inl (fun _ => 0))), ((u_5 6), .inl (g 0, 6, .inl (fun _ => 0))), ((u_5 7), .inl (g 0, 6, .inl (fun _ => 0))), ((u_5 8), .inl (g 0, 6, .inl (fun _ => 0))), (q_7, .inr (4, [.ref (u_8 0), .int 0, .int 0, .int 0, .int 0])), ((u_8 0), .inr (1, [.int 5, .int 40, .int 8, .int 0, .int 0, .int 0, .ref (u_8 1), .ref (u_8 2), .ref (u_8 3), .ref (u_8 4), .ref (u_8 5), .ref (u_8 6), .ref (u_8 7), .ref (u_8 8), .ref (u_8 9), .ref (u_8 10)])), ((u_8 1), .inl (g 0, 6, .inl (fun _ => 0))), ((u_8 2), .inl (g 0, 6, .inl (fun _ => 0))), ((u_8 3), .inl (g 0, 6, .inl (fun _ => 0))), ((u_8 4), .inl (g 0, 6, .inl (fun _ => 0))), ((u_8 5), .inl (g 0, 6, .inl (fun _ => 0))), ((u_8 6), .inl (g 0, 6, .inl (fun _ => 0))), ((u_8 7), .inl (g 0, 6, .inl (fun _ => 0))), ((u_8 8), .inl (g 0, 6, .inl (fun _ => 0))), ((u_8 9), .inl (g 0, 6, .inl (fun _ => 0))), (q_10, .inr (3, [.ref (u_11.1 0), .int 0, .int 0])), ((u_11.1 0), .inl (g 2, 8, .inr (.inr (.inr (.inr u_11.2))))), ((u_11.1 1), .inr (1, [.int 5, .int 40, .int 8, .int 0, .int 0, .int 0, .ref (u_11.1 2), .ref (u_11.1 3), .ref (u_11.1 4), .ref (u_11.1 5), .ref (u_11.1 6), .ref (u_11.1 7), .ref (u_11.1 8), .ref (u_11.1 9), .ref (u_11.1 10), .ref (u_11.1 11)])), ((u_11.1 2), .inl (g 0, 6, .inl (fun _ => 0))), ((u_11.1 3), .inl (g 0, 6, .inl (fun _ => 0))), ((u_11.1 4), .inl (g 0, 6, .inl (fun _ => 0))), ((u_11.1 5), .inl (g 0, 6, .inl (fun _ => 0))), ((u_11.1 6), .inl (g 0, 6, .inl (fun _ => 0))), ((u_11.1 7), .inl (g 0, 6, .inl (fun _ => 0))), ((u_11.1 8), .inl (g 0, 6, .inl (fun _ => 0))), ((u_11.1 9), .inl (g 0, 6, .inl (fun _ => 0))), ((u_11.1 10), .inl (g 0, 6, .inl (fun _ => 0))), (q_13, .inl (g 3, 2, .inr (.inr (.inr (.inr (va_up (fun _ => none) 0 (some q_20))))))), (q_14, .inr (5, [.ref (u_15.1 0), .ref (u_15.1 1), .int 0, .int 0, .int (-1), .int (-1), .ref (u_15.1 2), .ref (u_15.1 3)])), ((u_15.1 0), .inl (g 0, 6, .inl (fun _ => 0))), ((u_15.1 1), .inl (g 0, 6, .inl (fun _ => 0))), ((u_15.1 2), .inl (g 4, 9, .inr (.inr (.inr (.inr u_15.2))))), ((u_15.1 3), .inl (g 0, 9, .inl (fun _ => 0))), ((u_15.1 4), .inl (g 0, 100, .inl (fun _ => 0))), ((u_15.1 5), .inl (g 0, 100, .inl (fun _ => 0))), ((u_15.1 6), .inl (g 0, 100, .inl (fun _ => 0))), ((u_15.1 7), .inl (g 0, 100, .inl (fun _ => 0))), ((u_15.1 8), .inl (g 0, 100, .inl (fun _ => 0))), ((u_15.1 9), .inl (g 0, 100, .inl (fun _ => 0))), ((u_15.1 10), .inl (g 0, 100, .inl (fun _ => 0))), ((u_15.1 11), .inl (g 0, 100, .inl (fun _ => 0))), ((u_15.1 12), .inl (g 0, 100, .inl (fun _ => 0))), (q_17, .inr (0, [.ref (u_18 0), .ref (u_18 1), .ref (u_18 2), .ref (u_18 3), .int (-1), .int 0])), (q_20, .inr (2, [.ref (u_21 0), .ref (u_21 1), .int 0])), ((u_21 0), .inr (1, [.int 5, .int 40, .int 8, .int 0, .int 0, .int 0, .ref (u_21 2), .ref (u_21 3), .ref (u_21 4), .ref (u_21 5), .ref (u_21 6), .ref (u_21 7), .ref (u_21 8), .ref (u_21 9), .ref (u_21 10), .ref (u_21 11)])), ((u_21 2), .inl (g 0, 6, .inl (fun _ => 0))), ((u_21 3), .inl (g 0, 6, .inl (fun _ => 0))), ((u_21 4), .inl (g 0, 6, .inl (fun _ => 0))), ((u_21 5), .inl (g 0, 6, .inl (fun _ => 0))), ((u_21 6), .inl (g 0, 6, .inl (fun _ => 0))), ((u_21 7), .inl (g 0, 6, .inl (fun _ => 0))), ((u_21 8), .inl (g 0, 6, .inl (fun _ => 0))), ((u_21 9), .inl (g 0, 6, .inl (fun _ => 0))), ((u_21 10), .inl (g 0, 6, .inl (fun _ => 0))), ((u_21 1), .inr (6, [.ref (u_21 12), .int 0])), ((u_21 12), .inl (g 0, 160, .inl (fun _ => 0)))] rfl (fun H locs hT => ?_)
  refine lv_iinc (v := 1) (lv' := [(1, .int 1), (0, .ref h0)]) hx hb dX7_init_98 hl (k := 0) rfl (by decide +kernel) (by decide +kernel) rfl (fun ls hl => ?_)
  refine lv_goto (tgt := 80) hx hb dX7_init_101 (by decide +kernel) ?_
  refine lv_iload_n hx hb dX7_init_80 rfl (lv_at hl 0 rfl) ?_
  refine lv_iconst (v := 2) hx hb dX7_init_81 (by decide +kernel) ?_
  refine lv_icmp_ge (tgt := 104) hx hb dX7_init_82 (by decide +kernel) (fun c9 => absurd c9 (by decide +kernel)) (fun _ => ?_)
  refine lv_aload_n hx hb dX7_init_85 rfl (lv_at hl 1 rfl) ?_
  refine z_get C (ci := 7) (N := 7) rfl hin7 hT 0 4 rfl rfl (by decide +kernel) (by decide +kernel) dX7_init_86 ?_
  refine lv_iload_n hx hb dX7_init_89 rfl (lv_at hl 0 rfl) ?_
  refine z_new C (ci := 2) (N := 3) rfl hin2 tyX2_ok hT [.null, .null, .int 0] (by decide +kernel) (by decide +kernel) (by decide +kernel) (by decide +kernel) (Nat.le_of_ble_eq_true rfl) (Nat.le_of_ble_eq_true rfl) dX7_init_90 (fun q_23 H hT => ?_)
  have hT : Sit D (TY g) A s [(h0, .inr (7, [.ref q_1, .ref q_4, .ref q_7, .ref q_10, .ref q_13, .ref q_14, .ref q_17])), (q_1, .inr (6, [.ref (u_2 0), .int 0])), ((u_2 0), .inl (g 0, 160, .inl (fun _ => 0))), (q_4, .inr (1, [.int 5, .int 40, .int 8, .int 0, .int 0, .int 0, .ref (u_5 0), .ref (u_5 1), .ref (u_5 2), .ref (u_5 3), .ref (u_5 4), .ref (u_5 5), .ref (u_5 6), .ref (u_5 7), .ref (u_5 8), .ref (u_5 9)])), ((u_5 0), .inl (g 0, 6, .inl (fun _ => 0))), ((u_5 1), .inl (g 0, 6, .inl (fun _ => 0))), ((u_5 2), .inl (g 0, 6, .inl (fun _ => 0))), ((u_5 3), .inl (g 0, 6, .inl (fun _ => 0))), ((u_5 4), .inl (g 0, 6, .inl (fun _ => 0))), ((u_5 5), .inl (g 0, 6, .inl (fun _ => 0))), ((u_5 6), .inl (g 0, 6, .inl (fun _ => 0))), ((u_5 7), .inl (g 0, 6, .inl (fun _ => 0))), ((u_5 8), .inl (g 0, 6, .inl (fun _ => 0))), (q_7, .inr (4, [.ref (u_8 0), .int 0, .int 0, .int 0, .int 0])), ((u_8 0), .inr (1, [.int 5, .int 40, .int 8, .int 0, .int 0, .int 0, .ref (u_8 1), .ref (u_8 2), .ref (u_8 3), .ref (u_8 4), .ref (u_8 5), .ref (u_8 6), .ref (u_8 7), .ref (u_8 8), .ref (u_8 9), .ref (u_8 10)])), ((u_8 1), .inl (g 0, 6, .inl (fun _ => 0))), ((u_8 2), .inl (g 0, 6, .inl (fun _ => 0))), ((u_8 3), .inl (g 0, 6, .inl (fun _ => 0))), ((u_8 4), .inl (g 0, 6, .inl (fun _ => 0))), ((u_8 5), .inl (g 0, 6, .inl (fun _ => 0))), ((u_8 6), .inl (g 0, 6, .inl (fun _ => 0))), ((u_8 7), .inl (g 0, 6, .inl (fun _ => 0))), ((u_8 8), .inl (g 0, 6, .inl (fun _ => 0))), ((u_8 9), .inl (g 0, 6, .inl (fun _ => 0))), (q_10, .inr (3, [.ref (u_11.1 0), .int 0, .int 0])), ((u_11.1 0), .inl (g 2, 8, .inr (.inr (.inr (.inr u_11.2))))), ((u_11.1 1), .inr (1, [.int 5, .int 40, .int 8, .int 0, .int 0, .int 0, .ref (u_11.1 2), .ref (u_11.1 3), .ref (u_11.1 4), .ref (u_11.1 5), .ref (u_11.1 6), .ref (u_11.1 7), .ref (u_11.1 8), .ref (u_11.1 9), .ref (u_11.1 10), .ref (u_11.1 11)])), ((u_11.1 2), .inl (g 0, 6, .inl (fun _ => 0))), ((u_11.1 3), .inl (g 0, 6, .inl (fun _ => 0))), ((u_11.1 4), .inl (g 0, 6, .inl (fun _ => 0))), ((u_11.1 5), .inl (g 0, 6, .inl (fun _ => 0))), ((u_11.1 6), .inl (g 0, 6, .inl (fun _ => 0))), ((u_11.1 7), .inl (g 0, 6, .inl (fun _ => 0))), ((u_11.1 8), .inl (g 0, 6, .inl (fun _ => 0))), ((u_11.1 9), .inl (g 0, 6, .inl (fun _ => 0))), ((u_11.1 10), .inl (g 0, 6, .inl (fun _ => 0))), (q_13, .inl (g 3, 2, .inr (.inr (.inr (.inr (va_up (fun _ => none) 0 (some q_20))))))), (q_14, .inr (5, [.ref (u_15.1 0), .ref (u_15.1 1), .int 0, .int 0, .int (-1), .int (-1), .ref (u_15.1 2), .ref (u_15.1 3)])), ((u_15.1 0), .inl (g 0, 6, .inl (fun _ => 0))), ((u_15.1 1), .inl (g 0, 6, .inl (fun _ => 0))), ((u_15.1 2), .inl (g 4, 9, .inr (.inr (.inr (.inr u_15.2))))), ((u_15.1 3), .inl (g 0, 9, .inl (fun _ => 0))), ((u_15.1 4), .inl (g 0, 100, .inl (fun _ => 0))), ((u_15.1 5), .inl (g 0, 100, .inl (fun _ => 0))), ((u_15.1 6), .inl (g 0, 100, .inl (fun _ => 0))), ((u_15.1 7), .inl (g 0, 100, .inl (fun _ => 0))), ((u_15.1 8), .inl (g 0, 100, .inl (fun _ => 0))), ((u_15.1 9), .inl (g 0, 100, .inl (fun _ => 0))), ((u_15.1 10), .inl (g 0, 100, .inl (fun _ => 0))), ((u_15.1 11), .inl (g 0, 100, .inl (fun _ => 0))), ((u_15.1 12), .inl (g 0, 100, .inl (fun _ => 0))), (q_17, .inr (0, [.ref (u_18 0), .ref (u_18 1), .ref (u_18 2), .ref (u_18 3), .int (-1), .int 0])), (q_20, .inr (2, [.ref (u_21 0), .ref (u_21 1), .int 0])), ((u_21 0), .inr (1, [.int 5, .int 40, .int 8, .int 0, .int 0, .int 0, .ref (u_21 2), .ref (u_21 3), .ref (u_21 4), .ref (u_21 5), .ref (u_21 6), .ref (u_21 7), .ref (u_21 8), .ref (u_21 9), .ref (u_21 10), .ref (u_21 11)])), ((u_21 2), .inl (g 0, 6, .inl (fun _ => 0))), ((u_21 3), .inl (g 0, 6, .inl (fun _ => 0))), ((u_21 4), .inl (g 0, 6, .inl (fun _ => 0))), ((u_21 5), .inl (g 0, 6, .inl (fun _ => 0))), ((u_21 6), .inl (g 0, 6, .inl (fun _ => 0))), ((u_21 7), .inl (g 0, 6, .inl (fun _ => 0))), ((u_21 8), .inl (g 0, 6, .inl (fun _ => 0))), ((u_21 9), .inl (g 0, 6, .inl (fun _ => 0))), ((u_21 10), .inl (g 0, 6, .inl (fun _ => 0))), ((u_21 1), .inr (6, [.ref (u_21 12), .int 0])), ((u_21 12), .inl (g 0, 160, .inl (fun _ => 0))), (q_23, .inr (2, [.null, .null, .int 0]))] H _ := hT
  refine lv_dup hx hb dX7_init_93 rfl ?_
  refine z_callIN (wr := [(h0, .inr (7, [.ref q_1, .ref q_4, .ref q_7, .ref q_10, .ref q_13, .ref q_14, .ref q_17])), (q_1, .inr (6, [.ref (u_2 0), .int 0])), ((u_2 0), .inl (g 0, 160, .inl (fun _ => 0))), (q_4, .inr (1, [.int 5, .int 40, .int 8, .int 0, .int 0, .int 0, .ref (u_5 0), .ref (u_5 1), .ref (u_5 2), .ref (u_5 3), .ref (u_5 4), .ref (u_5 5), .ref (u_5 6), .ref (u_5 7), .ref (u_5 8), .ref (u_5 9)])), ((u_5 0), .inl (g 0, 6, .inl (fun _ => 0))), ((u_5 1), .inl (g 0, 6, .inl (fun _ => 0))), ((u_5 2), .inl (g 0, 6, .inl (fun _ => 0))), ((u_5 3), .inl (g 0, 6, .inl (fun _ => 0))), ((u_5 4), .inl (g 0, 6, .inl (fun _ => 0))), ((u_5 5), .inl (g 0, 6, .inl (fun _ => 0))), ((u_5 6), .inl (g 0, 6, .inl (fun _ => 0))), ((u_5 7), .inl (g 0, 6, .inl (fun _ => 0))), ((u_5 8), .inl (g 0, 6, .inl (fun _ => 0))), (q_7, .inr (4, [.ref (u_8 0), .int 0, .int 0, .int 0, .int 0])), ((u_8 0), .inr (1, [.int 5, .int 40, .int 8, .int 0, .int 0, .int 0, .ref (u_8 1), .ref (u_8 2), .ref (u_8 3), .ref (u_8 4), .ref (u_8 5), .ref (u_8 6), .ref (u_8 7), .ref (u_8 8), .ref (u_8 9), .ref (u_8 10)])), ((u_8 1), .inl (g 0, 6, .inl (fun _ => 0))), ((u_8 2), .inl (g 0, 6, .inl (fun _ => 0))), ((u_8 3), .inl (g 0, 6, .inl (fun _ => 0))), ((u_8 4), .inl (g 0, 6, .inl (fun _ => 0))), ((u_8 5), .inl (g 0, 6, .inl (fun _ => 0))), ((u_8 6), .inl (g 0, 6, .inl (fun _ => 0))), ((u_8 7), .inl (g 0, 6, .inl (fun _ => 0))), ((u_8 8), .inl (g 0, 6, .inl (fun _ => 0))), ((u_8 9), .inl (g 0, 6, .inl (fun _ => 0))), (q_10, .inr (3, [.ref (u_11.1 0), .int 0, .int 0])), ((u_11.1 0), .inl (g 2, 8, .inr (.inr (.inr (.inr u_11.2))))), ((u_11.1 1), .inr (1, [.int 5, .int 40, .int 8, .int 0, .int 0, .int 0, .ref (u_11.1 2), .ref (u_11.1 3), .ref (u_11.1 4), .ref (u_11.1 5), .ref (u_11.1 6), .ref (u_11.1 7), .ref (u_11.1 8), .ref (u_11.1 9), .ref (u_11.1 10), .ref (u_11.1 11)])), ((u_11.1 2), .inl (g 0, 6, .inl (fun _ => 0))), ((u_11.1 3), .inl (g 0, 6, .inl (fun _ => 0))), ((u_11.1 4), .inl (g 0, 6, .inl (fun _ => 0))), ((u_11.1 5), .inl (g 0, 6, .inl (fun _ => 0))), ((u_11.1 6), .inl (g 0, 6, .inl (fun _ => 0))), ((u_11.1 7), .inl (g 0, 6, .inl (fun _ => 0))), ((u_11.1 8), .inl (g 0, 6, .inl (fun _ => 0))), ((u_11.1 9), .inl (g 0, 6, .inl (fun _ => 0))), ((u_11.1 10), .inl (g 0, 6, .inl (fun _ => 0))), (q_13, .inl (g 3, 2, .inr (.inr (.inr (.inr (va_up (fun _ => none) 0 (some q_20))))))), (q_14, .inr (5, [.ref (u_15.1 0), .ref (u_15.1 1), .int 0, .int 0, .int (-1), .int (-1), .ref (u_15.1 2), .ref (u_15.1 3)])), ((u_15.1 0), .inl (g 0, 6, .inl (fun _ => 0))), ((u_15.1 1), .inl (g 0, 6, .inl (fun _ => 0))), ((u_15.1 2), .inl (g 4, 9, .inr (.inr (.inr (.inr u_15.2))))), ((u_15.1 3), .inl (g 0, 9, .inl (fun _ => 0))), ((u_15.1 4), .inl (g 0, 100, .inl (fun _ => 0))), ((u_15.1 5), .inl (g 0, 100, .inl (fun _ => 0))), ((u_15.1 6), .inl (g 0, 100, .inl (fun _ => 0))), ((u_15.1 7), .inl (g 0, 100, .inl (fun _ => 0))), ((u_15.1 8), .inl (g 0, 100, .inl (fun _ => 0))), ((u_15.1 9), .inl (g 0, 100, .inl (fun _ => 0))), ((u_15.1 10), .inl (g 0, 100, .inl (fun _ => 0))), ((u_15.1 11), .inl (g 0, 100, .inl (fun _ => 0))), ((u_15.1 12), .inl (g 0, 100, .inl (fun _ => 0))), (q_17, .inr (0, [.ref (u_18 0), .ref (u_18 1), .ref (u_18 2), .ref (u_18 3), .int (-1), .int 0])), (q_20, .inr (2, [.ref (u_21 0), .ref (u_21 1), .int 0])), ((u_21 0), .inr (1, [.int 5, .int 40, .int 8, .int 0, .int 0, .int 0, .ref (u_21 2), .ref (u_21 3), .ref (u_21 4), .ref (u_21 5), .ref (u_21 6), .ref (u_21 7), .ref (u_21 8), .ref (u_21 9), .ref (u_21 10), .ref (u_21 11)])), ((u_21 2), .inl (g 0, 6, .inl (fun _ => 0))), ((u_21 3), .inl (g 0, 6, .inl (fun _ => 0))), ((u_21 4), .inl (g 0, 6, .inl (fun _ => 0))), ((u_21 5), .inl (g 0, 6, .inl (fun _ => 0))), ((u_21 6), .inl (g 0, 6, .inl (fun _ => 0))), ((u_21 7), .inl (g 0, 6, .inl (fun _ => 0))), ((u_21 8), .inl (g 0, 6, .inl (fun _ => 0))), ((u_21 9), .inl (g 0, 6, .inl (fun _ => 0))), ((u_21 10), .inl (g 0, 6, .inl (fun _ => 0))), ((u_21 1), .inr (6, [.ref (u_21 12), .int 0])), ((u_21 12), .inl (g 0, 160, .inl (fun _ => 0)))]) C (c_Kept_init l D g q_23) gX7_init_X2_init_n57 rfl (hX.nw 5 rfl) (by decide +kernel) (by decide +kernel) rfl (by decide +kernel) ⟨Nat.le_of_ble_eq_true rfl, Nat.le_of_ble_eq_true rfl⟩ ⟨Nat.le_of_ble_eq_true rfl, Nat.le_of_ble_eq_true rfl⟩ Ev.blind (fun U hU hW => hX.warm hW) hT [65] [0, 1, 2, 3, 4, 5, 6, 7, 8, 9, 10, 11, 12, 13, 14, 15, 16, 17, 18, 19, 20, 21, 22, 23, 24, 25, 26, 27, 28, 29, 30, 31, 32, 33, 34, 35, 36, 37, 38, 39, 40, 41, 42, 43, 44, 45, 46, 47, 48, 49, 50, 51, 52, 53, 54, 55, 56, 57, 58, 59, 60, 61, 62, 63, 64] rfl rfl rfl rfl rfl rfl hl.1 rfl (Nat.le_of_ble_eq_true rfl) dX7_init_94 (fun u_24 H locs hp_25 hT => ?_)
  have hT : Sit D (TY g) A s [(h0, .inr (7, [.ref q_1, .ref q_4, .ref q_7, .ref q_10, .ref q_13, .ref q_14, .ref q_17])), (q_1, .inr (6, [.ref (u_2 0), .int 0])), ((u_2 0), .inl (g 0, 160, .inl (fun _ => 0))), (q_4, .inr (1, [.int 5, .int 40, .int 8, .int 0, .int 0, .int 0, .ref (u_5 0), .ref (u_5 1), .ref (u_5 2), .ref (u_5 3), .ref (u_5 4), .ref (u_5 5), .ref (u_5 6), .ref (u_5 7), .ref (u_5 8), .ref (u_5 9)])), ((u_5 0), .inl (g 0, 6, .inl (fun _ => 0))), ((u_5 1), .inl (g 0, 6, .inl (fun _ => 0))), ((u_5 2), .inl (g 0, 6, .inl (fun _ => 0))), ((u_5 3), .inl (g 0, 6, .inl (fun _ => 0))), ((u_5 4), .inl (g 0, 6, .inl (fun _ => 0))), ((u_5 5), .inl (g 0, 6, .inl (fun _ => 0))), ((u_5 6), .inl (g 0, 6, .inl (fun _ => 0))), ((u_5 7), .inl (g 0, 6, .inl (fun _ => 0))), ((u_5 8), .inl (g 0, 6, .inl (fun _ => 0))), (q_7, .inr (4, [.ref (u_8 0), .int 0, .int 0, .int 0, .int 0])), ((u_8 0), .inr (1, [.int 5, .int 40, .int 8, .int 0, .int 0, .int 0, .ref (u_8 1), .ref (u_8 2), .ref (u_8 3), .ref (u_8 4), .ref (u_8 5), .ref (u_8 6), .ref (u_8 7), .ref (u_8 8), .ref (u_8 9), .ref (u_8 10)])), ((u_8 1), .inl (g 0, 6, .inl (fun _ => 0))), ((u_8 2), .inl (g 0, 6, .inl (fun _ => 0))), ((u_8 3), .inl (g 0, 6, .inl (fun _ => 0))), ((u_8 4), .inl (g 0, 6, .inl (fun _ => 0))), ((u_8 5), .inl (g 0, 6, .inl (fun _ => 0))), ((u_8 6), .inl (g 0, 6, .inl (fun _ => 0))), ((u_8 7), .inl (g 0, 6, .inl (fun _ => 0))), ((u_8 8), .inl (g 0, 6, .inl (fun _ => 0))), ((u_8 9), .inl (g 0, 6, .inl (fun _ => 0))), (q_10, .inr (3, [.ref (u_11.1 0), .int 0, .int 0])), ((u_11.1 0), .inl (g 2, 8, .inr (.inr (.inr (.inr u_11.2))))), ((u_11.1 1), .inr (1, [.int 5, .int 40, .int 8, .int 0, .int 0, .int 0, .ref (u_11.1 2), .ref (u_11.1 3), .ref (u_11.1 4), .ref (u_11.1 5), .ref (u_11.1 6), .ref (u_11.1 7), .ref (u_11.1 8), .ref (u_11.1 9), .ref (u_11.1 10), .ref (u_11.1 11)])), ((u_11.1 2), .inl (g 0, 6, .inl (fun _ => 0))), ((u_11.1 3), .inl (g 0, 6, .inl (fun _ => 0))), ((u_11.1 4), .inl (g 0, 6, .inl (fun _ => 0))), ((u_11.1 5), .inl (g 0, 6, .inl (fun _ => 0))), ((u_11.1 6), .inl (g 0, 6, .inl (fun _ => 0))), ((u_11.1 7), .inl (g 0, 6, .inl (fun _ => 0))), ((u_11.1 8), .inl (g 0, 6, .inl (fun _ => 0))), ((u_11.1 9), .inl (g 0, 6, .inl (fun _ => 0))), ((u_11.1 10), .inl (g 0, 6, .inl (fun _ => 0))), (q_13, .inl (g 3, 2, .inr (.inr (.inr (.inr (va_up (fun _ => none) 0 (some q_20))))))), (q_14, .inr (5, [.ref (u_15.1 0), .ref (u_15.1 1), .int 0, .int 0, .int (-1), .int (-1), .ref (u_15.1 2), .ref (u_15.1 3)])), ((u_15.1 0), .inl (g 0, 6, .inl (fun _ => 0))), ((u_15.1 1), .inl (g 0, 6, .inl (fun _ => 0))), ((u_15.1 2), .inl (g 4, 9, .inr (.inr (.inr (.inr u_15.2))))), ((u_15.1 3), .inl (g 0, 9, .inl (fun _ => 0))), ((u_15.1 4), .inl (g 0, 100, .inl (fun _ => 0))), ((u_15.1 5), .inl (g 0, 100, .inl (fun _ => 0))), ((u_15.1 6), .inl (g 0, 100, .inl (fun _ => 0))), ((u_15.1 7), .inl (g 0, 100, .inl (fun _ => 0))), ((u_15.1 8), .inl (g 0, 100, .inl (fun _ => 0))), ((u_15.1 9), .inl (g 0, 100, .inl (fun _ => 0))), ((u_15.1 10), .inl (g 0, 100, .inl (fun _ => 0))), ((u_15.1 11), .inl (g 0, 100, .inl (fun _ => 0))), ((u_15.1 12), .inl (g 0, 100, .inl (fun _ => 0))), (q_17, .inr (0, [.ref (u_18 0), .ref (u_18 1), .ref (u_18 2), .ref (u_18 3), .int (-1), .int 0])), (q_20, .inr (2, [.ref (u_21 0), .ref (u_21 1), .int 0])), ((u_21 0), .inr (1, [.int 5, .int 40, .int 8, .int 0, .int 0, .int 0, .ref (u_21 2), .ref (u_21 3), .ref (u_21 4), .ref (u_21 5), .ref (u_21 6), .ref (u_21 7), .ref (u_21 8), .ref (u_21 9), .ref (u_21 10), .ref (u_21 11)])), ((u_21 2), .inl (g 0, 6, .inl (fun _ => 0))), ((u_21 3), .inl (g 0, 6, .inl (fun _ => 0))), ((u_21 4), .inl (g 0, 6, .inl (fun _ => 0))), ((u_21 5), .inl (g 0, 6, .inl (fun _ => 0))), ((u_21 6), .inl (g 0, 6, .inl (fun _ => 0))), ((u_21 7), .inl (g 0, 6, .inl (fun _ => 0))), ((u_21 8), .inl (g 0, 6, .inl (fun _ => 0))), ((u_21 9), .inl (g 0, 6, .inl (fun _ => 0))), ((u_21 10), .inl (g 0, 6, .inl (fun _ => 0))), ((u_21 1), .inr (6, [.ref (u_21 12), .int 0])), ((u_21 12), .inl (g 0, 160, .inl (fun _ => 0))), (q_23, .inr (2, [.ref (u_24 0), .ref (u_24 1), .int 0])), ((u_24 0), .inr (1, [.int 5, .int 40, .int 8, .int 0, .int 0, .int 0, .ref (u_24 2), .ref (u_24 3), .ref (u_24 4), .ref (u_24 5), .ref (u_24 6), .ref (u_24 7), .ref (u_24 8), .ref (u_24 9), .ref (u_24 10), .ref (u_24 11)])), ((u_24 2), .inl (g 0, 6, .inl (fun _ => 0))), ((u_24 3), .inl (g 0, 6, .inl (fun _ => 0))), ((u_24 4), .inl (g 0, 6, .inl (fun _ => 0))), ((u_24 5), .inl (g 0, 6, .inl (fun _ => 0))), ((u_24 6), .inl (g 0, 6, .inl (fun _ => 0))), ((u_24 7), .inl (g 0, 6, .inl (fun _ => 0))), ((u_24 8), .inl (g 0, 6, .inl (fun _ => 0))), ((u_24 9), .inl (g 0, 6, .inl (fun _ => 0))), ((u_24 10), .inl (g 0, 6, .inl (fun _ => 0))), ((u_24 1), .inr (6, [.ref (u_24 12), .int 0])), ((u_24 12), .inl (g 0, 160, .inl (fun _ => 0)))] H _ := hT
  refine z_aast C hT 36 3 65 2 rfl rfl rfl rfl (vin rfl) dX7_init_97 (va_up (va_up (fun _ => none) 0 (some q_20)) 1 (some q_23)) rfl [(h0, .inr (7, [.ref q_1, .ref q_4, .ref q_7, .ref q_10, .ref q_13, .ref q_14, .ref q_17])), (q_1, .inr (6, [.ref (u_2 0), .int 0])), ((u_2 0), .inl (g 0, 160, .inl (fun _ => 0))), (q_4, .inr (1, [.int 5, .int 40, .int 8, .int 0, .int 0, .int 0, .ref (u_5 0), .ref (u_5 1), .ref (u_5 2), .ref (u_5 3), .ref (u_5 4), .ref (u_5 5), .ref (u_5 6), .ref (u_5 7), .ref (u_5 8), .ref (u_5 9)])), ((u_5 0), .inl (g 0, 6, .inl (fun _ => 0))), ((u_5 1), .inl (g 0, 6, .inl (fun _ => 0))), ((u_5 2), .inl (g 0, 6, .inl (fun _ => 0))), ((u_5 3), .inl (g 0, 6, .inl (fun _ => 0))), ((u_5 4), .inl (g 0, 6, .inl (fun _ => 0))), ((u_5 5), .inl (g 0, 6, .inl (fun _ => 0))), ((u_5 6), .inl (g 0, 6, .inl (fun _ => 0))), ((u_5 7), .inl (g 0, 6, .inl (fun _ => 0))), ((u_5 8), .inl (g 0, 6, .inl (fun _ => 0))), (q_7, .inr (4, [.ref (u_8 0), .int 0, .int 0, .int 0, .int 0])), ((u_8 0), .inr (1, [.int 5, .int 40, .int 8, .int 0, .int 0, .int 0, .ref (u_8 1), .ref (u_8 2), .ref (u_8 3), .ref (u_8 4), .ref (u_8 5), .ref (u_8 6), .ref (u_8 7), .ref (u_8 8), .ref (u_8 9), .ref (u_8 10)])), ((u_8 1), .inl (g 0, 6, .inl (fun _ => 0))), ((u_8 2), .inl (g 0, 6, .inl (fun _ => 0))), ((u_8 3), .inl (g 0, 6, .inl (fun _ => 0))), ((u_8 4), .inl (g 0, 6, .inl (fun _ => 0))), ((u_8 5), .inl (g 0, 6, .inl (fun _ => 0))), ((u_8 6), .inl (g 0, 6, .inl (fun _ => 0))), ((u_8 7), .inl (g 0, 6, .inl (fun _ => 0))), ((u_8 8), .inl (g 0, 6, .inl (fun _ => 0))), ((u_8 9), .inl (g 0, 6, .inl (fun _ => 0))), (q_10, .inr (3, [.ref (u_11.1 0), .int 0, .int 0])), ((u_11.1 0), .inl (g 2, 8, .inr (.inr (.inr (.inr u_11.2))))), ((u_11.1 1), .inr (1, [.int 5, .int 40, .int 8, .int 0, .int 0, .int 0, .ref (u_11.1 2), .ref (u_11.1 3), .ref (u_11.1 4), .ref (u_11.1 5), .ref (u_11.1 6), .ref (u_11.1 7), .ref (u_11.1 8), .ref (u_11.1 9), .ref (u_11.1 10), .ref (u_11.1 11)])), ((u_11.1 2), .inl (g 0, 6, .inl (fun _ => 0))), ((u_11.1 3), .inl (g 0, 6, .inl (fun _ => 0))), ((u_11.1 4), .inl (g 0, 6, .inl (fun _ => 0))), ((u_11.1 5), .inl (g 0, 6, .inl (fun _ => 0))), ((u_11.1 6), .inl (g 0, 6, .inl (fun _ => 0))), ((u_11.1 7), .inl (g 0, 6, .inl (fun _ => 0))), ((u_11.1 8), .inl (g 0, 6, .inl (fun _ => 0))), ((u_11.1 9), .inl (g 0, 6, .inl (fun _ => 0))), ((u_11.1 10), .inl (g 0, 6, .inl (fun _ => 0))), (q_13, .inl (g 3, 2, .inr (.inr (.inr (.inr (va_up (va_up (fun _ => none) 0 (some q_20)) 1 (some q_23))))))), (q_14, .inr (5, [.ref (u_15.1 0), .ref (u_15.1 1), .int 0, .int 0, .int (-1), .int (-1), .ref (u_15.1 2), .ref (u_15.1 3)])), ((u_15.1 0), .inl (g 0, 6, .inl (fun _ => 0))), ((u_15.1 1), .inl (g 0, 6, .inl (fun _ => 0))), ((u_15.1 2), .inl (g 4, 9, .inr (.inr (.inr (.inr u_15.2))))), ((u_15.1 3), .inl (g 0, 9, .inl (fun _ => 0))), ((u_15.1 4), .inl (g 0, 100, .inl (fun _ => 0))), ((u_15.1 5), .inl (g 0, 100, .inl (fun _ => 0))), ((u_15.1 6), .inl (g 0, 100, .inl (fun _ => 0))), ((u_15.1 7), .inl (g 0, 100, .inl (fun _ => 0))), ((u_15.1 8), .inl (g 0, 100, .inl (fun _ => 0))), ((u_15.1 9), .inl (g 0, 100, .inl (fun _ => 0))), ((u_15.1 10), .inl (g 0, 100, .inl (fun _ => 0))), ((u_15.1 11), .inl (g 0, 100, .inl (fun _ => 0))), ((u_15.1 12), .inl (g 0, 100, .inl (fun _ => 0))), (q_17, .inr (0, [.ref (u_18 0), .ref (u_18 1), .ref (u_18 2), .ref (u_18 3), .int (-1), .int 0])), (q_20, .inr (2, [.ref (u_21 0), .ref (u_21 1), .int 0])), ((u_21 0), .inr (1, [.int 5, .int 40, .int 8, .int 0, .int 0, .int 0, .ref (u_21 2), .ref (u_21 3), .ref (u_21 4), .ref (u_21 5), .ref (u_21 6), .ref (u_21 7), .ref (u_21 8), .ref (u_21 9), .ref (u_21 10), .ref (u_21 11)])), ((u_21 2), .inl (g 0, 6, .inl (fun _ => 0))), ((u_21 3), .inl (g 0, 6, .inl (fun _ => 0))), ((u_21 4), .inl (g 0, 6, .inl (fun _ => 0))), ((u_21 5), .inl (g 0, 6, .inl (fun _ => 0))), ((u_21 6), .inl (g 0, 6, .inl (fun _ => 0))), ((u_21 7), .inl (g 0, 6, .inl (fun _ => 0))), ((u_21 8), .inl (g 0, 6, .inl (fun _ => 0))), ((u_21 9), .inl (g 0, 6, .inl (fun _ => 0))), ((u_21 10), .inl (g 0, 6, .inl (fun _ => 0))), ((u_21 1), .inr (6, [.ref (u_21 12), .int 0])), ((u_21 12), .inl (g 0, 160, .inl (fun _ => 0))), (q_23, .inr (2, [.ref (u_24 0), .ref (u_24 1), .int 0])), ((u_24 0), .inr (1, [.int 5, .int 40, .int 8, .int 0, .int 0, .int 0, .ref (u_24 2), .ref (u_24 3), .ref (u_24 4), .ref (u_24 5), .ref (u_24 6), .ref (u_24 7), .ref (u_24 8), .ref (u_24 9), .ref (u_24 10), .ref (u_24 11)])), ((u_24 2), .inl (g 0, 6, .inl (fun _ => 0))), ((u_24 3), .inl (g 0, 6, .inl (fun _ => 0))), ((u_24 4), .inl (g 0, 6, .inl (fun _ => 0))), ((u_24 5), .inl (g 0, 6, .inl (fun _ => 0))), ((u_24 6), .inl (g 0, 6, .inl (fun _ => 0))), ((u_24 7), .inl (g 0, 6, .inl (fun _ => 0))), ((u_24 8), .inl (g 0, 6, .inl (fun _ => 0))), ((u_24 9), .inl (g 0, 6, .inl (fun _ => 0))), ((u_24 10), .inl (g 0, 6, .inl (fun _ => 0))), ((u_24 1), .inr (6, [.ref (u_24 12), .int 0])), ((u_24 12), .inl (g 0, 160, .inl (fun _ => 0)))] rfl (fun H locs hT => ?_)
  refine lv_iinc (v := 2) (lv' := [(1, .int 2), (0, .ref h0)]) hx hb dX7_init_98 hl (k := 0) rfl (by decide +kernel) (by decide +kernel) rfl (fun ls hl => ?_)
  refine lv_goto (tgt := 80) hx hb dX7_init_101 (by decide +kernel) ?_
  refine lv_iload_n hx hb dX7_init_80 rfl (lv_at hl 0 rfl) ?_
  refine lv_iconst (v := 2) hx hb dX7_init_81 (by decide +kernel) ?_
  refine lv_icmp_ge (tgt := 104) hx hb dX7_init_82 (by decide +kernel) (fun _ => ?_) (fun c9 => absurd (by decide +kernel) c9)
  exact z_vret C rfl hT ((fun k => ([q_1, q_4, q_7, q_10, q_13, q_14, q_17, (u_2 0), (u_5 0), (u_5 1), (u_5 2), (u_5 3), (u_5 4), (u_5 5), (u_5 6), (u_5 7), (u_5 8), (u_5 9), (u_8 0), (u_8 1), (u_8 2), (u_8 3), (u_8 4), (u_8 5), (u_8 6), (u_8 7), (u_8 8), (u_8 9), (u_8 10), (u_11.1 0), (u_11.1 1), (u_11.1 2), (u_11.1 3), (u_11.1 4), (u_11.1 5), (u_11.1 6), (u_11.1 7), (u_11.1 8), (u_11.1 9), (u_11.1 10), (u_11.1 11), q_20, (u_21 0), (u_21 1), (u_21 2), (u_21 3), (u_21 4), (u_21 5), (u_21 6), (u_21 7), (u_21 8), (u_21 9), (u_21 10), (u_21 11), (u_21 12), q_23, (u_24 0), (u_24 1), (u_24 2), (u_24 3), (u_24 4), (u_24 5), (u_24 6), (u_24 7), (u_24 8), (u_24 9), (u_24 10), (u_24 11), (u_24 12), (u_15.1 0), (u_15.1 1), (u_15.1 2), (u_15.1 3), (u_15.1 4), (u_15.1 5), (u_15.1 6), (u_15.1 7), (u_15.1 8), (u_15.1 9), (u_15.1 10), (u_15.1 11), (u_15.1 12)] : List Nat).getD k 0), u_11.2, (va_up (va_up (fun _ => none) 0 (some q_20)) 1 (some q_23)), u_15.2) ⟨hp_12, rfl, rfl, (fun k hk => by have q := hp_16 k hk; rw [q]; rcases (show k = 0 ∨ k = 1 ∨ k = 2 ∨ k = 3 ∨ k = 4 ∨ k = 5 ∨ k = 6 ∨ k = 7 ∨ k = 8 by omega) with rfl | rfl | rfl | rfl | rfl | rfl | rfl | rfl | rfl <;> rfl)⟩ [0, 1, 2, 3, 4, 5, 6, 7, 8, 9, 10, 11, 12, 13, 14, 15, 16, 17, 18, 19, 20, 21, 22, 23, 24, 25, 26, 27, 28, 29, 30, 31, 32, 33, 34, 35, 36, 52, 53, 54, 55, 56, 57, 58, 59, 60, 61, 62, 63, 64, 65, 66, 67, 68, 69, 70, 71, 72, 73, 74, 75, 76, 77, 37, 38, 39, 40, 41, 42, 43, 44, 45, 46, 47, 48, 49, 50] rfl rfl (Nat.le_of_ble_eq_true rfl) (Nat.le_of_ble_eq_true rfl) dX7_init_104
end
section
/-! LOOPS: a row a loop -/
theorem inc1 (i : Nat) : nI i + Int32.ofInt 1 = nI (i + 1) := by
  have e : Int32.ofInt 1 = 1 := by decide +kernel
  rw [e]
  exact nI_1 i
theorem lp_no {L : Int32} {i N : Nat} (hL : L = nI N) (hi : i < N) (hN : N < 2 ^ 31) : ¬ L ≤ nI i := by
  rw [hL]
  exact nI_ge hi hN
theorem lp_yes {L : Int32} {i N : Nat} (hL : L = nI N) (hi : i < N) (hN : N < 2 ^ 31) : nI i < L := by
  rw [hL]
  exact nI_lt hi hN
theorem lp_nn {L : Int32} {i N : Nat} (hL : L = nI N) (hi : N ≤ i) (hN : i < 2 ^ 31) : ¬ nI i < L := by
  rw [hL]
  exact nI_nlt hi hN
section LYL
variable {p : Program} {l : Launch} {e : Env} {R : Room} {s : State} {m : MethodId} {args : Array Value} {below : List Frame} {meth : Method} {c : Code} {cells slots : Nat} {Q : State → Prop}
variable {pc nL : Nat} {st : List Value} {D : va_G} {T : List (ClassId × FieldType)} {A : Nat → Prop}
theorem z_loop {α : Type} {N : Nat} (I : Nat → α → Prop) (wo : Nat → α → va_W) (lo : Nat → α → List (Nat × Value))
    (hs : ∀ (i : Nat) (a : α) (H : Heap) (locs : List Loc) (ls : Array Slot), i < N → I i a → Sit D T A s (wo i a) H locs → lv_has ls nL (lo i a) → (∀ (a : α) (H : Heap) (locs : List Loc) (ls : Array Slot), I (i + 1) a → Sit D T A s (wo (i + 1) a) H locs → lv_has ls nL (lo (i + 1) a) → W p l e R s m args below meth c H locs cells slots Q (F0 m pc ls st)) → W p l e R s m args below meth c H locs cells slots Q (F0 m pc ls st))
    (he : ∀ (a : α) (H : Heap) (locs : List Loc) (ls : Array Slot), I N a → Sit D T A s (wo N a) H locs → lv_has ls nL (lo N a) → W p l e R s m args below meth c H locs cells slots Q (F0 m pc ls st)) :
    ∀ (i : Nat) (a : α), i ≤ N → I i a → ∀ (H : Heap) (locs : List Loc) (ls : Array Slot), Sit D T A s (wo i a) H locs → lv_has ls nL (lo i a) → W p l e R s m args below meth c H locs cells slots Q (F0 m pc ls st) := by
  have key : ∀ (n i : Nat) (a : α), i ≤ N → N ≤ i + n → I i a → ∀ (H : Heap) (locs : List Loc) (ls : Array Slot), Sit D T A s (wo i a) H locs → lv_has ls nL (lo i a) → W p l e R s m args below meth c H locs cells slots Q (F0 m pc ls st) := by
    intro n
    induction n with
    | zero =>
      intro i a h1 h2 hI H locs ls hT hl
      have e : i = N := by omega
      subst e
      exact he a H locs ls hI hT hl
    | succ n ih =>
      intro i a h1 h2 hI H locs ls hT hl
      rcases Nat.lt_or_ge i N with q | q
      · exact hs i a H locs ls q hI hT hl (fun a H locs ls hI hT hl => ih (i + 1) a q (by omega) hI H locs ls hT hl)
      · have e : i = N := by omega
        subst e
        exact he a H locs ls hI hT hl
  exact fun i a h hI => key (N - i) i a h (by omega) hI
end LYL
/-- the first told numbers: five joints, the first scale -/
def fr (k : Nat) : Int32 := if k = 0 then 5 else if k = 1 then 40 else if k = 2 then 8 else 0
/-- what is laid before the scale -/
def fl (k : Nat) : Int32 := if 18 ≤ k ∧ k < 24 then (-1) else 0
/-- the first state -/
def fs0 (k : Nat) : Int32 := if 18 ≤ k ∧ k < 24 then (-1) else if k = 30 then 40 else if k = 31 then 8 else 0
theorem upd_z (k : Nat) : upd (fun _ => 0) k (vp_nar .boolean 0) = (fun _ => 0) := by
  funext j
  unfold upd
  split
  · rfl
  · rfl
theorem upd_lt {f : Nat → Int32} {F : Nat → Int32} {i : Nat} {x : Int32} (h : ∀ k, k < i → f k = F k) (hx : x = F i) : ∀ k, k < i + 1 → upd f i x k = F k := by
  intro k hk
  unfold upd
  split
  · next e => rw [e]; exact hx
  · next e => exact h k (by omega)
theorem in_N {i a b : Nat} {x y : Int32} (hx : x = nI a) (hy : y = nI b) (hi : i < 2 ^ 31) (ha : a < 2 ^ 31) (hb : b < 2 ^ 31) : (if x ≤ nI i ∧ nI i ≤ y then (1 : Int32) else 0) = if a ≤ i ∧ i ≤ b then 1 else 0 := by
  subst hx hy
  by_cases h : a ≤ i ∧ i ≤ b
  · rw [if_pos h, if_pos ⟨nI_le h.1 hi, nI_le h.2 hb⟩]
  · rw [if_neg h, if_neg (fun q => h ⟨(nI_leI ha hi).mp q.1, (nI_leI hi hb).mp q.2⟩)]
theorem fr_of {a : Nat → Int32} (h : ∀ k, k < 29 → a k = 0) : ∀ k, k < 29 → upd (upd (upd a 0 5) 1 40) 2 8 k = fr k := by
  intro k hk
  unfold upd fr
  by_cases e2 : k = 2
  · subst e2; rfl
  · by_cases e1 : k = 1
    · subst e1; rfl
    · by_cases e0 : k = 0
      · subst e0; rfl
      · rw [if_neg e2, if_neg e1, if_neg e0, if_neg e0, if_neg e1, if_neg e2]
        exact h k hk
theorem fs0_of {a : Nat → Int32} (h : ∀ k, k < 33 → a k = fl k) : ∀ k, k < 33 → upd (upd a 30 40) 31 8 k = fs0 k := by
  intro k hk
  unfold upd fs0
  by_cases e1 : k = 31
  · subst e1; rfl
  · by_cases e0 : k = 30
    · subst e0; rfl
    · rw [if_neg e1, if_neg e0, h k hk, if_neg e0, if_neg e1]
      rfl
theorem sw_out {x : Int32} (n : Nat) (h : ∀ k, k ≤ n → ¬ x = nI k) (hn : n < 2 ^ 31) : x.toInt < 0 ∨ (n : Int) < x.toInt := by
  by_cases h0 : x < 0
  · exact Or.inl (by simpa using Int32.lt_iff_toInt_lt.mp h0)
  · obtain ⟨j, hj, e⟩ := nI_of h0
    rcases Nat.lt_or_ge n j with q | q
    · right
      rw [e, nI_toInt hj]
      omega
    · exact absurd e (h j q)
end
section
set_option maxRecDepth 20000 in
theorem ggX8_init_X8_forgets : GoodIn wsX8_init wsX8_forgets := goodIn_r _ [24, 7, 34, 35, 36, 37, 38, 39, 40, 41, 42, 43, 44, 45, 46, 47, 48, 49, 50, 51, 52, 53, 54] (by decide +kernel) (by decide +kernel)
set_option maxRecDepth 20000 in
theorem gX8_init_X8_forgets : GoodIn wsX8_init (wsV RX8 53 RX8 yX8_forgets wsX8_forgets) := goodIn_app (goodIn_of _ (by decide +kernel)) ggX8_init_X8_forgets
set_option maxRecDepth 20000 in
theorem ggX8_init_X8_lays : GoodIn wsX8_init wsX8_lays := goodIn_r _ [28, 8, 6, 29, 30, 12, 31, 32, 23, 33, 34, 35, 36, 37, 38, 39, 40, 41, 42, 43, 44, 45, 46, 47, 48, 49, 50, 51, 52, 53, 54] (by decide +kernel) (by decide +kernel)
set_option maxRecDepth 20000 in
theorem gX8_init_X8_lays : GoodIn wsX8_init (wsV RX8 57 RX8 yX8_lays wsX8_lays) := goodIn_app (goodIn_of _ (by decide +kernel)) ggX8_init_X8_lays
theorem dX8_init_0 : decode cX8_init 0 = .ok (.aload_n 0, 1) := by decide +kernel
theorem dX8_init_1 : decode cX8_init 1 = .ok (.invokespecial 1, 3) := by decide +kernel
theorem dX8_init_4 : decode cX8_init 4 = .ok (.aload_n 0, 1) := by decide +kernel
theorem dX8_init_5 : decode cX8_init 5 = .ok (.sipush 160, 3) := by decide +kernel
theorem dX8_init_8 : decode cX8_init 8 = .ok (.newarray .int, 2) := by decide +kernel
theorem dX8_init_10 : decode cX8_init 10 = .ok (.putfield 7, 3) := by decide +kernel
theorem dX8_init_13 : decode cX8_init 13 = .ok (.aload_n 0, 1) := by decide +kernel
theorem dX8_init_14 : decode cX8_init 14 = .ok (.bipush 29, 2) := by decide +kernel
theorem dX8_init_16 : decode cX8_init 16 = .ok (.newarray .int, 2) := by decide +kernel
theorem dX8_init_18 : decode cX8_init 18 = .ok (.putfield 13, 3) := by decide +kernel
theorem dX8_init_21 : decode cX8_init 21 = .ok (.aload_n 0, 1) := by decide +kernel
theorem dX8_init_22 : decode cX8_init 22 = .ok (.bipush 29, 2) := by decide +kernel
theorem dX8_init_24 : decode cX8_init 24 = .ok (.newarray .int, 2) := by decide +kernel
theorem dX8_init_26 : decode cX8_init 26 = .ok (.putfield 16, 3) := by decide +kernel
theorem dX8_init_29 : decode cX8_init 29 = .ok (.aload_n 0, 1) := by decide +kernel
theorem dX8_init_30 : decode cX8_init 30 = .ok (.bipush 33, 2) := by decide +kernel
theorem dX8_init_32 : decode cX8_init 32 = .ok (.newarray .int, 2) := by decide +kernel
theorem dX8_init_34 : decode cX8_init 34 = .ok (.putfield 19, 3) := by decide +kernel
theorem dX8_init_37 : decode cX8_init 37 = .ok (.aload_n 0, 1) := by decide +kernel
theorem dX8_init_38 : decode cX8_init 38 = .ok (.sipush 264, 3) := by decide +kernel
theorem dX8_init_41 : decode cX8_init 41 = .ok (.newarray .int, 2) := by decide +kernel
theorem dX8_init_43 : decode cX8_init 43 = .ok (.putfield 22, 3) := by decide +kernel
theorem dX8_init_46 : decode cX8_init 46 = .ok (.aload_n 0, 1) := by decide +kernel
theorem dX8_init_47 : decode cX8_init 47 = .ok (.bipush 66, 2) := by decide +kernel
theorem dX8_init_49 : decode cX8_init 49 = .ok (.newarray .int, 2) := by decide +kernel
theorem dX8_init_51 : decode cX8_init 51 = .ok (.putfield 25, 3) := by decide +kernel
theorem dX8_init_54 : decode cX8_init 54 = .ok (.aload_n 0, 1) := by decide +kernel
theorem dX8_init_55 : decode cX8_init 55 = .ok (.iconst 2, 1) := by decide +kernel
theorem dX8_init_56 : decode cX8_init 56 = .ok (.newarray .boolean, 2) := by decide +kernel
theorem dX8_init_58 : decode cX8_init 58 = .ok (.putfield 28, 3) := by decide +kernel
theorem dX8_init_61 : decode cX8_init 61 = .ok (.aload_n 0, 1) := by decide +kernel
theorem dX8_init_62 : decode cX8_init 62 = .ok (.bipush 6, 2) := by decide +kernel
theorem dX8_init_64 : decode cX8_init 64 = .ok (.newarray .int, 2) := by decide +kernel
theorem dX8_init_66 : decode cX8_init 66 = .ok (.putfield 32, 3) := by decide +kernel
theorem dX8_init_69 : decode cX8_init 69 = .ok (.aload_n 0, 1) := by decide +kernel
theorem dX8_init_70 : decode cX8_init 70 = .ok (.bipush 6, 2) := by decide +kernel
theorem dX8_init_72 : decode cX8_init 72 = .ok (.newarray .int, 2) := by decide +kernel
theorem dX8_init_74 : decode cX8_init 74 = .ok (.putfield 35, 3) := by decide +kernel
theorem dX8_init_77 : decode cX8_init 77 = .ok (.aload_n 0, 1) := by decide +kernel
theorem dX8_init_78 : decode cX8_init 78 = .ok (.iconst 3, 1) := by decide +kernel
theorem dX8_init_79 : decode cX8_init 79 = .ok (.newarray .int, 2) := by decide +kernel
theorem dX8_init_81 : decode cX8_init 81 = .ok (.putfield 38, 3) := by decide +kernel
theorem dX8_init_84 : decode cX8_init 84 = .ok (.aload_n 0, 1) := by decide +kernel
theorem dX8_init_85 : decode cX8_init 85 = .ok (.iconst 3, 1) := by decide +kernel
theorem dX8_init_86 : decode cX8_init 86 = .ok (.newarray .int, 2) := by decide +kernel
theorem dX8_init_88 : decode cX8_init 88 = .ok (.putfield 41, 3) := by decide +kernel
theorem dX8_init_91 : decode cX8_init 91 = .ok (.aload_n 0, 1) := by decide +kernel
theorem dX8_init_92 : decode cX8_init 92 = .ok (.bipush 100, 2) := by decide +kernel
theorem dX8_init_94 : decode cX8_init 94 = .ok (.newarray .int, 2) := by decide +kernel
theorem dX8_init_96 : decode cX8_init 96 = .ok (.putfield 44, 3) := by decide +kernel
theorem dX8_init_99 : decode cX8_init 99 = .ok (.aload_n 0, 1) := by decide +kernel
theorem dX8_init_100 : decode cX8_init 100 = .ok (.bipush 10, 2) := by decide +kernel
theorem dX8_init_102 : decode cX8_init 102 = .ok (.newarray .int, 2) := by decide +kernel
theorem dX8_init_104 : decode cX8_init 104 = .ok (.putfield 47, 3) := by decide +kernel
theorem dX8_init_107 : decode cX8_init 107 = .ok (.aload_n 0, 1) := by decide +kernel
theorem dX8_init_108 : decode cX8_init 108 = .ok (.bipush 33, 2) := by decide +kernel
theorem dX8_init_110 : decode cX8_init 110 = .ok (.newarray .int, 2) := by decide +kernel
theorem dX8_init_112 : decode cX8_init 112 = .ok (.putfield 50, 3) := by decide +kernel
theorem dX8_init_115 : decode cX8_init 115 = .ok (.aload_n 0, 1) := by decide +kernel
theorem dX8_init_116 : decode cX8_init 116 = .ok (.iconst 5, 1) := by decide +kernel
theorem dX8_init_117 : decode cX8_init 117 = .ok (.invokevirtual 53, 3) := by decide +kernel
theorem dX8_init_120 : decode cX8_init 120 = .ok (.iconst 0, 1) := by decide +kernel
theorem dX8_init_121 : decode cX8_init 121 = .ok (.istore_n 1, 1) := by decide +kernel
theorem dX8_init_122 : decode cX8_init 122 = .ok (.iload_n 1, 1) := by decide +kernel
theorem dX8_init_123 : decode cX8_init 123 = .ok (.bipush 29, 2) := by decide +kernel
theorem dX8_init_125 : decode cX8_init 125 = .ok (.if_icmp .ge 21, 3) := by decide +kernel
theorem dX8_init_128 : decode cX8_init 128 = .ok (.aload_n 0, 1) := by decide +kernel
theorem dX8_init_129 : decode cX8_init 129 = .ok (.getfield 13, 3) := by decide +kernel
theorem dX8_init_132 : decode cX8_init 132 = .ok (.iload_n 1, 1) := by decide +kernel
theorem dX8_init_133 : decode cX8_init 133 = .ok (.aload_n 0, 1) := by decide +kernel
theorem dX8_init_134 : decode cX8_init 134 = .ok (.getfield 16, 3) := by decide +kernel
theorem dX8_init_137 : decode cX8_init 137 = .ok (.iload_n 1, 1) := by decide +kernel
theorem dX8_init_138 : decode cX8_init 138 = .ok (.iaload, 1) := by decide +kernel
theorem dX8_init_139 : decode cX8_init 139 = .ok (.iastore, 1) := by decide +kernel
theorem dX8_init_140 : decode cX8_init 140 = .ok (.iinc 1 1, 3) := by decide +kernel
theorem dX8_init_143 : decode cX8_init 143 = .ok (.goto (-21), 3) := by decide +kernel
theorem dX8_init_146 : decode cX8_init 146 = .ok (.aload_n 0, 1) := by decide +kernel
theorem dX8_init_147 : decode cX8_init 147 = .ok (.invokevirtual 57, 3) := by decide +kernel
theorem dX8_init_150 : decode cX8_init 150 = .ok (.return_, 1) := by decide +kernel
theorem dX8_in_0 : decode cX8_in 0 = .ok (.iload_n 0, 1) := by decide +kernel
theorem dX8_in_1 : decode cX8_in 1 = .ok (.iload_n 1, 1) := by decide +kernel
theorem dX8_in_2 : decode cX8_in 2 = .ok (.if_icmp .lt 12, 3) := by decide +kernel
theorem dX8_in_5 : decode cX8_in 5 = .ok (.iload_n 0, 1) := by decide +kernel
theorem dX8_in_6 : decode cX8_in 6 = .ok (.iload_n 2, 1) := by decide +kernel
theorem dX8_in_7 : decode cX8_in 7 = .ok (.if_icmp .gt 7, 3) := by decide +kernel
theorem dX8_in_10 : decode cX8_in 10 = .ok (.iconst 1, 1) := by decide +kernel
theorem dX8_in_11 : decode cX8_in 11 = .ok (.goto 4, 3) := by decide +kernel
theorem dX8_in_14 : decode cX8_in 14 = .ok (.iconst 0, 1) := by decide +kernel
theorem dX8_in_15 : decode cX8_in 15 = .ok (.ireturn, 1) := by decide +kernel
theorem dX8_forgets_0 : decode cX8_forgets 0 = .ok (.iconst 0, 1) := by decide +kernel
theorem dX8_forgets_1 : decode cX8_forgets 1 = .ok (.istore_n 2, 1) := by decide +kernel
theorem dX8_forgets_2 : decode cX8_forgets 2 = .ok (.iload_n 2, 1) := by decide +kernel
theorem dX8_forgets_3 : decode cX8_forgets 3 = .ok (.bipush 29, 2) := by decide +kernel
theorem dX8_forgets_5 : decode cX8_forgets 5 = .ok (.if_icmp .ge 16, 3) := by decide +kernel
theorem dX8_forgets_8 : decode cX8_forgets 8 = .ok (.aload_n 0, 1) := by decide +kernel
theorem dX8_forgets_9 : decode cX8_forgets 9 = .ok (.getfield 16, 3) := by decide +kernel
theorem dX8_forgets_12 : decode cX8_forgets 12 = .ok (.iload_n 2, 1) := by decide +kernel
theorem dX8_forgets_13 : decode cX8_forgets 13 = .ok (.iconst 0, 1) := by decide +kernel
theorem dX8_forgets_14 : decode cX8_forgets 14 = .ok (.iastore, 1) := by decide +kernel
theorem dX8_forgets_15 : decode cX8_forgets 15 = .ok (.iinc 2 1, 3) := by decide +kernel
theorem dX8_forgets_18 : decode cX8_forgets 18 = .ok (.goto (-16), 3) := by decide +kernel
theorem dX8_forgets_21 : decode cX8_forgets 21 = .ok (.aload_n 0, 1) := by decide +kernel
theorem dX8_forgets_22 : decode cX8_forgets 22 = .ok (.getfield 16, 3) := by decide +kernel
theorem dX8_forgets_25 : decode cX8_forgets 25 = .ok (.iconst 0, 1) := by decide +kernel
theorem dX8_forgets_26 : decode cX8_forgets 26 = .ok (.iload_n 1, 1) := by decide +kernel
theorem dX8_forgets_27 : decode cX8_forgets 27 = .ok (.iastore, 1) := by decide +kernel
theorem dX8_forgets_28 : decode cX8_forgets 28 = .ok (.aload_n 0, 1) := by decide +kernel
theorem dX8_forgets_29 : decode cX8_forgets 29 = .ok (.getfield 16, 3) := by decide +kernel
theorem dX8_forgets_32 : decode cX8_forgets 32 = .ok (.iconst 1, 1) := by decide +kernel
theorem dX8_forgets_33 : decode cX8_forgets 33 = .ok (.bipush 40, 2) := by decide +kernel
theorem dX8_forgets_35 : decode cX8_forgets 35 = .ok (.iastore, 1) := by decide +kernel
theorem dX8_forgets_36 : decode cX8_forgets 36 = .ok (.aload_n 0, 1) := by decide +kernel
theorem dX8_forgets_37 : decode cX8_forgets 37 = .ok (.getfield 16, 3) := by decide +kernel
theorem dX8_forgets_40 : decode cX8_forgets 40 = .ok (.iconst 2, 1) := by decide +kernel
theorem dX8_forgets_41 : decode cX8_forgets 41 = .ok (.bipush 8, 2) := by decide +kernel
theorem dX8_forgets_43 : decode cX8_forgets 43 = .ok (.iastore, 1) := by decide +kernel
theorem dX8_forgets_44 : decode cX8_forgets 44 = .ok (.return_, 1) := by decide +kernel
set_option maxRecDepth 20000 in
theorem ggX8_lays_X8_in : GoodIn wsX8_lays wsX8_in := goodIn_r _ [9] (by decide +kernel) (by decide +kernel)
set_option maxRecDepth 20000 in
theorem gX8_lays_X8_in : GoodIn wsX8_lays (va_wsS RX8 60 yX8_in wsX8_in) := goodIn_app (goodIn_of _ (by decide +kernel)) ggX8_lays_X8_in
theorem dX8_lays_0 : decode cX8_lays 0 = .ok (.iconst 0, 1) := by decide +kernel
theorem dX8_lays_1 : decode cX8_lays 1 = .ok (.istore_n 1, 1) := by decide +kernel
theorem dX8_lays_2 : decode cX8_lays 2 = .ok (.iload_n 1, 1) := by decide +kernel
theorem dX8_lays_3 : decode cX8_lays 3 = .ok (.bipush 33, 2) := by decide +kernel
theorem dX8_lays_5 : decode cX8_lays 5 = .ok (.if_icmp .ge 49, 3) := by decide +kernel
theorem dX8_lays_8 : decode cX8_lays 8 = .ok (.aload_n 0, 1) := by decide +kernel
theorem dX8_lays_9 : decode cX8_lays 9 = .ok (.getfield 19, 3) := by decide +kernel
theorem dX8_lays_12 : decode cX8_lays 12 = .ok (.iload_n 1, 1) := by decide +kernel
theorem dX8_lays_13 : decode cX8_lays 13 = .ok (.iload_n 1, 1) := by decide +kernel
theorem dX8_lays_14 : decode cX8_lays 14 = .ok (.bipush 6, 2) := by decide +kernel
theorem dX8_lays_16 : decode cX8_lays 16 = .ok (.if_icmp .ge 15, 3) := by decide +kernel
theorem dX8_lays_19 : decode cX8_lays 19 = .ok (.aload_n 0, 1) := by decide +kernel
theorem dX8_lays_20 : decode cX8_lays 20 = .ok (.getfield 13, 3) := by decide +kernel
theorem dX8_lays_23 : decode cX8_lays 23 = .ok (.bipush 11, 2) := by decide +kernel
theorem dX8_lays_25 : decode cX8_lays 25 = .ok (.iload_n 1, 1) := by decide +kernel
theorem dX8_lays_26 : decode cX8_lays 26 = .ok (.iadd, 1) := by decide +kernel
theorem dX8_lays_27 : decode cX8_lays 27 = .ok (.iaload, 1) := by decide +kernel
theorem dX8_lays_28 : decode cX8_lays 28 = .ok (.goto 19, 3) := by decide +kernel
theorem dX8_lays_31 : decode cX8_lays 31 = .ok (.iload_n 1, 1) := by decide +kernel
theorem dX8_lays_32 : decode cX8_lays 32 = .ok (.bipush 18, 2) := by decide +kernel
theorem dX8_lays_34 : decode cX8_lays 34 = .ok (.bipush 23, 2) := by decide +kernel
theorem dX8_lays_36 : decode cX8_lays 36 = .ok (.invokestatic 60, 3) := by decide +kernel
theorem dX8_lays_39 : decode cX8_lays 39 = .ok (.ifCond .eq 7, 3) := by decide +kernel
theorem dX8_lays_42 : decode cX8_lays 42 = .ok (.iconst (-1), 1) := by decide +kernel
theorem dX8_lays_43 : decode cX8_lays 43 = .ok (.goto 4, 3) := by decide +kernel
theorem dX8_lays_46 : decode cX8_lays 46 = .ok (.iconst 0, 1) := by decide +kernel
theorem dX8_lays_47 : decode cX8_lays 47 = .ok (.iastore, 1) := by decide +kernel
theorem dX8_lays_48 : decode cX8_lays 48 = .ok (.iinc 1 1, 3) := by decide +kernel
theorem dX8_lays_51 : decode cX8_lays 51 = .ok (.goto (-49), 3) := by decide +kernel
theorem dX8_lays_54 : decode cX8_lays 54 = .ok (.aload_n 0, 1) := by decide +kernel
theorem dX8_lays_55 : decode cX8_lays 55 = .ok (.getfield 19, 3) := by decide +kernel
theorem dX8_lays_58 : decode cX8_lays 58 = .ok (.bipush 30, 2) := by decide +kernel
theorem dX8_lays_60 : decode cX8_lays 60 = .ok (.aload_n 0, 1) := by decide +kernel
theorem dX8_lays_61 : decode cX8_lays 61 = .ok (.getfield 13, 3) := by decide +kernel
theorem dX8_lays_64 : decode cX8_lays 64 = .ok (.iconst 1, 1) := by decide +kernel
theorem dX8_lays_65 : decode cX8_lays 65 = .ok (.iaload, 1) := by decide +kernel
theorem dX8_lays_66 : decode cX8_lays 66 = .ok (.iastore, 1) := by decide +kernel
theorem dX8_lays_67 : decode cX8_lays 67 = .ok (.aload_n 0, 1) := by decide +kernel
theorem dX8_lays_68 : decode cX8_lays 68 = .ok (.getfield 19, 3) := by decide +kernel
theorem dX8_lays_71 : decode cX8_lays 71 = .ok (.bipush 31, 2) := by decide +kernel
theorem dX8_lays_73 : decode cX8_lays 73 = .ok (.aload_n 0, 1) := by decide +kernel
theorem dX8_lays_74 : decode cX8_lays 74 = .ok (.getfield 13, 3) := by decide +kernel
theorem dX8_lays_77 : decode cX8_lays 77 = .ok (.iconst 2, 1) := by decide +kernel
theorem dX8_lays_78 : decode cX8_lays 78 = .ok (.iaload, 1) := by decide +kernel
theorem dX8_lays_79 : decode cX8_lays 79 = .ok (.iastore, 1) := by decide +kernel
theorem dX8_lays_80 : decode cX8_lays 80 = .ok (.aload_n 0, 1) := by decide +kernel
theorem dX8_lays_81 : decode cX8_lays 81 = .ok (.iconst 0, 1) := by decide +kernel
theorem dX8_lays_82 : decode cX8_lays 82 = .ok (.putfield 114, 3) := by decide +kernel
theorem dX8_lays_85 : decode cX8_lays 85 = .ok (.aload_n 0, 1) := by decide +kernel
theorem dX8_lays_86 : decode cX8_lays 86 = .ok (.iconst 0, 1) := by decide +kernel
theorem dX8_lays_87 : decode cX8_lays 87 = .ok (.putfield 117, 3) := by decide +kernel
theorem dX8_lays_90 : decode cX8_lays 90 = .ok (.aload_n 0, 1) := by decide +kernel
theorem dX8_lays_91 : decode cX8_lays 91 = .ok (.getfield 28, 3) := by decide +kernel
theorem dX8_lays_94 : decode cX8_lays 94 = .ok (.iconst 0, 1) := by decide +kernel
theorem dX8_lays_95 : decode cX8_lays 95 = .ok (.iconst 0, 1) := by decide +kernel
theorem dX8_lays_96 : decode cX8_lays 96 = .ok (.bastore, 1) := by decide +kernel
theorem dX8_lays_97 : decode cX8_lays 97 = .ok (.aload_n 0, 1) := by decide +kernel
theorem dX8_lays_98 : decode cX8_lays 98 = .ok (.getfield 28, 3) := by decide +kernel
theorem dX8_lays_101 : decode cX8_lays 101 = .ok (.iconst 1, 1) := by decide +kernel
theorem dX8_lays_102 : decode cX8_lays 102 = .ok (.iconst 0, 1) := by decide +kernel
theorem dX8_lays_103 : decode cX8_lays 103 = .ok (.bastore, 1) := by decide +kernel
theorem dX8_lays_104 : decode cX8_lays 104 = .ok (.return_, 1) := by decide +kernel
set_option maxHeartbeats 4000000 in
set_option maxRecDepth 100000 in
/-- in: between, both ends too -/
theorem c_M_in (l : Launch) (D : va_G) (g : Nat → ClassId) (p0 p1 p2 : Int32) : CtI l yX8_in wsX8_in { frames := 0, cells := 0, slots := 0, locals := 0 } D (TY g) [.int p0, .int p1, .int p2] (fun _ => True) [] (fun r (_ : Unit) => r = if p1 ≤ p0 ∧ p0 ≤ p2 then 1 else 0) (fun _ => []) := by
  refine CtI.intro (cc := cX8_in) (maxL := 3) (ret := (some .boolean)) rfl (by decide +kernel) (Nat.le_of_ble_eq_true rfl) ?_
  intro p e s m below meth c A ls C hmn hX hAe hT hl
  have hx := C.1.1
  have hb := C.1.2.1
  have hl : lv_has ls 3 [(0, .int p0), (1, .int p1), (2, .int p2)] := hl
  refine lv_iload_n hx hb dX8_in_0 rfl (lv_at hl 0 rfl) ?_
  refine lv_iload_n hx hb dX8_in_1 rfl (lv_at hl 1 rfl) ?_
  refine lv_icmp_lt (tgt := 14) hx hb dX8_in_2 (by decide +kernel) (fun c_2 => ?_) (fun c_2 => ?_)
  · refine lv_iconst (v := 0) hx hb dX8_in_14 (by decide +kernel) ?_
    exact z_zret C rfl rfl hT () (by rw [if_neg (fun h => absurd c_2 (Int32.not_lt.mpr h.1))]) [] rfl rfl (Nat.le_of_ble_eq_true rfl) (Nat.le_of_ble_eq_true rfl) dX8_in_15
  · refine lv_iload_n hx hb dX8_in_5 rfl (lv_at hl 0 rfl) ?_
    refine lv_iload_n hx hb dX8_in_6 rfl (lv_at hl 2 rfl) ?_
    refine lv_icmp_gt (tgt := 14) hx hb dX8_in_7 (by decide +kernel) (fun c_7 => ?_) (fun c_7 => ?_)
    · refine lv_iconst (v := 0) hx hb dX8_in_14 (by decide +kernel) ?_
      exact z_zret C rfl rfl hT () (by rw [if_neg (fun h => absurd c_7 (Int32.not_lt.mpr h.2))]) [] rfl rfl (Nat.le_of_ble_eq_true rfl) (Nat.le_of_ble_eq_true rfl) dX8_in_15
    · refine lv_iconst (v := 1) hx hb dX8_in_10 (by decide +kernel) ?_
      refine lv_goto (tgt := 15) hx hb dX8_in_11 (by decide +kernel) ?_
      exact z_zret C rfl rfl hT () (by rw [if_pos ⟨Int32.not_lt.mp c_2, Int32.not_lt.mp c_7⟩]) [] rfl rfl (Nat.le_of_ble_eq_true rfl) (Nat.le_of_ble_eq_true rfl) dX8_in_15

set_option maxHeartbeats 4000000 in
set_option maxRecDepth 100000 in
/-- forgets(5): the draft is as at first -/
theorem c_M_forgets (l : Launch) (D : va_G) (g : Nat → ClassId) (m0 : Nat) (v : Nat → Nat) (f : Nat → Int32) : CtV l yX8_forgets wsX8_forgets { frames := 0, cells := 0, slots := 0, locals := 0 } D (TY g) [.ref m0, .int 5] (fun _ => True) [(m0, .inr (8, [.ref (v 0), .int 0, .ref (v 1), .ref (v 2), .ref (v 3), .ref (v 4), .int 0, .ref (v 5), .ref (v 6), .ref (v 7), .int 0, .int 0, .int 0, .int 0, .int 0, .ref (v 8), .ref (v 9), .ref (v 10), .ref (v 11), .ref (v 12), .ref (v 13)])), ((v 2), .inl (g 0, 29, .inl f))] (fun f : Nat → Int32 => ∀ k, k < 29 → f k = fr k) (fun f => [(m0, .inr (8, [.ref (v 0), .int 0, .ref (v 1), .ref (v 2), .ref (v 3), .ref (v 4), .int 0, .ref (v 5), .ref (v 6), .ref (v 7), .int 0, .int 0, .int 0, .int 0, .int 0, .ref (v 8), .ref (v 9), .ref (v 10), .ref (v 11), .ref (v 12), .ref (v 13)])), ((v 2), .inl (g 0, 29, .inl f))]) := by
  refine CtV.intro (cc := cX8_forgets) (maxL := 3) (ret := none) rfl (by decide +kernel) (Nat.le_of_ble_eq_true rfl) ?_
  intro p e s m below meth c A ls C hmn hX hAe hT hl
  have hx := C.1.1
  have hb := C.1.2.1
  have hl : lv_has ls 3 [(0, .ref m0), (1, .int 5)] := hl
  have hin8 : ∀ w ∈ u_ws RX8 TX8 21, w ∈ wsX8_forgets := by decide +kernel
  refine lv_iconst (v := 0) hx hb dX8_forgets_0 (by decide +kernel) ?_
  refine lv_istore_n (lv' := [(2, .int 0), (0, .ref m0), (1, .int 5)]) hx hb dX8_forgets_1 rfl hl (by decide +kernel) rfl (fun ls hl => ?_)
  refine z_loop (α := Nat → Int32) (N := 29) (fun i a => ∀ k, k < i → a k = 0) (fun i a => [(m0, .inr (8, [.ref (v 0), .int 0, .ref (v 1), .ref (v 2), .ref (v 3), .ref (v 4), .int 0, .ref (v 5), .ref (v 6), .ref (v 7), .int 0, .int 0, .int 0, .int 0, .int 0, .ref (v 8), .ref (v 9), .ref (v 10), .ref (v 11), .ref (v 12), .ref (v 13)])), ((v 2), .inl (g 0, 29, .inl a))]) (fun i a => [(2, .int (nI i)), (0, .ref m0), (1, .int 5)]) ?_ ?_ 0 f (Nat.zero_le _) (fun k h => absurd h (Nat.not_lt_zero k)) _ _ _ hT (lv_sub hl [0, 1, 2] rfl)
  · intro i a H locs ls hi hI hT hl ih
    have hT : Sit D (TY g) A s [(m0, .inr (8, [.ref (v 0), .int 0, .ref (v 1), .ref (v 2), .ref (v 3), .ref (v 4), .int 0, .ref (v 5), .ref (v 6), .ref (v 7), .int 0, .int 0, .int 0, .int 0, .int 0, .ref (v 8), .ref (v 9), .ref (v 10), .ref (v 11), .ref (v 12), .ref (v 13)])), ((v 2), .inl (g 0, 29, .inl a))] H locs := hT
    have hl : lv_has ls _ [(2, .int (nI i)), (0, .ref m0), (1, .int 5)] := hl
    refine lv_iload_n hx hb dX8_forgets_2 rfl (lv_at hl 0 rfl) ?_
    refine lv_bipush (v := 29) hx hb dX8_forgets_3 (by decide +kernel) ?_
    refine lv_icmp_ge (tgt := 21) hx hb dX8_forgets_5 (by decide +kernel) (fun c9 => absurd c9 (lp_no (by decide +kernel) hi (by decide +kernel))) (fun _ => ?_)
    refine lv_aload_n hx hb dX8_forgets_8 rfl (lv_at hl 1 rfl) ?_
    refine z_get C (ci := 8) (N := 21) rfl hin8 hT 0 3 rfl rfl (by decide +kernel) (by decide +kernel) dX8_forgets_9 ?_
    refine lv_iload_n hx hb dX8_forgets_12 rfl (lv_at hl 0 rfl) ?_
    refine lv_iconst (v := 0) hx hb dX8_forgets_13 (by decide +kernel) ?_
    refine z_iast C hT 1 0 rfl rfl (vp_in_nI (by omega) (by decide +kernel)) dX8_forgets_14 (upd a i 0) (by rw [nI_clamp (by omega)]) [(m0, .inr (8, [.ref (v 0), .int 0, .ref (v 1), .ref (v 2), .ref (v 3), .ref (v 4), .int 0, .ref (v 5), .ref (v 6), .ref (v 7), .int 0, .int 0, .int 0, .int 0, .int 0, .ref (v 8), .ref (v 9), .ref (v 10), .ref (v 11), .ref (v 12), .ref (v 13)])), ((v 2), .inl (g 0, 29, .inl (upd a i 0)))] rfl (fun H locs hT => ?_)
    refine lv_iinc (v := nI (i + 1)) (lv' := [(2, .int (nI (i + 1))), (0, .ref m0), (1, .int 5)]) hx hb dX8_forgets_15 hl (k := 0) rfl (inc1 _) (by decide +kernel) rfl (fun ls hl => ?_)
    refine lv_goto (tgt := 2) hx hb dX8_forgets_18 (by decide +kernel) ?_
    exact ih (upd a i 0) _ _ _ (upd_lt (F := fun _ => 0) hI rfl) hT (lv_sub hl [0, 1, 2] rfl)
  · intro a H locs ls hI hT hl
    have hT : Sit D (TY g) A s [(m0, .inr (8, [.ref (v 0), .int 0, .ref (v 1), .ref (v 2), .ref (v 3), .ref (v 4), .int 0, .ref (v 5), .ref (v 6), .ref (v 7), .int 0, .int 0, .int 0, .int 0, .int 0, .ref (v 8), .ref (v 9), .ref (v 10), .ref (v 11), .ref (v 12), .ref (v 13)])), ((v 2), .inl (g 0, 29, .inl a))] H locs := hT
    have hl : lv_has ls _ [(2, .int (nI 29)), (0, .ref m0), (1, .int 5)] := hl
    refine lv_iload_n hx hb dX8_forgets_2 rfl (lv_at hl 0 rfl) ?_
    refine lv_bipush (v := 29) hx hb dX8_forgets_3 (by decide +kernel) ?_
    refine lv_icmp_ge (tgt := 21) hx hb dX8_forgets_5 (by decide +kernel) (fun _ => ?_) (fun c9 => absurd (by decide +kernel) c9)
    refine lv_aload_n hx hb dX8_forgets_21 rfl (lv_at hl 1 rfl) ?_
    refine z_get C (ci := 8) (N := 21) rfl hin8 hT 0 3 rfl rfl (by decide +kernel) (by decide +kernel) dX8_forgets_22 ?_
    refine lv_iconst (v := 0) hx hb dX8_forgets_25 (by decide +kernel) ?_
    refine lv_iload_n hx hb dX8_forgets_26 rfl (lv_at hl 2 rfl) ?_
    refine z_iast C hT 1 0 rfl rfl (vin rfl) dX8_forgets_27 (upd a 0 5) rfl [(m0, .inr (8, [.ref (v 0), .int 0, .ref (v 1), .ref (v 2), .ref (v 3), .ref (v 4), .int 0, .ref (v 5), .ref (v 6), .ref (v 7), .int 0, .int 0, .int 0, .int 0, .int 0, .ref (v 8), .ref (v 9), .ref (v 10), .ref (v 11), .ref (v 12), .ref (v 13)])), ((v 2), .inl (g 0, 29, .inl (upd a 0 5)))] rfl (fun H locs hT => ?_)
    refine lv_aload_n hx hb dX8_forgets_28 rfl (lv_at hl 1 rfl) ?_
    refine z_get C (ci := 8) (N := 21) rfl hin8 hT 0 3 rfl rfl (by decide +kernel) (by decide +kernel) dX8_forgets_29 ?_
    refine lv_iconst (v := 1) hx hb dX8_forgets_32 (by decide +kernel) ?_
    refine lv_bipush (v := 40) hx hb dX8_forgets_33 (by decide +kernel) ?_
    refine z_iast C hT 1 0 rfl rfl (vin rfl) dX8_forgets_35 (upd (upd a 0 5) 1 40) rfl [(m0, .inr (8, [.ref (v 0), .int 0, .ref (v 1), .ref (v 2), .ref (v 3), .ref (v 4), .int 0, .ref (v 5), .ref (v 6), .ref (v 7), .int 0, .int 0, .int 0, .int 0, .int 0, .ref (v 8), .ref (v 9), .ref (v 10), .ref (v 11), .ref (v 12), .ref (v 13)])), ((v 2), .inl (g 0, 29, .inl (upd (upd a 0 5) 1 40)))] rfl (fun H locs hT => ?_)
    refine lv_aload_n hx hb dX8_forgets_36 rfl (lv_at hl 1 rfl) ?_
    refine z_get C (ci := 8) (N := 21) rfl hin8 hT 0 3 rfl rfl (by decide +kernel) (by decide +kernel) dX8_forgets_37 ?_
    refine lv_iconst (v := 2) hx hb dX8_forgets_40 (by decide +kernel) ?_
    refine lv_bipush (v := 8) hx hb dX8_forgets_41 (by decide +kernel) ?_
    refine z_iast C hT 1 0 rfl rfl (vin rfl) dX8_forgets_43 (upd (upd (upd a 0 5) 1 40) 2 8) rfl [(m0, .inr (8, [.ref (v 0), .int 0, .ref (v 1), .ref (v 2), .ref (v 3), .ref (v 4), .int 0, .ref (v 5), .ref (v 6), .ref (v 7), .int 0, .int 0, .int 0, .int 0, .int 0, .ref (v 8), .ref (v 9), .ref (v 10), .ref (v 11), .ref (v 12), .ref (v 13)])), ((v 2), .inl (g 0, 29, .inl (upd (upd (upd a 0 5) 1 40) 2 8)))] rfl (fun H locs hT => ?_)
    exact z_vret C rfl hT (upd (upd (upd a 0 5) 1 40) 2 8) (fr_of hI) [0, 1] rfl rfl (Nat.le_of_ble_eq_true rfl) (Nat.le_of_ble_eq_true rfl) dX8_forgets_44

set_option maxHeartbeats 4000000 in
set_option maxRecDepth 100000 in
/-- lays(): the first state -/
theorem c_M_lays (l : Launch) (D : va_G) (g : Nat → ClassId) (m0 : Nat) (v : Nat → Nat) (ft f : Nat → Int32) (hF : ∀ k, k < 29 → ft k = fr k) : CtV l yX8_lays wsX8_lays { frames := 1, cells := 0, slots := 0, locals := 30 } D (TY g) [.ref m0] (fun _ => True) [(m0, .inr (8, [.ref (v 0), .int 0, .ref (v 1), .ref (v 2), .ref (v 3), .ref (v 4), .int 0, .ref (v 5), .ref (v 6), .ref (v 7), .int 0, .int 0, .int 0, .int 0, .int 0, .ref (v 8), .ref (v 9), .ref (v 10), .ref (v 11), .ref (v 12), .ref (v 13)])), ((v 1), .inl (g 0, 29, .inl ft)), ((v 3), .inl (g 0, 33, .inl f)), ((v 6), .inl (g 1, 2, .inl (fun _ => 0)))] (fun f : Nat → Int32 => ∀ k, k < 33 → f k = fs0 k) (fun f => [(m0, .inr (8, [.ref (v 0), .int 0, .ref (v 1), .ref (v 2), .ref (v 3), .ref (v 4), .int 0, .ref (v 5), .ref (v 6), .ref (v 7), .int 0, .int 0, .int 0, .int 0, .int 0, .ref (v 8), .ref (v 9), .ref (v 10), .ref (v 11), .ref (v 12), .ref (v 13)])), ((v 1), .inl (g 0, 29, .inl ft)), ((v 3), .inl (g 0, 33, .inl f)), ((v 6), .inl (g 1, 2, .inl (fun _ => 0)))]) := by
  refine CtV.intro (cc := cX8_lays) (maxL := 2) (ret := none) rfl (by decide +kernel) (Nat.le_of_ble_eq_true rfl) ?_
  intro p e s m below meth c A ls C hmn hX hAe hT hl
  have hx := C.1.1
  have hb := C.1.2.1
  have hl : lv_has ls 2 [(0, .ref m0)] := hl
  have hin8 : ∀ w ∈ u_ws RX8 TX8 21, w ∈ wsX8_lays := by decide +kernel
  refine lv_iconst (v := 0) hx hb dX8_lays_0 (by decide +kernel) ?_
  refine lv_istore_n (lv' := [(1, .int 0), (0, .ref m0)]) hx hb dX8_lays_1 rfl hl (by decide +kernel) rfl (fun ls hl => ?_)
  refine z_loop (α := Nat → Int32) (N := 33) (fun i a => ∀ k, k < i → a k = fl k) (fun i a => [(m0, .inr (8, [.ref (v 0), .int 0, .ref (v 1), .ref (v 2), .ref (v 3), .ref (v 4), .int 0, .ref (v 5), .ref (v 6), .ref (v 7), .int 0, .int 0, .int 0, .int 0, .int 0, .ref (v 8), .ref (v 9), .ref (v 10), .ref (v 11), .ref (v 12), .ref (v 13)])), ((v 1), .inl (g 0, 29, .inl ft)), ((v 3), .inl (g 0, 33, .inl a)), ((v 6), .inl (g 1, 2, .inl (fun _ => 0)))]) (fun i a => [(1, .int (nI i)), (0, .ref m0)]) ?_ ?_ 0 f (Nat.zero_le _) (fun k h => absurd h (Nat.not_lt_zero k)) _ _ _ hT (lv_sub hl [0, 1] rfl)
  · intro i a H locs ls hi hI hT hl ih
    have hT : Sit D (TY g) A s [(m0, .inr (8, [.ref (v 0), .int 0, .ref (v 1), .ref (v 2), .ref (v 3), .ref (v 4), .int 0, .ref (v 5), .ref (v 6), .ref (v 7), .int 0, .int 0, .int 0, .int 0, .int 0, .ref (v 8), .ref (v 9), .ref (v 10), .ref (v 11), .ref (v 12), .ref (v 13)])), ((v 1), .inl (g 0, 29, .inl ft)), ((v 3), .inl (g 0, 33, .inl a)), ((v 6), .inl (g 1, 2, .inl (fun _ => 0)))] H locs := hT
    have hl : lv_has ls _ [(1, .int (nI i)), (0, .ref m0)] := hl
    refine lv_iload_n hx hb dX8_lays_2 rfl (lv_at hl 0 rfl) ?_
    refine lv_bipush (v := 33) hx hb dX8_lays_3 (by decide +kernel) ?_
    refine lv_icmp_ge (tgt := 54) hx hb dX8_lays_5 (by decide +kernel) (fun c9 => absurd c9 (lp_no (by decide +kernel) hi (by decide +kernel))) (fun _ => ?_)
    refine lv_aload_n hx hb dX8_lays_8 rfl (lv_at hl 1 rfl) ?_
    refine z_get C (ci := 8) (N := 21) rfl hin8 hT 0 4 rfl rfl (by decide +kernel) (by decide +kernel) dX8_lays_9 ?_
    refine lv_iload_n hx hb dX8_lays_12 rfl (lv_at hl 0 rfl) ?_
    refine lv_iload_n hx hb dX8_lays_13 rfl (lv_at hl 0 rfl) ?_
    refine lv_bipush (v := 6) hx hb dX8_lays_14 (by decide +kernel) ?_
    refine lv_icmp_ge (tgt := 31) hx hb dX8_lays_16 (by decide +kernel) (fun c_16 => ?_) (fun c_16 => ?_)
    · have h6 : 6 ≤ i := by
        rcases Nat.lt_or_ge i 6 with q | q
        · exact absurd c_16 (lp_no (by decide +kernel) q (by decide +kernel))
        · exact q
      refine lv_iload_n hx hb dX8_lays_31 rfl (lv_at hl 0 rfl) ?_
      refine lv_bipush (v := 18) hx hb dX8_lays_32 (by decide +kernel) ?_
      refine lv_bipush (v := 23) hx hb dX8_lays_34 (by decide +kernel) ?_
      refine z_callSI (wr := [(m0, .inr (8, [.ref (v 0), .int 0, .ref (v 1), .ref (v 2), .ref (v 3), .ref (v 4), .int 0, .ref (v 5), .ref (v 6), .ref (v 7), .int 0, .int 0, .int 0, .int 0, .int 0, .ref (v 8), .ref (v 9), .ref (v 10), .ref (v 11), .ref (v 12), .ref (v 13)])), ((v 1), .inl (g 0, 29, .inl ft)), ((v 3), .inl (g 0, 33, .inl a)), ((v 6), .inl (g 1, 2, .inl (fun _ => 0)))]) (n := 3) (As := [.int (nI i), .int 18, .int 23]) C (c_M_in l D g (nI i) 18 23) gX8_lays_X8_in rfl (by decide +kernel) ⟨Nat.le_of_ble_eq_true rfl, Nat.le_of_ble_eq_true rfl⟩ ⟨Nat.le_of_ble_eq_true rfl, Nat.le_of_ble_eq_true rfl⟩ blind_T (fun _ _ _ => trivial) hT [] [0, 1, 2, 3] rfl rfl rfl rfl rfl rfl hl.1 rfl (Nat.le_of_ble_eq_true rfl) dX8_lays_36 (fun r_3 u_1 H locs hp_2 hT => ?_)
      have hT : Sit D (TY g) A s [(m0, .inr (8, [.ref (v 0), .int 0, .ref (v 1), .ref (v 2), .ref (v 3), .ref (v 4), .int 0, .ref (v 5), .ref (v 6), .ref (v 7), .int 0, .int 0, .int 0, .int 0, .int 0, .ref (v 8), .ref (v 9), .ref (v 10), .ref (v 11), .ref (v 12), .ref (v 13)])), ((v 1), .inl (g 0, 29, .inl ft)), ((v 3), .inl (g 0, 33, .inl a)), ((v 6), .inl (g 1, 2, .inl (fun _ => 0)))] H _ := hT
      have hr := hp_2.trans (in_N (i := i) (a := 18) (b := 23) rfl rfl (by omega) (by decide) (by decide))
      refine lv_if_eq (tgt := 46) hx hb dX8_lays_39 (by decide +kernel) (fun c_39 => ?_) (fun c_39 => ?_)
      · have h9 : ¬ (18 ≤ i ∧ i < 24) := fun q => by rw [if_pos (by omega)] at hr; rw [hr] at c_39; exact absurd c_39 (by decide)
        refine lv_iconst (v := 0) hx hb dX8_lays_46 (by decide +kernel) ?_
        refine z_iast C hT 2 0 rfl rfl (vp_in_nI (by omega) (by decide +kernel)) dX8_lays_47 (upd a i 0) (by rw [nI_clamp (by omega)]) [(m0, .inr (8, [.ref (v 0), .int 0, .ref (v 1), .ref (v 2), .ref (v 3), .ref (v 4), .int 0, .ref (v 5), .ref (v 6), .ref (v 7), .int 0, .int 0, .int 0, .int 0, .int 0, .ref (v 8), .ref (v 9), .ref (v 10), .ref (v 11), .ref (v 12), .ref (v 13)])), ((v 1), .inl (g 0, 29, .inl ft)), ((v 3), .inl (g 0, 33, .inl (upd a i 0))), ((v 6), .inl (g 1, 2, .inl (fun _ => 0)))] rfl (fun H locs hT => ?_)
        refine lv_iinc (v := nI (i + 1)) (lv' := [(1, .int (nI (i + 1))), (0, .ref m0)]) hx hb dX8_lays_48 hl (k := 0) rfl (inc1 _) (by decide +kernel) rfl (fun ls hl => ?_)
        refine lv_goto (tgt := 2) hx hb dX8_lays_51 (by decide +kernel) ?_
        exact ih (upd a i 0) _ _ _ (upd_lt (F := fl) hI (by simp only [fl]; first | rw [if_pos h9] | rw [if_neg h9] | rw [if_neg (by omega)])) hT (lv_sub hl [0, 1] rfl)
      · have h9 : 18 ≤ i ∧ i < 24 := Classical.byContradiction (fun q => by rw [if_neg (by omega)] at hr; exact c_39 hr)
        refine lv_iconst (v := (-1)) hx hb dX8_lays_42 (by decide +kernel) ?_
        refine lv_goto (tgt := 47) hx hb dX8_lays_43 (by decide +kernel) ?_
        refine z_iast C hT 2 0 rfl rfl (vp_in_nI (by omega) (by decide +kernel)) dX8_lays_47 (upd a i (-1)) (by rw [nI_clamp (by omega)]) [(m0, .inr (8, [.ref (v 0), .int 0, .ref (v 1), .ref (v 2), .ref (v 3), .ref (v 4), .int 0, .ref (v 5), .ref (v 6), .ref (v 7), .int 0, .int 0, .int 0, .int 0, .int 0, .ref (v 8), .ref (v 9), .ref (v 10), .ref (v 11), .ref (v 12), .ref (v 13)])), ((v 1), .inl (g 0, 29, .inl ft)), ((v 3), .inl (g 0, 33, .inl (upd a i (-1)))), ((v 6), .inl (g 1, 2, .inl (fun _ => 0)))] rfl (fun H locs hT => ?_)
        refine lv_iinc (v := nI (i + 1)) (lv' := [(1, .int (nI (i + 1))), (0, .ref m0)]) hx hb dX8_lays_48 hl (k := 0) rfl (inc1 _) (by decide +kernel) rfl (fun ls hl => ?_)
        refine lv_goto (tgt := 2) hx hb dX8_lays_51 (by decide +kernel) ?_
        exact ih (upd a i (-1)) _ _ _ (upd_lt (F := fl) hI (by simp only [fl]; first | rw [if_pos h9] | rw [if_neg h9] | rw [if_neg (by omega)])) hT (lv_sub hl [0, 1] rfl)
    · have h6 : i < 6 := by
        rcases Nat.lt_or_ge i 6 with q | q
        · exact q
        · exact absurd (by rw [show (6 : Int32) = nI 6 from rfl]; exact nI_le q (by omega)) c_16
      refine lv_aload_n hx hb dX8_lays_19 rfl (lv_at hl 1 rfl) ?_
      refine z_get C (ci := 8) (N := 21) rfl hin8 hT 0 2 rfl rfl (by decide +kernel) (by decide +kernel) dX8_lays_20 ?_
      refine lv_bipush (v := 11) hx hb dX8_lays_23 (by decide +kernel) ?_
      refine lv_iload_n hx hb dX8_lays_25 rfl (lv_at hl 0 rfl) ?_
      refine lv_iadd hx hb dX8_lays_26 ?_
      refine z_iald C hT 1 0 rfl rfl (by rw [show (11 : Int32) = nI 11 from rfl, nI_add]; exact vp_in_nI (by omega) (by decide +kernel)) (v := 0) (by rw [show (11 : Int32) = nI 11 from rfl, nI_add, nI_clamp (by omega), hF _ (by omega)]; simp only [fr]; rw [if_neg (by omega), if_neg (by omega), if_neg (by omega)]) dX8_lays_27 ?_
      refine lv_goto (tgt := 47) hx hb dX8_lays_28 (by decide +kernel) ?_
      refine z_iast C hT 2 0 rfl rfl (vp_in_nI (by omega) (by decide +kernel)) dX8_lays_47 (upd a i 0) (by rw [nI_clamp (by omega)]) [(m0, .inr (8, [.ref (v 0), .int 0, .ref (v 1), .ref (v 2), .ref (v 3), .ref (v 4), .int 0, .ref (v 5), .ref (v 6), .ref (v 7), .int 0, .int 0, .int 0, .int 0, .int 0, .ref (v 8), .ref (v 9), .ref (v 10), .ref (v 11), .ref (v 12), .ref (v 13)])), ((v 1), .inl (g 0, 29, .inl ft)), ((v 3), .inl (g 0, 33, .inl (upd a i 0))), ((v 6), .inl (g 1, 2, .inl (fun _ => 0)))] rfl (fun H locs hT => ?_)
      refine lv_iinc (v := nI (i + 1)) (lv' := [(1, .int (nI (i + 1))), (0, .ref m0)]) hx hb dX8_lays_48 hl (k := 0) rfl (inc1 _) (by decide +kernel) rfl (fun ls hl => ?_)
      refine lv_goto (tgt := 2) hx hb dX8_lays_51 (by decide +kernel) ?_
      exact ih (upd a i 0) _ _ _ (upd_lt (F := fl) hI (by simp only [fl]; first | rw [if_pos h9] | rw [if_neg h9] | rw [if_neg (by omega)])) hT (lv_sub hl [0, 1] rfl)
  · intro a H locs ls hI hT hl
    have hT : Sit D (TY g) A s [(m0, .inr (8, [.ref (v 0), .int 0, .ref (v 1), .ref (v 2), .ref (v 3), .ref (v 4), .int 0, .ref (v 5), .ref (v 6), .ref (v 7), .int 0, .int 0, .int 0, .int 0, .int 0, .ref (v 8), .ref (v 9), .ref (v 10), .ref (v 11), .ref (v 12), .ref (v 13)])), ((v 1), .inl (g 0, 29, .inl ft)), ((v 3), .inl (g 0, 33, .inl a)), ((v 6), .inl (g 1, 2, .inl (fun _ => 0)))] H locs := hT
    have hl : lv_has ls _ [(1, .int (nI 33)), (0, .ref m0)] := hl
    refine lv_iload_n hx hb dX8_lays_2 rfl (lv_at hl 0 rfl) ?_
    refine lv_bipush (v := 33) hx hb dX8_lays_3 (by decide +kernel) ?_
    refine lv_icmp_ge (tgt := 54) hx hb dX8_lays_5 (by decide +kernel) (fun _ => ?_) (fun c9 => absurd (by decide +kernel) c9)
    refine lv_aload_n hx hb dX8_lays_54 rfl (lv_at hl 1 rfl) ?_
    refine z_get C (ci := 8) (N := 21) rfl hin8 hT 0 4 rfl rfl (by decide +kernel) (by decide +kernel) dX8_lays_55 ?_
    refine lv_bipush (v := 30) hx hb dX8_lays_58 (by decide +kernel) ?_
    refine lv_aload_n hx hb dX8_lays_60 rfl (lv_at hl 1 rfl) ?_
    refine z_get C (ci := 8) (N := 21) rfl hin8 hT 0 2 rfl rfl (by decide +kernel) (by decide +kernel) dX8_lays_61 ?_
    refine lv_iconst (v := 1) hx hb dX8_lays_64 (by decide +kernel) ?_
    refine z_iald C hT 1 0 rfl rfl (vin rfl) (v := 40) ((hF 1 (by decide)).trans rfl) dX8_lays_65 ?_
    refine z_iast C hT 2 0 rfl rfl (vin rfl) dX8_lays_66 (upd a 30 40) rfl [(m0, .inr (8, [.ref (v 0), .int 0, .ref (v 1), .ref (v 2), .ref (v 3), .ref (v 4), .int 0, .ref (v 5), .ref (v 6), .ref (v 7), .int 0, .int 0, .int 0, .int 0, .int 0, .ref (v 8), .ref (v 9), .ref (v 10), .ref (v 11), .ref (v 12), .ref (v 13)])), ((v 1), .inl (g 0, 29, .inl ft)), ((v 3), .inl (g 0, 33, .inl (upd a 30 40))), ((v 6), .inl (g 1, 2, .inl (fun _ => 0)))] rfl (fun H locs hT => ?_)
    refine lv_aload_n hx hb dX8_lays_67 rfl (lv_at hl 1 rfl) ?_
    refine z_get C (ci := 8) (N := 21) rfl hin8 hT 0 4 rfl rfl (by decide +kernel) (by decide +kernel) dX8_lays_68 ?_
    refine lv_bipush (v := 31) hx hb dX8_lays_71 (by decide +kernel) ?_
    refine lv_aload_n hx hb dX8_lays_73 rfl (lv_at hl 1 rfl) ?_
    refine z_get C (ci := 8) (N := 21) rfl hin8 hT 0 2 rfl rfl (by decide +kernel) (by decide +kernel) dX8_lays_74 ?_
    refine lv_iconst (v := 2) hx hb dX8_lays_77 (by decide +kernel) ?_
    refine z_iald C hT 1 0 rfl rfl (vin rfl) (v := 8) ((hF 2 (by decide)).trans rfl) dX8_lays_78 ?_
    refine z_iast C hT 2 0 rfl rfl (vin rfl) dX8_lays_79 (upd (upd a 30 40) 31 8) rfl [(m0, .inr (8, [.ref (v 0), .int 0, .ref (v 1), .ref (v 2), .ref (v 3), .ref (v 4), .int 0, .ref (v 5), .ref (v 6), .ref (v 7), .int 0, .int 0, .int 0, .int 0, .int 0, .ref (v 8), .ref (v 9), .ref (v 10), .ref (v 11), .ref (v 12), .ref (v 13)])), ((v 1), .inl (g 0, 29, .inl ft)), ((v 3), .inl (g 0, 33, .inl (upd (upd a 30 40) 31 8))), ((v 6), .inl (g 1, 2, .inl (fun _ => 0)))] rfl (fun H locs hT => ?_)
    refine lv_aload_n hx hb dX8_lays_80 rfl (lv_at hl 1 rfl) ?_
    refine lv_iconst (v := 0) hx hb dX8_lays_81 (by decide +kernel) ?_
    refine z_put C (ci := 8) (N := 21) rfl hin8 tyX8_ok nmX8 hT 0 6 rfl (Nat.le_of_ble_eq_true rfl) (by decide +kernel) (by decide +kernel) rfl rfl rfl dX8_lays_82 [(m0, .inr (8, [.ref (v 0), .int 0, .ref (v 1), .ref (v 2), .ref (v 3), .ref (v 4), .int 0, .ref (v 5), .ref (v 6), .ref (v 7), .int 0, .int 0, .int 0, .int 0, .int 0, .ref (v 8), .ref (v 9), .ref (v 10), .ref (v 11), .ref (v 12), .ref (v 13)])), ((v 1), .inl (g 0, 29, .inl ft)), ((v 3), .inl (g 0, 33, .inl (upd (upd a 30 40) 31 8))), ((v 6), .inl (g 1, 2, .inl (fun _ => 0)))] rfl (fun H locs hT => ?_)
    refine lv_aload_n hx hb dX8_lays_85 rfl (lv_at hl 1 rfl) ?_
    refine lv_iconst (v := 0) hx hb dX8_lays_86 (by decide +kernel) ?_
    refine z_put C (ci := 8) (N := 21) rfl hin8 tyX8_ok nmX8 hT 0 10 rfl (Nat.le_of_ble_eq_true rfl) (by decide +kernel) (by decide +kernel) rfl rfl rfl dX8_lays_87 [(m0, .inr (8, [.ref (v 0), .int 0, .ref (v 1), .ref (v 2), .ref (v 3), .ref (v 4), .int 0, .ref (v 5), .ref (v 6), .ref (v 7), .int 0, .int 0, .int 0, .int 0, .int 0, .ref (v 8), .ref (v 9), .ref (v 10), .ref (v 11), .ref (v 12), .ref (v 13)])), ((v 1), .inl (g 0, 29, .inl ft)), ((v 3), .inl (g 0, 33, .inl (upd (upd a 30 40) 31 8))), ((v 6), .inl (g 1, 2, .inl (fun _ => 0)))] rfl (fun H locs hT => ?_)
    refine lv_aload_n hx hb dX8_lays_90 rfl (lv_at hl 1 rfl) ?_
    refine z_get C (ci := 8) (N := 21) rfl hin8 hT 0 8 rfl rfl (by decide +kernel) (by decide +kernel) dX8_lays_91 ?_
    refine lv_iconst (v := 0) hx hb dX8_lays_94 (by decide +kernel) ?_
    refine lv_iconst (v := 0) hx hb dX8_lays_95 (by decide +kernel) ?_
    refine z_zast C hT 3 1 rfl rfl (vin rfl) dX8_lays_96 (fun _ => 0) (upd_z 0) [(m0, .inr (8, [.ref (v 0), .int 0, .ref (v 1), .ref (v 2), .ref (v 3), .ref (v 4), .int 0, .ref (v 5), .ref (v 6), .ref (v 7), .int 0, .int 0, .int 0, .int 0, .int 0, .ref (v 8), .ref (v 9), .ref (v 10), .ref (v 11), .ref (v 12), .ref (v 13)])), ((v 1), .inl (g 0, 29, .inl ft)), ((v 3), .inl (g 0, 33, .inl (upd (upd a 30 40) 31 8))), ((v 6), .inl (g 1, 2, .inl (fun _ => 0)))] rfl (fun H locs hT => ?_)
    refine lv_aload_n hx hb dX8_lays_97 rfl (lv_at hl 1 rfl) ?_
    refine z_get C (ci := 8) (N := 21) rfl hin8 hT 0 8 rfl rfl (by decide +kernel) (by decide +kernel) dX8_lays_98 ?_
    refine lv_iconst (v := 1) hx hb dX8_lays_101 (by decide +kernel) ?_
    refine lv_iconst (v := 0) hx hb dX8_lays_102 (by decide +kernel) ?_
    refine z_zast C hT 3 1 rfl rfl (vin rfl) dX8_lays_103 (fun _ => 0) (upd_z 1) [(m0, .inr (8, [.ref (v 0), .int 0, .ref (v 1), .ref (v 2), .ref (v 3), .ref (v 4), .int 0, .ref (v 5), .ref (v 6), .ref (v 7), .int 0, .int 0, .int 0, .int 0, .int 0, .ref (v 8), .ref (v 9), .ref (v 10), .ref (v 11), .ref (v 12), .ref (v 13)])), ((v 1), .inl (g 0, 29, .inl ft)), ((v 3), .inl (g 0, 33, .inl (upd (upd a 30 40) 31 8))), ((v 6), .inl (g 1, 2, .inl (fun _ => 0)))] rfl (fun H locs hT => ?_)
    exact z_vret C rfl hT (upd (upd a 30 40) 31 8) (fs0_of hI) [0, 1, 2, 3] rfl rfl (Nat.le_of_ble_eq_true rfl) (Nat.le_of_ble_eq_true rfl) dX8_lays_104

/-- a new model's told cells -/
def modF (ft fs : Nat → Int32) : Prop := (∀ k, k < 29 → ft k = fr k) ∧ ∀ k, k < 33 → fs k = fs0 k
abbrev modW (g : Nat → ClassId) (m : Nat) (v : Nat → Nat) (ft fd fs : Nat → Int32) : va_W := [(m, .inr (8, [.ref (v 0), .int 0, .ref (v 1), .ref (v 2), .ref (v 3), .ref (v 4), .int 0, .ref (v 5), .ref (v 6), .ref (v 7), .int 0, .int 0, .int 0, .int 0, .int 0, .ref (v 8), .ref (v 9), .ref (v 10), .ref (v 11), .ref (v 12), .ref (v 13)])), ((v 0), .inl (g 0, 160, .inl (fun _ => 0))), ((v 1), .inl (g 0, 29, .inl ft)), ((v 2), .inl (g 0, 29, .inl fd)), ((v 3), .inl (g 0, 33, .inl fs)), ((v 4), .inl (g 0, 264, .inl (fun _ => 0))), ((v 5), .inl (g 0, 66, .inl (fun _ => 0))), ((v 6), .inl (g 1, 2, .inl (fun _ => 0))), ((v 7), .inl (g 0, 6, .inl (fun _ => 0))), ((v 11), .inl (g 0, 100, .inl (fun _ => 0))), ((v 12), .inl (g 0, 10, .inl (fun _ => 0)))]
set_option maxHeartbeats 4000000 in
set_option maxRecDepth 100000 in
/-- CowardsPotModel() -/
theorem c_M_init (l : Launch) (D : va_G) (g : Nat → ClassId) (m0 : Nat) : CtV l yX8_init wsX8_init { frames := 2, cells := 14, slots := 744, locals := 60 } D (TY g) [.ref m0] (fun _ => True) [(m0, .inr (8, [.null, .int 0, .null, .null, .null, .null, .int 0, .null, .null, .null, .int 0, .int 0, .int 0, .int 0, .int 0, .null, .null, .null, .null, .null, .null]))] (fun z : (Nat → Nat) × (Nat → Int32) × (Nat → Int32) × (Nat → Int32) => modF z.2.1 z.2.2.2) (fun z : (Nat → Nat) × (Nat → Int32) × (Nat → Int32) × (Nat → Int32) => modW g m0 z.1 z.2.1 z.2.2.1 z.2.2.2) := by
  refine CtV.intro (cc := cX8_init) (maxL := 2) (ret := none) rfl (by decide +kernel) (Nat.le_of_ble_eq_true rfl) ?_
  intro p e s m below meth c A ls C hmn hX hAe hT hl
  have hx := C.1.1
  have hb := C.1.2.1
  have hl : lv_has ls 2 [(0, .ref m0)] := hl
  have hin8 : ∀ w ∈ u_ws RX8 TX8 21, w ∈ wsX8_init := by decide +kernel
  refine lv_aload_n hx hb dX8_init_0 rfl (lv_at hl 0 rfl) ?_
  refine z_objInit C (by decide +kernel) (by decide +kernel) (by decide +kernel) hl.1 dX8_init_1 (Nat.le_of_ble_eq_true rfl) (Nat.le_of_ble_eq_true rfl) ?_
  refine lv_aload_n hx hb dX8_init_4 rfl (lv_at hl 0 rfl) ?_
  refine lv_sipush (v := 160) hx hb dX8_init_5 (by decide +kernel) ?_
  refine z_new0 C hT 0 160 (by decide +kernel) rfl (by decide +kernel) (by decide +kernel) (by decide +kernel) (Nat.le_of_ble_eq_true rfl) (Nat.le_of_ble_eq_true rfl) dX8_init_8 (fun q_1 H hT => ?_)
  have hT : Sit D (TY g) A s [(m0, .inr (8, [.null, .int 0, .null, .null, .null, .null, .int 0, .null, .null, .null, .int 0, .int 0, .int 0, .int 0, .int 0, .null, .null, .null, .null, .null, .null])), (q_1, .inl (g 0, 160, .inl (fun _ => 0)))] H _ := hT
  refine z_putF C (ci := 8) (N := 21) rfl hin8 tyX8_ok nmX8 hT 0 0 rfl (Nat.le_of_ble_eq_true rfl) (by decide +kernel) (by decide +kernel) rfl hmn rfl rfl rfl dX8_init_10 [(m0, .inr (8, [.ref q_1, .int 0, .null, .null, .null, .null, .int 0, .null, .null, .null, .int 0, .int 0, .int 0, .int 0, .int 0, .null, .null, .null, .null, .null, .null])), (q_1, .inl (g 0, 160, .inl (fun _ => 0)))] rfl (fun H locs hT => ?_)
  refine lv_aload_n hx hb dX8_init_13 rfl (lv_at hl 0 rfl) ?_
  refine lv_bipush (v := 29) hx hb dX8_init_14 (by decide +kernel) ?_
  refine z_new0 C hT 0 29 (by decide +kernel) rfl (by decide +kernel) (by decide +kernel) (by decide +kernel) (Nat.le_of_ble_eq_true rfl) (Nat.le_of_ble_eq_true rfl) dX8_init_16 (fun q_2 H hT => ?_)
  have hT : Sit D (TY g) A s [(m0, .inr (8, [.ref q_1, .int 0, .null, .null, .null, .null, .int 0, .null, .null, .null, .int 0, .int 0, .int 0, .int 0, .int 0, .null, .null, .null, .null, .null, .null])), (q_1, .inl (g 0, 160, .inl (fun _ => 0))), (q_2, .inl (g 0, 29, .inl (fun _ => 0)))] H _ := hT
  refine z_putF C (ci := 8) (N := 21) rfl hin8 tyX8_ok nmX8 hT 0 2 rfl (Nat.le_of_ble_eq_true rfl) (by decide +kernel) (by decide +kernel) rfl hmn rfl rfl rfl dX8_init_18 [(m0, .inr (8, [.ref q_1, .int 0, .ref q_2, .null, .null, .null, .int 0, .null, .null, .null, .int 0, .int 0, .int 0, .int 0, .int 0, .null, .null, .null, .null, .null, .null])), (q_1, .inl (g 0, 160, .inl (fun _ => 0))), (q_2, .inl (g 0, 29, .inl (fun _ => 0)))] rfl (fun H locs hT => ?_)
  refine lv_aload_n hx hb dX8_init_21 rfl (lv_at hl 0 rfl) ?_
  refine lv_bipush (v := 29) hx hb dX8_init_22 (by decide +kernel) ?_
  refine z_new0 C hT 0 29 (by decide +kernel) rfl (by decide +kernel) (by decide +kernel) (by decide +kernel) (Nat.le_of_ble_eq_true rfl) (Nat.le_of_ble_eq_true rfl) dX8_init_24 (fun q_3 H hT => ?_)
  have hT : Sit D (TY g) A s [(m0, .inr (8, [.ref q_1, .int 0, .ref q_2, .null, .null, .null, .int 0, .null, .null, .null, .int 0, .int 0, .int 0, .int 0, .int 0, .null, .null, .null, .null, .null, .null])), (q_1, .inl (g 0, 160, .inl (fun _ => 0))), (q_2, .inl (g 0, 29, .inl (fun _ => 0))), (q_3, .inl (g 0, 29, .inl (fun _ => 0)))] H _ := hT
  refine z_putF C (ci := 8) (N := 21) rfl hin8 tyX8_ok nmX8 hT 0 3 rfl (Nat.le_of_ble_eq_true rfl) (by decide +kernel) (by decide +kernel) rfl hmn rfl rfl rfl dX8_init_26 [(m0, .inr (8, [.ref q_1, .int 0, .ref q_2, .ref q_3, .null, .null, .int 0, .null, .null, .null, .int 0, .int 0, .int 0, .int 0, .int 0, .null, .null, .null, .null, .null, .null])), (q_1, .inl (g 0, 160, .inl (fun _ => 0))), (q_2, .inl (g 0, 29, .inl (fun _ => 0))), (q_3, .inl (g 0, 29, .inl (fun _ => 0)))] rfl (fun H locs hT => ?_)
  refine lv_aload_n hx hb dX8_init_29 rfl (lv_at hl 0 rfl) ?_
  refine lv_bipush (v := 33) hx hb dX8_init_30 (by decide +kernel) ?_
  refine z_new0 C hT 0 33 (by decide +kernel) rfl (by decide +kernel) (by decide +kernel) (by decide +kernel) (Nat.le_of_ble_eq_true rfl) (Nat.le_of_ble_eq_true rfl) dX8_init_32 (fun q_4 H hT => ?_)
  have hT : Sit D (TY g) A s [(m0, .inr (8, [.ref q_1, .int 0, .ref q_2, .ref q_3, .null, .null, .int 0, .null, .null, .null, .int 0, .int 0, .int 0, .int 0, .int 0, .null, .null, .null, .null, .null, .null])), (q_1, .inl (g 0, 160, .inl (fun _ => 0))), (q_2, .inl (g 0, 29, .inl (fun _ => 0))), (q_3, .inl (g 0, 29, .inl (fun _ => 0))), (q_4, .inl (g 0, 33, .inl (fun _ => 0)))] H _ := hT
  refine z_putF C (ci := 8) (N := 21) rfl hin8 tyX8_ok nmX8 hT 0 4 rfl (Nat.le_of_ble_eq_true rfl) (by decide +kernel) (by decide +kernel) rfl hmn rfl rfl rfl dX8_init_34 [(m0, .inr (8, [.ref q_1, .int 0, .ref q_2, .ref q_3, .ref q_4, .null, .int 0, .null, .null, .null, .int 0, .int 0, .int 0, .int 0, .int 0, .null, .null, .null, .null, .null, .null])), (q_1, .inl (g 0, 160, .inl (fun _ => 0))), (q_2, .inl (g 0, 29, .inl (fun _ => 0))), (q_3, .inl (g 0, 29, .inl (fun _ => 0))), (q_4, .inl (g 0, 33, .inl (fun _ => 0)))] rfl (fun H locs hT => ?_)
  refine lv_aload_n hx hb dX8_init_37 rfl (lv_at hl 0 rfl) ?_
  refine lv_sipush (v := 264) hx hb dX8_init_38 (by decide +kernel) ?_
  refine z_new0 C hT 0 264 (by decide +kernel) rfl (by decide +kernel) (by decide +kernel) (by decide +kernel) (Nat.le_of_ble_eq_true rfl) (Nat.le_of_ble_eq_true rfl) dX8_init_41 (fun q_5 H hT => ?_)
  have hT : Sit D (TY g) A s [(m0, .inr (8, [.ref q_1, .int 0, .ref q_2, .ref q_3, .ref q_4, .null, .int 0, .null, .null, .null, .int 0, .int 0, .int 0, .int 0, .int 0, .null, .null, .null, .null, .null, .null])), (q_1, .inl (g 0, 160, .inl (fun _ => 0))), (q_2, .inl (g 0, 29, .inl (fun _ => 0))), (q_3, .inl (g 0, 29, .inl (fun _ => 0))), (q_4, .inl (g 0, 33, .inl (fun _ => 0))), (q_5, .inl (g 0, 264, .inl (fun _ => 0)))] H _ := hT
  refine z_putF C (ci := 8) (N := 21) rfl hin8 tyX8_ok nmX8 hT 0 5 rfl (Nat.le_of_ble_eq_true rfl) (by decide +kernel) (by decide +kernel) rfl hmn rfl rfl rfl dX8_init_43 [(m0, .inr (8, [.ref q_1, .int 0, .ref q_2, .ref q_3, .ref q_4, .ref q_5, .int 0, .null, .null, .null, .int 0, .int 0, .int 0, .int 0, .int 0, .null, .null, .null, .null, .null, .null])), (q_1, .inl (g 0, 160, .inl (fun _ => 0))), (q_2, .inl (g 0, 29, .inl (fun _ => 0))), (q_3, .inl (g 0, 29, .inl (fun _ => 0))), (q_4, .inl (g 0, 33, .inl (fun _ => 0))), (q_5, .inl (g 0, 264, .inl (fun _ => 0)))] rfl (fun H locs hT => ?_)
  refine lv_aload_n hx hb dX8_init_46 rfl (lv_at hl 0 rfl) ?_
  refine lv_bipush (v := 66) hx hb dX8_init_47 (by decide +kernel) ?_
  refine z_new0 C hT 0 66 (by decide +kernel) rfl (by decide +kernel) (by decide +kernel) (by decide +kernel) (Nat.le_of_ble_eq_true rfl) (Nat.le_of_ble_eq_true rfl) dX8_init_49 (fun q_6 H hT => ?_)
  have hT : Sit D (TY g) A s [(m0, .inr (8, [.ref q_1, .int 0, .ref q_2, .ref q_3, .ref q_4, .ref q_5, .int 0, .null, .null, .null, .int 0, .int 0, .int 0, .int 0, .int 0, .null, .null, .null, .null, .null, .null])), (q_1, .inl (g 0, 160, .inl (fun _ => 0))), (q_2, .inl (g 0, 29, .inl (fun _ => 0))), (q_3, .inl (g 0, 29, .inl (fun _ => 0))), (q_4, .inl (g 0, 33, .inl (fun _ => 0))), (q_5, .inl (g 0, 264, .inl (fun _ => 0))), (q_6, .inl (g 0, 66, .inl (fun _ => 0)))] H _ := hT
  refine z_putF C (ci := 8) (N := 21) rfl hin8 tyX8_ok nmX8 hT 0 7 rfl (Nat.le_of_ble_eq_true rfl) (by decide +kernel) (by decide +kernel) rfl hmn rfl rfl rfl dX8_init_51 [(m0, .inr (8, [.ref q_1, .int 0, .ref q_2, .ref q_3, .ref q_4, .ref q_5, .int 0, .ref q_6, .null, .null, .int 0, .int 0, .int 0, .int 0, .int 0, .null, .null, .null, .null, .null, .null])), (q_1, .inl (g 0, 160, .inl (fun _ => 0))), (q_2, .inl (g 0, 29, .inl (fun _ => 0))), (q_3, .inl (g 0, 29, .inl (fun _ => 0))), (q_4, .inl (g 0, 33, .inl (fun _ => 0))), (q_5, .inl (g 0, 264, .inl (fun _ => 0))), (q_6, .inl (g 0, 66, .inl (fun _ => 0)))] rfl (fun H locs hT => ?_)
  refine lv_aload_n hx hb dX8_init_54 rfl (lv_at hl 0 rfl) ?_
  refine lv_iconst (v := 2) hx hb dX8_init_55 (by decide +kernel) ?_
  refine z_new1 C hT 1 2 (by decide +kernel) rfl (by decide +kernel) (by decide +kernel) (by decide +kernel) (Nat.le_of_ble_eq_true rfl) (Nat.le_of_ble_eq_true rfl) dX8_init_56 (fun q_7 H hT => ?_)
  have hT : Sit D (TY g) A s [(m0, .inr (8, [.ref q_1, .int 0, .ref q_2, .ref q_3, .ref q_4, .ref q_5, .int 0, .ref q_6, .null, .null, .int 0, .int 0, .int 0, .int 0, .int 0, .null, .null, .null, .null, .null, .null])), (q_1, .inl (g 0, 160, .inl (fun _ => 0))), (q_2, .inl (g 0, 29, .inl (fun _ => 0))), (q_3, .inl (g 0, 29, .inl (fun _ => 0))), (q_4, .inl (g 0, 33, .inl (fun _ => 0))), (q_5, .inl (g 0, 264, .inl (fun _ => 0))), (q_6, .inl (g 0, 66, .inl (fun _ => 0))), (q_7, .inl (g 1, 2, .inl (fun _ => 0)))] H _ := hT
  refine z_putF C (ci := 8) (N := 21) rfl hin8 tyX8_ok nmX8 hT 0 8 rfl (Nat.le_of_ble_eq_true rfl) (by decide +kernel) (by decide +kernel) rfl hmn rfl rfl rfl dX8_init_58 [(m0, .inr (8, [.ref q_1, .int 0, .ref q_2, .ref q_3, .ref q_4, .ref q_5, .int 0, .ref q_6, .ref q_7, .null, .int 0, .int 0, .int 0, .int 0, .int 0, .null, .null, .null, .null, .null, .null])), (q_1, .inl (g 0, 160, .inl (fun _ => 0))), (q_2, .inl (g 0, 29, .inl (fun _ => 0))), (q_3, .inl (g 0, 29, .inl (fun _ => 0))), (q_4, .inl (g 0, 33, .inl (fun _ => 0))), (q_5, .inl (g 0, 264, .inl (fun _ => 0))), (q_6, .inl (g 0, 66, .inl (fun _ => 0))), (q_7, .inl (g 1, 2, .inl (fun _ => 0)))] rfl (fun H locs hT => ?_)
  refine lv_aload_n hx hb dX8_init_61 rfl (lv_at hl 0 rfl) ?_
  refine lv_bipush (v := 6) hx hb dX8_init_62 (by decide +kernel) ?_
  refine z_new0 C hT 0 6 (by decide +kernel) rfl (by decide +kernel) (by decide +kernel) (by decide +kernel) (Nat.le_of_ble_eq_true rfl) (Nat.le_of_ble_eq_true rfl) dX8_init_64 (fun q_8 H hT => ?_)
  have hT : Sit D (TY g) A s [(m0, .inr (8, [.ref q_1, .int 0, .ref q_2, .ref q_3, .ref q_4, .ref q_5, .int 0, .ref q_6, .ref q_7, .null, .int 0, .int 0, .int 0, .int 0, .int 0, .null, .null, .null, .null, .null, .null])), (q_1, .inl (g 0, 160, .inl (fun _ => 0))), (q_2, .inl (g 0, 29, .inl (fun _ => 0))), (q_3, .inl (g 0, 29, .inl (fun _ => 0))), (q_4, .inl (g 0, 33, .inl (fun _ => 0))), (q_5, .inl (g 0, 264, .inl (fun _ => 0))), (q_6, .inl (g 0, 66, .inl (fun _ => 0))), (q_7, .inl (g 1, 2, .inl (fun _ => 0))), (q_8, .inl (g 0, 6, .inl (fun _ => 0)))] H _ := hT
  refine z_putF C (ci := 8) (N := 21) rfl hin8 tyX8_ok nmX8 hT 0 9 rfl (Nat.le_of_ble_eq_true rfl) (by decide +kernel) (by decide +kernel) rfl hmn rfl rfl rfl dX8_init_66 [(m0, .inr (8, [.ref q_1, .int 0, .ref q_2, .ref q_3, .ref q_4, .ref q_5, .int 0, .ref q_6, .ref q_7, .ref q_8, .int 0, .int 0, .int 0, .int 0, .int 0, .null, .null, .null, .null, .null, .null])), (q_1, .inl (g 0, 160, .inl (fun _ => 0))), (q_2, .inl (g 0, 29, .inl (fun _ => 0))), (q_3, .inl (g 0, 29, .inl (fun _ => 0))), (q_4, .inl (g 0, 33, .inl (fun _ => 0))), (q_5, .inl (g 0, 264, .inl (fun _ => 0))), (q_6, .inl (g 0, 66, .inl (fun _ => 0))), (q_7, .inl (g 1, 2, .inl (fun _ => 0))), (q_8, .inl (g 0, 6, .inl (fun _ => 0)))] rfl (fun H locs hT => ?_)
  refine lv_aload_n hx hb dX8_init_69 rfl (lv_at hl 0 rfl) ?_
  refine lv_bipush (v := 6) hx hb dX8_init_70 (by decide +kernel) ?_
  refine z_new0 C hT 0 6 (by decide +kernel) rfl (by decide +kernel) (by decide +kernel) (by decide +kernel) (Nat.le_of_ble_eq_true rfl) (Nat.le_of_ble_eq_true rfl) dX8_init_72 (fun q_9 H hT => ?_)
  have hT : Sit D (TY g) A s [(m0, .inr (8, [.ref q_1, .int 0, .ref q_2, .ref q_3, .ref q_4, .ref q_5, .int 0, .ref q_6, .ref q_7, .ref q_8, .int 0, .int 0, .int 0, .int 0, .int 0, .null, .null, .null, .null, .null, .null])), (q_1, .inl (g 0, 160, .inl (fun _ => 0))), (q_2, .inl (g 0, 29, .inl (fun _ => 0))), (q_3, .inl (g 0, 29, .inl (fun _ => 0))), (q_4, .inl (g 0, 33, .inl (fun _ => 0))), (q_5, .inl (g 0, 264, .inl (fun _ => 0))), (q_6, .inl (g 0, 66, .inl (fun _ => 0))), (q_7, .inl (g 1, 2, .inl (fun _ => 0))), (q_8, .inl (g 0, 6, .inl (fun _ => 0))), (q_9, .inl (g 0, 6, .inl (fun _ => 0)))] H _ := hT
  refine z_putF C (ci := 8) (N := 21) rfl hin8 tyX8_ok nmX8 hT 0 15 rfl (Nat.le_of_ble_eq_true rfl) (by decide +kernel) (by decide +kernel) rfl hmn rfl rfl rfl dX8_init_74 [(m0, .inr (8, [.ref q_1, .int 0, .ref q_2, .ref q_3, .ref q_4, .ref q_5, .int 0, .ref q_6, .ref q_7, .ref q_8, .int 0, .int 0, .int 0, .int 0, .int 0, .ref q_9, .null, .null, .null, .null, .null])), (q_1, .inl (g 0, 160, .inl (fun _ => 0))), (q_2, .inl (g 0, 29, .inl (fun _ => 0))), (q_3, .inl (g 0, 29, .inl (fun _ => 0))), (q_4, .inl (g 0, 33, .inl (fun _ => 0))), (q_5, .inl (g 0, 264, .inl (fun _ => 0))), (q_6, .inl (g 0, 66, .inl (fun _ => 0))), (q_7, .inl (g 1, 2, .inl (fun _ => 0))), (q_8, .inl (g 0, 6, .inl (fun _ => 0))), (q_9, .inl (g 0, 6, .inl (fun _ => 0)))] rfl (fun H locs hT => ?_)
  refine lv_aload_n hx hb dX8_init_77 rfl (lv_at hl 0 rfl) ?_
  refine lv_iconst (v := 3) hx hb dX8_init_78 (by decide +kernel) ?_
  refine z_new0 C hT 0 3 (by decide +kernel) rfl (by decide +kernel) (by decide +kernel) (by decide +kernel) (Nat.le_of_ble_eq_true rfl) (Nat.le_of_ble_eq_true rfl) dX8_init_79 (fun q_10 H hT => ?_)
  have hT : Sit D (TY g) A s [(m0, .inr (8, [.ref q_1, .int 0, .ref q_2, .ref q_3, .ref q_4, .ref q_5, .int 0, .ref q_6, .ref q_7, .ref q_8, .int 0, .int 0, .int 0, .int 0, .int 0, .ref q_9, .null, .null, .null, .null, .null])), (q_1, .inl (g 0, 160, .inl (fun _ => 0))), (q_2, .inl (g 0, 29, .inl (fun _ => 0))), (q_3, .inl (g 0, 29, .inl (fun _ => 0))), (q_4, .inl (g 0, 33, .inl (fun _ => 0))), (q_5, .inl (g 0, 264, .inl (fun _ => 0))), (q_6, .inl (g 0, 66, .inl (fun _ => 0))), (q_7, .inl (g 1, 2, .inl (fun _ => 0))), (q_8, .inl (g 0, 6, .inl (fun _ => 0))), (q_9, .inl (g 0, 6, .inl (fun _ => 0))), (q_10, .inl (g 0, 3, .inl (fun _ => 0)))] H _ := hT
  refine z_putF C (ci := 8) (N := 21) rfl hin8 tyX8_ok nmX8 hT 0 16 rfl (Nat.le_of_ble_eq_true rfl) (by decide +kernel) (by decide +kernel) rfl hmn rfl rfl rfl dX8_init_81 [(m0, .inr (8, [.ref q_1, .int 0, .ref q_2, .ref q_3, .ref q_4, .ref q_5, .int 0, .ref q_6, .ref q_7, .ref q_8, .int 0, .int 0, .int 0, .int 0, .int 0, .ref q_9, .ref q_10, .null, .null, .null, .null])), (q_1, .inl (g 0, 160, .inl (fun _ => 0))), (q_2, .inl (g 0, 29, .inl (fun _ => 0))), (q_3, .inl (g 0, 29, .inl (fun _ => 0))), (q_4, .inl (g 0, 33, .inl (fun _ => 0))), (q_5, .inl (g 0, 264, .inl (fun _ => 0))), (q_6, .inl (g 0, 66, .inl (fun _ => 0))), (q_7, .inl (g 1, 2, .inl (fun _ => 0))), (q_8, .inl (g 0, 6, .inl (fun _ => 0))), (q_9, .inl (g 0, 6, .inl (fun _ => 0))), (q_10, .inl (g 0, 3, .inl (fun _ => 0)))] rfl (fun H locs hT => ?_)
  refine lv_aload_n hx hb dX8_init_84 rfl (lv_at hl 0 rfl) ?_
  refine lv_iconst (v := 3) hx hb dX8_init_85 (by decide +kernel) ?_
  refine z_new0 C hT 0 3 (by decide +kernel) rfl (by decide +kernel) (by decide +kernel) (by decide +kernel) (Nat.le_of_ble_eq_true rfl) (Nat.le_of_ble_eq_true rfl) dX8_init_86 (fun q_11 H hT => ?_)
  have hT : Sit D (TY g) A s [(m0, .inr (8, [.ref q_1, .int 0, .ref q_2, .ref q_3, .ref q_4, .ref q_5, .int 0, .ref q_6, .ref q_7, .ref q_8, .int 0, .int 0, .int 0, .int 0, .int 0, .ref q_9, .ref q_10, .null, .null, .null, .null])), (q_1, .inl (g 0, 160, .inl (fun _ => 0))), (q_2, .inl (g 0, 29, .inl (fun _ => 0))), (q_3, .inl (g 0, 29, .inl (fun _ => 0))), (q_4, .inl (g 0, 33, .inl (fun _ => 0))), (q_5, .inl (g 0, 264, .inl (fun _ => 0))), (q_6, .inl (g 0, 66, .inl (fun _ => 0))), (q_7, .inl (g 1, 2, .inl (fun _ => 0))), (q_8, .inl (g 0, 6, .inl (fun _ => 0))), (q_9, .inl (g 0, 6, .inl (fun _ => 0))), (q_10, .inl (g 0, 3, .inl (fun _ => 0))), (q_11, .inl (g 0, 3, .inl (fun _ => 0)))] H _ := hT
  refine z_putF C (ci := 8) (N := 21) rfl hin8 tyX8_ok nmX8 hT 0 17 rfl (Nat.le_of_ble_eq_true rfl) (by decide +kernel) (by decide +kernel) rfl hmn rfl rfl rfl dX8_init_88 [(m0, .inr (8, [.ref q_1, .int 0, .ref q_2, .ref q_3, .ref q_4, .ref q_5, .int 0, .ref q_6, .ref q_7, .ref q_8, .int 0, .int 0, .int 0, .int 0, .int 0, .ref q_9, .ref q_10, .ref q_11, .null, .null, .null])), (q_1, .inl (g 0, 160, .inl (fun _ => 0))), (q_2, .inl (g 0, 29, .inl (fun _ => 0))), (q_3, .inl (g 0, 29, .inl (fun _ => 0))), (q_4, .inl (g 0, 33, .inl (fun _ => 0))), (q_5, .inl (g 0, 264, .inl (fun _ => 0))), (q_6, .inl (g 0, 66, .inl (fun _ => 0))), (q_7, .inl (g 1, 2, .inl (fun _ => 0))), (q_8, .inl (g 0, 6, .inl (fun _ => 0))), (q_9, .inl (g 0, 6, .inl (fun _ => 0))), (q_10, .inl (g 0, 3, .inl (fun _ => 0))), (q_11, .inl (g 0, 3, .inl (fun _ => 0)))] rfl (fun H locs hT => ?_)
  refine lv_aload_n hx hb dX8_init_91 rfl (lv_at hl 0 rfl) ?_
  refine lv_bipush (v := 100) hx hb dX8_init_92 (by decide +kernel) ?_
  refine z_new0 C hT 0 100 (by decide +kernel) rfl (by decide +kernel) (by decide +kernel) (by decide +kernel) (Nat.le_of_ble_eq_true rfl) (Nat.le_of_ble_eq_true rfl) dX8_init_94 (fun q_12 H hT => ?_)
  have hT : Sit D (TY g) A s [(m0, .inr (8, [.ref q_1, .int 0, .ref q_2, .ref q_3, .ref q_4, .ref q_5, .int 0, .ref q_6, .ref q_7, .ref q_8, .int 0, .int 0, .int 0, .int 0, .int 0, .ref q_9, .ref q_10, .ref q_11, .null, .null, .null])), (q_1, .inl (g 0, 160, .inl (fun _ => 0))), (q_2, .inl (g 0, 29, .inl (fun _ => 0))), (q_3, .inl (g 0, 29, .inl (fun _ => 0))), (q_4, .inl (g 0, 33, .inl (fun _ => 0))), (q_5, .inl (g 0, 264, .inl (fun _ => 0))), (q_6, .inl (g 0, 66, .inl (fun _ => 0))), (q_7, .inl (g 1, 2, .inl (fun _ => 0))), (q_8, .inl (g 0, 6, .inl (fun _ => 0))), (q_9, .inl (g 0, 6, .inl (fun _ => 0))), (q_10, .inl (g 0, 3, .inl (fun _ => 0))), (q_11, .inl (g 0, 3, .inl (fun _ => 0))), (q_12, .inl (g 0, 100, .inl (fun _ => 0)))] H _ := hT
  refine z_putF C (ci := 8) (N := 21) rfl hin8 tyX8_ok nmX8 hT 0 18 rfl (Nat.le_of_ble_eq_true rfl) (by decide +kernel) (by decide +kernel) rfl hmn rfl rfl rfl dX8_init_96 [(m0, .inr (8, [.ref q_1, .int 0, .ref q_2, .ref q_3, .ref q_4, .ref q_5, .int 0, .ref q_6, .ref q_7, .ref q_8, .int 0, .int 0, .int 0, .int 0, .int 0, .ref q_9, .ref q_10, .ref q_11, .ref q_12, .null, .null])), (q_1, .inl (g 0, 160, .inl (fun _ => 0))), (q_2, .inl (g 0, 29, .inl (fun _ => 0))), (q_3, .inl (g 0, 29, .inl (fun _ => 0))), (q_4, .inl (g 0, 33, .inl (fun _ => 0))), (q_5, .inl (g 0, 264, .inl (fun _ => 0))), (q_6, .inl (g 0, 66, .inl (fun _ => 0))), (q_7, .inl (g 1, 2, .inl (fun _ => 0))), (q_8, .inl (g 0, 6, .inl (fun _ => 0))), (q_9, .inl (g 0, 6, .inl (fun _ => 0))), (q_10, .inl (g 0, 3, .inl (fun _ => 0))), (q_11, .inl (g 0, 3, .inl (fun _ => 0))), (q_12, .inl (g 0, 100, .inl (fun _ => 0)))] rfl (fun H locs hT => ?_)
  refine lv_aload_n hx hb dX8_init_99 rfl (lv_at hl 0 rfl) ?_
  refine lv_bipush (v := 10) hx hb dX8_init_100 (by decide +kernel) ?_
  refine z_new0 C hT 0 10 (by decide +kernel) rfl (by decide +kernel) (by decide +kernel) (by decide +kernel) (Nat.le_of_ble_eq_true rfl) (Nat.le_of_ble_eq_true rfl) dX8_init_102 (fun q_13 H hT => ?_)
  have hT : Sit D (TY g) A s [(m0, .inr (8, [.ref q_1, .int 0, .ref q_2, .ref q_3, .ref q_4, .ref q_5, .int 0, .ref q_6, .ref q_7, .ref q_8, .int 0, .int 0, .int 0, .int 0, .int 0, .ref q_9, .ref q_10, .ref q_11, .ref q_12, .null, .null])), (q_1, .inl (g 0, 160, .inl (fun _ => 0))), (q_2, .inl (g 0, 29, .inl (fun _ => 0))), (q_3, .inl (g 0, 29, .inl (fun _ => 0))), (q_4, .inl (g 0, 33, .inl (fun _ => 0))), (q_5, .inl (g 0, 264, .inl (fun _ => 0))), (q_6, .inl (g 0, 66, .inl (fun _ => 0))), (q_7, .inl (g 1, 2, .inl (fun _ => 0))), (q_8, .inl (g 0, 6, .inl (fun _ => 0))), (q_9, .inl (g 0, 6, .inl (fun _ => 0))), (q_10, .inl (g 0, 3, .inl (fun _ => 0))), (q_11, .inl (g 0, 3, .inl (fun _ => 0))), (q_12, .inl (g 0, 100, .inl (fun _ => 0))), (q_13, .inl (g 0, 10, .inl (fun _ => 0)))] H _ := hT
  refine z_putF C (ci := 8) (N := 21) rfl hin8 tyX8_ok nmX8 hT 0 19 rfl (Nat.le_of_ble_eq_true rfl) (by decide +kernel) (by decide +kernel) rfl hmn rfl rfl rfl dX8_init_104 [(m0, .inr (8, [.ref q_1, .int 0, .ref q_2, .ref q_3, .ref q_4, .ref q_5, .int 0, .ref q_6, .ref q_7, .ref q_8, .int 0, .int 0, .int 0, .int 0, .int 0, .ref q_9, .ref q_10, .ref q_11, .ref q_12, .ref q_13, .null])), (q_1, .inl (g 0, 160, .inl (fun _ => 0))), (q_2, .inl (g 0, 29, .inl (fun _ => 0))), (q_3, .inl (g 0, 29, .inl (fun _ => 0))), (q_4, .inl (g 0, 33, .inl (fun _ => 0))), (q_5, .inl (g 0, 264, .inl (fun _ => 0))), (q_6, .inl (g 0, 66, .inl (fun _ => 0))), (q_7, .inl (g 1, 2, .inl (fun _ => 0))), (q_8, .inl (g 0, 6, .inl (fun _ => 0))), (q_9, .inl (g 0, 6, .inl (fun _ => 0))), (q_10, .inl (g 0, 3, .inl (fun _ => 0))), (q_11, .inl (g 0, 3, .inl (fun _ => 0))), (q_12, .inl (g 0, 100, .inl (fun _ => 0))), (q_13, .inl (g 0, 10, .inl (fun _ => 0)))] rfl (fun H locs hT => ?_)
  refine lv_aload_n hx hb dX8_init_107 rfl (lv_at hl 0 rfl) ?_
  refine lv_bipush (v := 33) hx hb dX8_init_108 (by decide +kernel) ?_
  refine z_new0 C hT 0 33 (by decide +kernel) rfl (by decide +kernel) (by decide +kernel) (by decide +kernel) (Nat.le_of_ble_eq_true rfl) (Nat.le_of_ble_eq_true rfl) dX8_init_110 (fun q_14 H hT => ?_)
  have hT : Sit D (TY g) A s [(m0, .inr (8, [.ref q_1, .int 0, .ref q_2, .ref q_3, .ref q_4, .ref q_5, .int 0, .ref q_6, .ref q_7, .ref q_8, .int 0, .int 0, .int 0, .int 0, .int 0, .ref q_9, .ref q_10, .ref q_11, .ref q_12, .ref q_13, .null])), (q_1, .inl (g 0, 160, .inl (fun _ => 0))), (q_2, .inl (g 0, 29, .inl (fun _ => 0))), (q_3, .inl (g 0, 29, .inl (fun _ => 0))), (q_4, .inl (g 0, 33, .inl (fun _ => 0))), (q_5, .inl (g 0, 264, .inl (fun _ => 0))), (q_6, .inl (g 0, 66, .inl (fun _ => 0))), (q_7, .inl (g 1, 2, .inl (fun _ => 0))), (q_8, .inl (g 0, 6, .inl (fun _ => 0))), (q_9, .inl (g 0, 6, .inl (fun _ => 0))), (q_10, .inl (g 0, 3, .inl (fun _ => 0))), (q_11, .inl (g 0, 3, .inl (fun _ => 0))), (q_12, .inl (g 0, 100, .inl (fun _ => 0))), (q_13, .inl (g 0, 10, .inl (fun _ => 0))), (q_14, .inl (g 0, 33, .inl (fun _ => 0)))] H _ := hT
  refine z_putF C (ci := 8) (N := 21) rfl hin8 tyX8_ok nmX8 hT 0 20 rfl (Nat.le_of_ble_eq_true rfl) (by decide +kernel) (by decide +kernel) rfl hmn rfl rfl rfl dX8_init_112 [(m0, .inr (8, [.ref q_1, .int 0, .ref q_2, .ref q_3, .ref q_4, .ref q_5, .int 0, .ref q_6, .ref q_7, .ref q_8, .int 0, .int 0, .int 0, .int 0, .int 0, .ref q_9, .ref q_10, .ref q_11, .ref q_12, .ref q_13, .ref q_14])), (q_1, .inl (g 0, 160, .inl (fun _ => 0))), (q_2, .inl (g 0, 29, .inl (fun _ => 0))), (q_3, .inl (g 0, 29, .inl (fun _ => 0))), (q_4, .inl (g 0, 33, .inl (fun _ => 0))), (q_5, .inl (g 0, 264, .inl (fun _ => 0))), (q_6, .inl (g 0, 66, .inl (fun _ => 0))), (q_7, .inl (g 1, 2, .inl (fun _ => 0))), (q_8, .inl (g 0, 6, .inl (fun _ => 0))), (q_9, .inl (g 0, 6, .inl (fun _ => 0))), (q_10, .inl (g 0, 3, .inl (fun _ => 0))), (q_11, .inl (g 0, 3, .inl (fun _ => 0))), (q_12, .inl (g 0, 100, .inl (fun _ => 0))), (q_13, .inl (g 0, 10, .inl (fun _ => 0))), (q_14, .inl (g 0, 33, .inl (fun _ => 0)))] rfl (fun H locs hT => ?_)
  refine lv_aload_n hx hb dX8_init_115 rfl (lv_at hl 0 rfl) ?_
  refine lv_iconst (v := 5) hx hb dX8_init_116 (by decide +kernel) ?_
  refine z_callVV (wr := [(q_1, .inl (g 0, 160, .inl (fun _ => 0))), (q_2, .inl (g 0, 29, .inl (fun _ => 0))), (q_4, .inl (g 0, 33, .inl (fun _ => 0))), (q_5, .inl (g 0, 264, .inl (fun _ => 0))), (q_6, .inl (g 0, 66, .inl (fun _ => 0))), (q_7, .inl (g 1, 2, .inl (fun _ => 0))), (q_8, .inl (g 0, 6, .inl (fun _ => 0))), (q_9, .inl (g 0, 6, .inl (fun _ => 0))), (q_10, .inl (g 0, 3, .inl (fun _ => 0))), (q_11, .inl (g 0, 3, .inl (fun _ => 0))), (q_12, .inl (g 0, 100, .inl (fun _ => 0))), (q_13, .inl (g 0, 10, .inl (fun _ => 0))), (q_14, .inl (g 0, 33, .inl (fun _ => 0)))]) (n := 1) C (c_M_forgets l D g m0 (fun k => ([q_1, q_2, q_3, q_4, q_5, q_6, q_7, q_8, q_9, q_10, q_11, q_12, q_13, q_14] : List Nat).getD k 0) (fun _ => 0)) gX8_init_X8_forgets rfl (by decide +kernel) ⟨Nat.le_of_ble_eq_true rfl, Nat.le_of_ble_eq_true rfl⟩ ⟨Nat.le_of_ble_eq_true rfl, Nat.le_of_ble_eq_true rfl⟩ blind_T (fun _ _ _ => trivial) hT [0, 3] [1, 2, 4, 5, 6, 7, 8, 9, 10, 11, 12, 13, 14] rfl rfl rfl rfl rfl 0 rfl rfl rfl rfl hl.1 rfl (Nat.le_of_ble_eq_true rfl) dX8_init_117 (fun u_15 H locs hp_16 hT => ?_)
  have hT : Sit D (TY g) A s [(q_1, .inl (g 0, 160, .inl (fun _ => 0))), (q_2, .inl (g 0, 29, .inl (fun _ => 0))), (q_4, .inl (g 0, 33, .inl (fun _ => 0))), (q_5, .inl (g 0, 264, .inl (fun _ => 0))), (q_6, .inl (g 0, 66, .inl (fun _ => 0))), (q_7, .inl (g 1, 2, .inl (fun _ => 0))), (q_8, .inl (g 0, 6, .inl (fun _ => 0))), (q_9, .inl (g 0, 6, .inl (fun _ => 0))), (q_10, .inl (g 0, 3, .inl (fun _ => 0))), (q_11, .inl (g 0, 3, .inl (fun _ => 0))), (q_12, .inl (g 0, 100, .inl (fun _ => 0))), (q_13, .inl (g 0, 10, .inl (fun _ => 0))), (q_14, .inl (g 0, 33, .inl (fun _ => 0))), (m0, .inr (8, [.ref q_1, .int 0, .ref q_2, .ref q_3, .ref q_4, .ref q_5, .int 0, .ref q_6, .ref q_7, .ref q_8, .int 0, .int 0, .int 0, .int 0, .int 0, .ref q_9, .ref q_10, .ref q_11, .ref q_12, .ref q_13, .ref q_14])), (q_3, .inl (g 0, 29, .inl u_15))] H _ := hT
  refine lv_iconst (v := 0) hx hb dX8_init_120 (by decide +kernel) ?_
  refine lv_istore_n (lv' := [(1, .int 0), (0, .ref m0)]) hx hb dX8_init_121 rfl hl (by decide +kernel) rfl (fun ls hl => ?_)
  refine z_loop (α := Nat → Int32) (N := 29) (fun i a => ∀ k, k < i → a k = fr k) (fun i a => [(q_1, .inl (g 0, 160, .inl (fun _ => 0))), (q_2, .inl (g 0, 29, .inl a)), (q_4, .inl (g 0, 33, .inl (fun _ => 0))), (q_5, .inl (g 0, 264, .inl (fun _ => 0))), (q_6, .inl (g 0, 66, .inl (fun _ => 0))), (q_7, .inl (g 1, 2, .inl (fun _ => 0))), (q_8, .inl (g 0, 6, .inl (fun _ => 0))), (q_9, .inl (g 0, 6, .inl (fun _ => 0))), (q_10, .inl (g 0, 3, .inl (fun _ => 0))), (q_11, .inl (g 0, 3, .inl (fun _ => 0))), (q_12, .inl (g 0, 100, .inl (fun _ => 0))), (q_13, .inl (g 0, 10, .inl (fun _ => 0))), (q_14, .inl (g 0, 33, .inl (fun _ => 0))), (m0, .inr (8, [.ref q_1, .int 0, .ref q_2, .ref q_3, .ref q_4, .ref q_5, .int 0, .ref q_6, .ref q_7, .ref q_8, .int 0, .int 0, .int 0, .int 0, .int 0, .ref q_9, .ref q_10, .ref q_11, .ref q_12, .ref q_13, .ref q_14])), (q_3, .inl (g 0, 29, .inl u_15))]) (fun i a => [(1, .int (nI i)), (0, .ref m0)]) ?_ ?_ 0 (fun _ => 0) (Nat.zero_le _) (fun k h => absurd h (Nat.not_lt_zero k)) _ _ _ hT (lv_sub hl [0, 1] rfl)
  · intro i a H locs ls hi hI hT hl ih
    have hT : Sit D (TY g) A s [(q_1, .inl (g 0, 160, .inl (fun _ => 0))), (q_2, .inl (g 0, 29, .inl a)), (q_4, .inl (g 0, 33, .inl (fun _ => 0))), (q_5, .inl (g 0, 264, .inl (fun _ => 0))), (q_6, .inl (g 0, 66, .inl (fun _ => 0))), (q_7, .inl (g 1, 2, .inl (fun _ => 0))), (q_8, .inl (g 0, 6, .inl (fun _ => 0))), (q_9, .inl (g 0, 6, .inl (fun _ => 0))), (q_10, .inl (g 0, 3, .inl (fun _ => 0))), (q_11, .inl (g 0, 3, .inl (fun _ => 0))), (q_12, .inl (g 0, 100, .inl (fun _ => 0))), (q_13, .inl (g 0, 10, .inl (fun _ => 0))), (q_14, .inl (g 0, 33, .inl (fun _ => 0))), (m0, .inr (8, [.ref q_1, .int 0, .ref q_2, .ref q_3, .ref q_4, .ref q_5, .int 0, .ref q_6, .ref q_7, .ref q_8, .int 0, .int 0, .int 0, .int 0, .int 0, .ref q_9, .ref q_10, .ref q_11, .ref q_12, .ref q_13, .ref q_14])), (q_3, .inl (g 0, 29, .inl u_15))] H locs := hT
    have hl : lv_has ls _ [(1, .int (nI i)), (0, .ref m0)] := hl
    refine lv_iload_n hx hb dX8_init_122 rfl (lv_at hl 0 rfl) ?_
    refine lv_bipush (v := 29) hx hb dX8_init_123 (by decide +kernel) ?_
    refine lv_icmp_ge (tgt := 146) hx hb dX8_init_125 (by decide +kernel) (fun c9 => absurd c9 (lp_no (by decide +kernel) hi (by decide +kernel))) (fun _ => ?_)
    refine lv_aload_n hx hb dX8_init_128 rfl (lv_at hl 1 rfl) ?_
    refine z_get C (ci := 8) (N := 21) rfl hin8 hT 13 2 rfl rfl (by decide +kernel) (by decide +kernel) dX8_init_129 ?_
    refine lv_iload_n hx hb dX8_init_132 rfl (lv_at hl 0 rfl) ?_
    refine lv_aload_n hx hb dX8_init_133 rfl (lv_at hl 1 rfl) ?_
    refine z_get C (ci := 8) (N := 21) rfl hin8 hT 13 3 rfl rfl (by decide +kernel) (by decide +kernel) dX8_init_134 ?_
    refine lv_iload_n hx hb dX8_init_137 rfl (lv_at hl 0 rfl) ?_
    refine z_iald C hT 14 0 rfl rfl (vp_in_nI (by omega) (by decide +kernel)) (v := u_15 i) (congrArg _ (nI_clamp (by omega))) dX8_init_138 ?_
    refine z_iast C hT 1 0 rfl rfl (vp_in_nI (by omega) (by decide +kernel)) dX8_init_139 (upd a i (u_15 i)) (by rw [nI_clamp (by omega)]) [(q_1, .inl (g 0, 160, .inl (fun _ => 0))), (q_2, .inl (g 0, 29, .inl (upd a i (u_15 i)))), (q_4, .inl (g 0, 33, .inl (fun _ => 0))), (q_5, .inl (g 0, 264, .inl (fun _ => 0))), (q_6, .inl (g 0, 66, .inl (fun _ => 0))), (q_7, .inl (g 1, 2, .inl (fun _ => 0))), (q_8, .inl (g 0, 6, .inl (fun _ => 0))), (q_9, .inl (g 0, 6, .inl (fun _ => 0))), (q_10, .inl (g 0, 3, .inl (fun _ => 0))), (q_11, .inl (g 0, 3, .inl (fun _ => 0))), (q_12, .inl (g 0, 100, .inl (fun _ => 0))), (q_13, .inl (g 0, 10, .inl (fun _ => 0))), (q_14, .inl (g 0, 33, .inl (fun _ => 0))), (m0, .inr (8, [.ref q_1, .int 0, .ref q_2, .ref q_3, .ref q_4, .ref q_5, .int 0, .ref q_6, .ref q_7, .ref q_8, .int 0, .int 0, .int 0, .int 0, .int 0, .ref q_9, .ref q_10, .ref q_11, .ref q_12, .ref q_13, .ref q_14])), (q_3, .inl (g 0, 29, .inl u_15))] rfl (fun H locs hT => ?_)
    refine lv_iinc (v := nI (i + 1)) (lv' := [(1, .int (nI (i + 1))), (0, .ref m0)]) hx hb dX8_init_140 hl (k := 0) rfl (inc1 _) (by decide +kernel) rfl (fun ls hl => ?_)
    refine lv_goto (tgt := 122) hx hb dX8_init_143 (by decide +kernel) ?_
    exact ih (upd a i (u_15 i)) _ _ _ (upd_lt (F := fr) hI (hp_16 i (by omega))) hT (lv_sub hl [0, 1] rfl)
  · intro a H locs ls hI hT hl
    have hT : Sit D (TY g) A s [(q_1, .inl (g 0, 160, .inl (fun _ => 0))), (q_2, .inl (g 0, 29, .inl a)), (q_4, .inl (g 0, 33, .inl (fun _ => 0))), (q_5, .inl (g 0, 264, .inl (fun _ => 0))), (q_6, .inl (g 0, 66, .inl (fun _ => 0))), (q_7, .inl (g 1, 2, .inl (fun _ => 0))), (q_8, .inl (g 0, 6, .inl (fun _ => 0))), (q_9, .inl (g 0, 6, .inl (fun _ => 0))), (q_10, .inl (g 0, 3, .inl (fun _ => 0))), (q_11, .inl (g 0, 3, .inl (fun _ => 0))), (q_12, .inl (g 0, 100, .inl (fun _ => 0))), (q_13, .inl (g 0, 10, .inl (fun _ => 0))), (q_14, .inl (g 0, 33, .inl (fun _ => 0))), (m0, .inr (8, [.ref q_1, .int 0, .ref q_2, .ref q_3, .ref q_4, .ref q_5, .int 0, .ref q_6, .ref q_7, .ref q_8, .int 0, .int 0, .int 0, .int 0, .int 0, .ref q_9, .ref q_10, .ref q_11, .ref q_12, .ref q_13, .ref q_14])), (q_3, .inl (g 0, 29, .inl u_15))] H locs := hT
    have hl : lv_has ls _ [(1, .int (nI 29)), (0, .ref m0)] := hl
    refine lv_iload_n hx hb dX8_init_122 rfl (lv_at hl 0 rfl) ?_
    refine lv_bipush (v := 29) hx hb dX8_init_123 (by decide +kernel) ?_
    refine lv_icmp_ge (tgt := 146) hx hb dX8_init_125 (by decide +kernel) (fun _ => ?_) (fun c9 => absurd (by decide +kernel) c9)
    refine lv_aload_n hx hb dX8_init_146 rfl (lv_at hl 1 rfl) ?_
    refine z_callVV (wr := [(q_1, .inl (g 0, 160, .inl (fun _ => 0))), (q_5, .inl (g 0, 264, .inl (fun _ => 0))), (q_6, .inl (g 0, 66, .inl (fun _ => 0))), (q_8, .inl (g 0, 6, .inl (fun _ => 0))), (q_9, .inl (g 0, 6, .inl (fun _ => 0))), (q_10, .inl (g 0, 3, .inl (fun _ => 0))), (q_11, .inl (g 0, 3, .inl (fun _ => 0))), (q_12, .inl (g 0, 100, .inl (fun _ => 0))), (q_13, .inl (g 0, 10, .inl (fun _ => 0))), (q_14, .inl (g 0, 33, .inl (fun _ => 0))), (q_3, .inl (g 0, 29, .inl u_15))]) (n := 0) C (c_M_lays l D g m0 (fun k => ([q_1, q_2, q_3, q_4, q_5, q_6, q_7, q_8, q_9, q_10, q_11, q_12, q_13, q_14] : List Nat).getD k 0) a (fun _ => 0) hI) gX8_init_X8_lays rfl (by decide +kernel) ⟨Nat.le_of_ble_eq_true rfl, Nat.le_of_ble_eq_true rfl⟩ ⟨Nat.le_of_ble_eq_true rfl, Nat.le_of_ble_eq_true rfl⟩ blind_T (fun _ _ _ => trivial) hT [13, 1, 2, 5] [0, 3, 4, 6, 7, 8, 9, 10, 11, 12, 14] rfl rfl rfl rfl rfl 13 rfl rfl rfl rfl hl.1 rfl (Nat.le_of_ble_eq_true rfl) dX8_init_147 (fun u_17 H locs hp_18 hT => ?_)
    have hT : Sit D (TY g) A s [(q_1, .inl (g 0, 160, .inl (fun _ => 0))), (q_5, .inl (g 0, 264, .inl (fun _ => 0))), (q_6, .inl (g 0, 66, .inl (fun _ => 0))), (q_8, .inl (g 0, 6, .inl (fun _ => 0))), (q_9, .inl (g 0, 6, .inl (fun _ => 0))), (q_10, .inl (g 0, 3, .inl (fun _ => 0))), (q_11, .inl (g 0, 3, .inl (fun _ => 0))), (q_12, .inl (g 0, 100, .inl (fun _ => 0))), (q_13, .inl (g 0, 10, .inl (fun _ => 0))), (q_14, .inl (g 0, 33, .inl (fun _ => 0))), (q_3, .inl (g 0, 29, .inl u_15)), (m0, .inr (8, [.ref q_1, .int 0, .ref q_2, .ref q_3, .ref q_4, .ref q_5, .int 0, .ref q_6, .ref q_7, .ref q_8, .int 0, .int 0, .int 0, .int 0, .int 0, .ref q_9, .ref q_10, .ref q_11, .ref q_12, .ref q_13, .ref q_14])), (q_2, .inl (g 0, 29, .inl a)), (q_4, .inl (g 0, 33, .inl u_17)), (q_7, .inl (g 1, 2, .inl (fun _ => 0)))] H _ := hT
    exact z_vret C rfl hT ((fun k => ([q_1, q_2, q_3, q_4, q_5, q_6, q_7, q_8, q_9, q_10, q_11, q_12, q_13, q_14] : List Nat).getD k 0), a, u_15, u_17) ⟨hI, hp_18⟩ [11, 0, 12, 10, 13, 1, 2, 14, 3, 7, 8] rfl rfl (Nat.le_of_ble_eq_true rfl) (Nat.le_of_ble_eq_true rfl) dX8_init_150
end
section
section LYR
variable {p : Program} {l : Launch} {e : Env} {R : Room} {s : State} {m : MethodId} {args : Array Value} {below : List Frame} {meth : Method} {c : Code} {H : Heap} {locs : List Loc} {cells slots : Nat} {Q : State → Prop}
variable {cc : ByteArray} {pc nL : Nat} {ls : Array Slot} {rest st : List Value} {D : va_G} {T : List (ClassId × FieldType)} {A : Nat → Prop} {ws : va_W} {Ts : List Cond} {y0 : MethodName} {ret : Option FieldType}
theorem z_max (C : Cx p s m args meth c cc nL Ts y0 ret) (hsz : ls.size = nL) {index : Nat} (h1 : Cond.methodLink y0.cls index Lib.Math.max.name ∈ Ts) (h2 : Cond.static Lib.Math.max.name ∈ Ts) (h3 : Cond.initialized "java/lang/Math" ∈ Ts) (h4 : Cond.code Lib.Math.max.name Lib.Math.max.code 2 (some .int) ∈ Ts) (hf : 1 ≤ R.frames) (hlo : (rest.map fun v => v.category).sum + 13 ≤ R.locals) (hc : cells ≤ R.cells) (hs : slots ≤ R.slots) {x y v : Int32} (hv : (if x < y then y else x) = v) (hdg : decode cc pc = .ok (.invokestatic index, 3))
    (kk : W p l e R s m args below meth c H locs cells slots Q (F0 m (pc + 3) ls (.int v :: rest))) : W p l e R s m args below meth c H locs cells slots Q (F0 m pc ls (.int y :: .int x :: rest)) := by
  subst hv
  exact va_mmax C.1.1 C.1.2.1 (C.1.2.2.1.trans hsz.symm) C.1.2.2.2.1 (C.1.2.2.2.2 _ h1) (C.1.2.2.2.2 _ h2) (C.1.2.2.2.2 _ h3) (C.1.2.2.2.2 _ h4) hf hlo hc hs hdg kk
theorem z_min (C : Cx p s m args meth c cc nL Ts y0 ret) (hsz : ls.size = nL) {index : Nat} (h1 : Cond.methodLink y0.cls index Lib.Math.min.name ∈ Ts) (h2 : Cond.static Lib.Math.min.name ∈ Ts) (h3 : Cond.initialized "java/lang/Math" ∈ Ts) (h4 : Cond.code Lib.Math.min.name Lib.Math.min.code 2 (some .int) ∈ Ts) (hf : 1 ≤ R.frames) (hlo : (rest.map fun v => v.category).sum + 13 ≤ R.locals) (hc : cells ≤ R.cells) (hs : slots ≤ R.slots) {x y v : Int32} (hv : (if y < x then y else x) = v) (hdg : decode cc pc = .ok (.invokestatic index, 3))
    (kk : W p l e R s m args below meth c H locs cells slots Q (F0 m (pc + 3) ls (.int v :: rest))) : W p l e R s m args below meth c H locs cells slots Q (F0 m pc ls (.int y :: .int x :: rest)) := by
  subst hv
  exact va_mmin C.1.1 C.1.2.1 (C.1.2.2.1.trans hsz.symm) C.1.2.2.2.1 (C.1.2.2.2.2 _ h1) (C.1.2.2.2.2 _ h2) (C.1.2.2.2.2 _ h3) (C.1.2.2.2.2 _ h4) hf hlo hc hs hdg kk
/-- System.arraycopy between two rows of ints -/
theorem z_copy (C : Cx p s m args meth c cc nL Ts y0 ret) (hsz : ls.size = nL) {index : Nat} (g1 : Cond.methodLink y0.cls index arraycopyName ∈ Ts) (g2 : Cond.native arraycopyName ∈ Ts) (g3 : Cond.static arraycopyName ∈ Ts) (g4 : Cond.initialized "java/lang/System" ∈ Ts) (hT : Sit D T A s ws H locs) (q0 q1 t0 : Nat) {a a0 : Nat} {c0 : ClassId} {n0 n1 : Nat} {f g : Nat → Int32} (ha0 : ws[q0]? = some (a0, .inl (c0, n0, .inl f))) (ha1 : ws[q1]? = some (a, .inl (c0, n1, .inl g))) (ht0 : T[t0]? = some (c0, .int))
    {sp dp n : Int32} (h1 : ¬ sp < 0) (h2 : ¬ dp < 0) (h3 : ¬ n < 0) (h4 : sp.toNatClampNeg + n.toNatClampNeg ≤ n0) (h5 : dp.toNatClampNeg + n.toNatClampNeg ≤ n1) (hf : 1 ≤ R.frames) (hlo : (rest.map fun v => v.category).sum + (nativeFrameWords "java/lang/System" "arraycopy" 5 + 11) ≤ R.locals) (hdg : decode cc pc = .ok (.invokestatic index, 3)) (ws' : va_W) (hw : ws.set q1 (a, .inl (c0, n1, .inl (va_cpy f g sp.toNatClampNeg dp.toNatClampNeg n.toNatClampNeg))) = ws')
    (kk : ∀ (H : Heap) (locs : List Loc), Sit D T A s ws' H locs → W p l e R s m args below meth c H locs cells slots Q (F0 m (pc + 3) ls rest)) : W p l e R s m args below meth c H locs cells slots Q (F0 m pc ls (.int n :: .int dp :: .ref a :: .int sp :: .ref a0 :: rest)) := by
  subst hw
  exact va_copyi C.1.1 C.1.2.1 (C.1.2.2.1.trans hsz.symm) C.1.2.2.2.1 (C.1.2.2.2.2 _ g1) (C.1.2.2.2.2 _ g2) (C.1.2.2.2.2 _ g3) (C.1.2.2.2.2 _ g4) hT.1 hT.2.1 hT.2.2.1 hT.2.2.2.1 q0 q1 t0 t0 ha0 ha1 ht0 ht0 rfl h1 h2 h3 h4 h5 (fun _ _ => rfl) hf hlo hdg (fun H1 l1 g1 g2 g3 => kk H1 l1 ⟨hT.1, g1, g2, g3, hT.2.2.2.2⟩)
end LYR
end
section
theorem dX1_afraidBits_0 : decode cX1_afraidBits 0 = .ok (.iconst 0, 1) := by decide +kernel
theorem dX1_afraidBits_1 : decode cX1_afraidBits 1 = .ok (.istore_n 1, 1) := by decide +kernel
theorem dX1_afraidBits_2 : decode cX1_afraidBits 2 = .ok (.iconst 0, 1) := by decide +kernel
theorem dX1_afraidBits_3 : decode cX1_afraidBits 3 = .ok (.istore_n 2, 1) := by decide +kernel
theorem dX1_afraidBits_4 : decode cX1_afraidBits 4 = .ok (.iload_n 2, 1) := by decide +kernel
theorem dX1_afraidBits_5 : decode cX1_afraidBits 5 = .ok (.aload_n 0, 1) := by decide +kernel
theorem dX1_afraidBits_6 : decode cX1_afraidBits 6 = .ok (.getfield 24, 3) := by decide +kernel
theorem dX1_afraidBits_9 : decode cX1_afraidBits 9 = .ok (.if_icmp .ge 23, 3) := by decide +kernel
theorem dX1_afraidBits_32 : decode cX1_afraidBits 32 = .ok (.iload_n 1, 1) := by decide +kernel
theorem dX1_afraidBits_33 : decode cX1_afraidBits 33 = .ok (.ireturn, 1) := by decide +kernel
theorem dX5_add_0 : decode cX5_add 0 = .ok (.aload_n 0, 1) := by decide +kernel
theorem dX5_add_1 : decode cX5_add 1 = .ok (.getfield 18, 3) := by decide +kernel
theorem dX5_add_4 : decode cX5_add 4 = .ok (.bipush 6, 2) := by decide +kernel
theorem dX5_add_6 : decode cX5_add 6 = .ok (.if_icmp .ge 33, 3) := by decide +kernel
theorem dX5_add_9 : decode cX5_add 9 = .ok (.aload_n 0, 1) := by decide +kernel
theorem dX5_add_10 : decode cX5_add 10 = .ok (.getfield 9, 3) := by decide +kernel
theorem dX5_add_13 : decode cX5_add 13 = .ok (.aload_n 0, 1) := by decide +kernel
theorem dX5_add_14 : decode cX5_add 14 = .ok (.getfield 18, 3) := by decide +kernel
theorem dX5_add_17 : decode cX5_add 17 = .ok (.iload_n 1, 1) := by decide +kernel
theorem dX5_add_18 : decode cX5_add 18 = .ok (.iastore, 1) := by decide +kernel
theorem dX5_add_19 : decode cX5_add 19 = .ok (.aload_n 0, 1) := by decide +kernel
theorem dX5_add_20 : decode cX5_add 20 = .ok (.getfield 15, 3) := by decide +kernel
theorem dX5_add_23 : decode cX5_add 23 = .ok (.aload_n 0, 1) := by decide +kernel
theorem dX5_add_24 : decode cX5_add 24 = .ok (.getfield 18, 3) := by decide +kernel
theorem dX5_add_27 : decode cX5_add 27 = .ok (.iload_n 2, 1) := by decide +kernel
theorem dX5_add_28 : decode cX5_add 28 = .ok (.iastore, 1) := by decide +kernel
theorem dX5_add_29 : decode cX5_add 29 = .ok (.aload_n 0, 1) := by decide +kernel
theorem dX5_add_30 : decode cX5_add 30 = .ok (.dup, 1) := by decide +kernel
theorem dX5_add_31 : decode cX5_add 31 = .ok (.getfield 18, 3) := by decide +kernel
theorem dX5_add_34 : decode cX5_add 34 = .ok (.iconst 1, 1) := by decide +kernel
theorem dX5_add_35 : decode cX5_add 35 = .ok (.iadd, 1) := by decide +kernel
theorem dX5_add_36 : decode cX5_add 36 = .ok (.putfield 18, 3) := by decide +kernel
theorem dX5_add_39 : decode cX5_add 39 = .ok (.return_, 1) := by decide +kernel
theorem dX6_add_0 : decode cX6_add 0 = .ok (.aload_n 0, 1) := by decide +kernel
theorem dX6_add_1 : decode cX6_add 1 = .ok (.getfield 15, 3) := by decide +kernel
theorem dX6_add_4 : decode cX6_add 4 = .ok (.sipush 160, 3) := by decide +kernel
theorem dX6_add_7 : decode cX6_add 7 = .ok (.if_icmp .ge 23, 3) := by decide +kernel
theorem dX6_add_10 : decode cX6_add 10 = .ok (.aload_n 0, 1) := by decide +kernel
theorem dX6_add_11 : decode cX6_add 11 = .ok (.getfield 9, 3) := by decide +kernel
theorem dX6_add_14 : decode cX6_add 14 = .ok (.aload_n 0, 1) := by decide +kernel
theorem dX6_add_15 : decode cX6_add 15 = .ok (.getfield 15, 3) := by decide +kernel
theorem dX6_add_18 : decode cX6_add 18 = .ok (.iload_n 1, 1) := by decide +kernel
theorem dX6_add_19 : decode cX6_add 19 = .ok (.iastore, 1) := by decide +kernel
theorem dX6_add_20 : decode cX6_add 20 = .ok (.aload_n 0, 1) := by decide +kernel
theorem dX6_add_21 : decode cX6_add 21 = .ok (.dup, 1) := by decide +kernel
theorem dX6_add_22 : decode cX6_add 22 = .ok (.getfield 15, 3) := by decide +kernel
theorem dX6_add_25 : decode cX6_add 25 = .ok (.iconst 1, 1) := by decide +kernel
theorem dX6_add_26 : decode cX6_add 26 = .ok (.iadd, 1) := by decide +kernel
theorem dX6_add_27 : decode cX6_add 27 = .ok (.putfield 15, 3) := by decide +kernel
theorem dX6_add_30 : decode cX6_add 30 = .ok (.return_, 1) := by decide +kernel
set_option maxRecDepth 20000 in
theorem ggX7_write_X6_add : GoodIn wsX7_write wsX6_add := goodIn_r _ [7, 8, 9, 17, 18] (by decide +kernel) (by decide +kernel)
set_option maxRecDepth 20000 in
theorem gX7_write_X6_add : GoodIn wsX7_write (wsV RX7 62 RX6 yX6_add wsX6_add) := goodIn_app (goodIn_of _ (by decide +kernel)) ggX7_write_X6_add
theorem dX7_write_0 : decode cX7_write 0 = .ok (.iload_n 1, 1) := by decide +kernel
theorem dX7_write_1 : decode cX7_write 1 = .ok (.ifCond .lt 10, 3) := by decide +kernel
theorem dX7_write_4 : decode cX7_write 4 = .ok (.iload_n 1, 1) := by decide +kernel
theorem dX7_write_5 : decode cX7_write 5 = .ok (.sipush 255, 3) := by decide +kernel
theorem dX7_write_8 : decode cX7_write 8 = .ok (.if_icmp .le 6, 3) := by decide +kernel
theorem dX7_write_11 : decode cX7_write 11 = .ok (.bipush (-3), 2) := by decide +kernel
theorem dX7_write_13 : decode cX7_write 13 = .ok (.ireturn, 1) := by decide +kernel
theorem dX7_write_14 : decode cX7_write 14 = .ok (.aload_n 0, 1) := by decide +kernel
theorem dX7_write_15 : decode cX7_write 15 = .ok (.getfield 10, 3) := by decide +kernel
theorem dX7_write_18 : decode cX7_write 18 = .ok (.getfield 58, 3) := by decide +kernel
theorem dX7_write_21 : decode cX7_write 21 = .ok (.sipush 160, 3) := by decide +kernel
theorem dX7_write_24 : decode cX7_write 24 = .ok (.if_icmp .lt 6, 3) := by decide +kernel
theorem dX7_write_30 : decode cX7_write 30 = .ok (.aload_n 0, 1) := by decide +kernel
theorem dX7_write_31 : decode cX7_write 31 = .ok (.getfield 10, 3) := by decide +kernel
theorem dX7_write_34 : decode cX7_write 34 = .ok (.iload_n 1, 1) := by decide +kernel
theorem dX7_write_35 : decode cX7_write 35 = .ok (.invokevirtual 62, 3) := by decide +kernel
theorem dX7_write_38 : decode cX7_write 38 = .ok (.aload_n 0, 1) := by decide +kernel
theorem dX7_write_39 : decode cX7_write 39 = .ok (.getfield 10, 3) := by decide +kernel
theorem dX7_write_42 : decode cX7_write 42 = .ok (.getfield 58, 3) := by decide +kernel
theorem dX7_write_45 : decode cX7_write 45 = .ok (.ireturn, 1) := by decide +kernel
theorem dX7_erase_0 : decode cX7_erase 0 = .ok (.aload_n 0, 1) := by decide +kernel
theorem dX7_erase_1 : decode cX7_erase 1 = .ok (.getfield 10, 3) := by decide +kernel
theorem dX7_erase_4 : decode cX7_erase 4 = .ok (.getfield 58, 3) := by decide +kernel
theorem dX7_erase_7 : decode cX7_erase 7 = .ok (.istore_n 1, 1) := by decide +kernel
theorem dX7_erase_8 : decode cX7_erase 8 = .ok (.aload_n 0, 1) := by decide +kernel
theorem dX7_erase_9 : decode cX7_erase 9 = .ok (.getfield 10, 3) := by decide +kernel
theorem dX7_erase_12 : decode cX7_erase 12 = .ok (.iconst 0, 1) := by decide +kernel
theorem dX7_erase_13 : decode cX7_erase 13 = .ok (.putfield 58, 3) := by decide +kernel
theorem dX7_erase_16 : decode cX7_erase 16 = .ok (.iload_n 1, 1) := by decide +kernel
theorem dX7_erase_17 : decode cX7_erase 17 = .ok (.ireturn, 1) := by decide +kernel
set_option maxRecDepth 20000 in
theorem ggX7_person_X7_isPerson : GoodIn wsX7_person wsX7_isPerson := goodIn_r _ [12, 1, 13, 28, 29, 30, 31, 32, 33, 34, 35, 36, 37, 38, 39, 40, 41, 42, 43, 44, 45, 46, 47, 48, 49, 50] (by decide +kernel) (by decide +kernel)
set_option maxRecDepth 20000 in
theorem gX7_person_X7_isPerson : GoodIn wsX7_person (wsV RX7 91 RX7 yX7_isPerson wsX7_isPerson) := goodIn_app (goodIn_of _ (by decide +kernel)) ggX7_person_X7_isPerson
theorem dX7_person_0 : decode cX7_person 0 = .ok (.aload_n 0, 1) := by decide +kernel
theorem dX7_person_1 : decode cX7_person 1 = .ok (.iload_n 1, 1) := by decide +kernel
theorem dX7_person_2 : decode cX7_person 2 = .ok (.invokevirtual 91, 3) := by decide +kernel
theorem dX7_person_5 : decode cX7_person 5 = .ok (.ifCond .ne 6, 3) := by decide +kernel
theorem dX7_person_8 : decode cX7_person 8 = .ok (.bipush (-2), 2) := by decide +kernel
theorem dX7_person_10 : decode cX7_person 10 = .ok (.ireturn, 1) := by decide +kernel
set_option maxRecDepth 20000 in
theorem ggX7_sort_X7_isSort : GoodIn wsX7_sort wsX7_isSort := goodIn_r _ [8, 1, 9, 10, 11, 12, 13, 14, 15, 16, 17, 18, 19, 20, 21, 22, 23, 24, 25, 26, 27, 28, 29, 30, 31, 32] (by decide +kernel) (by decide +kernel)
set_option maxRecDepth 20000 in
theorem gX7_sort_X7_isSort : GoodIn wsX7_sort (wsV RX7 121 RX7 yX7_isSort wsX7_isSort) := goodIn_app (goodIn_of _ (by decide +kernel)) ggX7_sort_X7_isSort
theorem dX7_sort_0 : decode cX7_sort 0 = .ok (.aload_n 0, 1) := by decide +kernel
theorem dX7_sort_1 : decode cX7_sort 1 = .ok (.iload_n 1, 1) := by decide +kernel
theorem dX7_sort_2 : decode cX7_sort 2 = .ok (.invokevirtual 121, 3) := by decide +kernel
theorem dX7_sort_5 : decode cX7_sort 5 = .ok (.ifCond .ne 6, 3) := by decide +kernel
theorem dX7_sort_8 : decode cX7_sort 8 = .ok (.bipush (-2), 2) := by decide +kernel
theorem dX7_sort_10 : decode cX7_sort 10 = .ok (.ireturn, 1) := by decide +kernel
set_option maxRecDepth 20000 in
theorem ggX7_as_X7_isPerson : GoodIn wsX7_as wsX7_isPerson := goodIn_r _ [9, 2, 10, 26, 27, 28, 29, 30, 31, 32, 33, 34, 35, 36, 37, 38, 39, 40, 41, 42, 43, 44, 45, 46, 47, 48] (by decide +kernel) (by decide +kernel)
set_option maxRecDepth 20000 in
theorem gX7_as_X7_isPerson : GoodIn wsX7_as (wsV RX7 91 RX7 yX7_isPerson wsX7_isPerson) := goodIn_app (goodIn_of _ (by decide +kernel)) ggX7_as_X7_isPerson
theorem dX7_as_0 : decode cX7_as 0 = .ok (.aload_n 0, 1) := by decide +kernel
theorem dX7_as_1 : decode cX7_as 1 = .ok (.iload_n 1, 1) := by decide +kernel
theorem dX7_as_2 : decode cX7_as 2 = .ok (.invokevirtual 91, 3) := by decide +kernel
theorem dX7_as_5 : decode cX7_as 5 = .ok (.ifCond .ne 6, 3) := by decide +kernel
theorem dX7_as_8 : decode cX7_as 8 = .ok (.bipush (-2), 2) := by decide +kernel
theorem dX7_as_10 : decode cX7_as 10 = .ok (.ireturn, 1) := by decide +kernel
set_option maxRecDepth 20000 in
theorem ggX7_deed_X7_isPerson : GoodIn wsX7_deed wsX7_isPerson := goodIn_r _ [7, 2, 8, 59, 60, 61, 62, 63, 64, 65, 66, 67, 68, 69, 70, 71, 72, 73, 74, 75, 76, 77, 78, 79, 80, 81] (by decide +kernel) (by decide +kernel)
set_option maxRecDepth 20000 in
theorem gX7_deed_X7_isPerson : GoodIn wsX7_deed (wsV RX7 91 RX7 yX7_isPerson wsX7_isPerson) := goodIn_app (goodIn_of _ (by decide +kernel)) ggX7_deed_X7_isPerson
theorem dX7_deed_0 : decode cX7_deed 0 = .ok (.aload_n 0, 1) := by decide +kernel
theorem dX7_deed_1 : decode cX7_deed 1 = .ok (.iload_n 1, 1) := by decide +kernel
theorem dX7_deed_2 : decode cX7_deed 2 = .ok (.invokevirtual 91, 3) := by decide +kernel
theorem dX7_deed_5 : decode cX7_deed 5 = .ok (.ifCond .eq 11, 3) := by decide +kernel
theorem dX7_deed_16 : decode cX7_deed 16 = .ok (.bipush (-2), 2) := by decide +kernel
theorem dX7_deed_18 : decode cX7_deed 18 = .ok (.ireturn, 1) := by decide +kernel
theorem dX7_feast_0 : decode cX7_feast 0 = .ok (.aload_n 0, 1) := by decide +kernel
theorem dX7_feast_1 : decode cX7_feast 1 = .ok (.getfield 19, 3) := by decide +kernel
theorem dX7_feast_4 : decode cX7_feast 4 = .ok (.getfield 147, 3) := by decide +kernel
theorem dX7_feast_7 : decode cX7_feast 7 = .ok (.ifCond .ne 6, 3) := by decide +kernel
theorem dX7_feast_10 : decode cX7_feast 10 = .ok (.bipush (-4), 2) := by decide +kernel
theorem dX7_feast_12 : decode cX7_feast 12 = .ok (.ireturn, 1) := by decide +kernel
theorem dX7_undo_0 : decode cX7_undo 0 = .ok (.aload_n 0, 1) := by decide +kernel
theorem dX7_undo_1 : decode cX7_undo 1 = .ok (.getfield 33, 3) := by decide +kernel
theorem dX7_undo_4 : decode cX7_undo 4 = .ok (.getfield 83, 3) := by decide +kernel
theorem dX7_undo_7 : decode cX7_undo 7 = .ok (.ifCond .ne 6, 3) := by decide +kernel
theorem dX7_undo_10 : decode cX7_undo 10 = .ok (.bipush (-4), 2) := by decide +kernel
theorem dX7_undo_12 : decode cX7_undo 12 = .ok (.ireturn, 1) := by decide +kernel
set_option maxRecDepth 20000 in
theorem ggX7_gets_X7_isPerson : GoodIn wsX7_gets wsX7_isPerson := goodIn_r _ [7, 2, 8, 45, 46, 47, 48, 49, 50, 51, 52, 53, 54, 55, 56, 57, 58, 59, 60, 61, 62, 63, 64, 65, 66, 67] (by decide +kernel) (by decide +kernel)
set_option maxRecDepth 20000 in
theorem gX7_gets_X7_isPerson : GoodIn wsX7_gets (wsV RX7 91 RX7 yX7_isPerson wsX7_isPerson) := goodIn_app (goodIn_of _ (by decide +kernel)) ggX7_gets_X7_isPerson
theorem dX7_gets_0 : decode cX7_gets 0 = .ok (.aload_n 0, 1) := by decide +kernel
theorem dX7_gets_1 : decode cX7_gets 1 = .ok (.iload_n 1, 1) := by decide +kernel
theorem dX7_gets_2 : decode cX7_gets 2 = .ok (.invokevirtual 91, 3) := by decide +kernel
theorem dX7_gets_5 : decode cX7_gets 5 = .ok (.ifCond .ne 6, 3) := by decide +kernel
theorem dX7_gets_8 : decode cX7_gets 8 = .ok (.bipush (-2), 2) := by decide +kernel
theorem dX7_gets_10 : decode cX7_gets 10 = .ok (.ireturn, 1) := by decide +kernel
set_option maxRecDepth 20000 in
theorem ggX7_need_X7_isPerson : GoodIn wsX7_need wsX7_isPerson := goodIn_r _ [7, 2, 8, 74, 75, 76, 77, 78, 79, 80, 81, 82, 83, 84, 85, 86, 87, 88, 89, 90, 91, 92, 93, 94, 95, 96] (by decide +kernel) (by decide +kernel)
set_option maxRecDepth 20000 in
theorem gX7_need_X7_isPerson : GoodIn wsX7_need (wsV RX7 91 RX7 yX7_isPerson wsX7_isPerson) := goodIn_app (goodIn_of _ (by decide +kernel)) ggX7_need_X7_isPerson
theorem dX7_need_0 : decode cX7_need 0 = .ok (.aload_n 0, 1) := by decide +kernel
theorem dX7_need_1 : decode cX7_need 1 = .ok (.iload_n 1, 1) := by decide +kernel
theorem dX7_need_2 : decode cX7_need 2 = .ok (.invokevirtual 91, 3) := by decide +kernel
theorem dX7_need_5 : decode cX7_need 5 = .ok (.ifCond .eq 11, 3) := by decide +kernel
theorem dX7_need_16 : decode cX7_need 16 = .ok (.bipush (-2), 2) := by decide +kernel
theorem dX7_need_18 : decode cX7_need 18 = .ok (.ireturn, 1) := by decide +kernel
set_option maxRecDepth 20000 in
theorem ggX7_deeds_X7_isPerson : GoodIn wsX7_deeds wsX7_isPerson := goodIn_r _ [9, 2, 10, 90, 91, 92, 93, 94, 95, 96, 103, 104, 105, 106, 107, 108, 109, 110, 111, 112, 113, 114, 115, 116, 117, 118] (by decide +kernel) (by decide +kernel)
set_option maxRecDepth 20000 in
theorem gX7_deeds_X7_isPerson : GoodIn wsX7_deeds (wsV RX7 91 RX7 yX7_isPerson wsX7_isPerson) := goodIn_app (goodIn_of _ (by decide +kernel)) ggX7_deeds_X7_isPerson
theorem dX7_deeds_0 : decode cX7_deeds 0 = .ok (.aload_n 0, 1) := by decide +kernel
theorem dX7_deeds_1 : decode cX7_deeds 1 = .ok (.iload_n 1, 1) := by decide +kernel
theorem dX7_deeds_2 : decode cX7_deeds 2 = .ok (.invokevirtual 91, 3) := by decide +kernel
theorem dX7_deeds_5 : decode cX7_deeds 5 = .ok (.ifCond .eq 11, 3) := by decide +kernel
theorem dX7_deeds_16 : decode cX7_deeds 16 = .ok (.bipush (-2), 2) := by decide +kernel
theorem dX7_deeds_18 : decode cX7_deeds 18 = .ok (.ireturn, 1) := by decide +kernel
set_option maxRecDepth 20000 in
theorem ggX7_seen_X7_isJoint : GoodIn wsX7_seen wsX7_isJoint := goodIn_r _ [7, 8, 9, 18, 19, 20, 21, 22, 23, 24, 33, 34, 35, 36, 37, 38, 39, 40, 41, 42, 43, 44, 45, 46, 47, 48] (by decide +kernel) (by decide +kernel)
set_option maxRecDepth 20000 in
theorem gX7_seen_X7_isJoint : GoodIn wsX7_seen (wsV RX7 183 RX7 yX7_isJoint wsX7_isJoint) := goodIn_app (goodIn_of _ (by decide +kernel)) ggX7_seen_X7_isJoint
set_option maxRecDepth 20000 in
theorem ggX7_seen_X5_add : GoodIn wsX7_seen wsX5_add := goodIn_r _ [14, 15, 16, 17, 25, 26, 27, 28, 29, 30, 31, 32] (by decide +kernel) (by decide +kernel)
set_option maxRecDepth 20000 in
theorem gX7_seen_X5_add : GoodIn wsX7_seen (wsV RX7 200 RX5 yX5_add wsX5_add) := goodIn_app (goodIn_of _ (by decide +kernel)) ggX7_seen_X5_add
theorem dX7_seen_0 : decode cX7_seen 0 = .ok (.iload_n 2, 1) := by decide +kernel
theorem dX7_seen_1 : decode cX7_seen 1 = .ok (.iconst (-1), 1) := by decide +kernel
theorem dX7_seen_2 : decode cX7_seen 2 = .ok (.if_icmp .eq 14, 3) := by decide +kernel
theorem dX7_seen_5 : decode cX7_seen 5 = .ok (.aload_n 0, 1) := by decide +kernel
theorem dX7_seen_6 : decode cX7_seen 6 = .ok (.iload_n 2, 1) := by decide +kernel
theorem dX7_seen_7 : decode cX7_seen 7 = .ok (.invokevirtual 183, 3) := by decide +kernel
theorem dX7_seen_10 : decode cX7_seen 10 = .ok (.ifCond .ne 6, 3) := by decide +kernel
theorem dX7_seen_13 : decode cX7_seen 13 = .ok (.bipush (-2), 2) := by decide +kernel
theorem dX7_seen_15 : decode cX7_seen 15 = .ok (.ireturn, 1) := by decide +kernel
theorem dX7_seen_16 : decode cX7_seen 16 = .ok (.iload_n 1, 1) := by decide +kernel
theorem dX7_seen_17 : decode cX7_seen 17 = .ok (.ifCond .lt 9, 3) := by decide +kernel
theorem dX7_seen_20 : decode cX7_seen 20 = .ok (.iload_n 1, 1) := by decide +kernel
theorem dX7_seen_21 : decode cX7_seen 21 = .ok (.bipush 99, 2) := by decide +kernel
theorem dX7_seen_23 : decode cX7_seen 23 = .ok (.if_icmp .le 6, 3) := by decide +kernel
theorem dX7_seen_26 : decode cX7_seen 26 = .ok (.bipush (-3), 2) := by decide +kernel
theorem dX7_seen_28 : decode cX7_seen 28 = .ok (.ireturn, 1) := by decide +kernel
theorem dX7_seen_29 : decode cX7_seen 29 = .ok (.aload_n 0, 1) := by decide +kernel
theorem dX7_seen_30 : decode cX7_seen 30 = .ok (.getfield 46, 3) := by decide +kernel
theorem dX7_seen_33 : decode cX7_seen 33 = .ok (.getfield 80, 3) := by decide +kernel
theorem dX7_seen_36 : decode cX7_seen 36 = .ok (.bipush 6, 2) := by decide +kernel
theorem dX7_seen_38 : decode cX7_seen 38 = .ok (.if_icmp .lt 6, 3) := by decide +kernel
theorem dX7_seen_44 : decode cX7_seen 44 = .ok (.aload_n 0, 1) := by decide +kernel
theorem dX7_seen_45 : decode cX7_seen 45 = .ok (.getfield 46, 3) := by decide +kernel
theorem dX7_seen_48 : decode cX7_seen 48 = .ok (.iload_n 1, 1) := by decide +kernel
theorem dX7_seen_49 : decode cX7_seen 49 = .ok (.iload_n 2, 1) := by decide +kernel
theorem dX7_seen_50 : decode cX7_seen 50 = .ok (.invokevirtual 200, 3) := by decide +kernel
theorem dX7_seen_53 : decode cX7_seen 53 = .ok (.aload_n 0, 1) := by decide +kernel
theorem dX7_seen_54 : decode cX7_seen 54 = .ok (.getfield 46, 3) := by decide +kernel
theorem dX7_seen_57 : decode cX7_seen 57 = .ok (.getfield 80, 3) := by decide +kernel
theorem dX7_seen_60 : decode cX7_seen 60 = .ok (.ireturn, 1) := by decide +kernel
theorem dX7_forget_0 : decode cX7_forget 0 = .ok (.aload_n 0, 1) := by decide +kernel
theorem dX7_forget_1 : decode cX7_forget 1 = .ok (.getfield 46, 3) := by decide +kernel
theorem dX7_forget_4 : decode cX7_forget 4 = .ok (.getfield 80, 3) := by decide +kernel
theorem dX7_forget_7 : decode cX7_forget 7 = .ok (.istore_n 1, 1) := by decide +kernel
theorem dX7_forget_8 : decode cX7_forget 8 = .ok (.aload_n 0, 1) := by decide +kernel
theorem dX7_forget_9 : decode cX7_forget 9 = .ok (.getfield 46, 3) := by decide +kernel
theorem dX7_forget_12 : decode cX7_forget 12 = .ok (.iconst 0, 1) := by decide +kernel
theorem dX7_forget_13 : decode cX7_forget 13 = .ok (.putfield 80, 3) := by decide +kernel
theorem dX7_forget_16 : decode cX7_forget 16 = .ok (.iload_n 1, 1) := by decide +kernel
theorem dX7_forget_17 : decode cX7_forget 17 = .ok (.ireturn, 1) := by decide +kernel
set_option maxRecDepth 20000 in
theorem ggX7_chance_X7_isPerson : GoodIn wsX7_chance wsX7_isPerson := goodIn_r _ [8, 2, 3, 101, 102, 103, 104, 105, 106, 107, 108, 109, 110, 111, 112, 113, 114, 115, 116, 117, 118, 119, 120, 121, 122, 123] (by decide +kernel) (by decide +kernel)
set_option maxRecDepth 20000 in
theorem gX7_chance_X7_isPerson : GoodIn wsX7_chance (wsV RX7 91 RX7 yX7_isPerson wsX7_isPerson) := goodIn_app (goodIn_of _ (by decide +kernel)) ggX7_chance_X7_isPerson
theorem dX7_chance_0 : decode cX7_chance 0 = .ok (.aload_n 0, 1) := by decide +kernel
theorem dX7_chance_1 : decode cX7_chance 1 = .ok (.iload_n 1, 1) := by decide +kernel
theorem dX7_chance_2 : decode cX7_chance 2 = .ok (.invokevirtual 91, 3) := by decide +kernel
theorem dX7_chance_5 : decode cX7_chance 5 = .ok (.ifCond .eq 19, 3) := by decide +kernel
theorem dX7_chance_24 : decode cX7_chance 24 = .ok (.bipush (-2), 2) := by decide +kernel
theorem dX7_chance_26 : decode cX7_chance 26 = .ok (.ireturn, 1) := by decide +kernel
set_option maxRecDepth 20000 in
theorem ggX7_count_X1_afraidBits : GoodIn wsX7_count wsX1_afraidBits := goodIn_r _ [18, 19, 20, 21, 22, 17, 23, 24, 25, 26, 27, 28, 29, 30, 31, 39, 40, 41, 42, 43, 44, 45, 46, 47, 48, 49, 50, 51, 52, 53, 54] (by decide +kernel) (by decide +kernel)
set_option maxRecDepth 20000 in
theorem gX7_count_X1_afraidBits : GoodIn wsX7_count (wsV RX7 234 RX1 yX1_afraidBits wsX1_afraidBits) := goodIn_app (goodIn_of _ (by decide +kernel)) ggX7_count_X1_afraidBits
theorem dX7_count_0 : decode cX7_count 0 = .ok (.iload_n 1, 1) := by decide +kernel
theorem dX7_count_1 : decode cX7_count 1 = .ok (.tableswitch 135 0 9 #[55, 63, 71, 79, 87, 95, 103, 111, 119, 127], 55) := by decide +kernel
theorem dX7_count_56 : decode cX7_count 56 = .ok (.aload_n 0, 1) := by decide +kernel
theorem dX7_count_57 : decode cX7_count 57 = .ok (.getfield 19, 3) := by decide +kernel
theorem dX7_count_60 : decode cX7_count 60 = .ok (.getfield 202, 3) := by decide +kernel
theorem dX7_count_63 : decode cX7_count 63 = .ok (.ireturn, 1) := by decide +kernel
theorem dX7_count_64 : decode cX7_count 64 = .ok (.aload_n 0, 1) := by decide +kernel
theorem dX7_count_65 : decode cX7_count 65 = .ok (.getfield 19, 3) := by decide +kernel
theorem dX7_count_68 : decode cX7_count 68 = .ok (.getfield 147, 3) := by decide +kernel
theorem dX7_count_71 : decode cX7_count 71 = .ok (.ireturn, 1) := by decide +kernel
theorem dX7_count_72 : decode cX7_count 72 = .ok (.aload_n 0, 1) := by decide +kernel
theorem dX7_count_73 : decode cX7_count 73 = .ok (.getfield 19, 3) := by decide +kernel
theorem dX7_count_76 : decode cX7_count 76 = .ok (.getfield 231, 3) := by decide +kernel
theorem dX7_count_79 : decode cX7_count 79 = .ok (.ireturn, 1) := by decide +kernel
theorem dX7_count_80 : decode cX7_count 80 = .ok (.aload_n 0, 1) := by decide +kernel
theorem dX7_count_81 : decode cX7_count 81 = .ok (.getfield 19, 3) := by decide +kernel
theorem dX7_count_84 : decode cX7_count 84 = .ok (.getfield 154, 3) := by decide +kernel
theorem dX7_count_87 : decode cX7_count 87 = .ok (.ireturn, 1) := by decide +kernel
theorem dX7_count_88 : decode cX7_count 88 = .ok (.aload_n 0, 1) := by decide +kernel
theorem dX7_count_89 : decode cX7_count 89 = .ok (.getfield 19, 3) := by decide +kernel
theorem dX7_count_92 : decode cX7_count 92 = .ok (.getfield 160, 3) := by decide +kernel
theorem dX7_count_95 : decode cX7_count 95 = .ok (.ireturn, 1) := by decide +kernel
theorem dX7_count_96 : decode cX7_count 96 = .ok (.aload_n 0, 1) := by decide +kernel
theorem dX7_count_97 : decode cX7_count 97 = .ok (.getfield 19, 3) := by decide +kernel
theorem dX7_count_100 : decode cX7_count 100 = .ok (.getfield 163, 3) := by decide +kernel
theorem dX7_count_103 : decode cX7_count 103 = .ok (.ireturn, 1) := by decide +kernel
theorem dX7_count_104 : decode cX7_count 104 = .ok (.aload_n 0, 1) := by decide +kernel
theorem dX7_count_105 : decode cX7_count 105 = .ok (.getfield 19, 3) := by decide +kernel
theorem dX7_count_108 : decode cX7_count 108 = .ok (.invokevirtual 234, 3) := by decide +kernel
theorem dX7_count_111 : decode cX7_count 111 = .ok (.ireturn, 1) := by decide +kernel
theorem dX7_count_112 : decode cX7_count 112 = .ok (.aload_n 0, 1) := by decide +kernel
theorem dX7_count_113 : decode cX7_count 113 = .ok (.getfield 46, 3) := by decide +kernel
theorem dX7_count_116 : decode cX7_count 116 = .ok (.getfield 80, 3) := by decide +kernel
theorem dX7_count_119 : decode cX7_count 119 = .ok (.ireturn, 1) := by decide +kernel
theorem dX7_count_120 : decode cX7_count 120 = .ok (.aload_n 0, 1) := by decide +kernel
theorem dX7_count_121 : decode cX7_count 121 = .ok (.getfield 33, 3) := by decide +kernel
theorem dX7_count_124 : decode cX7_count 124 = .ok (.getfield 83, 3) := by decide +kernel
theorem dX7_count_127 : decode cX7_count 127 = .ok (.ireturn, 1) := by decide +kernel
theorem dX7_count_128 : decode cX7_count 128 = .ok (.aload_n 0, 1) := by decide +kernel
theorem dX7_count_129 : decode cX7_count 129 = .ok (.getfield 10, 3) := by decide +kernel
theorem dX7_count_132 : decode cX7_count 132 = .ok (.getfield 58, 3) := by decide +kernel
theorem dX7_count_135 : decode cX7_count 135 = .ok (.ireturn, 1) := by decide +kernel
theorem dX7_count_136 : decode cX7_count 136 = .ok (.bipush (-3), 2) := by decide +kernel
theorem dX7_count_138 : decode cX7_count 138 = .ok (.ireturn, 1) := by decide +kernel
theorem dX7_isPerson_0 : decode cX7_isPerson 0 = .ok (.iload_n 1, 1) := by decide +kernel
theorem dX7_isPerson_1 : decode cX7_isPerson 1 = .ok (.ifCond .lt 18, 3) := by decide +kernel
theorem dX7_isPerson_4 : decode cX7_isPerson 4 = .ok (.iload_n 1, 1) := by decide +kernel
theorem dX7_isPerson_5 : decode cX7_isPerson 5 = .ok (.aload_n 0, 1) := by decide +kernel
theorem dX7_isPerson_6 : decode cX7_isPerson 6 = .ok (.getfield 19, 3) := by decide +kernel
theorem dX7_isPerson_9 : decode cX7_isPerson 9 = .ok (.getfield 147, 3) := by decide +kernel
theorem dX7_isPerson_12 : decode cX7_isPerson 12 = .ok (.if_icmp .ge 7, 3) := by decide +kernel
theorem dX7_isPerson_15 : decode cX7_isPerson 15 = .ok (.iconst 1, 1) := by decide +kernel
theorem dX7_isPerson_16 : decode cX7_isPerson 16 = .ok (.goto 4, 3) := by decide +kernel
theorem dX7_isPerson_19 : decode cX7_isPerson 19 = .ok (.iconst 0, 1) := by decide +kernel
theorem dX7_isPerson_20 : decode cX7_isPerson 20 = .ok (.ireturn, 1) := by decide +kernel
theorem dX7_isJoint_0 : decode cX7_isJoint 0 = .ok (.iload_n 1, 1) := by decide +kernel
theorem dX7_isJoint_1 : decode cX7_isJoint 1 = .ok (.ifCond .lt 18, 3) := by decide +kernel
theorem dX7_isJoint_4 : decode cX7_isJoint 4 = .ok (.iload_n 1, 1) := by decide +kernel
theorem dX7_isJoint_5 : decode cX7_isJoint 5 = .ok (.aload_n 0, 1) := by decide +kernel
theorem dX7_isJoint_6 : decode cX7_isJoint 6 = .ok (.getfield 19, 3) := by decide +kernel
theorem dX7_isJoint_9 : decode cX7_isJoint 9 = .ok (.getfield 202, 3) := by decide +kernel
theorem dX7_isJoint_12 : decode cX7_isJoint 12 = .ok (.if_icmp .ge 7, 3) := by decide +kernel
theorem dX7_isJoint_15 : decode cX7_isJoint 15 = .ok (.iconst 1, 1) := by decide +kernel
theorem dX7_isJoint_16 : decode cX7_isJoint 16 = .ok (.goto 4, 3) := by decide +kernel
theorem dX7_isJoint_19 : decode cX7_isJoint 19 = .ok (.iconst 0, 1) := by decide +kernel
theorem dX7_isJoint_20 : decode cX7_isJoint 20 = .ok (.ireturn, 1) := by decide +kernel
theorem dX7_isSort_0 : decode cX7_isSort 0 = .ok (.iload_n 1, 1) := by decide +kernel
theorem dX7_isSort_1 : decode cX7_isSort 1 = .ok (.ifCond .lt 18, 3) := by decide +kernel
theorem dX7_isSort_4 : decode cX7_isSort 4 = .ok (.iload_n 1, 1) := by decide +kernel
theorem dX7_isSort_5 : decode cX7_isSort 5 = .ok (.aload_n 0, 1) := by decide +kernel
theorem dX7_isSort_6 : decode cX7_isSort 6 = .ok (.getfield 19, 3) := by decide +kernel
theorem dX7_isSort_9 : decode cX7_isSort 9 = .ok (.getfield 231, 3) := by decide +kernel
theorem dX7_isSort_12 : decode cX7_isSort 12 = .ok (.if_icmp .ge 7, 3) := by decide +kernel
theorem dX7_isSort_15 : decode cX7_isSort 15 = .ok (.iconst 1, 1) := by decide +kernel
theorem dX7_isSort_16 : decode cX7_isSort 16 = .ok (.goto 4, 3) := by decide +kernel
theorem dX7_isSort_19 : decode cX7_isSort 19 = .ok (.iconst 0, 1) := by decide +kernel
theorem dX7_isSort_20 : decode cX7_isSort 20 = .ok (.ireturn, 1) := by decide +kernel
theorem dX7_isKeptPlace_0 : decode cX7_isKeptPlace 0 = .ok (.iload_n 0, 1) := by decide +kernel
theorem dX7_isKeptPlace_1 : decode cX7_isKeptPlace 1 = .ok (.ifCond .lt 12, 3) := by decide +kernel
theorem dX7_isKeptPlace_4 : decode cX7_isKeptPlace 4 = .ok (.iload_n 0, 1) := by decide +kernel
theorem dX7_isKeptPlace_5 : decode cX7_isKeptPlace 5 = .ok (.iconst 2, 1) := by decide +kernel
theorem dX7_isKeptPlace_6 : decode cX7_isKeptPlace 6 = .ok (.if_icmp .ge 7, 3) := by decide +kernel
theorem dX7_isKeptPlace_9 : decode cX7_isKeptPlace 9 = .ok (.iconst 1, 1) := by decide +kernel
theorem dX7_isKeptPlace_10 : decode cX7_isKeptPlace 10 = .ok (.goto 4, 3) := by decide +kernel
theorem dX7_isKeptPlace_13 : decode cX7_isKeptPlace 13 = .ok (.iconst 0, 1) := by decide +kernel
theorem dX7_isKeptPlace_14 : decode cX7_isKeptPlace 14 = .ok (.ireturn, 1) := by decide +kernel
def sP_isPerson (p0 : Int32) : Int32 := (if p0 < 0 then 0 else (if 0 ≤ p0 then 0 else 1))
set_option maxHeartbeats 4000000 in
set_option maxRecDepth 100000 in
/-- CowardsPot.isPerson on a new pot -/
theorem c_P_isPerson (l : Launch) (D : va_G) (g : Nat → ClassId) (h0 : Nat) (u : Nat → Nat) (p0 : Int32) : CtI l yX7_isPerson wsX7_isPerson { frames := 0, cells := 0, slots := 0, locals := 0 } D (TY g) [.ref h0, .int p0] (fun _ => True) [(h0, .inr (7, [.ref (u 0), .ref (u 1), .ref (u 2), .ref (u 3), .ref (u 4), .ref (u 5), .ref (u 6)])), ((u 1), .inr (1, [.int 5, .int 40, .int 8, .int 0, .int 0, .int 0, .ref (u 8), .ref (u 9), .ref (u 10), .ref (u 11), .ref (u 12), .ref (u 13), .ref (u 14), .ref (u 15), .ref (u 16), .ref (u 17)]))] (fun r (_ : Unit) => r = sP_isPerson p0) (fun _ => [(h0, .inr (7, [.ref (u 0), .ref (u 1), .ref (u 2), .ref (u 3), .ref (u 4), .ref (u 5), .ref (u 6)])), ((u 1), .inr (1, [.int 5, .int 40, .int 8, .int 0, .int 0, .int 0, .ref (u 8), .ref (u 9), .ref (u 10), .ref (u 11), .ref (u 12), .ref (u 13), .ref (u 14), .ref (u 15), .ref (u 16), .ref (u 17)]))]) := by
  refine CtI.intro (cc := cX7_isPerson) (maxL := 2) (ret := (some .boolean)) rfl (by decide +kernel) (Nat.le_of_ble_eq_true rfl) ?_
  intro p e s m below meth c A ls C hmn hX hAe hT hl
  have hx := C.1.1
  have hb := C.1.2.1
  have hl : lv_has ls 2 [(0, .ref h0), (1, .int p0)] := hl
  have hin1 : ∀ w ∈ u_ws RX1 TX1 16, w ∈ wsX7_isPerson := by decide +kernel
  have hin7 : ∀ w ∈ u_ws RX7 TX7 7, w ∈ wsX7_isPerson := by decide +kernel
  refine lv_iload_n hx hb dX7_isPerson_0 rfl (lv_at hl 1 rfl) ?_
  refine lv_if_lt (tgt := 19) hx hb dX7_isPerson_1 (by decide +kernel) (fun c_1 => ?_) (fun c_1 => ?_)
  · refine lv_iconst (v := 0) hx hb dX7_isPerson_19 (by decide +kernel) ?_
    exact z_zret C rfl rfl hT () (by unfold sP_isPerson; rw [if_pos c_1]) [0, 1] rfl rfl (Nat.le_of_ble_eq_true rfl) (Nat.le_of_ble_eq_true rfl) dX7_isPerson_20
  · refine lv_iload_n hx hb dX7_isPerson_4 rfl (lv_at hl 1 rfl) ?_
    refine lv_aload_n hx hb dX7_isPerson_5 rfl (lv_at hl 0 rfl) ?_
    refine z_get C (ci := 7) (N := 7) rfl hin7 hT 0 1 rfl rfl (by decide +kernel) (by decide +kernel) dX7_isPerson_6 ?_
    refine z_get C (ci := 1) (N := 16) rfl hin1 hT 1 4 rfl rfl (by decide +kernel) (by decide +kernel) dX7_isPerson_9 ?_
    refine lv_icmp_ge (tgt := 19) hx hb dX7_isPerson_12 (by decide +kernel) (fun c_12 => ?_) (fun c_12 => ?_)
    · refine lv_iconst (v := 0) hx hb dX7_isPerson_19 (by decide +kernel) ?_
      exact z_zret C rfl rfl hT () (by unfold sP_isPerson; rw [if_neg c_1, if_pos c_12]) [0, 1] rfl rfl (Nat.le_of_ble_eq_true rfl) (Nat.le_of_ble_eq_true rfl) dX7_isPerson_20
    · refine lv_iconst (v := 1) hx hb dX7_isPerson_15 (by decide +kernel) ?_
      refine lv_goto (tgt := 20) hx hb dX7_isPerson_16 (by decide +kernel) ?_
      exact z_zret C rfl rfl hT () (by unfold sP_isPerson; rw [if_neg c_1, if_neg c_12]) [0, 1] rfl rfl (Nat.le_of_ble_eq_true rfl) (Nat.le_of_ble_eq_true rfl) dX7_isPerson_20

def sP_isSort (p0 : Int32) : Int32 := (if p0 < 0 then 0 else (if 0 ≤ p0 then 0 else 1))
set_option maxHeartbeats 4000000 in
set_option maxRecDepth 100000 in
/-- CowardsPot.isSort on a new pot -/
theorem c_P_isSort (l : Launch) (D : va_G) (g : Nat → ClassId) (h0 : Nat) (u : Nat → Nat) (p0 : Int32) : CtI l yX7_isSort wsX7_isSort { frames := 0, cells := 0, slots := 0, locals := 0 } D (TY g) [.ref h0, .int p0] (fun _ => True) [(h0, .inr (7, [.ref (u 0), .ref (u 1), .ref (u 2), .ref (u 3), .ref (u 4), .ref (u 5), .ref (u 6)])), ((u 1), .inr (1, [.int 5, .int 40, .int 8, .int 0, .int 0, .int 0, .ref (u 8), .ref (u 9), .ref (u 10), .ref (u 11), .ref (u 12), .ref (u 13), .ref (u 14), .ref (u 15), .ref (u 16), .ref (u 17)]))] (fun r (_ : Unit) => r = sP_isSort p0) (fun _ => [(h0, .inr (7, [.ref (u 0), .ref (u 1), .ref (u 2), .ref (u 3), .ref (u 4), .ref (u 5), .ref (u 6)])), ((u 1), .inr (1, [.int 5, .int 40, .int 8, .int 0, .int 0, .int 0, .ref (u 8), .ref (u 9), .ref (u 10), .ref (u 11), .ref (u 12), .ref (u 13), .ref (u 14), .ref (u 15), .ref (u 16), .ref (u 17)]))]) := by
  refine CtI.intro (cc := cX7_isSort) (maxL := 2) (ret := (some .boolean)) rfl (by decide +kernel) (Nat.le_of_ble_eq_true rfl) ?_
  intro p e s m below meth c A ls C hmn hX hAe hT hl
  have hx := C.1.1
  have hb := C.1.2.1
  have hl : lv_has ls 2 [(0, .ref h0), (1, .int p0)] := hl
  have hin1 : ∀ w ∈ u_ws RX1 TX1 16, w ∈ wsX7_isSort := by decide +kernel
  have hin7 : ∀ w ∈ u_ws RX7 TX7 7, w ∈ wsX7_isSort := by decide +kernel
  refine lv_iload_n hx hb dX7_isSort_0 rfl (lv_at hl 1 rfl) ?_
  refine lv_if_lt (tgt := 19) hx hb dX7_isSort_1 (by decide +kernel) (fun c_1 => ?_) (fun c_1 => ?_)
  · refine lv_iconst (v := 0) hx hb dX7_isSort_19 (by decide +kernel) ?_
    exact z_zret C rfl rfl hT () (by unfold sP_isSort; rw [if_pos c_1]) [0, 1] rfl rfl (Nat.le_of_ble_eq_true rfl) (Nat.le_of_ble_eq_true rfl) dX7_isSort_20
  · refine lv_iload_n hx hb dX7_isSort_4 rfl (lv_at hl 1 rfl) ?_
    refine lv_aload_n hx hb dX7_isSort_5 rfl (lv_at hl 0 rfl) ?_
    refine z_get C (ci := 7) (N := 7) rfl hin7 hT 0 1 rfl rfl (by decide +kernel) (by decide +kernel) dX7_isSort_6 ?_
    refine z_get C (ci := 1) (N := 16) rfl hin1 hT 1 5 rfl rfl (by decide +kernel) (by decide +kernel) dX7_isSort_9 ?_
    refine lv_icmp_ge (tgt := 19) hx hb dX7_isSort_12 (by decide +kernel) (fun c_12 => ?_) (fun c_12 => ?_)
    · refine lv_iconst (v := 0) hx hb dX7_isSort_19 (by decide +kernel) ?_
      exact z_zret C rfl rfl hT () (by unfold sP_isSort; rw [if_neg c_1, if_pos c_12]) [0, 1] rfl rfl (Nat.le_of_ble_eq_true rfl) (Nat.le_of_ble_eq_true rfl) dX7_isSort_20
    · refine lv_iconst (v := 1) hx hb dX7_isSort_15 (by decide +kernel) ?_
      refine lv_goto (tgt := 20) hx hb dX7_isSort_16 (by decide +kernel) ?_
      exact z_zret C rfl rfl hT () (by unfold sP_isSort; rw [if_neg c_1, if_neg c_12]) [0, 1] rfl rfl (Nat.le_of_ble_eq_true rfl) (Nat.le_of_ble_eq_true rfl) dX7_isSort_20

def sP_isJoint (p0 : Int32) : Int32 := (if p0 < 0 then 0 else (if 5 ≤ p0 then 0 else 1))
set_option maxHeartbeats 4000000 in
set_option maxRecDepth 100000 in
/-- CowardsPot.isJoint on a new pot -/
theorem c_P_isJoint (l : Launch) (D : va_G) (g : Nat → ClassId) (h0 : Nat) (u : Nat → Nat) (p0 : Int32) : CtI l yX7_isJoint wsX7_isJoint { frames := 0, cells := 0, slots := 0, locals := 0 } D (TY g) [.ref h0, .int p0] (fun _ => True) [(h0, .inr (7, [.ref (u 0), .ref (u 1), .ref (u 2), .ref (u 3), .ref (u 4), .ref (u 5), .ref (u 6)])), ((u 1), .inr (1, [.int 5, .int 40, .int 8, .int 0, .int 0, .int 0, .ref (u 8), .ref (u 9), .ref (u 10), .ref (u 11), .ref (u 12), .ref (u 13), .ref (u 14), .ref (u 15), .ref (u 16), .ref (u 17)]))] (fun r (_ : Unit) => r = sP_isJoint p0) (fun _ => [(h0, .inr (7, [.ref (u 0), .ref (u 1), .ref (u 2), .ref (u 3), .ref (u 4), .ref (u 5), .ref (u 6)])), ((u 1), .inr (1, [.int 5, .int 40, .int 8, .int 0, .int 0, .int 0, .ref (u 8), .ref (u 9), .ref (u 10), .ref (u 11), .ref (u 12), .ref (u 13), .ref (u 14), .ref (u 15), .ref (u 16), .ref (u 17)]))]) := by
  refine CtI.intro (cc := cX7_isJoint) (maxL := 2) (ret := (some .boolean)) rfl (by decide +kernel) (Nat.le_of_ble_eq_true rfl) ?_
  intro p e s m below meth c A ls C hmn hX hAe hT hl
  have hx := C.1.1
  have hb := C.1.2.1
  have hl : lv_has ls 2 [(0, .ref h0), (1, .int p0)] := hl
  have hin1 : ∀ w ∈ u_ws RX1 TX1 16, w ∈ wsX7_isJoint := by decide +kernel
  have hin7 : ∀ w ∈ u_ws RX7 TX7 7, w ∈ wsX7_isJoint := by decide +kernel
  refine lv_iload_n hx hb dX7_isJoint_0 rfl (lv_at hl 1 rfl) ?_
  refine lv_if_lt (tgt := 19) hx hb dX7_isJoint_1 (by decide +kernel) (fun c_1 => ?_) (fun c_1 => ?_)
  · refine lv_iconst (v := 0) hx hb dX7_isJoint_19 (by decide +kernel) ?_
    exact z_zret C rfl rfl hT () (by unfold sP_isJoint; rw [if_pos c_1]) [0, 1] rfl rfl (Nat.le_of_ble_eq_true rfl) (Nat.le_of_ble_eq_true rfl) dX7_isJoint_20
  · refine lv_iload_n hx hb dX7_isJoint_4 rfl (lv_at hl 1 rfl) ?_
    refine lv_aload_n hx hb dX7_isJoint_5 rfl (lv_at hl 0 rfl) ?_
    refine z_get C (ci := 7) (N := 7) rfl hin7 hT 0 1 rfl rfl (by decide +kernel) (by decide +kernel) dX7_isJoint_6 ?_
    refine z_get C (ci := 1) (N := 16) rfl hin1 hT 1 0 rfl rfl (by decide +kernel) (by decide +kernel) dX7_isJoint_9 ?_
    refine lv_icmp_ge (tgt := 19) hx hb dX7_isJoint_12 (by decide +kernel) (fun c_12 => ?_) (fun c_12 => ?_)
    · refine lv_iconst (v := 0) hx hb dX7_isJoint_19 (by decide +kernel) ?_
      exact z_zret C rfl rfl hT () (by unfold sP_isJoint; rw [if_neg c_1, if_pos c_12]) [0, 1] rfl rfl (Nat.le_of_ble_eq_true rfl) (Nat.le_of_ble_eq_true rfl) dX7_isJoint_20
    · refine lv_iconst (v := 1) hx hb dX7_isJoint_15 (by decide +kernel) ?_
      refine lv_goto (tgt := 20) hx hb dX7_isJoint_16 (by decide +kernel) ?_
      exact z_zret C rfl rfl hT () (by unfold sP_isJoint; rw [if_neg c_1, if_neg c_12]) [0, 1] rfl rfl (Nat.le_of_ble_eq_true rfl) (Nat.le_of_ble_eq_true rfl) dX7_isJoint_20

def sP_isKeptPlace (p0 : Int32) : Int32 := (if p0 < 0 then 0 else (if 2 ≤ p0 then 0 else 1))
set_option maxHeartbeats 4000000 in
set_option maxRecDepth 100000 in
theorem c_P_isKeptPlace (l : Launch) (D : va_G) (g : Nat → ClassId) (p0 : Int32) : CtI l yX7_isKeptPlace wsX7_isKeptPlace { frames := 0, cells := 0, slots := 0, locals := 0 } D (TY g) [.int p0] (fun _ => True) [] (fun r (_ : Unit) => r = sP_isKeptPlace p0) (fun _ => []) := by
  refine CtI.intro (cc := cX7_isKeptPlace) (maxL := 1) (ret := (some .boolean)) rfl (by decide +kernel) (Nat.le_of_ble_eq_true rfl) ?_
  intro p e s m below meth c A ls C hmn hX hAe hT hl
  have hx := C.1.1
  have hb := C.1.2.1
  have hl : lv_has ls 1 [(0, .int p0)] := hl
  refine lv_iload_n hx hb dX7_isKeptPlace_0 rfl (lv_at hl 0 rfl) ?_
  refine lv_if_lt (tgt := 13) hx hb dX7_isKeptPlace_1 (by decide +kernel) (fun c_1 => ?_) (fun c_1 => ?_)
  · refine lv_iconst (v := 0) hx hb dX7_isKeptPlace_13 (by decide +kernel) ?_
    exact z_zret C rfl rfl hT () (by unfold sP_isKeptPlace; rw [if_pos c_1]) [] rfl rfl (Nat.le_of_ble_eq_true rfl) (Nat.le_of_ble_eq_true rfl) dX7_isKeptPlace_14
  · refine lv_iload_n hx hb dX7_isKeptPlace_4 rfl (lv_at hl 0 rfl) ?_
    refine lv_iconst (v := 2) hx hb dX7_isKeptPlace_5 (by decide +kernel) ?_
    refine lv_icmp_ge (tgt := 13) hx hb dX7_isKeptPlace_6 (by decide +kernel) (fun c_6 => ?_) (fun c_6 => ?_)
    · refine lv_iconst (v := 0) hx hb dX7_isKeptPlace_13 (by decide +kernel) ?_
      exact z_zret C rfl rfl hT () (by unfold sP_isKeptPlace; rw [if_neg c_1, if_pos c_6]) [] rfl rfl (Nat.le_of_ble_eq_true rfl) (Nat.le_of_ble_eq_true rfl) dX7_isKeptPlace_14
    · refine lv_iconst (v := 1) hx hb dX7_isKeptPlace_9 (by decide +kernel) ?_
      refine lv_goto (tgt := 14) hx hb dX7_isKeptPlace_10 (by decide +kernel) ?_
      exact z_zret C rfl rfl hT () (by unfold sP_isKeptPlace; rw [if_neg c_1, if_neg c_6]) [] rfl rfl (Nat.le_of_ble_eq_true rfl) (Nat.le_of_ble_eq_true rfl) dX7_isKeptPlace_14

theorem sP_isPerson_0 (p0 : Int32) : sP_isPerson p0 = 0 := by
  unfold sP_isPerson
  split
  · rfl
  · next h => rw [if_pos (Int32.not_lt.mp h)]
theorem sP_isSort_0 (p0 : Int32) : sP_isSort p0 = 0 := by
  unfold sP_isSort
  split
  · rfl
  · next h => rw [if_pos (Int32.not_lt.mp h)]
theorem i2_of {p0 : Int32} (h0 : ¬ p0 < 0) (h2 : ¬ 2 ≤ p0) : p0 = 0 ∨ p0 = 1 := by
  obtain ⟨j, hj, e⟩ := nI_of h0
  subst e
  have h3 : j < 2 := by
    rcases Nat.lt_or_ge j 2 with q | q
    · exact q
    · exact absurd (nI_le q hj) h2
  rcases (show j = 0 ∨ j = 1 by omega) with rfl | rfl
  · exact Or.inl rfl
  · exact Or.inr rfl
theorem sP_isKeptPlace_0 {p0 : Int32} (h0 : ¬ p0 = 0) (h1 : ¬ p0 = 1) : sP_isKeptPlace p0 = 0 := by
  unfold sP_isKeptPlace
  split
  · rfl
  · next q =>
    split
    · rfl
    · next q2 => exact ((i2_of q q2).elim h0 h1).elim

set_option maxHeartbeats 4000000 in
set_option maxRecDepth 100000 in
/-- Text.add on an empty text -/
theorem c_Text_add (l : Launch) (D : va_G) (g : Nat → ClassId) (u : Nat → Nat) (p0 : Int32) : CtV l yX6_add wsX6_add { frames := 0, cells := 0, slots := 0, locals := 0 } D (TY g) [.ref (u 0), .int p0] (fun _ => True) [((u 0), .inr (6, [.ref (u 7), .int 0])), ((u 7), .inl (g 0, 160, .inl (fun _ => 0)))] (fun _ : Unit => True) (fun _ => [((u 0), .inr (6, [.ref (u 7), .int 1]))]) := by
  refine CtV.intro (cc := cX6_add) (maxL := 2) (ret := none) rfl (by decide +kernel) (Nat.le_of_ble_eq_true rfl) ?_
  intro p e s m below meth c A ls C hmn hX hAe hT hl
  have hx := C.1.1
  have hb := C.1.2.1
  have hl : lv_has ls 2 [(0, .ref (u 0)), (1, .int p0)] := hl
  have hin6 : ∀ w ∈ u_ws RX6 TX6 2, w ∈ wsX6_add := by decide +kernel
  refine lv_aload_n hx hb dX6_add_0 rfl (lv_at hl 0 rfl) ?_
  refine z_get C (ci := 6) (N := 2) rfl hin6 hT 0 1 rfl rfl (by decide +kernel) (by decide +kernel) dX6_add_1 ?_
  refine lv_sipush (v := 160) hx hb dX6_add_4 (by decide +kernel) ?_
  refine lv_icmp_ge (tgt := 30) hx hb dX6_add_7 (by decide +kernel) (fun c9 => absurd c9 (by decide +kernel)) (fun _ => ?_)
  refine lv_aload_n hx hb dX6_add_10 rfl (lv_at hl 0 rfl) ?_
  refine z_get C (ci := 6) (N := 2) rfl hin6 hT 0 0 rfl rfl (by decide +kernel) (by decide +kernel) dX6_add_11 ?_
  refine lv_aload_n hx hb dX6_add_14 rfl (lv_at hl 0 rfl) ?_
  refine z_get C (ci := 6) (N := 2) rfl hin6 hT 0 1 rfl rfl (by decide +kernel) (by decide +kernel) dX6_add_15 ?_
  refine lv_iload_n hx hb dX6_add_18 rfl (lv_at hl 1 rfl) ?_
  refine z_iast C hT 1 0 rfl rfl (vin rfl) dX6_add_19 (upd (fun _ => 0) 0 p0) rfl [((u 0), .inr (6, [.ref (u 7), .int 0])), ((u 7), .inl (g 0, 160, .inl (upd (fun _ => 0) 0 p0)))] rfl (fun H locs hT => ?_)
  refine lv_aload_n hx hb dX6_add_20 rfl (lv_at hl 0 rfl) ?_
  refine lv_dup hx hb dX6_add_21 rfl ?_
  refine z_get C (ci := 6) (N := 2) rfl hin6 hT 0 1 rfl rfl (by decide +kernel) (by decide +kernel) dX6_add_22 ?_
  refine lv_iconst (v := 1) hx hb dX6_add_25 (by decide +kernel) ?_
  refine lv_iadd hx hb dX6_add_26 ?_
  refine z_eq (y := 1) (by decide +kernel) ?_
  refine z_put C (ci := 6) (N := 2) rfl hin6 tyX6_ok nmX6 hT 0 1 rfl (Nat.le_of_ble_eq_true rfl) (by decide +kernel) (by decide +kernel) rfl rfl rfl dX6_add_27 [((u 0), .inr (6, [.ref (u 7), .int 1])), ((u 7), .inl (g 0, 160, .inl (upd (fun _ => 0) 0 p0)))] rfl (fun H locs hT => ?_)
  exact z_vret C rfl hT () trivial [0] rfl rfl (Nat.le_of_ble_eq_true rfl) (Nat.le_of_ble_eq_true rfl) dX6_add_30

def sP_write (p0 : Int32) : Int32 := (if p0 < 0 then (-3) else (if p0 ≤ 255 then 1 else (-3)))
set_option maxHeartbeats 4000000 in
set_option maxRecDepth 100000 in
/-- CowardsPot.write on a new pot -/
theorem c_P_write (l : Launch) (D : va_G) (g : Nat → ClassId) (h0 : Nat) (u : Nat → Nat) (p0 : Int32) : CtI l yX7_write wsX7_write { frames := 1, cells := 0, slots := 0, locals := 40 } D (TY g) [.ref h0, .int p0] (fun _ => True) [(h0, .inr (7, [.ref (u 0), .ref (u 1), .ref (u 2), .ref (u 3), .ref (u 4), .ref (u 5), .ref (u 6)])), ((u 0), .inr (6, [.ref (u 7), .int 0])), ((u 7), .inl (g 0, 160, .inl (fun _ => 0)))] (fun r (_ : Unit) => r = sP_write p0) (fun _ => []) := by
  refine CtI.intro (cc := cX7_write) (maxL := 2) (ret := (some .int)) rfl (by decide +kernel) (Nat.le_of_ble_eq_true rfl) ?_
  intro p e s m below meth c A ls C hmn hX hAe hT hl
  have hx := C.1.1
  have hb := C.1.2.1
  have hl : lv_has ls 2 [(0, .ref h0), (1, .int p0)] := hl
  have hin6 : ∀ w ∈ u_ws RX6 TX6 2, w ∈ wsX7_write := by decide +kernel
  have hin7 : ∀ w ∈ u_ws RX7 TX7 7, w ∈ wsX7_write := by decide +kernel
  refine lv_iload_n hx hb dX7_write_0 rfl (lv_at hl 1 rfl) ?_
  refine lv_if_lt (tgt := 11) hx hb dX7_write_1 (by decide +kernel) (fun c_1 => ?_) (fun c_1 => ?_)
  · refine lv_bipush (v := (-3)) hx hb dX7_write_11 (by decide +kernel) ?_
    exact z_iret C rfl hT () (by unfold sP_write; rw [if_pos c_1]) [] rfl rfl (Nat.le_of_ble_eq_true rfl) (Nat.le_of_ble_eq_true rfl) dX7_write_13
  · refine lv_iload_n hx hb dX7_write_4 rfl (lv_at hl 1 rfl) ?_
    refine lv_sipush (v := 255) hx hb dX7_write_5 (by decide +kernel) ?_
    refine lv_icmp_le (tgt := 14) hx hb dX7_write_8 (by decide +kernel) (fun c_8 => ?_) (fun c_8 => ?_)
    · refine lv_aload_n hx hb dX7_write_14 rfl (lv_at hl 0 rfl) ?_
      refine z_get C (ci := 7) (N := 7) rfl hin7 hT 0 0 rfl rfl (by decide +kernel) (by decide +kernel) dX7_write_15 ?_
      refine z_get C (ci := 6) (N := 2) rfl hin6 hT 1 1 rfl rfl (by decide +kernel) (by decide +kernel) dX7_write_18 ?_
      refine lv_sipush (v := 160) hx hb dX7_write_21 (by decide +kernel) ?_
      refine lv_icmp_lt (tgt := 30) hx hb dX7_write_24 (by decide +kernel) (fun _ => ?_) (fun c9 => absurd (by decide +kernel) c9)
      refine lv_aload_n hx hb dX7_write_30 rfl (lv_at hl 0 rfl) ?_
      refine z_get C (ci := 7) (N := 7) rfl hin7 hT 0 0 rfl rfl (by decide +kernel) (by decide +kernel) dX7_write_31 ?_
      refine lv_iload_n hx hb dX7_write_34 rfl (lv_at hl 1 rfl) ?_
      refine z_callVV (wr := [(h0, .inr (7, [.ref (u 0), .ref (u 1), .ref (u 2), .ref (u 3), .ref (u 4), .ref (u 5), .ref (u 6)]))]) (n := 1) C (c_Text_add l D g u p0) gX7_write_X6_add rfl (by decide +kernel) ⟨Nat.le_of_ble_eq_true rfl, Nat.le_of_ble_eq_true rfl⟩ ⟨Nat.le_of_ble_eq_true rfl, Nat.le_of_ble_eq_true rfl⟩ blind_T (fun _ _ _ => trivial) hT [1, 2] [0] rfl rfl rfl rfl rfl 1 rfl rfl rfl rfl hl.1 rfl (Nat.le_of_ble_eq_true rfl) dX7_write_35 (fun u_1 H locs hp_2 hT => ?_)
      have hT : Sit D (TY g) A s [(h0, .inr (7, [.ref (u 0), .ref (u 1), .ref (u 2), .ref (u 3), .ref (u 4), .ref (u 5), .ref (u 6)])), ((u 0), .inr (6, [.ref (u 7), .int 1]))] H _ := hT
      refine lv_aload_n hx hb dX7_write_38 rfl (lv_at hl 0 rfl) ?_
      refine z_get C (ci := 7) (N := 7) rfl hin7 hT 0 0 rfl rfl (by decide +kernel) (by decide +kernel) dX7_write_39 ?_
      refine z_get C (ci := 6) (N := 2) rfl hin6 hT 1 1 rfl rfl (by decide +kernel) (by decide +kernel) dX7_write_42 ?_
      exact z_iret C rfl hT () (by unfold sP_write; rw [if_neg c_1, if_pos c_8]) [] rfl rfl (Nat.le_of_ble_eq_true rfl) (Nat.le_of_ble_eq_true rfl) dX7_write_45
    · refine lv_bipush (v := (-3)) hx hb dX7_write_11 (by decide +kernel) ?_
      exact z_iret C rfl hT () (by unfold sP_write; rw [if_neg c_1, if_neg c_8]) [] rfl rfl (Nat.le_of_ble_eq_true rfl) (Nat.le_of_ble_eq_true rfl) dX7_write_13

def sP_erase  : Int32 := 0
set_option maxHeartbeats 4000000 in
set_option maxRecDepth 100000 in
/-- CowardsPot.erase on a new pot -/
theorem c_P_erase (l : Launch) (D : va_G) (g : Nat → ClassId) (h0 : Nat) (u : Nat → Nat) : CtI l yX7_erase wsX7_erase { frames := 0, cells := 0, slots := 0, locals := 0 } D (TY g) [.ref h0] (fun _ => True) [(h0, .inr (7, [.ref (u 0), .ref (u 1), .ref (u 2), .ref (u 3), .ref (u 4), .ref (u 5), .ref (u 6)])), ((u 0), .inr (6, [.ref (u 7), .int 0]))] (fun r (_ : Unit) => r = sP_erase ) (fun _ => []) := by
  refine CtI.intro (cc := cX7_erase) (maxL := 2) (ret := (some .int)) rfl (by decide +kernel) (Nat.le_of_ble_eq_true rfl) ?_
  intro p e s m below meth c A ls C hmn hX hAe hT hl
  have hx := C.1.1
  have hb := C.1.2.1
  have hl : lv_has ls 2 [(0, .ref h0)] := hl
  have hin6 : ∀ w ∈ u_ws RX6 TX6 2, w ∈ wsX7_erase := by decide +kernel
  have hin7 : ∀ w ∈ u_ws RX7 TX7 7, w ∈ wsX7_erase := by decide +kernel
  refine lv_aload_n hx hb dX7_erase_0 rfl (lv_at hl 0 rfl) ?_
  refine z_get C (ci := 7) (N := 7) rfl hin7 hT 0 0 rfl rfl (by decide +kernel) (by decide +kernel) dX7_erase_1 ?_
  refine z_get C (ci := 6) (N := 2) rfl hin6 hT 1 1 rfl rfl (by decide +kernel) (by decide +kernel) dX7_erase_4 ?_
  refine lv_istore_n (lv' := [(1, .int 0), (0, .ref h0)]) hx hb dX7_erase_7 rfl hl (by decide +kernel) rfl (fun ls hl => ?_)
  refine lv_aload_n hx hb dX7_erase_8 rfl (lv_at hl 1 rfl) ?_
  refine z_get C (ci := 7) (N := 7) rfl hin7 hT 0 0 rfl rfl (by decide +kernel) (by decide +kernel) dX7_erase_9 ?_
  refine lv_iconst (v := 0) hx hb dX7_erase_12 (by decide +kernel) ?_
  refine z_put C (ci := 6) (N := 2) rfl hin6 tyX6_ok nmX6 hT 1 1 rfl (Nat.le_of_ble_eq_true rfl) (by decide +kernel) (by decide +kernel) rfl rfl rfl dX7_erase_13 [(h0, .inr (7, [.ref (u 0), .ref (u 1), .ref (u 2), .ref (u 3), .ref (u 4), .ref (u 5), .ref (u 6)])), ((u 0), .inr (6, [.ref (u 7), .int 0]))] rfl (fun H locs hT => ?_)
  refine lv_iload_n hx hb dX7_erase_16 rfl (lv_at hl 0 rfl) ?_
  exact z_iret C rfl hT () rfl [] rfl rfl (Nat.le_of_ble_eq_true rfl) (Nat.le_of_ble_eq_true rfl) dX7_erase_17

def sP_person (p0 p1 : Int32) : Int32 := (-2)
set_option maxHeartbeats 4000000 in
set_option maxRecDepth 100000 in
/-- CowardsPot.person on a new pot -/
theorem c_P_person (l : Launch) (D : va_G) (g : Nat → ClassId) (h0 : Nat) (u : Nat → Nat) (p0 p1 : Int32) : CtI l yX7_person wsX7_person { frames := 1, cells := 0, slots := 0, locals := 40 } D (TY g) [.ref h0, .int p0, .int p1] (fun _ => True) [(h0, .inr (7, [.ref (u 0), .ref (u 1), .ref (u 2), .ref (u 3), .ref (u 4), .ref (u 5), .ref (u 6)])), ((u 1), .inr (1, [.int 5, .int 40, .int 8, .int 0, .int 0, .int 0, .ref (u 8), .ref (u 9), .ref (u 10), .ref (u 11), .ref (u 12), .ref (u 13), .ref (u 14), .ref (u 15), .ref (u 16), .ref (u 17)]))] (fun r (_ : Unit) => r = sP_person p0 p1) (fun _ => []) := by
  refine CtI.intro (cc := cX7_person) (maxL := 3) (ret := (some .int)) rfl (by decide +kernel) (Nat.le_of_ble_eq_true rfl) ?_
  intro p e s m below meth c A ls C hmn hX hAe hT hl
  have hx := C.1.1
  have hb := C.1.2.1
  have hl : lv_has ls 3 [(0, .ref h0), (1, .int p0), (2, .int p1)] := hl
  refine lv_aload_n hx hb dX7_person_0 rfl (lv_at hl 0 rfl) ?_
  refine lv_iload_n hx hb dX7_person_1 rfl (lv_at hl 1 rfl) ?_
  refine z_callVI (wr := []) (n := 1) C (c_P_isPerson l D g h0 u p0) gX7_person_X7_isPerson rfl (by decide +kernel) ⟨Nat.le_of_ble_eq_true rfl, Nat.le_of_ble_eq_true rfl⟩ ⟨Nat.le_of_ble_eq_true rfl, Nat.le_of_ble_eq_true rfl⟩ blind_T (fun _ _ _ => trivial) hT [0, 1] [] rfl rfl rfl rfl rfl 0 rfl rfl rfl rfl hl.1 rfl (Nat.le_of_ble_eq_true rfl) dX7_person_2 (fun r_3 u_1 H locs hp_2 hT => ?_)
  have hT : Sit D (TY g) A s [(h0, .inr (7, [.ref (u 0), .ref (u 1), .ref (u 2), .ref (u 3), .ref (u 4), .ref (u 5), .ref (u 6)])), ((u 1), .inr (1, [.int 5, .int 40, .int 8, .int 0, .int 0, .int 0, .ref (u 8), .ref (u 9), .ref (u 10), .ref (u 11), .ref (u 12), .ref (u 13), .ref (u 14), .ref (u 15), .ref (u 16), .ref (u 17)]))] H _ := hT
  have hp_2 := hp_2.trans (sP_isPerson_0 p0)
  subst hp_2
  refine lv_if_ne (tgt := 11) hx hb dX7_person_5 (by decide +kernel) (fun c9 => absurd c9 (by decide +kernel)) (fun _ => ?_)
  refine lv_bipush (v := (-2)) hx hb dX7_person_8 (by decide +kernel) ?_
  exact z_iret C rfl hT () rfl [] rfl rfl (Nat.le_of_ble_eq_true rfl) (Nat.le_of_ble_eq_true rfl) dX7_person_10

def sP_sort (p0 p1 : Int32) : Int32 := (-2)
set_option maxHeartbeats 4000000 in
set_option maxRecDepth 100000 in
/-- CowardsPot.sort on a new pot -/
theorem c_P_sort (l : Launch) (D : va_G) (g : Nat → ClassId) (h0 : Nat) (u : Nat → Nat) (p0 p1 : Int32) : CtI l yX7_sort wsX7_sort { frames := 1, cells := 0, slots := 0, locals := 40 } D (TY g) [.ref h0, .int p0, .int p1] (fun _ => True) [(h0, .inr (7, [.ref (u 0), .ref (u 1), .ref (u 2), .ref (u 3), .ref (u 4), .ref (u 5), .ref (u 6)])), ((u 1), .inr (1, [.int 5, .int 40, .int 8, .int 0, .int 0, .int 0, .ref (u 8), .ref (u 9), .ref (u 10), .ref (u 11), .ref (u 12), .ref (u 13), .ref (u 14), .ref (u 15), .ref (u 16), .ref (u 17)]))] (fun r (_ : Unit) => r = sP_sort p0 p1) (fun _ => []) := by
  refine CtI.intro (cc := cX7_sort) (maxL := 3) (ret := (some .int)) rfl (by decide +kernel) (Nat.le_of_ble_eq_true rfl) ?_
  intro p e s m below meth c A ls C hmn hX hAe hT hl
  have hx := C.1.1
  have hb := C.1.2.1
  have hl : lv_has ls 3 [(0, .ref h0), (1, .int p0), (2, .int p1)] := hl
  refine lv_aload_n hx hb dX7_sort_0 rfl (lv_at hl 0 rfl) ?_
  refine lv_iload_n hx hb dX7_sort_1 rfl (lv_at hl 1 rfl) ?_
  refine z_callVI (wr := []) (n := 1) C (c_P_isSort l D g h0 u p0) gX7_sort_X7_isSort rfl (by decide +kernel) ⟨Nat.le_of_ble_eq_true rfl, Nat.le_of_ble_eq_true rfl⟩ ⟨Nat.le_of_ble_eq_true rfl, Nat.le_of_ble_eq_true rfl⟩ blind_T (fun _ _ _ => trivial) hT [0, 1] [] rfl rfl rfl rfl rfl 0 rfl rfl rfl rfl hl.1 rfl (Nat.le_of_ble_eq_true rfl) dX7_sort_2 (fun r_3 u_1 H locs hp_2 hT => ?_)
  have hT : Sit D (TY g) A s [(h0, .inr (7, [.ref (u 0), .ref (u 1), .ref (u 2), .ref (u 3), .ref (u 4), .ref (u 5), .ref (u 6)])), ((u 1), .inr (1, [.int 5, .int 40, .int 8, .int 0, .int 0, .int 0, .ref (u 8), .ref (u 9), .ref (u 10), .ref (u 11), .ref (u 12), .ref (u 13), .ref (u 14), .ref (u 15), .ref (u 16), .ref (u 17)]))] H _ := hT
  have hp_2 := hp_2.trans (sP_isSort_0 p0)
  subst hp_2
  refine lv_if_ne (tgt := 11) hx hb dX7_sort_5 (by decide +kernel) (fun c9 => absurd c9 (by decide +kernel)) (fun _ => ?_)
  refine lv_bipush (v := (-2)) hx hb dX7_sort_8 (by decide +kernel) ?_
  exact z_iret C rfl hT () rfl [] rfl rfl (Nat.le_of_ble_eq_true rfl) (Nat.le_of_ble_eq_true rfl) dX7_sort_10

def sP_as (p0 p1 : Int32) : Int32 := (-2)
set_option maxHeartbeats 4000000 in
set_option maxRecDepth 100000 in
/-- CowardsPot.as on a new pot -/
theorem c_P_as (l : Launch) (D : va_G) (g : Nat → ClassId) (h0 : Nat) (u : Nat → Nat) (p0 p1 : Int32) : CtI l yX7_as wsX7_as { frames := 1, cells := 0, slots := 0, locals := 40 } D (TY g) [.ref h0, .int p0, .int p1] (fun _ => True) [(h0, .inr (7, [.ref (u 0), .ref (u 1), .ref (u 2), .ref (u 3), .ref (u 4), .ref (u 5), .ref (u 6)])), ((u 1), .inr (1, [.int 5, .int 40, .int 8, .int 0, .int 0, .int 0, .ref (u 8), .ref (u 9), .ref (u 10), .ref (u 11), .ref (u 12), .ref (u 13), .ref (u 14), .ref (u 15), .ref (u 16), .ref (u 17)]))] (fun r (_ : Unit) => r = sP_as p0 p1) (fun _ => []) := by
  refine CtI.intro (cc := cX7_as) (maxL := 3) (ret := (some .int)) rfl (by decide +kernel) (Nat.le_of_ble_eq_true rfl) ?_
  intro p e s m below meth c A ls C hmn hX hAe hT hl
  have hx := C.1.1
  have hb := C.1.2.1
  have hl : lv_has ls 3 [(0, .ref h0), (1, .int p0), (2, .int p1)] := hl
  refine lv_aload_n hx hb dX7_as_0 rfl (lv_at hl 0 rfl) ?_
  refine lv_iload_n hx hb dX7_as_1 rfl (lv_at hl 1 rfl) ?_
  refine z_callVI (wr := []) (n := 1) C (c_P_isPerson l D g h0 u p0) gX7_as_X7_isPerson rfl (by decide +kernel) ⟨Nat.le_of_ble_eq_true rfl, Nat.le_of_ble_eq_true rfl⟩ ⟨Nat.le_of_ble_eq_true rfl, Nat.le_of_ble_eq_true rfl⟩ blind_T (fun _ _ _ => trivial) hT [0, 1] [] rfl rfl rfl rfl rfl 0 rfl rfl rfl rfl hl.1 rfl (Nat.le_of_ble_eq_true rfl) dX7_as_2 (fun r_3 u_1 H locs hp_2 hT => ?_)
  have hT : Sit D (TY g) A s [(h0, .inr (7, [.ref (u 0), .ref (u 1), .ref (u 2), .ref (u 3), .ref (u 4), .ref (u 5), .ref (u 6)])), ((u 1), .inr (1, [.int 5, .int 40, .int 8, .int 0, .int 0, .int 0, .ref (u 8), .ref (u 9), .ref (u 10), .ref (u 11), .ref (u 12), .ref (u 13), .ref (u 14), .ref (u 15), .ref (u 16), .ref (u 17)]))] H _ := hT
  have hp_2 := hp_2.trans (sP_isPerson_0 p0)
  subst hp_2
  refine lv_if_ne (tgt := 11) hx hb dX7_as_5 (by decide +kernel) (fun c9 => absurd c9 (by decide +kernel)) (fun _ => ?_)
  refine lv_bipush (v := (-2)) hx hb dX7_as_8 (by decide +kernel) ?_
  exact z_iret C rfl hT () rfl [] rfl rfl (Nat.le_of_ble_eq_true rfl) (Nat.le_of_ble_eq_true rfl) dX7_as_10

def sP_deed (p0 p1 : Int32) : Int32 := (-2)
set_option maxHeartbeats 4000000 in
set_option maxRecDepth 100000 in
/-- CowardsPot.deed on a new pot -/
theorem c_P_deed (l : Launch) (D : va_G) (g : Nat → ClassId) (h0 : Nat) (u : Nat → Nat) (p0 p1 : Int32) : CtI l yX7_deed wsX7_deed { frames := 1, cells := 0, slots := 0, locals := 40 } D (TY g) [.ref h0, .int p0, .int p1] (fun _ => True) [(h0, .inr (7, [.ref (u 0), .ref (u 1), .ref (u 2), .ref (u 3), .ref (u 4), .ref (u 5), .ref (u 6)])), ((u 1), .inr (1, [.int 5, .int 40, .int 8, .int 0, .int 0, .int 0, .ref (u 8), .ref (u 9), .ref (u 10), .ref (u 11), .ref (u 12), .ref (u 13), .ref (u 14), .ref (u 15), .ref (u 16), .ref (u 17)]))] (fun r (_ : Unit) => r = sP_deed p0 p1) (fun _ => []) := by
  refine CtI.intro (cc := cX7_deed) (maxL := 3) (ret := (some .int)) rfl (by decide +kernel) (Nat.le_of_ble_eq_true rfl) ?_
  intro p e s m below meth c A ls C hmn hX hAe hT hl
  have hx := C.1.1
  have hb := C.1.2.1
  have hl : lv_has ls 3 [(0, .ref h0), (1, .int p0), (2, .int p1)] := hl
  refine lv_aload_n hx hb dX7_deed_0 rfl (lv_at hl 0 rfl) ?_
  refine lv_iload_n hx hb dX7_deed_1 rfl (lv_at hl 1 rfl) ?_
  refine z_callVI (wr := []) (n := 1) C (c_P_isPerson l D g h0 u p0) gX7_deed_X7_isPerson rfl (by decide +kernel) ⟨Nat.le_of_ble_eq_true rfl, Nat.le_of_ble_eq_true rfl⟩ ⟨Nat.le_of_ble_eq_true rfl, Nat.le_of_ble_eq_true rfl⟩ blind_T (fun _ _ _ => trivial) hT [0, 1] [] rfl rfl rfl rfl rfl 0 rfl rfl rfl rfl hl.1 rfl (Nat.le_of_ble_eq_true rfl) dX7_deed_2 (fun r_3 u_1 H locs hp_2 hT => ?_)
  have hT : Sit D (TY g) A s [(h0, .inr (7, [.ref (u 0), .ref (u 1), .ref (u 2), .ref (u 3), .ref (u 4), .ref (u 5), .ref (u 6)])), ((u 1), .inr (1, [.int 5, .int 40, .int 8, .int 0, .int 0, .int 0, .ref (u 8), .ref (u 9), .ref (u 10), .ref (u 11), .ref (u 12), .ref (u 13), .ref (u 14), .ref (u 15), .ref (u 16), .ref (u 17)]))] H _ := hT
  have hp_2 := hp_2.trans (sP_isPerson_0 p0)
  subst hp_2
  refine lv_if_eq (tgt := 16) hx hb dX7_deed_5 (by decide +kernel) (fun _ => ?_) (fun c9 => absurd (by decide +kernel) c9)
  refine lv_bipush (v := (-2)) hx hb dX7_deed_16 (by decide +kernel) ?_
  exact z_iret C rfl hT () rfl [] rfl rfl (Nat.le_of_ble_eq_true rfl) (Nat.le_of_ble_eq_true rfl) dX7_deed_18

def sP_gets (p0 : Int32) : Int32 := (-2)
set_option maxHeartbeats 4000000 in
set_option maxRecDepth 100000 in
/-- CowardsPot.gets on a new pot -/
theorem c_P_gets (l : Launch) (D : va_G) (g : Nat → ClassId) (h0 : Nat) (u : Nat → Nat) (p0 : Int32) : CtI l yX7_gets wsX7_gets { frames := 1, cells := 0, slots := 0, locals := 40 } D (TY g) [.ref h0, .int p0] (fun _ => True) [(h0, .inr (7, [.ref (u 0), .ref (u 1), .ref (u 2), .ref (u 3), .ref (u 4), .ref (u 5), .ref (u 6)])), ((u 1), .inr (1, [.int 5, .int 40, .int 8, .int 0, .int 0, .int 0, .ref (u 8), .ref (u 9), .ref (u 10), .ref (u 11), .ref (u 12), .ref (u 13), .ref (u 14), .ref (u 15), .ref (u 16), .ref (u 17)]))] (fun r (_ : Unit) => r = sP_gets p0) (fun _ => []) := by
  refine CtI.intro (cc := cX7_gets) (maxL := 2) (ret := (some .int)) rfl (by decide +kernel) (Nat.le_of_ble_eq_true rfl) ?_
  intro p e s m below meth c A ls C hmn hX hAe hT hl
  have hx := C.1.1
  have hb := C.1.2.1
  have hl : lv_has ls 2 [(0, .ref h0), (1, .int p0)] := hl
  refine lv_aload_n hx hb dX7_gets_0 rfl (lv_at hl 0 rfl) ?_
  refine lv_iload_n hx hb dX7_gets_1 rfl (lv_at hl 1 rfl) ?_
  refine z_callVI (wr := []) (n := 1) C (c_P_isPerson l D g h0 u p0) gX7_gets_X7_isPerson rfl (by decide +kernel) ⟨Nat.le_of_ble_eq_true rfl, Nat.le_of_ble_eq_true rfl⟩ ⟨Nat.le_of_ble_eq_true rfl, Nat.le_of_ble_eq_true rfl⟩ blind_T (fun _ _ _ => trivial) hT [0, 1] [] rfl rfl rfl rfl rfl 0 rfl rfl rfl rfl hl.1 rfl (Nat.le_of_ble_eq_true rfl) dX7_gets_2 (fun r_3 u_1 H locs hp_2 hT => ?_)
  have hT : Sit D (TY g) A s [(h0, .inr (7, [.ref (u 0), .ref (u 1), .ref (u 2), .ref (u 3), .ref (u 4), .ref (u 5), .ref (u 6)])), ((u 1), .inr (1, [.int 5, .int 40, .int 8, .int 0, .int 0, .int 0, .ref (u 8), .ref (u 9), .ref (u 10), .ref (u 11), .ref (u 12), .ref (u 13), .ref (u 14), .ref (u 15), .ref (u 16), .ref (u 17)]))] H _ := hT
  have hp_2 := hp_2.trans (sP_isPerson_0 p0)
  subst hp_2
  refine lv_if_ne (tgt := 11) hx hb dX7_gets_5 (by decide +kernel) (fun c9 => absurd c9 (by decide +kernel)) (fun _ => ?_)
  refine lv_bipush (v := (-2)) hx hb dX7_gets_8 (by decide +kernel) ?_
  exact z_iret C rfl hT () rfl [] rfl rfl (Nat.le_of_ble_eq_true rfl) (Nat.le_of_ble_eq_true rfl) dX7_gets_10

def sP_need (p0 p1 : Int32) : Int32 := (-2)
set_option maxHeartbeats 4000000 in
set_option maxRecDepth 100000 in
/-- CowardsPot.need on a new pot -/
theorem c_P_need (l : Launch) (D : va_G) (g : Nat → ClassId) (h0 : Nat) (u : Nat → Nat) (p0 p1 : Int32) : CtI l yX7_need wsX7_need { frames := 1, cells := 0, slots := 0, locals := 40 } D (TY g) [.ref h0, .int p0, .int p1] (fun _ => True) [(h0, .inr (7, [.ref (u 0), .ref (u 1), .ref (u 2), .ref (u 3), .ref (u 4), .ref (u 5), .ref (u 6)])), ((u 1), .inr (1, [.int 5, .int 40, .int 8, .int 0, .int 0, .int 0, .ref (u 8), .ref (u 9), .ref (u 10), .ref (u 11), .ref (u 12), .ref (u 13), .ref (u 14), .ref (u 15), .ref (u 16), .ref (u 17)]))] (fun r (_ : Unit) => r = sP_need p0 p1) (fun _ => []) := by
  refine CtI.intro (cc := cX7_need) (maxL := 3) (ret := (some .int)) rfl (by decide +kernel) (Nat.le_of_ble_eq_true rfl) ?_
  intro p e s m below meth c A ls C hmn hX hAe hT hl
  have hx := C.1.1
  have hb := C.1.2.1
  have hl : lv_has ls 3 [(0, .ref h0), (1, .int p0), (2, .int p1)] := hl
  refine lv_aload_n hx hb dX7_need_0 rfl (lv_at hl 0 rfl) ?_
  refine lv_iload_n hx hb dX7_need_1 rfl (lv_at hl 1 rfl) ?_
  refine z_callVI (wr := []) (n := 1) C (c_P_isPerson l D g h0 u p0) gX7_need_X7_isPerson rfl (by decide +kernel) ⟨Nat.le_of_ble_eq_true rfl, Nat.le_of_ble_eq_true rfl⟩ ⟨Nat.le_of_ble_eq_true rfl, Nat.le_of_ble_eq_true rfl⟩ blind_T (fun _ _ _ => trivial) hT [0, 1] [] rfl rfl rfl rfl rfl 0 rfl rfl rfl rfl hl.1 rfl (Nat.le_of_ble_eq_true rfl) dX7_need_2 (fun r_3 u_1 H locs hp_2 hT => ?_)
  have hT : Sit D (TY g) A s [(h0, .inr (7, [.ref (u 0), .ref (u 1), .ref (u 2), .ref (u 3), .ref (u 4), .ref (u 5), .ref (u 6)])), ((u 1), .inr (1, [.int 5, .int 40, .int 8, .int 0, .int 0, .int 0, .ref (u 8), .ref (u 9), .ref (u 10), .ref (u 11), .ref (u 12), .ref (u 13), .ref (u 14), .ref (u 15), .ref (u 16), .ref (u 17)]))] H _ := hT
  have hp_2 := hp_2.trans (sP_isPerson_0 p0)
  subst hp_2
  refine lv_if_eq (tgt := 16) hx hb dX7_need_5 (by decide +kernel) (fun _ => ?_) (fun c9 => absurd (by decide +kernel) c9)
  refine lv_bipush (v := (-2)) hx hb dX7_need_16 (by decide +kernel) ?_
  exact z_iret C rfl hT () rfl [] rfl rfl (Nat.le_of_ble_eq_true rfl) (Nat.le_of_ble_eq_true rfl) dX7_need_18

def sP_deeds (p0 p1 p2 : Int32) : Int32 := (-2)
set_option maxHeartbeats 4000000 in
set_option maxRecDepth 100000 in
/-- CowardsPot.deeds on a new pot -/
theorem c_P_deeds (l : Launch) (D : va_G) (g : Nat → ClassId) (h0 : Nat) (u : Nat → Nat) (p0 p1 p2 : Int32) : CtI l yX7_deeds wsX7_deeds { frames := 1, cells := 0, slots := 0, locals := 40 } D (TY g) [.ref h0, .int p0, .int p1, .int p2] (fun _ => True) [(h0, .inr (7, [.ref (u 0), .ref (u 1), .ref (u 2), .ref (u 3), .ref (u 4), .ref (u 5), .ref (u 6)])), ((u 1), .inr (1, [.int 5, .int 40, .int 8, .int 0, .int 0, .int 0, .ref (u 8), .ref (u 9), .ref (u 10), .ref (u 11), .ref (u 12), .ref (u 13), .ref (u 14), .ref (u 15), .ref (u 16), .ref (u 17)]))] (fun r (_ : Unit) => r = sP_deeds p0 p1 p2) (fun _ => []) := by
  refine CtI.intro (cc := cX7_deeds) (maxL := 4) (ret := (some .int)) rfl (by decide +kernel) (Nat.le_of_ble_eq_true rfl) ?_
  intro p e s m below meth c A ls C hmn hX hAe hT hl
  have hx := C.1.1
  have hb := C.1.2.1
  have hl : lv_has ls 4 [(0, .ref h0), (1, .int p0), (2, .int p1), (3, .int p2)] := hl
  refine lv_aload_n hx hb dX7_deeds_0 rfl (lv_at hl 0 rfl) ?_
  refine lv_iload_n hx hb dX7_deeds_1 rfl (lv_at hl 1 rfl) ?_
  refine z_callVI (wr := []) (n := 1) C (c_P_isPerson l D g h0 u p0) gX7_deeds_X7_isPerson rfl (by decide +kernel) ⟨Nat.le_of_ble_eq_true rfl, Nat.le_of_ble_eq_true rfl⟩ ⟨Nat.le_of_ble_eq_true rfl, Nat.le_of_ble_eq_true rfl⟩ blind_T (fun _ _ _ => trivial) hT [0, 1] [] rfl rfl rfl rfl rfl 0 rfl rfl rfl rfl hl.1 rfl (Nat.le_of_ble_eq_true rfl) dX7_deeds_2 (fun r_3 u_1 H locs hp_2 hT => ?_)
  have hT : Sit D (TY g) A s [(h0, .inr (7, [.ref (u 0), .ref (u 1), .ref (u 2), .ref (u 3), .ref (u 4), .ref (u 5), .ref (u 6)])), ((u 1), .inr (1, [.int 5, .int 40, .int 8, .int 0, .int 0, .int 0, .ref (u 8), .ref (u 9), .ref (u 10), .ref (u 11), .ref (u 12), .ref (u 13), .ref (u 14), .ref (u 15), .ref (u 16), .ref (u 17)]))] H _ := hT
  have hp_2 := hp_2.trans (sP_isPerson_0 p0)
  subst hp_2
  refine lv_if_eq (tgt := 16) hx hb dX7_deeds_5 (by decide +kernel) (fun _ => ?_) (fun c9 => absurd (by decide +kernel) c9)
  refine lv_bipush (v := (-2)) hx hb dX7_deeds_16 (by decide +kernel) ?_
  exact z_iret C rfl hT () rfl [] rfl rfl (Nat.le_of_ble_eq_true rfl) (Nat.le_of_ble_eq_true rfl) dX7_deeds_18

def sP_chance (p0 p1 p2 p3 p4 : Int32) : Int32 := (-2)
set_option maxHeartbeats 4000000 in
set_option maxRecDepth 100000 in
/-- CowardsPot.chance on a new pot -/
theorem c_P_chance (l : Launch) (D : va_G) (g : Nat → ClassId) (h0 : Nat) (u : Nat → Nat) (p0 p1 p2 p3 p4 : Int32) : CtI l yX7_chance wsX7_chance { frames := 1, cells := 0, slots := 0, locals := 40 } D (TY g) [.ref h0, .int p0, .int p1, .int p2, .int p3, .int p4] (fun _ => True) [(h0, .inr (7, [.ref (u 0), .ref (u 1), .ref (u 2), .ref (u 3), .ref (u 4), .ref (u 5), .ref (u 6)])), ((u 1), .inr (1, [.int 5, .int 40, .int 8, .int 0, .int 0, .int 0, .ref (u 8), .ref (u 9), .ref (u 10), .ref (u 11), .ref (u 12), .ref (u 13), .ref (u 14), .ref (u 15), .ref (u 16), .ref (u 17)]))] (fun r (_ : Unit) => r = sP_chance p0 p1 p2 p3 p4) (fun _ => []) := by
  refine CtI.intro (cc := cX7_chance) (maxL := 9) (ret := (some .int)) rfl (by decide +kernel) (Nat.le_of_ble_eq_true rfl) ?_
  intro p e s m below meth c A ls C hmn hX hAe hT hl
  have hx := C.1.1
  have hb := C.1.2.1
  have hl : lv_has ls 9 [(0, .ref h0), (1, .int p0), (2, .int p1), (3, .int p2), (4, .int p3), (5, .int p4)] := hl
  refine lv_aload_n hx hb dX7_chance_0 rfl (lv_at hl 0 rfl) ?_
  refine lv_iload_n hx hb dX7_chance_1 rfl (lv_at hl 1 rfl) ?_
  refine z_callVI (wr := []) (n := 1) C (c_P_isPerson l D g h0 u p0) gX7_chance_X7_isPerson rfl (by decide +kernel) ⟨Nat.le_of_ble_eq_true rfl, Nat.le_of_ble_eq_true rfl⟩ ⟨Nat.le_of_ble_eq_true rfl, Nat.le_of_ble_eq_true rfl⟩ blind_T (fun _ _ _ => trivial) hT [0, 1] [] rfl rfl rfl rfl rfl 0 rfl rfl rfl rfl hl.1 rfl (Nat.le_of_ble_eq_true rfl) dX7_chance_2 (fun r_3 u_1 H locs hp_2 hT => ?_)
  have hT : Sit D (TY g) A s [(h0, .inr (7, [.ref (u 0), .ref (u 1), .ref (u 2), .ref (u 3), .ref (u 4), .ref (u 5), .ref (u 6)])), ((u 1), .inr (1, [.int 5, .int 40, .int 8, .int 0, .int 0, .int 0, .ref (u 8), .ref (u 9), .ref (u 10), .ref (u 11), .ref (u 12), .ref (u 13), .ref (u 14), .ref (u 15), .ref (u 16), .ref (u 17)]))] H _ := hT
  have hp_2 := hp_2.trans (sP_isPerson_0 p0)
  subst hp_2
  refine lv_if_eq (tgt := 24) hx hb dX7_chance_5 (by decide +kernel) (fun _ => ?_) (fun c9 => absurd (by decide +kernel) c9)
  refine lv_bipush (v := (-2)) hx hb dX7_chance_24 (by decide +kernel) ?_
  exact z_iret C rfl hT () rfl [] rfl rfl (Nat.le_of_ble_eq_true rfl) (Nat.le_of_ble_eq_true rfl) dX7_chance_26

def sP_feast  : Int32 := (-4)
set_option maxHeartbeats 4000000 in
set_option maxRecDepth 100000 in
/-- CowardsPot.feast on a new pot -/
theorem c_P_feast (l : Launch) (D : va_G) (g : Nat → ClassId) (h0 : Nat) (u : Nat → Nat) : CtI l yX7_feast wsX7_feast { frames := 0, cells := 0, slots := 0, locals := 0 } D (TY g) [.ref h0] (fun _ => True) [(h0, .inr (7, [.ref (u 0), .ref (u 1), .ref (u 2), .ref (u 3), .ref (u 4), .ref (u 5), .ref (u 6)])), ((u 1), .inr (1, [.int 5, .int 40, .int 8, .int 0, .int 0, .int 0, .ref (u 8), .ref (u 9), .ref (u 10), .ref (u 11), .ref (u 12), .ref (u 13), .ref (u 14), .ref (u 15), .ref (u 16), .ref (u 17)]))] (fun r (_ : Unit) => r = sP_feast ) (fun _ => []) := by
  refine CtI.intro (cc := cX7_feast) (maxL := 1) (ret := (some .int)) rfl (by decide +kernel) (Nat.le_of_ble_eq_true rfl) ?_
  intro p e s m below meth c A ls C hmn hX hAe hT hl
  have hx := C.1.1
  have hb := C.1.2.1
  have hl : lv_has ls 1 [(0, .ref h0)] := hl
  have hin1 : ∀ w ∈ u_ws RX1 TX1 16, w ∈ wsX7_feast := by decide +kernel
  have hin7 : ∀ w ∈ u_ws RX7 TX7 7, w ∈ wsX7_feast := by decide +kernel
  refine lv_aload_n hx hb dX7_feast_0 rfl (lv_at hl 0 rfl) ?_
  refine z_get C (ci := 7) (N := 7) rfl hin7 hT 0 1 rfl rfl (by decide +kernel) (by decide +kernel) dX7_feast_1 ?_
  refine z_get C (ci := 1) (N := 16) rfl hin1 hT 1 4 rfl rfl (by decide +kernel) (by decide +kernel) dX7_feast_4 ?_
  refine lv_if_ne (tgt := 13) hx hb dX7_feast_7 (by decide +kernel) (fun c9 => absurd c9 (by decide +kernel)) (fun _ => ?_)
  refine lv_bipush (v := (-4)) hx hb dX7_feast_10 (by decide +kernel) ?_
  exact z_iret C rfl hT () rfl [] rfl rfl (Nat.le_of_ble_eq_true rfl) (Nat.le_of_ble_eq_true rfl) dX7_feast_12

def sP_undo  : Int32 := (-4)
set_option maxHeartbeats 4000000 in
set_option maxRecDepth 100000 in
/-- CowardsPot.undo on a new pot -/
theorem c_P_undo (l : Launch) (D : va_G) (g : Nat → ClassId) (h0 : Nat) (u : Nat → Nat) : CtI l yX7_undo wsX7_undo { frames := 0, cells := 0, slots := 0, locals := 0 } D (TY g) [.ref h0] (fun _ => True) [(h0, .inr (7, [.ref (u 0), .ref (u 1), .ref (u 2), .ref (u 3), .ref (u 4), .ref (u 5), .ref (u 6)])), ((u 3), .inr (3, [.ref (u 29), .int 0, .int 0]))] (fun r (_ : Unit) => r = sP_undo ) (fun _ => []) := by
  refine CtI.intro (cc := cX7_undo) (maxL := 1) (ret := (some .int)) rfl (by decide +kernel) (Nat.le_of_ble_eq_true rfl) ?_
  intro p e s m below meth c A ls C hmn hX hAe hT hl
  have hx := C.1.1
  have hb := C.1.2.1
  have hl : lv_has ls 1 [(0, .ref h0)] := hl
  have hin3 : ∀ w ∈ u_ws RX3 TX3 3, w ∈ wsX7_undo := by decide +kernel
  have hin7 : ∀ w ∈ u_ws RX7 TX7 7, w ∈ wsX7_undo := by decide +kernel
  refine lv_aload_n hx hb dX7_undo_0 rfl (lv_at hl 0 rfl) ?_
  refine z_get C (ci := 7) (N := 7) rfl hin7 hT 0 3 rfl rfl (by decide +kernel) (by decide +kernel) dX7_undo_1 ?_
  refine z_get C (ci := 3) (N := 3) rfl hin3 hT 1 2 rfl rfl (by decide +kernel) (by decide +kernel) dX7_undo_4 ?_
  refine lv_if_ne (tgt := 13) hx hb dX7_undo_7 (by decide +kernel) (fun c9 => absurd c9 (by decide +kernel)) (fun _ => ?_)
  refine lv_bipush (v := (-4)) hx hb dX7_undo_10 (by decide +kernel) ?_
  exact z_iret C rfl hT () rfl [] rfl rfl (Nat.le_of_ble_eq_true rfl) (Nat.le_of_ble_eq_true rfl) dX7_undo_12

def sP_forget  : Int32 := 0
set_option maxHeartbeats 4000000 in
set_option maxRecDepth 100000 in
/-- CowardsPot.forget on a new pot -/
theorem c_P_forget (l : Launch) (D : va_G) (g : Nat → ClassId) (h0 : Nat) (u : Nat → Nat) : CtI l yX7_forget wsX7_forget { frames := 0, cells := 0, slots := 0, locals := 0 } D (TY g) [.ref h0] (fun _ => True) [(h0, .inr (7, [.ref (u 0), .ref (u 1), .ref (u 2), .ref (u 3), .ref (u 4), .ref (u 5), .ref (u 6)])), ((u 5), .inr (5, [.ref (u 69), .ref (u 70), .int 0, .int 0, .int (-1), .int (-1), .ref (u 71), .ref (u 72)]))] (fun r (_ : Unit) => r = sP_forget ) (fun _ => []) := by
  refine CtI.intro (cc := cX7_forget) (maxL := 2) (ret := (some .int)) rfl (by decide +kernel) (Nat.le_of_ble_eq_true rfl) ?_
  intro p e s m below meth c A ls C hmn hX hAe hT hl
  have hx := C.1.1
  have hb := C.1.2.1
  have hl : lv_has ls 2 [(0, .ref h0)] := hl
  have hin5 : ∀ w ∈ u_ws RX5 TX5 8, w ∈ wsX7_forget := by decide +kernel
  have hin7 : ∀ w ∈ u_ws RX7 TX7 7, w ∈ wsX7_forget := by decide +kernel
  refine lv_aload_n hx hb dX7_forget_0 rfl (lv_at hl 0 rfl) ?_
  refine z_get C (ci := 7) (N := 7) rfl hin7 hT 0 5 rfl rfl (by decide +kernel) (by decide +kernel) dX7_forget_1 ?_
  refine z_get C (ci := 5) (N := 8) rfl hin5 hT 1 2 rfl rfl (by decide +kernel) (by decide +kernel) dX7_forget_4 ?_
  refine lv_istore_n (lv' := [(1, .int 0), (0, .ref h0)]) hx hb dX7_forget_7 rfl hl (by decide +kernel) rfl (fun ls hl => ?_)
  refine lv_aload_n hx hb dX7_forget_8 rfl (lv_at hl 1 rfl) ?_
  refine z_get C (ci := 7) (N := 7) rfl hin7 hT 0 5 rfl rfl (by decide +kernel) (by decide +kernel) dX7_forget_9 ?_
  refine lv_iconst (v := 0) hx hb dX7_forget_12 (by decide +kernel) ?_
  refine z_put C (ci := 5) (N := 8) rfl hin5 tyX5_ok nmX5 hT 1 2 rfl (Nat.le_of_ble_eq_true rfl) (by decide +kernel) (by decide +kernel) rfl rfl rfl dX7_forget_13 [(h0, .inr (7, [.ref (u 0), .ref (u 1), .ref (u 2), .ref (u 3), .ref (u 4), .ref (u 5), .ref (u 6)])), ((u 5), .inr (5, [.ref (u 69), .ref (u 70), .int 0, .int 0, .int (-1), .int (-1), .ref (u 71), .ref (u 72)]))] rfl (fun H locs hT => ?_)
  refine lv_iload_n hx hb dX7_forget_16 rfl (lv_at hl 0 rfl) ?_
  exact z_iret C rfl hT () rfl [] rfl rfl (Nat.le_of_ble_eq_true rfl) (Nat.le_of_ble_eq_true rfl) dX7_forget_17

set_option maxHeartbeats 4000000 in
set_option maxRecDepth 100000 in
/-- Sightings.add on nothing seen -/
theorem c_Sight_add (l : Launch) (D : va_G) (g : Nat → ClassId) (u : Nat → Nat) (p0 p1 : Int32) : CtV l yX5_add wsX5_add { frames := 0, cells := 0, slots := 0, locals := 0 } D (TY g) [.ref (u 5), .int p0, .int p1] (fun _ => True) [((u 5), .inr (5, [.ref (u 69), .ref (u 70), .int 0, .int 0, .int (-1), .int (-1), .ref (u 71), .ref (u 72)])), ((u 69), .inl (g 0, 6, .inl (fun _ => 0))), ((u 70), .inl (g 0, 6, .inl (fun _ => 0)))] (fun _ : Unit => True) (fun _ => [((u 5), .inr (5, [.ref (u 69), .ref (u 70), .int 1, .int 0, .int (-1), .int (-1), .ref (u 71), .ref (u 72)]))]) := by
  refine CtV.intro (cc := cX5_add) (maxL := 3) (ret := none) rfl (by decide +kernel) (Nat.le_of_ble_eq_true rfl) ?_
  intro p e s m below meth c A ls C hmn hX hAe hT hl
  have hx := C.1.1
  have hb := C.1.2.1
  have hl : lv_has ls 3 [(0, .ref (u 5)), (1, .int p0), (2, .int p1)] := hl
  have hin5 : ∀ w ∈ u_ws RX5 TX5 8, w ∈ wsX5_add := by decide +kernel
  refine lv_aload_n hx hb dX5_add_0 rfl (lv_at hl 0 rfl) ?_
  refine z_get C (ci := 5) (N := 8) rfl hin5 hT 0 2 rfl rfl (by decide +kernel) (by decide +kernel) dX5_add_1 ?_
  refine lv_bipush (v := 6) hx hb dX5_add_4 (by decide +kernel) ?_
  refine lv_icmp_ge (tgt := 39) hx hb dX5_add_6 (by decide +kernel) (fun c9 => absurd c9 (by decide +kernel)) (fun _ => ?_)
  refine lv_aload_n hx hb dX5_add_9 rfl (lv_at hl 0 rfl) ?_
  refine z_get C (ci := 5) (N := 8) rfl hin5 hT 0 0 rfl rfl (by decide +kernel) (by decide +kernel) dX5_add_10 ?_
  refine lv_aload_n hx hb dX5_add_13 rfl (lv_at hl 0 rfl) ?_
  refine z_get C (ci := 5) (N := 8) rfl hin5 hT 0 2 rfl rfl (by decide +kernel) (by decide +kernel) dX5_add_14 ?_
  refine lv_iload_n hx hb dX5_add_17 rfl (lv_at hl 1 rfl) ?_
  refine z_iast C hT 1 0 rfl rfl (vin rfl) dX5_add_18 (upd (fun _ => 0) 0 p0) rfl [((u 5), .inr (5, [.ref (u 69), .ref (u 70), .int 0, .int 0, .int (-1), .int (-1), .ref (u 71), .ref (u 72)])), ((u 69), .inl (g 0, 6, .inl (upd (fun _ => 0) 0 p0))), ((u 70), .inl (g 0, 6, .inl (fun _ => 0)))] rfl (fun H locs hT => ?_)
  refine lv_aload_n hx hb dX5_add_19 rfl (lv_at hl 0 rfl) ?_
  refine z_get C (ci := 5) (N := 8) rfl hin5 hT 0 1 rfl rfl (by decide +kernel) (by decide +kernel) dX5_add_20 ?_
  refine lv_aload_n hx hb dX5_add_23 rfl (lv_at hl 0 rfl) ?_
  refine z_get C (ci := 5) (N := 8) rfl hin5 hT 0 2 rfl rfl (by decide +kernel) (by decide +kernel) dX5_add_24 ?_
  refine lv_iload_n hx hb dX5_add_27 rfl (lv_at hl 2 rfl) ?_
  refine z_iast C hT 2 0 rfl rfl (vin rfl) dX5_add_28 (upd (fun _ => 0) 0 p1) rfl [((u 5), .inr (5, [.ref (u 69), .ref (u 70), .int 0, .int 0, .int (-1), .int (-1), .ref (u 71), .ref (u 72)])), ((u 69), .inl (g 0, 6, .inl (upd (fun _ => 0) 0 p0))), ((u 70), .inl (g 0, 6, .inl (upd (fun _ => 0) 0 p1)))] rfl (fun H locs hT => ?_)
  refine lv_aload_n hx hb dX5_add_29 rfl (lv_at hl 0 rfl) ?_
  refine lv_dup hx hb dX5_add_30 rfl ?_
  refine z_get C (ci := 5) (N := 8) rfl hin5 hT 0 2 rfl rfl (by decide +kernel) (by decide +kernel) dX5_add_31 ?_
  refine lv_iconst (v := 1) hx hb dX5_add_34 (by decide +kernel) ?_
  refine lv_iadd hx hb dX5_add_35 ?_
  refine z_eq (y := 1) (by decide +kernel) ?_
  refine z_put C (ci := 5) (N := 8) rfl hin5 tyX5_ok nmX5 hT 0 2 rfl (Nat.le_of_ble_eq_true rfl) (by decide +kernel) (by decide +kernel) rfl rfl rfl dX5_add_36 [((u 5), .inr (5, [.ref (u 69), .ref (u 70), .int 1, .int 0, .int (-1), .int (-1), .ref (u 71), .ref (u 72)])), ((u 69), .inl (g 0, 6, .inl (upd (fun _ => 0) 0 p0))), ((u 70), .inl (g 0, 6, .inl (upd (fun _ => 0) 0 p1)))] rfl (fun H locs hT => ?_)
  exact z_vret C rfl hT () trivial [0] rfl rfl (Nat.le_of_ble_eq_true rfl) (Nat.le_of_ble_eq_true rfl) dX5_add_39

def sP_seen (p0 p1 : Int32) : Int32 := (if p1 = (-1) then (if p0 < 0 then (-3) else (if p0 ≤ 99 then 1 else (-3))) else (if sP_isJoint p1 = 0 then (-2) else (if p0 < 0 then (-3) else (if p0 ≤ 99 then 1 else (-3)))))
set_option maxHeartbeats 4000000 in
set_option maxRecDepth 100000 in
/-- CowardsPot.seen on a new pot -/
theorem c_P_seen (l : Launch) (D : va_G) (g : Nat → ClassId) (h0 : Nat) (u : Nat → Nat) (p0 p1 : Int32) : CtI l yX7_seen wsX7_seen { frames := 1, cells := 0, slots := 0, locals := 40 } D (TY g) [.ref h0, .int p0, .int p1] (fun _ => True) [(h0, .inr (7, [.ref (u 0), .ref (u 1), .ref (u 2), .ref (u 3), .ref (u 4), .ref (u 5), .ref (u 6)])), ((u 1), .inr (1, [.int 5, .int 40, .int 8, .int 0, .int 0, .int 0, .ref (u 8), .ref (u 9), .ref (u 10), .ref (u 11), .ref (u 12), .ref (u 13), .ref (u 14), .ref (u 15), .ref (u 16), .ref (u 17)])), ((u 5), .inr (5, [.ref (u 69), .ref (u 70), .int 0, .int 0, .int (-1), .int (-1), .ref (u 71), .ref (u 72)])), ((u 69), .inl (g 0, 6, .inl (fun _ => 0))), ((u 70), .inl (g 0, 6, .inl (fun _ => 0)))] (fun r (_ : Unit) => r = sP_seen p0 p1) (fun _ => []) := by
  refine CtI.intro (cc := cX7_seen) (maxL := 3) (ret := (some .int)) rfl (by decide +kernel) (Nat.le_of_ble_eq_true rfl) ?_
  intro p e s m below meth c A ls C hmn hX hAe hT hl
  have hx := C.1.1
  have hb := C.1.2.1
  have hl : lv_has ls 3 [(0, .ref h0), (1, .int p0), (2, .int p1)] := hl
  have hin5 : ∀ w ∈ u_ws RX5 TX5 8, w ∈ wsX7_seen := by decide +kernel
  have hin7 : ∀ w ∈ u_ws RX7 TX7 7, w ∈ wsX7_seen := by decide +kernel
  refine lv_iload_n hx hb dX7_seen_0 rfl (lv_at hl 2 rfl) ?_
  refine lv_iconst (v := (-1)) hx hb dX7_seen_1 (by decide +kernel) ?_
  refine lv_icmp_eq (tgt := 16) hx hb dX7_seen_2 (by decide +kernel) (fun c_2 => ?_) (fun c_2 => ?_)
  · refine lv_iload_n hx hb dX7_seen_16 rfl (lv_at hl 1 rfl) ?_
    refine lv_if_lt (tgt := 26) hx hb dX7_seen_17 (by decide +kernel) (fun c_17 => ?_) (fun c_17 => ?_)
    · refine lv_bipush (v := (-3)) hx hb dX7_seen_26 (by decide +kernel) ?_
      exact z_iret C rfl hT () (by unfold sP_seen; rw [if_pos c_2, if_pos c_17]) [] rfl rfl (Nat.le_of_ble_eq_true rfl) (Nat.le_of_ble_eq_true rfl) dX7_seen_28
    · refine lv_iload_n hx hb dX7_seen_20 rfl (lv_at hl 1 rfl) ?_
      refine lv_bipush (v := 99) hx hb dX7_seen_21 (by decide +kernel) ?_
      refine lv_icmp_le (tgt := 29) hx hb dX7_seen_23 (by decide +kernel) (fun c_23 => ?_) (fun c_23 => ?_)
      · refine lv_aload_n hx hb dX7_seen_29 rfl (lv_at hl 0 rfl) ?_
        refine z_get C (ci := 7) (N := 7) rfl hin7 hT 0 5 rfl rfl (by decide +kernel) (by decide +kernel) dX7_seen_30 ?_
        refine z_get C (ci := 5) (N := 8) rfl hin5 hT 2 2 rfl rfl (by decide +kernel) (by decide +kernel) dX7_seen_33 ?_
        refine lv_bipush (v := 6) hx hb dX7_seen_36 (by decide +kernel) ?_
        refine lv_icmp_lt (tgt := 44) hx hb dX7_seen_38 (by decide +kernel) (fun _ => ?_) (fun c9 => absurd (by decide +kernel) c9)
        refine lv_aload_n hx hb dX7_seen_44 rfl (lv_at hl 0 rfl) ?_
        refine z_get C (ci := 7) (N := 7) rfl hin7 hT 0 5 rfl rfl (by decide +kernel) (by decide +kernel) dX7_seen_45 ?_
        refine lv_iload_n hx hb dX7_seen_48 rfl (lv_at hl 1 rfl) ?_
        refine lv_iload_n hx hb dX7_seen_49 rfl (lv_at hl 2 rfl) ?_
        refine z_callVV (wr := [(h0, .inr (7, [.ref (u 0), .ref (u 1), .ref (u 2), .ref (u 3), .ref (u 4), .ref (u 5), .ref (u 6)])), ((u 1), .inr (1, [.int 5, .int 40, .int 8, .int 0, .int 0, .int 0, .ref (u 8), .ref (u 9), .ref (u 10), .ref (u 11), .ref (u 12), .ref (u 13), .ref (u 14), .ref (u 15), .ref (u 16), .ref (u 17)]))]) (n := 2) C (c_Sight_add l D g u p0 p1) gX7_seen_X5_add rfl (by decide +kernel) ⟨Nat.le_of_ble_eq_true rfl, Nat.le_of_ble_eq_true rfl⟩ ⟨Nat.le_of_ble_eq_true rfl, Nat.le_of_ble_eq_true rfl⟩ blind_T (fun _ _ _ => trivial) hT [2, 3, 4] [0, 1] rfl rfl rfl rfl rfl 2 rfl rfl rfl rfl hl.1 rfl (Nat.le_of_ble_eq_true rfl) dX7_seen_50 (fun u_1 H locs hp_2 hT => ?_)
        have hT : Sit D (TY g) A s [(h0, .inr (7, [.ref (u 0), .ref (u 1), .ref (u 2), .ref (u 3), .ref (u 4), .ref (u 5), .ref (u 6)])), ((u 1), .inr (1, [.int 5, .int 40, .int 8, .int 0, .int 0, .int 0, .ref (u 8), .ref (u 9), .ref (u 10), .ref (u 11), .ref (u 12), .ref (u 13), .ref (u 14), .ref (u 15), .ref (u 16), .ref (u 17)])), ((u 5), .inr (5, [.ref (u 69), .ref (u 70), .int 1, .int 0, .int (-1), .int (-1), .ref (u 71), .ref (u 72)]))] H _ := hT
        refine lv_aload_n hx hb dX7_seen_53 rfl (lv_at hl 0 rfl) ?_
        refine z_get C (ci := 7) (N := 7) rfl hin7 hT 0 5 rfl rfl (by decide +kernel) (by decide +kernel) dX7_seen_54 ?_
        refine z_get C (ci := 5) (N := 8) rfl hin5 hT 2 2 rfl rfl (by decide +kernel) (by decide +kernel) dX7_seen_57 ?_
        exact z_iret C rfl hT () (by unfold sP_seen; rw [if_pos c_2, if_neg c_17, if_pos c_23]) [] rfl rfl (Nat.le_of_ble_eq_true rfl) (Nat.le_of_ble_eq_true rfl) dX7_seen_60
      · refine lv_bipush (v := (-3)) hx hb dX7_seen_26 (by decide +kernel) ?_
        exact z_iret C rfl hT () (by unfold sP_seen; rw [if_pos c_2, if_neg c_17, if_neg c_23]) [] rfl rfl (Nat.le_of_ble_eq_true rfl) (Nat.le_of_ble_eq_true rfl) dX7_seen_28
  · refine lv_aload_n hx hb dX7_seen_5 rfl (lv_at hl 0 rfl) ?_
    refine lv_iload_n hx hb dX7_seen_6 rfl (lv_at hl 2 rfl) ?_
    refine z_callVI (wr := [((u 5), .inr (5, [.ref (u 69), .ref (u 70), .int 0, .int 0, .int (-1), .int (-1), .ref (u 71), .ref (u 72)])), ((u 69), .inl (g 0, 6, .inl (fun _ => 0))), ((u 70), .inl (g 0, 6, .inl (fun _ => 0)))]) (n := 1) C (c_P_isJoint l D g h0 u p1) gX7_seen_X7_isJoint rfl (by decide +kernel) ⟨Nat.le_of_ble_eq_true rfl, Nat.le_of_ble_eq_true rfl⟩ ⟨Nat.le_of_ble_eq_true rfl, Nat.le_of_ble_eq_true rfl⟩ blind_T (fun _ _ _ => trivial) hT [0, 1] [2, 3, 4] rfl rfl rfl rfl rfl 0 rfl rfl rfl rfl hl.1 rfl (Nat.le_of_ble_eq_true rfl) dX7_seen_7 (fun r_5 u_3 H locs hp_4 hT => ?_)
    have hT : Sit D (TY g) A s [((u 5), .inr (5, [.ref (u 69), .ref (u 70), .int 0, .int 0, .int (-1), .int (-1), .ref (u 71), .ref (u 72)])), ((u 69), .inl (g 0, 6, .inl (fun _ => 0))), ((u 70), .inl (g 0, 6, .inl (fun _ => 0))), (h0, .inr (7, [.ref (u 0), .ref (u 1), .ref (u 2), .ref (u 3), .ref (u 4), .ref (u 5), .ref (u 6)])), ((u 1), .inr (1, [.int 5, .int 40, .int 8, .int 0, .int 0, .int 0, .ref (u 8), .ref (u 9), .ref (u 10), .ref (u 11), .ref (u 12), .ref (u 13), .ref (u 14), .ref (u 15), .ref (u 16), .ref (u 17)]))] H _ := hT
    subst hp_4
    refine lv_if_ne (tgt := 16) hx hb dX7_seen_10 (by decide +kernel) (fun c_10 => ?_) (fun c_10 => ?_)
    · refine lv_iload_n hx hb dX7_seen_16 rfl (lv_at hl 1 rfl) ?_
      refine lv_if_lt (tgt := 26) hx hb dX7_seen_17 (by decide +kernel) (fun c_17 => ?_) (fun c_17 => ?_)
      · refine lv_bipush (v := (-3)) hx hb dX7_seen_26 (by decide +kernel) ?_
        exact z_iret C rfl hT () (by unfold sP_seen; rw [if_neg c_2, if_neg c_10, if_pos c_17]) [] rfl rfl (Nat.le_of_ble_eq_true rfl) (Nat.le_of_ble_eq_true rfl) dX7_seen_28
      · refine lv_iload_n hx hb dX7_seen_20 rfl (lv_at hl 1 rfl) ?_
        refine lv_bipush (v := 99) hx hb dX7_seen_21 (by decide +kernel) ?_
        refine lv_icmp_le (tgt := 29) hx hb dX7_seen_23 (by decide +kernel) (fun c_23 => ?_) (fun c_23 => ?_)
        · refine lv_aload_n hx hb dX7_seen_29 rfl (lv_at hl 0 rfl) ?_
          refine z_get C (ci := 7) (N := 7) rfl hin7 hT 3 5 rfl rfl (by decide +kernel) (by decide +kernel) dX7_seen_30 ?_
          refine z_get C (ci := 5) (N := 8) rfl hin5 hT 0 2 rfl rfl (by decide +kernel) (by decide +kernel) dX7_seen_33 ?_
          refine lv_bipush (v := 6) hx hb dX7_seen_36 (by decide +kernel) ?_
          refine lv_icmp_lt (tgt := 44) hx hb dX7_seen_38 (by decide +kernel) (fun _ => ?_) (fun c9 => absurd (by decide +kernel) c9)
          refine lv_aload_n hx hb dX7_seen_44 rfl (lv_at hl 0 rfl) ?_
          refine z_get C (ci := 7) (N := 7) rfl hin7 hT 3 5 rfl rfl (by decide +kernel) (by decide +kernel) dX7_seen_45 ?_
          refine lv_iload_n hx hb dX7_seen_48 rfl (lv_at hl 1 rfl) ?_
          refine lv_iload_n hx hb dX7_seen_49 rfl (lv_at hl 2 rfl) ?_
          refine z_callVV (wr := [(h0, .inr (7, [.ref (u 0), .ref (u 1), .ref (u 2), .ref (u 3), .ref (u 4), .ref (u 5), .ref (u 6)])), ((u 1), .inr (1, [.int 5, .int 40, .int 8, .int 0, .int 0, .int 0, .ref (u 8), .ref (u 9), .ref (u 10), .ref (u 11), .ref (u 12), .ref (u 13), .ref (u 14), .ref (u 15), .ref (u 16), .ref (u 17)]))]) (n := 2) C (c_Sight_add l D g u p0 p1) gX7_seen_X5_add rfl (by decide +kernel) ⟨Nat.le_of_ble_eq_true rfl, Nat.le_of_ble_eq_true rfl⟩ ⟨Nat.le_of_ble_eq_true rfl, Nat.le_of_ble_eq_true rfl⟩ blind_T (fun _ _ _ => trivial) hT [0, 1, 2] [3, 4] rfl rfl rfl rfl rfl 0 rfl rfl rfl rfl hl.1 rfl (Nat.le_of_ble_eq_true rfl) dX7_seen_50 (fun u_6 H locs hp_7 hT => ?_)
          have hT : Sit D (TY g) A s [(h0, .inr (7, [.ref (u 0), .ref (u 1), .ref (u 2), .ref (u 3), .ref (u 4), .ref (u 5), .ref (u 6)])), ((u 1), .inr (1, [.int 5, .int 40, .int 8, .int 0, .int 0, .int 0, .ref (u 8), .ref (u 9), .ref (u 10), .ref (u 11), .ref (u 12), .ref (u 13), .ref (u 14), .ref (u 15), .ref (u 16), .ref (u 17)])), ((u 5), .inr (5, [.ref (u 69), .ref (u 70), .int 1, .int 0, .int (-1), .int (-1), .ref (u 71), .ref (u 72)]))] H _ := hT
          refine lv_aload_n hx hb dX7_seen_53 rfl (lv_at hl 0 rfl) ?_
          refine z_get C (ci := 7) (N := 7) rfl hin7 hT 0 5 rfl rfl (by decide +kernel) (by decide +kernel) dX7_seen_54 ?_
          refine z_get C (ci := 5) (N := 8) rfl hin5 hT 2 2 rfl rfl (by decide +kernel) (by decide +kernel) dX7_seen_57 ?_
          exact z_iret C rfl hT () (by unfold sP_seen; rw [if_neg c_2, if_neg c_10, if_neg c_17, if_pos c_23]) [] rfl rfl (Nat.le_of_ble_eq_true rfl) (Nat.le_of_ble_eq_true rfl) dX7_seen_60
        · refine lv_bipush (v := (-3)) hx hb dX7_seen_26 (by decide +kernel) ?_
          exact z_iret C rfl hT () (by unfold sP_seen; rw [if_neg c_2, if_neg c_10, if_neg c_17, if_neg c_23]) [] rfl rfl (Nat.le_of_ble_eq_true rfl) (Nat.le_of_ble_eq_true rfl) dX7_seen_28
    · refine lv_bipush (v := (-2)) hx hb dX7_seen_13 (by decide +kernel) ?_
      exact z_iret C rfl hT () (by unfold sP_seen; rw [if_neg c_2, if_pos c_10]) [] rfl rfl (Nat.le_of_ble_eq_true rfl) (Nat.le_of_ble_eq_true rfl) dX7_seen_15

def sH_afraid  : Int32 := 0
set_option maxHeartbeats 4000000 in
set_option maxRecDepth 100000 in
theorem c_Hall_afraidBits (l : Launch) (D : va_G) (g : Nat → ClassId) (u : Nat → Nat) : CtI l yX1_afraidBits wsX1_afraidBits { frames := 0, cells := 0, slots := 0, locals := 0 } D (TY g) [.ref (u 1)] (fun _ => True) [((u 1), .inr (1, [.int 5, .int 40, .int 8, .int 0, .int 0, .int 0, .ref (u 8), .ref (u 9), .ref (u 10), .ref (u 11), .ref (u 12), .ref (u 13), .ref (u 14), .ref (u 15), .ref (u 16), .ref (u 17)]))] (fun r (_ : Unit) => r = sH_afraid ) (fun _ => [((u 1), .inr (1, [.int 5, .int 40, .int 8, .int 0, .int 0, .int 0, .ref (u 8), .ref (u 9), .ref (u 10), .ref (u 11), .ref (u 12), .ref (u 13), .ref (u 14), .ref (u 15), .ref (u 16), .ref (u 17)]))]) := by
  refine CtI.intro (cc := cX1_afraidBits) (maxL := 3) (ret := (some .int)) rfl (by decide +kernel) (Nat.le_of_ble_eq_true rfl) ?_
  intro p e s m below meth c A ls C hmn hX hAe hT hl
  have hx := C.1.1
  have hb := C.1.2.1
  have hl : lv_has ls 3 [(0, .ref (u 1))] := hl
  have hin1 : ∀ w ∈ u_ws RX1 TX1 16, w ∈ wsX1_afraidBits := by decide +kernel
  refine lv_iconst (v := 0) hx hb dX1_afraidBits_0 (by decide +kernel) ?_
  refine lv_istore_n (lv' := [(1, .int 0), (0, .ref (u 1))]) hx hb dX1_afraidBits_1 rfl hl (by decide +kernel) rfl (fun ls hl => ?_)
  refine lv_iconst (v := 0) hx hb dX1_afraidBits_2 (by decide +kernel) ?_
  refine lv_istore_n (lv' := [(2, .int 0), (1, .int 0), (0, .ref (u 1))]) hx hb dX1_afraidBits_3 rfl hl (by decide +kernel) rfl (fun ls hl => ?_)
  refine lv_iload_n hx hb dX1_afraidBits_4 rfl (lv_at hl 0 rfl) ?_
  refine lv_aload_n hx hb dX1_afraidBits_5 rfl (lv_at hl 2 rfl) ?_
  refine z_get C (ci := 1) (N := 16) rfl hin1 hT 0 4 rfl rfl (by decide +kernel) (by decide +kernel) dX1_afraidBits_6 ?_
  refine lv_icmp_ge (tgt := 32) hx hb dX1_afraidBits_9 (by decide +kernel) (fun _ => ?_) (fun c9 => absurd (by decide +kernel) c9)
  refine lv_iload_n hx hb dX1_afraidBits_32 rfl (lv_at hl 1 rfl) ?_
  exact z_iret C rfl hT () rfl [0] rfl rfl (Nat.le_of_ble_eq_true rfl) (Nat.le_of_ble_eq_true rfl) dX1_afraidBits_33

def sP_count (p0 : Int32) : Int32 := (if p0 = 0 then 5 else (if p0 = 1 then 0 else (if p0 = 2 then 0 else (if p0 = 3 then 0 else (if p0 = 4 then 40 else (if p0 = 5 then 8 else (if p0 = 6 then sH_afraid else (if p0 = 7 then 0 else (if p0 = 8 then 0 else (if p0 = 9 then 0 else (-3)))))))))))
set_option maxHeartbeats 4000000 in
set_option maxRecDepth 100000 in
/-- CowardsPot.count on a new pot -/
theorem c_P_count (l : Launch) (D : va_G) (g : Nat → ClassId) (h0 : Nat) (u : Nat → Nat) (p0 : Int32) : CtI l yX7_count wsX7_count { frames := 1, cells := 0, slots := 0, locals := 40 } D (TY g) [.ref h0, .int p0] (fun _ => True) [(h0, .inr (7, [.ref (u 0), .ref (u 1), .ref (u 2), .ref (u 3), .ref (u 4), .ref (u 5), .ref (u 6)])), ((u 1), .inr (1, [.int 5, .int 40, .int 8, .int 0, .int 0, .int 0, .ref (u 8), .ref (u 9), .ref (u 10), .ref (u 11), .ref (u 12), .ref (u 13), .ref (u 14), .ref (u 15), .ref (u 16), .ref (u 17)])), ((u 5), .inr (5, [.ref (u 69), .ref (u 70), .int 0, .int 0, .int (-1), .int (-1), .ref (u 71), .ref (u 72)])), ((u 3), .inr (3, [.ref (u 29), .int 0, .int 0])), ((u 0), .inr (6, [.ref (u 7), .int 0]))] (fun r (_ : Unit) => r = sP_count p0) (fun _ => []) := by
  refine CtI.intro (cc := cX7_count) (maxL := 2) (ret := (some .int)) rfl (by decide +kernel) (Nat.le_of_ble_eq_true rfl) ?_
  intro p e s m below meth c A ls C hmn hX hAe hT hl
  have hx := C.1.1
  have hb := C.1.2.1
  have hl : lv_has ls 2 [(0, .ref h0), (1, .int p0)] := hl
  have hin1 : ∀ w ∈ u_ws RX1 TX1 16, w ∈ wsX7_count := by decide +kernel
  have hin3 : ∀ w ∈ u_ws RX3 TX3 3, w ∈ wsX7_count := by decide +kernel
  have hin5 : ∀ w ∈ u_ws RX5 TX5 8, w ∈ wsX7_count := by decide +kernel
  have hin6 : ∀ w ∈ u_ws RX6 TX6 2, w ∈ wsX7_count := by decide +kernel
  have hin7 : ∀ w ∈ u_ws RX7 TX7 7, w ∈ wsX7_count := by decide +kernel
  refine lv_iload_n hx hb dX7_count_0 rfl (lv_at hl 1 rfl) ?_
  by_cases c_1_0 : p0 = 0
  · refine lv_tableIn (off := 55) (tgt := 56) hx hb dX7_count_1 (by rw [c_1_0]; decide +kernel) (by rw [c_1_0]; decide +kernel) (by rw [c_1_0]; rfl) (by decide +kernel) ?_
    refine lv_aload_n hx hb dX7_count_56 rfl (lv_at hl 0 rfl) ?_
    refine z_get C (ci := 7) (N := 7) rfl hin7 hT 0 1 rfl rfl (by decide +kernel) (by decide +kernel) dX7_count_57 ?_
    refine z_get C (ci := 1) (N := 16) rfl hin1 hT 1 0 rfl rfl (by decide +kernel) (by decide +kernel) dX7_count_60 ?_
    exact z_iret C rfl hT () (by unfold sP_count; rw [if_pos c_1_0]) [] rfl rfl (Nat.le_of_ble_eq_true rfl) (Nat.le_of_ble_eq_true rfl) dX7_count_63
  by_cases c_1_1 : p0 = 1
  · refine lv_tableIn (off := 63) (tgt := 64) hx hb dX7_count_1 (by rw [c_1_1]; decide +kernel) (by rw [c_1_1]; decide +kernel) (by rw [c_1_1]; rfl) (by decide +kernel) ?_
    refine lv_aload_n hx hb dX7_count_64 rfl (lv_at hl 0 rfl) ?_
    refine z_get C (ci := 7) (N := 7) rfl hin7 hT 0 1 rfl rfl (by decide +kernel) (by decide +kernel) dX7_count_65 ?_
    refine z_get C (ci := 1) (N := 16) rfl hin1 hT 1 4 rfl rfl (by decide +kernel) (by decide +kernel) dX7_count_68 ?_
    exact z_iret C rfl hT () (by unfold sP_count; rw [if_neg c_1_0, if_pos c_1_1]) [] rfl rfl (Nat.le_of_ble_eq_true rfl) (Nat.le_of_ble_eq_true rfl) dX7_count_71
  by_cases c_1_2 : p0 = 2
  · refine lv_tableIn (off := 71) (tgt := 72) hx hb dX7_count_1 (by rw [c_1_2]; decide +kernel) (by rw [c_1_2]; decide +kernel) (by rw [c_1_2]; rfl) (by decide +kernel) ?_
    refine lv_aload_n hx hb dX7_count_72 rfl (lv_at hl 0 rfl) ?_
    refine z_get C (ci := 7) (N := 7) rfl hin7 hT 0 1 rfl rfl (by decide +kernel) (by decide +kernel) dX7_count_73 ?_
    refine z_get C (ci := 1) (N := 16) rfl hin1 hT 1 5 rfl rfl (by decide +kernel) (by decide +kernel) dX7_count_76 ?_
    exact z_iret C rfl hT () (by unfold sP_count; rw [if_neg c_1_0, if_neg c_1_1, if_pos c_1_2]) [] rfl rfl (Nat.le_of_ble_eq_true rfl) (Nat.le_of_ble_eq_true rfl) dX7_count_79
  by_cases c_1_3 : p0 = 3
  · refine lv_tableIn (off := 79) (tgt := 80) hx hb dX7_count_1 (by rw [c_1_3]; decide +kernel) (by rw [c_1_3]; decide +kernel) (by rw [c_1_3]; rfl) (by decide +kernel) ?_
    refine lv_aload_n hx hb dX7_count_80 rfl (lv_at hl 0 rfl) ?_
    refine z_get C (ci := 7) (N := 7) rfl hin7 hT 0 1 rfl rfl (by decide +kernel) (by decide +kernel) dX7_count_81 ?_
    refine z_get C (ci := 1) (N := 16) rfl hin1 hT 1 3 rfl rfl (by decide +kernel) (by decide +kernel) dX7_count_84 ?_
    exact z_iret C rfl hT () (by unfold sP_count; rw [if_neg c_1_0, if_neg c_1_1, if_neg c_1_2, if_pos c_1_3]) [] rfl rfl (Nat.le_of_ble_eq_true rfl) (Nat.le_of_ble_eq_true rfl) dX7_count_87
  by_cases c_1_4 : p0 = 4
  · refine lv_tableIn (off := 87) (tgt := 88) hx hb dX7_count_1 (by rw [c_1_4]; decide +kernel) (by rw [c_1_4]; decide +kernel) (by rw [c_1_4]; rfl) (by decide +kernel) ?_
    refine lv_aload_n hx hb dX7_count_88 rfl (lv_at hl 0 rfl) ?_
    refine z_get C (ci := 7) (N := 7) rfl hin7 hT 0 1 rfl rfl (by decide +kernel) (by decide +kernel) dX7_count_89 ?_
    refine z_get C (ci := 1) (N := 16) rfl hin1 hT 1 1 rfl rfl (by decide +kernel) (by decide +kernel) dX7_count_92 ?_
    exact z_iret C rfl hT () (by unfold sP_count; rw [if_neg c_1_0, if_neg c_1_1, if_neg c_1_2, if_neg c_1_3, if_pos c_1_4]) [] rfl rfl (Nat.le_of_ble_eq_true rfl) (Nat.le_of_ble_eq_true rfl) dX7_count_95
  by_cases c_1_5 : p0 = 5
  · refine lv_tableIn (off := 95) (tgt := 96) hx hb dX7_count_1 (by rw [c_1_5]; decide +kernel) (by rw [c_1_5]; decide +kernel) (by rw [c_1_5]; rfl) (by decide +kernel) ?_
    refine lv_aload_n hx hb dX7_count_96 rfl (lv_at hl 0 rfl) ?_
    refine z_get C (ci := 7) (N := 7) rfl hin7 hT 0 1 rfl rfl (by decide +kernel) (by decide +kernel) dX7_count_97 ?_
    refine z_get C (ci := 1) (N := 16) rfl hin1 hT 1 2 rfl rfl (by decide +kernel) (by decide +kernel) dX7_count_100 ?_
    exact z_iret C rfl hT () (by unfold sP_count; rw [if_neg c_1_0, if_neg c_1_1, if_neg c_1_2, if_neg c_1_3, if_neg c_1_4, if_pos c_1_5]) [] rfl rfl (Nat.le_of_ble_eq_true rfl) (Nat.le_of_ble_eq_true rfl) dX7_count_103
  by_cases c_1_6 : p0 = 6
  · refine lv_tableIn (off := 103) (tgt := 104) hx hb dX7_count_1 (by rw [c_1_6]; decide +kernel) (by rw [c_1_6]; decide +kernel) (by rw [c_1_6]; rfl) (by decide +kernel) ?_
    refine lv_aload_n hx hb dX7_count_104 rfl (lv_at hl 0 rfl) ?_
    refine z_get C (ci := 7) (N := 7) rfl hin7 hT 0 1 rfl rfl (by decide +kernel) (by decide +kernel) dX7_count_105 ?_
    refine z_callVI (wr := [(h0, .inr (7, [.ref (u 0), .ref (u 1), .ref (u 2), .ref (u 3), .ref (u 4), .ref (u 5), .ref (u 6)])), ((u 5), .inr (5, [.ref (u 69), .ref (u 70), .int 0, .int 0, .int (-1), .int (-1), .ref (u 71), .ref (u 72)])), ((u 3), .inr (3, [.ref (u 29), .int 0, .int 0])), ((u 0), .inr (6, [.ref (u 7), .int 0]))]) (n := 0) C (c_Hall_afraidBits l D g u) gX7_count_X1_afraidBits rfl (by decide +kernel) ⟨Nat.le_of_ble_eq_true rfl, Nat.le_of_ble_eq_true rfl⟩ ⟨Nat.le_of_ble_eq_true rfl, Nat.le_of_ble_eq_true rfl⟩ blind_T (fun _ _ _ => trivial) hT [1] [0, 2, 3, 4] rfl rfl rfl rfl rfl 1 rfl rfl rfl rfl hl.1 rfl (Nat.le_of_ble_eq_true rfl) dX7_count_108 (fun r_3 u_1 H locs hp_2 hT => ?_)
    have hT : Sit D (TY g) A s [(h0, .inr (7, [.ref (u 0), .ref (u 1), .ref (u 2), .ref (u 3), .ref (u 4), .ref (u 5), .ref (u 6)])), ((u 5), .inr (5, [.ref (u 69), .ref (u 70), .int 0, .int 0, .int (-1), .int (-1), .ref (u 71), .ref (u 72)])), ((u 3), .inr (3, [.ref (u 29), .int 0, .int 0])), ((u 0), .inr (6, [.ref (u 7), .int 0])), ((u 1), .inr (1, [.int 5, .int 40, .int 8, .int 0, .int 0, .int 0, .ref (u 8), .ref (u 9), .ref (u 10), .ref (u 11), .ref (u 12), .ref (u 13), .ref (u 14), .ref (u 15), .ref (u 16), .ref (u 17)]))] H _ := hT
    subst hp_2
    exact z_iret C rfl hT () (by unfold sP_count; rw [if_neg c_1_0, if_neg c_1_1, if_neg c_1_2, if_neg c_1_3, if_neg c_1_4, if_neg c_1_5, if_pos c_1_6]) [] rfl rfl (Nat.le_of_ble_eq_true rfl) (Nat.le_of_ble_eq_true rfl) dX7_count_111
  by_cases c_1_7 : p0 = 7
  · refine lv_tableIn (off := 111) (tgt := 112) hx hb dX7_count_1 (by rw [c_1_7]; decide +kernel) (by rw [c_1_7]; decide +kernel) (by rw [c_1_7]; rfl) (by decide +kernel) ?_
    refine lv_aload_n hx hb dX7_count_112 rfl (lv_at hl 0 rfl) ?_
    refine z_get C (ci := 7) (N := 7) rfl hin7 hT 0 5 rfl rfl (by decide +kernel) (by decide +kernel) dX7_count_113 ?_
    refine z_get C (ci := 5) (N := 8) rfl hin5 hT 2 2 rfl rfl (by decide +kernel) (by decide +kernel) dX7_count_116 ?_
    exact z_iret C rfl hT () (by unfold sP_count; rw [if_neg c_1_0, if_neg c_1_1, if_neg c_1_2, if_neg c_1_3, if_neg c_1_4, if_neg c_1_5, if_neg c_1_6, if_pos c_1_7]) [] rfl rfl (Nat.le_of_ble_eq_true rfl) (Nat.le_of_ble_eq_true rfl) dX7_count_119
  by_cases c_1_8 : p0 = 8
  · refine lv_tableIn (off := 119) (tgt := 120) hx hb dX7_count_1 (by rw [c_1_8]; decide +kernel) (by rw [c_1_8]; decide +kernel) (by rw [c_1_8]; rfl) (by decide +kernel) ?_
    refine lv_aload_n hx hb dX7_count_120 rfl (lv_at hl 0 rfl) ?_
    refine z_get C (ci := 7) (N := 7) rfl hin7 hT 0 3 rfl rfl (by decide +kernel) (by decide +kernel) dX7_count_121 ?_
    refine z_get C (ci := 3) (N := 3) rfl hin3 hT 3 2 rfl rfl (by decide +kernel) (by decide +kernel) dX7_count_124 ?_
    exact z_iret C rfl hT () (by unfold sP_count; rw [if_neg c_1_0, if_neg c_1_1, if_neg c_1_2, if_neg c_1_3, if_neg c_1_4, if_neg c_1_5, if_neg c_1_6, if_neg c_1_7, if_pos c_1_8]) [] rfl rfl (Nat.le_of_ble_eq_true rfl) (Nat.le_of_ble_eq_true rfl) dX7_count_127
  by_cases c_1_9 : p0 = 9
  · refine lv_tableIn (off := 127) (tgt := 128) hx hb dX7_count_1 (by rw [c_1_9]; decide +kernel) (by rw [c_1_9]; decide +kernel) (by rw [c_1_9]; rfl) (by decide +kernel) ?_
    refine lv_aload_n hx hb dX7_count_128 rfl (lv_at hl 0 rfl) ?_
    refine z_get C (ci := 7) (N := 7) rfl hin7 hT 0 0 rfl rfl (by decide +kernel) (by decide +kernel) dX7_count_129 ?_
    refine z_get C (ci := 6) (N := 2) rfl hin6 hT 4 1 rfl rfl (by decide +kernel) (by decide +kernel) dX7_count_132 ?_
    exact z_iret C rfl hT () (by unfold sP_count; rw [if_neg c_1_0, if_neg c_1_1, if_neg c_1_2, if_neg c_1_3, if_neg c_1_4, if_neg c_1_5, if_neg c_1_6, if_neg c_1_7, if_neg c_1_8, if_pos c_1_9]) [] rfl rfl (Nat.le_of_ble_eq_true rfl) (Nat.le_of_ble_eq_true rfl) dX7_count_135
  refine lv_tableOut (tgt := 136) hx hb dX7_count_1 (sw_out (x := p0) 9 (fun k hk => match k, hk with | 0, _ => c_1_0 | 1, _ => c_1_1 | 2, _ => c_1_2 | 3, _ => c_1_3 | 4, _ => c_1_4 | 5, _ => c_1_5 | 6, _ => c_1_6 | 7, _ => c_1_7 | 8, _ => c_1_8 | 9, _ => c_1_9 | k + 10, hk => absurd hk (by omega)) (by decide +kernel)) (by decide +kernel) ?_
  refine lv_bipush (v := (-3)) hx hb dX7_count_136 (by decide +kernel) ?_
  exact z_iret C rfl hT () (by unfold sP_count; rw [if_neg c_1_0, if_neg c_1_1, if_neg c_1_2, if_neg c_1_3, if_neg c_1_4, if_neg c_1_5, if_neg c_1_6, if_neg c_1_7, if_neg c_1_8, if_neg c_1_9]) [] rfl rfl (Nat.le_of_ble_eq_true rfl) (Nat.le_of_ble_eq_true rfl) dX7_count_138
end
section
theorem dX1_copyFrom_0 : decode cX1_copyFrom 0 = .ok (.aload_n 0, 1) := by decide +kernel
theorem dX1_copyFrom_1 : decode cX1_copyFrom 1 = .ok (.aload_n 1, 1) := by decide +kernel
theorem dX1_copyFrom_2 : decode cX1_copyFrom 2 = .ok (.getfield 9, 3) := by decide +kernel
theorem dX1_copyFrom_5 : decode cX1_copyFrom 5 = .ok (.putfield 9, 3) := by decide +kernel
theorem dX1_copyFrom_8 : decode cX1_copyFrom 8 = .ok (.aload_n 0, 1) := by decide +kernel
theorem dX1_copyFrom_9 : decode cX1_copyFrom 9 = .ok (.aload_n 1, 1) := by decide +kernel
theorem dX1_copyFrom_10 : decode cX1_copyFrom 10 = .ok (.getfield 15, 3) := by decide +kernel
theorem dX1_copyFrom_13 : decode cX1_copyFrom 13 = .ok (.putfield 15, 3) := by decide +kernel
theorem dX1_copyFrom_16 : decode cX1_copyFrom 16 = .ok (.aload_n 0, 1) := by decide +kernel
theorem dX1_copyFrom_17 : decode cX1_copyFrom 17 = .ok (.aload_n 1, 1) := by decide +kernel
theorem dX1_copyFrom_18 : decode cX1_copyFrom 18 = .ok (.getfield 18, 3) := by decide +kernel
theorem dX1_copyFrom_21 : decode cX1_copyFrom 21 = .ok (.putfield 18, 3) := by decide +kernel
theorem dX1_copyFrom_24 : decode cX1_copyFrom 24 = .ok (.aload_n 0, 1) := by decide +kernel
theorem dX1_copyFrom_25 : decode cX1_copyFrom 25 = .ok (.aload_n 1, 1) := by decide +kernel
theorem dX1_copyFrom_26 : decode cX1_copyFrom 26 = .ok (.getfield 21, 3) := by decide +kernel
theorem dX1_copyFrom_29 : decode cX1_copyFrom 29 = .ok (.putfield 21, 3) := by decide +kernel
theorem dX1_copyFrom_32 : decode cX1_copyFrom 32 = .ok (.aload_n 0, 1) := by decide +kernel
theorem dX1_copyFrom_33 : decode cX1_copyFrom 33 = .ok (.aload_n 1, 1) := by decide +kernel
theorem dX1_copyFrom_34 : decode cX1_copyFrom 34 = .ok (.getfield 24, 3) := by decide +kernel
theorem dX1_copyFrom_37 : decode cX1_copyFrom 37 = .ok (.putfield 24, 3) := by decide +kernel
theorem dX1_copyFrom_40 : decode cX1_copyFrom 40 = .ok (.aload_n 0, 1) := by decide +kernel
theorem dX1_copyFrom_41 : decode cX1_copyFrom 41 = .ok (.aload_n 1, 1) := by decide +kernel
theorem dX1_copyFrom_42 : decode cX1_copyFrom 42 = .ok (.getfield 27, 3) := by decide +kernel
theorem dX1_copyFrom_45 : decode cX1_copyFrom 45 = .ok (.putfield 27, 3) := by decide +kernel
theorem dX1_copyFrom_48 : decode cX1_copyFrom 48 = .ok (.iconst 0, 1) := by decide +kernel
theorem dX1_copyFrom_49 : decode cX1_copyFrom 49 = .ok (.istore_n 2, 1) := by decide +kernel
theorem dX1_copyFrom_50 : decode cX1_copyFrom 50 = .ok (.iload_n 2, 1) := by decide +kernel
theorem dX1_copyFrom_51 : decode cX1_copyFrom 51 = .ok (.bipush 6, 2) := by decide +kernel
theorem dX1_copyFrom_53 : decode cX1_copyFrom 53 = .ok (.if_icmp .ge 93, 3) := by decide +kernel
theorem dX1_copyFrom_56 : decode cX1_copyFrom 56 = .ok (.aload_n 0, 1) := by decide +kernel
theorem dX1_copyFrom_57 : decode cX1_copyFrom 57 = .ok (.getfield 30, 3) := by decide +kernel
theorem dX1_copyFrom_60 : decode cX1_copyFrom 60 = .ok (.iload_n 2, 1) := by decide +kernel
theorem dX1_copyFrom_61 : decode cX1_copyFrom 61 = .ok (.aload_n 1, 1) := by decide +kernel
theorem dX1_copyFrom_62 : decode cX1_copyFrom 62 = .ok (.getfield 30, 3) := by decide +kernel
theorem dX1_copyFrom_65 : decode cX1_copyFrom 65 = .ok (.iload_n 2, 1) := by decide +kernel
theorem dX1_copyFrom_66 : decode cX1_copyFrom 66 = .ok (.iaload, 1) := by decide +kernel
theorem dX1_copyFrom_67 : decode cX1_copyFrom 67 = .ok (.iastore, 1) := by decide +kernel
theorem dX1_copyFrom_68 : decode cX1_copyFrom 68 = .ok (.aload_n 0, 1) := by decide +kernel
theorem dX1_copyFrom_69 : decode cX1_copyFrom 69 = .ok (.getfield 34, 3) := by decide +kernel
theorem dX1_copyFrom_72 : decode cX1_copyFrom 72 = .ok (.iload_n 2, 1) := by decide +kernel
theorem dX1_copyFrom_73 : decode cX1_copyFrom 73 = .ok (.aload_n 1, 1) := by decide +kernel
theorem dX1_copyFrom_74 : decode cX1_copyFrom 74 = .ok (.getfield 34, 3) := by decide +kernel
theorem dX1_copyFrom_77 : decode cX1_copyFrom 77 = .ok (.iload_n 2, 1) := by decide +kernel
theorem dX1_copyFrom_78 : decode cX1_copyFrom 78 = .ok (.iaload, 1) := by decide +kernel
theorem dX1_copyFrom_79 : decode cX1_copyFrom 79 = .ok (.iastore, 1) := by decide +kernel
theorem dX1_copyFrom_80 : decode cX1_copyFrom 80 = .ok (.aload_n 0, 1) := by decide +kernel
theorem dX1_copyFrom_81 : decode cX1_copyFrom 81 = .ok (.getfield 37, 3) := by decide +kernel
theorem dX1_copyFrom_84 : decode cX1_copyFrom 84 = .ok (.iload_n 2, 1) := by decide +kernel
theorem dX1_copyFrom_85 : decode cX1_copyFrom 85 = .ok (.aload_n 1, 1) := by decide +kernel
theorem dX1_copyFrom_86 : decode cX1_copyFrom 86 = .ok (.getfield 37, 3) := by decide +kernel
theorem dX1_copyFrom_89 : decode cX1_copyFrom 89 = .ok (.iload_n 2, 1) := by decide +kernel
theorem dX1_copyFrom_90 : decode cX1_copyFrom 90 = .ok (.iaload, 1) := by decide +kernel
theorem dX1_copyFrom_91 : decode cX1_copyFrom 91 = .ok (.iastore, 1) := by decide +kernel
theorem dX1_copyFrom_92 : decode cX1_copyFrom 92 = .ok (.aload_n 0, 1) := by decide +kernel
theorem dX1_copyFrom_93 : decode cX1_copyFrom 93 = .ok (.getfield 40, 3) := by decide +kernel
theorem dX1_copyFrom_96 : decode cX1_copyFrom 96 = .ok (.iload_n 2, 1) := by decide +kernel
theorem dX1_copyFrom_97 : decode cX1_copyFrom 97 = .ok (.aload_n 1, 1) := by decide +kernel
theorem dX1_copyFrom_98 : decode cX1_copyFrom 98 = .ok (.getfield 40, 3) := by decide +kernel
theorem dX1_copyFrom_101 : decode cX1_copyFrom 101 = .ok (.iload_n 2, 1) := by decide +kernel
theorem dX1_copyFrom_102 : decode cX1_copyFrom 102 = .ok (.iaload, 1) := by decide +kernel
theorem dX1_copyFrom_103 : decode cX1_copyFrom 103 = .ok (.iastore, 1) := by decide +kernel
theorem dX1_copyFrom_104 : decode cX1_copyFrom 104 = .ok (.aload_n 0, 1) := by decide +kernel
theorem dX1_copyFrom_105 : decode cX1_copyFrom 105 = .ok (.getfield 43, 3) := by decide +kernel
theorem dX1_copyFrom_108 : decode cX1_copyFrom 108 = .ok (.iload_n 2, 1) := by decide +kernel
theorem dX1_copyFrom_109 : decode cX1_copyFrom 109 = .ok (.aload_n 1, 1) := by decide +kernel
theorem dX1_copyFrom_110 : decode cX1_copyFrom 110 = .ok (.getfield 43, 3) := by decide +kernel
theorem dX1_copyFrom_113 : decode cX1_copyFrom 113 = .ok (.iload_n 2, 1) := by decide +kernel
theorem dX1_copyFrom_114 : decode cX1_copyFrom 114 = .ok (.iaload, 1) := by decide +kernel
theorem dX1_copyFrom_115 : decode cX1_copyFrom 115 = .ok (.iastore, 1) := by decide +kernel
theorem dX1_copyFrom_116 : decode cX1_copyFrom 116 = .ok (.aload_n 0, 1) := by decide +kernel
theorem dX1_copyFrom_117 : decode cX1_copyFrom 117 = .ok (.getfield 46, 3) := by decide +kernel
theorem dX1_copyFrom_120 : decode cX1_copyFrom 120 = .ok (.iload_n 2, 1) := by decide +kernel
theorem dX1_copyFrom_121 : decode cX1_copyFrom 121 = .ok (.aload_n 1, 1) := by decide +kernel
theorem dX1_copyFrom_122 : decode cX1_copyFrom 122 = .ok (.getfield 46, 3) := by decide +kernel
theorem dX1_copyFrom_125 : decode cX1_copyFrom 125 = .ok (.iload_n 2, 1) := by decide +kernel
theorem dX1_copyFrom_126 : decode cX1_copyFrom 126 = .ok (.iaload, 1) := by decide +kernel
theorem dX1_copyFrom_127 : decode cX1_copyFrom 127 = .ok (.iastore, 1) := by decide +kernel
theorem dX1_copyFrom_128 : decode cX1_copyFrom 128 = .ok (.aload_n 0, 1) := by decide +kernel
theorem dX1_copyFrom_129 : decode cX1_copyFrom 129 = .ok (.getfield 49, 3) := by decide +kernel
theorem dX1_copyFrom_132 : decode cX1_copyFrom 132 = .ok (.iload_n 2, 1) := by decide +kernel
theorem dX1_copyFrom_133 : decode cX1_copyFrom 133 = .ok (.aload_n 1, 1) := by decide +kernel
theorem dX1_copyFrom_134 : decode cX1_copyFrom 134 = .ok (.getfield 49, 3) := by decide +kernel
theorem dX1_copyFrom_137 : decode cX1_copyFrom 137 = .ok (.iload_n 2, 1) := by decide +kernel
theorem dX1_copyFrom_138 : decode cX1_copyFrom 138 = .ok (.iaload, 1) := by decide +kernel
theorem dX1_copyFrom_139 : decode cX1_copyFrom 139 = .ok (.iastore, 1) := by decide +kernel
theorem dX1_copyFrom_140 : decode cX1_copyFrom 140 = .ok (.iinc 2 1, 3) := by decide +kernel
theorem dX1_copyFrom_143 : decode cX1_copyFrom 143 = .ok (.goto (-93), 3) := by decide +kernel
theorem dX1_copyFrom_146 : decode cX1_copyFrom 146 = .ok (.iconst 0, 1) := by decide +kernel
theorem dX1_copyFrom_147 : decode cX1_copyFrom 147 = .ok (.istore_n 2, 1) := by decide +kernel
theorem dX1_copyFrom_148 : decode cX1_copyFrom 148 = .ok (.iload_n 2, 1) := by decide +kernel
theorem dX1_copyFrom_149 : decode cX1_copyFrom 149 = .ok (.bipush 6, 2) := by decide +kernel
theorem dX1_copyFrom_151 : decode cX1_copyFrom 151 = .ok (.if_icmp .ge 33, 3) := by decide +kernel
theorem dX1_copyFrom_154 : decode cX1_copyFrom 154 = .ok (.aload_n 0, 1) := by decide +kernel
theorem dX1_copyFrom_155 : decode cX1_copyFrom 155 = .ok (.getfield 52, 3) := by decide +kernel
theorem dX1_copyFrom_158 : decode cX1_copyFrom 158 = .ok (.iload_n 2, 1) := by decide +kernel
theorem dX1_copyFrom_159 : decode cX1_copyFrom 159 = .ok (.aload_n 1, 1) := by decide +kernel
theorem dX1_copyFrom_160 : decode cX1_copyFrom 160 = .ok (.getfield 52, 3) := by decide +kernel
theorem dX1_copyFrom_163 : decode cX1_copyFrom 163 = .ok (.iload_n 2, 1) := by decide +kernel
theorem dX1_copyFrom_164 : decode cX1_copyFrom 164 = .ok (.iaload, 1) := by decide +kernel
theorem dX1_copyFrom_165 : decode cX1_copyFrom 165 = .ok (.iastore, 1) := by decide +kernel
theorem dX1_copyFrom_166 : decode cX1_copyFrom 166 = .ok (.aload_n 0, 1) := by decide +kernel
theorem dX1_copyFrom_167 : decode cX1_copyFrom 167 = .ok (.getfield 55, 3) := by decide +kernel
theorem dX1_copyFrom_170 : decode cX1_copyFrom 170 = .ok (.iload_n 2, 1) := by decide +kernel
theorem dX1_copyFrom_171 : decode cX1_copyFrom 171 = .ok (.aload_n 1, 1) := by decide +kernel
theorem dX1_copyFrom_172 : decode cX1_copyFrom 172 = .ok (.getfield 55, 3) := by decide +kernel
theorem dX1_copyFrom_175 : decode cX1_copyFrom 175 = .ok (.iload_n 2, 1) := by decide +kernel
theorem dX1_copyFrom_176 : decode cX1_copyFrom 176 = .ok (.iaload, 1) := by decide +kernel
theorem dX1_copyFrom_177 : decode cX1_copyFrom 177 = .ok (.iastore, 1) := by decide +kernel
theorem dX1_copyFrom_178 : decode cX1_copyFrom 178 = .ok (.iinc 2 1, 3) := by decide +kernel
theorem dX1_copyFrom_181 : decode cX1_copyFrom 181 = .ok (.goto (-33), 3) := by decide +kernel
theorem dX1_copyFrom_184 : decode cX1_copyFrom 184 = .ok (.return_, 1) := by decide +kernel
set_option maxHeartbeats 4000000 in
set_option maxRecDepth 100000 in
/-- Hall.copyFrom, of halls as at first: the other one stays -/
theorem c_Hall_copy (l : Launch) (D : va_G) (g : Nat → ClassId) (h o : Nat) (a b : Nat → Nat) : CtV l yX1_copyFrom wsX1_copyFrom { frames := 0, cells := 0, slots := 0, locals := 0 } D (TY g) [.ref h, .ref o] (fun _ => True) [(h, .inr (1, [.int 5, .int 40, .int 8, .int 0, .int 0, .int 0, .ref (a 0), .ref (a 1), .ref (a 2), .ref (a 3), .ref (a 4), .ref (a 5), .ref (a 6), .ref (a 7), .ref (a 8), .ref (a 9)])), ((a 0), .inl (g 0, 6, .inl (fun _ => 0))), ((a 1), .inl (g 0, 6, .inl (fun _ => 0))), ((a 2), .inl (g 0, 6, .inl (fun _ => 0))), ((a 3), .inl (g 0, 6, .inl (fun _ => 0))), ((a 4), .inl (g 0, 6, .inl (fun _ => 0))), ((a 5), .inl (g 0, 6, .inl (fun _ => 0))), ((a 6), .inl (g 0, 6, .inl (fun _ => 0))), ((a 7), .inl (g 0, 6, .inl (fun _ => 0))), ((a 8), .inl (g 0, 6, .inl (fun _ => 0))), (o, .inr (1, [.int 5, .int 40, .int 8, .int 0, .int 0, .int 0, .ref (b 0), .ref (b 1), .ref (b 2), .ref (b 3), .ref (b 4), .ref (b 5), .ref (b 6), .ref (b 7), .ref (b 8), .ref (b 9)])), ((b 0), .inl (g 0, 6, .inl (fun _ => 0))), ((b 1), .inl (g 0, 6, .inl (fun _ => 0))), ((b 2), .inl (g 0, 6, .inl (fun _ => 0))), ((b 3), .inl (g 0, 6, .inl (fun _ => 0))), ((b 4), .inl (g 0, 6, .inl (fun _ => 0))), ((b 5), .inl (g 0, 6, .inl (fun _ => 0))), ((b 6), .inl (g 0, 6, .inl (fun _ => 0))), ((b 7), .inl (g 0, 6, .inl (fun _ => 0))), ((b 8), .inl (g 0, 6, .inl (fun _ => 0)))] (fun _ : Unit => True) (fun _ => [(o, .inr (1, [.int 5, .int 40, .int 8, .int 0, .int 0, .int 0, .ref (b 0), .ref (b 1), .ref (b 2), .ref (b 3), .ref (b 4), .ref (b 5), .ref (b 6), .ref (b 7), .ref (b 8), .ref (b 9)])), ((b 0), .inl (g 0, 6, .inl (fun _ => 0))), ((b 1), .inl (g 0, 6, .inl (fun _ => 0))), ((b 2), .inl (g 0, 6, .inl (fun _ => 0))), ((b 3), .inl (g 0, 6, .inl (fun _ => 0))), ((b 4), .inl (g 0, 6, .inl (fun _ => 0))), ((b 5), .inl (g 0, 6, .inl (fun _ => 0))), ((b 6), .inl (g 0, 6, .inl (fun _ => 0))), ((b 7), .inl (g 0, 6, .inl (fun _ => 0))), ((b 8), .inl (g 0, 6, .inl (fun _ => 0)))]) := by
  refine CtV.intro (cc := cX1_copyFrom) (maxL := 3) (ret := none) rfl (by decide +kernel) (Nat.le_of_ble_eq_true rfl) ?_
  intro p e s m below meth c A ls C hmn hX hAe hT hl
  have hx := C.1.1
  have hb := C.1.2.1
  have hl : lv_has ls 3 [(0, .ref h), (1, .ref o)] := hl
  have hin1 : ∀ w ∈ u_ws RX1 TX1 16, w ∈ wsX1_copyFrom := by decide +kernel
  refine lv_aload_n hx hb dX1_copyFrom_0 rfl (lv_at hl 0 rfl) ?_
  refine lv_aload_n hx hb dX1_copyFrom_1 rfl (lv_at hl 1 rfl) ?_
  refine z_get C (ci := 1) (N := 16) rfl hin1 hT 10 0 rfl rfl (by decide +kernel) (by decide +kernel) dX1_copyFrom_2 ?_
  refine z_put C (ci := 1) (N := 16) rfl hin1 tyX1_ok nmX1 hT 0 0 rfl (Nat.le_of_ble_eq_true rfl) (by decide +kernel) (by decide +kernel) rfl rfl rfl dX1_copyFrom_5 [(h, .inr (1, [.int 5, .int 40, .int 8, .int 0, .int 0, .int 0, .ref (a 0), .ref (a 1), .ref (a 2), .ref (a 3), .ref (a 4), .ref (a 5), .ref (a 6), .ref (a 7), .ref (a 8), .ref (a 9)])), ((a 0), .inl (g 0, 6, .inl (fun _ => 0))), ((a 1), .inl (g 0, 6, .inl (fun _ => 0))), ((a 2), .inl (g 0, 6, .inl (fun _ => 0))), ((a 3), .inl (g 0, 6, .inl (fun _ => 0))), ((a 4), .inl (g 0, 6, .inl (fun _ => 0))), ((a 5), .inl (g 0, 6, .inl (fun _ => 0))), ((a 6), .inl (g 0, 6, .inl (fun _ => 0))), ((a 7), .inl (g 0, 6, .inl (fun _ => 0))), ((a 8), .inl (g 0, 6, .inl (fun _ => 0))), (o, .inr (1, [.int 5, .int 40, .int 8, .int 0, .int 0, .int 0, .ref (b 0), .ref (b 1), .ref (b 2), .ref (b 3), .ref (b 4), .ref (b 5), .ref (b 6), .ref (b 7), .ref (b 8), .ref (b 9)])), ((b 0), .inl (g 0, 6, .inl (fun _ => 0))), ((b 1), .inl (g 0, 6, .inl (fun _ => 0))), ((b 2), .inl (g 0, 6, .inl (fun _ => 0))), ((b 3), .inl (g 0, 6, .inl (fun _ => 0))), ((b 4), .inl (g 0, 6, .inl (fun _ => 0))), ((b 5), .inl (g 0, 6, .inl (fun _ => 0))), ((b 6), .inl (g 0, 6, .inl (fun _ => 0))), ((b 7), .inl (g 0, 6, .inl (fun _ => 0))), ((b 8), .inl (g 0, 6, .inl (fun _ => 0)))] rfl (fun H locs hT => ?_)
  refine lv_aload_n hx hb dX1_copyFrom_8 rfl (lv_at hl 0 rfl) ?_
  refine lv_aload_n hx hb dX1_copyFrom_9 rfl (lv_at hl 1 rfl) ?_
  refine z_get C (ci := 1) (N := 16) rfl hin1 hT 10 1 rfl rfl (by decide +kernel) (by decide +kernel) dX1_copyFrom_10 ?_
  refine z_put C (ci := 1) (N := 16) rfl hin1 tyX1_ok nmX1 hT 0 1 rfl (Nat.le_of_ble_eq_true rfl) (by decide +kernel) (by decide +kernel) rfl rfl rfl dX1_copyFrom_13 [(h, .inr (1, [.int 5, .int 40, .int 8, .int 0, .int 0, .int 0, .ref (a 0), .ref (a 1), .ref (a 2), .ref (a 3), .ref (a 4), .ref (a 5), .ref (a 6), .ref (a 7), .ref (a 8), .ref (a 9)])), ((a 0), .inl (g 0, 6, .inl (fun _ => 0))), ((a 1), .inl (g 0, 6, .inl (fun _ => 0))), ((a 2), .inl (g 0, 6, .inl (fun _ => 0))), ((a 3), .inl (g 0, 6, .inl (fun _ => 0))), ((a 4), .inl (g 0, 6, .inl (fun _ => 0))), ((a 5), .inl (g 0, 6, .inl (fun _ => 0))), ((a 6), .inl (g 0, 6, .inl (fun _ => 0))), ((a 7), .inl (g 0, 6, .inl (fun _ => 0))), ((a 8), .inl (g 0, 6, .inl (fun _ => 0))), (o, .inr (1, [.int 5, .int 40, .int 8, .int 0, .int 0, .int 0, .ref (b 0), .ref (b 1), .ref (b 2), .ref (b 3), .ref (b 4), .ref (b 5), .ref (b 6), .ref (b 7), .ref (b 8), .ref (b 9)])), ((b 0), .inl (g 0, 6, .inl (fun _ => 0))), ((b 1), .inl (g 0, 6, .inl (fun _ => 0))), ((b 2), .inl (g 0, 6, .inl (fun _ => 0))), ((b 3), .inl (g 0, 6, .inl (fun _ => 0))), ((b 4), .inl (g 0, 6, .inl (fun _ => 0))), ((b 5), .inl (g 0, 6, .inl (fun _ => 0))), ((b 6), .inl (g 0, 6, .inl (fun _ => 0))), ((b 7), .inl (g 0, 6, .inl (fun _ => 0))), ((b 8), .inl (g 0, 6, .inl (fun _ => 0)))] rfl (fun H locs hT => ?_)
  refine lv_aload_n hx hb dX1_copyFrom_16 rfl (lv_at hl 0 rfl) ?_
  refine lv_aload_n hx hb dX1_copyFrom_17 rfl (lv_at hl 1 rfl) ?_
  refine z_get C (ci := 1) (N := 16) rfl hin1 hT 10 2 rfl rfl (by decide +kernel) (by decide +kernel) dX1_copyFrom_18 ?_
  refine z_put C (ci := 1) (N := 16) rfl hin1 tyX1_ok nmX1 hT 0 2 rfl (Nat.le_of_ble_eq_true rfl) (by decide +kernel) (by decide +kernel) rfl rfl rfl dX1_copyFrom_21 [(h, .inr (1, [.int 5, .int 40, .int 8, .int 0, .int 0, .int 0, .ref (a 0), .ref (a 1), .ref (a 2), .ref (a 3), .ref (a 4), .ref (a 5), .ref (a 6), .ref (a 7), .ref (a 8), .ref (a 9)])), ((a 0), .inl (g 0, 6, .inl (fun _ => 0))), ((a 1), .inl (g 0, 6, .inl (fun _ => 0))), ((a 2), .inl (g 0, 6, .inl (fun _ => 0))), ((a 3), .inl (g 0, 6, .inl (fun _ => 0))), ((a 4), .inl (g 0, 6, .inl (fun _ => 0))), ((a 5), .inl (g 0, 6, .inl (fun _ => 0))), ((a 6), .inl (g 0, 6, .inl (fun _ => 0))), ((a 7), .inl (g 0, 6, .inl (fun _ => 0))), ((a 8), .inl (g 0, 6, .inl (fun _ => 0))), (o, .inr (1, [.int 5, .int 40, .int 8, .int 0, .int 0, .int 0, .ref (b 0), .ref (b 1), .ref (b 2), .ref (b 3), .ref (b 4), .ref (b 5), .ref (b 6), .ref (b 7), .ref (b 8), .ref (b 9)])), ((b 0), .inl (g 0, 6, .inl (fun _ => 0))), ((b 1), .inl (g 0, 6, .inl (fun _ => 0))), ((b 2), .inl (g 0, 6, .inl (fun _ => 0))), ((b 3), .inl (g 0, 6, .inl (fun _ => 0))), ((b 4), .inl (g 0, 6, .inl (fun _ => 0))), ((b 5), .inl (g 0, 6, .inl (fun _ => 0))), ((b 6), .inl (g 0, 6, .inl (fun _ => 0))), ((b 7), .inl (g 0, 6, .inl (fun _ => 0))), ((b 8), .inl (g 0, 6, .inl (fun _ => 0)))] rfl (fun H locs hT => ?_)
  refine lv_aload_n hx hb dX1_copyFrom_24 rfl (lv_at hl 0 rfl) ?_
  refine lv_aload_n hx hb dX1_copyFrom_25 rfl (lv_at hl 1 rfl) ?_
  refine z_get C (ci := 1) (N := 16) rfl hin1 hT 10 3 rfl rfl (by decide +kernel) (by decide +kernel) dX1_copyFrom_26 ?_
  refine z_put C (ci := 1) (N := 16) rfl hin1 tyX1_ok nmX1 hT 0 3 rfl (Nat.le_of_ble_eq_true rfl) (by decide +kernel) (by decide +kernel) rfl rfl rfl dX1_copyFrom_29 [(h, .inr (1, [.int 5, .int 40, .int 8, .int 0, .int 0, .int 0, .ref (a 0), .ref (a 1), .ref (a 2), .ref (a 3), .ref (a 4), .ref (a 5), .ref (a 6), .ref (a 7), .ref (a 8), .ref (a 9)])), ((a 0), .inl (g 0, 6, .inl (fun _ => 0))), ((a 1), .inl (g 0, 6, .inl (fun _ => 0))), ((a 2), .inl (g 0, 6, .inl (fun _ => 0))), ((a 3), .inl (g 0, 6, .inl (fun _ => 0))), ((a 4), .inl (g 0, 6, .inl (fun _ => 0))), ((a 5), .inl (g 0, 6, .inl (fun _ => 0))), ((a 6), .inl (g 0, 6, .inl (fun _ => 0))), ((a 7), .inl (g 0, 6, .inl (fun _ => 0))), ((a 8), .inl (g 0, 6, .inl (fun _ => 0))), (o, .inr (1, [.int 5, .int 40, .int 8, .int 0, .int 0, .int 0, .ref (b 0), .ref (b 1), .ref (b 2), .ref (b 3), .ref (b 4), .ref (b 5), .ref (b 6), .ref (b 7), .ref (b 8), .ref (b 9)])), ((b 0), .inl (g 0, 6, .inl (fun _ => 0))), ((b 1), .inl (g 0, 6, .inl (fun _ => 0))), ((b 2), .inl (g 0, 6, .inl (fun _ => 0))), ((b 3), .inl (g 0, 6, .inl (fun _ => 0))), ((b 4), .inl (g 0, 6, .inl (fun _ => 0))), ((b 5), .inl (g 0, 6, .inl (fun _ => 0))), ((b 6), .inl (g 0, 6, .inl (fun _ => 0))), ((b 7), .inl (g 0, 6, .inl (fun _ => 0))), ((b 8), .inl (g 0, 6, .inl (fun _ => 0)))] rfl (fun H locs hT => ?_)
  refine lv_aload_n hx hb dX1_copyFrom_32 rfl (lv_at hl 0 rfl) ?_
  refine lv_aload_n hx hb dX1_copyFrom_33 rfl (lv_at hl 1 rfl) ?_
  refine z_get C (ci := 1) (N := 16) rfl hin1 hT 10 4 rfl rfl (by decide +kernel) (by decide +kernel) dX1_copyFrom_34 ?_
  refine z_put C (ci := 1) (N := 16) rfl hin1 tyX1_ok nmX1 hT 0 4 rfl (Nat.le_of_ble_eq_true rfl) (by decide +kernel) (by decide +kernel) rfl rfl rfl dX1_copyFrom_37 [(h, .inr (1, [.int 5, .int 40, .int 8, .int 0, .int 0, .int 0, .ref (a 0), .ref (a 1), .ref (a 2), .ref (a 3), .ref (a 4), .ref (a 5), .ref (a 6), .ref (a 7), .ref (a 8), .ref (a 9)])), ((a 0), .inl (g 0, 6, .inl (fun _ => 0))), ((a 1), .inl (g 0, 6, .inl (fun _ => 0))), ((a 2), .inl (g 0, 6, .inl (fun _ => 0))), ((a 3), .inl (g 0, 6, .inl (fun _ => 0))), ((a 4), .inl (g 0, 6, .inl (fun _ => 0))), ((a 5), .inl (g 0, 6, .inl (fun _ => 0))), ((a 6), .inl (g 0, 6, .inl (fun _ => 0))), ((a 7), .inl (g 0, 6, .inl (fun _ => 0))), ((a 8), .inl (g 0, 6, .inl (fun _ => 0))), (o, .inr (1, [.int 5, .int 40, .int 8, .int 0, .int 0, .int 0, .ref (b 0), .ref (b 1), .ref (b 2), .ref (b 3), .ref (b 4), .ref (b 5), .ref (b 6), .ref (b 7), .ref (b 8), .ref (b 9)])), ((b 0), .inl (g 0, 6, .inl (fun _ => 0))), ((b 1), .inl (g 0, 6, .inl (fun _ => 0))), ((b 2), .inl (g 0, 6, .inl (fun _ => 0))), ((b 3), .inl (g 0, 6, .inl (fun _ => 0))), ((b 4), .inl (g 0, 6, .inl (fun _ => 0))), ((b 5), .inl (g 0, 6, .inl (fun _ => 0))), ((b 6), .inl (g 0, 6, .inl (fun _ => 0))), ((b 7), .inl (g 0, 6, .inl (fun _ => 0))), ((b 8), .inl (g 0, 6, .inl (fun _ => 0)))] rfl (fun H locs hT => ?_)
  refine lv_aload_n hx hb dX1_copyFrom_40 rfl (lv_at hl 0 rfl) ?_
  refine lv_aload_n hx hb dX1_copyFrom_41 rfl (lv_at hl 1 rfl) ?_
  refine z_get C (ci := 1) (N := 16) rfl hin1 hT 10 5 rfl rfl (by decide +kernel) (by decide +kernel) dX1_copyFrom_42 ?_
  refine z_put C (ci := 1) (N := 16) rfl hin1 tyX1_ok nmX1 hT 0 5 rfl (Nat.le_of_ble_eq_true rfl) (by decide +kernel) (by decide +kernel) rfl rfl rfl dX1_copyFrom_45 [(h, .inr (1, [.int 5, .int 40, .int 8, .int 0, .int 0, .int 0, .ref (a 0), .ref (a 1), .ref (a 2), .ref (a 3), .ref (a 4), .ref (a 5), .ref (a 6), .ref (a 7), .ref (a 8), .ref (a 9)])), ((a 0), .inl (g 0, 6, .inl (fun _ => 0))), ((a 1), .inl (g 0, 6, .inl (fun _ => 0))), ((a 2), .inl (g 0, 6, .inl (fun _ => 0))), ((a 3), .inl (g 0, 6, .inl (fun _ => 0))), ((a 4), .inl (g 0, 6, .inl (fun _ => 0))), ((a 5), .inl (g 0, 6, .inl (fun _ => 0))), ((a 6), .inl (g 0, 6, .inl (fun _ => 0))), ((a 7), .inl (g 0, 6, .inl (fun _ => 0))), ((a 8), .inl (g 0, 6, .inl (fun _ => 0))), (o, .inr (1, [.int 5, .int 40, .int 8, .int 0, .int 0, .int 0, .ref (b 0), .ref (b 1), .ref (b 2), .ref (b 3), .ref (b 4), .ref (b 5), .ref (b 6), .ref (b 7), .ref (b 8), .ref (b 9)])), ((b 0), .inl (g 0, 6, .inl (fun _ => 0))), ((b 1), .inl (g 0, 6, .inl (fun _ => 0))), ((b 2), .inl (g 0, 6, .inl (fun _ => 0))), ((b 3), .inl (g 0, 6, .inl (fun _ => 0))), ((b 4), .inl (g 0, 6, .inl (fun _ => 0))), ((b 5), .inl (g 0, 6, .inl (fun _ => 0))), ((b 6), .inl (g 0, 6, .inl (fun _ => 0))), ((b 7), .inl (g 0, 6, .inl (fun _ => 0))), ((b 8), .inl (g 0, 6, .inl (fun _ => 0)))] rfl (fun H locs hT => ?_)
  refine lv_iconst (v := 0) hx hb dX1_copyFrom_48 (by decide +kernel) ?_
  refine lv_istore_n (lv' := [(2, .int 0), (0, .ref h), (1, .ref o)]) hx hb dX1_copyFrom_49 rfl hl (by decide +kernel) rfl (fun ls hl => ?_)
  refine z_loop (α := Nat → Nat → Int32) (N := 6) (fun i y => True) (fun i y => [(h, .inr (1, [.int 5, .int 40, .int 8, .int 0, .int 0, .int 0, .ref (a 0), .ref (a 1), .ref (a 2), .ref (a 3), .ref (a 4), .ref (a 5), .ref (a 6), .ref (a 7), .ref (a 8), .ref (a 9)])), ((a 0), .inl (g 0, 6, .inl (y 0))), ((a 1), .inl (g 0, 6, .inl (y 1))), ((a 2), .inl (g 0, 6, .inl (y 2))), ((a 3), .inl (g 0, 6, .inl (y 3))), ((a 4), .inl (g 0, 6, .inl (y 4))), ((a 5), .inl (g 0, 6, .inl (y 5))), ((a 6), .inl (g 0, 6, .inl (y 6))), ((a 7), .inl (g 0, 6, .inl (y 7))), ((a 8), .inl (g 0, 6, .inl (y 8))), (o, .inr (1, [.int 5, .int 40, .int 8, .int 0, .int 0, .int 0, .ref (b 0), .ref (b 1), .ref (b 2), .ref (b 3), .ref (b 4), .ref (b 5), .ref (b 6), .ref (b 7), .ref (b 8), .ref (b 9)])), ((b 0), .inl (g 0, 6, .inl (fun _ => 0))), ((b 1), .inl (g 0, 6, .inl (fun _ => 0))), ((b 2), .inl (g 0, 6, .inl (fun _ => 0))), ((b 3), .inl (g 0, 6, .inl (fun _ => 0))), ((b 4), .inl (g 0, 6, .inl (fun _ => 0))), ((b 5), .inl (g 0, 6, .inl (fun _ => 0))), ((b 6), .inl (g 0, 6, .inl (fun _ => 0))), ((b 7), .inl (g 0, 6, .inl (fun _ => 0))), ((b 8), .inl (g 0, 6, .inl (fun _ => 0)))]) (fun i y => [(2, .int (nI i)), (0, .ref h), (1, .ref o)]) ?_ ?_ 0 (fun _ _ => 0) (Nat.zero_le _) trivial _ _ _ hT (lv_sub hl [0, 1, 2] rfl)
  · intro i y H locs ls hi hI hT hl ih
    have hT : Sit D (TY g) A s [(h, .inr (1, [.int 5, .int 40, .int 8, .int 0, .int 0, .int 0, .ref (a 0), .ref (a 1), .ref (a 2), .ref (a 3), .ref (a 4), .ref (a 5), .ref (a 6), .ref (a 7), .ref (a 8), .ref (a 9)])), ((a 0), .inl (g 0, 6, .inl (y 0))), ((a 1), .inl (g 0, 6, .inl (y 1))), ((a 2), .inl (g 0, 6, .inl (y 2))), ((a 3), .inl (g 0, 6, .inl (y 3))), ((a 4), .inl (g 0, 6, .inl (y 4))), ((a 5), .inl (g 0, 6, .inl (y 5))), ((a 6), .inl (g 0, 6, .inl (y 6))), ((a 7), .inl (g 0, 6, .inl (y 7))), ((a 8), .inl (g 0, 6, .inl (y 8))), (o, .inr (1, [.int 5, .int 40, .int 8, .int 0, .int 0, .int 0, .ref (b 0), .ref (b 1), .ref (b 2), .ref (b 3), .ref (b 4), .ref (b 5), .ref (b 6), .ref (b 7), .ref (b 8), .ref (b 9)])), ((b 0), .inl (g 0, 6, .inl (fun _ => 0))), ((b 1), .inl (g 0, 6, .inl (fun _ => 0))), ((b 2), .inl (g 0, 6, .inl (fun _ => 0))), ((b 3), .inl (g 0, 6, .inl (fun _ => 0))), ((b 4), .inl (g 0, 6, .inl (fun _ => 0))), ((b 5), .inl (g 0, 6, .inl (fun _ => 0))), ((b 6), .inl (g 0, 6, .inl (fun _ => 0))), ((b 7), .inl (g 0, 6, .inl (fun _ => 0))), ((b 8), .inl (g 0, 6, .inl (fun _ => 0)))] H locs := hT
    have hl : lv_has ls _ [(2, .int (nI i)), (0, .ref h), (1, .ref o)] := hl
    refine lv_iload_n hx hb dX1_copyFrom_50 rfl (lv_at hl 0 rfl) ?_
    refine lv_bipush (v := 6) hx hb dX1_copyFrom_51 (by decide +kernel) ?_
    refine lv_icmp_ge (tgt := 146) hx hb dX1_copyFrom_53 (by decide +kernel) (fun c9 => absurd c9 (lp_no (by decide +kernel) hi (by decide +kernel))) (fun _ => ?_)
    refine lv_aload_n hx hb dX1_copyFrom_56 rfl (lv_at hl 1 rfl) ?_
    refine z_get C (ci := 1) (N := 16) rfl hin1 hT 0 6 rfl rfl (by decide +kernel) (by decide +kernel) dX1_copyFrom_57 ?_
    refine lv_iload_n hx hb dX1_copyFrom_60 rfl (lv_at hl 0 rfl) ?_
    refine lv_aload_n hx hb dX1_copyFrom_61 rfl (lv_at hl 2 rfl) ?_
    refine z_get C (ci := 1) (N := 16) rfl hin1 hT 10 6 rfl rfl (by decide +kernel) (by decide +kernel) dX1_copyFrom_62 ?_
    refine lv_iload_n hx hb dX1_copyFrom_65 rfl (lv_at hl 0 rfl) ?_
    refine z_iald C hT 11 0 rfl rfl (vp_in_nI (by omega) (by decide +kernel)) (v := 0) rfl dX1_copyFrom_66 ?_
    refine z_iast C hT 1 0 rfl rfl (vp_in_nI (by omega) (by decide +kernel)) dX1_copyFrom_67 (upd (y 0) i 0) (by rw [nI_clamp (by omega)]) [(h, .inr (1, [.int 5, .int 40, .int 8, .int 0, .int 0, .int 0, .ref (a 0), .ref (a 1), .ref (a 2), .ref (a 3), .ref (a 4), .ref (a 5), .ref (a 6), .ref (a 7), .ref (a 8), .ref (a 9)])), ((a 0), .inl (g 0, 6, .inl (upd (y 0) i 0))), ((a 1), .inl (g 0, 6, .inl (y 1))), ((a 2), .inl (g 0, 6, .inl (y 2))), ((a 3), .inl (g 0, 6, .inl (y 3))), ((a 4), .inl (g 0, 6, .inl (y 4))), ((a 5), .inl (g 0, 6, .inl (y 5))), ((a 6), .inl (g 0, 6, .inl (y 6))), ((a 7), .inl (g 0, 6, .inl (y 7))), ((a 8), .inl (g 0, 6, .inl (y 8))), (o, .inr (1, [.int 5, .int 40, .int 8, .int 0, .int 0, .int 0, .ref (b 0), .ref (b 1), .ref (b 2), .ref (b 3), .ref (b 4), .ref (b 5), .ref (b 6), .ref (b 7), .ref (b 8), .ref (b 9)])), ((b 0), .inl (g 0, 6, .inl (fun _ => 0))), ((b 1), .inl (g 0, 6, .inl (fun _ => 0))), ((b 2), .inl (g 0, 6, .inl (fun _ => 0))), ((b 3), .inl (g 0, 6, .inl (fun _ => 0))), ((b 4), .inl (g 0, 6, .inl (fun _ => 0))), ((b 5), .inl (g 0, 6, .inl (fun _ => 0))), ((b 6), .inl (g 0, 6, .inl (fun _ => 0))), ((b 7), .inl (g 0, 6, .inl (fun _ => 0))), ((b 8), .inl (g 0, 6, .inl (fun _ => 0)))] rfl (fun H locs hT => ?_)
    refine lv_aload_n hx hb dX1_copyFrom_68 rfl (lv_at hl 1 rfl) ?_
    refine z_get C (ci := 1) (N := 16) rfl hin1 hT 0 7 rfl rfl (by decide +kernel) (by decide +kernel) dX1_copyFrom_69 ?_
    refine lv_iload_n hx hb dX1_copyFrom_72 rfl (lv_at hl 0 rfl) ?_
    refine lv_aload_n hx hb dX1_copyFrom_73 rfl (lv_at hl 2 rfl) ?_
    refine z_get C (ci := 1) (N := 16) rfl hin1 hT 10 7 rfl rfl (by decide +kernel) (by decide +kernel) dX1_copyFrom_74 ?_
    refine lv_iload_n hx hb dX1_copyFrom_77 rfl (lv_at hl 0 rfl) ?_
    refine z_iald C hT 12 0 rfl rfl (vp_in_nI (by omega) (by decide +kernel)) (v := 0) rfl dX1_copyFrom_78 ?_
    refine z_iast C hT 2 0 rfl rfl (vp_in_nI (by omega) (by decide +kernel)) dX1_copyFrom_79 (upd (y 1) i 0) (by rw [nI_clamp (by omega)]) [(h, .inr (1, [.int 5, .int 40, .int 8, .int 0, .int 0, .int 0, .ref (a 0), .ref (a 1), .ref (a 2), .ref (a 3), .ref (a 4), .ref (a 5), .ref (a 6), .ref (a 7), .ref (a 8), .ref (a 9)])), ((a 0), .inl (g 0, 6, .inl (upd (y 0) i 0))), ((a 1), .inl (g 0, 6, .inl (upd (y 1) i 0))), ((a 2), .inl (g 0, 6, .inl (y 2))), ((a 3), .inl (g 0, 6, .inl (y 3))), ((a 4), .inl (g 0, 6, .inl (y 4))), ((a 5), .inl (g 0, 6, .inl (y 5))), ((a 6), .inl (g 0, 6, .inl (y 6))), ((a 7), .inl (g 0, 6, .inl (y 7))), ((a 8), .inl (g 0, 6, .inl (y 8))), (o, .inr (1, [.int 5, .int 40, .int 8, .int 0, .int 0, .int 0, .ref (b 0), .ref (b 1), .ref (b 2), .ref (b 3), .ref (b 4), .ref (b 5), .ref (b 6), .ref (b 7), .ref (b 8), .ref (b 9)])), ((b 0), .inl (g 0, 6, .inl (fun _ => 0))), ((b 1), .inl (g 0, 6, .inl (fun _ => 0))), ((b 2), .inl (g 0, 6, .inl (fun _ => 0))), ((b 3), .inl (g 0, 6, .inl (fun _ => 0))), ((b 4), .inl (g 0, 6, .inl (fun _ => 0))), ((b 5), .inl (g 0, 6, .inl (fun _ => 0))), ((b 6), .inl (g 0, 6, .inl (fun _ => 0))), ((b 7), .inl (g 0, 6, .inl (fun _ => 0))), ((b 8), .inl (g 0, 6, .inl (fun _ => 0)))] rfl (fun H locs hT => ?_)
    refine lv_aload_n hx hb dX1_copyFrom_80 rfl (lv_at hl 1 rfl) ?_
    refine z_get C (ci := 1) (N := 16) rfl hin1 hT 0 8 rfl rfl (by decide +kernel) (by decide +kernel) dX1_copyFrom_81 ?_
    refine lv_iload_n hx hb dX1_copyFrom_84 rfl (lv_at hl 0 rfl) ?_
    refine lv_aload_n hx hb dX1_copyFrom_85 rfl (lv_at hl 2 rfl) ?_
    refine z_get C (ci := 1) (N := 16) rfl hin1 hT 10 8 rfl rfl (by decide +kernel) (by decide +kernel) dX1_copyFrom_86 ?_
    refine lv_iload_n hx hb dX1_copyFrom_89 rfl (lv_at hl 0 rfl) ?_
    refine z_iald C hT 13 0 rfl rfl (vp_in_nI (by omega) (by decide +kernel)) (v := 0) rfl dX1_copyFrom_90 ?_
    refine z_iast C hT 3 0 rfl rfl (vp_in_nI (by omega) (by decide +kernel)) dX1_copyFrom_91 (upd (y 2) i 0) (by rw [nI_clamp (by omega)]) [(h, .inr (1, [.int 5, .int 40, .int 8, .int 0, .int 0, .int 0, .ref (a 0), .ref (a 1), .ref (a 2), .ref (a 3), .ref (a 4), .ref (a 5), .ref (a 6), .ref (a 7), .ref (a 8), .ref (a 9)])), ((a 0), .inl (g 0, 6, .inl (upd (y 0) i 0))), ((a 1), .inl (g 0, 6, .inl (upd (y 1) i 0))), ((a 2), .inl (g 0, 6, .inl (upd (y 2) i 0))), ((a 3), .inl (g 0, 6, .inl (y 3))), ((a 4), .inl (g 0, 6, .inl (y 4))), ((a 5), .inl (g 0, 6, .inl (y 5))), ((a 6), .inl (g 0, 6, .inl (y 6))), ((a 7), .inl (g 0, 6, .inl (y 7))), ((a 8), .inl (g 0, 6, .inl (y 8))), (o, .inr (1, [.int 5, .int 40, .int 8, .int 0, .int 0, .int 0, .ref (b 0), .ref (b 1), .ref (b 2), .ref (b 3), .ref (b 4), .ref (b 5), .ref (b 6), .ref (b 7), .ref (b 8), .ref (b 9)])), ((b 0), .inl (g 0, 6, .inl (fun _ => 0))), ((b 1), .inl (g 0, 6, .inl (fun _ => 0))), ((b 2), .inl (g 0, 6, .inl (fun _ => 0))), ((b 3), .inl (g 0, 6, .inl (fun _ => 0))), ((b 4), .inl (g 0, 6, .inl (fun _ => 0))), ((b 5), .inl (g 0, 6, .inl (fun _ => 0))), ((b 6), .inl (g 0, 6, .inl (fun _ => 0))), ((b 7), .inl (g 0, 6, .inl (fun _ => 0))), ((b 8), .inl (g 0, 6, .inl (fun _ => 0)))] rfl (fun H locs hT => ?_)
    refine lv_aload_n hx hb dX1_copyFrom_92 rfl (lv_at hl 1 rfl) ?_
    refine z_get C (ci := 1) (N := 16) rfl hin1 hT 0 9 rfl rfl (by decide +kernel) (by decide +kernel) dX1_copyFrom_93 ?_
    refine lv_iload_n hx hb dX1_copyFrom_96 rfl (lv_at hl 0 rfl) ?_
    refine lv_aload_n hx hb dX1_copyFrom_97 rfl (lv_at hl 2 rfl) ?_
    refine z_get C (ci := 1) (N := 16) rfl hin1 hT 10 9 rfl rfl (by decide +kernel) (by decide +kernel) dX1_copyFrom_98 ?_
    refine lv_iload_n hx hb dX1_copyFrom_101 rfl (lv_at hl 0 rfl) ?_
    refine z_iald C hT 14 0 rfl rfl (vp_in_nI (by omega) (by decide +kernel)) (v := 0) rfl dX1_copyFrom_102 ?_
    refine z_iast C hT 4 0 rfl rfl (vp_in_nI (by omega) (by decide +kernel)) dX1_copyFrom_103 (upd (y 3) i 0) (by rw [nI_clamp (by omega)]) [(h, .inr (1, [.int 5, .int 40, .int 8, .int 0, .int 0, .int 0, .ref (a 0), .ref (a 1), .ref (a 2), .ref (a 3), .ref (a 4), .ref (a 5), .ref (a 6), .ref (a 7), .ref (a 8), .ref (a 9)])), ((a 0), .inl (g 0, 6, .inl (upd (y 0) i 0))), ((a 1), .inl (g 0, 6, .inl (upd (y 1) i 0))), ((a 2), .inl (g 0, 6, .inl (upd (y 2) i 0))), ((a 3), .inl (g 0, 6, .inl (upd (y 3) i 0))), ((a 4), .inl (g 0, 6, .inl (y 4))), ((a 5), .inl (g 0, 6, .inl (y 5))), ((a 6), .inl (g 0, 6, .inl (y 6))), ((a 7), .inl (g 0, 6, .inl (y 7))), ((a 8), .inl (g 0, 6, .inl (y 8))), (o, .inr (1, [.int 5, .int 40, .int 8, .int 0, .int 0, .int 0, .ref (b 0), .ref (b 1), .ref (b 2), .ref (b 3), .ref (b 4), .ref (b 5), .ref (b 6), .ref (b 7), .ref (b 8), .ref (b 9)])), ((b 0), .inl (g 0, 6, .inl (fun _ => 0))), ((b 1), .inl (g 0, 6, .inl (fun _ => 0))), ((b 2), .inl (g 0, 6, .inl (fun _ => 0))), ((b 3), .inl (g 0, 6, .inl (fun _ => 0))), ((b 4), .inl (g 0, 6, .inl (fun _ => 0))), ((b 5), .inl (g 0, 6, .inl (fun _ => 0))), ((b 6), .inl (g 0, 6, .inl (fun _ => 0))), ((b 7), .inl (g 0, 6, .inl (fun _ => 0))), ((b 8), .inl (g 0, 6, .inl (fun _ => 0)))] rfl (fun H locs hT => ?_)
    refine lv_aload_n hx hb dX1_copyFrom_104 rfl (lv_at hl 1 rfl) ?_
    refine z_get C (ci := 1) (N := 16) rfl hin1 hT 0 10 rfl rfl (by decide +kernel) (by decide +kernel) dX1_copyFrom_105 ?_
    refine lv_iload_n hx hb dX1_copyFrom_108 rfl (lv_at hl 0 rfl) ?_
    refine lv_aload_n hx hb dX1_copyFrom_109 rfl (lv_at hl 2 rfl) ?_
    refine z_get C (ci := 1) (N := 16) rfl hin1 hT 10 10 rfl rfl (by decide +kernel) (by decide +kernel) dX1_copyFrom_110 ?_
    refine lv_iload_n hx hb dX1_copyFrom_113 rfl (lv_at hl 0 rfl) ?_
    refine z_iald C hT 15 0 rfl rfl (vp_in_nI (by omega) (by decide +kernel)) (v := 0) rfl dX1_copyFrom_114 ?_
    refine z_iast C hT 5 0 rfl rfl (vp_in_nI (by omega) (by decide +kernel)) dX1_copyFrom_115 (upd (y 4) i 0) (by rw [nI_clamp (by omega)]) [(h, .inr (1, [.int 5, .int 40, .int 8, .int 0, .int 0, .int 0, .ref (a 0), .ref (a 1), .ref (a 2), .ref (a 3), .ref (a 4), .ref (a 5), .ref (a 6), .ref (a 7), .ref (a 8), .ref (a 9)])), ((a 0), .inl (g 0, 6, .inl (upd (y 0) i 0))), ((a 1), .inl (g 0, 6, .inl (upd (y 1) i 0))), ((a 2), .inl (g 0, 6, .inl (upd (y 2) i 0))), ((a 3), .inl (g 0, 6, .inl (upd (y 3) i 0))), ((a 4), .inl (g 0, 6, .inl (upd (y 4) i 0))), ((a 5), .inl (g 0, 6, .inl (y 5))), ((a 6), .inl (g 0, 6, .inl (y 6))), ((a 7), .inl (g 0, 6, .inl (y 7))), ((a 8), .inl (g 0, 6, .inl (y 8))), (o, .inr (1, [.int 5, .int 40, .int 8, .int 0, .int 0, .int 0, .ref (b 0), .ref (b 1), .ref (b 2), .ref (b 3), .ref (b 4), .ref (b 5), .ref (b 6), .ref (b 7), .ref (b 8), .ref (b 9)])), ((b 0), .inl (g 0, 6, .inl (fun _ => 0))), ((b 1), .inl (g 0, 6, .inl (fun _ => 0))), ((b 2), .inl (g 0, 6, .inl (fun _ => 0))), ((b 3), .inl (g 0, 6, .inl (fun _ => 0))), ((b 4), .inl (g 0, 6, .inl (fun _ => 0))), ((b 5), .inl (g 0, 6, .inl (fun _ => 0))), ((b 6), .inl (g 0, 6, .inl (fun _ => 0))), ((b 7), .inl (g 0, 6, .inl (fun _ => 0))), ((b 8), .inl (g 0, 6, .inl (fun _ => 0)))] rfl (fun H locs hT => ?_)
    refine lv_aload_n hx hb dX1_copyFrom_116 rfl (lv_at hl 1 rfl) ?_
    refine z_get C (ci := 1) (N := 16) rfl hin1 hT 0 11 rfl rfl (by decide +kernel) (by decide +kernel) dX1_copyFrom_117 ?_
    refine lv_iload_n hx hb dX1_copyFrom_120 rfl (lv_at hl 0 rfl) ?_
    refine lv_aload_n hx hb dX1_copyFrom_121 rfl (lv_at hl 2 rfl) ?_
    refine z_get C (ci := 1) (N := 16) rfl hin1 hT 10 11 rfl rfl (by decide +kernel) (by decide +kernel) dX1_copyFrom_122 ?_
    refine lv_iload_n hx hb dX1_copyFrom_125 rfl (lv_at hl 0 rfl) ?_
    refine z_iald C hT 16 0 rfl rfl (vp_in_nI (by omega) (by decide +kernel)) (v := 0) rfl dX1_copyFrom_126 ?_
    refine z_iast C hT 6 0 rfl rfl (vp_in_nI (by omega) (by decide +kernel)) dX1_copyFrom_127 (upd (y 5) i 0) (by rw [nI_clamp (by omega)]) [(h, .inr (1, [.int 5, .int 40, .int 8, .int 0, .int 0, .int 0, .ref (a 0), .ref (a 1), .ref (a 2), .ref (a 3), .ref (a 4), .ref (a 5), .ref (a 6), .ref (a 7), .ref (a 8), .ref (a 9)])), ((a 0), .inl (g 0, 6, .inl (upd (y 0) i 0))), ((a 1), .inl (g 0, 6, .inl (upd (y 1) i 0))), ((a 2), .inl (g 0, 6, .inl (upd (y 2) i 0))), ((a 3), .inl (g 0, 6, .inl (upd (y 3) i 0))), ((a 4), .inl (g 0, 6, .inl (upd (y 4) i 0))), ((a 5), .inl (g 0, 6, .inl (upd (y 5) i 0))), ((a 6), .inl (g 0, 6, .inl (y 6))), ((a 7), .inl (g 0, 6, .inl (y 7))), ((a 8), .inl (g 0, 6, .inl (y 8))), (o, .inr (1, [.int 5, .int 40, .int 8, .int 0, .int 0, .int 0, .ref (b 0), .ref (b 1), .ref (b 2), .ref (b 3), .ref (b 4), .ref (b 5), .ref (b 6), .ref (b 7), .ref (b 8), .ref (b 9)])), ((b 0), .inl (g 0, 6, .inl (fun _ => 0))), ((b 1), .inl (g 0, 6, .inl (fun _ => 0))), ((b 2), .inl (g 0, 6, .inl (fun _ => 0))), ((b 3), .inl (g 0, 6, .inl (fun _ => 0))), ((b 4), .inl (g 0, 6, .inl (fun _ => 0))), ((b 5), .inl (g 0, 6, .inl (fun _ => 0))), ((b 6), .inl (g 0, 6, .inl (fun _ => 0))), ((b 7), .inl (g 0, 6, .inl (fun _ => 0))), ((b 8), .inl (g 0, 6, .inl (fun _ => 0)))] rfl (fun H locs hT => ?_)
    refine lv_aload_n hx hb dX1_copyFrom_128 rfl (lv_at hl 1 rfl) ?_
    refine z_get C (ci := 1) (N := 16) rfl hin1 hT 0 12 rfl rfl (by decide +kernel) (by decide +kernel) dX1_copyFrom_129 ?_
    refine lv_iload_n hx hb dX1_copyFrom_132 rfl (lv_at hl 0 rfl) ?_
    refine lv_aload_n hx hb dX1_copyFrom_133 rfl (lv_at hl 2 rfl) ?_
    refine z_get C (ci := 1) (N := 16) rfl hin1 hT 10 12 rfl rfl (by decide +kernel) (by decide +kernel) dX1_copyFrom_134 ?_
    refine lv_iload_n hx hb dX1_copyFrom_137 rfl (lv_at hl 0 rfl) ?_
    refine z_iald C hT 17 0 rfl rfl (vp_in_nI (by omega) (by decide +kernel)) (v := 0) rfl dX1_copyFrom_138 ?_
    refine z_iast C hT 7 0 rfl rfl (vp_in_nI (by omega) (by decide +kernel)) dX1_copyFrom_139 (upd (y 6) i 0) (by rw [nI_clamp (by omega)]) [(h, .inr (1, [.int 5, .int 40, .int 8, .int 0, .int 0, .int 0, .ref (a 0), .ref (a 1), .ref (a 2), .ref (a 3), .ref (a 4), .ref (a 5), .ref (a 6), .ref (a 7), .ref (a 8), .ref (a 9)])), ((a 0), .inl (g 0, 6, .inl (upd (y 0) i 0))), ((a 1), .inl (g 0, 6, .inl (upd (y 1) i 0))), ((a 2), .inl (g 0, 6, .inl (upd (y 2) i 0))), ((a 3), .inl (g 0, 6, .inl (upd (y 3) i 0))), ((a 4), .inl (g 0, 6, .inl (upd (y 4) i 0))), ((a 5), .inl (g 0, 6, .inl (upd (y 5) i 0))), ((a 6), .inl (g 0, 6, .inl (upd (y 6) i 0))), ((a 7), .inl (g 0, 6, .inl (y 7))), ((a 8), .inl (g 0, 6, .inl (y 8))), (o, .inr (1, [.int 5, .int 40, .int 8, .int 0, .int 0, .int 0, .ref (b 0), .ref (b 1), .ref (b 2), .ref (b 3), .ref (b 4), .ref (b 5), .ref (b 6), .ref (b 7), .ref (b 8), .ref (b 9)])), ((b 0), .inl (g 0, 6, .inl (fun _ => 0))), ((b 1), .inl (g 0, 6, .inl (fun _ => 0))), ((b 2), .inl (g 0, 6, .inl (fun _ => 0))), ((b 3), .inl (g 0, 6, .inl (fun _ => 0))), ((b 4), .inl (g 0, 6, .inl (fun _ => 0))), ((b 5), .inl (g 0, 6, .inl (fun _ => 0))), ((b 6), .inl (g 0, 6, .inl (fun _ => 0))), ((b 7), .inl (g 0, 6, .inl (fun _ => 0))), ((b 8), .inl (g 0, 6, .inl (fun _ => 0)))] rfl (fun H locs hT => ?_)
    refine lv_iinc (v := nI (i + 1)) (lv' := [(2, .int (nI (i + 1))), (0, .ref h), (1, .ref o)]) hx hb dX1_copyFrom_140 hl (k := 0) rfl (inc1 _) (by decide +kernel) rfl (fun ls hl => ?_)
    refine lv_goto (tgt := 50) hx hb dX1_copyFrom_143 (by decide +kernel) ?_
    exact ih (fun z => ([upd (y 0) i 0, upd (y 1) i 0, upd (y 2) i 0, upd (y 3) i 0, upd (y 4) i 0, upd (y 5) i 0, upd (y 6) i 0, (y 7), (y 8)] : List (Nat → Int32)).getD z (fun _ => 0)) _ _ _ trivial hT (lv_sub hl [0, 1, 2] rfl)
  · intro y H locs ls hI hT hl
    have hT : Sit D (TY g) A s [(h, .inr (1, [.int 5, .int 40, .int 8, .int 0, .int 0, .int 0, .ref (a 0), .ref (a 1), .ref (a 2), .ref (a 3), .ref (a 4), .ref (a 5), .ref (a 6), .ref (a 7), .ref (a 8), .ref (a 9)])), ((a 0), .inl (g 0, 6, .inl (y 0))), ((a 1), .inl (g 0, 6, .inl (y 1))), ((a 2), .inl (g 0, 6, .inl (y 2))), ((a 3), .inl (g 0, 6, .inl (y 3))), ((a 4), .inl (g 0, 6, .inl (y 4))), ((a 5), .inl (g 0, 6, .inl (y 5))), ((a 6), .inl (g 0, 6, .inl (y 6))), ((a 7), .inl (g 0, 6, .inl (y 7))), ((a 8), .inl (g 0, 6, .inl (y 8))), (o, .inr (1, [.int 5, .int 40, .int 8, .int 0, .int 0, .int 0, .ref (b 0), .ref (b 1), .ref (b 2), .ref (b 3), .ref (b 4), .ref (b 5), .ref (b 6), .ref (b 7), .ref (b 8), .ref (b 9)])), ((b 0), .inl (g 0, 6, .inl (fun _ => 0))), ((b 1), .inl (g 0, 6, .inl (fun _ => 0))), ((b 2), .inl (g 0, 6, .inl (fun _ => 0))), ((b 3), .inl (g 0, 6, .inl (fun _ => 0))), ((b 4), .inl (g 0, 6, .inl (fun _ => 0))), ((b 5), .inl (g 0, 6, .inl (fun _ => 0))), ((b 6), .inl (g 0, 6, .inl (fun _ => 0))), ((b 7), .inl (g 0, 6, .inl (fun _ => 0))), ((b 8), .inl (g 0, 6, .inl (fun _ => 0)))] H locs := hT
    have hl : lv_has ls _ [(2, .int (nI 6)), (0, .ref h), (1, .ref o)] := hl
    refine lv_iload_n hx hb dX1_copyFrom_50 rfl (lv_at hl 0 rfl) ?_
    refine lv_bipush (v := 6) hx hb dX1_copyFrom_51 (by decide +kernel) ?_
    refine lv_icmp_ge (tgt := 146) hx hb dX1_copyFrom_53 (by decide +kernel) (fun _ => ?_) (fun c9 => absurd (by decide +kernel) c9)
    refine lv_iconst (v := 0) hx hb dX1_copyFrom_146 (by decide +kernel) ?_
    refine lv_istore_n (lv' := [(2, .int 0), (0, .ref h), (1, .ref o)]) hx hb dX1_copyFrom_147 rfl hl (by decide +kernel) rfl (fun ls hl => ?_)
    refine z_loop (α := Nat → Nat → Int32) (N := 6) (fun j y => True) (fun j y => [(h, .inr (1, [.int 5, .int 40, .int 8, .int 0, .int 0, .int 0, .ref (a 0), .ref (a 1), .ref (a 2), .ref (a 3), .ref (a 4), .ref (a 5), .ref (a 6), .ref (a 7), .ref (a 8), .ref (a 9)])), ((a 0), .inl (g 0, 6, .inl (y 0))), ((a 1), .inl (g 0, 6, .inl (y 1))), ((a 2), .inl (g 0, 6, .inl (y 2))), ((a 3), .inl (g 0, 6, .inl (y 3))), ((a 4), .inl (g 0, 6, .inl (y 4))), ((a 5), .inl (g 0, 6, .inl (y 5))), ((a 6), .inl (g 0, 6, .inl (y 6))), ((a 7), .inl (g 0, 6, .inl (y 7))), ((a 8), .inl (g 0, 6, .inl (y 8))), (o, .inr (1, [.int 5, .int 40, .int 8, .int 0, .int 0, .int 0, .ref (b 0), .ref (b 1), .ref (b 2), .ref (b 3), .ref (b 4), .ref (b 5), .ref (b 6), .ref (b 7), .ref (b 8), .ref (b 9)])), ((b 0), .inl (g 0, 6, .inl (fun _ => 0))), ((b 1), .inl (g 0, 6, .inl (fun _ => 0))), ((b 2), .inl (g 0, 6, .inl (fun _ => 0))), ((b 3), .inl (g 0, 6, .inl (fun _ => 0))), ((b 4), .inl (g 0, 6, .inl (fun _ => 0))), ((b 5), .inl (g 0, 6, .inl (fun _ => 0))), ((b 6), .inl (g 0, 6, .inl (fun _ => 0))), ((b 7), .inl (g 0, 6, .inl (fun _ => 0))), ((b 8), .inl (g 0, 6, .inl (fun _ => 0)))]) (fun j y => [(2, .int (nI j)), (0, .ref h), (1, .ref o)]) ?_ ?_ 0 y (Nat.zero_le _) trivial _ _ _ hT (lv_sub hl [0, 1, 2] rfl)
    · intro j y H locs ls hj hI hT hl ih
      have hT : Sit D (TY g) A s [(h, .inr (1, [.int 5, .int 40, .int 8, .int 0, .int 0, .int 0, .ref (a 0), .ref (a 1), .ref (a 2), .ref (a 3), .ref (a 4), .ref (a 5), .ref (a 6), .ref (a 7), .ref (a 8), .ref (a 9)])), ((a 0), .inl (g 0, 6, .inl (y 0))), ((a 1), .inl (g 0, 6, .inl (y 1))), ((a 2), .inl (g 0, 6, .inl (y 2))), ((a 3), .inl (g 0, 6, .inl (y 3))), ((a 4), .inl (g 0, 6, .inl (y 4))), ((a 5), .inl (g 0, 6, .inl (y 5))), ((a 6), .inl (g 0, 6, .inl (y 6))), ((a 7), .inl (g 0, 6, .inl (y 7))), ((a 8), .inl (g 0, 6, .inl (y 8))), (o, .inr (1, [.int 5, .int 40, .int 8, .int 0, .int 0, .int 0, .ref (b 0), .ref (b 1), .ref (b 2), .ref (b 3), .ref (b 4), .ref (b 5), .ref (b 6), .ref (b 7), .ref (b 8), .ref (b 9)])), ((b 0), .inl (g 0, 6, .inl (fun _ => 0))), ((b 1), .inl (g 0, 6, .inl (fun _ => 0))), ((b 2), .inl (g 0, 6, .inl (fun _ => 0))), ((b 3), .inl (g 0, 6, .inl (fun _ => 0))), ((b 4), .inl (g 0, 6, .inl (fun _ => 0))), ((b 5), .inl (g 0, 6, .inl (fun _ => 0))), ((b 6), .inl (g 0, 6, .inl (fun _ => 0))), ((b 7), .inl (g 0, 6, .inl (fun _ => 0))), ((b 8), .inl (g 0, 6, .inl (fun _ => 0)))] H locs := hT
      have hl : lv_has ls _ [(2, .int (nI j)), (0, .ref h), (1, .ref o)] := hl
      refine lv_iload_n hx hb dX1_copyFrom_148 rfl (lv_at hl 0 rfl) ?_
      refine lv_bipush (v := 6) hx hb dX1_copyFrom_149 (by decide +kernel) ?_
      refine lv_icmp_ge (tgt := 184) hx hb dX1_copyFrom_151 (by decide +kernel) (fun c9 => absurd c9 (lp_no (by decide +kernel) hj (by decide +kernel))) (fun _ => ?_)
      refine lv_aload_n hx hb dX1_copyFrom_154 rfl (lv_at hl 1 rfl) ?_
      refine z_get C (ci := 1) (N := 16) rfl hin1 hT 0 13 rfl rfl (by decide +kernel) (by decide +kernel) dX1_copyFrom_155 ?_
      refine lv_iload_n hx hb dX1_copyFrom_158 rfl (lv_at hl 0 rfl) ?_
      refine lv_aload_n hx hb dX1_copyFrom_159 rfl (lv_at hl 2 rfl) ?_
      refine z_get C (ci := 1) (N := 16) rfl hin1 hT 10 13 rfl rfl (by decide +kernel) (by decide +kernel) dX1_copyFrom_160 ?_
      refine lv_iload_n hx hb dX1_copyFrom_163 rfl (lv_at hl 0 rfl) ?_
      refine z_iald C hT 18 0 rfl rfl (vp_in_nI (by omega) (by decide +kernel)) (v := 0) rfl dX1_copyFrom_164 ?_
      refine z_iast C hT 8 0 rfl rfl (vp_in_nI (by omega) (by decide +kernel)) dX1_copyFrom_165 (upd (y 7) j 0) (by rw [nI_clamp (by omega)]) [(h, .inr (1, [.int 5, .int 40, .int 8, .int 0, .int 0, .int 0, .ref (a 0), .ref (a 1), .ref (a 2), .ref (a 3), .ref (a 4), .ref (a 5), .ref (a 6), .ref (a 7), .ref (a 8), .ref (a 9)])), ((a 0), .inl (g 0, 6, .inl (y 0))), ((a 1), .inl (g 0, 6, .inl (y 1))), ((a 2), .inl (g 0, 6, .inl (y 2))), ((a 3), .inl (g 0, 6, .inl (y 3))), ((a 4), .inl (g 0, 6, .inl (y 4))), ((a 5), .inl (g 0, 6, .inl (y 5))), ((a 6), .inl (g 0, 6, .inl (y 6))), ((a 7), .inl (g 0, 6, .inl (upd (y 7) j 0))), ((a 8), .inl (g 0, 6, .inl (y 8))), (o, .inr (1, [.int 5, .int 40, .int 8, .int 0, .int 0, .int 0, .ref (b 0), .ref (b 1), .ref (b 2), .ref (b 3), .ref (b 4), .ref (b 5), .ref (b 6), .ref (b 7), .ref (b 8), .ref (b 9)])), ((b 0), .inl (g 0, 6, .inl (fun _ => 0))), ((b 1), .inl (g 0, 6, .inl (fun _ => 0))), ((b 2), .inl (g 0, 6, .inl (fun _ => 0))), ((b 3), .inl (g 0, 6, .inl (fun _ => 0))), ((b 4), .inl (g 0, 6, .inl (fun _ => 0))), ((b 5), .inl (g 0, 6, .inl (fun _ => 0))), ((b 6), .inl (g 0, 6, .inl (fun _ => 0))), ((b 7), .inl (g 0, 6, .inl (fun _ => 0))), ((b 8), .inl (g 0, 6, .inl (fun _ => 0)))] rfl (fun H locs hT => ?_)
      refine lv_aload_n hx hb dX1_copyFrom_166 rfl (lv_at hl 1 rfl) ?_
      refine z_get C (ci := 1) (N := 16) rfl hin1 hT 0 14 rfl rfl (by decide +kernel) (by decide +kernel) dX1_copyFrom_167 ?_
      refine lv_iload_n hx hb dX1_copyFrom_170 rfl (lv_at hl 0 rfl) ?_
      refine lv_aload_n hx hb dX1_copyFrom_171 rfl (lv_at hl 2 rfl) ?_
      refine z_get C (ci := 1) (N := 16) rfl hin1 hT 10 14 rfl rfl (by decide +kernel) (by decide +kernel) dX1_copyFrom_172 ?_
      refine lv_iload_n hx hb dX1_copyFrom_175 rfl (lv_at hl 0 rfl) ?_
      refine z_iald C hT 19 0 rfl rfl (vp_in_nI (by omega) (by decide +kernel)) (v := 0) rfl dX1_copyFrom_176 ?_
      refine z_iast C hT 9 0 rfl rfl (vp_in_nI (by omega) (by decide +kernel)) dX1_copyFrom_177 (upd (y 8) j 0) (by rw [nI_clamp (by omega)]) [(h, .inr (1, [.int 5, .int 40, .int 8, .int 0, .int 0, .int 0, .ref (a 0), .ref (a 1), .ref (a 2), .ref (a 3), .ref (a 4), .ref (a 5), .ref (a 6), .ref (a 7), .ref (a 8), .ref (a 9)])), ((a 0), .inl (g 0, 6, .inl (y 0))), ((a 1), .inl (g 0, 6, .inl (y 1))), ((a 2), .inl (g 0, 6, .inl (y 2))), ((a 3), .inl (g 0, 6, .inl (y 3))), ((a 4), .inl (g 0, 6, .inl (y 4))), ((a 5), .inl (g 0, 6, .inl (y 5))), ((a 6), .inl (g 0, 6, .inl (y 6))), ((a 7), .inl (g 0, 6, .inl (upd (y 7) j 0))), ((a 8), .inl (g 0, 6, .inl (upd (y 8) j 0))), (o, .inr (1, [.int 5, .int 40, .int 8, .int 0, .int 0, .int 0, .ref (b 0), .ref (b 1), .ref (b 2), .ref (b 3), .ref (b 4), .ref (b 5), .ref (b 6), .ref (b 7), .ref (b 8), .ref (b 9)])), ((b 0), .inl (g 0, 6, .inl (fun _ => 0))), ((b 1), .inl (g 0, 6, .inl (fun _ => 0))), ((b 2), .inl (g 0, 6, .inl (fun _ => 0))), ((b 3), .inl (g 0, 6, .inl (fun _ => 0))), ((b 4), .inl (g 0, 6, .inl (fun _ => 0))), ((b 5), .inl (g 0, 6, .inl (fun _ => 0))), ((b 6), .inl (g 0, 6, .inl (fun _ => 0))), ((b 7), .inl (g 0, 6, .inl (fun _ => 0))), ((b 8), .inl (g 0, 6, .inl (fun _ => 0)))] rfl (fun H locs hT => ?_)
      refine lv_iinc (v := nI (j + 1)) (lv' := [(2, .int (nI (j + 1))), (0, .ref h), (1, .ref o)]) hx hb dX1_copyFrom_178 hl (k := 0) rfl (inc1 _) (by decide +kernel) rfl (fun ls hl => ?_)
      refine lv_goto (tgt := 148) hx hb dX1_copyFrom_181 (by decide +kernel) ?_
      exact ih (fun z => ([(y 0), (y 1), (y 2), (y 3), (y 4), (y 5), (y 6), upd (y 7) j 0, upd (y 8) j 0] : List (Nat → Int32)).getD z (fun _ => 0)) _ _ _ trivial hT (lv_sub hl [0, 1, 2] rfl)
    · intro y H locs ls hI hT hl
      have hT : Sit D (TY g) A s [(h, .inr (1, [.int 5, .int 40, .int 8, .int 0, .int 0, .int 0, .ref (a 0), .ref (a 1), .ref (a 2), .ref (a 3), .ref (a 4), .ref (a 5), .ref (a 6), .ref (a 7), .ref (a 8), .ref (a 9)])), ((a 0), .inl (g 0, 6, .inl (y 0))), ((a 1), .inl (g 0, 6, .inl (y 1))), ((a 2), .inl (g 0, 6, .inl (y 2))), ((a 3), .inl (g 0, 6, .inl (y 3))), ((a 4), .inl (g 0, 6, .inl (y 4))), ((a 5), .inl (g 0, 6, .inl (y 5))), ((a 6), .inl (g 0, 6, .inl (y 6))), ((a 7), .inl (g 0, 6, .inl (y 7))), ((a 8), .inl (g 0, 6, .inl (y 8))), (o, .inr (1, [.int 5, .int 40, .int 8, .int 0, .int 0, .int 0, .ref (b 0), .ref (b 1), .ref (b 2), .ref (b 3), .ref (b 4), .ref (b 5), .ref (b 6), .ref (b 7), .ref (b 8), .ref (b 9)])), ((b 0), .inl (g 0, 6, .inl (fun _ => 0))), ((b 1), .inl (g 0, 6, .inl (fun _ => 0))), ((b 2), .inl (g 0, 6, .inl (fun _ => 0))), ((b 3), .inl (g 0, 6, .inl (fun _ => 0))), ((b 4), .inl (g 0, 6, .inl (fun _ => 0))), ((b 5), .inl (g 0, 6, .inl (fun _ => 0))), ((b 6), .inl (g 0, 6, .inl (fun _ => 0))), ((b 7), .inl (g 0, 6, .inl (fun _ => 0))), ((b 8), .inl (g 0, 6, .inl (fun _ => 0)))] H locs := hT
      have hl : lv_has ls _ [(2, .int (nI 6)), (0, .ref h), (1, .ref o)] := hl
      refine lv_iload_n hx hb dX1_copyFrom_148 rfl (lv_at hl 0 rfl) ?_
      refine lv_bipush (v := 6) hx hb dX1_copyFrom_149 (by decide +kernel) ?_
      refine lv_icmp_ge (tgt := 184) hx hb dX1_copyFrom_151 (by decide +kernel) (fun _ => ?_) (fun c9 => absurd (by decide +kernel) c9)
      exact z_vret C rfl hT () trivial [10, 11, 12, 13, 14, 15, 16, 17, 18, 19] rfl rfl (Nat.le_of_ble_eq_true rfl) (Nat.le_of_ble_eq_true rfl) dX1_copyFrom_184
end
section
theorem dX1_passYear_0 : decode cX1_passYear 0 = .ok (.iconst 0, 1) := by decide +kernel
theorem dX1_passYear_1 : decode cX1_passYear 1 = .ok (.istore_n 1, 1) := by decide +kernel
theorem dX1_passYear_2 : decode cX1_passYear 2 = .ok (.iload_n 1, 1) := by decide +kernel
theorem dX1_passYear_3 : decode cX1_passYear 3 = .ok (.aload_n 0, 1) := by decide +kernel
theorem dX1_passYear_4 : decode cX1_passYear 4 = .ok (.getfield 24, 3) := by decide +kernel
theorem dX1_passYear_7 : decode cX1_passYear 7 = .ok (.if_icmp .ge 34, 3) := by decide +kernel
theorem dX1_passYear_41 : decode cX1_passYear 41 = .ok (.aload_n 0, 1) := by decide +kernel
theorem dX1_passYear_42 : decode cX1_passYear 42 = .ok (.dup, 1) := by decide +kernel
theorem dX1_passYear_43 : decode cX1_passYear 43 = .ok (.getfield 21, 3) := by decide +kernel
theorem dX1_passYear_46 : decode cX1_passYear 46 = .ok (.iconst 1, 1) := by decide +kernel
theorem dX1_passYear_47 : decode cX1_passYear 47 = .ok (.iadd, 1) := by decide +kernel
theorem dX1_passYear_48 : decode cX1_passYear 48 = .ok (.putfield 21, 3) := by decide +kernel
theorem dX1_passYear_51 : decode cX1_passYear 51 = .ok (.return_, 1) := by decide +kernel
set_option maxRecDepth 20000 in
theorem ggX3_push_X1_copyFrom : GoodIn wsX3_push wsX1_copyFrom := goodIn_r _ [12, 13, 14, 15, 16, 17, 18, 19, 20, 21, 22, 23, 24, 25, 26, 27, 31, 32, 33, 34, 35, 36, 37, 38, 39, 40, 41, 42, 43, 44, 45, 46] (by decide +kernel) (by decide +kernel)
set_option maxRecDepth 20000 in
theorem gX3_push_X1_copyFrom : GoodIn wsX3_push (wsV RX3 25 RX1 yX1_copyFrom wsX1_copyFrom) := goodIn_app (goodIn_of _ (by decide +kernel)) ggX3_push_X1_copyFrom
theorem dX3_push_0 : decode cX3_push 0 = .ok (.aload_n 0, 1) := by decide +kernel
theorem dX3_push_1 : decode cX3_push 1 = .ok (.getfield 11, 3) := by decide +kernel
theorem dX3_push_4 : decode cX3_push 4 = .ok (.aload_n 0, 1) := by decide +kernel
theorem dX3_push_5 : decode cX3_push 5 = .ok (.getfield 17, 3) := by decide +kernel
theorem dX3_push_8 : decode cX3_push 8 = .ok (.aaload, 1) := by decide +kernel
theorem dX3_push_9 : decode cX3_push 9 = .ok (.aload_n 1, 1) := by decide +kernel
theorem dX3_push_10 : decode cX3_push 10 = .ok (.invokevirtual 25, 3) := by decide +kernel
theorem dX3_push_13 : decode cX3_push 13 = .ok (.aload_n 0, 1) := by decide +kernel
theorem dX3_push_14 : decode cX3_push 14 = .ok (.aload_n 0, 1) := by decide +kernel
theorem dX3_push_15 : decode cX3_push 15 = .ok (.getfield 17, 3) := by decide +kernel
theorem dX3_push_18 : decode cX3_push 18 = .ok (.iconst 1, 1) := by decide +kernel
theorem dX3_push_19 : decode cX3_push 19 = .ok (.iadd, 1) := by decide +kernel
theorem dX3_push_20 : decode cX3_push 20 = .ok (.bipush 8, 2) := by decide +kernel
theorem dX3_push_22 : decode cX3_push 22 = .ok (.if_icmp .ge 12, 3) := by decide +kernel
theorem dX3_push_25 : decode cX3_push 25 = .ok (.aload_n 0, 1) := by decide +kernel
theorem dX3_push_26 : decode cX3_push 26 = .ok (.getfield 17, 3) := by decide +kernel
theorem dX3_push_29 : decode cX3_push 29 = .ok (.iconst 1, 1) := by decide +kernel
theorem dX3_push_30 : decode cX3_push 30 = .ok (.iadd, 1) := by decide +kernel
theorem dX3_push_31 : decode cX3_push 31 = .ok (.goto 4, 3) := by decide +kernel
theorem dX3_push_35 : decode cX3_push 35 = .ok (.putfield 17, 3) := by decide +kernel
theorem dX3_push_38 : decode cX3_push 38 = .ok (.aload_n 0, 1) := by decide +kernel
theorem dX3_push_39 : decode cX3_push 39 = .ok (.bipush 8, 2) := by decide +kernel
theorem dX3_push_41 : decode cX3_push 41 = .ok (.aload_n 0, 1) := by decide +kernel
theorem dX3_push_42 : decode cX3_push 42 = .ok (.getfield 21, 3) := by decide +kernel
theorem dX3_push_45 : decode cX3_push 45 = .ok (.iconst 1, 1) := by decide +kernel
theorem dX3_push_46 : decode cX3_push 46 = .ok (.iadd, 1) := by decide +kernel
theorem dX3_push_47 : decode cX3_push 47 = .ok (.invokestatic 29, 3) := by decide +kernel
theorem dX3_push_50 : decode cX3_push 50 = .ok (.putfield 21, 3) := by decide +kernel
theorem dX3_push_53 : decode cX3_push 53 = .ok (.return_, 1) := by decide +kernel
theorem dX6_copyFrom_0 : decode cX6_copyFrom 0 = .ok (.aload_n 0, 1) := by decide +kernel
theorem dX6_copyFrom_1 : decode cX6_copyFrom 1 = .ok (.aload_n 1, 1) := by decide +kernel
theorem dX6_copyFrom_2 : decode cX6_copyFrom 2 = .ok (.getfield 15, 3) := by decide +kernel
theorem dX6_copyFrom_5 : decode cX6_copyFrom 5 = .ok (.putfield 15, 3) := by decide +kernel
theorem dX6_copyFrom_8 : decode cX6_copyFrom 8 = .ok (.aload_n 1, 1) := by decide +kernel
theorem dX6_copyFrom_9 : decode cX6_copyFrom 9 = .ok (.getfield 9, 3) := by decide +kernel
theorem dX6_copyFrom_12 : decode cX6_copyFrom 12 = .ok (.iconst 0, 1) := by decide +kernel
theorem dX6_copyFrom_13 : decode cX6_copyFrom 13 = .ok (.aload_n 0, 1) := by decide +kernel
theorem dX6_copyFrom_14 : decode cX6_copyFrom 14 = .ok (.getfield 9, 3) := by decide +kernel
theorem dX6_copyFrom_17 : decode cX6_copyFrom 17 = .ok (.iconst 0, 1) := by decide +kernel
theorem dX6_copyFrom_18 : decode cX6_copyFrom 18 = .ok (.sipush 160, 3) := by decide +kernel
theorem dX6_copyFrom_21 : decode cX6_copyFrom 21 = .ok (.invokestatic 19, 3) := by decide +kernel
theorem dX6_copyFrom_24 : decode cX6_copyFrom 24 = .ok (.return_, 1) := by decide +kernel
set_option maxRecDepth 20000 in
theorem ggX7_year_X3_push : GoodIn wsX7_year wsX3_push := goodIn_r _ [8, 9, 10, 11, 12, 13, 14, 15, 16, 17, 18, 19, 20, 21, 22, 23, 24, 25, 26, 27, 28, 29, 30, 31, 32, 33, 34, 35, 68, 69, 70, 52, 53, 54, 55, 56, 57, 58, 59, 60, 61, 62, 63, 64, 65, 66, 67] (by decide +kernel) (by decide +kernel)
set_option maxRecDepth 20000 in
theorem gX7_year_X3_push : GoodIn wsX7_year (wsV RX7 140 RX3 yX3_push wsX3_push) := goodIn_app (goodIn_of _ (by decide +kernel)) ggX7_year_X3_push
set_option maxRecDepth 20000 in
theorem ggX7_year_X1_passYear : GoodIn wsX7_year wsX1_passYear := goodIn_r _ [39, 25, 29, 30, 31, 24, 40, 41, 42, 19, 43, 27, 44, 13, 14, 15, 52, 53, 54, 55, 56, 57, 58, 59, 60, 61, 62, 63, 64, 65, 66, 67] (by decide +kernel) (by decide +kernel)
set_option maxRecDepth 20000 in
theorem gX7_year_X1_passYear : GoodIn wsX7_year (wsV RX7 157 RX1 yX1_passYear wsX1_passYear) := goodIn_app (goodIn_of _ (by decide +kernel)) ggX7_year_X1_passYear
theorem dX7_year_0 : decode cX7_year 0 = .ok (.aload_n 0, 1) := by decide +kernel
theorem dX7_year_1 : decode cX7_year 1 = .ok (.getfield 19, 3) := by decide +kernel
theorem dX7_year_4 : decode cX7_year 4 = .ok (.getfield 154, 3) := by decide +kernel
theorem dX7_year_7 : decode cX7_year 7 = .ok (.sipush 999, 3) := by decide +kernel
theorem dX7_year_10 : decode cX7_year 10 = .ok (.if_icmp .lt 6, 3) := by decide +kernel
theorem dX7_year_16 : decode cX7_year 16 = .ok (.aload_n 0, 1) := by decide +kernel
theorem dX7_year_17 : decode cX7_year 17 = .ok (.getfield 33, 3) := by decide +kernel
theorem dX7_year_20 : decode cX7_year 20 = .ok (.aload_n 0, 1) := by decide +kernel
theorem dX7_year_21 : decode cX7_year 21 = .ok (.getfield 19, 3) := by decide +kernel
theorem dX7_year_24 : decode cX7_year 24 = .ok (.invokevirtual 140, 3) := by decide +kernel
theorem dX7_year_27 : decode cX7_year 27 = .ok (.aload_n 0, 1) := by decide +kernel
theorem dX7_year_28 : decode cX7_year 28 = .ok (.getfield 19, 3) := by decide +kernel
theorem dX7_year_31 : decode cX7_year 31 = .ok (.invokevirtual 157, 3) := by decide +kernel
theorem dX7_year_34 : decode cX7_year 34 = .ok (.aload_n 0, 1) := by decide +kernel
theorem dX7_year_35 : decode cX7_year 35 = .ok (.getfield 19, 3) := by decide +kernel
theorem dX7_year_38 : decode cX7_year 38 = .ok (.getfield 154, 3) := by decide +kernel
theorem dX7_year_41 : decode cX7_year 41 = .ok (.ireturn, 1) := by decide +kernel
set_option maxRecDepth 20000 in
theorem ggX7_scale_X3_push : GoodIn wsX7_scale wsX3_push := goodIn_r _ [9, 10, 11, 12, 13, 14, 15, 16, 17, 18, 19, 20, 21, 22, 23, 24, 25, 26, 27, 28, 29, 30, 31, 32, 33, 34, 35, 36, 60, 61, 62, 44, 45, 46, 47, 48, 49, 50, 51, 52, 53, 54, 55, 56, 57, 58, 59] (by decide +kernel) (by decide +kernel)
set_option maxRecDepth 20000 in
theorem gX7_scale_X3_push : GoodIn wsX7_scale (wsV RX7 140 RX3 yX3_push wsX3_push) := goodIn_app (goodIn_of _ (by decide +kernel)) ggX7_scale_X3_push
theorem dX7_scale_0 : decode cX7_scale 0 = .ok (.iload_n 1, 1) := by decide +kernel
theorem dX7_scale_1 : decode cX7_scale 1 = .ok (.ifCond .lt 20, 3) := by decide +kernel
theorem dX7_scale_4 : decode cX7_scale 4 = .ok (.iload_n 1, 1) := by decide +kernel
theorem dX7_scale_5 : decode cX7_scale 5 = .ok (.bipush 99, 2) := by decide +kernel
theorem dX7_scale_7 : decode cX7_scale 7 = .ok (.if_icmp .gt 14, 3) := by decide +kernel
theorem dX7_scale_10 : decode cX7_scale 10 = .ok (.iload_n 2, 1) := by decide +kernel
theorem dX7_scale_11 : decode cX7_scale 11 = .ok (.iconst 1, 1) := by decide +kernel
theorem dX7_scale_12 : decode cX7_scale 12 = .ok (.if_icmp .lt 9, 3) := by decide +kernel
theorem dX7_scale_15 : decode cX7_scale 15 = .ok (.iload_n 2, 1) := by decide +kernel
theorem dX7_scale_16 : decode cX7_scale 16 = .ok (.bipush 20, 2) := by decide +kernel
theorem dX7_scale_18 : decode cX7_scale 18 = .ok (.if_icmp .le 6, 3) := by decide +kernel
theorem dX7_scale_21 : decode cX7_scale 21 = .ok (.bipush (-3), 2) := by decide +kernel
theorem dX7_scale_23 : decode cX7_scale 23 = .ok (.ireturn, 1) := by decide +kernel
theorem dX7_scale_24 : decode cX7_scale 24 = .ok (.aload_n 0, 1) := by decide +kernel
theorem dX7_scale_25 : decode cX7_scale 25 = .ok (.getfield 33, 3) := by decide +kernel
theorem dX7_scale_28 : decode cX7_scale 28 = .ok (.aload_n 0, 1) := by decide +kernel
theorem dX7_scale_29 : decode cX7_scale 29 = .ok (.getfield 19, 3) := by decide +kernel
theorem dX7_scale_32 : decode cX7_scale 32 = .ok (.invokevirtual 140, 3) := by decide +kernel
theorem dX7_scale_35 : decode cX7_scale 35 = .ok (.aload_n 0, 1) := by decide +kernel
theorem dX7_scale_36 : decode cX7_scale 36 = .ok (.getfield 19, 3) := by decide +kernel
theorem dX7_scale_39 : decode cX7_scale 39 = .ok (.getfield 160, 3) := by decide +kernel
theorem dX7_scale_42 : decode cX7_scale 42 = .ok (.istore_n 3, 1) := by decide +kernel
theorem dX7_scale_43 : decode cX7_scale 43 = .ok (.aload_n 0, 1) := by decide +kernel
theorem dX7_scale_44 : decode cX7_scale 44 = .ok (.getfield 19, 3) := by decide +kernel
theorem dX7_scale_47 : decode cX7_scale 47 = .ok (.iload_n 1, 1) := by decide +kernel
theorem dX7_scale_48 : decode cX7_scale 48 = .ok (.putfield 160, 3) := by decide +kernel
theorem dX7_scale_51 : decode cX7_scale 51 = .ok (.aload_n 0, 1) := by decide +kernel
theorem dX7_scale_52 : decode cX7_scale 52 = .ok (.getfield 19, 3) := by decide +kernel
theorem dX7_scale_55 : decode cX7_scale 55 = .ok (.iload_n 2, 1) := by decide +kernel
theorem dX7_scale_56 : decode cX7_scale 56 = .ok (.putfield 163, 3) := by decide +kernel
theorem dX7_scale_59 : decode cX7_scale 59 = .ok (.iload_n 3, 1) := by decide +kernel
theorem dX7_scale_60 : decode cX7_scale 60 = .ok (.ireturn, 1) := by decide +kernel
set_option maxRecDepth 20000 in
theorem ggX7_keep_X7_isKeptPlace : GoodIn wsX7_keep wsX7_isKeptPlace := goodIn_r _ [11] (by decide +kernel) (by decide +kernel)
set_option maxRecDepth 20000 in
theorem gX7_keep_X7_isKeptPlace : GoodIn wsX7_keep (va_wsS RX7 169 yX7_isKeptPlace wsX7_isKeptPlace) := goodIn_app (goodIn_of _ (by decide +kernel)) ggX7_keep_X7_isKeptPlace
set_option maxRecDepth 20000 in
theorem ggX7_keep_X1_copyFrom : GoodIn wsX7_keep wsX1_copyFrom := goodIn_r _ [16, 17, 18, 19, 20, 21, 22, 23, 24, 25, 26, 27, 28, 29, 30, 31, 53, 54, 55, 56, 57, 58, 59, 60, 61, 62, 63, 64, 65, 66, 67, 68] (by decide +kernel) (by decide +kernel)
set_option maxRecDepth 20000 in
theorem gX7_keep_X1_copyFrom : GoodIn wsX7_keep (wsV RX7 73 RX1 yX1_copyFrom wsX1_copyFrom) := goodIn_app (goodIn_of _ (by decide +kernel)) ggX7_keep_X1_copyFrom
set_option maxRecDepth 20000 in
theorem ggX7_keep_X6_copyFrom : GoodIn wsX7_keep wsX6_copyFrom := goodIn_r _ [36, 37, 38, 39, 40, 41, 42, 69, 70] (by decide +kernel) (by decide +kernel)
set_option maxRecDepth 20000 in
theorem gX7_keep_X6_copyFrom : GoodIn wsX7_keep (wsV RX7 176 RX6 yX6_copyFrom wsX6_copyFrom) := goodIn_app (goodIn_of _ (by decide +kernel)) ggX7_keep_X6_copyFrom
theorem dX7_keep_0 : decode cX7_keep 0 = .ok (.iload_n 1, 1) := by decide +kernel
theorem dX7_keep_1 : decode cX7_keep 1 = .ok (.invokestatic 169, 3) := by decide +kernel
theorem dX7_keep_4 : decode cX7_keep 4 = .ok (.ifCond .ne 6, 3) := by decide +kernel
theorem dX7_keep_7 : decode cX7_keep 7 = .ok (.bipush (-2), 2) := by decide +kernel
theorem dX7_keep_9 : decode cX7_keep 9 = .ok (.ireturn, 1) := by decide +kernel
theorem dX7_keep_10 : decode cX7_keep 10 = .ok (.aload_n 0, 1) := by decide +kernel
theorem dX7_keep_11 : decode cX7_keep 11 = .ok (.getfield 39, 3) := by decide +kernel
theorem dX7_keep_14 : decode cX7_keep 14 = .ok (.iload_n 1, 1) := by decide +kernel
theorem dX7_keep_15 : decode cX7_keep 15 = .ok (.aaload, 1) := by decide +kernel
theorem dX7_keep_16 : decode cX7_keep 16 = .ok (.getfield 172, 3) := by decide +kernel
theorem dX7_keep_19 : decode cX7_keep 19 = .ok (.aload_n 0, 1) := by decide +kernel
theorem dX7_keep_20 : decode cX7_keep 20 = .ok (.getfield 19, 3) := by decide +kernel
theorem dX7_keep_23 : decode cX7_keep 23 = .ok (.invokevirtual 73, 3) := by decide +kernel
theorem dX7_keep_26 : decode cX7_keep 26 = .ok (.aload_n 0, 1) := by decide +kernel
theorem dX7_keep_27 : decode cX7_keep 27 = .ok (.getfield 39, 3) := by decide +kernel
theorem dX7_keep_30 : decode cX7_keep 30 = .ok (.iload_n 1, 1) := by decide +kernel
theorem dX7_keep_31 : decode cX7_keep 31 = .ok (.aaload, 1) := by decide +kernel
theorem dX7_keep_32 : decode cX7_keep 32 = .ok (.getfield 175, 3) := by decide +kernel
theorem dX7_keep_35 : decode cX7_keep 35 = .ok (.aload_n 0, 1) := by decide +kernel
theorem dX7_keep_36 : decode cX7_keep 36 = .ok (.getfield 10, 3) := by decide +kernel
theorem dX7_keep_39 : decode cX7_keep 39 = .ok (.invokevirtual 176, 3) := by decide +kernel
theorem dX7_keep_42 : decode cX7_keep 42 = .ok (.aload_n 0, 1) := by decide +kernel
theorem dX7_keep_43 : decode cX7_keep 43 = .ok (.getfield 39, 3) := by decide +kernel
theorem dX7_keep_46 : decode cX7_keep 46 = .ok (.iload_n 1, 1) := by decide +kernel
theorem dX7_keep_47 : decode cX7_keep 47 = .ok (.aaload, 1) := by decide +kernel
theorem dX7_keep_48 : decode cX7_keep 48 = .ok (.iconst 1, 1) := by decide +kernel
theorem dX7_keep_49 : decode cX7_keep 49 = .ok (.putfield 84, 3) := by decide +kernel
theorem dX7_keep_52 : decode cX7_keep 52 = .ok (.aload_n 0, 1) := by decide +kernel
theorem dX7_keep_53 : decode cX7_keep 53 = .ok (.getfield 19, 3) := by decide +kernel
theorem dX7_keep_56 : decode cX7_keep 56 = .ok (.getfield 154, 3) := by decide +kernel
theorem dX7_keep_59 : decode cX7_keep 59 = .ok (.ireturn, 1) := by decide +kernel
set_option maxRecDepth 20000 in
theorem ggX7_back_X7_isKeptPlace : GoodIn wsX7_back wsX7_isKeptPlace := goodIn_r _ [13] (by decide +kernel) (by decide +kernel)
set_option maxRecDepth 20000 in
theorem gX7_back_X7_isKeptPlace : GoodIn wsX7_back (va_wsS RX7 169 yX7_isKeptPlace wsX7_isKeptPlace) := goodIn_app (goodIn_of _ (by decide +kernel)) ggX7_back_X7_isKeptPlace
theorem dX7_back_0 : decode cX7_back 0 = .ok (.iload_n 1, 1) := by decide +kernel
theorem dX7_back_1 : decode cX7_back 1 = .ok (.invokestatic 169, 3) := by decide +kernel
theorem dX7_back_4 : decode cX7_back 4 = .ok (.ifCond .ne 6, 3) := by decide +kernel
theorem dX7_back_7 : decode cX7_back 7 = .ok (.bipush (-2), 2) := by decide +kernel
theorem dX7_back_9 : decode cX7_back 9 = .ok (.ireturn, 1) := by decide +kernel
theorem dX7_back_10 : decode cX7_back 10 = .ok (.aload_n 0, 1) := by decide +kernel
theorem dX7_back_11 : decode cX7_back 11 = .ok (.getfield 39, 3) := by decide +kernel
theorem dX7_back_14 : decode cX7_back 14 = .ok (.iload_n 1, 1) := by decide +kernel
theorem dX7_back_15 : decode cX7_back 15 = .ok (.aaload, 1) := by decide +kernel
theorem dX7_back_16 : decode cX7_back 16 = .ok (.getfield 84, 3) := by decide +kernel
theorem dX7_back_19 : decode cX7_back 19 = .ok (.ifCond .ne 6, 3) := by decide +kernel
theorem dX7_back_22 : decode cX7_back 22 = .ok (.bipush (-4), 2) := by decide +kernel
theorem dX7_back_24 : decode cX7_back 24 = .ok (.ireturn, 1) := by decide +kernel
set_option maxHeartbeats 4000000 in
set_option maxRecDepth 100000 in
/-- Past.push of a new pot -/
theorem c_Past_push (l : Launch) (D : va_G) (g : Nat → ClassId) (u : Nat → Nat) (pf : Nat → Option Nat) (hpf : pf 0 = some (u 30)) : CtV l yX3_push wsX3_push { frames := 1, cells := 0, slots := 0, locals := 30 } D (TY g) [.ref (u 3), .ref (u 1)] (fun _ => True) [((u 3), .inr (3, [.ref (u 29), .int 0, .int 0])), ((u 29), .inl (g 2, 8, .inr (.inr (.inr (.inr pf))))), ((u 30), .inr (1, [.int 5, .int 40, .int 8, .int 0, .int 0, .int 0, .ref (u 31), .ref (u 32), .ref (u 33), .ref (u 34), .ref (u 35), .ref (u 36), .ref (u 37), .ref (u 38), .ref (u 39), .ref (u 40)])), ((u 31), .inl (g 0, 6, .inl (fun _ => 0))), ((u 32), .inl (g 0, 6, .inl (fun _ => 0))), ((u 33), .inl (g 0, 6, .inl (fun _ => 0))), ((u 34), .inl (g 0, 6, .inl (fun _ => 0))), ((u 35), .inl (g 0, 6, .inl (fun _ => 0))), ((u 36), .inl (g 0, 6, .inl (fun _ => 0))), ((u 37), .inl (g 0, 6, .inl (fun _ => 0))), ((u 38), .inl (g 0, 6, .inl (fun _ => 0))), ((u 39), .inl (g 0, 6, .inl (fun _ => 0))), ((u 1), .inr (1, [.int 5, .int 40, .int 8, .int 0, .int 0, .int 0, .ref (u 8), .ref (u 9), .ref (u 10), .ref (u 11), .ref (u 12), .ref (u 13), .ref (u 14), .ref (u 15), .ref (u 16), .ref (u 17)])), ((u 8), .inl (g 0, 6, .inl (fun _ => 0))), ((u 9), .inl (g 0, 6, .inl (fun _ => 0))), ((u 10), .inl (g 0, 6, .inl (fun _ => 0))), ((u 11), .inl (g 0, 6, .inl (fun _ => 0))), ((u 12), .inl (g 0, 6, .inl (fun _ => 0))), ((u 13), .inl (g 0, 6, .inl (fun _ => 0))), ((u 14), .inl (g 0, 6, .inl (fun _ => 0))), ((u 15), .inl (g 0, 6, .inl (fun _ => 0))), ((u 16), .inl (g 0, 6, .inl (fun _ => 0)))] (fun _ : Unit => True) (fun _ => [((u 1), .inr (1, [.int 5, .int 40, .int 8, .int 0, .int 0, .int 0, .ref (u 8), .ref (u 9), .ref (u 10), .ref (u 11), .ref (u 12), .ref (u 13), .ref (u 14), .ref (u 15), .ref (u 16), .ref (u 17)])), ((u 8), .inl (g 0, 6, .inl (fun _ => 0))), ((u 9), .inl (g 0, 6, .inl (fun _ => 0))), ((u 10), .inl (g 0, 6, .inl (fun _ => 0))), ((u 11), .inl (g 0, 6, .inl (fun _ => 0))), ((u 12), .inl (g 0, 6, .inl (fun _ => 0))), ((u 13), .inl (g 0, 6, .inl (fun _ => 0))), ((u 14), .inl (g 0, 6, .inl (fun _ => 0))), ((u 15), .inl (g 0, 6, .inl (fun _ => 0))), ((u 16), .inl (g 0, 6, .inl (fun _ => 0)))]) := by
  refine CtV.intro (cc := cX3_push) (maxL := 2) (ret := none) rfl (by decide +kernel) (Nat.le_of_ble_eq_true rfl) ?_
  intro p e s m below meth c A ls C hmn hX hAe hT hl
  have hx := C.1.1
  have hb := C.1.2.1
  have hl : lv_has ls 2 [(0, .ref (u 3)), (1, .ref (u 1))] := hl
  have hin3 : ∀ w ∈ u_ws RX3 TX3 3, w ∈ wsX3_push := by decide +kernel
  refine lv_aload_n hx hb dX3_push_0 rfl (lv_at hl 0 rfl) ?_
  refine z_get C (ci := 3) (N := 3) rfl hin3 hT 0 0 rfl rfl (by decide +kernel) (by decide +kernel) dX3_push_1 ?_
  refine lv_aload_n hx hb dX3_push_4 rfl (lv_at hl 0 rfl) ?_
  refine z_get C (ci := 3) (N := 3) rfl hin3 hT 0 1 rfl rfl (by decide +kernel) (by decide +kernel) dX3_push_5 ?_
  refine z_aald C hT 1 2 rfl rfl rfl (vin rfl) (v := .ref (u 30)) (show va_rf (pf (0 : Int32).toNatClampNeg) = .ref (u 30) from by rw [show (0 : Int32).toNatClampNeg = 0 from by decide +kernel, hpf]; rfl) dX3_push_8 ?_
  refine lv_aload_n hx hb dX3_push_9 rfl (lv_at hl 1 rfl) ?_
  refine z_callVV (wr := [((u 3), .inr (3, [.ref (u 29), .int 0, .int 0])), ((u 29), .inl (g 2, 8, .inr (.inr (.inr (.inr pf)))))]) (n := 1) C (c_Hall_copy l D g (u 30) (u 1) (fun k => u (31 + k)) (fun k => u (8 + k))) gX3_push_X1_copyFrom rfl (by decide +kernel) ⟨Nat.le_of_ble_eq_true rfl, Nat.le_of_ble_eq_true rfl⟩ ⟨Nat.le_of_ble_eq_true rfl, Nat.le_of_ble_eq_true rfl⟩ blind_T (fun _ _ _ => trivial) hT [2, 3, 4, 5, 6, 7, 8, 9, 10, 11, 12, 13, 14, 15, 16, 17, 18, 19, 20, 21] [0, 1] rfl rfl rfl rfl rfl 2 rfl rfl rfl rfl hl.1 rfl (Nat.le_of_ble_eq_true rfl) dX3_push_10 (fun u_1 H locs hp_2 hT => ?_)
  have hT : Sit D (TY g) A s [((u 3), .inr (3, [.ref (u 29), .int 0, .int 0])), ((u 29), .inl (g 2, 8, .inr (.inr (.inr (.inr pf))))), ((u 1), .inr (1, [.int 5, .int 40, .int 8, .int 0, .int 0, .int 0, .ref (u 8), .ref (u 9), .ref (u 10), .ref (u 11), .ref (u 12), .ref (u 13), .ref (u 14), .ref (u 15), .ref (u 16), .ref (u 17)])), ((u 8), .inl (g 0, 6, .inl (fun _ => 0))), ((u 9), .inl (g 0, 6, .inl (fun _ => 0))), ((u 10), .inl (g 0, 6, .inl (fun _ => 0))), ((u 11), .inl (g 0, 6, .inl (fun _ => 0))), ((u 12), .inl (g 0, 6, .inl (fun _ => 0))), ((u 13), .inl (g 0, 6, .inl (fun _ => 0))), ((u 14), .inl (g 0, 6, .inl (fun _ => 0))), ((u 15), .inl (g 0, 6, .inl (fun _ => 0))), ((u 16), .inl (g 0, 6, .inl (fun _ => 0)))] H _ := hT
  refine lv_aload_n hx hb dX3_push_13 rfl (lv_at hl 0 rfl) ?_
  refine lv_aload_n hx hb dX3_push_14 rfl (lv_at hl 0 rfl) ?_
  refine z_get C (ci := 3) (N := 3) rfl hin3 hT 0 1 rfl rfl (by decide +kernel) (by decide +kernel) dX3_push_15 ?_
  refine lv_iconst (v := 1) hx hb dX3_push_18 (by decide +kernel) ?_
  refine lv_iadd hx hb dX3_push_19 ?_
  refine z_eq (y := 1) (by decide +kernel) ?_
  refine lv_bipush (v := 8) hx hb dX3_push_20 (by decide +kernel) ?_
  refine lv_icmp_ge (tgt := 34) hx hb dX3_push_22 (by decide +kernel) (fun c9 => absurd c9 (by decide +kernel)) (fun _ => ?_)
  refine lv_aload_n hx hb dX3_push_25 rfl (lv_at hl 0 rfl) ?_
  refine z_get C (ci := 3) (N := 3) rfl hin3 hT 0 1 rfl rfl (by decide +kernel) (by decide +kernel) dX3_push_26 ?_
  refine lv_iconst (v := 1) hx hb dX3_push_29 (by decide +kernel) ?_
  refine lv_iadd hx hb dX3_push_30 ?_
  refine z_eq (y := 1) (by decide +kernel) ?_
  refine lv_goto (tgt := 35) hx hb dX3_push_31 (by decide +kernel) ?_
  refine z_put C (ci := 3) (N := 3) rfl hin3 tyX3_ok nmX3 hT 0 1 rfl (Nat.le_of_ble_eq_true rfl) (by decide +kernel) (by decide +kernel) rfl rfl rfl dX3_push_35 [((u 3), .inr (3, [.ref (u 29), .int 1, .int 0])), ((u 29), .inl (g 2, 8, .inr (.inr (.inr (.inr pf))))), ((u 1), .inr (1, [.int 5, .int 40, .int 8, .int 0, .int 0, .int 0, .ref (u 8), .ref (u 9), .ref (u 10), .ref (u 11), .ref (u 12), .ref (u 13), .ref (u 14), .ref (u 15), .ref (u 16), .ref (u 17)])), ((u 8), .inl (g 0, 6, .inl (fun _ => 0))), ((u 9), .inl (g 0, 6, .inl (fun _ => 0))), ((u 10), .inl (g 0, 6, .inl (fun _ => 0))), ((u 11), .inl (g 0, 6, .inl (fun _ => 0))), ((u 12), .inl (g 0, 6, .inl (fun _ => 0))), ((u 13), .inl (g 0, 6, .inl (fun _ => 0))), ((u 14), .inl (g 0, 6, .inl (fun _ => 0))), ((u 15), .inl (g 0, 6, .inl (fun _ => 0))), ((u 16), .inl (g 0, 6, .inl (fun _ => 0)))] rfl (fun H locs hT => ?_)
  refine lv_aload_n hx hb dX3_push_38 rfl (lv_at hl 0 rfl) ?_
  refine lv_bipush (v := 8) hx hb dX3_push_39 (by decide +kernel) ?_
  refine lv_aload_n hx hb dX3_push_41 rfl (lv_at hl 0 rfl) ?_
  refine z_get C (ci := 3) (N := 3) rfl hin3 hT 0 2 rfl rfl (by decide +kernel) (by decide +kernel) dX3_push_42 ?_
  refine lv_iconst (v := 1) hx hb dX3_push_45 (by decide +kernel) ?_
  refine lv_iadd hx hb dX3_push_46 ?_
  refine z_eq (y := 1) (by decide +kernel) ?_
  refine z_min C hl.1 (by decide +kernel) (by decide +kernel) (by decide +kernel) (by decide +kernel) (Nat.le_of_ble_eq_true rfl) (Nat.le_of_ble_eq_true rfl) (Nat.le_of_ble_eq_true rfl) (Nat.le_of_ble_eq_true rfl) (v := 1) (by decide +kernel) dX3_push_47 ?_
  refine z_put C (ci := 3) (N := 3) rfl hin3 tyX3_ok nmX3 hT 0 2 rfl (Nat.le_of_ble_eq_true rfl) (by decide +kernel) (by decide +kernel) rfl rfl rfl dX3_push_50 [((u 3), .inr (3, [.ref (u 29), .int 1, .int 1])), ((u 29), .inl (g 2, 8, .inr (.inr (.inr (.inr pf))))), ((u 1), .inr (1, [.int 5, .int 40, .int 8, .int 0, .int 0, .int 0, .ref (u 8), .ref (u 9), .ref (u 10), .ref (u 11), .ref (u 12), .ref (u 13), .ref (u 14), .ref (u 15), .ref (u 16), .ref (u 17)])), ((u 8), .inl (g 0, 6, .inl (fun _ => 0))), ((u 9), .inl (g 0, 6, .inl (fun _ => 0))), ((u 10), .inl (g 0, 6, .inl (fun _ => 0))), ((u 11), .inl (g 0, 6, .inl (fun _ => 0))), ((u 12), .inl (g 0, 6, .inl (fun _ => 0))), ((u 13), .inl (g 0, 6, .inl (fun _ => 0))), ((u 14), .inl (g 0, 6, .inl (fun _ => 0))), ((u 15), .inl (g 0, 6, .inl (fun _ => 0))), ((u 16), .inl (g 0, 6, .inl (fun _ => 0)))] rfl (fun H locs hT => ?_)
  exact z_vret C rfl hT () trivial [2, 3, 4, 5, 6, 7, 8, 9, 10, 11] rfl rfl (Nat.le_of_ble_eq_true rfl) (Nat.le_of_ble_eq_true rfl) dX3_push_53

set_option maxHeartbeats 4000000 in
set_option maxRecDepth 100000 in
/-- Hall.passYear of nobody -/
theorem c_Hall_passYear (l : Launch) (D : va_G) (g : Nat → ClassId) (u : Nat → Nat) : CtV l yX1_passYear wsX1_passYear { frames := 0, cells := 0, slots := 0, locals := 0 } D (TY g) [.ref (u 1)] (fun _ => True) [((u 1), .inr (1, [.int 5, .int 40, .int 8, .int 0, .int 0, .int 0, .ref (u 8), .ref (u 9), .ref (u 10), .ref (u 11), .ref (u 12), .ref (u 13), .ref (u 14), .ref (u 15), .ref (u 16), .ref (u 17)]))] (fun _ : Unit => True) (fun _ => [((u 1), .inr (1, [.int 5, .int 40, .int 8, .int 1, .int 0, .int 0, .ref (u 8), .ref (u 9), .ref (u 10), .ref (u 11), .ref (u 12), .ref (u 13), .ref (u 14), .ref (u 15), .ref (u 16), .ref (u 17)]))]) := by
  refine CtV.intro (cc := cX1_passYear) (maxL := 2) (ret := none) rfl (by decide +kernel) (Nat.le_of_ble_eq_true rfl) ?_
  intro p e s m below meth c A ls C hmn hX hAe hT hl
  have hx := C.1.1
  have hb := C.1.2.1
  have hl : lv_has ls 2 [(0, .ref (u 1))] := hl
  have hin1 : ∀ w ∈ u_ws RX1 TX1 16, w ∈ wsX1_passYear := by decide +kernel
  refine lv_iconst (v := 0) hx hb dX1_passYear_0 (by decide +kernel) ?_
  refine lv_istore_n (lv' := [(1, .int 0), (0, .ref (u 1))]) hx hb dX1_passYear_1 rfl hl (by decide +kernel) rfl (fun ls hl => ?_)
  refine lv_iload_n hx hb dX1_passYear_2 rfl (lv_at hl 0 rfl) ?_
  refine lv_aload_n hx hb dX1_passYear_3 rfl (lv_at hl 1 rfl) ?_
  refine z_get C (ci := 1) (N := 16) rfl hin1 hT 0 4 rfl rfl (by decide +kernel) (by decide +kernel) dX1_passYear_4 ?_
  refine lv_icmp_ge (tgt := 41) hx hb dX1_passYear_7 (by decide +kernel) (fun _ => ?_) (fun c9 => absurd (by decide +kernel) c9)
  refine lv_aload_n hx hb dX1_passYear_41 rfl (lv_at hl 1 rfl) ?_
  refine lv_dup hx hb dX1_passYear_42 rfl ?_
  refine z_get C (ci := 1) (N := 16) rfl hin1 hT 0 3 rfl rfl (by decide +kernel) (by decide +kernel) dX1_passYear_43 ?_
  refine lv_iconst (v := 1) hx hb dX1_passYear_46 (by decide +kernel) ?_
  refine lv_iadd hx hb dX1_passYear_47 ?_
  refine z_eq (y := 1) (by decide +kernel) ?_
  refine z_put C (ci := 1) (N := 16) rfl hin1 tyX1_ok nmX1 hT 0 3 rfl (Nat.le_of_ble_eq_true rfl) (by decide +kernel) (by decide +kernel) rfl rfl rfl dX1_passYear_48 [((u 1), .inr (1, [.int 5, .int 40, .int 8, .int 1, .int 0, .int 0, .ref (u 8), .ref (u 9), .ref (u 10), .ref (u 11), .ref (u 12), .ref (u 13), .ref (u 14), .ref (u 15), .ref (u 16), .ref (u 17)]))] rfl (fun H locs hT => ?_)
  exact z_vret C rfl hT () trivial [0] rfl rfl (Nat.le_of_ble_eq_true rfl) (Nat.le_of_ble_eq_true rfl) dX1_passYear_51

def sP_year  : Int32 := 1
set_option maxHeartbeats 4000000 in
set_option maxRecDepth 100000 in
/-- CowardsPot.year on a new pot -/
theorem c_P_year (l : Launch) (D : va_G) (g : Nat → ClassId) (h0 : Nat) (u : Nat → Nat) (pf : Nat → Option Nat) (hpf : pf 0 = some (u 30)) : CtI l yX7_year wsX7_year { frames := 2, cells := 0, slots := 0, locals := 60 } D (TY g) [.ref h0] (fun _ => True) [(h0, .inr (7, [.ref (u 0), .ref (u 1), .ref (u 2), .ref (u 3), .ref (u 4), .ref (u 5), .ref (u 6)])), ((u 3), .inr (3, [.ref (u 29), .int 0, .int 0])), ((u 29), .inl (g 2, 8, .inr (.inr (.inr (.inr pf))))), ((u 30), .inr (1, [.int 5, .int 40, .int 8, .int 0, .int 0, .int 0, .ref (u 31), .ref (u 32), .ref (u 33), .ref (u 34), .ref (u 35), .ref (u 36), .ref (u 37), .ref (u 38), .ref (u 39), .ref (u 40)])), ((u 31), .inl (g 0, 6, .inl (fun _ => 0))), ((u 32), .inl (g 0, 6, .inl (fun _ => 0))), ((u 33), .inl (g 0, 6, .inl (fun _ => 0))), ((u 34), .inl (g 0, 6, .inl (fun _ => 0))), ((u 35), .inl (g 0, 6, .inl (fun _ => 0))), ((u 36), .inl (g 0, 6, .inl (fun _ => 0))), ((u 37), .inl (g 0, 6, .inl (fun _ => 0))), ((u 38), .inl (g 0, 6, .inl (fun _ => 0))), ((u 39), .inl (g 0, 6, .inl (fun _ => 0))), ((u 1), .inr (1, [.int 5, .int 40, .int 8, .int 0, .int 0, .int 0, .ref (u 8), .ref (u 9), .ref (u 10), .ref (u 11), .ref (u 12), .ref (u 13), .ref (u 14), .ref (u 15), .ref (u 16), .ref (u 17)])), ((u 8), .inl (g 0, 6, .inl (fun _ => 0))), ((u 9), .inl (g 0, 6, .inl (fun _ => 0))), ((u 10), .inl (g 0, 6, .inl (fun _ => 0))), ((u 11), .inl (g 0, 6, .inl (fun _ => 0))), ((u 12), .inl (g 0, 6, .inl (fun _ => 0))), ((u 13), .inl (g 0, 6, .inl (fun _ => 0))), ((u 14), .inl (g 0, 6, .inl (fun _ => 0))), ((u 15), .inl (g 0, 6, .inl (fun _ => 0))), ((u 16), .inl (g 0, 6, .inl (fun _ => 0)))] (fun r (_ : Unit) => r = sP_year ) (fun _ => []) := by
  refine CtI.intro (cc := cX7_year) (maxL := 1) (ret := (some .int)) rfl (by decide +kernel) (Nat.le_of_ble_eq_true rfl) ?_
  intro p e s m below meth c A ls C hmn hX hAe hT hl
  have hx := C.1.1
  have hb := C.1.2.1
  have hl : lv_has ls 1 [(0, .ref h0)] := hl
  have hin1 : ∀ w ∈ u_ws RX1 TX1 16, w ∈ wsX7_year := by decide +kernel
  have hin7 : ∀ w ∈ u_ws RX7 TX7 7, w ∈ wsX7_year := by decide +kernel
  refine lv_aload_n hx hb dX7_year_0 rfl (lv_at hl 0 rfl) ?_
  refine z_get C (ci := 7) (N := 7) rfl hin7 hT 0 1 rfl rfl (by decide +kernel) (by decide +kernel) dX7_year_1 ?_
  refine z_get C (ci := 1) (N := 16) rfl hin1 hT 13 3 rfl rfl (by decide +kernel) (by decide +kernel) dX7_year_4 ?_
  refine lv_sipush (v := 999) hx hb dX7_year_7 (by decide +kernel) ?_
  refine lv_icmp_lt (tgt := 16) hx hb dX7_year_10 (by decide +kernel) (fun _ => ?_) (fun c9 => absurd (by decide +kernel) c9)
  refine lv_aload_n hx hb dX7_year_16 rfl (lv_at hl 0 rfl) ?_
  refine z_get C (ci := 7) (N := 7) rfl hin7 hT 0 3 rfl rfl (by decide +kernel) (by decide +kernel) dX7_year_17 ?_
  refine lv_aload_n hx hb dX7_year_20 rfl (lv_at hl 0 rfl) ?_
  refine z_get C (ci := 7) (N := 7) rfl hin7 hT 0 1 rfl rfl (by decide +kernel) (by decide +kernel) dX7_year_21 ?_
  refine z_callVV (wr := [(h0, .inr (7, [.ref (u 0), .ref (u 1), .ref (u 2), .ref (u 3), .ref (u 4), .ref (u 5), .ref (u 6)]))]) (n := 1) C (c_Past_push l D g u pf hpf) gX7_year_X3_push rfl (by decide +kernel) ⟨Nat.le_of_ble_eq_true rfl, Nat.le_of_ble_eq_true rfl⟩ ⟨Nat.le_of_ble_eq_true rfl, Nat.le_of_ble_eq_true rfl⟩ blind_T (fun _ _ _ => trivial) hT [1, 2, 3, 4, 5, 6, 7, 8, 9, 10, 11, 12, 13, 14, 15, 16, 17, 18, 19, 20, 21, 22] [0] rfl rfl rfl rfl rfl 1 rfl rfl rfl rfl hl.1 rfl (Nat.le_of_ble_eq_true rfl) dX7_year_24 (fun u_1 H locs hp_2 hT => ?_)
  have hT : Sit D (TY g) A s [(h0, .inr (7, [.ref (u 0), .ref (u 1), .ref (u 2), .ref (u 3), .ref (u 4), .ref (u 5), .ref (u 6)])), ((u 1), .inr (1, [.int 5, .int 40, .int 8, .int 0, .int 0, .int 0, .ref (u 8), .ref (u 9), .ref (u 10), .ref (u 11), .ref (u 12), .ref (u 13), .ref (u 14), .ref (u 15), .ref (u 16), .ref (u 17)])), ((u 8), .inl (g 0, 6, .inl (fun _ => 0))), ((u 9), .inl (g 0, 6, .inl (fun _ => 0))), ((u 10), .inl (g 0, 6, .inl (fun _ => 0))), ((u 11), .inl (g 0, 6, .inl (fun _ => 0))), ((u 12), .inl (g 0, 6, .inl (fun _ => 0))), ((u 13), .inl (g 0, 6, .inl (fun _ => 0))), ((u 14), .inl (g 0, 6, .inl (fun _ => 0))), ((u 15), .inl (g 0, 6, .inl (fun _ => 0))), ((u 16), .inl (g 0, 6, .inl (fun _ => 0)))] H _ := hT
  refine lv_aload_n hx hb dX7_year_27 rfl (lv_at hl 0 rfl) ?_
  refine z_get C (ci := 7) (N := 7) rfl hin7 hT 0 1 rfl rfl (by decide +kernel) (by decide +kernel) dX7_year_28 ?_
  refine z_callVV (wr := [(h0, .inr (7, [.ref (u 0), .ref (u 1), .ref (u 2), .ref (u 3), .ref (u 4), .ref (u 5), .ref (u 6)])), ((u 8), .inl (g 0, 6, .inl (fun _ => 0))), ((u 9), .inl (g 0, 6, .inl (fun _ => 0))), ((u 10), .inl (g 0, 6, .inl (fun _ => 0))), ((u 11), .inl (g 0, 6, .inl (fun _ => 0))), ((u 12), .inl (g 0, 6, .inl (fun _ => 0))), ((u 13), .inl (g 0, 6, .inl (fun _ => 0))), ((u 14), .inl (g 0, 6, .inl (fun _ => 0))), ((u 15), .inl (g 0, 6, .inl (fun _ => 0))), ((u 16), .inl (g 0, 6, .inl (fun _ => 0)))]) (n := 0) C (c_Hall_passYear l D g u) gX7_year_X1_passYear rfl (by decide +kernel) ⟨Nat.le_of_ble_eq_true rfl, Nat.le_of_ble_eq_true rfl⟩ ⟨Nat.le_of_ble_eq_true rfl, Nat.le_of_ble_eq_true rfl⟩ blind_T (fun _ _ _ => trivial) hT [1] [0, 2, 3, 4, 5, 6, 7, 8, 9, 10] rfl rfl rfl rfl rfl 1 rfl rfl rfl rfl hl.1 rfl (Nat.le_of_ble_eq_true rfl) dX7_year_31 (fun u_3 H locs hp_4 hT => ?_)
  have hT : Sit D (TY g) A s [(h0, .inr (7, [.ref (u 0), .ref (u 1), .ref (u 2), .ref (u 3), .ref (u 4), .ref (u 5), .ref (u 6)])), ((u 8), .inl (g 0, 6, .inl (fun _ => 0))), ((u 9), .inl (g 0, 6, .inl (fun _ => 0))), ((u 10), .inl (g 0, 6, .inl (fun _ => 0))), ((u 11), .inl (g 0, 6, .inl (fun _ => 0))), ((u 12), .inl (g 0, 6, .inl (fun _ => 0))), ((u 13), .inl (g 0, 6, .inl (fun _ => 0))), ((u 14), .inl (g 0, 6, .inl (fun _ => 0))), ((u 15), .inl (g 0, 6, .inl (fun _ => 0))), ((u 16), .inl (g 0, 6, .inl (fun _ => 0))), ((u 1), .inr (1, [.int 5, .int 40, .int 8, .int 1, .int 0, .int 0, .ref (u 8), .ref (u 9), .ref (u 10), .ref (u 11), .ref (u 12), .ref (u 13), .ref (u 14), .ref (u 15), .ref (u 16), .ref (u 17)]))] H _ := hT
  refine lv_aload_n hx hb dX7_year_34 rfl (lv_at hl 0 rfl) ?_
  refine z_get C (ci := 7) (N := 7) rfl hin7 hT 0 1 rfl rfl (by decide +kernel) (by decide +kernel) dX7_year_35 ?_
  refine z_get C (ci := 1) (N := 16) rfl hin1 hT 10 3 rfl rfl (by decide +kernel) (by decide +kernel) dX7_year_38 ?_
  exact z_iret C rfl hT () rfl [] rfl rfl (Nat.le_of_ble_eq_true rfl) (Nat.le_of_ble_eq_true rfl) dX7_year_41

def sP_scale (p0 p1 : Int32) : Int32 := (if p0 < 0 then (-3) else (if 99 < p0 then (-3) else (if p1 < 1 then (-3) else (if p1 ≤ 20 then 40 else (-3)))))
set_option maxHeartbeats 4000000 in
set_option maxRecDepth 100000 in
/-- CowardsPot.scale on a new pot -/
theorem c_P_scale (l : Launch) (D : va_G) (g : Nat → ClassId) (h0 : Nat) (u : Nat → Nat) (pf : Nat → Option Nat) (hpf : pf 0 = some (u 30)) (p0 p1 : Int32) : CtI l yX7_scale wsX7_scale { frames := 2, cells := 0, slots := 0, locals := 60 } D (TY g) [.ref h0, .int p0, .int p1] (fun _ => True) [(h0, .inr (7, [.ref (u 0), .ref (u 1), .ref (u 2), .ref (u 3), .ref (u 4), .ref (u 5), .ref (u 6)])), ((u 3), .inr (3, [.ref (u 29), .int 0, .int 0])), ((u 29), .inl (g 2, 8, .inr (.inr (.inr (.inr pf))))), ((u 30), .inr (1, [.int 5, .int 40, .int 8, .int 0, .int 0, .int 0, .ref (u 31), .ref (u 32), .ref (u 33), .ref (u 34), .ref (u 35), .ref (u 36), .ref (u 37), .ref (u 38), .ref (u 39), .ref (u 40)])), ((u 31), .inl (g 0, 6, .inl (fun _ => 0))), ((u 32), .inl (g 0, 6, .inl (fun _ => 0))), ((u 33), .inl (g 0, 6, .inl (fun _ => 0))), ((u 34), .inl (g 0, 6, .inl (fun _ => 0))), ((u 35), .inl (g 0, 6, .inl (fun _ => 0))), ((u 36), .inl (g 0, 6, .inl (fun _ => 0))), ((u 37), .inl (g 0, 6, .inl (fun _ => 0))), ((u 38), .inl (g 0, 6, .inl (fun _ => 0))), ((u 39), .inl (g 0, 6, .inl (fun _ => 0))), ((u 1), .inr (1, [.int 5, .int 40, .int 8, .int 0, .int 0, .int 0, .ref (u 8), .ref (u 9), .ref (u 10), .ref (u 11), .ref (u 12), .ref (u 13), .ref (u 14), .ref (u 15), .ref (u 16), .ref (u 17)])), ((u 8), .inl (g 0, 6, .inl (fun _ => 0))), ((u 9), .inl (g 0, 6, .inl (fun _ => 0))), ((u 10), .inl (g 0, 6, .inl (fun _ => 0))), ((u 11), .inl (g 0, 6, .inl (fun _ => 0))), ((u 12), .inl (g 0, 6, .inl (fun _ => 0))), ((u 13), .inl (g 0, 6, .inl (fun _ => 0))), ((u 14), .inl (g 0, 6, .inl (fun _ => 0))), ((u 15), .inl (g 0, 6, .inl (fun _ => 0))), ((u 16), .inl (g 0, 6, .inl (fun _ => 0)))] (fun r (_ : Unit) => r = sP_scale p0 p1) (fun _ => []) := by
  refine CtI.intro (cc := cX7_scale) (maxL := 4) (ret := (some .int)) rfl (by decide +kernel) (Nat.le_of_ble_eq_true rfl) ?_
  intro p e s m below meth c A ls C hmn hX hAe hT hl
  have hx := C.1.1
  have hb := C.1.2.1
  have hl : lv_has ls 4 [(0, .ref h0), (1, .int p0), (2, .int p1)] := hl
  have hin1 : ∀ w ∈ u_ws RX1 TX1 16, w ∈ wsX7_scale := by decide +kernel
  have hin7 : ∀ w ∈ u_ws RX7 TX7 7, w ∈ wsX7_scale := by decide +kernel
  refine lv_iload_n hx hb dX7_scale_0 rfl (lv_at hl 1 rfl) ?_
  refine lv_if_lt (tgt := 21) hx hb dX7_scale_1 (by decide +kernel) (fun c_1 => ?_) (fun c_1 => ?_)
  · refine lv_bipush (v := (-3)) hx hb dX7_scale_21 (by decide +kernel) ?_
    exact z_iret C rfl hT () (by unfold sP_scale; rw [if_pos c_1]) [] rfl rfl (Nat.le_of_ble_eq_true rfl) (Nat.le_of_ble_eq_true rfl) dX7_scale_23
  · refine lv_iload_n hx hb dX7_scale_4 rfl (lv_at hl 1 rfl) ?_
    refine lv_bipush (v := 99) hx hb dX7_scale_5 (by decide +kernel) ?_
    refine lv_icmp_gt (tgt := 21) hx hb dX7_scale_7 (by decide +kernel) (fun c_7 => ?_) (fun c_7 => ?_)
    · refine lv_bipush (v := (-3)) hx hb dX7_scale_21 (by decide +kernel) ?_
      exact z_iret C rfl hT () (by unfold sP_scale; rw [if_neg c_1, if_pos c_7]) [] rfl rfl (Nat.le_of_ble_eq_true rfl) (Nat.le_of_ble_eq_true rfl) dX7_scale_23
    · refine lv_iload_n hx hb dX7_scale_10 rfl (lv_at hl 2 rfl) ?_
      refine lv_iconst (v := 1) hx hb dX7_scale_11 (by decide +kernel) ?_
      refine lv_icmp_lt (tgt := 21) hx hb dX7_scale_12 (by decide +kernel) (fun c_12 => ?_) (fun c_12 => ?_)
      · refine lv_bipush (v := (-3)) hx hb dX7_scale_21 (by decide +kernel) ?_
        exact z_iret C rfl hT () (by unfold sP_scale; rw [if_neg c_1, if_neg c_7, if_pos c_12]) [] rfl rfl (Nat.le_of_ble_eq_true rfl) (Nat.le_of_ble_eq_true rfl) dX7_scale_23
      · refine lv_iload_n hx hb dX7_scale_15 rfl (lv_at hl 2 rfl) ?_
        refine lv_bipush (v := 20) hx hb dX7_scale_16 (by decide +kernel) ?_
        refine lv_icmp_le (tgt := 24) hx hb dX7_scale_18 (by decide +kernel) (fun c_18 => ?_) (fun c_18 => ?_)
        · refine lv_aload_n hx hb dX7_scale_24 rfl (lv_at hl 0 rfl) ?_
          refine z_get C (ci := 7) (N := 7) rfl hin7 hT 0 3 rfl rfl (by decide +kernel) (by decide +kernel) dX7_scale_25 ?_
          refine lv_aload_n hx hb dX7_scale_28 rfl (lv_at hl 0 rfl) ?_
          refine z_get C (ci := 7) (N := 7) rfl hin7 hT 0 1 rfl rfl (by decide +kernel) (by decide +kernel) dX7_scale_29 ?_
          refine z_callVV (wr := [(h0, .inr (7, [.ref (u 0), .ref (u 1), .ref (u 2), .ref (u 3), .ref (u 4), .ref (u 5), .ref (u 6)]))]) (n := 1) C (c_Past_push l D g u pf hpf) gX7_scale_X3_push rfl (by decide +kernel) ⟨Nat.le_of_ble_eq_true rfl, Nat.le_of_ble_eq_true rfl⟩ ⟨Nat.le_of_ble_eq_true rfl, Nat.le_of_ble_eq_true rfl⟩ blind_T (fun _ _ _ => trivial) hT [1, 2, 3, 4, 5, 6, 7, 8, 9, 10, 11, 12, 13, 14, 15, 16, 17, 18, 19, 20, 21, 22] [0] rfl rfl rfl rfl rfl 1 rfl rfl rfl rfl hl.1 rfl (Nat.le_of_ble_eq_true rfl) dX7_scale_32 (fun u_1 H locs hp_2 hT => ?_)
          have hT : Sit D (TY g) A s [(h0, .inr (7, [.ref (u 0), .ref (u 1), .ref (u 2), .ref (u 3), .ref (u 4), .ref (u 5), .ref (u 6)])), ((u 1), .inr (1, [.int 5, .int 40, .int 8, .int 0, .int 0, .int 0, .ref (u 8), .ref (u 9), .ref (u 10), .ref (u 11), .ref (u 12), .ref (u 13), .ref (u 14), .ref (u 15), .ref (u 16), .ref (u 17)])), ((u 8), .inl (g 0, 6, .inl (fun _ => 0))), ((u 9), .inl (g 0, 6, .inl (fun _ => 0))), ((u 10), .inl (g 0, 6, .inl (fun _ => 0))), ((u 11), .inl (g 0, 6, .inl (fun _ => 0))), ((u 12), .inl (g 0, 6, .inl (fun _ => 0))), ((u 13), .inl (g 0, 6, .inl (fun _ => 0))), ((u 14), .inl (g 0, 6, .inl (fun _ => 0))), ((u 15), .inl (g 0, 6, .inl (fun _ => 0))), ((u 16), .inl (g 0, 6, .inl (fun _ => 0)))] H _ := hT
          refine lv_aload_n hx hb dX7_scale_35 rfl (lv_at hl 0 rfl) ?_
          refine z_get C (ci := 7) (N := 7) rfl hin7 hT 0 1 rfl rfl (by decide +kernel) (by decide +kernel) dX7_scale_36 ?_
          refine z_get C (ci := 1) (N := 16) rfl hin1 hT 1 1 rfl rfl (by decide +kernel) (by decide +kernel) dX7_scale_39 ?_
          refine lv_istore_n (lv' := [(3, .int 40), (0, .ref h0), (1, .int p0), (2, .int p1)]) hx hb dX7_scale_42 rfl hl (by decide +kernel) rfl (fun ls hl => ?_)
          refine lv_aload_n hx hb dX7_scale_43 rfl (lv_at hl 1 rfl) ?_
          refine z_get C (ci := 7) (N := 7) rfl hin7 hT 0 1 rfl rfl (by decide +kernel) (by decide +kernel) dX7_scale_44 ?_
          refine lv_iload_n hx hb dX7_scale_47 rfl (lv_at hl 2 rfl) ?_
          refine z_put C (ci := 1) (N := 16) rfl hin1 tyX1_ok nmX1 hT 1 1 rfl (Nat.le_of_ble_eq_true rfl) (by decide +kernel) (by decide +kernel) rfl rfl rfl dX7_scale_48 [(h0, .inr (7, [.ref (u 0), .ref (u 1), .ref (u 2), .ref (u 3), .ref (u 4), .ref (u 5), .ref (u 6)])), ((u 1), .inr (1, [.int 5, .int p0, .int 8, .int 0, .int 0, .int 0, .ref (u 8), .ref (u 9), .ref (u 10), .ref (u 11), .ref (u 12), .ref (u 13), .ref (u 14), .ref (u 15), .ref (u 16), .ref (u 17)])), ((u 8), .inl (g 0, 6, .inl (fun _ => 0))), ((u 9), .inl (g 0, 6, .inl (fun _ => 0))), ((u 10), .inl (g 0, 6, .inl (fun _ => 0))), ((u 11), .inl (g 0, 6, .inl (fun _ => 0))), ((u 12), .inl (g 0, 6, .inl (fun _ => 0))), ((u 13), .inl (g 0, 6, .inl (fun _ => 0))), ((u 14), .inl (g 0, 6, .inl (fun _ => 0))), ((u 15), .inl (g 0, 6, .inl (fun _ => 0))), ((u 16), .inl (g 0, 6, .inl (fun _ => 0)))] rfl (fun H locs hT => ?_)
          refine lv_aload_n hx hb dX7_scale_51 rfl (lv_at hl 1 rfl) ?_
          refine z_get C (ci := 7) (N := 7) rfl hin7 hT 0 1 rfl rfl (by decide +kernel) (by decide +kernel) dX7_scale_52 ?_
          refine lv_iload_n hx hb dX7_scale_55 rfl (lv_at hl 3 rfl) ?_
          refine z_put C (ci := 1) (N := 16) rfl hin1 tyX1_ok nmX1 hT 1 2 rfl (Nat.le_of_ble_eq_true rfl) (by decide +kernel) (by decide +kernel) rfl rfl rfl dX7_scale_56 [(h0, .inr (7, [.ref (u 0), .ref (u 1), .ref (u 2), .ref (u 3), .ref (u 4), .ref (u 5), .ref (u 6)])), ((u 1), .inr (1, [.int 5, .int p0, .int p1, .int 0, .int 0, .int 0, .ref (u 8), .ref (u 9), .ref (u 10), .ref (u 11), .ref (u 12), .ref (u 13), .ref (u 14), .ref (u 15), .ref (u 16), .ref (u 17)])), ((u 8), .inl (g 0, 6, .inl (fun _ => 0))), ((u 9), .inl (g 0, 6, .inl (fun _ => 0))), ((u 10), .inl (g 0, 6, .inl (fun _ => 0))), ((u 11), .inl (g 0, 6, .inl (fun _ => 0))), ((u 12), .inl (g 0, 6, .inl (fun _ => 0))), ((u 13), .inl (g 0, 6, .inl (fun _ => 0))), ((u 14), .inl (g 0, 6, .inl (fun _ => 0))), ((u 15), .inl (g 0, 6, .inl (fun _ => 0))), ((u 16), .inl (g 0, 6, .inl (fun _ => 0)))] rfl (fun H locs hT => ?_)
          refine lv_iload_n hx hb dX7_scale_59 rfl (lv_at hl 0 rfl) ?_
          exact z_iret C rfl hT () (by unfold sP_scale; rw [if_neg c_1, if_neg c_7, if_neg c_12, if_pos c_18]) [] rfl rfl (Nat.le_of_ble_eq_true rfl) (Nat.le_of_ble_eq_true rfl) dX7_scale_60
        · refine lv_bipush (v := (-3)) hx hb dX7_scale_21 (by decide +kernel) ?_
          exact z_iret C rfl hT () (by unfold sP_scale; rw [if_neg c_1, if_neg c_7, if_neg c_12, if_neg c_18]) [] rfl rfl (Nat.le_of_ble_eq_true rfl) (Nat.le_of_ble_eq_true rfl) dX7_scale_23

set_option maxHeartbeats 4000000 in
set_option maxRecDepth 100000 in
/-- Text.copyFrom, of empty texts -/
theorem c_Text_copy (l : Launch) (D : va_G) (g : Nat → ClassId) (h o a b : Nat) : CtV l yX6_copyFrom wsX6_copyFrom { frames := 1, cells := 0, slots := 0, locals := 60 } D (TY g) [.ref h, .ref o] (fun _ => True) [(h, .inr (6, [.ref a, .int 0])), (a, .inl (g 0, 160, .inl (fun _ => 0))), (o, .inr (6, [.ref b, .int 0])), (b, .inl (g 0, 160, .inl (fun _ => 0)))] (fun _ : Unit => True) (fun _ => []) := by
  refine CtV.intro (cc := cX6_copyFrom) (maxL := 2) (ret := none) rfl (by decide +kernel) (Nat.le_of_ble_eq_true rfl) ?_
  intro p e s m below meth c A ls C hmn hX hAe hT hl
  have hx := C.1.1
  have hb := C.1.2.1
  have hl : lv_has ls 2 [(0, .ref h), (1, .ref o)] := hl
  have hin6 : ∀ w ∈ u_ws RX6 TX6 2, w ∈ wsX6_copyFrom := by decide +kernel
  refine lv_aload_n hx hb dX6_copyFrom_0 rfl (lv_at hl 0 rfl) ?_
  refine lv_aload_n hx hb dX6_copyFrom_1 rfl (lv_at hl 1 rfl) ?_
  refine z_get C (ci := 6) (N := 2) rfl hin6 hT 2 1 rfl rfl (by decide +kernel) (by decide +kernel) dX6_copyFrom_2 ?_
  refine z_put C (ci := 6) (N := 2) rfl hin6 tyX6_ok nmX6 hT 0 1 rfl (Nat.le_of_ble_eq_true rfl) (by decide +kernel) (by decide +kernel) rfl rfl rfl dX6_copyFrom_5 [(h, .inr (6, [.ref a, .int 0])), (a, .inl (g 0, 160, .inl (fun _ => 0))), (o, .inr (6, [.ref b, .int 0])), (b, .inl (g 0, 160, .inl (fun _ => 0)))] rfl (fun H locs hT => ?_)
  refine lv_aload_n hx hb dX6_copyFrom_8 rfl (lv_at hl 1 rfl) ?_
  refine z_get C (ci := 6) (N := 2) rfl hin6 hT 2 0 rfl rfl (by decide +kernel) (by decide +kernel) dX6_copyFrom_9 ?_
  refine lv_iconst (v := 0) hx hb dX6_copyFrom_12 (by decide +kernel) ?_
  refine lv_aload_n hx hb dX6_copyFrom_13 rfl (lv_at hl 0 rfl) ?_
  refine z_get C (ci := 6) (N := 2) rfl hin6 hT 0 0 rfl rfl (by decide +kernel) (by decide +kernel) dX6_copyFrom_14 ?_
  refine lv_iconst (v := 0) hx hb dX6_copyFrom_17 (by decide +kernel) ?_
  refine lv_sipush (v := 160) hx hb dX6_copyFrom_18 (by decide +kernel) ?_
  refine z_copy C hl.1 (by decide +kernel) (by decide +kernel) (by decide +kernel) (by decide +kernel) hT 3 1 0 rfl rfl rfl (by decide +kernel) (by decide +kernel) (by decide +kernel) (by decide +kernel) (by decide +kernel) (Nat.le_of_ble_eq_true rfl) (Nat.le_of_ble_eq_true rfl) dX6_copyFrom_21 [(h, .inr (6, [.ref a, .int 0])), (a, .inl (g 0, 160, .inl (va_cpy (fun _ => 0) (fun _ => 0) (0 : Int32).toNatClampNeg (0 : Int32).toNatClampNeg (160 : Int32).toNatClampNeg))), (o, .inr (6, [.ref b, .int 0])), (b, .inl (g 0, 160, .inl (fun _ => 0)))] rfl (fun H locs hT => ?_)
  exact z_vret C rfl hT () trivial [] rfl rfl (Nat.le_of_ble_eq_true rfl) (Nat.le_of_ble_eq_true rfl) dX6_copyFrom_24

def sP_keep_0  : Int32 := 0
set_option maxHeartbeats 4000000 in
set_option maxRecDepth 100000 in
theorem c_P_keep_0 (l : Launch) (D : va_G) (g : Nat → ClassId) (h0 : Nat) (u : Nat → Nat) (kf : Nat → Option Nat) (hk0 : kf 0 = some (u 41)) (hk1 : kf 1 = some (u 55)) : CtI l yX7_keep wsX7_keep { frames := 2, cells := 0, slots := 0, locals := 100 } D (TY g) [.ref h0, .int 0] (fun _ => True) [(h0, .inr (7, [.ref (u 0), .ref (u 1), .ref (u 2), .ref (u 3), .ref (u 4), .ref (u 5), .ref (u 6)])), ((u 4), .inl (g 3, 2, .inr (.inr (.inr (.inr kf))))), ((u 41), .inr (2, [.ref (u 42), .ref (u 43), .int 0])), ((u 42), .inr (1, [.int 5, .int 40, .int 8, .int 0, .int 0, .int 0, .ref (u 44), .ref (u 45), .ref (u 46), .ref (u 47), .ref (u 48), .ref (u 49), .ref (u 50), .ref (u 51), .ref (u 52), .ref (u 53)])), ((u 44), .inl (g 0, 6, .inl (fun _ => 0))), ((u 45), .inl (g 0, 6, .inl (fun _ => 0))), ((u 46), .inl (g 0, 6, .inl (fun _ => 0))), ((u 47), .inl (g 0, 6, .inl (fun _ => 0))), ((u 48), .inl (g 0, 6, .inl (fun _ => 0))), ((u 49), .inl (g 0, 6, .inl (fun _ => 0))), ((u 50), .inl (g 0, 6, .inl (fun _ => 0))), ((u 51), .inl (g 0, 6, .inl (fun _ => 0))), ((u 52), .inl (g 0, 6, .inl (fun _ => 0))), ((u 43), .inr (6, [.ref (u 54), .int 0])), ((u 54), .inl (g 0, 160, .inl (fun _ => 0))), ((u 55), .inr (2, [.ref (u 56), .ref (u 57), .int 0])), ((u 56), .inr (1, [.int 5, .int 40, .int 8, .int 0, .int 0, .int 0, .ref (u 58), .ref (u 59), .ref (u 60), .ref (u 61), .ref (u 62), .ref (u 63), .ref (u 64), .ref (u 65), .ref (u 66), .ref (u 67)])), ((u 58), .inl (g 0, 6, .inl (fun _ => 0))), ((u 59), .inl (g 0, 6, .inl (fun _ => 0))), ((u 60), .inl (g 0, 6, .inl (fun _ => 0))), ((u 61), .inl (g 0, 6, .inl (fun _ => 0))), ((u 62), .inl (g 0, 6, .inl (fun _ => 0))), ((u 63), .inl (g 0, 6, .inl (fun _ => 0))), ((u 64), .inl (g 0, 6, .inl (fun _ => 0))), ((u 65), .inl (g 0, 6, .inl (fun _ => 0))), ((u 66), .inl (g 0, 6, .inl (fun _ => 0))), ((u 57), .inr (6, [.ref (u 68), .int 0])), ((u 68), .inl (g 0, 160, .inl (fun _ => 0))), ((u 0), .inr (6, [.ref (u 7), .int 0])), ((u 7), .inl (g 0, 160, .inl (fun _ => 0))), ((u 1), .inr (1, [.int 5, .int 40, .int 8, .int 0, .int 0, .int 0, .ref (u 8), .ref (u 9), .ref (u 10), .ref (u 11), .ref (u 12), .ref (u 13), .ref (u 14), .ref (u 15), .ref (u 16), .ref (u 17)])), ((u 8), .inl (g 0, 6, .inl (fun _ => 0))), ((u 9), .inl (g 0, 6, .inl (fun _ => 0))), ((u 10), .inl (g 0, 6, .inl (fun _ => 0))), ((u 11), .inl (g 0, 6, .inl (fun _ => 0))), ((u 12), .inl (g 0, 6, .inl (fun _ => 0))), ((u 13), .inl (g 0, 6, .inl (fun _ => 0))), ((u 14), .inl (g 0, 6, .inl (fun _ => 0))), ((u 15), .inl (g 0, 6, .inl (fun _ => 0))), ((u 16), .inl (g 0, 6, .inl (fun _ => 0)))] (fun r (_ : Unit) => r = sP_keep_0 ) (fun _ => []) := by
  refine CtI.intro (cc := cX7_keep) (maxL := 2) (ret := (some .int)) rfl (by decide +kernel) (Nat.le_of_ble_eq_true rfl) ?_
  intro p e s m below meth c A ls C hmn hX hAe hT hl
  have hx := C.1.1
  have hb := C.1.2.1
  have hl : lv_has ls 2 [(0, .ref h0), (1, .int 0)] := hl
  have hin1 : ∀ w ∈ u_ws RX1 TX1 16, w ∈ wsX7_keep := by decide +kernel
  have hin2 : ∀ w ∈ u_ws RX2 TX2 3, w ∈ wsX7_keep := by decide +kernel
  have hin7 : ∀ w ∈ u_ws RX7 TX7 7, w ∈ wsX7_keep := by decide +kernel
  refine lv_iload_n hx hb dX7_keep_0 rfl (lv_at hl 1 rfl) ?_
  refine z_callSI (wr := [(h0, .inr (7, [.ref (u 0), .ref (u 1), .ref (u 2), .ref (u 3), .ref (u 4), .ref (u 5), .ref (u 6)])), ((u 4), .inl (g 3, 2, .inr (.inr (.inr (.inr kf))))), ((u 41), .inr (2, [.ref (u 42), .ref (u 43), .int 0])), ((u 42), .inr (1, [.int 5, .int 40, .int 8, .int 0, .int 0, .int 0, .ref (u 44), .ref (u 45), .ref (u 46), .ref (u 47), .ref (u 48), .ref (u 49), .ref (u 50), .ref (u 51), .ref (u 52), .ref (u 53)])), ((u 44), .inl (g 0, 6, .inl (fun _ => 0))), ((u 45), .inl (g 0, 6, .inl (fun _ => 0))), ((u 46), .inl (g 0, 6, .inl (fun _ => 0))), ((u 47), .inl (g 0, 6, .inl (fun _ => 0))), ((u 48), .inl (g 0, 6, .inl (fun _ => 0))), ((u 49), .inl (g 0, 6, .inl (fun _ => 0))), ((u 50), .inl (g 0, 6, .inl (fun _ => 0))), ((u 51), .inl (g 0, 6, .inl (fun _ => 0))), ((u 52), .inl (g 0, 6, .inl (fun _ => 0))), ((u 43), .inr (6, [.ref (u 54), .int 0])), ((u 54), .inl (g 0, 160, .inl (fun _ => 0))), ((u 55), .inr (2, [.ref (u 56), .ref (u 57), .int 0])), ((u 56), .inr (1, [.int 5, .int 40, .int 8, .int 0, .int 0, .int 0, .ref (u 58), .ref (u 59), .ref (u 60), .ref (u 61), .ref (u 62), .ref (u 63), .ref (u 64), .ref (u 65), .ref (u 66), .ref (u 67)])), ((u 58), .inl (g 0, 6, .inl (fun _ => 0))), ((u 59), .inl (g 0, 6, .inl (fun _ => 0))), ((u 60), .inl (g 0, 6, .inl (fun _ => 0))), ((u 61), .inl (g 0, 6, .inl (fun _ => 0))), ((u 62), .inl (g 0, 6, .inl (fun _ => 0))), ((u 63), .inl (g 0, 6, .inl (fun _ => 0))), ((u 64), .inl (g 0, 6, .inl (fun _ => 0))), ((u 65), .inl (g 0, 6, .inl (fun _ => 0))), ((u 66), .inl (g 0, 6, .inl (fun _ => 0))), ((u 57), .inr (6, [.ref (u 68), .int 0])), ((u 68), .inl (g 0, 160, .inl (fun _ => 0))), ((u 0), .inr (6, [.ref (u 7), .int 0])), ((u 7), .inl (g 0, 160, .inl (fun _ => 0))), ((u 1), .inr (1, [.int 5, .int 40, .int 8, .int 0, .int 0, .int 0, .ref (u 8), .ref (u 9), .ref (u 10), .ref (u 11), .ref (u 12), .ref (u 13), .ref (u 14), .ref (u 15), .ref (u 16), .ref (u 17)])), ((u 8), .inl (g 0, 6, .inl (fun _ => 0))), ((u 9), .inl (g 0, 6, .inl (fun _ => 0))), ((u 10), .inl (g 0, 6, .inl (fun _ => 0))), ((u 11), .inl (g 0, 6, .inl (fun _ => 0))), ((u 12), .inl (g 0, 6, .inl (fun _ => 0))), ((u 13), .inl (g 0, 6, .inl (fun _ => 0))), ((u 14), .inl (g 0, 6, .inl (fun _ => 0))), ((u 15), .inl (g 0, 6, .inl (fun _ => 0))), ((u 16), .inl (g 0, 6, .inl (fun _ => 0)))]) (n := 1) (As := [.int 0]) C (c_P_isKeptPlace l D g 0) gX7_keep_X7_isKeptPlace rfl (by decide +kernel) ⟨Nat.le_of_ble_eq_true rfl, Nat.le_of_ble_eq_true rfl⟩ ⟨Nat.le_of_ble_eq_true rfl, Nat.le_of_ble_eq_true rfl⟩ blind_T (fun _ _ _ => trivial) hT [] [0, 1, 2, 3, 4, 5, 6, 7, 8, 9, 10, 11, 12, 13, 14, 15, 16, 17, 18, 19, 20, 21, 22, 23, 24, 25, 26, 27, 28, 29, 30, 31, 32, 33, 34, 35, 36, 37, 38, 39] rfl rfl rfl rfl rfl rfl hl.1 rfl (Nat.le_of_ble_eq_true rfl) dX7_keep_1 (fun r_3 u_1 H locs hp_2 hT => ?_)
  have hT : Sit D (TY g) A s [(h0, .inr (7, [.ref (u 0), .ref (u 1), .ref (u 2), .ref (u 3), .ref (u 4), .ref (u 5), .ref (u 6)])), ((u 4), .inl (g 3, 2, .inr (.inr (.inr (.inr kf))))), ((u 41), .inr (2, [.ref (u 42), .ref (u 43), .int 0])), ((u 42), .inr (1, [.int 5, .int 40, .int 8, .int 0, .int 0, .int 0, .ref (u 44), .ref (u 45), .ref (u 46), .ref (u 47), .ref (u 48), .ref (u 49), .ref (u 50), .ref (u 51), .ref (u 52), .ref (u 53)])), ((u 44), .inl (g 0, 6, .inl (fun _ => 0))), ((u 45), .inl (g 0, 6, .inl (fun _ => 0))), ((u 46), .inl (g 0, 6, .inl (fun _ => 0))), ((u 47), .inl (g 0, 6, .inl (fun _ => 0))), ((u 48), .inl (g 0, 6, .inl (fun _ => 0))), ((u 49), .inl (g 0, 6, .inl (fun _ => 0))), ((u 50), .inl (g 0, 6, .inl (fun _ => 0))), ((u 51), .inl (g 0, 6, .inl (fun _ => 0))), ((u 52), .inl (g 0, 6, .inl (fun _ => 0))), ((u 43), .inr (6, [.ref (u 54), .int 0])), ((u 54), .inl (g 0, 160, .inl (fun _ => 0))), ((u 55), .inr (2, [.ref (u 56), .ref (u 57), .int 0])), ((u 56), .inr (1, [.int 5, .int 40, .int 8, .int 0, .int 0, .int 0, .ref (u 58), .ref (u 59), .ref (u 60), .ref (u 61), .ref (u 62), .ref (u 63), .ref (u 64), .ref (u 65), .ref (u 66), .ref (u 67)])), ((u 58), .inl (g 0, 6, .inl (fun _ => 0))), ((u 59), .inl (g 0, 6, .inl (fun _ => 0))), ((u 60), .inl (g 0, 6, .inl (fun _ => 0))), ((u 61), .inl (g 0, 6, .inl (fun _ => 0))), ((u 62), .inl (g 0, 6, .inl (fun _ => 0))), ((u 63), .inl (g 0, 6, .inl (fun _ => 0))), ((u 64), .inl (g 0, 6, .inl (fun _ => 0))), ((u 65), .inl (g 0, 6, .inl (fun _ => 0))), ((u 66), .inl (g 0, 6, .inl (fun _ => 0))), ((u 57), .inr (6, [.ref (u 68), .int 0])), ((u 68), .inl (g 0, 160, .inl (fun _ => 0))), ((u 0), .inr (6, [.ref (u 7), .int 0])), ((u 7), .inl (g 0, 160, .inl (fun _ => 0))), ((u 1), .inr (1, [.int 5, .int 40, .int 8, .int 0, .int 0, .int 0, .ref (u 8), .ref (u 9), .ref (u 10), .ref (u 11), .ref (u 12), .ref (u 13), .ref (u 14), .ref (u 15), .ref (u 16), .ref (u 17)])), ((u 8), .inl (g 0, 6, .inl (fun _ => 0))), ((u 9), .inl (g 0, 6, .inl (fun _ => 0))), ((u 10), .inl (g 0, 6, .inl (fun _ => 0))), ((u 11), .inl (g 0, 6, .inl (fun _ => 0))), ((u 12), .inl (g 0, 6, .inl (fun _ => 0))), ((u 13), .inl (g 0, 6, .inl (fun _ => 0))), ((u 14), .inl (g 0, 6, .inl (fun _ => 0))), ((u 15), .inl (g 0, 6, .inl (fun _ => 0))), ((u 16), .inl (g 0, 6, .inl (fun _ => 0)))] H _ := hT
  have hp_2 := hp_2.trans (show sP_isKeptPlace 0 = 1 from by decide +kernel)
  subst hp_2
  refine lv_if_ne (tgt := 10) hx hb dX7_keep_4 (by decide +kernel) (fun _ => ?_) (fun c9 => absurd c9 (by decide +kernel))
  refine lv_aload_n hx hb dX7_keep_10 rfl (lv_at hl 0 rfl) ?_
  refine z_get C (ci := 7) (N := 7) rfl hin7 hT 0 4 rfl rfl (by decide +kernel) (by decide +kernel) dX7_keep_11 ?_
  refine lv_iload_n hx hb dX7_keep_14 rfl (lv_at hl 1 rfl) ?_
  refine z_aald C hT 1 3 rfl rfl rfl (vin rfl) (v := .ref (u 41)) (show va_rf (kf (0 : Int32).toNatClampNeg) = .ref (u 41) from by rw [show (0 : Int32).toNatClampNeg = 0 from by decide +kernel, hk0]; rfl) dX7_keep_15 ?_
  refine z_get C (ci := 2) (N := 3) rfl hin2 hT 2 0 rfl rfl (by decide +kernel) (by decide +kernel) dX7_keep_16 ?_
  refine lv_aload_n hx hb dX7_keep_19 rfl (lv_at hl 0 rfl) ?_
  refine z_get C (ci := 7) (N := 7) rfl hin7 hT 0 1 rfl rfl (by decide +kernel) (by decide +kernel) dX7_keep_20 ?_
  refine z_callVV (wr := [(h0, .inr (7, [.ref (u 0), .ref (u 1), .ref (u 2), .ref (u 3), .ref (u 4), .ref (u 5), .ref (u 6)])), ((u 4), .inl (g 3, 2, .inr (.inr (.inr (.inr kf))))), ((u 41), .inr (2, [.ref (u 42), .ref (u 43), .int 0])), ((u 43), .inr (6, [.ref (u 54), .int 0])), ((u 54), .inl (g 0, 160, .inl (fun _ => 0))), ((u 55), .inr (2, [.ref (u 56), .ref (u 57), .int 0])), ((u 56), .inr (1, [.int 5, .int 40, .int 8, .int 0, .int 0, .int 0, .ref (u 58), .ref (u 59), .ref (u 60), .ref (u 61), .ref (u 62), .ref (u 63), .ref (u 64), .ref (u 65), .ref (u 66), .ref (u 67)])), ((u 58), .inl (g 0, 6, .inl (fun _ => 0))), ((u 59), .inl (g 0, 6, .inl (fun _ => 0))), ((u 60), .inl (g 0, 6, .inl (fun _ => 0))), ((u 61), .inl (g 0, 6, .inl (fun _ => 0))), ((u 62), .inl (g 0, 6, .inl (fun _ => 0))), ((u 63), .inl (g 0, 6, .inl (fun _ => 0))), ((u 64), .inl (g 0, 6, .inl (fun _ => 0))), ((u 65), .inl (g 0, 6, .inl (fun _ => 0))), ((u 66), .inl (g 0, 6, .inl (fun _ => 0))), ((u 57), .inr (6, [.ref (u 68), .int 0])), ((u 68), .inl (g 0, 160, .inl (fun _ => 0))), ((u 0), .inr (6, [.ref (u 7), .int 0])), ((u 7), .inl (g 0, 160, .inl (fun _ => 0)))]) (n := 1) C (c_Hall_copy l D g (u 42) (u 1) (fun k => u (44 + k)) (fun k => u (8 + k))) gX7_keep_X1_copyFrom rfl (by decide +kernel) ⟨Nat.le_of_ble_eq_true rfl, Nat.le_of_ble_eq_true rfl⟩ ⟨Nat.le_of_ble_eq_true rfl, Nat.le_of_ble_eq_true rfl⟩ blind_T (fun _ _ _ => trivial) hT [3, 4, 5, 6, 7, 8, 9, 10, 11, 12, 30, 31, 32, 33, 34, 35, 36, 37, 38, 39] [0, 1, 2, 13, 14, 15, 16, 17, 18, 19, 20, 21, 22, 23, 24, 25, 26, 27, 28, 29] rfl rfl rfl rfl rfl 3 rfl rfl rfl rfl hl.1 rfl (Nat.le_of_ble_eq_true rfl) dX7_keep_23 (fun u_4 H locs hp_5 hT => ?_)
  have hT : Sit D (TY g) A s [(h0, .inr (7, [.ref (u 0), .ref (u 1), .ref (u 2), .ref (u 3), .ref (u 4), .ref (u 5), .ref (u 6)])), ((u 4), .inl (g 3, 2, .inr (.inr (.inr (.inr kf))))), ((u 41), .inr (2, [.ref (u 42), .ref (u 43), .int 0])), ((u 43), .inr (6, [.ref (u 54), .int 0])), ((u 54), .inl (g 0, 160, .inl (fun _ => 0))), ((u 55), .inr (2, [.ref (u 56), .ref (u 57), .int 0])), ((u 56), .inr (1, [.int 5, .int 40, .int 8, .int 0, .int 0, .int 0, .ref (u 58), .ref (u 59), .ref (u 60), .ref (u 61), .ref (u 62), .ref (u 63), .ref (u 64), .ref (u 65), .ref (u 66), .ref (u 67)])), ((u 58), .inl (g 0, 6, .inl (fun _ => 0))), ((u 59), .inl (g 0, 6, .inl (fun _ => 0))), ((u 60), .inl (g 0, 6, .inl (fun _ => 0))), ((u 61), .inl (g 0, 6, .inl (fun _ => 0))), ((u 62), .inl (g 0, 6, .inl (fun _ => 0))), ((u 63), .inl (g 0, 6, .inl (fun _ => 0))), ((u 64), .inl (g 0, 6, .inl (fun _ => 0))), ((u 65), .inl (g 0, 6, .inl (fun _ => 0))), ((u 66), .inl (g 0, 6, .inl (fun _ => 0))), ((u 57), .inr (6, [.ref (u 68), .int 0])), ((u 68), .inl (g 0, 160, .inl (fun _ => 0))), ((u 0), .inr (6, [.ref (u 7), .int 0])), ((u 7), .inl (g 0, 160, .inl (fun _ => 0))), ((u 1), .inr (1, [.int 5, .int 40, .int 8, .int 0, .int 0, .int 0, .ref (u 8), .ref (u 9), .ref (u 10), .ref (u 11), .ref (u 12), .ref (u 13), .ref (u 14), .ref (u 15), .ref (u 16), .ref (u 17)])), ((u 8), .inl (g 0, 6, .inl (fun _ => 0))), ((u 9), .inl (g 0, 6, .inl (fun _ => 0))), ((u 10), .inl (g 0, 6, .inl (fun _ => 0))), ((u 11), .inl (g 0, 6, .inl (fun _ => 0))), ((u 12), .inl (g 0, 6, .inl (fun _ => 0))), ((u 13), .inl (g 0, 6, .inl (fun _ => 0))), ((u 14), .inl (g 0, 6, .inl (fun _ => 0))), ((u 15), .inl (g 0, 6, .inl (fun _ => 0))), ((u 16), .inl (g 0, 6, .inl (fun _ => 0)))] H _ := hT
  refine lv_aload_n hx hb dX7_keep_26 rfl (lv_at hl 0 rfl) ?_
  refine z_get C (ci := 7) (N := 7) rfl hin7 hT 0 4 rfl rfl (by decide +kernel) (by decide +kernel) dX7_keep_27 ?_
  refine lv_iload_n hx hb dX7_keep_30 rfl (lv_at hl 1 rfl) ?_
  refine z_aald C hT 1 3 rfl rfl rfl (vin rfl) (v := .ref (u 41)) (show va_rf (kf (0 : Int32).toNatClampNeg) = .ref (u 41) from by rw [show (0 : Int32).toNatClampNeg = 0 from by decide +kernel, hk0]; rfl) dX7_keep_31 ?_
  refine z_get C (ci := 2) (N := 3) rfl hin2 hT 2 1 rfl rfl (by decide +kernel) (by decide +kernel) dX7_keep_32 ?_
  refine lv_aload_n hx hb dX7_keep_35 rfl (lv_at hl 0 rfl) ?_
  refine z_get C (ci := 7) (N := 7) rfl hin7 hT 0 0 rfl rfl (by decide +kernel) (by decide +kernel) dX7_keep_36 ?_
  refine z_callVV (wr := [(h0, .inr (7, [.ref (u 0), .ref (u 1), .ref (u 2), .ref (u 3), .ref (u 4), .ref (u 5), .ref (u 6)])), ((u 4), .inl (g 3, 2, .inr (.inr (.inr (.inr kf))))), ((u 41), .inr (2, [.ref (u 42), .ref (u 43), .int 0])), ((u 55), .inr (2, [.ref (u 56), .ref (u 57), .int 0])), ((u 56), .inr (1, [.int 5, .int 40, .int 8, .int 0, .int 0, .int 0, .ref (u 58), .ref (u 59), .ref (u 60), .ref (u 61), .ref (u 62), .ref (u 63), .ref (u 64), .ref (u 65), .ref (u 66), .ref (u 67)])), ((u 58), .inl (g 0, 6, .inl (fun _ => 0))), ((u 59), .inl (g 0, 6, .inl (fun _ => 0))), ((u 60), .inl (g 0, 6, .inl (fun _ => 0))), ((u 61), .inl (g 0, 6, .inl (fun _ => 0))), ((u 62), .inl (g 0, 6, .inl (fun _ => 0))), ((u 63), .inl (g 0, 6, .inl (fun _ => 0))), ((u 64), .inl (g 0, 6, .inl (fun _ => 0))), ((u 65), .inl (g 0, 6, .inl (fun _ => 0))), ((u 66), .inl (g 0, 6, .inl (fun _ => 0))), ((u 57), .inr (6, [.ref (u 68), .int 0])), ((u 68), .inl (g 0, 160, .inl (fun _ => 0))), ((u 1), .inr (1, [.int 5, .int 40, .int 8, .int 0, .int 0, .int 0, .ref (u 8), .ref (u 9), .ref (u 10), .ref (u 11), .ref (u 12), .ref (u 13), .ref (u 14), .ref (u 15), .ref (u 16), .ref (u 17)])), ((u 8), .inl (g 0, 6, .inl (fun _ => 0))), ((u 9), .inl (g 0, 6, .inl (fun _ => 0))), ((u 10), .inl (g 0, 6, .inl (fun _ => 0))), ((u 11), .inl (g 0, 6, .inl (fun _ => 0))), ((u 12), .inl (g 0, 6, .inl (fun _ => 0))), ((u 13), .inl (g 0, 6, .inl (fun _ => 0))), ((u 14), .inl (g 0, 6, .inl (fun _ => 0))), ((u 15), .inl (g 0, 6, .inl (fun _ => 0))), ((u 16), .inl (g 0, 6, .inl (fun _ => 0)))]) (n := 1) C (c_Text_copy l D g (u 43) (u 0) (u 54) (u 7)) gX7_keep_X6_copyFrom rfl (by decide +kernel) ⟨Nat.le_of_ble_eq_true rfl, Nat.le_of_ble_eq_true rfl⟩ ⟨Nat.le_of_ble_eq_true rfl, Nat.le_of_ble_eq_true rfl⟩ blind_T (fun _ _ _ => trivial) hT [3, 4, 18, 19] [0, 1, 2, 5, 6, 7, 8, 9, 10, 11, 12, 13, 14, 15, 16, 17, 20, 21, 22, 23, 24, 25, 26, 27, 28, 29] rfl rfl rfl rfl rfl 3 rfl rfl rfl rfl hl.1 rfl (Nat.le_of_ble_eq_true rfl) dX7_keep_39 (fun u_6 H locs hp_7 hT => ?_)
  have hT : Sit D (TY g) A s [(h0, .inr (7, [.ref (u 0), .ref (u 1), .ref (u 2), .ref (u 3), .ref (u 4), .ref (u 5), .ref (u 6)])), ((u 4), .inl (g 3, 2, .inr (.inr (.inr (.inr kf))))), ((u 41), .inr (2, [.ref (u 42), .ref (u 43), .int 0])), ((u 55), .inr (2, [.ref (u 56), .ref (u 57), .int 0])), ((u 56), .inr (1, [.int 5, .int 40, .int 8, .int 0, .int 0, .int 0, .ref (u 58), .ref (u 59), .ref (u 60), .ref (u 61), .ref (u 62), .ref (u 63), .ref (u 64), .ref (u 65), .ref (u 66), .ref (u 67)])), ((u 58), .inl (g 0, 6, .inl (fun _ => 0))), ((u 59), .inl (g 0, 6, .inl (fun _ => 0))), ((u 60), .inl (g 0, 6, .inl (fun _ => 0))), ((u 61), .inl (g 0, 6, .inl (fun _ => 0))), ((u 62), .inl (g 0, 6, .inl (fun _ => 0))), ((u 63), .inl (g 0, 6, .inl (fun _ => 0))), ((u 64), .inl (g 0, 6, .inl (fun _ => 0))), ((u 65), .inl (g 0, 6, .inl (fun _ => 0))), ((u 66), .inl (g 0, 6, .inl (fun _ => 0))), ((u 57), .inr (6, [.ref (u 68), .int 0])), ((u 68), .inl (g 0, 160, .inl (fun _ => 0))), ((u 1), .inr (1, [.int 5, .int 40, .int 8, .int 0, .int 0, .int 0, .ref (u 8), .ref (u 9), .ref (u 10), .ref (u 11), .ref (u 12), .ref (u 13), .ref (u 14), .ref (u 15), .ref (u 16), .ref (u 17)])), ((u 8), .inl (g 0, 6, .inl (fun _ => 0))), ((u 9), .inl (g 0, 6, .inl (fun _ => 0))), ((u 10), .inl (g 0, 6, .inl (fun _ => 0))), ((u 11), .inl (g 0, 6, .inl (fun _ => 0))), ((u 12), .inl (g 0, 6, .inl (fun _ => 0))), ((u 13), .inl (g 0, 6, .inl (fun _ => 0))), ((u 14), .inl (g 0, 6, .inl (fun _ => 0))), ((u 15), .inl (g 0, 6, .inl (fun _ => 0))), ((u 16), .inl (g 0, 6, .inl (fun _ => 0)))] H _ := hT
  refine lv_aload_n hx hb dX7_keep_42 rfl (lv_at hl 0 rfl) ?_
  refine z_get C (ci := 7) (N := 7) rfl hin7 hT 0 4 rfl rfl (by decide +kernel) (by decide +kernel) dX7_keep_43 ?_
  refine lv_iload_n hx hb dX7_keep_46 rfl (lv_at hl 1 rfl) ?_
  refine z_aald C hT 1 3 rfl rfl rfl (vin rfl) (v := .ref (u 41)) (show va_rf (kf (0 : Int32).toNatClampNeg) = .ref (u 41) from by rw [show (0 : Int32).toNatClampNeg = 0 from by decide +kernel, hk0]; rfl) dX7_keep_47 ?_
  refine lv_iconst (v := 1) hx hb dX7_keep_48 (by decide +kernel) ?_
  refine z_put C (ci := 2) (N := 3) rfl hin2 tyX2_ok nmX2 hT 2 2 rfl (Nat.le_of_ble_eq_true rfl) (by decide +kernel) (by decide +kernel) rfl rfl rfl dX7_keep_49 [(h0, .inr (7, [.ref (u 0), .ref (u 1), .ref (u 2), .ref (u 3), .ref (u 4), .ref (u 5), .ref (u 6)])), ((u 4), .inl (g 3, 2, .inr (.inr (.inr (.inr kf))))), ((u 41), .inr (2, [.ref (u 42), .ref (u 43), .int 1])), ((u 55), .inr (2, [.ref (u 56), .ref (u 57), .int 0])), ((u 56), .inr (1, [.int 5, .int 40, .int 8, .int 0, .int 0, .int 0, .ref (u 58), .ref (u 59), .ref (u 60), .ref (u 61), .ref (u 62), .ref (u 63), .ref (u 64), .ref (u 65), .ref (u 66), .ref (u 67)])), ((u 58), .inl (g 0, 6, .inl (fun _ => 0))), ((u 59), .inl (g 0, 6, .inl (fun _ => 0))), ((u 60), .inl (g 0, 6, .inl (fun _ => 0))), ((u 61), .inl (g 0, 6, .inl (fun _ => 0))), ((u 62), .inl (g 0, 6, .inl (fun _ => 0))), ((u 63), .inl (g 0, 6, .inl (fun _ => 0))), ((u 64), .inl (g 0, 6, .inl (fun _ => 0))), ((u 65), .inl (g 0, 6, .inl (fun _ => 0))), ((u 66), .inl (g 0, 6, .inl (fun _ => 0))), ((u 57), .inr (6, [.ref (u 68), .int 0])), ((u 68), .inl (g 0, 160, .inl (fun _ => 0))), ((u 1), .inr (1, [.int 5, .int 40, .int 8, .int 0, .int 0, .int 0, .ref (u 8), .ref (u 9), .ref (u 10), .ref (u 11), .ref (u 12), .ref (u 13), .ref (u 14), .ref (u 15), .ref (u 16), .ref (u 17)])), ((u 8), .inl (g 0, 6, .inl (fun _ => 0))), ((u 9), .inl (g 0, 6, .inl (fun _ => 0))), ((u 10), .inl (g 0, 6, .inl (fun _ => 0))), ((u 11), .inl (g 0, 6, .inl (fun _ => 0))), ((u 12), .inl (g 0, 6, .inl (fun _ => 0))), ((u 13), .inl (g 0, 6, .inl (fun _ => 0))), ((u 14), .inl (g 0, 6, .inl (fun _ => 0))), ((u 15), .inl (g 0, 6, .inl (fun _ => 0))), ((u 16), .inl (g 0, 6, .inl (fun _ => 0)))] rfl (fun H locs hT => ?_)
  refine lv_aload_n hx hb dX7_keep_52 rfl (lv_at hl 0 rfl) ?_
  refine z_get C (ci := 7) (N := 7) rfl hin7 hT 0 1 rfl rfl (by decide +kernel) (by decide +kernel) dX7_keep_53 ?_
  refine z_get C (ci := 1) (N := 16) rfl hin1 hT 16 3 rfl rfl (by decide +kernel) (by decide +kernel) dX7_keep_56 ?_
  exact z_iret C rfl hT () rfl [] rfl rfl (Nat.le_of_ble_eq_true rfl) (Nat.le_of_ble_eq_true rfl) dX7_keep_59

def sP_keep_1  : Int32 := 0
set_option maxHeartbeats 4000000 in
set_option maxRecDepth 100000 in
theorem c_P_keep_1 (l : Launch) (D : va_G) (g : Nat → ClassId) (h0 : Nat) (u : Nat → Nat) (kf : Nat → Option Nat) (hk0 : kf 0 = some (u 41)) (hk1 : kf 1 = some (u 55)) : CtI l yX7_keep wsX7_keep { frames := 2, cells := 0, slots := 0, locals := 100 } D (TY g) [.ref h0, .int 1] (fun _ => True) [(h0, .inr (7, [.ref (u 0), .ref (u 1), .ref (u 2), .ref (u 3), .ref (u 4), .ref (u 5), .ref (u 6)])), ((u 4), .inl (g 3, 2, .inr (.inr (.inr (.inr kf))))), ((u 41), .inr (2, [.ref (u 42), .ref (u 43), .int 0])), ((u 42), .inr (1, [.int 5, .int 40, .int 8, .int 0, .int 0, .int 0, .ref (u 44), .ref (u 45), .ref (u 46), .ref (u 47), .ref (u 48), .ref (u 49), .ref (u 50), .ref (u 51), .ref (u 52), .ref (u 53)])), ((u 44), .inl (g 0, 6, .inl (fun _ => 0))), ((u 45), .inl (g 0, 6, .inl (fun _ => 0))), ((u 46), .inl (g 0, 6, .inl (fun _ => 0))), ((u 47), .inl (g 0, 6, .inl (fun _ => 0))), ((u 48), .inl (g 0, 6, .inl (fun _ => 0))), ((u 49), .inl (g 0, 6, .inl (fun _ => 0))), ((u 50), .inl (g 0, 6, .inl (fun _ => 0))), ((u 51), .inl (g 0, 6, .inl (fun _ => 0))), ((u 52), .inl (g 0, 6, .inl (fun _ => 0))), ((u 43), .inr (6, [.ref (u 54), .int 0])), ((u 54), .inl (g 0, 160, .inl (fun _ => 0))), ((u 55), .inr (2, [.ref (u 56), .ref (u 57), .int 0])), ((u 56), .inr (1, [.int 5, .int 40, .int 8, .int 0, .int 0, .int 0, .ref (u 58), .ref (u 59), .ref (u 60), .ref (u 61), .ref (u 62), .ref (u 63), .ref (u 64), .ref (u 65), .ref (u 66), .ref (u 67)])), ((u 58), .inl (g 0, 6, .inl (fun _ => 0))), ((u 59), .inl (g 0, 6, .inl (fun _ => 0))), ((u 60), .inl (g 0, 6, .inl (fun _ => 0))), ((u 61), .inl (g 0, 6, .inl (fun _ => 0))), ((u 62), .inl (g 0, 6, .inl (fun _ => 0))), ((u 63), .inl (g 0, 6, .inl (fun _ => 0))), ((u 64), .inl (g 0, 6, .inl (fun _ => 0))), ((u 65), .inl (g 0, 6, .inl (fun _ => 0))), ((u 66), .inl (g 0, 6, .inl (fun _ => 0))), ((u 57), .inr (6, [.ref (u 68), .int 0])), ((u 68), .inl (g 0, 160, .inl (fun _ => 0))), ((u 0), .inr (6, [.ref (u 7), .int 0])), ((u 7), .inl (g 0, 160, .inl (fun _ => 0))), ((u 1), .inr (1, [.int 5, .int 40, .int 8, .int 0, .int 0, .int 0, .ref (u 8), .ref (u 9), .ref (u 10), .ref (u 11), .ref (u 12), .ref (u 13), .ref (u 14), .ref (u 15), .ref (u 16), .ref (u 17)])), ((u 8), .inl (g 0, 6, .inl (fun _ => 0))), ((u 9), .inl (g 0, 6, .inl (fun _ => 0))), ((u 10), .inl (g 0, 6, .inl (fun _ => 0))), ((u 11), .inl (g 0, 6, .inl (fun _ => 0))), ((u 12), .inl (g 0, 6, .inl (fun _ => 0))), ((u 13), .inl (g 0, 6, .inl (fun _ => 0))), ((u 14), .inl (g 0, 6, .inl (fun _ => 0))), ((u 15), .inl (g 0, 6, .inl (fun _ => 0))), ((u 16), .inl (g 0, 6, .inl (fun _ => 0)))] (fun r (_ : Unit) => r = sP_keep_1 ) (fun _ => []) := by
  refine CtI.intro (cc := cX7_keep) (maxL := 2) (ret := (some .int)) rfl (by decide +kernel) (Nat.le_of_ble_eq_true rfl) ?_
  intro p e s m below meth c A ls C hmn hX hAe hT hl
  have hx := C.1.1
  have hb := C.1.2.1
  have hl : lv_has ls 2 [(0, .ref h0), (1, .int 1)] := hl
  have hin1 : ∀ w ∈ u_ws RX1 TX1 16, w ∈ wsX7_keep := by decide +kernel
  have hin2 : ∀ w ∈ u_ws RX2 TX2 3, w ∈ wsX7_keep := by decide +kernel
  have hin7 : ∀ w ∈ u_ws RX7 TX7 7, w ∈ wsX7_keep := by decide +kernel
  refine lv_iload_n hx hb dX7_keep_0 rfl (lv_at hl 1 rfl) ?_
  refine z_callSI (wr := [(h0, .inr (7, [.ref (u 0), .ref (u 1), .ref (u 2), .ref (u 3), .ref (u 4), .ref (u 5), .ref (u 6)])), ((u 4), .inl (g 3, 2, .inr (.inr (.inr (.inr kf))))), ((u 41), .inr (2, [.ref (u 42), .ref (u 43), .int 0])), ((u 42), .inr (1, [.int 5, .int 40, .int 8, .int 0, .int 0, .int 0, .ref (u 44), .ref (u 45), .ref (u 46), .ref (u 47), .ref (u 48), .ref (u 49), .ref (u 50), .ref (u 51), .ref (u 52), .ref (u 53)])), ((u 44), .inl (g 0, 6, .inl (fun _ => 0))), ((u 45), .inl (g 0, 6, .inl (fun _ => 0))), ((u 46), .inl (g 0, 6, .inl (fun _ => 0))), ((u 47), .inl (g 0, 6, .inl (fun _ => 0))), ((u 48), .inl (g 0, 6, .inl (fun _ => 0))), ((u 49), .inl (g 0, 6, .inl (fun _ => 0))), ((u 50), .inl (g 0, 6, .inl (fun _ => 0))), ((u 51), .inl (g 0, 6, .inl (fun _ => 0))), ((u 52), .inl (g 0, 6, .inl (fun _ => 0))), ((u 43), .inr (6, [.ref (u 54), .int 0])), ((u 54), .inl (g 0, 160, .inl (fun _ => 0))), ((u 55), .inr (2, [.ref (u 56), .ref (u 57), .int 0])), ((u 56), .inr (1, [.int 5, .int 40, .int 8, .int 0, .int 0, .int 0, .ref (u 58), .ref (u 59), .ref (u 60), .ref (u 61), .ref (u 62), .ref (u 63), .ref (u 64), .ref (u 65), .ref (u 66), .ref (u 67)])), ((u 58), .inl (g 0, 6, .inl (fun _ => 0))), ((u 59), .inl (g 0, 6, .inl (fun _ => 0))), ((u 60), .inl (g 0, 6, .inl (fun _ => 0))), ((u 61), .inl (g 0, 6, .inl (fun _ => 0))), ((u 62), .inl (g 0, 6, .inl (fun _ => 0))), ((u 63), .inl (g 0, 6, .inl (fun _ => 0))), ((u 64), .inl (g 0, 6, .inl (fun _ => 0))), ((u 65), .inl (g 0, 6, .inl (fun _ => 0))), ((u 66), .inl (g 0, 6, .inl (fun _ => 0))), ((u 57), .inr (6, [.ref (u 68), .int 0])), ((u 68), .inl (g 0, 160, .inl (fun _ => 0))), ((u 0), .inr (6, [.ref (u 7), .int 0])), ((u 7), .inl (g 0, 160, .inl (fun _ => 0))), ((u 1), .inr (1, [.int 5, .int 40, .int 8, .int 0, .int 0, .int 0, .ref (u 8), .ref (u 9), .ref (u 10), .ref (u 11), .ref (u 12), .ref (u 13), .ref (u 14), .ref (u 15), .ref (u 16), .ref (u 17)])), ((u 8), .inl (g 0, 6, .inl (fun _ => 0))), ((u 9), .inl (g 0, 6, .inl (fun _ => 0))), ((u 10), .inl (g 0, 6, .inl (fun _ => 0))), ((u 11), .inl (g 0, 6, .inl (fun _ => 0))), ((u 12), .inl (g 0, 6, .inl (fun _ => 0))), ((u 13), .inl (g 0, 6, .inl (fun _ => 0))), ((u 14), .inl (g 0, 6, .inl (fun _ => 0))), ((u 15), .inl (g 0, 6, .inl (fun _ => 0))), ((u 16), .inl (g 0, 6, .inl (fun _ => 0)))]) (n := 1) (As := [.int 1]) C (c_P_isKeptPlace l D g 1) gX7_keep_X7_isKeptPlace rfl (by decide +kernel) ⟨Nat.le_of_ble_eq_true rfl, Nat.le_of_ble_eq_true rfl⟩ ⟨Nat.le_of_ble_eq_true rfl, Nat.le_of_ble_eq_true rfl⟩ blind_T (fun _ _ _ => trivial) hT [] [0, 1, 2, 3, 4, 5, 6, 7, 8, 9, 10, 11, 12, 13, 14, 15, 16, 17, 18, 19, 20, 21, 22, 23, 24, 25, 26, 27, 28, 29, 30, 31, 32, 33, 34, 35, 36, 37, 38, 39] rfl rfl rfl rfl rfl rfl hl.1 rfl (Nat.le_of_ble_eq_true rfl) dX7_keep_1 (fun r_3 u_1 H locs hp_2 hT => ?_)
  have hT : Sit D (TY g) A s [(h0, .inr (7, [.ref (u 0), .ref (u 1), .ref (u 2), .ref (u 3), .ref (u 4), .ref (u 5), .ref (u 6)])), ((u 4), .inl (g 3, 2, .inr (.inr (.inr (.inr kf))))), ((u 41), .inr (2, [.ref (u 42), .ref (u 43), .int 0])), ((u 42), .inr (1, [.int 5, .int 40, .int 8, .int 0, .int 0, .int 0, .ref (u 44), .ref (u 45), .ref (u 46), .ref (u 47), .ref (u 48), .ref (u 49), .ref (u 50), .ref (u 51), .ref (u 52), .ref (u 53)])), ((u 44), .inl (g 0, 6, .inl (fun _ => 0))), ((u 45), .inl (g 0, 6, .inl (fun _ => 0))), ((u 46), .inl (g 0, 6, .inl (fun _ => 0))), ((u 47), .inl (g 0, 6, .inl (fun _ => 0))), ((u 48), .inl (g 0, 6, .inl (fun _ => 0))), ((u 49), .inl (g 0, 6, .inl (fun _ => 0))), ((u 50), .inl (g 0, 6, .inl (fun _ => 0))), ((u 51), .inl (g 0, 6, .inl (fun _ => 0))), ((u 52), .inl (g 0, 6, .inl (fun _ => 0))), ((u 43), .inr (6, [.ref (u 54), .int 0])), ((u 54), .inl (g 0, 160, .inl (fun _ => 0))), ((u 55), .inr (2, [.ref (u 56), .ref (u 57), .int 0])), ((u 56), .inr (1, [.int 5, .int 40, .int 8, .int 0, .int 0, .int 0, .ref (u 58), .ref (u 59), .ref (u 60), .ref (u 61), .ref (u 62), .ref (u 63), .ref (u 64), .ref (u 65), .ref (u 66), .ref (u 67)])), ((u 58), .inl (g 0, 6, .inl (fun _ => 0))), ((u 59), .inl (g 0, 6, .inl (fun _ => 0))), ((u 60), .inl (g 0, 6, .inl (fun _ => 0))), ((u 61), .inl (g 0, 6, .inl (fun _ => 0))), ((u 62), .inl (g 0, 6, .inl (fun _ => 0))), ((u 63), .inl (g 0, 6, .inl (fun _ => 0))), ((u 64), .inl (g 0, 6, .inl (fun _ => 0))), ((u 65), .inl (g 0, 6, .inl (fun _ => 0))), ((u 66), .inl (g 0, 6, .inl (fun _ => 0))), ((u 57), .inr (6, [.ref (u 68), .int 0])), ((u 68), .inl (g 0, 160, .inl (fun _ => 0))), ((u 0), .inr (6, [.ref (u 7), .int 0])), ((u 7), .inl (g 0, 160, .inl (fun _ => 0))), ((u 1), .inr (1, [.int 5, .int 40, .int 8, .int 0, .int 0, .int 0, .ref (u 8), .ref (u 9), .ref (u 10), .ref (u 11), .ref (u 12), .ref (u 13), .ref (u 14), .ref (u 15), .ref (u 16), .ref (u 17)])), ((u 8), .inl (g 0, 6, .inl (fun _ => 0))), ((u 9), .inl (g 0, 6, .inl (fun _ => 0))), ((u 10), .inl (g 0, 6, .inl (fun _ => 0))), ((u 11), .inl (g 0, 6, .inl (fun _ => 0))), ((u 12), .inl (g 0, 6, .inl (fun _ => 0))), ((u 13), .inl (g 0, 6, .inl (fun _ => 0))), ((u 14), .inl (g 0, 6, .inl (fun _ => 0))), ((u 15), .inl (g 0, 6, .inl (fun _ => 0))), ((u 16), .inl (g 0, 6, .inl (fun _ => 0)))] H _ := hT
  have hp_2 := hp_2.trans (show sP_isKeptPlace 1 = 1 from by decide +kernel)
  subst hp_2
  refine lv_if_ne (tgt := 10) hx hb dX7_keep_4 (by decide +kernel) (fun _ => ?_) (fun c9 => absurd c9 (by decide +kernel))
  refine lv_aload_n hx hb dX7_keep_10 rfl (lv_at hl 0 rfl) ?_
  refine z_get C (ci := 7) (N := 7) rfl hin7 hT 0 4 rfl rfl (by decide +kernel) (by decide +kernel) dX7_keep_11 ?_
  refine lv_iload_n hx hb dX7_keep_14 rfl (lv_at hl 1 rfl) ?_
  refine z_aald C hT 1 3 rfl rfl rfl (vin rfl) (v := .ref (u 55)) (show va_rf (kf (1 : Int32).toNatClampNeg) = .ref (u 55) from by rw [show (1 : Int32).toNatClampNeg = 1 from by decide +kernel, hk1]; rfl) dX7_keep_15 ?_
  refine z_get C (ci := 2) (N := 3) rfl hin2 hT 15 0 rfl rfl (by decide +kernel) (by decide +kernel) dX7_keep_16 ?_
  refine lv_aload_n hx hb dX7_keep_19 rfl (lv_at hl 0 rfl) ?_
  refine z_get C (ci := 7) (N := 7) rfl hin7 hT 0 1 rfl rfl (by decide +kernel) (by decide +kernel) dX7_keep_20 ?_
  refine z_callVV (wr := [(h0, .inr (7, [.ref (u 0), .ref (u 1), .ref (u 2), .ref (u 3), .ref (u 4), .ref (u 5), .ref (u 6)])), ((u 4), .inl (g 3, 2, .inr (.inr (.inr (.inr kf))))), ((u 41), .inr (2, [.ref (u 42), .ref (u 43), .int 0])), ((u 42), .inr (1, [.int 5, .int 40, .int 8, .int 0, .int 0, .int 0, .ref (u 44), .ref (u 45), .ref (u 46), .ref (u 47), .ref (u 48), .ref (u 49), .ref (u 50), .ref (u 51), .ref (u 52), .ref (u 53)])), ((u 44), .inl (g 0, 6, .inl (fun _ => 0))), ((u 45), .inl (g 0, 6, .inl (fun _ => 0))), ((u 46), .inl (g 0, 6, .inl (fun _ => 0))), ((u 47), .inl (g 0, 6, .inl (fun _ => 0))), ((u 48), .inl (g 0, 6, .inl (fun _ => 0))), ((u 49), .inl (g 0, 6, .inl (fun _ => 0))), ((u 50), .inl (g 0, 6, .inl (fun _ => 0))), ((u 51), .inl (g 0, 6, .inl (fun _ => 0))), ((u 52), .inl (g 0, 6, .inl (fun _ => 0))), ((u 43), .inr (6, [.ref (u 54), .int 0])), ((u 54), .inl (g 0, 160, .inl (fun _ => 0))), ((u 55), .inr (2, [.ref (u 56), .ref (u 57), .int 0])), ((u 57), .inr (6, [.ref (u 68), .int 0])), ((u 68), .inl (g 0, 160, .inl (fun _ => 0))), ((u 0), .inr (6, [.ref (u 7), .int 0])), ((u 7), .inl (g 0, 160, .inl (fun _ => 0)))]) (n := 1) C (c_Hall_copy l D g (u 56) (u 1) (fun k => u (58 + k)) (fun k => u (8 + k))) gX7_keep_X1_copyFrom rfl (by decide +kernel) ⟨Nat.le_of_ble_eq_true rfl, Nat.le_of_ble_eq_true rfl⟩ ⟨Nat.le_of_ble_eq_true rfl, Nat.le_of_ble_eq_true rfl⟩ blind_T (fun _ _ _ => trivial) hT [16, 17, 18, 19, 20, 21, 22, 23, 24, 25, 30, 31, 32, 33, 34, 35, 36, 37, 38, 39] [0, 1, 2, 3, 4, 5, 6, 7, 8, 9, 10, 11, 12, 13, 14, 15, 26, 27, 28, 29] rfl rfl rfl rfl rfl 16 rfl rfl rfl rfl hl.1 rfl (Nat.le_of_ble_eq_true rfl) dX7_keep_23 (fun u_4 H locs hp_5 hT => ?_)
  have hT : Sit D (TY g) A s [(h0, .inr (7, [.ref (u 0), .ref (u 1), .ref (u 2), .ref (u 3), .ref (u 4), .ref (u 5), .ref (u 6)])), ((u 4), .inl (g 3, 2, .inr (.inr (.inr (.inr kf))))), ((u 41), .inr (2, [.ref (u 42), .ref (u 43), .int 0])), ((u 42), .inr (1, [.int 5, .int 40, .int 8, .int 0, .int 0, .int 0, .ref (u 44), .ref (u 45), .ref (u 46), .ref (u 47), .ref (u 48), .ref (u 49), .ref (u 50), .ref (u 51), .ref (u 52), .ref (u 53)])), ((u 44), .inl (g 0, 6, .inl (fun _ => 0))), ((u 45), .inl (g 0, 6, .inl (fun _ => 0))), ((u 46), .inl (g 0, 6, .inl (fun _ => 0))), ((u 47), .inl (g 0, 6, .inl (fun _ => 0))), ((u 48), .inl (g 0, 6, .inl (fun _ => 0))), ((u 49), .inl (g 0, 6, .inl (fun _ => 0))), ((u 50), .inl (g 0, 6, .inl (fun _ => 0))), ((u 51), .inl (g 0, 6, .inl (fun _ => 0))), ((u 52), .inl (g 0, 6, .inl (fun _ => 0))), ((u 43), .inr (6, [.ref (u 54), .int 0])), ((u 54), .inl (g 0, 160, .inl (fun _ => 0))), ((u 55), .inr (2, [.ref (u 56), .ref (u 57), .int 0])), ((u 57), .inr (6, [.ref (u 68), .int 0])), ((u 68), .inl (g 0, 160, .inl (fun _ => 0))), ((u 0), .inr (6, [.ref (u 7), .int 0])), ((u 7), .inl (g 0, 160, .inl (fun _ => 0))), ((u 1), .inr (1, [.int 5, .int 40, .int 8, .int 0, .int 0, .int 0, .ref (u 8), .ref (u 9), .ref (u 10), .ref (u 11), .ref (u 12), .ref (u 13), .ref (u 14), .ref (u 15), .ref (u 16), .ref (u 17)])), ((u 8), .inl (g 0, 6, .inl (fun _ => 0))), ((u 9), .inl (g 0, 6, .inl (fun _ => 0))), ((u 10), .inl (g 0, 6, .inl (fun _ => 0))), ((u 11), .inl (g 0, 6, .inl (fun _ => 0))), ((u 12), .inl (g 0, 6, .inl (fun _ => 0))), ((u 13), .inl (g 0, 6, .inl (fun _ => 0))), ((u 14), .inl (g 0, 6, .inl (fun _ => 0))), ((u 15), .inl (g 0, 6, .inl (fun _ => 0))), ((u 16), .inl (g 0, 6, .inl (fun _ => 0)))] H _ := hT
  refine lv_aload_n hx hb dX7_keep_26 rfl (lv_at hl 0 rfl) ?_
  refine z_get C (ci := 7) (N := 7) rfl hin7 hT 0 4 rfl rfl (by decide +kernel) (by decide +kernel) dX7_keep_27 ?_
  refine lv_iload_n hx hb dX7_keep_30 rfl (lv_at hl 1 rfl) ?_
  refine z_aald C hT 1 3 rfl rfl rfl (vin rfl) (v := .ref (u 55)) (show va_rf (kf (1 : Int32).toNatClampNeg) = .ref (u 55) from by rw [show (1 : Int32).toNatClampNeg = 1 from by decide +kernel, hk1]; rfl) dX7_keep_31 ?_
  refine z_get C (ci := 2) (N := 3) rfl hin2 hT 15 1 rfl rfl (by decide +kernel) (by decide +kernel) dX7_keep_32 ?_
  refine lv_aload_n hx hb dX7_keep_35 rfl (lv_at hl 0 rfl) ?_
  refine z_get C (ci := 7) (N := 7) rfl hin7 hT 0 0 rfl rfl (by decide +kernel) (by decide +kernel) dX7_keep_36 ?_
  refine z_callVV (wr := [(h0, .inr (7, [.ref (u 0), .ref (u 1), .ref (u 2), .ref (u 3), .ref (u 4), .ref (u 5), .ref (u 6)])), ((u 4), .inl (g 3, 2, .inr (.inr (.inr (.inr kf))))), ((u 41), .inr (2, [.ref (u 42), .ref (u 43), .int 0])), ((u 42), .inr (1, [.int 5, .int 40, .int 8, .int 0, .int 0, .int 0, .ref (u 44), .ref (u 45), .ref (u 46), .ref (u 47), .ref (u 48), .ref (u 49), .ref (u 50), .ref (u 51), .ref (u 52), .ref (u 53)])), ((u 44), .inl (g 0, 6, .inl (fun _ => 0))), ((u 45), .inl (g 0, 6, .inl (fun _ => 0))), ((u 46), .inl (g 0, 6, .inl (fun _ => 0))), ((u 47), .inl (g 0, 6, .inl (fun _ => 0))), ((u 48), .inl (g 0, 6, .inl (fun _ => 0))), ((u 49), .inl (g 0, 6, .inl (fun _ => 0))), ((u 50), .inl (g 0, 6, .inl (fun _ => 0))), ((u 51), .inl (g 0, 6, .inl (fun _ => 0))), ((u 52), .inl (g 0, 6, .inl (fun _ => 0))), ((u 43), .inr (6, [.ref (u 54), .int 0])), ((u 54), .inl (g 0, 160, .inl (fun _ => 0))), ((u 55), .inr (2, [.ref (u 56), .ref (u 57), .int 0])), ((u 1), .inr (1, [.int 5, .int 40, .int 8, .int 0, .int 0, .int 0, .ref (u 8), .ref (u 9), .ref (u 10), .ref (u 11), .ref (u 12), .ref (u 13), .ref (u 14), .ref (u 15), .ref (u 16), .ref (u 17)])), ((u 8), .inl (g 0, 6, .inl (fun _ => 0))), ((u 9), .inl (g 0, 6, .inl (fun _ => 0))), ((u 10), .inl (g 0, 6, .inl (fun _ => 0))), ((u 11), .inl (g 0, 6, .inl (fun _ => 0))), ((u 12), .inl (g 0, 6, .inl (fun _ => 0))), ((u 13), .inl (g 0, 6, .inl (fun _ => 0))), ((u 14), .inl (g 0, 6, .inl (fun _ => 0))), ((u 15), .inl (g 0, 6, .inl (fun _ => 0))), ((u 16), .inl (g 0, 6, .inl (fun _ => 0)))]) (n := 1) C (c_Text_copy l D g (u 57) (u 0) (u 68) (u 7)) gX7_keep_X6_copyFrom rfl (by decide +kernel) ⟨Nat.le_of_ble_eq_true rfl, Nat.le_of_ble_eq_true rfl⟩ ⟨Nat.le_of_ble_eq_true rfl, Nat.le_of_ble_eq_true rfl⟩ blind_T (fun _ _ _ => trivial) hT [16, 17, 18, 19] [0, 1, 2, 3, 4, 5, 6, 7, 8, 9, 10, 11, 12, 13, 14, 15, 20, 21, 22, 23, 24, 25, 26, 27, 28, 29] rfl rfl rfl rfl rfl 16 rfl rfl rfl rfl hl.1 rfl (Nat.le_of_ble_eq_true rfl) dX7_keep_39 (fun u_6 H locs hp_7 hT => ?_)
  have hT : Sit D (TY g) A s [(h0, .inr (7, [.ref (u 0), .ref (u 1), .ref (u 2), .ref (u 3), .ref (u 4), .ref (u 5), .ref (u 6)])), ((u 4), .inl (g 3, 2, .inr (.inr (.inr (.inr kf))))), ((u 41), .inr (2, [.ref (u 42), .ref (u 43), .int 0])), ((u 42), .inr (1, [.int 5, .int 40, .int 8, .int 0, .int 0, .int 0, .ref (u 44), .ref (u 45), .ref (u 46), .ref (u 47), .ref (u 48), .ref (u 49), .ref (u 50), .ref (u 51), .ref (u 52), .ref (u 53)])), ((u 44), .inl (g 0, 6, .inl (fun _ => 0))), ((u 45), .inl (g 0, 6, .inl (fun _ => 0))), ((u 46), .inl (g 0, 6, .inl (fun _ => 0))), ((u 47), .inl (g 0, 6, .inl (fun _ => 0))), ((u 48), .inl (g 0, 6, .inl (fun _ => 0))), ((u 49), .inl (g 0, 6, .inl (fun _ => 0))), ((u 50), .inl (g 0, 6, .inl (fun _ => 0))), ((u 51), .inl (g 0, 6, .inl (fun _ => 0))), ((u 52), .inl (g 0, 6, .inl (fun _ => 0))), ((u 43), .inr (6, [.ref (u 54), .int 0])), ((u 54), .inl (g 0, 160, .inl (fun _ => 0))), ((u 55), .inr (2, [.ref (u 56), .ref (u 57), .int 0])), ((u 1), .inr (1, [.int 5, .int 40, .int 8, .int 0, .int 0, .int 0, .ref (u 8), .ref (u 9), .ref (u 10), .ref (u 11), .ref (u 12), .ref (u 13), .ref (u 14), .ref (u 15), .ref (u 16), .ref (u 17)])), ((u 8), .inl (g 0, 6, .inl (fun _ => 0))), ((u 9), .inl (g 0, 6, .inl (fun _ => 0))), ((u 10), .inl (g 0, 6, .inl (fun _ => 0))), ((u 11), .inl (g 0, 6, .inl (fun _ => 0))), ((u 12), .inl (g 0, 6, .inl (fun _ => 0))), ((u 13), .inl (g 0, 6, .inl (fun _ => 0))), ((u 14), .inl (g 0, 6, .inl (fun _ => 0))), ((u 15), .inl (g 0, 6, .inl (fun _ => 0))), ((u 16), .inl (g 0, 6, .inl (fun _ => 0)))] H _ := hT
  refine lv_aload_n hx hb dX7_keep_42 rfl (lv_at hl 0 rfl) ?_
  refine z_get C (ci := 7) (N := 7) rfl hin7 hT 0 4 rfl rfl (by decide +kernel) (by decide +kernel) dX7_keep_43 ?_
  refine lv_iload_n hx hb dX7_keep_46 rfl (lv_at hl 1 rfl) ?_
  refine z_aald C hT 1 3 rfl rfl rfl (vin rfl) (v := .ref (u 55)) (show va_rf (kf (1 : Int32).toNatClampNeg) = .ref (u 55) from by rw [show (1 : Int32).toNatClampNeg = 1 from by decide +kernel, hk1]; rfl) dX7_keep_47 ?_
  refine lv_iconst (v := 1) hx hb dX7_keep_48 (by decide +kernel) ?_
  refine z_put C (ci := 2) (N := 3) rfl hin2 tyX2_ok nmX2 hT 15 2 rfl (Nat.le_of_ble_eq_true rfl) (by decide +kernel) (by decide +kernel) rfl rfl rfl dX7_keep_49 [(h0, .inr (7, [.ref (u 0), .ref (u 1), .ref (u 2), .ref (u 3), .ref (u 4), .ref (u 5), .ref (u 6)])), ((u 4), .inl (g 3, 2, .inr (.inr (.inr (.inr kf))))), ((u 41), .inr (2, [.ref (u 42), .ref (u 43), .int 0])), ((u 42), .inr (1, [.int 5, .int 40, .int 8, .int 0, .int 0, .int 0, .ref (u 44), .ref (u 45), .ref (u 46), .ref (u 47), .ref (u 48), .ref (u 49), .ref (u 50), .ref (u 51), .ref (u 52), .ref (u 53)])), ((u 44), .inl (g 0, 6, .inl (fun _ => 0))), ((u 45), .inl (g 0, 6, .inl (fun _ => 0))), ((u 46), .inl (g 0, 6, .inl (fun _ => 0))), ((u 47), .inl (g 0, 6, .inl (fun _ => 0))), ((u 48), .inl (g 0, 6, .inl (fun _ => 0))), ((u 49), .inl (g 0, 6, .inl (fun _ => 0))), ((u 50), .inl (g 0, 6, .inl (fun _ => 0))), ((u 51), .inl (g 0, 6, .inl (fun _ => 0))), ((u 52), .inl (g 0, 6, .inl (fun _ => 0))), ((u 43), .inr (6, [.ref (u 54), .int 0])), ((u 54), .inl (g 0, 160, .inl (fun _ => 0))), ((u 55), .inr (2, [.ref (u 56), .ref (u 57), .int 1])), ((u 1), .inr (1, [.int 5, .int 40, .int 8, .int 0, .int 0, .int 0, .ref (u 8), .ref (u 9), .ref (u 10), .ref (u 11), .ref (u 12), .ref (u 13), .ref (u 14), .ref (u 15), .ref (u 16), .ref (u 17)])), ((u 8), .inl (g 0, 6, .inl (fun _ => 0))), ((u 9), .inl (g 0, 6, .inl (fun _ => 0))), ((u 10), .inl (g 0, 6, .inl (fun _ => 0))), ((u 11), .inl (g 0, 6, .inl (fun _ => 0))), ((u 12), .inl (g 0, 6, .inl (fun _ => 0))), ((u 13), .inl (g 0, 6, .inl (fun _ => 0))), ((u 14), .inl (g 0, 6, .inl (fun _ => 0))), ((u 15), .inl (g 0, 6, .inl (fun _ => 0))), ((u 16), .inl (g 0, 6, .inl (fun _ => 0)))] rfl (fun H locs hT => ?_)
  refine lv_aload_n hx hb dX7_keep_52 rfl (lv_at hl 0 rfl) ?_
  refine z_get C (ci := 7) (N := 7) rfl hin7 hT 0 1 rfl rfl (by decide +kernel) (by decide +kernel) dX7_keep_53 ?_
  refine z_get C (ci := 1) (N := 16) rfl hin1 hT 16 3 rfl rfl (by decide +kernel) (by decide +kernel) dX7_keep_56 ?_
  exact z_iret C rfl hT () rfl [] rfl rfl (Nat.le_of_ble_eq_true rfl) (Nat.le_of_ble_eq_true rfl) dX7_keep_59

def sP_keep_n  : Int32 := (-2)
set_option maxHeartbeats 4000000 in
set_option maxRecDepth 100000 in
theorem c_P_keep_n (l : Launch) (D : va_G) (g : Nat → ClassId) (h0 : Nat) (u : Nat → Nat) (kf : Nat → Option Nat) (hk0 : kf 0 = some (u 41)) (hk1 : kf 1 = some (u 55)) (p0 : Int32) (hn0 : ¬ p0 = 0) (hn1 : ¬ p0 = 1) : CtI l yX7_keep wsX7_keep { frames := 2, cells := 0, slots := 0, locals := 100 } D (TY g) [.ref h0, .int p0] (fun _ => True) [(h0, .inr (7, [.ref (u 0), .ref (u 1), .ref (u 2), .ref (u 3), .ref (u 4), .ref (u 5), .ref (u 6)])), ((u 4), .inl (g 3, 2, .inr (.inr (.inr (.inr kf))))), ((u 41), .inr (2, [.ref (u 42), .ref (u 43), .int 0])), ((u 42), .inr (1, [.int 5, .int 40, .int 8, .int 0, .int 0, .int 0, .ref (u 44), .ref (u 45), .ref (u 46), .ref (u 47), .ref (u 48), .ref (u 49), .ref (u 50), .ref (u 51), .ref (u 52), .ref (u 53)])), ((u 44), .inl (g 0, 6, .inl (fun _ => 0))), ((u 45), .inl (g 0, 6, .inl (fun _ => 0))), ((u 46), .inl (g 0, 6, .inl (fun _ => 0))), ((u 47), .inl (g 0, 6, .inl (fun _ => 0))), ((u 48), .inl (g 0, 6, .inl (fun _ => 0))), ((u 49), .inl (g 0, 6, .inl (fun _ => 0))), ((u 50), .inl (g 0, 6, .inl (fun _ => 0))), ((u 51), .inl (g 0, 6, .inl (fun _ => 0))), ((u 52), .inl (g 0, 6, .inl (fun _ => 0))), ((u 43), .inr (6, [.ref (u 54), .int 0])), ((u 54), .inl (g 0, 160, .inl (fun _ => 0))), ((u 55), .inr (2, [.ref (u 56), .ref (u 57), .int 0])), ((u 56), .inr (1, [.int 5, .int 40, .int 8, .int 0, .int 0, .int 0, .ref (u 58), .ref (u 59), .ref (u 60), .ref (u 61), .ref (u 62), .ref (u 63), .ref (u 64), .ref (u 65), .ref (u 66), .ref (u 67)])), ((u 58), .inl (g 0, 6, .inl (fun _ => 0))), ((u 59), .inl (g 0, 6, .inl (fun _ => 0))), ((u 60), .inl (g 0, 6, .inl (fun _ => 0))), ((u 61), .inl (g 0, 6, .inl (fun _ => 0))), ((u 62), .inl (g 0, 6, .inl (fun _ => 0))), ((u 63), .inl (g 0, 6, .inl (fun _ => 0))), ((u 64), .inl (g 0, 6, .inl (fun _ => 0))), ((u 65), .inl (g 0, 6, .inl (fun _ => 0))), ((u 66), .inl (g 0, 6, .inl (fun _ => 0))), ((u 57), .inr (6, [.ref (u 68), .int 0])), ((u 68), .inl (g 0, 160, .inl (fun _ => 0))), ((u 0), .inr (6, [.ref (u 7), .int 0])), ((u 7), .inl (g 0, 160, .inl (fun _ => 0))), ((u 1), .inr (1, [.int 5, .int 40, .int 8, .int 0, .int 0, .int 0, .ref (u 8), .ref (u 9), .ref (u 10), .ref (u 11), .ref (u 12), .ref (u 13), .ref (u 14), .ref (u 15), .ref (u 16), .ref (u 17)])), ((u 8), .inl (g 0, 6, .inl (fun _ => 0))), ((u 9), .inl (g 0, 6, .inl (fun _ => 0))), ((u 10), .inl (g 0, 6, .inl (fun _ => 0))), ((u 11), .inl (g 0, 6, .inl (fun _ => 0))), ((u 12), .inl (g 0, 6, .inl (fun _ => 0))), ((u 13), .inl (g 0, 6, .inl (fun _ => 0))), ((u 14), .inl (g 0, 6, .inl (fun _ => 0))), ((u 15), .inl (g 0, 6, .inl (fun _ => 0))), ((u 16), .inl (g 0, 6, .inl (fun _ => 0)))] (fun r (_ : Unit) => r = sP_keep_n ) (fun _ => []) := by
  refine CtI.intro (cc := cX7_keep) (maxL := 2) (ret := (some .int)) rfl (by decide +kernel) (Nat.le_of_ble_eq_true rfl) ?_
  intro p e s m below meth c A ls C hmn hX hAe hT hl
  have hx := C.1.1
  have hb := C.1.2.1
  have hl : lv_has ls 2 [(0, .ref h0), (1, .int p0)] := hl
  refine lv_iload_n hx hb dX7_keep_0 rfl (lv_at hl 1 rfl) ?_
  refine z_callSI (wr := [(h0, .inr (7, [.ref (u 0), .ref (u 1), .ref (u 2), .ref (u 3), .ref (u 4), .ref (u 5), .ref (u 6)])), ((u 4), .inl (g 3, 2, .inr (.inr (.inr (.inr kf))))), ((u 41), .inr (2, [.ref (u 42), .ref (u 43), .int 0])), ((u 42), .inr (1, [.int 5, .int 40, .int 8, .int 0, .int 0, .int 0, .ref (u 44), .ref (u 45), .ref (u 46), .ref (u 47), .ref (u 48), .ref (u 49), .ref (u 50), .ref (u 51), .ref (u 52), .ref (u 53)])), ((u 44), .inl (g 0, 6, .inl (fun _ => 0))), ((u 45), .inl (g 0, 6, .inl (fun _ => 0))), ((u 46), .inl (g 0, 6, .inl (fun _ => 0))), ((u 47), .inl (g 0, 6, .inl (fun _ => 0))), ((u 48), .inl (g 0, 6, .inl (fun _ => 0))), ((u 49), .inl (g 0, 6, .inl (fun _ => 0))), ((u 50), .inl (g 0, 6, .inl (fun _ => 0))), ((u 51), .inl (g 0, 6, .inl (fun _ => 0))), ((u 52), .inl (g 0, 6, .inl (fun _ => 0))), ((u 43), .inr (6, [.ref (u 54), .int 0])), ((u 54), .inl (g 0, 160, .inl (fun _ => 0))), ((u 55), .inr (2, [.ref (u 56), .ref (u 57), .int 0])), ((u 56), .inr (1, [.int 5, .int 40, .int 8, .int 0, .int 0, .int 0, .ref (u 58), .ref (u 59), .ref (u 60), .ref (u 61), .ref (u 62), .ref (u 63), .ref (u 64), .ref (u 65), .ref (u 66), .ref (u 67)])), ((u 58), .inl (g 0, 6, .inl (fun _ => 0))), ((u 59), .inl (g 0, 6, .inl (fun _ => 0))), ((u 60), .inl (g 0, 6, .inl (fun _ => 0))), ((u 61), .inl (g 0, 6, .inl (fun _ => 0))), ((u 62), .inl (g 0, 6, .inl (fun _ => 0))), ((u 63), .inl (g 0, 6, .inl (fun _ => 0))), ((u 64), .inl (g 0, 6, .inl (fun _ => 0))), ((u 65), .inl (g 0, 6, .inl (fun _ => 0))), ((u 66), .inl (g 0, 6, .inl (fun _ => 0))), ((u 57), .inr (6, [.ref (u 68), .int 0])), ((u 68), .inl (g 0, 160, .inl (fun _ => 0))), ((u 0), .inr (6, [.ref (u 7), .int 0])), ((u 7), .inl (g 0, 160, .inl (fun _ => 0))), ((u 1), .inr (1, [.int 5, .int 40, .int 8, .int 0, .int 0, .int 0, .ref (u 8), .ref (u 9), .ref (u 10), .ref (u 11), .ref (u 12), .ref (u 13), .ref (u 14), .ref (u 15), .ref (u 16), .ref (u 17)])), ((u 8), .inl (g 0, 6, .inl (fun _ => 0))), ((u 9), .inl (g 0, 6, .inl (fun _ => 0))), ((u 10), .inl (g 0, 6, .inl (fun _ => 0))), ((u 11), .inl (g 0, 6, .inl (fun _ => 0))), ((u 12), .inl (g 0, 6, .inl (fun _ => 0))), ((u 13), .inl (g 0, 6, .inl (fun _ => 0))), ((u 14), .inl (g 0, 6, .inl (fun _ => 0))), ((u 15), .inl (g 0, 6, .inl (fun _ => 0))), ((u 16), .inl (g 0, 6, .inl (fun _ => 0)))]) (n := 1) (As := [.int p0]) C (c_P_isKeptPlace l D g p0) gX7_keep_X7_isKeptPlace rfl (by decide +kernel) ⟨Nat.le_of_ble_eq_true rfl, Nat.le_of_ble_eq_true rfl⟩ ⟨Nat.le_of_ble_eq_true rfl, Nat.le_of_ble_eq_true rfl⟩ blind_T (fun _ _ _ => trivial) hT [] [0, 1, 2, 3, 4, 5, 6, 7, 8, 9, 10, 11, 12, 13, 14, 15, 16, 17, 18, 19, 20, 21, 22, 23, 24, 25, 26, 27, 28, 29, 30, 31, 32, 33, 34, 35, 36, 37, 38, 39] rfl rfl rfl rfl rfl rfl hl.1 rfl (Nat.le_of_ble_eq_true rfl) dX7_keep_1 (fun r_3 u_1 H locs hp_2 hT => ?_)
  have hT : Sit D (TY g) A s [(h0, .inr (7, [.ref (u 0), .ref (u 1), .ref (u 2), .ref (u 3), .ref (u 4), .ref (u 5), .ref (u 6)])), ((u 4), .inl (g 3, 2, .inr (.inr (.inr (.inr kf))))), ((u 41), .inr (2, [.ref (u 42), .ref (u 43), .int 0])), ((u 42), .inr (1, [.int 5, .int 40, .int 8, .int 0, .int 0, .int 0, .ref (u 44), .ref (u 45), .ref (u 46), .ref (u 47), .ref (u 48), .ref (u 49), .ref (u 50), .ref (u 51), .ref (u 52), .ref (u 53)])), ((u 44), .inl (g 0, 6, .inl (fun _ => 0))), ((u 45), .inl (g 0, 6, .inl (fun _ => 0))), ((u 46), .inl (g 0, 6, .inl (fun _ => 0))), ((u 47), .inl (g 0, 6, .inl (fun _ => 0))), ((u 48), .inl (g 0, 6, .inl (fun _ => 0))), ((u 49), .inl (g 0, 6, .inl (fun _ => 0))), ((u 50), .inl (g 0, 6, .inl (fun _ => 0))), ((u 51), .inl (g 0, 6, .inl (fun _ => 0))), ((u 52), .inl (g 0, 6, .inl (fun _ => 0))), ((u 43), .inr (6, [.ref (u 54), .int 0])), ((u 54), .inl (g 0, 160, .inl (fun _ => 0))), ((u 55), .inr (2, [.ref (u 56), .ref (u 57), .int 0])), ((u 56), .inr (1, [.int 5, .int 40, .int 8, .int 0, .int 0, .int 0, .ref (u 58), .ref (u 59), .ref (u 60), .ref (u 61), .ref (u 62), .ref (u 63), .ref (u 64), .ref (u 65), .ref (u 66), .ref (u 67)])), ((u 58), .inl (g 0, 6, .inl (fun _ => 0))), ((u 59), .inl (g 0, 6, .inl (fun _ => 0))), ((u 60), .inl (g 0, 6, .inl (fun _ => 0))), ((u 61), .inl (g 0, 6, .inl (fun _ => 0))), ((u 62), .inl (g 0, 6, .inl (fun _ => 0))), ((u 63), .inl (g 0, 6, .inl (fun _ => 0))), ((u 64), .inl (g 0, 6, .inl (fun _ => 0))), ((u 65), .inl (g 0, 6, .inl (fun _ => 0))), ((u 66), .inl (g 0, 6, .inl (fun _ => 0))), ((u 57), .inr (6, [.ref (u 68), .int 0])), ((u 68), .inl (g 0, 160, .inl (fun _ => 0))), ((u 0), .inr (6, [.ref (u 7), .int 0])), ((u 7), .inl (g 0, 160, .inl (fun _ => 0))), ((u 1), .inr (1, [.int 5, .int 40, .int 8, .int 0, .int 0, .int 0, .ref (u 8), .ref (u 9), .ref (u 10), .ref (u 11), .ref (u 12), .ref (u 13), .ref (u 14), .ref (u 15), .ref (u 16), .ref (u 17)])), ((u 8), .inl (g 0, 6, .inl (fun _ => 0))), ((u 9), .inl (g 0, 6, .inl (fun _ => 0))), ((u 10), .inl (g 0, 6, .inl (fun _ => 0))), ((u 11), .inl (g 0, 6, .inl (fun _ => 0))), ((u 12), .inl (g 0, 6, .inl (fun _ => 0))), ((u 13), .inl (g 0, 6, .inl (fun _ => 0))), ((u 14), .inl (g 0, 6, .inl (fun _ => 0))), ((u 15), .inl (g 0, 6, .inl (fun _ => 0))), ((u 16), .inl (g 0, 6, .inl (fun _ => 0)))] H _ := hT
  have hp_2 := hp_2.trans (sP_isKeptPlace_0 hn0 hn1)
  subst hp_2
  refine lv_if_ne (tgt := 10) hx hb dX7_keep_4 (by decide +kernel) (fun c9 => absurd c9 (by decide +kernel)) (fun _ => ?_)
  refine lv_bipush (v := (-2)) hx hb dX7_keep_7 (by decide +kernel) ?_
  exact z_iret C rfl hT () rfl [] rfl rfl (Nat.le_of_ble_eq_true rfl) (Nat.le_of_ble_eq_true rfl) dX7_keep_9

def sP_keep (p0 : Int32) : Int32 := if p0 = 0 then sP_keep_0 else if p0 = 1 then sP_keep_1 else sP_keep_n
theorem c_P_keep (l : Launch) (D : va_G) (g : Nat → ClassId) (h0 : Nat) (u : Nat → Nat) (kf : Nat → Option Nat) (hk0 : kf 0 = some (u 41)) (hk1 : kf 1 = some (u 55)) (p0 : Int32) : CtI l yX7_keep wsX7_keep { frames := 2, cells := 0, slots := 0, locals := 100 } D (TY g) [.ref h0, .int p0] (fun _ => True) [(h0, .inr (7, [.ref (u 0), .ref (u 1), .ref (u 2), .ref (u 3), .ref (u 4), .ref (u 5), .ref (u 6)])), ((u 4), .inl (g 3, 2, .inr (.inr (.inr (.inr kf))))), ((u 41), .inr (2, [.ref (u 42), .ref (u 43), .int 0])), ((u 42), .inr (1, [.int 5, .int 40, .int 8, .int 0, .int 0, .int 0, .ref (u 44), .ref (u 45), .ref (u 46), .ref (u 47), .ref (u 48), .ref (u 49), .ref (u 50), .ref (u 51), .ref (u 52), .ref (u 53)])), ((u 44), .inl (g 0, 6, .inl (fun _ => 0))), ((u 45), .inl (g 0, 6, .inl (fun _ => 0))), ((u 46), .inl (g 0, 6, .inl (fun _ => 0))), ((u 47), .inl (g 0, 6, .inl (fun _ => 0))), ((u 48), .inl (g 0, 6, .inl (fun _ => 0))), ((u 49), .inl (g 0, 6, .inl (fun _ => 0))), ((u 50), .inl (g 0, 6, .inl (fun _ => 0))), ((u 51), .inl (g 0, 6, .inl (fun _ => 0))), ((u 52), .inl (g 0, 6, .inl (fun _ => 0))), ((u 43), .inr (6, [.ref (u 54), .int 0])), ((u 54), .inl (g 0, 160, .inl (fun _ => 0))), ((u 55), .inr (2, [.ref (u 56), .ref (u 57), .int 0])), ((u 56), .inr (1, [.int 5, .int 40, .int 8, .int 0, .int 0, .int 0, .ref (u 58), .ref (u 59), .ref (u 60), .ref (u 61), .ref (u 62), .ref (u 63), .ref (u 64), .ref (u 65), .ref (u 66), .ref (u 67)])), ((u 58), .inl (g 0, 6, .inl (fun _ => 0))), ((u 59), .inl (g 0, 6, .inl (fun _ => 0))), ((u 60), .inl (g 0, 6, .inl (fun _ => 0))), ((u 61), .inl (g 0, 6, .inl (fun _ => 0))), ((u 62), .inl (g 0, 6, .inl (fun _ => 0))), ((u 63), .inl (g 0, 6, .inl (fun _ => 0))), ((u 64), .inl (g 0, 6, .inl (fun _ => 0))), ((u 65), .inl (g 0, 6, .inl (fun _ => 0))), ((u 66), .inl (g 0, 6, .inl (fun _ => 0))), ((u 57), .inr (6, [.ref (u 68), .int 0])), ((u 68), .inl (g 0, 160, .inl (fun _ => 0))), ((u 0), .inr (6, [.ref (u 7), .int 0])), ((u 7), .inl (g 0, 160, .inl (fun _ => 0))), ((u 1), .inr (1, [.int 5, .int 40, .int 8, .int 0, .int 0, .int 0, .ref (u 8), .ref (u 9), .ref (u 10), .ref (u 11), .ref (u 12), .ref (u 13), .ref (u 14), .ref (u 15), .ref (u 16), .ref (u 17)])), ((u 8), .inl (g 0, 6, .inl (fun _ => 0))), ((u 9), .inl (g 0, 6, .inl (fun _ => 0))), ((u 10), .inl (g 0, 6, .inl (fun _ => 0))), ((u 11), .inl (g 0, 6, .inl (fun _ => 0))), ((u 12), .inl (g 0, 6, .inl (fun _ => 0))), ((u 13), .inl (g 0, 6, .inl (fun _ => 0))), ((u 14), .inl (g 0, 6, .inl (fun _ => 0))), ((u 15), .inl (g 0, 6, .inl (fun _ => 0))), ((u 16), .inl (g 0, 6, .inl (fun _ => 0)))] (fun r (_ : Unit) => r = sP_keep p0) (fun _ => []) := by
  by_cases e0 : p0 = 0
  · subst e0
    exact c_P_keep_0 l D g h0 u kf hk0 hk1
  · by_cases e1 : p0 = 1
    · subst e1
      exact c_P_keep_1 l D g h0 u kf hk0 hk1
    · have h := c_P_keep_n l D g h0 u kf hk0 hk1 p0 e0 e1
      unfold sP_keep
      rw [if_neg e0, if_neg e1]
      exact h

def sP_back_0  : Int32 := (-4)
set_option maxHeartbeats 4000000 in
set_option maxRecDepth 100000 in
theorem c_P_back_0 (l : Launch) (D : va_G) (g : Nat → ClassId) (h0 : Nat) (u : Nat → Nat) (kf : Nat → Option Nat) (hk0 : kf 0 = some (u 41)) (hk1 : kf 1 = some (u 55)) : CtI l yX7_back wsX7_back { frames := 2, cells := 0, slots := 0, locals := 100 } D (TY g) [.ref h0, .int 0] (fun _ => True) [(h0, .inr (7, [.ref (u 0), .ref (u 1), .ref (u 2), .ref (u 3), .ref (u 4), .ref (u 5), .ref (u 6)])), ((u 4), .inl (g 3, 2, .inr (.inr (.inr (.inr kf))))), ((u 41), .inr (2, [.ref (u 42), .ref (u 43), .int 0])), ((u 42), .inr (1, [.int 5, .int 40, .int 8, .int 0, .int 0, .int 0, .ref (u 44), .ref (u 45), .ref (u 46), .ref (u 47), .ref (u 48), .ref (u 49), .ref (u 50), .ref (u 51), .ref (u 52), .ref (u 53)])), ((u 44), .inl (g 0, 6, .inl (fun _ => 0))), ((u 45), .inl (g 0, 6, .inl (fun _ => 0))), ((u 46), .inl (g 0, 6, .inl (fun _ => 0))), ((u 47), .inl (g 0, 6, .inl (fun _ => 0))), ((u 48), .inl (g 0, 6, .inl (fun _ => 0))), ((u 49), .inl (g 0, 6, .inl (fun _ => 0))), ((u 50), .inl (g 0, 6, .inl (fun _ => 0))), ((u 51), .inl (g 0, 6, .inl (fun _ => 0))), ((u 52), .inl (g 0, 6, .inl (fun _ => 0))), ((u 43), .inr (6, [.ref (u 54), .int 0])), ((u 54), .inl (g 0, 160, .inl (fun _ => 0))), ((u 55), .inr (2, [.ref (u 56), .ref (u 57), .int 0])), ((u 56), .inr (1, [.int 5, .int 40, .int 8, .int 0, .int 0, .int 0, .ref (u 58), .ref (u 59), .ref (u 60), .ref (u 61), .ref (u 62), .ref (u 63), .ref (u 64), .ref (u 65), .ref (u 66), .ref (u 67)])), ((u 58), .inl (g 0, 6, .inl (fun _ => 0))), ((u 59), .inl (g 0, 6, .inl (fun _ => 0))), ((u 60), .inl (g 0, 6, .inl (fun _ => 0))), ((u 61), .inl (g 0, 6, .inl (fun _ => 0))), ((u 62), .inl (g 0, 6, .inl (fun _ => 0))), ((u 63), .inl (g 0, 6, .inl (fun _ => 0))), ((u 64), .inl (g 0, 6, .inl (fun _ => 0))), ((u 65), .inl (g 0, 6, .inl (fun _ => 0))), ((u 66), .inl (g 0, 6, .inl (fun _ => 0))), ((u 57), .inr (6, [.ref (u 68), .int 0])), ((u 68), .inl (g 0, 160, .inl (fun _ => 0))), ((u 0), .inr (6, [.ref (u 7), .int 0])), ((u 7), .inl (g 0, 160, .inl (fun _ => 0))), ((u 1), .inr (1, [.int 5, .int 40, .int 8, .int 0, .int 0, .int 0, .ref (u 8), .ref (u 9), .ref (u 10), .ref (u 11), .ref (u 12), .ref (u 13), .ref (u 14), .ref (u 15), .ref (u 16), .ref (u 17)])), ((u 8), .inl (g 0, 6, .inl (fun _ => 0))), ((u 9), .inl (g 0, 6, .inl (fun _ => 0))), ((u 10), .inl (g 0, 6, .inl (fun _ => 0))), ((u 11), .inl (g 0, 6, .inl (fun _ => 0))), ((u 12), .inl (g 0, 6, .inl (fun _ => 0))), ((u 13), .inl (g 0, 6, .inl (fun _ => 0))), ((u 14), .inl (g 0, 6, .inl (fun _ => 0))), ((u 15), .inl (g 0, 6, .inl (fun _ => 0))), ((u 16), .inl (g 0, 6, .inl (fun _ => 0)))] (fun r (_ : Unit) => r = sP_back_0 ) (fun _ => []) := by
  refine CtI.intro (cc := cX7_back) (maxL := 2) (ret := (some .int)) rfl (by decide +kernel) (Nat.le_of_ble_eq_true rfl) ?_
  intro p e s m below meth c A ls C hmn hX hAe hT hl
  have hx := C.1.1
  have hb := C.1.2.1
  have hl : lv_has ls 2 [(0, .ref h0), (1, .int 0)] := hl
  have hin2 : ∀ w ∈ u_ws RX2 TX2 3, w ∈ wsX7_back := by decide +kernel
  have hin7 : ∀ w ∈ u_ws RX7 TX7 7, w ∈ wsX7_back := by decide +kernel
  refine lv_iload_n hx hb dX7_back_0 rfl (lv_at hl 1 rfl) ?_
  refine z_callSI (wr := [(h0, .inr (7, [.ref (u 0), .ref (u 1), .ref (u 2), .ref (u 3), .ref (u 4), .ref (u 5), .ref (u 6)])), ((u 4), .inl (g 3, 2, .inr (.inr (.inr (.inr kf))))), ((u 41), .inr (2, [.ref (u 42), .ref (u 43), .int 0])), ((u 42), .inr (1, [.int 5, .int 40, .int 8, .int 0, .int 0, .int 0, .ref (u 44), .ref (u 45), .ref (u 46), .ref (u 47), .ref (u 48), .ref (u 49), .ref (u 50), .ref (u 51), .ref (u 52), .ref (u 53)])), ((u 44), .inl (g 0, 6, .inl (fun _ => 0))), ((u 45), .inl (g 0, 6, .inl (fun _ => 0))), ((u 46), .inl (g 0, 6, .inl (fun _ => 0))), ((u 47), .inl (g 0, 6, .inl (fun _ => 0))), ((u 48), .inl (g 0, 6, .inl (fun _ => 0))), ((u 49), .inl (g 0, 6, .inl (fun _ => 0))), ((u 50), .inl (g 0, 6, .inl (fun _ => 0))), ((u 51), .inl (g 0, 6, .inl (fun _ => 0))), ((u 52), .inl (g 0, 6, .inl (fun _ => 0))), ((u 43), .inr (6, [.ref (u 54), .int 0])), ((u 54), .inl (g 0, 160, .inl (fun _ => 0))), ((u 55), .inr (2, [.ref (u 56), .ref (u 57), .int 0])), ((u 56), .inr (1, [.int 5, .int 40, .int 8, .int 0, .int 0, .int 0, .ref (u 58), .ref (u 59), .ref (u 60), .ref (u 61), .ref (u 62), .ref (u 63), .ref (u 64), .ref (u 65), .ref (u 66), .ref (u 67)])), ((u 58), .inl (g 0, 6, .inl (fun _ => 0))), ((u 59), .inl (g 0, 6, .inl (fun _ => 0))), ((u 60), .inl (g 0, 6, .inl (fun _ => 0))), ((u 61), .inl (g 0, 6, .inl (fun _ => 0))), ((u 62), .inl (g 0, 6, .inl (fun _ => 0))), ((u 63), .inl (g 0, 6, .inl (fun _ => 0))), ((u 64), .inl (g 0, 6, .inl (fun _ => 0))), ((u 65), .inl (g 0, 6, .inl (fun _ => 0))), ((u 66), .inl (g 0, 6, .inl (fun _ => 0))), ((u 57), .inr (6, [.ref (u 68), .int 0])), ((u 68), .inl (g 0, 160, .inl (fun _ => 0))), ((u 0), .inr (6, [.ref (u 7), .int 0])), ((u 7), .inl (g 0, 160, .inl (fun _ => 0))), ((u 1), .inr (1, [.int 5, .int 40, .int 8, .int 0, .int 0, .int 0, .ref (u 8), .ref (u 9), .ref (u 10), .ref (u 11), .ref (u 12), .ref (u 13), .ref (u 14), .ref (u 15), .ref (u 16), .ref (u 17)])), ((u 8), .inl (g 0, 6, .inl (fun _ => 0))), ((u 9), .inl (g 0, 6, .inl (fun _ => 0))), ((u 10), .inl (g 0, 6, .inl (fun _ => 0))), ((u 11), .inl (g 0, 6, .inl (fun _ => 0))), ((u 12), .inl (g 0, 6, .inl (fun _ => 0))), ((u 13), .inl (g 0, 6, .inl (fun _ => 0))), ((u 14), .inl (g 0, 6, .inl (fun _ => 0))), ((u 15), .inl (g 0, 6, .inl (fun _ => 0))), ((u 16), .inl (g 0, 6, .inl (fun _ => 0)))]) (n := 1) (As := [.int 0]) C (c_P_isKeptPlace l D g 0) gX7_back_X7_isKeptPlace rfl (by decide +kernel) ⟨Nat.le_of_ble_eq_true rfl, Nat.le_of_ble_eq_true rfl⟩ ⟨Nat.le_of_ble_eq_true rfl, Nat.le_of_ble_eq_true rfl⟩ blind_T (fun _ _ _ => trivial) hT [] [0, 1, 2, 3, 4, 5, 6, 7, 8, 9, 10, 11, 12, 13, 14, 15, 16, 17, 18, 19, 20, 21, 22, 23, 24, 25, 26, 27, 28, 29, 30, 31, 32, 33, 34, 35, 36, 37, 38, 39] rfl rfl rfl rfl rfl rfl hl.1 rfl (Nat.le_of_ble_eq_true rfl) dX7_back_1 (fun r_3 u_1 H locs hp_2 hT => ?_)
  have hT : Sit D (TY g) A s [(h0, .inr (7, [.ref (u 0), .ref (u 1), .ref (u 2), .ref (u 3), .ref (u 4), .ref (u 5), .ref (u 6)])), ((u 4), .inl (g 3, 2, .inr (.inr (.inr (.inr kf))))), ((u 41), .inr (2, [.ref (u 42), .ref (u 43), .int 0])), ((u 42), .inr (1, [.int 5, .int 40, .int 8, .int 0, .int 0, .int 0, .ref (u 44), .ref (u 45), .ref (u 46), .ref (u 47), .ref (u 48), .ref (u 49), .ref (u 50), .ref (u 51), .ref (u 52), .ref (u 53)])), ((u 44), .inl (g 0, 6, .inl (fun _ => 0))), ((u 45), .inl (g 0, 6, .inl (fun _ => 0))), ((u 46), .inl (g 0, 6, .inl (fun _ => 0))), ((u 47), .inl (g 0, 6, .inl (fun _ => 0))), ((u 48), .inl (g 0, 6, .inl (fun _ => 0))), ((u 49), .inl (g 0, 6, .inl (fun _ => 0))), ((u 50), .inl (g 0, 6, .inl (fun _ => 0))), ((u 51), .inl (g 0, 6, .inl (fun _ => 0))), ((u 52), .inl (g 0, 6, .inl (fun _ => 0))), ((u 43), .inr (6, [.ref (u 54), .int 0])), ((u 54), .inl (g 0, 160, .inl (fun _ => 0))), ((u 55), .inr (2, [.ref (u 56), .ref (u 57), .int 0])), ((u 56), .inr (1, [.int 5, .int 40, .int 8, .int 0, .int 0, .int 0, .ref (u 58), .ref (u 59), .ref (u 60), .ref (u 61), .ref (u 62), .ref (u 63), .ref (u 64), .ref (u 65), .ref (u 66), .ref (u 67)])), ((u 58), .inl (g 0, 6, .inl (fun _ => 0))), ((u 59), .inl (g 0, 6, .inl (fun _ => 0))), ((u 60), .inl (g 0, 6, .inl (fun _ => 0))), ((u 61), .inl (g 0, 6, .inl (fun _ => 0))), ((u 62), .inl (g 0, 6, .inl (fun _ => 0))), ((u 63), .inl (g 0, 6, .inl (fun _ => 0))), ((u 64), .inl (g 0, 6, .inl (fun _ => 0))), ((u 65), .inl (g 0, 6, .inl (fun _ => 0))), ((u 66), .inl (g 0, 6, .inl (fun _ => 0))), ((u 57), .inr (6, [.ref (u 68), .int 0])), ((u 68), .inl (g 0, 160, .inl (fun _ => 0))), ((u 0), .inr (6, [.ref (u 7), .int 0])), ((u 7), .inl (g 0, 160, .inl (fun _ => 0))), ((u 1), .inr (1, [.int 5, .int 40, .int 8, .int 0, .int 0, .int 0, .ref (u 8), .ref (u 9), .ref (u 10), .ref (u 11), .ref (u 12), .ref (u 13), .ref (u 14), .ref (u 15), .ref (u 16), .ref (u 17)])), ((u 8), .inl (g 0, 6, .inl (fun _ => 0))), ((u 9), .inl (g 0, 6, .inl (fun _ => 0))), ((u 10), .inl (g 0, 6, .inl (fun _ => 0))), ((u 11), .inl (g 0, 6, .inl (fun _ => 0))), ((u 12), .inl (g 0, 6, .inl (fun _ => 0))), ((u 13), .inl (g 0, 6, .inl (fun _ => 0))), ((u 14), .inl (g 0, 6, .inl (fun _ => 0))), ((u 15), .inl (g 0, 6, .inl (fun _ => 0))), ((u 16), .inl (g 0, 6, .inl (fun _ => 0)))] H _ := hT
  have hp_2 := hp_2.trans (show sP_isKeptPlace 0 = 1 from by decide +kernel)
  subst hp_2
  refine lv_if_ne (tgt := 10) hx hb dX7_back_4 (by decide +kernel) (fun _ => ?_) (fun c9 => absurd c9 (by decide +kernel))
  refine lv_aload_n hx hb dX7_back_10 rfl (lv_at hl 0 rfl) ?_
  refine z_get C (ci := 7) (N := 7) rfl hin7 hT 0 4 rfl rfl (by decide +kernel) (by decide +kernel) dX7_back_11 ?_
  refine lv_iload_n hx hb dX7_back_14 rfl (lv_at hl 1 rfl) ?_
  refine z_aald C hT 1 3 rfl rfl rfl (vin rfl) (v := .ref (u 41)) (show va_rf (kf (0 : Int32).toNatClampNeg) = .ref (u 41) from by rw [show (0 : Int32).toNatClampNeg = 0 from by decide +kernel, hk0]; rfl) dX7_back_15 ?_
  refine z_get C (ci := 2) (N := 3) rfl hin2 hT 2 2 rfl rfl (by decide +kernel) (by decide +kernel) dX7_back_16 ?_
  refine lv_if_ne (tgt := 25) hx hb dX7_back_19 (by decide +kernel) (fun c9 => absurd c9 (by decide +kernel)) (fun _ => ?_)
  refine lv_bipush (v := (-4)) hx hb dX7_back_22 (by decide +kernel) ?_
  exact z_iret C rfl hT () rfl [] rfl rfl (Nat.le_of_ble_eq_true rfl) (Nat.le_of_ble_eq_true rfl) dX7_back_24

def sP_back_1  : Int32 := (-4)
set_option maxHeartbeats 4000000 in
set_option maxRecDepth 100000 in
theorem c_P_back_1 (l : Launch) (D : va_G) (g : Nat → ClassId) (h0 : Nat) (u : Nat → Nat) (kf : Nat → Option Nat) (hk0 : kf 0 = some (u 41)) (hk1 : kf 1 = some (u 55)) : CtI l yX7_back wsX7_back { frames := 2, cells := 0, slots := 0, locals := 100 } D (TY g) [.ref h0, .int 1] (fun _ => True) [(h0, .inr (7, [.ref (u 0), .ref (u 1), .ref (u 2), .ref (u 3), .ref (u 4), .ref (u 5), .ref (u 6)])), ((u 4), .inl (g 3, 2, .inr (.inr (.inr (.inr kf))))), ((u 41), .inr (2, [.ref (u 42), .ref (u 43), .int 0])), ((u 42), .inr (1, [.int 5, .int 40, .int 8, .int 0, .int 0, .int 0, .ref (u 44), .ref (u 45), .ref (u 46), .ref (u 47), .ref (u 48), .ref (u 49), .ref (u 50), .ref (u 51), .ref (u 52), .ref (u 53)])), ((u 44), .inl (g 0, 6, .inl (fun _ => 0))), ((u 45), .inl (g 0, 6, .inl (fun _ => 0))), ((u 46), .inl (g 0, 6, .inl (fun _ => 0))), ((u 47), .inl (g 0, 6, .inl (fun _ => 0))), ((u 48), .inl (g 0, 6, .inl (fun _ => 0))), ((u 49), .inl (g 0, 6, .inl (fun _ => 0))), ((u 50), .inl (g 0, 6, .inl (fun _ => 0))), ((u 51), .inl (g 0, 6, .inl (fun _ => 0))), ((u 52), .inl (g 0, 6, .inl (fun _ => 0))), ((u 43), .inr (6, [.ref (u 54), .int 0])), ((u 54), .inl (g 0, 160, .inl (fun _ => 0))), ((u 55), .inr (2, [.ref (u 56), .ref (u 57), .int 0])), ((u 56), .inr (1, [.int 5, .int 40, .int 8, .int 0, .int 0, .int 0, .ref (u 58), .ref (u 59), .ref (u 60), .ref (u 61), .ref (u 62), .ref (u 63), .ref (u 64), .ref (u 65), .ref (u 66), .ref (u 67)])), ((u 58), .inl (g 0, 6, .inl (fun _ => 0))), ((u 59), .inl (g 0, 6, .inl (fun _ => 0))), ((u 60), .inl (g 0, 6, .inl (fun _ => 0))), ((u 61), .inl (g 0, 6, .inl (fun _ => 0))), ((u 62), .inl (g 0, 6, .inl (fun _ => 0))), ((u 63), .inl (g 0, 6, .inl (fun _ => 0))), ((u 64), .inl (g 0, 6, .inl (fun _ => 0))), ((u 65), .inl (g 0, 6, .inl (fun _ => 0))), ((u 66), .inl (g 0, 6, .inl (fun _ => 0))), ((u 57), .inr (6, [.ref (u 68), .int 0])), ((u 68), .inl (g 0, 160, .inl (fun _ => 0))), ((u 0), .inr (6, [.ref (u 7), .int 0])), ((u 7), .inl (g 0, 160, .inl (fun _ => 0))), ((u 1), .inr (1, [.int 5, .int 40, .int 8, .int 0, .int 0, .int 0, .ref (u 8), .ref (u 9), .ref (u 10), .ref (u 11), .ref (u 12), .ref (u 13), .ref (u 14), .ref (u 15), .ref (u 16), .ref (u 17)])), ((u 8), .inl (g 0, 6, .inl (fun _ => 0))), ((u 9), .inl (g 0, 6, .inl (fun _ => 0))), ((u 10), .inl (g 0, 6, .inl (fun _ => 0))), ((u 11), .inl (g 0, 6, .inl (fun _ => 0))), ((u 12), .inl (g 0, 6, .inl (fun _ => 0))), ((u 13), .inl (g 0, 6, .inl (fun _ => 0))), ((u 14), .inl (g 0, 6, .inl (fun _ => 0))), ((u 15), .inl (g 0, 6, .inl (fun _ => 0))), ((u 16), .inl (g 0, 6, .inl (fun _ => 0)))] (fun r (_ : Unit) => r = sP_back_1 ) (fun _ => []) := by
  refine CtI.intro (cc := cX7_back) (maxL := 2) (ret := (some .int)) rfl (by decide +kernel) (Nat.le_of_ble_eq_true rfl) ?_
  intro p e s m below meth c A ls C hmn hX hAe hT hl
  have hx := C.1.1
  have hb := C.1.2.1
  have hl : lv_has ls 2 [(0, .ref h0), (1, .int 1)] := hl
  have hin2 : ∀ w ∈ u_ws RX2 TX2 3, w ∈ wsX7_back := by decide +kernel
  have hin7 : ∀ w ∈ u_ws RX7 TX7 7, w ∈ wsX7_back := by decide +kernel
  refine lv_iload_n hx hb dX7_back_0 rfl (lv_at hl 1 rfl) ?_
  refine z_callSI (wr := [(h0, .inr (7, [.ref (u 0), .ref (u 1), .ref (u 2), .ref (u 3), .ref (u 4), .ref (u 5), .ref (u 6)])), ((u 4), .inl (g 3, 2, .inr (.inr (.inr (.inr kf))))), ((u 41), .inr (2, [.ref (u 42), .ref (u 43), .int 0])), ((u 42), .inr (1, [.int 5, .int 40, .int 8, .int 0, .int 0, .int 0, .ref (u 44), .ref (u 45), .ref (u 46), .ref (u 47), .ref (u 48), .ref (u 49), .ref (u 50), .ref (u 51), .ref (u 52), .ref (u 53)])), ((u 44), .inl (g 0, 6, .inl (fun _ => 0))), ((u 45), .inl (g 0, 6, .inl (fun _ => 0))), ((u 46), .inl (g 0, 6, .inl (fun _ => 0))), ((u 47), .inl (g 0, 6, .inl (fun _ => 0))), ((u 48), .inl (g 0, 6, .inl (fun _ => 0))), ((u 49), .inl (g 0, 6, .inl (fun _ => 0))), ((u 50), .inl (g 0, 6, .inl (fun _ => 0))), ((u 51), .inl (g 0, 6, .inl (fun _ => 0))), ((u 52), .inl (g 0, 6, .inl (fun _ => 0))), ((u 43), .inr (6, [.ref (u 54), .int 0])), ((u 54), .inl (g 0, 160, .inl (fun _ => 0))), ((u 55), .inr (2, [.ref (u 56), .ref (u 57), .int 0])), ((u 56), .inr (1, [.int 5, .int 40, .int 8, .int 0, .int 0, .int 0, .ref (u 58), .ref (u 59), .ref (u 60), .ref (u 61), .ref (u 62), .ref (u 63), .ref (u 64), .ref (u 65), .ref (u 66), .ref (u 67)])), ((u 58), .inl (g 0, 6, .inl (fun _ => 0))), ((u 59), .inl (g 0, 6, .inl (fun _ => 0))), ((u 60), .inl (g 0, 6, .inl (fun _ => 0))), ((u 61), .inl (g 0, 6, .inl (fun _ => 0))), ((u 62), .inl (g 0, 6, .inl (fun _ => 0))), ((u 63), .inl (g 0, 6, .inl (fun _ => 0))), ((u 64), .inl (g 0, 6, .inl (fun _ => 0))), ((u 65), .inl (g 0, 6, .inl (fun _ => 0))), ((u 66), .inl (g 0, 6, .inl (fun _ => 0))), ((u 57), .inr (6, [.ref (u 68), .int 0])), ((u 68), .inl (g 0, 160, .inl (fun _ => 0))), ((u 0), .inr (6, [.ref (u 7), .int 0])), ((u 7), .inl (g 0, 160, .inl (fun _ => 0))), ((u 1), .inr (1, [.int 5, .int 40, .int 8, .int 0, .int 0, .int 0, .ref (u 8), .ref (u 9), .ref (u 10), .ref (u 11), .ref (u 12), .ref (u 13), .ref (u 14), .ref (u 15), .ref (u 16), .ref (u 17)])), ((u 8), .inl (g 0, 6, .inl (fun _ => 0))), ((u 9), .inl (g 0, 6, .inl (fun _ => 0))), ((u 10), .inl (g 0, 6, .inl (fun _ => 0))), ((u 11), .inl (g 0, 6, .inl (fun _ => 0))), ((u 12), .inl (g 0, 6, .inl (fun _ => 0))), ((u 13), .inl (g 0, 6, .inl (fun _ => 0))), ((u 14), .inl (g 0, 6, .inl (fun _ => 0))), ((u 15), .inl (g 0, 6, .inl (fun _ => 0))), ((u 16), .inl (g 0, 6, .inl (fun _ => 0)))]) (n := 1) (As := [.int 1]) C (c_P_isKeptPlace l D g 1) gX7_back_X7_isKeptPlace rfl (by decide +kernel) ⟨Nat.le_of_ble_eq_true rfl, Nat.le_of_ble_eq_true rfl⟩ ⟨Nat.le_of_ble_eq_true rfl, Nat.le_of_ble_eq_true rfl⟩ blind_T (fun _ _ _ => trivial) hT [] [0, 1, 2, 3, 4, 5, 6, 7, 8, 9, 10, 11, 12, 13, 14, 15, 16, 17, 18, 19, 20, 21, 22, 23, 24, 25, 26, 27, 28, 29, 30, 31, 32, 33, 34, 35, 36, 37, 38, 39] rfl rfl rfl rfl rfl rfl hl.1 rfl (Nat.le_of_ble_eq_true rfl) dX7_back_1 (fun r_3 u_1 H locs hp_2 hT => ?_)
  have hT : Sit D (TY g) A s [(h0, .inr (7, [.ref (u 0), .ref (u 1), .ref (u 2), .ref (u 3), .ref (u 4), .ref (u 5), .ref (u 6)])), ((u 4), .inl (g 3, 2, .inr (.inr (.inr (.inr kf))))), ((u 41), .inr (2, [.ref (u 42), .ref (u 43), .int 0])), ((u 42), .inr (1, [.int 5, .int 40, .int 8, .int 0, .int 0, .int 0, .ref (u 44), .ref (u 45), .ref (u 46), .ref (u 47), .ref (u 48), .ref (u 49), .ref (u 50), .ref (u 51), .ref (u 52), .ref (u 53)])), ((u 44), .inl (g 0, 6, .inl (fun _ => 0))), ((u 45), .inl (g 0, 6, .inl (fun _ => 0))), ((u 46), .inl (g 0, 6, .inl (fun _ => 0))), ((u 47), .inl (g 0, 6, .inl (fun _ => 0))), ((u 48), .inl (g 0, 6, .inl (fun _ => 0))), ((u 49), .inl (g 0, 6, .inl (fun _ => 0))), ((u 50), .inl (g 0, 6, .inl (fun _ => 0))), ((u 51), .inl (g 0, 6, .inl (fun _ => 0))), ((u 52), .inl (g 0, 6, .inl (fun _ => 0))), ((u 43), .inr (6, [.ref (u 54), .int 0])), ((u 54), .inl (g 0, 160, .inl (fun _ => 0))), ((u 55), .inr (2, [.ref (u 56), .ref (u 57), .int 0])), ((u 56), .inr (1, [.int 5, .int 40, .int 8, .int 0, .int 0, .int 0, .ref (u 58), .ref (u 59), .ref (u 60), .ref (u 61), .ref (u 62), .ref (u 63), .ref (u 64), .ref (u 65), .ref (u 66), .ref (u 67)])), ((u 58), .inl (g 0, 6, .inl (fun _ => 0))), ((u 59), .inl (g 0, 6, .inl (fun _ => 0))), ((u 60), .inl (g 0, 6, .inl (fun _ => 0))), ((u 61), .inl (g 0, 6, .inl (fun _ => 0))), ((u 62), .inl (g 0, 6, .inl (fun _ => 0))), ((u 63), .inl (g 0, 6, .inl (fun _ => 0))), ((u 64), .inl (g 0, 6, .inl (fun _ => 0))), ((u 65), .inl (g 0, 6, .inl (fun _ => 0))), ((u 66), .inl (g 0, 6, .inl (fun _ => 0))), ((u 57), .inr (6, [.ref (u 68), .int 0])), ((u 68), .inl (g 0, 160, .inl (fun _ => 0))), ((u 0), .inr (6, [.ref (u 7), .int 0])), ((u 7), .inl (g 0, 160, .inl (fun _ => 0))), ((u 1), .inr (1, [.int 5, .int 40, .int 8, .int 0, .int 0, .int 0, .ref (u 8), .ref (u 9), .ref (u 10), .ref (u 11), .ref (u 12), .ref (u 13), .ref (u 14), .ref (u 15), .ref (u 16), .ref (u 17)])), ((u 8), .inl (g 0, 6, .inl (fun _ => 0))), ((u 9), .inl (g 0, 6, .inl (fun _ => 0))), ((u 10), .inl (g 0, 6, .inl (fun _ => 0))), ((u 11), .inl (g 0, 6, .inl (fun _ => 0))), ((u 12), .inl (g 0, 6, .inl (fun _ => 0))), ((u 13), .inl (g 0, 6, .inl (fun _ => 0))), ((u 14), .inl (g 0, 6, .inl (fun _ => 0))), ((u 15), .inl (g 0, 6, .inl (fun _ => 0))), ((u 16), .inl (g 0, 6, .inl (fun _ => 0)))] H _ := hT
  have hp_2 := hp_2.trans (show sP_isKeptPlace 1 = 1 from by decide +kernel)
  subst hp_2
  refine lv_if_ne (tgt := 10) hx hb dX7_back_4 (by decide +kernel) (fun _ => ?_) (fun c9 => absurd c9 (by decide +kernel))
  refine lv_aload_n hx hb dX7_back_10 rfl (lv_at hl 0 rfl) ?_
  refine z_get C (ci := 7) (N := 7) rfl hin7 hT 0 4 rfl rfl (by decide +kernel) (by decide +kernel) dX7_back_11 ?_
  refine lv_iload_n hx hb dX7_back_14 rfl (lv_at hl 1 rfl) ?_
  refine z_aald C hT 1 3 rfl rfl rfl (vin rfl) (v := .ref (u 55)) (show va_rf (kf (1 : Int32).toNatClampNeg) = .ref (u 55) from by rw [show (1 : Int32).toNatClampNeg = 1 from by decide +kernel, hk1]; rfl) dX7_back_15 ?_
  refine z_get C (ci := 2) (N := 3) rfl hin2 hT 15 2 rfl rfl (by decide +kernel) (by decide +kernel) dX7_back_16 ?_
  refine lv_if_ne (tgt := 25) hx hb dX7_back_19 (by decide +kernel) (fun c9 => absurd c9 (by decide +kernel)) (fun _ => ?_)
  refine lv_bipush (v := (-4)) hx hb dX7_back_22 (by decide +kernel) ?_
  exact z_iret C rfl hT () rfl [] rfl rfl (Nat.le_of_ble_eq_true rfl) (Nat.le_of_ble_eq_true rfl) dX7_back_24

def sP_back_n  : Int32 := (-2)
set_option maxHeartbeats 4000000 in
set_option maxRecDepth 100000 in
theorem c_P_back_n (l : Launch) (D : va_G) (g : Nat → ClassId) (h0 : Nat) (u : Nat → Nat) (kf : Nat → Option Nat) (hk0 : kf 0 = some (u 41)) (hk1 : kf 1 = some (u 55)) (p0 : Int32) (hn0 : ¬ p0 = 0) (hn1 : ¬ p0 = 1) : CtI l yX7_back wsX7_back { frames := 2, cells := 0, slots := 0, locals := 100 } D (TY g) [.ref h0, .int p0] (fun _ => True) [(h0, .inr (7, [.ref (u 0), .ref (u 1), .ref (u 2), .ref (u 3), .ref (u 4), .ref (u 5), .ref (u 6)])), ((u 4), .inl (g 3, 2, .inr (.inr (.inr (.inr kf))))), ((u 41), .inr (2, [.ref (u 42), .ref (u 43), .int 0])), ((u 42), .inr (1, [.int 5, .int 40, .int 8, .int 0, .int 0, .int 0, .ref (u 44), .ref (u 45), .ref (u 46), .ref (u 47), .ref (u 48), .ref (u 49), .ref (u 50), .ref (u 51), .ref (u 52), .ref (u 53)])), ((u 44), .inl (g 0, 6, .inl (fun _ => 0))), ((u 45), .inl (g 0, 6, .inl (fun _ => 0))), ((u 46), .inl (g 0, 6, .inl (fun _ => 0))), ((u 47), .inl (g 0, 6, .inl (fun _ => 0))), ((u 48), .inl (g 0, 6, .inl (fun _ => 0))), ((u 49), .inl (g 0, 6, .inl (fun _ => 0))), ((u 50), .inl (g 0, 6, .inl (fun _ => 0))), ((u 51), .inl (g 0, 6, .inl (fun _ => 0))), ((u 52), .inl (g 0, 6, .inl (fun _ => 0))), ((u 43), .inr (6, [.ref (u 54), .int 0])), ((u 54), .inl (g 0, 160, .inl (fun _ => 0))), ((u 55), .inr (2, [.ref (u 56), .ref (u 57), .int 0])), ((u 56), .inr (1, [.int 5, .int 40, .int 8, .int 0, .int 0, .int 0, .ref (u 58), .ref (u 59), .ref (u 60), .ref (u 61), .ref (u 62), .ref (u 63), .ref (u 64), .ref (u 65), .ref (u 66), .ref (u 67)])), ((u 58), .inl (g 0, 6, .inl (fun _ => 0))), ((u 59), .inl (g 0, 6, .inl (fun _ => 0))), ((u 60), .inl (g 0, 6, .inl (fun _ => 0))), ((u 61), .inl (g 0, 6, .inl (fun _ => 0))), ((u 62), .inl (g 0, 6, .inl (fun _ => 0))), ((u 63), .inl (g 0, 6, .inl (fun _ => 0))), ((u 64), .inl (g 0, 6, .inl (fun _ => 0))), ((u 65), .inl (g 0, 6, .inl (fun _ => 0))), ((u 66), .inl (g 0, 6, .inl (fun _ => 0))), ((u 57), .inr (6, [.ref (u 68), .int 0])), ((u 68), .inl (g 0, 160, .inl (fun _ => 0))), ((u 0), .inr (6, [.ref (u 7), .int 0])), ((u 7), .inl (g 0, 160, .inl (fun _ => 0))), ((u 1), .inr (1, [.int 5, .int 40, .int 8, .int 0, .int 0, .int 0, .ref (u 8), .ref (u 9), .ref (u 10), .ref (u 11), .ref (u 12), .ref (u 13), .ref (u 14), .ref (u 15), .ref (u 16), .ref (u 17)])), ((u 8), .inl (g 0, 6, .inl (fun _ => 0))), ((u 9), .inl (g 0, 6, .inl (fun _ => 0))), ((u 10), .inl (g 0, 6, .inl (fun _ => 0))), ((u 11), .inl (g 0, 6, .inl (fun _ => 0))), ((u 12), .inl (g 0, 6, .inl (fun _ => 0))), ((u 13), .inl (g 0, 6, .inl (fun _ => 0))), ((u 14), .inl (g 0, 6, .inl (fun _ => 0))), ((u 15), .inl (g 0, 6, .inl (fun _ => 0))), ((u 16), .inl (g 0, 6, .inl (fun _ => 0)))] (fun r (_ : Unit) => r = sP_back_n ) (fun _ => []) := by
  refine CtI.intro (cc := cX7_back) (maxL := 2) (ret := (some .int)) rfl (by decide +kernel) (Nat.le_of_ble_eq_true rfl) ?_
  intro p e s m below meth c A ls C hmn hX hAe hT hl
  have hx := C.1.1
  have hb := C.1.2.1
  have hl : lv_has ls 2 [(0, .ref h0), (1, .int p0)] := hl
  refine lv_iload_n hx hb dX7_back_0 rfl (lv_at hl 1 rfl) ?_
  refine z_callSI (wr := [(h0, .inr (7, [.ref (u 0), .ref (u 1), .ref (u 2), .ref (u 3), .ref (u 4), .ref (u 5), .ref (u 6)])), ((u 4), .inl (g 3, 2, .inr (.inr (.inr (.inr kf))))), ((u 41), .inr (2, [.ref (u 42), .ref (u 43), .int 0])), ((u 42), .inr (1, [.int 5, .int 40, .int 8, .int 0, .int 0, .int 0, .ref (u 44), .ref (u 45), .ref (u 46), .ref (u 47), .ref (u 48), .ref (u 49), .ref (u 50), .ref (u 51), .ref (u 52), .ref (u 53)])), ((u 44), .inl (g 0, 6, .inl (fun _ => 0))), ((u 45), .inl (g 0, 6, .inl (fun _ => 0))), ((u 46), .inl (g 0, 6, .inl (fun _ => 0))), ((u 47), .inl (g 0, 6, .inl (fun _ => 0))), ((u 48), .inl (g 0, 6, .inl (fun _ => 0))), ((u 49), .inl (g 0, 6, .inl (fun _ => 0))), ((u 50), .inl (g 0, 6, .inl (fun _ => 0))), ((u 51), .inl (g 0, 6, .inl (fun _ => 0))), ((u 52), .inl (g 0, 6, .inl (fun _ => 0))), ((u 43), .inr (6, [.ref (u 54), .int 0])), ((u 54), .inl (g 0, 160, .inl (fun _ => 0))), ((u 55), .inr (2, [.ref (u 56), .ref (u 57), .int 0])), ((u 56), .inr (1, [.int 5, .int 40, .int 8, .int 0, .int 0, .int 0, .ref (u 58), .ref (u 59), .ref (u 60), .ref (u 61), .ref (u 62), .ref (u 63), .ref (u 64), .ref (u 65), .ref (u 66), .ref (u 67)])), ((u 58), .inl (g 0, 6, .inl (fun _ => 0))), ((u 59), .inl (g 0, 6, .inl (fun _ => 0))), ((u 60), .inl (g 0, 6, .inl (fun _ => 0))), ((u 61), .inl (g 0, 6, .inl (fun _ => 0))), ((u 62), .inl (g 0, 6, .inl (fun _ => 0))), ((u 63), .inl (g 0, 6, .inl (fun _ => 0))), ((u 64), .inl (g 0, 6, .inl (fun _ => 0))), ((u 65), .inl (g 0, 6, .inl (fun _ => 0))), ((u 66), .inl (g 0, 6, .inl (fun _ => 0))), ((u 57), .inr (6, [.ref (u 68), .int 0])), ((u 68), .inl (g 0, 160, .inl (fun _ => 0))), ((u 0), .inr (6, [.ref (u 7), .int 0])), ((u 7), .inl (g 0, 160, .inl (fun _ => 0))), ((u 1), .inr (1, [.int 5, .int 40, .int 8, .int 0, .int 0, .int 0, .ref (u 8), .ref (u 9), .ref (u 10), .ref (u 11), .ref (u 12), .ref (u 13), .ref (u 14), .ref (u 15), .ref (u 16), .ref (u 17)])), ((u 8), .inl (g 0, 6, .inl (fun _ => 0))), ((u 9), .inl (g 0, 6, .inl (fun _ => 0))), ((u 10), .inl (g 0, 6, .inl (fun _ => 0))), ((u 11), .inl (g 0, 6, .inl (fun _ => 0))), ((u 12), .inl (g 0, 6, .inl (fun _ => 0))), ((u 13), .inl (g 0, 6, .inl (fun _ => 0))), ((u 14), .inl (g 0, 6, .inl (fun _ => 0))), ((u 15), .inl (g 0, 6, .inl (fun _ => 0))), ((u 16), .inl (g 0, 6, .inl (fun _ => 0)))]) (n := 1) (As := [.int p0]) C (c_P_isKeptPlace l D g p0) gX7_back_X7_isKeptPlace rfl (by decide +kernel) ⟨Nat.le_of_ble_eq_true rfl, Nat.le_of_ble_eq_true rfl⟩ ⟨Nat.le_of_ble_eq_true rfl, Nat.le_of_ble_eq_true rfl⟩ blind_T (fun _ _ _ => trivial) hT [] [0, 1, 2, 3, 4, 5, 6, 7, 8, 9, 10, 11, 12, 13, 14, 15, 16, 17, 18, 19, 20, 21, 22, 23, 24, 25, 26, 27, 28, 29, 30, 31, 32, 33, 34, 35, 36, 37, 38, 39] rfl rfl rfl rfl rfl rfl hl.1 rfl (Nat.le_of_ble_eq_true rfl) dX7_back_1 (fun r_3 u_1 H locs hp_2 hT => ?_)
  have hT : Sit D (TY g) A s [(h0, .inr (7, [.ref (u 0), .ref (u 1), .ref (u 2), .ref (u 3), .ref (u 4), .ref (u 5), .ref (u 6)])), ((u 4), .inl (g 3, 2, .inr (.inr (.inr (.inr kf))))), ((u 41), .inr (2, [.ref (u 42), .ref (u 43), .int 0])), ((u 42), .inr (1, [.int 5, .int 40, .int 8, .int 0, .int 0, .int 0, .ref (u 44), .ref (u 45), .ref (u 46), .ref (u 47), .ref (u 48), .ref (u 49), .ref (u 50), .ref (u 51), .ref (u 52), .ref (u 53)])), ((u 44), .inl (g 0, 6, .inl (fun _ => 0))), ((u 45), .inl (g 0, 6, .inl (fun _ => 0))), ((u 46), .inl (g 0, 6, .inl (fun _ => 0))), ((u 47), .inl (g 0, 6, .inl (fun _ => 0))), ((u 48), .inl (g 0, 6, .inl (fun _ => 0))), ((u 49), .inl (g 0, 6, .inl (fun _ => 0))), ((u 50), .inl (g 0, 6, .inl (fun _ => 0))), ((u 51), .inl (g 0, 6, .inl (fun _ => 0))), ((u 52), .inl (g 0, 6, .inl (fun _ => 0))), ((u 43), .inr (6, [.ref (u 54), .int 0])), ((u 54), .inl (g 0, 160, .inl (fun _ => 0))), ((u 55), .inr (2, [.ref (u 56), .ref (u 57), .int 0])), ((u 56), .inr (1, [.int 5, .int 40, .int 8, .int 0, .int 0, .int 0, .ref (u 58), .ref (u 59), .ref (u 60), .ref (u 61), .ref (u 62), .ref (u 63), .ref (u 64), .ref (u 65), .ref (u 66), .ref (u 67)])), ((u 58), .inl (g 0, 6, .inl (fun _ => 0))), ((u 59), .inl (g 0, 6, .inl (fun _ => 0))), ((u 60), .inl (g 0, 6, .inl (fun _ => 0))), ((u 61), .inl (g 0, 6, .inl (fun _ => 0))), ((u 62), .inl (g 0, 6, .inl (fun _ => 0))), ((u 63), .inl (g 0, 6, .inl (fun _ => 0))), ((u 64), .inl (g 0, 6, .inl (fun _ => 0))), ((u 65), .inl (g 0, 6, .inl (fun _ => 0))), ((u 66), .inl (g 0, 6, .inl (fun _ => 0))), ((u 57), .inr (6, [.ref (u 68), .int 0])), ((u 68), .inl (g 0, 160, .inl (fun _ => 0))), ((u 0), .inr (6, [.ref (u 7), .int 0])), ((u 7), .inl (g 0, 160, .inl (fun _ => 0))), ((u 1), .inr (1, [.int 5, .int 40, .int 8, .int 0, .int 0, .int 0, .ref (u 8), .ref (u 9), .ref (u 10), .ref (u 11), .ref (u 12), .ref (u 13), .ref (u 14), .ref (u 15), .ref (u 16), .ref (u 17)])), ((u 8), .inl (g 0, 6, .inl (fun _ => 0))), ((u 9), .inl (g 0, 6, .inl (fun _ => 0))), ((u 10), .inl (g 0, 6, .inl (fun _ => 0))), ((u 11), .inl (g 0, 6, .inl (fun _ => 0))), ((u 12), .inl (g 0, 6, .inl (fun _ => 0))), ((u 13), .inl (g 0, 6, .inl (fun _ => 0))), ((u 14), .inl (g 0, 6, .inl (fun _ => 0))), ((u 15), .inl (g 0, 6, .inl (fun _ => 0))), ((u 16), .inl (g 0, 6, .inl (fun _ => 0)))] H _ := hT
  have hp_2 := hp_2.trans (sP_isKeptPlace_0 hn0 hn1)
  subst hp_2
  refine lv_if_ne (tgt := 10) hx hb dX7_back_4 (by decide +kernel) (fun c9 => absurd c9 (by decide +kernel)) (fun _ => ?_)
  refine lv_bipush (v := (-2)) hx hb dX7_back_7 (by decide +kernel) ?_
  exact z_iret C rfl hT () rfl [] rfl rfl (Nat.le_of_ble_eq_true rfl) (Nat.le_of_ble_eq_true rfl) dX7_back_9

def sP_back (p0 : Int32) : Int32 := if p0 = 0 then sP_back_0 else if p0 = 1 then sP_back_1 else sP_back_n
theorem c_P_back (l : Launch) (D : va_G) (g : Nat → ClassId) (h0 : Nat) (u : Nat → Nat) (kf : Nat → Option Nat) (hk0 : kf 0 = some (u 41)) (hk1 : kf 1 = some (u 55)) (p0 : Int32) : CtI l yX7_back wsX7_back { frames := 2, cells := 0, slots := 0, locals := 100 } D (TY g) [.ref h0, .int p0] (fun _ => True) [(h0, .inr (7, [.ref (u 0), .ref (u 1), .ref (u 2), .ref (u 3), .ref (u 4), .ref (u 5), .ref (u 6)])), ((u 4), .inl (g 3, 2, .inr (.inr (.inr (.inr kf))))), ((u 41), .inr (2, [.ref (u 42), .ref (u 43), .int 0])), ((u 42), .inr (1, [.int 5, .int 40, .int 8, .int 0, .int 0, .int 0, .ref (u 44), .ref (u 45), .ref (u 46), .ref (u 47), .ref (u 48), .ref (u 49), .ref (u 50), .ref (u 51), .ref (u 52), .ref (u 53)])), ((u 44), .inl (g 0, 6, .inl (fun _ => 0))), ((u 45), .inl (g 0, 6, .inl (fun _ => 0))), ((u 46), .inl (g 0, 6, .inl (fun _ => 0))), ((u 47), .inl (g 0, 6, .inl (fun _ => 0))), ((u 48), .inl (g 0, 6, .inl (fun _ => 0))), ((u 49), .inl (g 0, 6, .inl (fun _ => 0))), ((u 50), .inl (g 0, 6, .inl (fun _ => 0))), ((u 51), .inl (g 0, 6, .inl (fun _ => 0))), ((u 52), .inl (g 0, 6, .inl (fun _ => 0))), ((u 43), .inr (6, [.ref (u 54), .int 0])), ((u 54), .inl (g 0, 160, .inl (fun _ => 0))), ((u 55), .inr (2, [.ref (u 56), .ref (u 57), .int 0])), ((u 56), .inr (1, [.int 5, .int 40, .int 8, .int 0, .int 0, .int 0, .ref (u 58), .ref (u 59), .ref (u 60), .ref (u 61), .ref (u 62), .ref (u 63), .ref (u 64), .ref (u 65), .ref (u 66), .ref (u 67)])), ((u 58), .inl (g 0, 6, .inl (fun _ => 0))), ((u 59), .inl (g 0, 6, .inl (fun _ => 0))), ((u 60), .inl (g 0, 6, .inl (fun _ => 0))), ((u 61), .inl (g 0, 6, .inl (fun _ => 0))), ((u 62), .inl (g 0, 6, .inl (fun _ => 0))), ((u 63), .inl (g 0, 6, .inl (fun _ => 0))), ((u 64), .inl (g 0, 6, .inl (fun _ => 0))), ((u 65), .inl (g 0, 6, .inl (fun _ => 0))), ((u 66), .inl (g 0, 6, .inl (fun _ => 0))), ((u 57), .inr (6, [.ref (u 68), .int 0])), ((u 68), .inl (g 0, 160, .inl (fun _ => 0))), ((u 0), .inr (6, [.ref (u 7), .int 0])), ((u 7), .inl (g 0, 160, .inl (fun _ => 0))), ((u 1), .inr (1, [.int 5, .int 40, .int 8, .int 0, .int 0, .int 0, .ref (u 8), .ref (u 9), .ref (u 10), .ref (u 11), .ref (u 12), .ref (u 13), .ref (u 14), .ref (u 15), .ref (u 16), .ref (u 17)])), ((u 8), .inl (g 0, 6, .inl (fun _ => 0))), ((u 9), .inl (g 0, 6, .inl (fun _ => 0))), ((u 10), .inl (g 0, 6, .inl (fun _ => 0))), ((u 11), .inl (g 0, 6, .inl (fun _ => 0))), ((u 12), .inl (g 0, 6, .inl (fun _ => 0))), ((u 13), .inl (g 0, 6, .inl (fun _ => 0))), ((u 14), .inl (g 0, 6, .inl (fun _ => 0))), ((u 15), .inl (g 0, 6, .inl (fun _ => 0))), ((u 16), .inl (g 0, 6, .inl (fun _ => 0)))] (fun r (_ : Unit) => r = sP_back p0) (fun _ => []) := by
  by_cases e0 : p0 = 0
  · subst e0
    exact c_P_back_0 l D g h0 u kf hk0 hk1
  · by_cases e1 : p0 = 1
    · subst e1
      exact c_P_back_1 l D g h0 u kf hk0 hk1
    · have h := c_P_back_n l D g h0 u kf hk0 hk1 p0 e0 e1
      unfold sP_back
      rw [if_neg e0, if_neg e1]
      exact h
end
