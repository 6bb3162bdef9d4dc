section
-- ===== PART A: goes FIRST, ahead of the names: the tables' words, and 'selects' of the private methods out of them =====
/-- a private method of a class that the tables say can be made, by its rows of tables_1 -/
def lw_okq (q : MethodName × Nat) : Prop := (q.1.cls ≠ "java/lang/invoke/MethodHandle" ∧ q.1.cls ≠ "java/lang/invoke/VarHandle") ∧ Cond.instantiable q.1.cls q.2 ∈ tables_1 ∧ Cond.privateMethod q.1 ∈ tables_1 ∧ Cond.instanceMethod q.1 ∈ tables_1
theorem lw_p0 : lw_okq (⟨"Campground$SetupReader", "read", "(I)I"⟩, 9) := ⟨⟨by decide +kernel, by decide +kernel⟩, List.mem_of_getElem? (i := 275) (by decide +kernel), List.mem_of_getElem? (i := 361) (by decide +kernel), List.mem_of_getElem? (i := 362) (by decide +kernel)⟩
theorem lw_p1 : lw_okq (⟨"Campground$Camp", "clear", "()V"⟩, 6) := ⟨⟨by decide +kernel, by decide +kernel⟩, List.mem_of_getElem? (i := 34) (by decide +kernel), List.mem_of_getElem? (i := 368) (by decide +kernel), List.mem_of_getElem? (i := 369) (by decide +kernel)⟩
theorem lw_p2 : lw_okq (⟨"Campground$SetupReader", "step", "()V"⟩, 9) := ⟨⟨by decide +kernel, by decide +kernel⟩, List.mem_of_getElem? (i := 275) (by decide +kernel), List.mem_of_getElem? (i := 372) (by decide +kernel), List.mem_of_getElem? (i := 373) (by decide +kernel)⟩
theorem lw_p3 : lw_okq (⟨"Campground$SetupReader", "readStatement", "()Z"⟩, 9) := ⟨⟨by decide +kernel, by decide +kernel⟩, List.mem_of_getElem? (i := 275) (by decide +kernel), List.mem_of_getElem? (i := 383) (by decide +kernel), List.mem_of_getElem? (i := 384) (by decide +kernel)⟩
theorem lw_p4 : lw_okq (⟨"Campground$SetupReader", "isWord", "(Ljava/lang/String;)Z"⟩, 9) := ⟨⟨by decide +kernel, by decide +kernel⟩, List.mem_of_getElem? (i := 275) (by decide +kernel), List.mem_of_getElem? (i := 388) (by decide +kernel), List.mem_of_getElem? (i := 389) (by decide +kernel)⟩
theorem lw_p5 : lw_okq (⟨"Campground$SetupReader", "readClass", "()Z"⟩, 9) := ⟨⟨by decide +kernel, by decide +kernel⟩, List.mem_of_getElem? (i := 275) (by decide +kernel), List.mem_of_getElem? (i := 440) (by decide +kernel), List.mem_of_getElem? (i := 441) (by decide +kernel)⟩
theorem lw_p6 : lw_okq (⟨"Campground$SetupReader", "fail", "(I)Z"⟩, 9) := ⟨⟨by decide +kernel, by decide +kernel⟩, List.mem_of_getElem? (i := 275) (by decide +kernel), List.mem_of_getElem? (i := 444) (by decide +kernel), List.mem_of_getElem? (i := 445) (by decide +kernel)⟩
theorem lw_p7 : lw_okq (⟨"Campground$SetupReader", "failAt", "(II)Z"⟩, 9) := ⟨⟨by decide +kernel, by decide +kernel⟩, List.mem_of_getElem? (i := 275) (by decide +kernel), List.mem_of_getElem? (i := 448) (by decide +kernel), List.mem_of_getElem? (i := 449) (by decide +kernel)⟩
theorem lw_p8 : lw_okq (⟨"Campground$SetupReader", "readNumber", "(II)I"⟩, 9) := ⟨⟨by decide +kernel, by decide +kernel⟩, List.mem_of_getElem? (i := 275) (by decide +kernel), List.mem_of_getElem? (i := 452) (by decide +kernel), List.mem_of_getElem? (i := 453) (by decide +kernel)⟩
theorem lw_p9 : lw_okq (⟨"Campground$Classes", "add", "(III)I"⟩, 4) := ⟨⟨by decide +kernel, by decide +kernel⟩, List.mem_of_getElem? (i := 40) (by decide +kernel), List.mem_of_getElem? (i := 456) (by decide +kernel), List.mem_of_getElem? (i := 457) (by decide +kernel)⟩
theorem lw_p10 : lw_okq (⟨"Campground$SetupReader", "readSemicolon", "()Z"⟩, 9) := ⟨⟨by decide +kernel, by decide +kernel⟩, List.mem_of_getElem? (i := 275) (by decide +kernel), List.mem_of_getElem? (i := 460) (by decide +kernel), List.mem_of_getElem? (i := 461) (by decide +kernel)⟩
theorem lw_p11 : lw_okq (⟨"Campground$SetupReader", "readSites", "()Z"⟩, 9) := ⟨⟨by decide +kernel, by decide +kernel⟩, List.mem_of_getElem? (i := 275) (by decide +kernel), List.mem_of_getElem? (i := 465) (by decide +kernel), List.mem_of_getElem? (i := 466) (by decide +kernel)⟩
theorem lw_p12 : lw_okq (⟨"Campground$Sites", "add", "(I)I"⟩, 3) := ⟨⟨by decide +kernel, by decide +kernel⟩, List.mem_of_getElem? (i := 63) (by decide +kernel), List.mem_of_getElem? (i := 469) (by decide +kernel), List.mem_of_getElem? (i := 470) (by decide +kernel)⟩
theorem lw_p13 : lw_okq (⟨"Campground$SetupReader", "readSeason", "()Z"⟩, 9) := ⟨⟨by decide +kernel, by decide +kernel⟩, List.mem_of_getElem? (i := 275) (by decide +kernel), List.mem_of_getElem? (i := 474) (by decide +kernel), List.mem_of_getElem? (i := 475) (by decide +kernel)⟩
theorem lw_p14 : lw_okq (⟨"Campground$Seasons", "add", "(IIIII)I"⟩, 6) := ⟨⟨by decide +kernel, by decide +kernel⟩, List.mem_of_getElem? (i := 86) (by decide +kernel), List.mem_of_getElem? (i := 478) (by decide +kernel), List.mem_of_getElem? (i := 479) (by decide +kernel)⟩
theorem lw_p15 : lw_okq (⟨"Campground$SetupReader", "readDay", "()Z"⟩, 9) := ⟨⟨by decide +kernel, by decide +kernel⟩, List.mem_of_getElem? (i := 275) (by decide +kernel), List.mem_of_getElem? (i := 483) (by decide +kernel), List.mem_of_getElem? (i := 484) (by decide +kernel)⟩
def lw_privs_1 : List (MethodName × Nat) := [(⟨"Campground$SetupReader", "read", "(I)I"⟩, 9), (⟨"Campground$Camp", "clear", "()V"⟩, 6), (⟨"Campground$SetupReader", "step", "()V"⟩, 9), (⟨"Campground$SetupReader", "readStatement", "()Z"⟩, 9), (⟨"Campground$SetupReader", "isWord", "(Ljava/lang/String;)Z"⟩, 9), (⟨"Campground$SetupReader", "readClass", "()Z"⟩, 9), (⟨"Campground$SetupReader", "fail", "(I)Z"⟩, 9), (⟨"Campground$SetupReader", "failAt", "(II)Z"⟩, 9), (⟨"Campground$SetupReader", "readNumber", "(II)I"⟩, 9), (⟨"Campground$Classes", "add", "(III)I"⟩, 4), (⟨"Campground$SetupReader", "readSemicolon", "()Z"⟩, 9), (⟨"Campground$SetupReader", "readSites", "()Z"⟩, 9), (⟨"Campground$Sites", "add", "(I)I"⟩, 3), (⟨"Campground$SetupReader", "readSeason", "()Z"⟩, 9), (⟨"Campground$Seasons", "add", "(IIIII)I"⟩, 6), (⟨"Campground$SetupReader", "readDay", "()Z"⟩, 9)]
theorem lw_r1 : ∀ q ∈ lw_privs_1, lw_okq q := List.forall_mem_cons.mpr ⟨lw_p0, List.forall_mem_cons.mpr ⟨lw_p1, List.forall_mem_cons.mpr ⟨lw_p2, List.forall_mem_cons.mpr ⟨lw_p3, List.forall_mem_cons.mpr ⟨lw_p4, List.forall_mem_cons.mpr ⟨lw_p5, List.forall_mem_cons.mpr ⟨lw_p6, List.forall_mem_cons.mpr ⟨lw_p7, List.forall_mem_cons.mpr ⟨lw_p8, List.forall_mem_cons.mpr ⟨lw_p9, List.forall_mem_cons.mpr ⟨lw_p10, List.forall_mem_cons.mpr ⟨lw_p11, List.forall_mem_cons.mpr ⟨lw_p12, List.forall_mem_cons.mpr ⟨lw_p13, List.forall_mem_cons.mpr ⟨lw_p14, List.forall_mem_cons.mpr ⟨lw_p15, fun _ h => absurd h List.not_mem_nil⟩⟩⟩⟩⟩⟩⟩⟩⟩⟩⟩⟩⟩⟩⟩⟩
theorem lw_p16 : lw_okq (⟨"Campground$Camp", "copyFrom", "(LCampground$Camp;)V"⟩, 6) := ⟨⟨by decide +kernel, by decide +kernel⟩, List.mem_of_getElem? (i := 34) (by decide +kernel), List.mem_of_getElem? (i := 487) (by decide +kernel), List.mem_of_getElem? (i := 488) (by decide +kernel)⟩
theorem lw_p17 : lw_okq (⟨"Campground$Classes", "copyFrom", "(LCampground$Classes;)V"⟩, 4) := ⟨⟨by decide +kernel, by decide +kernel⟩, List.mem_of_getElem? (i := 40) (by decide +kernel), List.mem_of_getElem? (i := 491) (by decide +kernel), List.mem_of_getElem? (i := 492) (by decide +kernel)⟩
theorem lw_p18 : lw_okq (⟨"Campground$Sites", "copyFrom", "(LCampground$Sites;)V"⟩, 3) := ⟨⟨by decide +kernel, by decide +kernel⟩, List.mem_of_getElem? (i := 63) (by decide +kernel), List.mem_of_getElem? (i := 502) (by decide +kernel), List.mem_of_getElem? (i := 503) (by decide +kernel)⟩
theorem lw_p19 : lw_okq (⟨"Campground$Seasons", "copyFrom", "(LCampground$Seasons;)V"⟩, 6) := ⟨⟨by decide +kernel, by decide +kernel⟩, List.mem_of_getElem? (i := 86) (by decide +kernel), List.mem_of_getElem? (i := 507) (by decide +kernel), List.mem_of_getElem? (i := 508) (by decide +kernel)⟩
theorem lw_p20 : lw_okq (⟨"Campground$Bookings", "copyFrom", "(LCampground$Bookings;)V"⟩, 7) := ⟨⟨by decide +kernel, by decide +kernel⟩, List.mem_of_getElem? (i := 114) (by decide +kernel), List.mem_of_getElem? (i := 512) (by decide +kernel), List.mem_of_getElem? (i := 513) (by decide +kernel)⟩
theorem lw_p21 : lw_okq (⟨"Campground$Requests", "copyFrom", "(LCampground$Requests;)V"⟩, 6) := ⟨⟨by decide +kernel, by decide +kernel⟩, List.mem_of_getElem? (i := 160) (by decide +kernel), List.mem_of_getElem? (i := 517) (by decide +kernel), List.mem_of_getElem? (i := 518) (by decide +kernel)⟩
theorem lw_p22 : lw_okq (⟨"java/lang/Throwable", "fillInStackTrace", "(I)Ljava/lang/Throwable;"⟩, 6) := ⟨⟨by decide +kernel, by decide +kernel⟩, List.mem_of_getElem? (i := 580) (by decide +kernel), List.mem_of_getElem? (i := 578) (by decide +kernel), List.mem_of_getElem? (i := 579) (by decide +kernel)⟩
theorem lw_p23 : lw_okq (⟨"Campground", "checkClass", "(I)V"⟩, 8) := ⟨⟨by decide +kernel, by decide +kernel⟩, List.mem_of_getElem? (i := 26) (by decide +kernel), List.mem_of_getElem? (i := 634) (by decide +kernel), List.mem_of_getElem? (i := 635) (by decide +kernel)⟩
theorem lw_p24 : lw_okq (⟨"Campground", "checkSite", "(I)V"⟩, 8) := ⟨⟨by decide +kernel, by decide +kernel⟩, List.mem_of_getElem? (i := 26) (by decide +kernel), List.mem_of_getElem? (i := 672) (by decide +kernel), List.mem_of_getElem? (i := 673) (by decide +kernel)⟩
theorem lw_p25 : lw_okq (⟨"Campground$Seasons", "minimumOn", "(II)I"⟩, 6) := ⟨⟨by decide +kernel, by decide +kernel⟩, List.mem_of_getElem? (i := 86) (by decide +kernel), List.mem_of_getElem? (i := 684) (by decide +kernel), List.mem_of_getElem? (i := 685) (by decide +kernel)⟩
theorem lw_p26 : lw_okq (⟨"Campground$Seasons", "latestWith", "(II)I"⟩, 6) := ⟨⟨by decide +kernel, by decide +kernel⟩, List.mem_of_getElem? (i := 86) (by decide +kernel), List.mem_of_getElem? (i := 688) (by decide +kernel), List.mem_of_getElem? (i := 689) (by decide +kernel)⟩
theorem lw_p27 : lw_okq (⟨"Campground$Seasons", "priceOn", "(II)I"⟩, 6) := ⟨⟨by decide +kernel, by decide +kernel⟩, List.mem_of_getElem? (i := 86) (by decide +kernel), List.mem_of_getElem? (i := 699) (by decide +kernel), List.mem_of_getElem? (i := 700) (by decide +kernel)⟩
theorem lw_p28 : lw_okq (⟨"Campground$Camp", "capacityOn", "(II)I"⟩, 6) := ⟨⟨by decide +kernel, by decide +kernel⟩, List.mem_of_getElem? (i := 34) (by decide +kernel), List.mem_of_getElem? (i := 710) (by decide +kernel), List.mem_of_getElem? (i := 711) (by decide +kernel)⟩
theorem lw_p29 : lw_okq (⟨"Campground$Sites", "countOpen", "(II)I"⟩, 3) := ⟨⟨by decide +kernel, by decide +kernel⟩, List.mem_of_getElem? (i := 63) (by decide +kernel), List.mem_of_getElem? (i := 714) (by decide +kernel), List.mem_of_getElem? (i := 715) (by decide +kernel)⟩
theorem lw_p30 : lw_okq (⟨"Campground$Camp", "releasedOn", "(II)I"⟩, 6) := ⟨⟨by decide +kernel, by decide +kernel⟩, List.mem_of_getElem? (i := 34) (by decide +kernel), List.mem_of_getElem? (i := 725) (by decide +kernel), List.mem_of_getElem? (i := 726) (by decide +kernel)⟩
theorem lw_p31 : lw_okq (⟨"Campground$Classes", "limitAhead", "(II)I"⟩, 4) := ⟨⟨by decide +kernel, by decide +kernel⟩, List.mem_of_getElem? (i := 40) (by decide +kernel), List.mem_of_getElem? (i := 729) (by decide +kernel), List.mem_of_getElem? (i := 730) (by decide +kernel)⟩
def lw_privs_2 : List (MethodName × Nat) := [(⟨"Campground$Camp", "copyFrom", "(LCampground$Camp;)V"⟩, 6), (⟨"Campground$Classes", "copyFrom", "(LCampground$Classes;)V"⟩, 4), (⟨"Campground$Sites", "copyFrom", "(LCampground$Sites;)V"⟩, 3), (⟨"Campground$Seasons", "copyFrom", "(LCampground$Seasons;)V"⟩, 6), (⟨"Campground$Bookings", "copyFrom", "(LCampground$Bookings;)V"⟩, 7), (⟨"Campground$Requests", "copyFrom", "(LCampground$Requests;)V"⟩, 6), (⟨"java/lang/Throwable", "fillInStackTrace", "(I)Ljava/lang/Throwable;"⟩, 6), (⟨"Campground", "checkClass", "(I)V"⟩, 8), (⟨"Campground", "checkSite", "(I)V"⟩, 8), (⟨"Campground$Seasons", "minimumOn", "(II)I"⟩, 6), (⟨"Campground$Seasons", "latestWith", "(II)I"⟩, 6), (⟨"Campground$Seasons", "priceOn", "(II)I"⟩, 6), (⟨"Campground$Camp", "capacityOn", "(II)I"⟩, 6), (⟨"Campground$Sites", "countOpen", "(II)I"⟩, 3), (⟨"Campground$Camp", "releasedOn", "(II)I"⟩, 6), (⟨"Campground$Classes", "limitAhead", "(II)I"⟩, 4)]
theorem lw_r2 : ∀ q ∈ lw_privs_2, lw_okq q := List.forall_mem_cons.mpr ⟨lw_p16, List.forall_mem_cons.mpr ⟨lw_p17, List.forall_mem_cons.mpr ⟨lw_p18, List.forall_mem_cons.mpr ⟨lw_p19, List.forall_mem_cons.mpr ⟨lw_p20, List.forall_mem_cons.mpr ⟨lw_p21, List.forall_mem_cons.mpr ⟨lw_p22, List.forall_mem_cons.mpr ⟨lw_p23, List.forall_mem_cons.mpr ⟨lw_p24, List.forall_mem_cons.mpr ⟨lw_p25, List.forall_mem_cons.mpr ⟨lw_p26, List.forall_mem_cons.mpr ⟨lw_p27, List.forall_mem_cons.mpr ⟨lw_p28, List.forall_mem_cons.mpr ⟨lw_p29, List.forall_mem_cons.mpr ⟨lw_p30, List.forall_mem_cons.mpr ⟨lw_p31, fun _ h => absurd h List.not_mem_nil⟩⟩⟩⟩⟩⟩⟩⟩⟩⟩⟩⟩⟩⟩⟩⟩
theorem lw_p32 : lw_okq (⟨"Campground$Bookings", "takenOn", "(II)I"⟩, 7) := ⟨⟨by decide +kernel, by decide +kernel⟩, List.mem_of_getElem? (i := 114) (by decide +kernel), List.mem_of_getElem? (i := 741) (by decide +kernel), List.mem_of_getElem? (i := 742) (by decide +kernel)⟩
theorem lw_p33 : lw_okq (⟨"Campground$Bookings", "isActive", "(I)Z"⟩, 7) := ⟨⟨by decide +kernel, by decide +kernel⟩, List.mem_of_getElem? (i := 114) (by decide +kernel), List.mem_of_getElem? (i := 745) (by decide +kernel), List.mem_of_getElem? (i := 746) (by decide +kernel)⟩
theorem lw_p34 : lw_okq (⟨"Campground$StayJudge", "turnTo", "(I)V"⟩, 3) := ⟨⟨by decide +kernel, by decide +kernel⟩, List.mem_of_getElem? (i := 234) (by decide +kernel), List.mem_of_getElem? (i := 766) (by decide +kernel), List.mem_of_getElem? (i := 767) (by decide +kernel)⟩
theorem lw_p35 : lw_okq (⟨"Campground$StayJudge", "obstacleToStay", "(II)I"⟩, 3) := ⟨⟨by decide +kernel, by decide +kernel⟩, List.mem_of_getElem? (i := 234) (by decide +kernel), List.mem_of_getElem? (i := 773) (by decide +kernel), List.mem_of_getElem? (i := 774) (by decide +kernel)⟩
theorem lw_p36 : lw_okq (⟨"Campground$StayJudge", "obstacleToNights", "(II)I"⟩, 3) := ⟨⟨by decide +kernel, by decide +kernel⟩, List.mem_of_getElem? (i := 234) (by decide +kernel), List.mem_of_getElem? (i := 777) (by decide +kernel), List.mem_of_getElem? (i := 778) (by decide +kernel)⟩
theorem lw_p37 : lw_okq (⟨"Campground$StayJudge", "leavesWindow", "(II)Z"⟩, 3) := ⟨⟨by decide +kernel, by decide +kernel⟩, List.mem_of_getElem? (i := 234) (by decide +kernel), List.mem_of_getElem? (i := 781) (by decide +kernel), List.mem_of_getElem? (i := 782) (by decide +kernel)⟩
theorem lw_p38 : lw_okq (⟨"Campground$Classes", "windowOf", "(I)I"⟩, 4) := ⟨⟨by decide +kernel, by decide +kernel⟩, List.mem_of_getElem? (i := 40) (by decide +kernel), List.mem_of_getElem? (i := 785) (by decide +kernel), List.mem_of_getElem? (i := 786) (by decide +kernel)⟩
theorem lw_p39 : lw_okq (⟨"Campground$StayJudge", "isFree", "(I)Z"⟩, 3) := ⟨⟨by decide +kernel, by decide +kernel⟩, List.mem_of_getElem? (i := 234) (by decide +kernel), List.mem_of_getElem? (i := 789) (by decide +kernel), List.mem_of_getElem? (i := 790) (by decide +kernel)⟩
theorem lw_p40 : lw_okq (⟨"Campground$Seasons", "priceOfNights", "(III)I"⟩, 6) := ⟨⟨by decide +kernel, by decide +kernel⟩, List.mem_of_getElem? (i := 86) (by decide +kernel), List.mem_of_getElem? (i := 810) (by decide +kernel), List.mem_of_getElem? (i := 811) (by decide +kernel)⟩
theorem lw_p41 : lw_okq (⟨"Campground$Bookings", "isFull", "()Z"⟩, 7) := ⟨⟨by decide +kernel, by decide +kernel⟩, List.mem_of_getElem? (i := 114) (by decide +kernel), List.mem_of_getElem? (i := 830) (by decide +kernel), List.mem_of_getElem? (i := 831) (by decide +kernel)⟩
theorem lw_p42 : lw_okq (⟨"Campground$Camp", "addBooking", "(III)I"⟩, 6) := ⟨⟨by decide +kernel, by decide +kernel⟩, List.mem_of_getElem? (i := 34) (by decide +kernel), List.mem_of_getElem? (i := 835) (by decide +kernel), List.mem_of_getElem? (i := 836) (by decide +kernel)⟩
theorem lw_p43 : lw_okq (⟨"Campground$Bookings", "add", "(IIII)I"⟩, 7) := ⟨⟨by decide +kernel, by decide +kernel⟩, List.mem_of_getElem? (i := 114) (by decide +kernel), List.mem_of_getElem? (i := 840) (by decide +kernel), List.mem_of_getElem? (i := 841) (by decide +kernel)⟩
theorem lw_p44 : lw_okq (⟨"Campground", "checkBooking", "(I)V"⟩, 8) := ⟨⟨by decide +kernel, by decide +kernel⟩, List.mem_of_getElem? (i := 26) (by decide +kernel), List.mem_of_getElem? (i := 851) (by decide +kernel), List.mem_of_getElem? (i := 852) (by decide +kernel)⟩
theorem lw_p45 : lw_okq (⟨"Campground$Camp", "refundOfCancelling", "(I)I"⟩, 6) := ⟨⟨by decide +kernel, by decide +kernel⟩, List.mem_of_getElem? (i := 34) (by decide +kernel), List.mem_of_getElem? (i := 902) (by decide +kernel), List.mem_of_getElem? (i := 903) (by decide +kernel)⟩
theorem lw_p46 : lw_okq (⟨"Campground$Camp", "lowestVacantSite", "(I)I"⟩, 6) := ⟨⟨by decide +kernel, by decide +kernel⟩, List.mem_of_getElem? (i := 34) (by decide +kernel), List.mem_of_getElem? (i := 913) (by decide +kernel), List.mem_of_getElem? (i := 914) (by decide +kernel)⟩
theorem lw_p47 : lw_okq (⟨"Campground$Camp", "isVacant", "(I)Z"⟩, 6) := ⟨⟨by decide +kernel, by decide +kernel⟩, List.mem_of_getElem? (i := 34) (by decide +kernel), List.mem_of_getElem? (i := 917) (by decide +kernel), List.mem_of_getElem? (i := 918) (by decide +kernel)⟩
def lw_privs_3 : List (MethodName × Nat) := [(⟨"Campground$Bookings", "takenOn", "(II)I"⟩, 7), (⟨"Campground$Bookings", "isActive", "(I)Z"⟩, 7), (⟨"Campground$StayJudge", "turnTo", "(I)V"⟩, 3), (⟨"Campground$StayJudge", "obstacleToStay", "(II)I"⟩, 3), (⟨"Campground$StayJudge", "obstacleToNights", "(II)I"⟩, 3), (⟨"Campground$StayJudge", "leavesWindow", "(II)Z"⟩, 3), (⟨"Campground$Classes", "windowOf", "(I)I"⟩, 4), (⟨"Campground$StayJudge", "isFree", "(I)Z"⟩, 3), (⟨"Campground$Seasons", "priceOfNights", "(III)I"⟩, 6), (⟨"Campground$Bookings", "isFull", "()Z"⟩, 7), (⟨"Campground$Camp", "addBooking", "(III)I"⟩, 6), (⟨"Campground$Bookings", "add", "(IIII)I"⟩, 7), (⟨"Campground", "checkBooking", "(I)V"⟩, 8), (⟨"Campground$Camp", "refundOfCancelling", "(I)I"⟩, 6), (⟨"Campground$Camp", "lowestVacantSite", "(I)I"⟩, 6), (⟨"Campground$Camp", "isVacant", "(I)Z"⟩, 6)]
theorem lw_r3 : ∀ q ∈ lw_privs_3, lw_okq q := List.forall_mem_cons.mpr ⟨lw_p32, List.forall_mem_cons.mpr ⟨lw_p33, List.forall_mem_cons.mpr ⟨lw_p34, List.forall_mem_cons.mpr ⟨lw_p35, List.forall_mem_cons.mpr ⟨lw_p36, List.forall_mem_cons.mpr ⟨lw_p37, List.forall_mem_cons.mpr ⟨lw_p38, List.forall_mem_cons.mpr ⟨lw_p39, List.forall_mem_cons.mpr ⟨lw_p40, List.forall_mem_cons.mpr ⟨lw_p41, List.forall_mem_cons.mpr ⟨lw_p42, List.forall_mem_cons.mpr ⟨lw_p43, List.forall_mem_cons.mpr ⟨lw_p44, List.forall_mem_cons.mpr ⟨lw_p45, List.forall_mem_cons.mpr ⟨lw_p46, List.forall_mem_cons.mpr ⟨lw_p47, fun _ h => absurd h List.not_mem_nil⟩⟩⟩⟩⟩⟩⟩⟩⟩⟩⟩⟩⟩⟩⟩⟩
theorem lw_p48 : lw_okq (⟨"Campground$Sites", "isClosed", "(II)Z"⟩, 3) := ⟨⟨by decide +kernel, by decide +kernel⟩, List.mem_of_getElem? (i := 63) (by decide +kernel), List.mem_of_getElem? (i := 921) (by decide +kernel), List.mem_of_getElem? (i := 922) (by decide +kernel)⟩
theorem lw_p49 : lw_okq (⟨"Campground$Bookings", "isSomebodyAt", "(I)Z"⟩, 7) := ⟨⟨by decide +kernel, by decide +kernel⟩, List.mem_of_getElem? (i := 114) (by decide +kernel), List.mem_of_getElem? (i := 925) (by decide +kernel), List.mem_of_getElem? (i := 926) (by decide +kernel)⟩
theorem lw_p50 : lw_okq (⟨"Campground", "checkSameClass", "(II)V"⟩, 8) := ⟨⟨by decide +kernel, by decide +kernel⟩, List.mem_of_getElem? (i := 26) (by decide +kernel), List.mem_of_getElem? (i := 936) (by decide +kernel), List.mem_of_getElem? (i := 937) (by decide +kernel)⟩
theorem lw_p51 : lw_okq (⟨"Campground$Camp", "refundOfDeparting", "(I)I"⟩, 6) := ⟨⟨by decide +kernel, by decide +kernel⟩, List.mem_of_getElem? (i := 34) (by decide +kernel), List.mem_of_getElem? (i := 956) (by decide +kernel), List.mem_of_getElem? (i := 957) (by decide +kernel)⟩
theorem lw_p52 : lw_okq (⟨"Campground$Camp", "endToday", "()V"⟩, 6) := ⟨⟨by decide +kernel, by decide +kernel⟩, List.mem_of_getElem? (i := 34) (by decide +kernel), List.mem_of_getElem? (i := 977) (by decide +kernel), List.mem_of_getElem? (i := 978) (by decide +kernel)⟩
theorem lw_p53 : lw_okq (⟨"Campground$Bookings", "endNight", "(I)V"⟩, 7) := ⟨⟨by decide +kernel, by decide +kernel⟩, List.mem_of_getElem? (i := 114) (by decide +kernel), List.mem_of_getElem? (i := 981) (by decide +kernel), List.mem_of_getElem? (i := 982) (by decide +kernel)⟩
theorem lw_p54 : lw_okq (⟨"Campground$Requests", "expireBefore", "(I)V"⟩, 6) := ⟨⟨by decide +kernel, by decide +kernel⟩, List.mem_of_getElem? (i := 160) (by decide +kernel), List.mem_of_getElem? (i := 985) (by decide +kernel), List.mem_of_getElem? (i := 986) (by decide +kernel)⟩
theorem lw_p55 : lw_okq (⟨"Campground$Camp", "canSpare", "(II)Z"⟩, 6) := ⟨⟨by decide +kernel, by decide +kernel⟩, List.mem_of_getElem? (i := 34) (by decide +kernel), List.mem_of_getElem? (i := 996) (by decide +kernel), List.mem_of_getElem? (i := 997) (by decide +kernel)⟩
theorem lw_p56 : lw_okq (⟨"Campground$Requests", "add", "(III)I"⟩, 6) := ⟨⟨by decide +kernel, by decide +kernel⟩, List.mem_of_getElem? (i := 160) (by decide +kernel), List.mem_of_getElem? (i := 1018) (by decide +kernel), List.mem_of_getElem? (i := 1019) (by decide +kernel)⟩
theorem lw_p57 : lw_okq (⟨"Campground", "checkRequest", "(I)V"⟩, 8) := ⟨⟨by decide +kernel, by decide +kernel⟩, List.mem_of_getElem? (i := 26) (by decide +kernel), List.mem_of_getElem? (i := 1029) (by decide +kernel), List.mem_of_getElem? (i := 1030) (by decide +kernel)⟩
theorem lw_p58 : lw_okq (⟨"Campground", "bestRequest", "(I)I"⟩, 8) := ⟨⟨by decide +kernel, by decide +kernel⟩, List.mem_of_getElem? (i := 26) (by decide +kernel), List.mem_of_getElem? (i := 1055) (by decide +kernel), List.mem_of_getElem? (i := 1056) (by decide +kernel)⟩
theorem lw_p59 : lw_okq (⟨"Campground$Requests", "isBetter", "(II)Z"⟩, 6) := ⟨⟨by decide +kernel, by decide +kernel⟩, List.mem_of_getElem? (i := 160) (by decide +kernel), List.mem_of_getElem? (i := 1059) (by decide +kernel), List.mem_of_getElem? (i := 1060) (by decide +kernel)⟩
theorem lw_p60 : lw_okq (⟨"Campground$Camp", "bookRequest", "(I)V"⟩, 6) := ⟨⟨by decide +kernel, by decide +kernel⟩, List.mem_of_getElem? (i := 34) (by decide +kernel), List.mem_of_getElem? (i := 1063) (by decide +kernel), List.mem_of_getElem? (i := 1064) (by decide +kernel)⟩
theorem lw_p61 : lw_okq (⟨"Campground$Plan", "make", "(II)V"⟩, 5) := ⟨⟨by decide +kernel, by decide +kernel⟩, List.mem_of_getElem? (i := 250) (by decide +kernel), List.mem_of_getElem? (i := 1075) (by decide +kernel), List.mem_of_getElem? (i := 1076) (by decide +kernel)⟩
theorem lw_p62 : lw_okq (⟨"Campground$Plan", "placeStaying", "(I)V"⟩, 5) := ⟨⟨by decide +kernel, by decide +kernel⟩, List.mem_of_getElem? (i := 250) (by decide +kernel), List.mem_of_getElem? (i := 1080) (by decide +kernel), List.mem_of_getElem? (i := 1081) (by decide +kernel)⟩
theorem lw_p63 : lw_okq (⟨"Campground$Plan", "nextToPlace", "(I)I"⟩, 5) := ⟨⟨by decide +kernel, by decide +kernel⟩, List.mem_of_getElem? (i := 250) (by decide +kernel), List.mem_of_getElem? (i := 1084) (by decide +kernel), List.mem_of_getElem? (i := 1085) (by decide +kernel)⟩
def lw_privs_4 : List (MethodName × Nat) := [(⟨"Campground$Sites", "isClosed", "(II)Z"⟩, 3), (⟨"Campground$Bookings", "isSomebodyAt", "(I)Z"⟩, 7), (⟨"Campground", "checkSameClass", "(II)V"⟩, 8), (⟨"Campground$Camp", "refundOfDeparting", "(I)I"⟩, 6), (⟨"Campground$Camp", "endToday", "()V"⟩, 6), (⟨"Campground$Bookings", "endNight", "(I)V"⟩, 7), (⟨"Campground$Requests", "expireBefore", "(I)V"⟩, 6), (⟨"Campground$Camp", "canSpare", "(II)Z"⟩, 6), (⟨"Campground$Requests", "add", "(III)I"⟩, 6), (⟨"Campground", "checkRequest", "(I)V"⟩, 8), (⟨"Campground", "bestRequest", "(I)I"⟩, 8), (⟨"Campground$Requests", "isBetter", "(II)Z"⟩, 6), (⟨"Campground$Camp", "bookRequest", "(I)V"⟩, 6), (⟨"Campground$Plan", "make", "(II)V"⟩, 5), (⟨"Campground$Plan", "placeStaying", "(I)V"⟩, 5), (⟨"Campground$Plan", "nextToPlace", "(I)I"⟩, 5)]
theorem lw_r4 : ∀ q ∈ lw_privs_4, lw_okq q := List.forall_mem_cons.mpr ⟨lw_p48, List.forall_mem_cons.mpr ⟨lw_p49, List.forall_mem_cons.mpr ⟨lw_p50, List.forall_mem_cons.mpr ⟨lw_p51, List.forall_mem_cons.mpr ⟨lw_p52, List.forall_mem_cons.mpr ⟨lw_p53, List.forall_mem_cons.mpr ⟨lw_p54, List.forall_mem_cons.mpr ⟨lw_p55, List.forall_mem_cons.mpr ⟨lw_p56, List.forall_mem_cons.mpr ⟨lw_p57, List.forall_mem_cons.mpr ⟨lw_p58, List.forall_mem_cons.mpr ⟨lw_p59, List.forall_mem_cons.mpr ⟨lw_p60, List.forall_mem_cons.mpr ⟨lw_p61, List.forall_mem_cons.mpr ⟨lw_p62, List.forall_mem_cons.mpr ⟨lw_p63, fun _ h => absurd h List.not_mem_nil⟩⟩⟩⟩⟩⟩⟩⟩⟩⟩⟩⟩⟩⟩⟩⟩
theorem lw_p64 : lw_okq (⟨"Campground$Plan", "chooseSite", "(III)I"⟩, 5) := ⟨⟨by decide +kernel, by decide +kernel⟩, List.mem_of_getElem? (i := 250) (by decide +kernel), List.mem_of_getElem? (i := 1088) (by decide +kernel), List.mem_of_getElem? (i := 1089) (by decide +kernel)⟩
theorem lw_p65 : lw_okq (⟨"Campground$Plan", "countGap", "(III)V"⟩, 5) := ⟨⟨by decide +kernel, by decide +kernel⟩, List.mem_of_getElem? (i := 250) (by decide +kernel), List.mem_of_getElem? (i := 1093) (by decide +kernel), List.mem_of_getElem? (i := 1094) (by decide +kernel)⟩
theorem lw_p66 : lw_okq (⟨"Campground", "checkNights", "(II)V"⟩, 8) := ⟨⟨by decide +kernel, by decide +kernel⟩, List.mem_of_getElem? (i := 26) (by decide +kernel), List.mem_of_getElem? (i := 1119) (by decide +kernel), List.mem_of_getElem? (i := 1120) (by decide +kernel)⟩
theorem lw_p67 : lw_okq (⟨"Campground$Camp", "takenInAll", "(III)I"⟩, 6) := ⟨⟨by decide +kernel, by decide +kernel⟩, List.mem_of_getElem? (i := 34) (by decide +kernel), List.mem_of_getElem? (i := 1123) (by decide +kernel), List.mem_of_getElem? (i := 1124) (by decide +kernel)⟩
theorem lw_p68 : lw_okq (⟨"Campground$Camp", "capacityInAll", "(III)I"⟩, 6) := ⟨⟨by decide +kernel, by decide +kernel⟩, List.mem_of_getElem? (i := 34) (by decide +kernel), List.mem_of_getElem? (i := 1127) (by decide +kernel), List.mem_of_getElem? (i := 1128) (by decide +kernel)⟩
theorem lw_p69 : lw_okq (⟨"Campground$Bookings", "isToDepart", "(II)Z"⟩, 7) := ⟨⟨by decide +kernel, by decide +kernel⟩, List.mem_of_getElem? (i := 114) (by decide +kernel), List.mem_of_getElem? (i := 1148) (by decide +kernel), List.mem_of_getElem? (i := 1149) (by decide +kernel)⟩
theorem lw_p70 : lw_okq (⟨"Campground$Bookings", "isToArrive", "(II)Z"⟩, 7) := ⟨⟨by decide +kernel, by decide +kernel⟩, List.mem_of_getElem? (i := 114) (by decide +kernel), List.mem_of_getElem? (i := 1152) (by decide +kernel), List.mem_of_getElem? (i := 1153) (by decide +kernel)⟩
theorem lw_p71 : lw_okq (⟨"Campground$Bookings", "isDearer", "(II)Z"⟩, 7) := ⟨⟨by decide +kernel, by decide +kernel⟩, List.mem_of_getElem? (i := 114) (by decide +kernel), List.mem_of_getElem? (i := 1163) (by decide +kernel), List.mem_of_getElem? (i := 1164) (by decide +kernel)⟩
theorem lw_p72 : lw_okq (⟨"CampgroundModel", "fail", "(I)I"⟩, 19) := ⟨⟨by decide +kernel, by decide +kernel⟩, List.mem_of_getElem? (i := 1204) (by decide +kernel), List.mem_of_getElem? (i := 1280) (by decide +kernel), List.mem_of_getElem? (i := 1281) (by decide +kernel)⟩
theorem lw_p73 : lw_okq (⟨"CampgroundModel", "appendClass", "(III)I"⟩, 19) := ⟨⟨by decide +kernel, by decide +kernel⟩, List.mem_of_getElem? (i := 1204) (by decide +kernel), List.mem_of_getElem? (i := 1284) (by decide +kernel), List.mem_of_getElem? (i := 1285) (by decide +kernel)⟩
theorem lw_p74 : lw_okq (⟨"CampgroundModel", "isClass", "(I)Z"⟩, 19) := ⟨⟨by decide +kernel, by decide +kernel⟩, List.mem_of_getElem? (i := 1204) (by decide +kernel), List.mem_of_getElem? (i := 1292) (by decide +kernel), List.mem_of_getElem? (i := 1293) (by decide +kernel)⟩
theorem lw_p75 : lw_okq (⟨"CampgroundModel", "appendSite", "(I)I"⟩, 19) := ⟨⟨by decide +kernel, by decide +kernel⟩, List.mem_of_getElem? (i := 1204) (by decide +kernel), List.mem_of_getElem? (i := 1296) (by decide +kernel), List.mem_of_getElem? (i := 1297) (by decide +kernel)⟩
theorem lw_p76 : lw_okq (⟨"CampgroundModel", "appendSeason", "(IIIII)I"⟩, 19) := ⟨⟨by decide +kernel, by decide +kernel⟩, List.mem_of_getElem? (i := 1204) (by decide +kernel), List.mem_of_getElem? (i := 1307) (by decide +kernel), List.mem_of_getElem? (i := 1308) (by decide +kernel)⟩
theorem lw_p77 : lw_okq (⟨"CampgroundModel", "isSite", "(I)Z"⟩, 19) := ⟨⟨by decide +kernel, by decide +kernel⟩, List.mem_of_getElem? (i := 1204) (by decide +kernel), List.mem_of_getElem? (i := 1323) (by decide +kernel), List.mem_of_getElem? (i := 1324) (by decide +kernel)⟩
theorem lw_p78 : lw_okq (⟨"CampgroundModel", "site", "(II)I"⟩, 19) := ⟨⟨by decide +kernel, by decide +kernel⟩, List.mem_of_getElem? (i := 1204) (by decide +kernel), List.mem_of_getElem? (i := 1327) (by decide +kernel), List.mem_of_getElem? (i := 1328) (by decide +kernel)⟩
theorem lw_p79 : lw_okq (⟨"CampgroundModel", "minimumOf", "(II)I"⟩, 19) := ⟨⟨by decide +kernel, by decide +kernel⟩, List.mem_of_getElem? (i := 1204) (by decide +kernel), List.mem_of_getElem? (i := 1335) (by decide +kernel), List.mem_of_getElem? (i := 1336) (by decide +kernel)⟩
def lw_privs_5 : List (MethodName × Nat) := [(⟨"Campground$Plan", "chooseSite", "(III)I"⟩, 5), (⟨"Campground$Plan", "countGap", "(III)V"⟩, 5), (⟨"Campground", "checkNights", "(II)V"⟩, 8), (⟨"Campground$Camp", "takenInAll", "(III)I"⟩, 6), (⟨"Campground$Camp", "capacityInAll", "(III)I"⟩, 6), (⟨"Campground$Bookings", "isToDepart", "(II)Z"⟩, 7), (⟨"Campground$Bookings", "isToArrive", "(II)Z"⟩, 7), (⟨"Campground$Bookings", "isDearer", "(II)Z"⟩, 7), (⟨"CampgroundModel", "fail", "(I)I"⟩, 19), (⟨"CampgroundModel", "appendClass", "(III)I"⟩, 19), (⟨"CampgroundModel", "isClass", "(I)Z"⟩, 19), (⟨"CampgroundModel", "appendSite", "(I)I"⟩, 19), (⟨"CampgroundModel", "appendSeason", "(IIIII)I"⟩, 19), (⟨"CampgroundModel", "isSite", "(I)Z"⟩, 19), (⟨"CampgroundModel", "site", "(II)I"⟩, 19), (⟨"CampgroundModel", "minimumOf", "(II)I"⟩, 19)]
theorem lw_r5 : ∀ q ∈ lw_privs_5, lw_okq q := List.forall_mem_cons.mpr ⟨lw_p64, List.forall_mem_cons.mpr ⟨lw_p65, List.forall_mem_cons.mpr ⟨lw_p66, List.forall_mem_cons.mpr ⟨lw_p67, List.forall_mem_cons.mpr ⟨lw_p68, List.forall_mem_cons.mpr ⟨lw_p69, List.forall_mem_cons.mpr ⟨lw_p70, List.forall_mem_cons.mpr ⟨lw_p71, List.forall_mem_cons.mpr ⟨lw_p72, List.forall_mem_cons.mpr ⟨lw_p73, List.forall_mem_cons.mpr ⟨lw_p74, List.forall_mem_cons.mpr ⟨lw_p75, List.forall_mem_cons.mpr ⟨lw_p76, List.forall_mem_cons.mpr ⟨lw_p77, List.forall_mem_cons.mpr ⟨lw_p78, List.forall_mem_cons.mpr ⟨lw_p79, fun _ h => absurd h List.not_mem_nil⟩⟩⟩⟩⟩⟩⟩⟩⟩⟩⟩⟩⟩⟩⟩⟩
theorem lw_p80 : lw_okq (⟨"CampgroundModel", "seasonOf", "(II)I"⟩, 19) := ⟨⟨by decide +kernel, by decide +kernel⟩, List.mem_of_getElem? (i := 1204) (by decide +kernel), List.mem_of_getElem? (i := 1339) (by decide +kernel), List.mem_of_getElem? (i := 1340) (by decide +kernel)⟩
theorem lw_p81 : lw_okq (⟨"CampgroundModel", "season", "(II)I"⟩, 19) := ⟨⟨by decide +kernel, by decide +kernel⟩, List.mem_of_getElem? (i := 1204) (by decide +kernel), List.mem_of_getElem? (i := 1343) (by decide +kernel), List.mem_of_getElem? (i := 1344) (by decide +kernel)⟩
theorem lw_p82 : lw_okq (⟨"CampgroundModel", "priceOf", "(II)I"⟩, 19) := ⟨⟨by decide +kernel, by decide +kernel⟩, List.mem_of_getElem? (i := 1204) (by decide +kernel), List.mem_of_getElem? (i := 1351) (by decide +kernel), List.mem_of_getElem? (i := 1352) (by decide +kernel)⟩
theorem lw_p83 : lw_okq (⟨"CampgroundModel", "capacityOf", "(II)I"⟩, 19) := ⟨⟨by decide +kernel, by decide +kernel⟩, List.mem_of_getElem? (i := 1204) (by decide +kernel), List.mem_of_getElem? (i := 1359) (by decide +kernel), List.mem_of_getElem? (i := 1360) (by decide +kernel)⟩
theorem lw_p84 : lw_okq (⟨"CampgroundModel", "isOpenOn", "(II)Z"⟩, 19) := ⟨⟨by decide +kernel, by decide +kernel⟩, List.mem_of_getElem? (i := 1204) (by decide +kernel), List.mem_of_getElem? (i := 1363) (by decide +kernel), List.mem_of_getElem? (i := 1364) (by decide +kernel)⟩
theorem lw_p85 : lw_okq (⟨"CampgroundModel", "isNight", "(I)Z"⟩, 19) := ⟨⟨by decide +kernel, by decide +kernel⟩, List.mem_of_getElem? (i := 1204) (by decide +kernel), List.mem_of_getElem? (i := 1367) (by decide +kernel), List.mem_of_getElem? (i := 1368) (by decide +kernel)⟩
theorem lw_p86 : lw_okq (⟨"CampgroundModel", "releasedOf", "(II)I"⟩, 19) := ⟨⟨by decide +kernel, by decide +kernel⟩, List.mem_of_getElem? (i := 1204) (by decide +kernel), List.mem_of_getElem? (i := 1375) (by decide +kernel), List.mem_of_getElem? (i := 1376) (by decide +kernel)⟩
theorem lw_p87 : lw_okq (⟨"CampgroundModel", "siteClass", "(II)I"⟩, 19) := ⟨⟨by decide +kernel, by decide +kernel⟩, List.mem_of_getElem? (i := 1204) (by decide +kernel), List.mem_of_getElem? (i := 1379) (by decide +kernel), List.mem_of_getElem? (i := 1380) (by decide +kernel)⟩
theorem lw_p88 : lw_okq (⟨"CampgroundModel", "takenOf", "(II)I"⟩, 19) := ⟨⟨by decide +kernel, by decide +kernel⟩, List.mem_of_getElem? (i := 1204) (by decide +kernel), List.mem_of_getElem? (i := 1388) (by decide +kernel), List.mem_of_getElem? (i := 1389) (by decide +kernel)⟩
theorem lw_p89 : lw_okq (⟨"CampgroundModel", "booking", "(II)I"⟩, 19) := ⟨⟨by decide +kernel, by decide +kernel⟩, List.mem_of_getElem? (i := 1204) (by decide +kernel), List.mem_of_getElem? (i := 1392) (by decide +kernel), List.mem_of_getElem? (i := 1393) (by decide +kernel)⟩
theorem lw_p90 : lw_okq (⟨"CampgroundModel", "isActive", "(I)Z"⟩, 19) := ⟨⟨by decide +kernel, by decide +kernel⟩, List.mem_of_getElem? (i := 1204) (by decide +kernel), List.mem_of_getElem? (i := 1396) (by decide +kernel), List.mem_of_getElem? (i := 1397) (by decide +kernel)⟩
theorem lw_p91 : lw_okq (⟨"CampgroundModel", "availableOf", "(II)I"⟩, 19) := ⟨⟨by decide +kernel, by decide +kernel⟩, List.mem_of_getElem? (i := 1204) (by decide +kernel), List.mem_of_getElem? (i := 1404) (by decide +kernel), List.mem_of_getElem? (i := 1405) (by decide +kernel)⟩
theorem lw_p92 : lw_okq (⟨"CampgroundModel", "obstacleOf", "(III)I"⟩, 19) := ⟨⟨by decide +kernel, by decide +kernel⟩, List.mem_of_getElem? (i := 1204) (by decide +kernel), List.mem_of_getElem? (i := 1416) (by decide +kernel), List.mem_of_getElem? (i := 1417) (by decide +kernel)⟩
theorem lw_p93 : lw_okq (⟨"CampgroundModel", "nightsObstacle", "(III)I"⟩, 19) := ⟨⟨by decide +kernel, by decide +kernel⟩, List.mem_of_getElem? (i := 1204) (by decide +kernel), List.mem_of_getElem? (i := 1420) (by decide +kernel), List.mem_of_getElem? (i := 1421) (by decide +kernel)⟩
theorem lw_p94 : lw_okq (⟨"CampgroundModel", "pricesOf", "(III)I"⟩, 19) := ⟨⟨by decide +kernel, by decide +kernel⟩, List.mem_of_getElem? (i := 1204) (by decide +kernel), List.mem_of_getElem? (i := 1433) (by decide +kernel), List.mem_of_getElem? (i := 1434) (by decide +kernel)⟩
theorem lw_p95 : lw_okq (⟨"CampgroundModel", "appendBooking", "(III)I"⟩, 19) := ⟨⟨by decide +kernel, by decide +kernel⟩, List.mem_of_getElem? (i := 1204) (by decide +kernel), List.mem_of_getElem? (i := 1445) (by decide +kernel), List.mem_of_getElem? (i := 1446) (by decide +kernel)⟩
def lw_privs_6 : List (MethodName × Nat) := [(⟨"CampgroundModel", "seasonOf", "(II)I"⟩, 19), (⟨"CampgroundModel", "season", "(II)I"⟩, 19), (⟨"CampgroundModel", "priceOf", "(II)I"⟩, 19), (⟨"CampgroundModel", "capacityOf", "(II)I"⟩, 19), (⟨"CampgroundModel", "isOpenOn", "(II)Z"⟩, 19), (⟨"CampgroundModel", "isNight", "(I)Z"⟩, 19), (⟨"CampgroundModel", "releasedOf", "(II)I"⟩, 19), (⟨"CampgroundModel", "siteClass", "(II)I"⟩, 19), (⟨"CampgroundModel", "takenOf", "(II)I"⟩, 19), (⟨"CampgroundModel", "booking", "(II)I"⟩, 19), (⟨"CampgroundModel", "isActive", "(I)Z"⟩, 19), (⟨"CampgroundModel", "availableOf", "(II)I"⟩, 19), (⟨"CampgroundModel", "obstacleOf", "(III)I"⟩, 19), (⟨"CampgroundModel", "nightsObstacle", "(III)I"⟩, 19), (⟨"CampgroundModel", "pricesOf", "(III)I"⟩, 19), (⟨"CampgroundModel", "appendBooking", "(III)I"⟩, 19)]
theorem lw_r6 : ∀ q ∈ lw_privs_6, lw_okq q := List.forall_mem_cons.mpr ⟨lw_p80, List.forall_mem_cons.mpr ⟨lw_p81, List.forall_mem_cons.mpr ⟨lw_p82, List.forall_mem_cons.mpr ⟨lw_p83, List.forall_mem_cons.mpr ⟨lw_p84, List.forall_mem_cons.mpr ⟨lw_p85, List.forall_mem_cons.mpr ⟨lw_p86, List.forall_mem_cons.mpr ⟨lw_p87, List.forall_mem_cons.mpr ⟨lw_p88, List.forall_mem_cons.mpr ⟨lw_p89, List.forall_mem_cons.mpr ⟨lw_p90, List.forall_mem_cons.mpr ⟨lw_p91, List.forall_mem_cons.mpr ⟨lw_p92, List.forall_mem_cons.mpr ⟨lw_p93, List.forall_mem_cons.mpr ⟨lw_p94, List.forall_mem_cons.mpr ⟨lw_p95, fun _ h => absurd h List.not_mem_nil⟩⟩⟩⟩⟩⟩⟩⟩⟩⟩⟩⟩⟩⟩⟩⟩
theorem lw_p96 : lw_okq (⟨"CampgroundModel", "setBooking", "(III)V"⟩, 19) := ⟨⟨by decide +kernel, by decide +kernel⟩, List.mem_of_getElem? (i := 1204) (by decide +kernel), List.mem_of_getElem? (i := 1449) (by decide +kernel), List.mem_of_getElem? (i := 1450) (by decide +kernel)⟩
theorem lw_p97 : lw_okq (⟨"CampgroundModel", "bookingField", "(II)I"⟩, 19) := ⟨⟨by decide +kernel, by decide +kernel⟩, List.mem_of_getElem? (i := 1204) (by decide +kernel), List.mem_of_getElem? (i := 1461) (by decide +kernel), List.mem_of_getElem? (i := 1462) (by decide +kernel)⟩
theorem lw_p98 : lw_okq (⟨"CampgroundModel", "isBooking", "(I)Z"⟩, 19) := ⟨⟨by decide +kernel, by decide +kernel⟩, List.mem_of_getElem? (i := 1204) (by decide +kernel), List.mem_of_getElem? (i := 1465) (by decide +kernel), List.mem_of_getElem? (i := 1466) (by decide +kernel)⟩
theorem lw_p99 : lw_okq (⟨"CampgroundModel", "vacantSiteOf", "(I)I"⟩, 19) := ⟨⟨by decide +kernel, by decide +kernel⟩, List.mem_of_getElem? (i := 1204) (by decide +kernel), List.mem_of_getElem? (i := 1497) (by decide +kernel), List.mem_of_getElem? (i := 1498) (by decide +kernel)⟩
theorem lw_p100 : lw_okq (⟨"CampgroundModel", "isVacant", "(I)Z"⟩, 19) := ⟨⟨by decide +kernel, by decide +kernel⟩, List.mem_of_getElem? (i := 1204) (by decide +kernel), List.mem_of_getElem? (i := 1501) (by decide +kernel), List.mem_of_getElem? (i := 1502) (by decide +kernel)⟩
theorem lw_p101 : lw_okq (⟨"CampgroundModel", "isOccupied", "(I)Z"⟩, 19) := ⟨⟨by decide +kernel, by decide +kernel⟩, List.mem_of_getElem? (i := 1204) (by decide +kernel), List.mem_of_getElem? (i := 1505) (by decide +kernel), List.mem_of_getElem? (i := 1506) (by decide +kernel)⟩
theorem lw_p102 : lw_okq (⟨"CampgroundModel", "endDay", "()V"⟩, 19) := ⟨⟨by decide +kernel, by decide +kernel⟩, List.mem_of_getElem? (i := 1204) (by decide +kernel), List.mem_of_getElem? (i := 1529) (by decide +kernel), List.mem_of_getElem? (i := 1530) (by decide +kernel)⟩
theorem lw_p103 : lw_okq (⟨"CampgroundModel", "requestField", "(II)I"⟩, 19) := ⟨⟨by decide +kernel, by decide +kernel⟩, List.mem_of_getElem? (i := 1204) (by decide +kernel), List.mem_of_getElem? (i := 1533) (by decide +kernel), List.mem_of_getElem? (i := 1534) (by decide +kernel)⟩
theorem lw_p104 : lw_okq (⟨"CampgroundModel", "setRequest", "(III)V"⟩, 19) := ⟨⟨by decide +kernel, by decide +kernel⟩, List.mem_of_getElem? (i := 1204) (by decide +kernel), List.mem_of_getElem? (i := 1537) (by decide +kernel), List.mem_of_getElem? (i := 1538) (by decide +kernel)⟩
theorem lw_p105 : lw_okq (⟨"CampgroundModel", "hasSpareSite", "(II)Z"⟩, 19) := ⟨⟨by decide +kernel, by decide +kernel⟩, List.mem_of_getElem? (i := 1204) (by decide +kernel), List.mem_of_getElem? (i := 1549) (by decide +kernel), List.mem_of_getElem? (i := 1550) (by decide +kernel)⟩
theorem lw_p106 : lw_okq (⟨"CampgroundModel", "appendRequest", "(III)I"⟩, 19) := ⟨⟨by decide +kernel, by decide +kernel⟩, List.mem_of_getElem? (i := 1204) (by decide +kernel), List.mem_of_getElem? (i := 1561) (by decide +kernel), List.mem_of_getElem? (i := 1562) (by decide +kernel)⟩
theorem lw_p107 : lw_okq (⟨"CampgroundModel", "isRequest", "(I)Z"⟩, 19) := ⟨⟨by decide +kernel, by decide +kernel⟩, List.mem_of_getElem? (i := 1204) (by decide +kernel), List.mem_of_getElem? (i := 1569) (by decide +kernel), List.mem_of_getElem? (i := 1570) (by decide +kernel)⟩
theorem lw_p108 : lw_okq (⟨"CampgroundModel", "nextRequest", "(I)I"⟩, 19) := ⟨⟨by decide +kernel, by decide +kernel⟩, List.mem_of_getElem? (i := 1204) (by decide +kernel), List.mem_of_getElem? (i := 1585) (by decide +kernel), List.mem_of_getElem? (i := 1586) (by decide +kernel)⟩
theorem lw_p109 : lw_okq (⟨"CampgroundModel", "isAhead", "(II)Z"⟩, 19) := ⟨⟨by decide +kernel, by decide +kernel⟩, List.mem_of_getElem? (i := 1204) (by decide +kernel), List.mem_of_getElem? (i := 1589) (by decide +kernel), List.mem_of_getElem? (i := 1590) (by decide +kernel)⟩
theorem lw_p110 : lw_okq (⟨"CampgroundModel", "plan", "(II)V"⟩, 19) := ⟨⟨by decide +kernel, by decide +kernel⟩, List.mem_of_getElem? (i := 1204) (by decide +kernel), List.mem_of_getElem? (i := 1597) (by decide +kernel), List.mem_of_getElem? (i := 1598) (by decide +kernel)⟩
theorem lw_p111 : lw_okq (⟨"CampgroundModel", "place", "(II)V"⟩, 19) := ⟨⟨by decide +kernel, by decide +kernel⟩, List.mem_of_getElem? (i := 1204) (by decide +kernel), List.mem_of_getElem? (i := 1601) (by decide +kernel), List.mem_of_getElem? (i := 1602) (by decide +kernel)⟩
def lw_privs_7 : List (MethodName × Nat) := [(⟨"CampgroundModel", "setBooking", "(III)V"⟩, 19), (⟨"CampgroundModel", "bookingField", "(II)I"⟩, 19), (⟨"CampgroundModel", "isBooking", "(I)Z"⟩, 19), (⟨"CampgroundModel", "vacantSiteOf", "(I)I"⟩, 19), (⟨"CampgroundModel", "isVacant", "(I)Z"⟩, 19), (⟨"CampgroundModel", "isOccupied", "(I)Z"⟩, 19), (⟨"CampgroundModel", "endDay", "()V"⟩, 19), (⟨"CampgroundModel", "requestField", "(II)I"⟩, 19), (⟨"CampgroundModel", "setRequest", "(III)V"⟩, 19), (⟨"CampgroundModel", "hasSpareSite", "(II)Z"⟩, 19), (⟨"CampgroundModel", "appendRequest", "(III)I"⟩, 19), (⟨"CampgroundModel", "isRequest", "(I)Z"⟩, 19), (⟨"CampgroundModel", "nextRequest", "(I)I"⟩, 19), (⟨"CampgroundModel", "isAhead", "(II)Z"⟩, 19), (⟨"CampgroundModel", "plan", "(II)V"⟩, 19), (⟨"CampgroundModel", "place", "(II)V"⟩, 19)]
theorem lw_r7 : ∀ q ∈ lw_privs_7, lw_okq q := List.forall_mem_cons.mpr ⟨lw_p96, List.forall_mem_cons.mpr ⟨lw_p97, List.forall_mem_cons.mpr ⟨lw_p98, List.forall_mem_cons.mpr ⟨lw_p99, List.forall_mem_cons.mpr ⟨lw_p100, List.forall_mem_cons.mpr ⟨lw_p101, List.forall_mem_cons.mpr ⟨lw_p102, List.forall_mem_cons.mpr ⟨lw_p103, List.forall_mem_cons.mpr ⟨lw_p104, List.forall_mem_cons.mpr ⟨lw_p105, List.forall_mem_cons.mpr ⟨lw_p106, List.forall_mem_cons.mpr ⟨lw_p107, List.forall_mem_cons.mpr ⟨lw_p108, List.forall_mem_cons.mpr ⟨lw_p109, List.forall_mem_cons.mpr ⟨lw_p110, List.forall_mem_cons.mpr ⟨lw_p111, fun _ h => absurd h List.not_mem_nil⟩⟩⟩⟩⟩⟩⟩⟩⟩⟩⟩⟩⟩⟩⟩⟩
theorem lw_p112 : lw_okq (⟨"CampgroundModel", "nextBooking", "(I)I"⟩, 19) := ⟨⟨by decide +kernel, by decide +kernel⟩, List.mem_of_getElem? (i := 1204) (by decide +kernel), List.mem_of_getElem? (i := 1605) (by decide +kernel), List.mem_of_getElem? (i := 1606) (by decide +kernel)⟩
theorem lw_p113 : lw_okq (⟨"CampgroundModel", "freeSite", "(II)I"⟩, 19) := ⟨⟨by decide +kernel, by decide +kernel⟩, List.mem_of_getElem? (i := 1204) (by decide +kernel), List.mem_of_getElem? (i := 1609) (by decide +kernel), List.mem_of_getElem? (i := 1610) (by decide +kernel)⟩
theorem lw_p114 : lw_okq (⟨"CampgroundModel", "wrongPlan", "(II)I"⟩, 19) := ⟨⟨by decide +kernel, by decide +kernel⟩, List.mem_of_getElem? (i := 1204) (by decide +kernel), List.mem_of_getElem? (i := 1617) (by decide +kernel), List.mem_of_getElem? (i := 1618) (by decide +kernel)⟩
theorem lw_p115 : lw_okq (⟨"CampgroundModel", "occupancy", "(IIIZ)I"⟩, 19) := ⟨⟨by decide +kernel, by decide +kernel⟩, List.mem_of_getElem? (i := 1204) (by decide +kernel), List.mem_of_getElem? (i := 1629) (by decide +kernel), List.mem_of_getElem? (i := 1630) (by decide +kernel)⟩
theorem lw_p116 : lw_okq (⟨"CampgroundModel", "nightsOf", "(I)J"⟩, 19) := ⟨⟨by decide +kernel, by decide +kernel⟩, List.mem_of_getElem? (i := 1204) (by decide +kernel), List.mem_of_getElem? (i := 1648) (by decide +kernel), List.mem_of_getElem? (i := 1649) (by decide +kernel)⟩
theorem lw_p117 : lw_okq (⟨"CampgroundModel", "nextToken", "()V"⟩, 19) := ⟨⟨by decide +kernel, by decide +kernel⟩, List.mem_of_getElem? (i := 1204) (by decide +kernel), List.mem_of_getElem? (i := 1675) (by decide +kernel), List.mem_of_getElem? (i := 1676) (by decide +kernel)⟩
theorem lw_p118 : lw_okq (⟨"CampgroundModel", "byteAt", "(I)I"⟩, 19) := ⟨⟨by decide +kernel, by decide +kernel⟩, List.mem_of_getElem? (i := 1204) (by decide +kernel), List.mem_of_getElem? (i := 1679) (by decide +kernel), List.mem_of_getElem? (i := 1680) (by decide +kernel)⟩
theorem lw_p119 : lw_okq (⟨"CampgroundModel", "parseStatement", "()V"⟩, 19) := ⟨⟨by decide +kernel, by decide +kernel⟩, List.mem_of_getElem? (i := 1204) (by decide +kernel), List.mem_of_getElem? (i := 1691) (by decide +kernel), List.mem_of_getElem? (i := 1692) (by decide +kernel)⟩
theorem lw_p120 : lw_okq (⟨"CampgroundModel", "isWord", "(Ljava/lang/String;)Z"⟩, 19) := ⟨⟨by decide +kernel, by decide +kernel⟩, List.mem_of_getElem? (i := 1204) (by decide +kernel), List.mem_of_getElem? (i := 1696) (by decide +kernel), List.mem_of_getElem? (i := 1697) (by decide +kernel)⟩
theorem lw_p121 : lw_okq (⟨"CampgroundModel", "parseClass", "()V"⟩, 19) := ⟨⟨by decide +kernel, by decide +kernel⟩, List.mem_of_getElem? (i := 1204) (by decide +kernel), List.mem_of_getElem? (i := 1702) (by decide +kernel), List.mem_of_getElem? (i := 1703) (by decide +kernel)⟩
theorem lw_p122 : lw_okq (⟨"CampgroundModel", "require", "(ZI)V"⟩, 19) := ⟨⟨by decide +kernel, by decide +kernel⟩, List.mem_of_getElem? (i := 1204) (by decide +kernel), List.mem_of_getElem? (i := 1706) (by decide +kernel), List.mem_of_getElem? (i := 1707) (by decide +kernel)⟩
theorem lw_p123 : lw_okq (⟨"CampgroundModel", "advanceToken", "()V"⟩, 19) := ⟨⟨by decide +kernel, by decide +kernel⟩, List.mem_of_getElem? (i := 1204) (by decide +kernel), List.mem_of_getElem? (i := 1710) (by decide +kernel), List.mem_of_getElem? (i := 1711) (by decide +kernel)⟩
theorem lw_p124 : lw_okq (⟨"CampgroundModel", "parseNumber", "(II)I"⟩, 19) := ⟨⟨by decide +kernel, by decide +kernel⟩, List.mem_of_getElem? (i := 1204) (by decide +kernel), List.mem_of_getElem? (i := 1714) (by decide +kernel), List.mem_of_getElem? (i := 1715) (by decide +kernel)⟩
theorem lw_p125 : lw_okq (⟨"CampgroundModel", "parseSites", "()V"⟩, 19) := ⟨⟨by decide +kernel, by decide +kernel⟩, List.mem_of_getElem? (i := 1204) (by decide +kernel), List.mem_of_getElem? (i := 1719) (by decide +kernel), List.mem_of_getElem? (i := 1720) (by decide +kernel)⟩
theorem lw_p126 : lw_okq (⟨"CampgroundModel", "parseSeason", "()V"⟩, 19) := ⟨⟨by decide +kernel, by decide +kernel⟩, List.mem_of_getElem? (i := 1204) (by decide +kernel), List.mem_of_getElem? (i := 1724) (by decide +kernel), List.mem_of_getElem? (i := 1725) (by decide +kernel)⟩
def lw_privs_8 : List (MethodName × Nat) := [(⟨"CampgroundModel", "nextBooking", "(I)I"⟩, 19), (⟨"CampgroundModel", "freeSite", "(II)I"⟩, 19), (⟨"CampgroundModel", "wrongPlan", "(II)I"⟩, 19), (⟨"CampgroundModel", "occupancy", "(IIIZ)I"⟩, 19), (⟨"CampgroundModel", "nightsOf", "(I)J"⟩, 19), (⟨"CampgroundModel", "nextToken", "()V"⟩, 19), (⟨"CampgroundModel", "byteAt", "(I)I"⟩, 19), (⟨"CampgroundModel", "parseStatement", "()V"⟩, 19), (⟨"CampgroundModel", "isWord", "(Ljava/lang/String;)Z"⟩, 19), (⟨"CampgroundModel", "parseClass", "()V"⟩, 19), (⟨"CampgroundModel", "require", "(ZI)V"⟩, 19), (⟨"CampgroundModel", "advanceToken", "()V"⟩, 19), (⟨"CampgroundModel", "parseNumber", "(II)I"⟩, 19), (⟨"CampgroundModel", "parseSites", "()V"⟩, 19), (⟨"CampgroundModel", "parseSeason", "()V"⟩, 19)]
theorem lw_r8 : ∀ q ∈ lw_privs_8, lw_okq q := List.forall_mem_cons.mpr ⟨lw_p112, List.forall_mem_cons.mpr ⟨lw_p113, List.forall_mem_cons.mpr ⟨lw_p114, List.forall_mem_cons.mpr ⟨lw_p115, List.forall_mem_cons.mpr ⟨lw_p116, List.forall_mem_cons.mpr ⟨lw_p117, List.forall_mem_cons.mpr ⟨lw_p118, List.forall_mem_cons.mpr ⟨lw_p119, List.forall_mem_cons.mpr ⟨lw_p120, List.forall_mem_cons.mpr ⟨lw_p121, List.forall_mem_cons.mpr ⟨lw_p122, List.forall_mem_cons.mpr ⟨lw_p123, List.forall_mem_cons.mpr ⟨lw_p124, List.forall_mem_cons.mpr ⟨lw_p125, List.forall_mem_cons.mpr ⟨lw_p126, fun _ h => absurd h List.not_mem_nil⟩⟩⟩⟩⟩⟩⟩⟩⟩⟩⟩⟩⟩⟩⟩
def lw_privs : List (MethodName × Nat) := lw_privs_1 ++ (lw_privs_2 ++ (lw_privs_3 ++ (lw_privs_4 ++ (lw_privs_5 ++ (lw_privs_6 ++ (lw_privs_7 ++ (lw_privs_8)))))))
def lw_tbl : List Cond := k2_sels lw_privs ++ tables_1
theorem lw_privs_ok : ∀ q ∈ lw_privs, lw_okq q := by
  show ∀ q ∈ lw_privs_1 ++ (lw_privs_2 ++ (lw_privs_3 ++ (lw_privs_4 ++ (lw_privs_5 ++ (lw_privs_6 ++ (lw_privs_7 ++ (lw_privs_8))))))), lw_okq q
  exact List.forall_mem_append.mpr ⟨lw_r1, List.forall_mem_append.mpr ⟨lw_r2, List.forall_mem_append.mpr ⟨lw_r3, List.forall_mem_append.mpr ⟨lw_r4, List.forall_mem_append.mpr ⟨lw_r5, List.forall_mem_append.mpr ⟨lw_r6, List.forall_mem_append.mpr ⟨lw_r7, lw_r8⟩⟩⟩⟩⟩⟩⟩
end
section
/-! ===== BEGIN words of one list among another's, by their places ===== -/
theorem goodIn_r {big : List Cond} (ws : List Cond) (ps : List Nat) (hp : ws = ps.filterMap (fun i => big[i]?)) (h : ws.all goodWord = true) : GoodIn big ws := by
  intro w hw
  have h1 := List.all_eq_true.mp h w hw
  rw [hp] at hw
  obtain ⟨i, -, hi⟩ := List.mem_filterMap.mp hw
  have hm : w ∈ big := by first | exact List.mem_of_getElem? hi | exact List.getElem?_mem hi
  exact ⟨hm, good_of_word h1⟩
theorem goodIn_app {big a b : List Cond} (ha : GoodIn big a) (hb : GoodIn big b) : GoodIn big (a ++ b) := fun w h => (List.mem_append.mp h).elim (ha w) (hb w)
theorem goodIn_ca {big a b : List Cond} {c : Cond} (ha : GoodIn big (c :: a)) (hb : GoodIn big b) : GoodIn big (c :: (a ++ b)) := fun w h => (List.mem_cons.mp h).elim (fun e => ha w (List.mem_cons.mpr (Or.inl e))) (fun h => (List.mem_append.mp h).elim (fun h => ha w (List.mem_cons.mpr (Or.inr h))) (hb w))
theorem goodIn_sub {big ws : List Cond} (hm : ∀ w ∈ ws, w ∈ big) (h : ws.all goodWord = true) : GoodIn big ws := fun w hw => ⟨hm w hw, good_of_word (List.all_eq_true.mp h w hw)⟩
/-! ===== END ===== -/

/-! ===== BEGIN exceptions that leave a method, and their catching by the caller (launches without stack traces) ===== -/
section VXA
/-! The laws vx_back, vx_callV, vx_callS, vx_callSW, vx_throw0, vx_throwS follow proofs of the library, with one case more: JvmDerived/Free/Laws.lean (Back.of_free), Shelf42/LK1.lean (callV, callS), Shelf/KitTraced.lean (throwNew0V, throwNewS). -/
/-- where a method has thrown q: the class by its name, the cell, what was written, the world -/
def vx_T (XC : String → State → State → Prop) (st : State) (q : Addr) (t : State) (mc ms : Nat) (free : Addr → Prop) : Prop :=
  ∃ (E : String) (ce : Cell) (L : List Loc), XC E st t ∧ t.heap[q]? = some ce ∧ ce.vm = .none ∧ st.vm.findClass E = some ce.cls ∧ st.WarmedH t.vm ∧ st.sameButNew ({ t with vm := st.vm } : State) L mc ms ∧ ∀ z ∈ L, free z.base
def vx_Q (Qc : Array Value → State → Outcome → State → Prop) (XC : String → State → State → Prop) (mc ms : Nat) (free : Addr → Prop) : Array Value → State → Outcome → State → Prop := fun a st o t =>
  (Qc a st o t ∧ ∃ L, FrameEnd st o t L mc ms ∧ ∀ q ∈ L, free q.base) ∨ ∃ q, o = .threw q ∧ vx_T XC st q t mc ms free
/-- a callee that returns or throws -/
def vx_Met (l : Launch) (y : MethodName) (ws : List Cond) (rm : Room) (Pc : Array Value → State → Prop) (Qc : Array Value → State → Outcome → State → Prop) (XC : String → State → State → Prop) (mc ms : Nat) (free : Addr → Prop) : Prop :=
  MetFree l y (headSpec ws rm) Pc (fun _ _ _ _ _ => True) (vx_Q Qc XC mc ms free)
def vx_Post (XC : String → State → State → Prop) (mc ms : Nat) (free : Addr → Prop) : Pt → Array Value → Addr → Pt → Prop := fun A a q B =>
  ∃ (g : JFrame) (mk : MethodId) (t : State) (L : List Loc) (E : String) (ce : Cell), B.U.heap = t.heap ∧ B.U.vm = t.vm ∧ XC E (A.U.calling g mk a) t ∧ t.heap[q]? = some ce ∧ ce.vm = .none ∧ A.U.vm.findClass E = some ce.cls ∧ B.locs = A.locs ++ L ∧ (∀ z ∈ L, free z.base) ∧ B.cells = A.cells + mc ∧ B.slots = A.slots + ms
def vx_Back (l : Launch) (R : Room) (p : Program) (e : Env) (below : List Frame) (s : State) (sargs : Array Value) (y : MethodName) (len W9 : Nat)
    (Pre : Pt → Array Value → Prop) (Post : Pt → Array Value → Option Value → Pt → Prop) (PostX : Pt → Array Value → Addr → Pt → Prop) : Prop :=
  ∀ (m : MethodId) (meth : Method) (c : Code) (A : Pt) (g : JFrame) (ig : Instr) (mk : MethodId) (a : Array Value),
    Stand p l e R s m sargs below meth c A.U A.locs A.cells A.slots → g.method = m → g.locals.size = c.maxLocals → decode c.code g.pc = .ok (ig, len) →
    2 * g.monitorRoom + (g.stack.map fun v => v.category).sum ≤ W9 → A.U.methodNamed? y = some mk → Pre A a →
    (∃ (v : Option Value) (B : Pt), Stand p l e R s m sargs below meth c B.U B.locs B.cells B.slots ∧ Post A a v B ∧
      Steps p.tables e below (doInvoke e (A.U.setTop g) [] mk a).1 (B.U.setTop { g with pc := g.pc + len, stack := v.toList ++ g.stack })) ∨
    (∃ (q : Addr) (B : Pt), Stand p l e R s m sargs below meth c B.U B.locs B.cells B.slots ∧ PostX A a q B ∧
      Steps p.tables e below (doInvoke e (A.U.setTop g) [] mk a).1 ((B.U.setTop g).pushFrame (.throwing q)))
section Payer
variable {l : Launch} {R : Room} {p : Program} {e : Env} {below : List Frame} {s : State} {sargs : Array Value} {y : MethodName} {len W9 : Nat}
theorem vx_back {ws : List Cond} {rm : Room} {Pc : Array Value → State → Prop} {Qc : Array Value → State → Outcome → State → Prop} {XC : String → State → State → Prop} {mc ms : Nat} {free : Addr → Prop} {bytes : ByteArray} {maxL : Nat} {ret : Option FieldType}
    (hM : vx_Met l y ws rm Pc Qc XC mc ms free) (hblind : FrameBlind Pc) (hrc : rm.cells = mc) (hrs : rm.slots = ms)
    (hframes : rm.frames + 1 ≤ R.frames) (hlocals : W9 + (maxL + 11) + rm.locals ≤ R.locals)
    (hws : ∀ w ∈ ws, ∀ a' U, s.WarmedH U.vm → w.before a' U = true) (hcode : Cond.code y bytes maxL ret ∈ ws) (hinit : ∀ a' U, s.WarmedH U.vm → (Cond.initialized y.cls).before a' U = true) :
    vx_Back l R p e below s sargs y len W9 (PreOf R mc ms Pc) (PostOf Qc mc ms free) (vx_Post XC mc ms free) := by
  intro m meth c A g ig mk a X hg hsize hdg hW hn hp
  have h1 : (headSpec ws rm).pre.before a A.U = true := atoms_intro fun w hw => hws w hw _ _ X.warmed
  have h2 : (Cond.code y bytes maxL ret).before a A.U = true := hws _ hcode _ _ X.warmed
  have h3 : (Cond.initialized y.cls).before a A.U = true := hinit _ _ X.warmed
  have h4 : A.cells + (headSpec ws rm).room.cells ≤ R.cells := by rw [show (headSpec ws rm).room.cells = mc from hrc]; exact hp.1
  have h5 : A.slots + (headSpec ws rm).room.slots ≤ R.slots := by rw [show (headSpec ws rm).room.slots = ms from hrs]; exact hp.2.1
  have hPc : Pc a (A.U.calling g mk a) := hblind _ _ _ _ hp.2.2
  obtain ⟨U, Ls, c0, s0⟩ := A
  dsimp only [Pt.U, Pt.locs, Pt.cells, Pt.slots] at h1 h2 h3 h4 h5 X hn hPc ⊢
  obtain ⟨methY, cY, hmY, hcY, -, hlY, -, -, -, -⟩ := Cond.code_spec hn h2
  obtain ⟨kY, hkY, -⟩ := className_of_methodNamed hn
  have hinitY : kY.init = .initialized := Cond.initialized_spec (findClass_of_methodNamed hn) hkY h3
  have h : At U g.method c below := by rw [hg]; exact X.here
  have hlocals9 : W9 + (maxL + 11) + (headSpec ws rm).room.locals ≤ R.locals := hlocals
  have happ : (headSpec ws rm).appliesLoose y e.platform (U.calling g mk a) = true :=
    Spec.appliesLoose_calling (g := g) h hdg hn hkY hinitY
      (X.room_calling (g := g) (R' := (headSpec ws rm).room) hsize hmY hcY hframes (by rw [hlY]; omega) h4 h5) h1
  obtain ⟨mid, hmid⟩ := h.above
  have hfr : (U.setTop g).frames = (.java g :: mid) ++ below := by rw [State.frames_setTop' g h.top, hmid]; rfl
  obtain ⟨o, s₂, hsteps, -, hend, hq⟩ := Steps.callFree hM p X.admits X.cas X.clock (acts := []) hfr happ hPc trivial
  have hq' : vx_Q Qc XC mc ms free a (U.calling g mk a) o s₂ := hq
  rw [State.frames_setTop' g h.top] at hend
  obtain ⟨g₀, hg0⟩ := Option.isSome_iff_exists.mp h.top
  obtain ⟨r, hr⟩ := State.topJava?_eq_some.mp hg0
  have hr' : (({ U with heap := s₂.heap, slotsUsed := s₂.slotsUsed } : State).setVm s₂.vm).frames = .java g₀ :: r := hr
  rcases hq' with ⟨hqc, L, hfe, hL⟩ | ⟨q, rfl, E, ce, L, hx, hce, hcv, hcl, hW₂, hsm, hL⟩
  · obtain ⟨⟨v, rfl⟩, hW₂, e2, q2, q3, q4, q5, q6⟩ := id hfe
    have e3 : s₂ = ({ (U.calling g mk a).setFrames s₂.frames with heap := s₂.heap, slotsUsed := s₂.slotsUsed } : State).setVm s₂.vm := by
      have : s₂ = ({ s₂ with vm := (U.calling g mk a).vm } : State).setVm s₂.vm := rfl
      rw [e2] at this
      exact this
    obtain ⟨c₂, i₂, len₂, hc₂, hd₂, hf₂⟩ := hend
    have hW' : U.WarmedH s₂.vm := hW₂
    have hcc : c₂ = c := by
      have h1 : s₂.code? g.method = U.code? g.method := by
        rw [State.code?_eq, State.code?_eq, hW'.alike.method?]
      exact Option.some.inj (hc₂.symm.trans (h1.trans h.code))
    subst hcc
    have hlen : len₂ = len := by rw [hdg] at hd₂; cases hd₂; rfl
    subst hlen
    have hs₂ : s₂ = (({ U with heap := s₂.heap, slotsUsed := s₂.slotsUsed } : State).setVm s₂.vm).setTop { g with pc := g.pc + len₂, stack := v.toList ++ g.stack } := by
      refine e3.trans ?_
      rw [hf₂, State.calling_eq h.top, State.setFrames_setFrames, State.setTop_of_frames _ hr', hr]
      rfl
    have hsame : U.sameButNew ({ U with heap := s₂.heap, slotsUsed := s₂.slotsUsed } : State) L mc ms := by
      refine ⟨?_, q2, q3, q4, q5, q6⟩
      obtain ⟨t, ht, -⟩ := State.frames_cons hr
      show ({ U with heap := s₂.heap, slotsUsed := s₂.slotsUsed } : State) = { U.setFrames U.frames with heap := s₂.heap, slotsUsed := s₂.slotsUsed }
      rw [State.setFrames_self ht]
    subst hg
    refine Or.inl ⟨v, ⟨(({ U with heap := s₂.heap, slotsUsed := s₂.slotsUsed } : State).setVm s₂.vm), Ls ++ L, c0 + mc, s0 + ms⟩,
      ⟨X.admits, X.cas, X.clock, X.frames, X.room, X.hears, X.method, X.code, (X.here.setHeapUsed s₂.heap s₂.slotsUsed).setVm hW'.alike, X.tail, State.WarmedH.trans X.warmed hW', X.limits, X.bytes, X.same.trans (hsame.setVm s.vm)⟩,
      ⟨g, mk, s₂, L, rfl, rfl, hqc, rfl, hL, rfl, rfl⟩, ?_⟩
    show Steps p.tables e below _ ((({ U with heap := s₂.heap, slotsUsed := s₂.slotsUsed } : State).setVm s₂.vm).setTop { g with pc := g.pc + len₂, stack := v.toList ++ g.stack })
    rw [← hs₂]
    exact hsteps
  · obtain ⟨e2, q2, q3, q4, q5, q6⟩ := id hsm
    have e3 : s₂ = ({ (U.calling g mk a).setFrames s₂.frames with heap := s₂.heap, slotsUsed := s₂.slotsUsed } : State).setVm s₂.vm := by
      have : s₂ = ({ s₂ with vm := (U.calling g mk a).vm } : State).setVm s₂.vm := rfl
      rw [e2] at this
      exact this
    have hf₂ : s₂.frames = .throwing q :: .java g :: U.frames.tail := hend
    have hW' : U.WarmedH s₂.vm := hW₂
    have hs₂ : s₂ = ((({ U with heap := s₂.heap, slotsUsed := s₂.slotsUsed } : State).setVm s₂.vm).setTop g).pushFrame (.throwing q) := by
      refine e3.trans ?_
      rw [hf₂, State.calling_eq h.top, State.setFrames_setFrames, State.pushFrame, State.frames_setTop _ hr', State.setTop_of_frames _ hr', State.setFrames_setFrames, hr]
      rfl
    have hsame : U.sameButNew ({ U with heap := s₂.heap, slotsUsed := s₂.slotsUsed } : State) L mc ms := by
      refine ⟨?_, q2, q3, q4, q5, q6⟩
      obtain ⟨t, ht, -⟩ := State.frames_cons hr
      show ({ U with heap := s₂.heap, slotsUsed := s₂.slotsUsed } : State) = { U.setFrames U.frames with heap := s₂.heap, slotsUsed := s₂.slotsUsed }
      rw [State.setFrames_self ht]
    subst hg
    refine Or.inr ⟨q, ⟨(({ U with heap := s₂.heap, slotsUsed := s₂.slotsUsed } : State).setVm s₂.vm), Ls ++ L, c0 + mc, s0 + ms⟩,
      ⟨X.admits, X.cas, X.clock, X.frames, X.room, X.hears, X.method, X.code, (X.here.setHeapUsed s₂.heap s₂.slotsUsed).setVm hW'.alike, X.tail, State.WarmedH.trans X.warmed hW', X.limits, X.bytes, X.same.trans (hsame.setVm s.vm)⟩,
      ⟨g, mk, s₂, L, E, ce, rfl, rfl, hx, hce, hcv, hcl, rfl, hL, rfl, rfl⟩, ?_⟩
    show Steps p.tables e below _ (((({ U with heap := s₂.heap, slotsUsed := s₂.slotsUsed } : State).setVm s₂.vm).setTop g).pushFrame (.throwing q))
    rw [← hs₂]
    exact hsteps
end Payer
section Calls
variable {p : Program} {l : Launch} {e : Env} {R : Room} {s : State} {m : MethodId} {args : Array Value} {below : List Frame} {meth : Method} {c : Code} {T : State} {locs : List Loc} {cells slots : Nat}
theorem vx_callV (X : Stand p l e R s m args below meth c T locs cells slots) (hexec : p.tables.exec = Jvm.exec) {own C : String} {index : Nat} {y : MethodName} {bytes : ByteArray} {maxL : Nat} {ret : Option FieldType}
    (hown : s.vm.findClass own = some m.cls) (hlink : (Cond.methodLink own index y).before args s = true) (hinst : (Cond.instanceMethod y).before args s = true) (hsel : (Cond.selects C y y).before args s = true)
    (hcode : (Cond.code y bytes maxL ret).before args s = true) (hy : y.cls ≠ "java/lang/invoke/MethodHandle" ∧ y.cls ≠ "java/lang/invoke/VarHandle")
    {W9 : Nat} {Pre : Pt → Array Value → Prop} {Post : Pt → Array Value → Option Value → Pt → Prop} {PostX : Pt → Array Value → Addr → Pt → Prop} (hK : vx_Back l R p e below s args y 3 W9 Pre Post PostX)
    {b : Addr} {cellB : Cell} (hcell : T.heap[b]? = some cellB) (hobj : cellB.vm.isStatics = false) (hcls : s.vm.findClass C = some cellB.cls)
    {g : JFrame} (hg : g.method = m) (hsize : g.locals.size = c.maxLocals) {argsL rest : List Value} (hlen : ∀ sig, parseMethodDescriptor y.desc = some sig → argsL.length = sig.parameters.length)
    (hstack : g.stack = argsL.reverse ++ .ref b :: rest) (hW : 2 * g.monitorRoom + (rest.map fun v => v.category).sum ≤ W9) (hdg : decode c.code g.pc = .ok (.invokevirtual index, 3))
    (hpre : ∀ vm₁, s.WarmedH vm₁ → Pre ⟨T.setVm vm₁, locs, cells, slots⟩ (Value.ref b :: argsL).toArray) :
    (∃ (v : Option Value) (vm₁ : Vm) (B : Pt), s.WarmedH vm₁ ∧ Stand p l e R s m args below meth c B.U B.locs B.cells B.slots ∧ Post ⟨T.setVm vm₁, locs, cells, slots⟩ (Value.ref b :: argsL).toArray v B ∧
      ∀ target, Steps p.tables e below (B.U.setTop { g with pc := g.pc + 3, stack := v.toList ++ rest }) target → Steps p.tables e below (T.setTop g) target) ∨
    (∃ (q : Addr) (vm₁ : Vm) (B : Pt), s.WarmedH vm₁ ∧ Stand p l e R s m args below meth c B.U B.locs B.cells B.slots ∧ PostX ⟨T.setVm vm₁, locs, cells, slots⟩ (Value.ref b :: argsL).toArray q B ∧
      Steps p.tables e below (T.setTop g) ((B.U.setTop { g with stack := rest }).pushFrame (.throwing q))) := by
  obtain ⟨mk, methM, hnamed, hmethM, hstM, habM⟩ := Cond.instanceMethod_spec hinst
  obtain ⟨methM', cM, hmethM', -, -, -, -, -, -, hsigM⟩ := Cond.code_spec hnamed hcode
  cases hmethM.symm.trans hmethM'
  obtain ⟨c2, r2, m2, q1, q2, q3, q4, kP, hkP, hkPi⟩ := Cond.selects_spec hsel
  cases hcls.symm.trans q1
  cases (State.methodFound?_of_named hnamed hy).symm.trans q2
  cases hnamed.symm.trans q3
  have hselP : selectMethod e.platform s.vm cellB.cls mk = .method mk := by rw [Launch.admits_selectMethod X.admits]; exact q4
  obtain ⟨vm₁, X₁, hstep₁⟩ := X.invokevirtual hexec hown hlink hnamed hmethM hstM hkP hkPi hy (a := b) (cell := cellB) hcell
    (fun z h => by rw [h] at hobj; cases hobj) hselP hmethM habM hkP hkPi (g := g) hg (argsL := argsL) (rest := rest) (hlen _ hsigM) hstack hdg
  rcases hK m meth c ⟨T.setVm vm₁, locs, cells, slots⟩ { g with stack := rest } (.invokevirtual index) mk (Value.ref b :: argsL).toArray X₁ hg hsize hdg hW (X₁.named hnamed) (hpre vm₁ X₁.warmed) with ⟨v, B, X', hpost, hsteps⟩ | ⟨q, B, X', hpost, hsteps⟩
  · exact Or.inl ⟨v, vm₁, B, X₁.warmed, X', hpost, fun target h => hstep₁ _ fun acts => by rw [doInvoke_state]; exact hsteps.trans h⟩
  · exact Or.inr ⟨q, vm₁, B, X₁.warmed, X', hpost, hstep₁ _ fun acts => by rw [doInvoke_state]; exact hsteps⟩
theorem vx_callS (X : Stand p l e R s m args below meth c T locs cells slots) (hexec : p.tables.exec = Jvm.exec) {own : String} {index : Nat} {y : MethodName} {bytes : ByteArray} {maxL : Nat} {ret : Option FieldType}
    (hown : s.vm.findClass own = some m.cls) (hlink : (Cond.methodLink own index y).before args s = true) (hstat : (Cond.static y).before args s = true) (hinit : (Cond.initialized y.cls).before args s = true)
    (hcode : (Cond.code y bytes maxL ret).before args s = true) (hy : y.cls ≠ "java/lang/invoke/MethodHandle" ∧ y.cls ≠ "java/lang/invoke/VarHandle")
    {W9 : Nat} {Pre : Pt → Array Value → Prop} {Post : Pt → Array Value → Option Value → Pt → Prop} {PostX : Pt → Array Value → Addr → Pt → Prop} (hK : vx_Back l R p e below s args y 3 W9 Pre Post PostX)
    {g : JFrame} (hg : g.method = m) (hsize : g.locals.size = c.maxLocals) {argsL rest : List Value} (hlen : ∀ sig, parseMethodDescriptor y.desc = some sig → argsL.length = sig.parameters.length)
    (hstack : g.stack = argsL.reverse ++ rest) (hW : 2 * g.monitorRoom + (rest.map fun v => v.category).sum ≤ W9) (hdg : decode c.code g.pc = .ok (.invokestatic index, 3))
    (hpre : ∀ vm₁, s.WarmedH vm₁ → Pre ⟨T.setVm vm₁, locs, cells, slots⟩ argsL.toArray) :
    (∃ (v : Option Value) (vm₁ : Vm) (B : Pt), s.WarmedH vm₁ ∧ Stand p l e R s m args below meth c B.U B.locs B.cells B.slots ∧ Post ⟨T.setVm vm₁, locs, cells, slots⟩ argsL.toArray v B ∧
      ∀ target, Steps p.tables e below (B.U.setTop { g with pc := g.pc + 3, stack := v.toList ++ rest }) target → Steps p.tables e below (T.setTop g) target) ∨
    (∃ (q : Addr) (vm₁ : Vm) (B : Pt), s.WarmedH vm₁ ∧ Stand p l e R s m args below meth c B.U B.locs B.cells B.slots ∧ PostX ⟨T.setVm vm₁, locs, cells, slots⟩ argsL.toArray q B ∧
      Steps p.tables e below (T.setTop g) ((B.U.setTop { g with stack := rest }).pushFrame (.throwing q))) := by
  obtain ⟨mk, hnamed⟩ := Cond.code_named hcode
  obtain ⟨methM, cM, hmethM, -, -, -, -, -, -, hsigM⟩ := Cond.code_spec hnamed hcode
  have hstatic : methM.isStatic = true := Cond.static_spec hnamed hmethM hstat
  obtain ⟨kP, hkP, -⟩ := className_of_methodNamed hnamed
  have hinitP : kP.init = .initialized := Cond.initialized_spec (findClass_of_methodNamed hnamed) hkP hinit
  obtain ⟨vm₁, X₁, hstep₁⟩ := X.invokestatic hexec hown hlink hnamed hmethM hstatic hkP hinitP hy (g := g) hg (argsL := argsL) (rest := rest) (hlen _ hsigM) hstack hdg
  rcases hK m meth c ⟨T.setVm vm₁, locs, cells, slots⟩ { g with stack := rest } (.invokestatic index) mk argsL.toArray X₁ hg hsize hdg hW (X₁.named hnamed) (hpre vm₁ X₁.warmed) with ⟨v, B, X', hpost, hsteps⟩ | ⟨q, B, X', hpost, hsteps⟩
  · exact Or.inl ⟨v, vm₁, B, X₁.warmed, X', hpost, fun target h => hstep₁ _ fun acts => by rw [doInvoke_state]; exact hsteps.trans h⟩
  · exact Or.inr ⟨q, vm₁, B, X₁.warmed, X', hpost, hstep₁ _ fun acts => by rw [doInvoke_state]; exact hsteps⟩
end Calls
theorem vx_cls {s : State} {T : State} {vm₁ : Vm} {E : String} {k : ClassId} (hW : s.WarmedH vm₁) (h : (T.setVm vm₁).vm.findClass E = some k) : s.vm.findClass E = some k := by
  have h1 : vm₁.findClass E = some k := h
  rw [hW.alike.findClass] at h1
  exact h1
/-- the method's frame g, with q thrown over it -/
def vx_W (p : Program) (l : Launch) (e : Env) (R : Room) (s : State) (m : MethodId) (args : Array Value) (below : List Frame) (meth : Method) (c : Code) (H : Heap) (locs : List Loc) (cells slots : Nat) (Q : State → Prop) (g : JFrame) (q : Addr) : Prop :=
  ∀ T : State, T.heap = H → Stand p l e R s m args below meth c T locs cells slots → ∃ t, Steps p.tables e below ((T.setTop g).pushFrame (.throwing q)) t ∧ Q t
def vx_Run (p : Program) (l : Launch) (e : Env) (R : Room) (s : State) (m : MethodId) (args : Array Value) (below : List Frame) (meth : Method) (c : Code) (H : Heap) (locs : List Loc) (cells slots mc ms : Nat) (g : JFrame) (rest : List Value) (Qa : State → Outcome → State → Prop) (XC : String → State → State → Prop) (free : Addr → Prop) : Prop :=
  ∀ T : State, T.heap = H → Stand p l e R s m args below meth c T locs cells slots →
    (∃ (v : Option Value) (st₀ t T' : State) (L : List Loc), st₀.heap = H ∧ Stand p l e R s m args below meth c T' (locs ++ L) (cells + mc) (slots + ms) ∧ (∀ q ∈ L, free q.base) ∧ T'.heap = t.heap ∧ T'.vm = t.vm ∧ Qa st₀ (.returned v) t ∧
      Goes p e below T g T' { g with pc := g.pc + 3, stack := v.toList ++ rest }) ∨
    (∃ (q : Addr) (st₀ t T' : State) (L : List Loc) (E : String) (ce : Cell), st₀.heap = H ∧ Stand p l e R s m args below meth c T' (locs ++ L) (cells + mc) (slots + ms) ∧ (∀ z ∈ L, free z.base) ∧ T'.heap = t.heap ∧ T'.vm = t.vm ∧ XC E st₀ t ∧ t.heap[q]? = some ce ∧ ce.vm = .none ∧ s.vm.findClass E = some ce.cls ∧
      Steps p.tables e below (T.setTop g) ((T'.setTop { g with stack := rest }).pushFrame (.throwing q)))
def vx_X {S : Type} (px : S → Prop) (B : String → S → State → Prop) (A : Nat → Prop) : String → State → State → Prop := fun E st t => ∃ u : S, px u ∧ B E u t ∧ va_F A st t
section Runs
variable {p : Program} {l : Launch} {e : Env} {R : Room} {s : State} {m : MethodId} {args : Array Value} {below : List Frame} {meth : Method} {c : Code} {H : Heap} {locs : List Loc} {cells slots : Nat}
variable {y : MethodName} {bytes cc : ByteArray} {maxL nL mc ms n index : Nat} {ret : Option FieldType} {ws : List Cond} {rm : Room} {Pc : Array Value → State → Prop} {Qc : Array Value → State → Outcome → State → Prop} {XC : String → State → State → Prop} {free : Addr → Prop} {Ts : List Cond} {own C : String} {b : Addr} {As rest : List Value} {g : JFrame}
theorem vx_callBack (cb : CallB R s args own index y bytes maxL ret ws rm mc ms n) (hM : vx_Met l y ws rm Pc Qc XC mc ms free) (hbl : FrameBlind Pc) : vx_Back l R p e below s args y 3 8 (PreOf R mc ms Pc) (PostOf Qc mc ms free) (vx_Post XC mc ms free) := by
  obtain ⟨hrc, hrs, hfr, hlo, hws, hcw, -, hini, -⟩ := cb
  exact vx_back (bytes := bytes) (maxL := maxL) (ret := ret) hM hbl hrc hrs hfr hlo hws hcw (fun a' U hW => word_at hW (Or.inl (by first | rfl | simp [Cond.onTables, Cond.keeps, Cond.steady])) hini)
theorem vx_runV (S : CallFix p m c cc nL s args Ts own) (hM : vx_Met l y ws rm Pc Qc XC mc ms free) (cw : CallW R s args own C index y bytes maxL ret ws rm mc ms n) (hp : PreV s H C b Pc As)
    (hg : g.method = m) (hn : As.length = n) (hsize : g.locals.size = nL) (hstack : g.stack = As.reverse ++ .ref b :: rest) (hW : 2 * g.monitorRoom + (rest.map fun v => v.category).sum ≤ 8) (hdg : decode cc g.pc = .ok (.invokevirtual index, 3)) (hf : cells + mc ≤ R.cells ∧ slots + ms ≤ R.slots) :
    vx_Run p l e R s m args below meth c H locs cells slots mc ms g rest (Qc (Value.ref b :: As).toArray) XC free := by
  have hK : vx_Back l R p e below s args y 3 8 (PreOf R mc ms Pc) (PostOf Qc mc ms free) (vx_Post XC mc ms free) := vx_callBack cw.1 hM hp.1
  obtain ⟨⟨-, -, -, -, -, -, hcode, -, hy, hlen, hl⟩, hin, hse⟩ := cw
  obtain ⟨hx, hb, hml, ho, -⟩ := S
  obtain ⟨-, ⟨cellB, hcB, hoB, hclB⟩, hPc⟩ := hp
  intro T hT X
  rcases vx_callV X hx (C := C) (bytes := bytes) (maxL := maxL) (ret := ret) ho hl hin hse hcode hy hK (by rw [hT]; exact hcB) hoB hclB hg (hsize.trans hml.symm) (argsL := As) (rest := rest) (fun sig h => hn.trans (hlen sig h)) hstack hW (by rw [hb]; exact hdg)
    (fun vm₁ hW₁ => ⟨hf.1, hf.2, hPc (T.setVm vm₁) hT hW₁⟩) with ⟨v, vm₁, ⟨U', l2, c2, s2⟩, hW₁, X', ⟨g', mk, t, L, e1, e2, hq, h1, hL, h2, h3⟩, st⟩ | ⟨q, vm₁, ⟨U', l2, c2, s2⟩, hW₁, X', ⟨g', mk, t, L, E, ce, e1, e2, hq, hce, hcv, hcl, h1, hL, h2, h3⟩, st⟩
  · dsimp only [Pt.U, Pt.locs, Pt.cells, Pt.slots] at X' e1 e2 h1 h2 h3 st
    subst h1; subst h2; subst h3
    exact Or.inl ⟨v, (T.setVm vm₁).calling g' mk (Value.ref b :: As).toArray, t, U', L, hT, X', hL, e1, e2, hq, st⟩
  · dsimp only [Pt.U, Pt.locs, Pt.cells, Pt.slots] at X' e1 e2 h1 h2 h3 st hcl
    subst h1; subst h2; subst h3
    exact Or.inr ⟨q, (T.setVm vm₁).calling g' mk (Value.ref b :: As).toArray, t, U', L, E, ce, hT, X', hL, e1, e2, hq, hce, hcv, vx_cls hW₁ hcl, st⟩
theorem vx_runS (S : CallFix p m c cc nL s args Ts own) (hM : vx_Met l y ws rm Pc Qc XC mc ms free) (cw : CallB R s args own index y bytes maxL ret ws rm mc ms n ∧ (Cond.static y).before args s = true) (hp : PreS s H Pc As)
    (hg : g.method = m) (hn : As.length = n) (hsize : g.locals.size = nL) (hstack : g.stack = As.reverse ++ rest) (hW : 2 * g.monitorRoom + (rest.map fun v => v.category).sum ≤ 8) (hdg : decode cc g.pc = .ok (.invokestatic index, 3)) (hf : cells + mc ≤ R.cells ∧ slots + ms ≤ R.slots) :
    vx_Run p l e R s m args below meth c H locs cells slots mc ms g rest (Qc As.toArray) XC free := by
  have hK : vx_Back l R p e below s args y 3 8 (PreOf R mc ms Pc) (PostOf Qc mc ms free) (vx_Post XC mc ms free) := vx_callBack cw.1 hM hp.1
  obtain ⟨⟨-, -, -, -, -, -, hcode, hini, hy, hlen, hl⟩, hstt⟩ := cw
  obtain ⟨hx, hb, hml, ho, -⟩ := S
  intro T hT X
  rcases vx_callS X hx (bytes := bytes) (maxL := maxL) (ret := ret) ho hl hstt hini hcode hy hK hg (hsize.trans hml.symm) (argsL := As) (rest := rest) (fun sig h => hn.trans (hlen sig h)) hstack hW (by rw [hb]; exact hdg)
    (fun vm₁ hW₁ => ⟨hf.1, hf.2, hp.2 (T.setVm vm₁) hT hW₁⟩) with ⟨v, vm₁, ⟨U', l2, c2, s2⟩, hW₁, X', ⟨g', mk, t, L, e1, e2, hq, h1, hL, h2, h3⟩, st⟩ | ⟨q, vm₁, ⟨U', l2, c2, s2⟩, hW₁, X', ⟨g', mk, t, L, E, ce, e1, e2, hq, hce, hcv, hcl, h1, hL, h2, h3⟩, st⟩
  · dsimp only [Pt.U, Pt.locs, Pt.cells, Pt.slots] at X' e1 e2 h1 h2 h3 st
    subst h1; subst h2; subst h3
    exact Or.inl ⟨v, (T.setVm vm₁).calling g' mk As.toArray, t, U', L, hT, X', hL, e1, e2, hq, st⟩
  · dsimp only [Pt.U, Pt.locs, Pt.cells, Pt.slots] at X' e1 e2 h1 h2 h3 st hcl
    subst h1; subst h2; subst h3
    exact Or.inr ⟨q, (T.setVm vm₁).calling g' mk As.toArray, t, U', L, E, ce, hT, X', hL, e1, e2, hq, hce, hcv, vx_cls hW₁ hcl, st⟩
end Runs
section Rows
variable {p : Program} {l : Launch} {e : Env} {R : Room} {s : State} {m : MethodId} {args : Array Value} {below : List Frame} {meth : Method} {c : Code} {H : Heap} {locs : List Loc} {cells slots : Nat} {Q : State → Prop}
variable {mc ms : Nat} {free : Addr → Prop} {A0 A1 : Nat → Prop} {H0 : Heap} {a : Array Value} {pc : Nat} {ls : Array Slot} {st0 rest : List Value}
theorem vx_keep {st₀ t T' : State} {L : List Loc} (h0 : st₀.heap = H) (e1 : T'.heap = t.heap) (hS : va_S A0 H0 H locs) (hA : ∀ q, q < H.size → A1 q → A0 q) (hf : ∀ q, free q → A0 q) (hL : ∀ q ∈ L, free q.base) (hF : va_F A1 st₀ t) :
    H.size ≤ T'.heap.size ∧ (∀ q : Nat, q < H.size → ¬ A1 q → T'.heap[q]? = H[q]?) ∧ va_S A0 H0 T'.heap (locs ++ L) := by
  obtain ⟨hz, hk⟩ := hF
  rw [h0] at hz hk
  exact ⟨by rw [e1]; exact hz, fun q h1 h2 => by rw [e1]; exact hk q h1 h2,
    ⟨Nat.le_trans hS.1 (by rw [e1]; exact hz), fun q h1 h2 => by rw [e1, hk q (Nat.lt_of_lt_of_le h1 hS.1) (fun z => h2 (hA q (Nat.lt_of_lt_of_le h1 hS.1) z))]; exact hS.2.1 q h1 h2, fun q hq => by
      rcases List.mem_append.mp hq with h | h
      · exact hS.2.2 q h
      · exact hf _ (hL q h)⟩⟩
theorem vx_calli {S SX : Type} {post : Int32 → S → Prop} {px : SX → Prop} {B : S → State → Prop} {BX : String → SX → State → Prop} {AX : Nat → Prop} (hr : vx_Run p l e R s m args below meth c H locs cells slots mc ms (F0 m pc ls st0) rest (va_Qi post B A1 a) (vx_X px BX AX) free) (hS : va_S A0 H0 H locs) (hA : ∀ q, q < H.size → A1 q → A0 q) (hf : ∀ q, free q → A0 q) (hAX : ∀ q, q < H.size → AX q → A0 q)
    (kx : ∀ (E : String) (ce : Cell) (q9 : Addr) (u : SX) (t : State) (H1 : Heap) (locs1 : List Loc), t.heap = H1 → s.vm.Alike t.vm → px u → BX E u t → H.size ≤ H1.size → (∀ q : Nat, q < H.size → ¬ AX q → H1[q]? = H[q]?) → va_S A0 H0 H1 locs1 → H1[q9]? = some ce → ce.vm = .none → s.vm.findClass E = some ce.cls → vx_W p l e R s m args below meth c H1 locs1 (cells + mc) (slots + ms) Q (F0 m pc ls rest) q9)
    (kk : ∀ (r : Int32) (u : S) (t : State) (H1 : Heap) (locs1 : List Loc), t.heap = H1 → s.vm.Alike t.vm → post r u → B u t → H.size ≤ H1.size → (∀ q : Nat, q < H.size → ¬ A1 q → H1[q]? = H[q]?) → va_S A0 H0 H1 locs1 → W p l e R s m args below meth c H1 locs1 (cells + mc) (slots + ms) Q (F0 m (pc + 3) ls (.int r :: rest))) : W p l e R s m args below meth c H locs cells slots Q (F0 m pc ls st0) := by
  intro T hT X
  rcases hr T hT X with ⟨v, st₀, t, T', L, h0, X', hL, e1, e2, ⟨⟨r, u, hv, hp, hb⟩, hF⟩, st⟩ | ⟨q, st₀, t, T', L, E, ce, h0, X', hL, e1, e2, ⟨u, hp, hb, hF⟩, hce, hcv, hcl, st⟩
  · cases hv
    obtain ⟨k1, k2, k3⟩ := vx_keep h0 e1 hS hA hf hL hF
    obtain ⟨t2, a1, b1⟩ := kk r u t T'.heap (locs ++ L) e1.symm (by rw [← e2]; exact X'.warmed.alike) hp hb k1 k2 k3 T' rfl X'
    exact ⟨t2, st t2 a1, b1⟩
  · obtain ⟨k1, k2, k3⟩ := vx_keep h0 e1 hS hAX hf hL hF
    obtain ⟨t2, a1, b1⟩ := kx E ce q u t T'.heap (locs ++ L) e1.symm (by rw [← e2]; exact X'.warmed.alike) hp hb k1 k2 k3 (by rw [e1]; exact hce) hcv hcl T' rfl X'
    exact ⟨t2, st.trans a1, b1⟩
theorem vx_calll {S SX : Type} {post : Int64 → S → Prop} {px : SX → Prop} {B : S → State → Prop} {BX : String → SX → State → Prop} {AX : Nat → Prop} (hr : vx_Run p l e R s m args below meth c H locs cells slots mc ms (F0 m pc ls st0) rest (va_Ql post B A1 a) (vx_X px BX AX) free) (hS : va_S A0 H0 H locs) (hA : ∀ q, q < H.size → A1 q → A0 q) (hf : ∀ q, free q → A0 q) (hAX : ∀ q, q < H.size → AX q → A0 q)
    (kx : ∀ (E : String) (ce : Cell) (q9 : Addr) (u : SX) (t : State) (H1 : Heap) (locs1 : List Loc), t.heap = H1 → s.vm.Alike t.vm → px u → BX E u t → H.size ≤ H1.size → (∀ q : Nat, q < H.size → ¬ AX q → H1[q]? = H[q]?) → va_S A0 H0 H1 locs1 → H1[q9]? = some ce → ce.vm = .none → s.vm.findClass E = some ce.cls → vx_W p l e R s m args below meth c H1 locs1 (cells + mc) (slots + ms) Q (F0 m pc ls rest) q9)
    (kk : ∀ (r : Int64) (u : S) (t : State) (H1 : Heap) (locs1 : List Loc), t.heap = H1 → s.vm.Alike t.vm → post r u → B u t → H.size ≤ H1.size → (∀ q : Nat, q < H.size → ¬ A1 q → H1[q]? = H[q]?) → va_S A0 H0 H1 locs1 → W p l e R s m args below meth c H1 locs1 (cells + mc) (slots + ms) Q (F0 m (pc + 3) ls (.long r :: rest))) : W p l e R s m args below meth c H locs cells slots Q (F0 m pc ls st0) := by
  intro T hT X
  rcases hr T hT X with ⟨v, st₀, t, T', L, h0, X', hL, e1, e2, ⟨⟨r, u, hv, hp, hb⟩, hF⟩, st⟩ | ⟨q, st₀, t, T', L, E, ce, h0, X', hL, e1, e2, ⟨u, hp, hb, hF⟩, hce, hcv, hcl, st⟩
  · cases hv
    obtain ⟨k1, k2, k3⟩ := vx_keep h0 e1 hS hA hf hL hF
    obtain ⟨t2, a1, b1⟩ := kk r u t T'.heap (locs ++ L) e1.symm (by rw [← e2]; exact X'.warmed.alike) hp hb k1 k2 k3 T' rfl X'
    exact ⟨t2, st t2 a1, b1⟩
  · obtain ⟨k1, k2, k3⟩ := vx_keep h0 e1 hS hAX hf hL hF
    obtain ⟨t2, a1, b1⟩ := kx E ce q u t T'.heap (locs ++ L) e1.symm (by rw [← e2]; exact X'.warmed.alike) hp hb k1 k2 k3 (by rw [e1]; exact hce) hcv hcl T' rfl X'
    exact ⟨t2, st.trans a1, b1⟩
theorem vx_callf {S SX : Type} {post : UInt32 → S → Prop} {px : SX → Prop} {B : S → State → Prop} {BX : String → SX → State → Prop} {AX : Nat → Prop} (hr : vx_Run p l e R s m args below meth c H locs cells slots mc ms (F0 m pc ls st0) rest (va_Qf post B A1 a) (vx_X px BX AX) free) (hS : va_S A0 H0 H locs) (hA : ∀ q, q < H.size → A1 q → A0 q) (hf : ∀ q, free q → A0 q) (hAX : ∀ q, q < H.size → AX q → A0 q)
    (kx : ∀ (E : String) (ce : Cell) (q9 : Addr) (u : SX) (t : State) (H1 : Heap) (locs1 : List Loc), t.heap = H1 → s.vm.Alike t.vm → px u → BX E u t → H.size ≤ H1.size → (∀ q : Nat, q < H.size → ¬ AX q → H1[q]? = H[q]?) → va_S A0 H0 H1 locs1 → H1[q9]? = some ce → ce.vm = .none → s.vm.findClass E = some ce.cls → vx_W p l e R s m args below meth c H1 locs1 (cells + mc) (slots + ms) Q (F0 m pc ls rest) q9)
    (kk : ∀ (r : UInt32) (u : S) (t : State) (H1 : Heap) (locs1 : List Loc), t.heap = H1 → s.vm.Alike t.vm → post r u → B u t → H.size ≤ H1.size → (∀ q : Nat, q < H.size → ¬ A1 q → H1[q]? = H[q]?) → va_S A0 H0 H1 locs1 → W p l e R s m args below meth c H1 locs1 (cells + mc) (slots + ms) Q (F0 m (pc + 3) ls (.float r :: rest))) : W p l e R s m args below meth c H locs cells slots Q (F0 m pc ls st0) := by
  intro T hT X
  rcases hr T hT X with ⟨v, st₀, t, T', L, h0, X', hL, e1, e2, ⟨⟨r, u, hv, hp, hb⟩, hF⟩, st⟩ | ⟨q, st₀, t, T', L, E, ce, h0, X', hL, e1, e2, ⟨u, hp, hb, hF⟩, hce, hcv, hcl, st⟩
  · cases hv
    obtain ⟨k1, k2, k3⟩ := vx_keep h0 e1 hS hA hf hL hF
    obtain ⟨t2, a1, b1⟩ := kk r u t T'.heap (locs ++ L) e1.symm (by rw [← e2]; exact X'.warmed.alike) hp hb k1 k2 k3 T' rfl X'
    exact ⟨t2, st t2 a1, b1⟩
  · obtain ⟨k1, k2, k3⟩ := vx_keep h0 e1 hS hAX hf hL hF
    obtain ⟨t2, a1, b1⟩ := kx E ce q u t T'.heap (locs ++ L) e1.symm (by rw [← e2]; exact X'.warmed.alike) hp hb k1 k2 k3 (by rw [e1]; exact hce) hcv hcl T' rfl X'
    exact ⟨t2, st.trans a1, b1⟩
theorem vx_calld {S SX : Type} {post : UInt64 → S → Prop} {px : SX → Prop} {B : S → State → Prop} {BX : String → SX → State → Prop} {AX : Nat → Prop} (hr : vx_Run p l e R s m args below meth c H locs cells slots mc ms (F0 m pc ls st0) rest (va_Qd post B A1 a) (vx_X px BX AX) free) (hS : va_S A0 H0 H locs) (hA : ∀ q, q < H.size → A1 q → A0 q) (hf : ∀ q, free q → A0 q) (hAX : ∀ q, q < H.size → AX q → A0 q)
    (kx : ∀ (E : String) (ce : Cell) (q9 : Addr) (u : SX) (t : State) (H1 : Heap) (locs1 : List Loc), t.heap = H1 → s.vm.Alike t.vm → px u → BX E u t → H.size ≤ H1.size → (∀ q : Nat, q < H.size → ¬ AX q → H1[q]? = H[q]?) → va_S A0 H0 H1 locs1 → H1[q9]? = some ce → ce.vm = .none → s.vm.findClass E = some ce.cls → vx_W p l e R s m args below meth c H1 locs1 (cells + mc) (slots + ms) Q (F0 m pc ls rest) q9)
    (kk : ∀ (r : UInt64) (u : S) (t : State) (H1 : Heap) (locs1 : List Loc), t.heap = H1 → s.vm.Alike t.vm → post r u → B u t → H.size ≤ H1.size → (∀ q : Nat, q < H.size → ¬ A1 q → H1[q]? = H[q]?) → va_S A0 H0 H1 locs1 → W p l e R s m args below meth c H1 locs1 (cells + mc) (slots + ms) Q (F0 m (pc + 3) ls (.double r :: rest))) : W p l e R s m args below meth c H locs cells slots Q (F0 m pc ls st0) := by
  intro T hT X
  rcases hr T hT X with ⟨v, st₀, t, T', L, h0, X', hL, e1, e2, ⟨⟨r, u, hv, hp, hb⟩, hF⟩, st⟩ | ⟨q, st₀, t, T', L, E, ce, h0, X', hL, e1, e2, ⟨u, hp, hb, hF⟩, hce, hcv, hcl, st⟩
  · cases hv
    obtain ⟨k1, k2, k3⟩ := vx_keep h0 e1 hS hA hf hL hF
    obtain ⟨t2, a1, b1⟩ := kk r u t T'.heap (locs ++ L) e1.symm (by rw [← e2]; exact X'.warmed.alike) hp hb k1 k2 k3 T' rfl X'
    exact ⟨t2, st t2 a1, b1⟩
  · obtain ⟨k1, k2, k3⟩ := vx_keep h0 e1 hS hAX hf hL hF
    obtain ⟨t2, a1, b1⟩ := kx E ce q u t T'.heap (locs ++ L) e1.symm (by rw [← e2]; exact X'.warmed.alike) hp hb k1 k2 k3 (by rw [e1]; exact hce) hcv hcl T' rfl X'
    exact ⟨t2, st.trans a1, b1⟩
theorem vx_callv {S SX : Type} {post : S → Prop} {px : SX → Prop} {B : S → State → Prop} {BX : String → SX → State → Prop} {AX : Nat → Prop} (hr : vx_Run p l e R s m args below meth c H locs cells slots mc ms (F0 m pc ls st0) rest (va_Qv post B A1 a) (vx_X px BX AX) free) (hS : va_S A0 H0 H locs) (hA : ∀ q, q < H.size → A1 q → A0 q) (hf : ∀ q, free q → A0 q) (hAX : ∀ q, q < H.size → AX q → A0 q)
    (kx : ∀ (E : String) (ce : Cell) (q9 : Addr) (u : SX) (t : State) (H1 : Heap) (locs1 : List Loc), t.heap = H1 → s.vm.Alike t.vm → px u → BX E u t → H.size ≤ H1.size → (∀ q : Nat, q < H.size → ¬ AX q → H1[q]? = H[q]?) → va_S A0 H0 H1 locs1 → H1[q9]? = some ce → ce.vm = .none → s.vm.findClass E = some ce.cls → vx_W p l e R s m args below meth c H1 locs1 (cells + mc) (slots + ms) Q (F0 m pc ls rest) q9)
    (kk : ∀ (u : S) (t : State) (H1 : Heap) (locs1 : List Loc), t.heap = H1 → s.vm.Alike t.vm → post u → B u t → H.size ≤ H1.size → (∀ q : Nat, q < H.size → ¬ A1 q → H1[q]? = H[q]?) → va_S A0 H0 H1 locs1 → W p l e R s m args below meth c H1 locs1 (cells + mc) (slots + ms) Q (F0 m (pc + 3) ls (rest))) : W p l e R s m args below meth c H locs cells slots Q (F0 m pc ls st0) := by
  intro T hT X
  rcases hr T hT X with ⟨v, st₀, t, T', L, h0, X', hL, e1, e2, ⟨⟨u, hv, hp, hb⟩, hF⟩, st⟩ | ⟨q, st₀, t, T', L, E, ce, h0, X', hL, e1, e2, ⟨u, hp, hb, hF⟩, hce, hcv, hcl, st⟩
  · cases hv
    obtain ⟨k1, k2, k3⟩ := vx_keep h0 e1 hS hA hf hL hF
    obtain ⟨t2, a1, b1⟩ := kk u t T'.heap (locs ++ L) e1.symm (by rw [← e2]; exact X'.warmed.alike) hp hb k1 k2 k3 T' rfl X'
    exact ⟨t2, st t2 a1, b1⟩
  · obtain ⟨k1, k2, k3⟩ := vx_keep h0 e1 hS hAX hf hL hF
    obtain ⟨t2, a1, b1⟩ := kx E ce q u t T'.heap (locs ++ L) e1.symm (by rw [← e2]; exact X'.warmed.alike) hp hb k1 k2 k3 (by rw [e1]; exact hce) hcv hcl T' rfl X'
    exact ⟨t2, st.trans a1, b1⟩
/-- caught by the row x of this method's table; the rows ahead don't take it -/
theorem vx_catch {own name : String} {E : String} {ce : Cell} {q : Addr} (hown : s.vm.findClass own = some m.cls) (pre : List ExceptionTableEntry) (x : ExceptionTableEntry) (suf : List ExceptionTableEntry) (hsplit : c.exceptionTable.toList = pre ++ x :: suf)
    (hpass : ∀ z ∈ pre, covers z pc = false ∨ (z.catchType ≠ 0 ∧ ∃ nm : String, (Cond.classLink own z.catchType nm).before args s = true ∧ va_Nc E nm s)) (hx : covers x pc = true) (h0 : x.catchType ≠ 0)
    (hlink : (Cond.classLink own x.catchType name).before args s = true) (hcast : (Cond.castable E name).before args s = true) (hcell : H[q]? = some ce) (hv : ce.vm = .none) (hcl : s.vm.findClass E = some ce.cls)
    (kk : W p l e R s m args below meth c H locs cells slots Q (F0 m x.handlerPc ls [.ref q])) : vx_W p l e R s m args below meth c H locs cells slots Q (F0 m pc ls rest) q := by
  intro T hT X
  have hpl : e.platform.magicAccessors = ({} : Platform).magicAccessors := by rw [X.admits.platform]
  obtain ⟨c3, c4, hc3, hc4, hasg⟩ := Cond.castable_spec hcast
  cases Option.some.inj (hc3.symm.trans hcl)
  obtain ⟨c5, hc5, hcl5⟩ := Cond.classLink_spec hown hlink e.platform hpl
  cases Option.some.inj (hc4.symm.trans hc5)
  obtain ⟨vm', X', st⟩ := X.thenCaughtThrough q (g := F0 m pc ls rest) rfl (Steps.refl _) (by rw [hT]; exact hcell) (by rw [hv]; rfl) (by obtain ⟨k9, h9, -⟩ := Vm.findClass_spec hcl; exact ⟨k9, h9⟩) pre x suf hsplit
    (fun z hz => by
      rcases hpass z hz with h | ⟨hz0, nm, hl1, hn1⟩
      · exact Or.inl h
      · obtain ⟨c6, hc6, hcl6⟩ := Cond.classLink_spec hown hl1 e.platform hpl
        obtain ⟨a8, b8, h1, h2, h3⟩ := hn1
        cases Option.some.inj (h1.symm.trans hcl)
        cases Option.some.inj (h2.symm.trans hc6)
        exact Or.inr ⟨hz0, _, hcl6, h3⟩) hx (Or.inr ⟨h0, c4, hcl5, hasg⟩)
  obtain ⟨t, a1, b1⟩ := kk (T.setVm vm') hT X'
  exact ⟨t, st.trans a1, b1⟩
end Rows
section Ends
variable {p : Program} {l : Launch} {e : Env} {R : Room} {s : State} {m : MethodId} {args : Array Value} {below : List Frame} {meth : Method} {c : Code} {H : Heap} {locs : List Loc} {cells slots : Nat} {Q : State → Prop}
variable {mc ms : Nat} {free : Addr → Prop} {A0 A1 : Nat → Prop} {H0 : Heap} {a : Array Value} {ls : Array Slot} {st0 rest : List Value}
variable {Qc : Array Value → State → Outcome → State → Prop} {XC : String → State → State → Prop}
/-- what a body that may throw owes at its end -/
def vx_MQ (below : List Frame) (Qc : Array Value → State → Outcome → State → Prop) (XC : String → State → State → Prop) (a : Array Value) (s : State) (mc ms : Nat) (free : Addr → Prop) : State → Prop := fun t =>
  ∃ o, t.status = .running ∧ Ended t below o ∧ vx_Q Qc XC mc ms free a s o t
theorem vx_ret {g : JFrame} {mc ms : Nat} (k : W p l e R s m args below meth c H locs cells slots (MQ below Qc args s mc ms free) g) : W p l e R s m args below meth c H locs cells slots (vx_MQ below Qc XC args s mc ms free) g := by
  intro T hT X
  obtain ⟨t, a1, o, b1, b2, b3, b4⟩ := k T hT X
  exact ⟨t, a1, o, b1, b2, Or.inl ⟨b3, b4⟩⟩
/-- not caught here: it goes on to the caller -/
theorem vx_widen {g : JFrame} {q : Addr} {k n : Nat} (h1 : cells ≤ k) (h2 : slots ≤ n) (kk : vx_W p l e R s m args below meth c H locs k n Q g q) : vx_W p l e R s m args below meth c H locs cells slots Q g q := fun T hT X => kk T hT (stand_widen X h1 h2)
theorem vx_out {pc : Nat} {E : String} {ce : Cell} {q : Addr} {mc ms : Nat} (hout : ∀ x ∈ c.exceptionTable.toList, covers x pc = false) (hlocks : meth.locks = false) (hcell : H[q]? = some ce) (hv : ce.vm = .none) (hcl : s.vm.findClass E = some ce.cls)
    (hx : ∀ t : State, t.heap = H → s.vm.Alike t.vm → XC E s t) (hf : ∀ z ∈ locs, free z.base) (hc : cells ≤ mc) (hs : slots ≤ ms) :
    vx_W p l e R s m args below meth c H locs cells slots (vx_MQ below Qc XC args s mc ms free) (F0 m pc ls rest) q := by
  intro T hT X
  obtain ⟨st1, hrun, hend, hW, hsm⟩ := X.leaveThrown q (g := F0 m pc ls rest) rfl rfl rfl hout hlocks
  have hcell9 : (T.setFrames (.throwing q :: below)).heap[q]? = some ce := by
    show T.heap[q]? = some ce
    rw [hT]; exact hcell
  exact ⟨_, st1, .threw q, hrun, hend, Or.inr ⟨q, rfl, E, ce, locs, hx _ hT hW.alike, hcell9, hv, hcl, hW, hsm.mono hc hs, hf⟩⟩
theorem vx_frame {U : State} {k n : Nat} (h : s.sameButNew ({ U with vm := s.vm } : State) locs k n) : s.heap.size ≤ U.heap.size ∧ ∀ q : Nat, q < s.heap.size → (∀ z ∈ locs, z.base ≠ q) → U.heap[q]? = s.heap[q]? := by
  obtain ⟨-, h2, -, -, -, h6⟩ := h
  refine ⟨h2, fun q hq hz => ?_⟩
  obtain ⟨c9, e1, e2, e3, e4⟩ := h6 q _ (Array.getElem?_eq_getElem hq)
  have hs : c9.slots = (s.heap[q]).slots := Array.ext_getElem? fun i => e4 i fun hm => hz _ hm rfl
  have h9 : c9 = s.heap[q] := by
    rw [hs] at e2
    exact e2
  have e5 : U.heap[q]? = some c9 := e1
  rw [e5, h9, Array.getElem?_eq_getElem hq]
/-- the words of a throw but the four that speak of the heap -/
def vx_no (w : Cond) : Bool := decide (w ≠ .isRef (.static Bundle.tN "UNASSIGNED_STACK" Bundle.steD)) && decide (w ≠ .isRef (.static Bundle.tN "SUPPRESSED_SENTINEL" Bundle.listD)) && decide (w ≠ .laysStatic Bundle.tN "UNASSIGNED_STACK" Bundle.steD) && decide (w ≠ .laysStatic Bundle.tN "SUPPRESSED_SENTINEL" Bundle.listD)
def vx_at0 (own : String) (ic : Nat) (X : String) (names : List String) : List Cond := (Bundle.ownAtoms0 own ic X names).filter vx_no
def vx_atS (own : String) (ic : Nat) (X : String) (names : List String) : List Cond := (Bundle.ownAtoms own ic X names).filter vx_no
/-- a word that the tables alone decide, or a good one -/
def vx_ot (w : Cond) : Bool := w.onTables || goodWord w
theorem vx_ot_at {args a' : Array Value} {s U : State} {w : Cond} (hW : s.WarmedH U.vm) (hvm : s.vm = U.vm) (hg : vx_ot w = true) (h : w.before args s = true) : w.before a' U = true := by
  simp only [vx_ot, Bool.or_eq_true] at hg
  rcases hg with hg | hg
  · exact va_tabs hg hvm h
  · exact word_at hW (good_of_word hg) h
/-- a list's words: the good ones out of the method's own list, the others by premises of their own -/
theorem vx_hat {args : Array Value} {s : State} {L B : List Cond} (h1 : ∀ w ∈ L.filter goodWord, w.before args s = true) (h2 : ∀ w ∈ L.filter (fun w => !goodWord w), w ∈ B) (h3 : ∀ w ∈ B, w.before args s = true) : ∀ w ∈ L, w.before args s = true := by
  intro w hw
  by_cases g : goodWord w = true
  · exact h1 w (List.mem_filter.mpr ⟨hw, g⟩)
  · refine h3 w (h2 w (List.mem_filter.mpr ⟨hw, ?_⟩))
    show (!goodWord w) = true
    cases hgw : goodWord w
    · rfl
    · exact absurd hgw g
theorem vx_c {args : Array Value} {s : State} {w : Cond} {B : List Cond} (h : w.before args s = true) (t : ∀ w ∈ B, w.before args s = true) : ∀ w' ∈ w :: B, w'.before args s = true := fun w' h' => (List.mem_cons.mp h').elim (fun e => by rw [e]; exact h) (t w')
theorem vx_n {args : Array Value} {s : State} : ∀ w ∈ ([] : List Cond), w.before args s = true := fun _ h => nomatch h
theorem vx_own {args : Array Value} {s : State} {L : List Cond} (h1 : ∀ w ∈ L.filter vx_no, w.before args s = true)
    (hU : (Cond.isRef (.static Bundle.tN "UNASSIGNED_STACK" Bundle.steD)).before args s = true) (hN : (Cond.isRef (.static Bundle.tN "SUPPRESSED_SENTINEL" Bundle.listD)).before args s = true)
    (lU : (Cond.laysStatic Bundle.tN "UNASSIGNED_STACK" Bundle.steD).before args s = true) (lN : (Cond.laysStatic Bundle.tN "SUPPRESSED_SENTINEL" Bundle.listD).before args s = true) : ∀ w ∈ L, w.before args s = true := by
  intro w hw
  by_cases e1 : w = .isRef (.static Bundle.tN "UNASSIGNED_STACK" Bundle.steD)
  · rw [e1]; exact hU
  · by_cases e2 : w = .isRef (.static Bundle.tN "SUPPRESSED_SENTINEL" Bundle.listD)
    · rw [e2]; exact hN
    · by_cases e3 : w = .laysStatic Bundle.tN "UNASSIGNED_STACK" Bundle.steD
      · rw [e3]; exact lU
      · by_cases e4 : w = .laysStatic Bundle.tN "SUPPRESSED_SENTINEL" Bundle.listD
        · rw [e4]; exact lN
        · exact h1 w (List.mem_filter.mpr ⟨hw, by unfold vx_no; rw [decide_eq_true e1, decide_eq_true e2, decide_eq_true e3, decide_eq_true e4]; rfl⟩)
/-- where a static field lies, its class's statics cell in H -/
def vx_L (C n d : String) (A : Nat → Prop) (U : State) (H : Heap) : Prop := ∃ (c : ClassId) (k : Class) (i : Nat) (f : Field) (a : Nat) (cell : Cell), U.vm.findClass C = some c ∧ U.fieldFound? C n d = some (c, k, i, f) ∧ f.isStatic = true ∧ k.statics = some a ∧ H[a]? = some cell ∧ cell.vm.isStatics = true ∧ cell.cls = c ∧ f.slot < cell.slots.size ∧ k.staticTypes[f.slot]? = some f.type ∧ ¬ A a
theorem vx_L.moved {C n d : String} {A : Nat → Prop} {u U : State} {H : Heap} (hvm : u.vm.Alike U.vm) (h : vx_L C n d A u H) : vx_L C n d A U H := by
  obtain ⟨c, k, i, f, a, cell, h1, h2, h3, h4, h5, h6, h7, h8, h9, h10⟩ := h
  obtain ⟨k', hi', he⟩ := State.fieldFound?_setVm hvm h2
  exact ⟨c, k', i, f, a, cell, by rw [hvm.findClass]; exact h1, hi', h3, by rw [he]; exact h4, h5, h6, h7, h8, by rw [he]; exact h9, h10⟩
theorem vx_L.kept {C n d : String} {A : Nat → Prop} {U : State} {H H1 : Heap} (h : vx_L C n d A U H) (hq : ∀ a : Nat, a < H.size → ¬ A a → H1[a]? = H[a]?) : vx_L C n d A U H1 := by
  obtain ⟨c, k, i, f, a, cell, h1, h2, h3, h4, h5, h6, h7, h8, h9, h10⟩ := h
  exact ⟨c, k, i, f, a, cell, h1, h2, h3, h4, by rw [hq a (Array.getElem?_eq_some_iff.mp h5).1 h10]; exact h5, h6, h7, h8, h9, h10⟩
theorem vx_L.narrow {C n d : String} {A B : Nat → Prop} {U : State} {H : Heap} (h : vx_L C n d A U H) (hAB : ∀ q, B q → A q) : vx_L C n d B U H := by
  obtain ⟨c, k, i, f, a, cell, h1, h2, h3, h4, h5, h6, h7, h8, h9, h10⟩ := h
  exact ⟨c, k, i, f, a, cell, h1, h2, h3, h4, h5, h6, h7, h8, h9, fun z => h10 (hAB _ z)⟩
theorem vx_L.word {C n d : String} {A : Nat → Prop} {s : State} {args : Array Value} (h : vx_L C n d A s s.heap) : (Cond.laysStatic C n d).before args s = true := by
  obtain ⟨c, k, i, f, a, cell, h1, h2, h3, h4, h5, h6, h7, h8, h9, -⟩ := h
  show (Cond.laysStatic C n d).holds args s none s [] = true
  exact Cond.laysStatic_of h1 h2 h3 h4 h5 h6 h7 h8 h9
/-- .. and what it holds: null or some reference -/
def vx_Zq (C n d : String) (A : Nat → Prop) (U : State) (H : Heap) : Prop := va_Zq C n d A U H ∧ vx_L C n d A U H
theorem vx_Zq.moved {C n d : String} {A : Nat → Prop} {u U : State} {H : Heap} (hvm : u.vm.Alike U.vm) (h : vx_Zq C n d A u H) : vx_Zq C n d A U H := ⟨va_Zq.moved hvm h.1, vx_L.moved hvm h.2⟩
theorem vx_Zq.kept {C n d : String} {A : Nat → Prop} {U : State} {H H1 : Heap} (h : vx_Zq C n d A U H) (hq : ∀ a : Nat, a < H.size → ¬ A a → H1[a]? = H[a]?) : vx_Zq C n d A U H1 := ⟨va_Zq.kept h.1 hq, vx_L.kept h.2 hq⟩
theorem vx_Zq.narrow {C n d : String} {A B : Nat → Prop} {U : State} {H : Heap} (h : vx_Zq C n d A U H) (hAB : ∀ q, B q → A q) : vx_Zq C n d B U H := ⟨va_Zq.narrow h.1 hAB, vx_L.narrow h.2 hAB⟩
theorem vx_Zqof {args : Array Value} {s : State} {C n d : String} {A : Nat → Prop} (hl : (Cond.laysStatic C n d).before args s = true) (hini : (Cond.initialized C).before args s = true) (h : (Cond.isRef (.static C n d)).before args s = true) (hA : ∀ a : Nat, a < s.heap.size → ¬ A a) : vx_Zq C n d A s s.heap := by
  refine ⟨va_Zqof hl hini h hA, ?_⟩
  obtain ⟨c, k, i, f, a, cell, h1, h2, h3, h4, h5, h6, h7, h8, h9⟩ := Cond.laysStatic_spec hl
  exact ⟨c, k, i, f, a, cell, h1, h2, h3, h4, h5, h6, h7, h8, h9, hA a (Array.getElem?_eq_some_iff.mp h5).1⟩
theorem vx_isRef {C n d : String} {v : Value} {A : Nat → Prop} {s : State} {args : Array Value} (h : va_Z C n d v A s s.heap) (hv : v.isRef = true) : (Cond.isRef (.static C n d)).before args s = true := by
  obtain ⟨cf, kf, fi, f, a, cell, h1, h2, h3, h4, h5, h6, h7, -⟩ := h
  have he : (Term.static C n d).eval args s none [] s = some v := by
    simp [Term.eval, State.fieldNamed?, h1, h2, h4, h5, h6, h7]
  simp only [Cond.before, Cond.holds, Cond.value, he]
  cases v <;> simp_all [Value.isRef]
theorem vx_isRefq {C n d : String} {A : Nat → Prop} {s : State} {args : Array Value} (h : va_Zq C n d A s s.heap) : (Cond.isRef (.static C n d)).before args s = true := by
  rcases h with h | ⟨t, h⟩
  · exact vx_isRef h rfl
  · exact vx_isRef h rfl
/-- the same frame, seen from here: as if the method were called anew in this heap -/
theorem vx_rebase {T : State} (X : Stand p l e R s m args below meth c T locs cells slots) {R' : Room} (hf : R'.frames ≤ R.frames) (hl : R'.locals ≤ R.locals) (hc : cells + R'.cells ≤ R.cells) (hs : slots + R'.slots ≤ R.slots) :
    Stand p l e R' ((T.setVm s.vm).setFrames (.invoking m args :: below)) m args below meth c T [] 0 0 := by
  have htop : (T.setVm s.vm).topJava?.isSome := X.here.top
  have hF : ((T.setVm s.vm).setFrames (.invoking m args :: below)).frames = .invoking m args :: below := State.frames_setFrames _ (State.cur_lt_of_top htop)
  obtain ⟨g₀, hg0⟩ := Option.isSome_iff_exists.mp htop
  obtain ⟨r, hr⟩ := State.topJava?_eq_some.mp hg0
  have hl9 : e.platform.stackLimits (T.setVm s.vm).me = e.platform.stackLimits s.me := X.limits
  have hb9 : (T.setVm s.vm).me.stackBytes = s.me.stackBytes := X.bytes
  refine ⟨X.admits, X.cas, X.clock, hF, ?_, X.hears, X.method, X.code, X.here, X.tail, X.warmed, ?_, ?_, ?_⟩
  · have h := X.room
    have hU : ((T.setVm s.vm).setFrames (.invoking m args :: below)).localsInUse = s.localsInUse := by
      rw [State.localsInUse_invoking hF (meth := meth) (c := c) X.method X.code, State.localsInUse_invoking X.frames X.method X.code]
    simp only [State.hasRoom, Bool.and_eq_true, decide_eq_true_eq] at h ⊢
    obtain ⟨⟨⟨⟨h1, h2, h3, h4, h5, h6⟩, h7⟩, h8⟩, h9⟩ := h
    rw [X.frames, List.length_cons] at h2 h3
    have q1 := X.heapSize
    have q2 := X.used
    simp only [hF, hU, List.length_cons, State.stackLimits_setFrames, State.stackBytes_setFrames, hl9, hb9]
    refine ⟨⟨⟨⟨by omega, by omega, by omega, by omega, by omega, h6⟩, ?_⟩, ?_⟩, X.book⟩
    · show T.heap.size + R'.cells ≤ e.platform.maxCells
      omega
    · show T.slotsUsed + R'.slots ≤ e.platform.maxSlots
      omega
  · rw [State.stackLimits_setFrames]; rfl
  · rw [State.stackBytes_setFrames]; rfl
  · refine ⟨?_, Nat.le_refl _, Nat.le_refl _, ?_, ?_, fun a c9 h9 => ⟨c9, h9, rfl, rfl, fun _ _ => rfl⟩⟩
    · obtain ⟨t, ht, -⟩ := State.frames_cons hr
      show T.setVm s.vm = { ((T.setVm s.vm).setFrames (.invoking m args :: below)).setFrames (T.setVm s.vm).frames with heap := T.heap, slotsUsed := T.slotsUsed }
      rw [State.setFrames_setFrames, State.setFrames_self ht]
      rfl
    · show T.slotsUsed = T.slotsUsed + ((T.heap.toList.drop T.heap.size).map (·.slots.size)).sum
      rw [List.drop_eq_nil_of_le (Nat.le_of_eq Array.length_toList)]
      rfl
    · show ((T.heap.toList.drop T.heap.size).map (·.slots.size)).sum ≤ 0
      rw [List.drop_eq_nil_of_le (Nat.le_of_eq Array.length_toList)]
      exact Nat.le_refl _
/-- 'throw new E()': new; dup; invokespecial; athrow -/
theorem vx_throw0 {cc : ByteArray} {pc : Nat} (hexec : p.tables.exec = Jvm.exec) (hb : c.code = cc) (hl : l.stackTraces = false) {own cls : String} {names : List String} {ik ic mc ms : Nat} {A : Nat → Prop}
    (hown : s.vm.findClass own = some m.cls) (hcls : Bundle.fit cls = true) (hnames : ∀ n ∈ names, Bundle.fit n = true)
    (hk : (Cond.classLink own ik cls).before args s = true) (hini : (Cond.initialized cls).before args s = true) (hat : ∀ w ∈ vx_at0 own ic cls names, w.before args s = true)
    (hgood : ∀ w ∈ Cond.classLink own ik cls :: Cond.initialized cls :: vx_at0 own ic cls names, vx_ot w = true)
    (hU : vx_Zq Bundle.tN "UNASSIGNED_STACK" Bundle.steD A s s.heap) (hN : vx_Zq Bundle.tN "SUPPRESSED_SENTINEL" Bundle.listD A s s.heap) (hS : va_S A s.heap H locs) (hsize : ls.size = c.maxLocals)
    (d0 : decode cc pc = .ok (.new ik, 3)) (d3 : decode cc (pc + 3) = .ok (.dup, 1)) (d4 : decode cc (pc + 4) = .ok (.invokespecial ic, 3)) (d7 : decode cc (pc + 7) = .ok (.athrow, 1))
    (hout : ∀ x ∈ c.exceptionTable.toList, covers x (pc + 7) = false)
    (hRframes : names.length + 3 < R.frames) (hRlocals : (rest.map fun v => v.category).sum + (13 * (names.length + 1) + 42) ≤ R.locals) (hRcells : cells + 1 ≤ R.cells) (hRslots : slots + 6 ≤ R.slots) (hlocks : meth.locks = false)
    (hx : ∀ t : State, s.vm.Alike t.vm → H.size ≤ t.heap.size → (∀ q : Nat, q < H.size → t.heap[q]? = H[q]?) → XC cls s t)
    (hf : ∀ z ∈ locs, free z.base) (hc : cells + 1 ≤ mc) (hs : slots + 6 ≤ ms) :
    W p l e R s m args below meth c H locs cells slots (vx_MQ below Qc XC args s mc ms free) (F0 m pc ls rest) := by
  intro T hT X
  have htr : e.platform.stackTraces = false := (show e.platform.stackTraces = l.stackTraces by rw [X.admits.platform]).trans hl
  have Y := vx_rebase X (R' := { frames := R.frames, locals := R.locals, cells := 1, slots := 6 }) (Nat.le_refl _) (Nat.le_refl _) hRcells hRslots
  obtain ⟨s', hA⟩ : ∃ z, z = (T.setVm s.vm).setFrames (.invoking m args :: below) := ⟨_, rfl⟩
  rw [← hA] at Y
  have hvm : s'.vm = s.vm := by rw [hA]; rfl
  have hhp : s'.heap = H := by rw [hA]; exact hT
  have hW0 : s.WarmedH s'.vm := by rw [hvm]; exact State.WarmedH.refl s
  have hat' : ∀ w ∈ vx_at0 own ic cls names, w.before args s' = true := fun w hw => vx_ot_at hW0 hvm.symm (hgood w (List.mem_cons_of_mem _ (List.mem_cons_of_mem _ hw))) (hat w hw)
  have hk' : (Cond.classLink own ik cls).before args s' = true := vx_ot_at hW0 hvm.symm (hgood _ List.mem_cons_self) hk
  have hini' : (Cond.initialized cls).before args s' = true := vx_ot_at hW0 hvm.symm (hgood _ (List.mem_cons_of_mem _ List.mem_cons_self)) hini
  have hU' : vx_Zq Bundle.tN "UNASSIGNED_STACK" Bundle.steD A s' s'.heap := by rw [hhp]; exact vx_Zq.moved hW0.alike (hU.kept hS.2.1)
  have hN' : vx_Zq Bundle.tN "SUPPRESSED_SENTINEL" Bundle.listD A s' s'.heap := by rw [hhp]; exact vx_Zq.moved hW0.alike (hN.kept hS.2.1)
  have h : ∀ w ∈ Bundle.ownAtoms0 own ic cls names, w.before args s' = true := vx_own hat' (vx_isRefq hU'.1) (vx_isRefq hN'.1) hU'.2.word hN'.2.word
  have hown' : s'.vm.findClass own = some m.cls := by rw [hvm]; exact hown
  have hins : (Cond.instantiable cls 6).before args s' = true := h _ (by simp [Bundle.ownAtoms0])
  obtain ⟨vm₁, cX, kX, hfX, hkX, -, -, X₁, st1⟩ := Y.newCold hexec (own := own) (C := cls) (index := ik) (n := 6) hown' hk' hins hini'
    (g := F0 m pc ls rest) rfl (by rw [hb]; exact d0) (Nat.le_refl _) (Nat.le_refl _)
  generalize hT1 : (T.setVm vm₁).pushCell { cls := cX, slots := kX.instanceTypes.map defaultValue, vm := .none } = T1 at X₁ st1
  have hcat : (Value.ref T.heap.size).category = 1 := rfl
  have hcellA : T1.heap[T.heap.size]? = some (freshCell cX kX) := by rw [← hT1]; exact State.heap_pushCell_size _ _
  have d3' : decode c.code (pc + 3) = .ok (.dup, 1) := by rw [hb]; exact d3
  obtain ⟨U, hsteps, hrun, hend, hW, hsame, ce, hce, hO⟩ := X₁.ctorThrow0 hexec htr (own := own) (cls := cls) (names := names) (ic := ic) hown' hcls hnames h (fun x hx => nomatch hx) hfX hkX hcellA (by rw [hhp, hT]; exact Nat.le_refl _)
    (g := { method := m, pc := pc + 4, locals := ls, stack := .ref T.heap.size :: .ref T.heap.size :: rest, locked := none }) rfl hsize rfl rfl (rest := rest) rfl
    (by rw [hb]; exact d4) (by rw [hb]; exact d7) hout hRframes (by simp only [List.map_cons, List.sum_cons, hcat]; omega) hlocks
  obtain ⟨f1, f2⟩ := vx_frame hsame
  rw [hhp] at f1 f2
  have hWs : s.WarmedH U.vm := State.WarmedH.trans hW0 hW
  have hcl : s.vm.findClass cls = some ce.cls := by
    have h9 := hO.cls
    rw [hvm] at h9
    exact h9
  have hall : s.sameButNew ({ U with vm := s.vm } : State) locs mc ms := by
    subst hA
    obtain ⟨e1, e2⟩ := hsame
    rw [State.setFrames_setFrames] at e1
    have h2 : (T.setVm s.vm).sameButNew ({ U with vm := s.vm } : State) [] (0 + 1) (0 + 6) := ⟨e1, e2⟩
    have h3 := X.same.trans h2
    rw [List.append_nil] at h3
    exact h3.mono hc hs
  refine ⟨U, ?_, .threw T.heap.size, hrun, hend, Or.inr ⟨T.heap.size, rfl, cls, ce, locs, hx U hWs.alike f1 (fun q hq => f2 q hq (fun z hz => nomatch hz)), hce, hO.vm, hcl, hWs, hall, hf⟩⟩
  refine st1 _ ?_
  show Steps p.tables e below (T1.setTop { method := m, pc := pc + 3, locals := ls, stack := .ref T.heap.size :: rest, locked := none }) _
  jvm_step X₁.here [X₁.here.top, hexec, d3', Value.category]
  exact hsteps
/-- 'throw new E("text")': new; dup; ldc; invokespecial; athrow -/
theorem vx_throwS {cc : ByteArray} {pc : Nat} (hexec : p.tables.exec = Jvm.exec) (hb : c.code = cc) (hl : l.stackTraces = false) {own cls text : String} {names : List String} {ik is ic mc ms sa : Nat} {A : Nat → Prop}
    (hown : s.vm.findClass own = some m.cls) (hcls : Bundle.fit cls = true) (hnames : ∀ n ∈ names, Bundle.fit n = true)
    (hk : (Cond.classLink own ik cls).before args s = true) (hini : (Cond.initialized cls).before args s = true) (hstr : vk_R own is text sa s) (hat : ∀ w ∈ vx_atS own ic cls names, w.before args s = true)
    (hgood : ∀ w ∈ Cond.classLink own ik cls :: Cond.initialized cls :: vx_atS own ic cls names, vx_ot w = true)
    (hU : vx_Zq Bundle.tN "UNASSIGNED_STACK" Bundle.steD A s s.heap) (hN : vx_Zq Bundle.tN "SUPPRESSED_SENTINEL" Bundle.listD A s s.heap) (hS : va_S A s.heap H locs) (hsize : ls.size = c.maxLocals)
    (d0 : decode cc pc = .ok (.new ik, 3)) (d3 : decode cc (pc + 3) = .ok (.dup, 1)) (d4 : decode cc (pc + 4) = .ok (.ldc is, 2)) (d6 : decode cc (pc + 6) = .ok (.invokespecial ic, 3)) (d9 : decode cc (pc + 9) = .ok (.athrow, 1))
    (hout : ∀ x ∈ c.exceptionTable.toList, covers x (pc + 9) = false)
    (hRframes : names.length + 3 < R.frames) (hRlocals : (rest.map fun v => v.category).sum + (13 * (names.length + 1) + 43) ≤ R.locals) (hRcells : cells + 1 ≤ R.cells) (hRslots : slots + 6 ≤ R.slots) (hlocks : meth.locks = false)
    (hx : ∀ t : State, s.vm.Alike t.vm → H.size ≤ t.heap.size → (∀ q : Nat, q < H.size → t.heap[q]? = H[q]?) → XC cls s t)
    (hf : ∀ z ∈ locs, free z.base) (hc : cells + 1 ≤ mc) (hs : slots + 6 ≤ ms) :
    W p l e R s m args below meth c H locs cells slots (vx_MQ below Qc XC args s mc ms free) (F0 m pc ls rest) := by
  intro T hT X
  have htr : e.platform.stackTraces = false := (show e.platform.stackTraces = l.stackTraces by rw [X.admits.platform]).trans hl
  have Y := vx_rebase X (R' := { frames := R.frames, locals := R.locals, cells := 1, slots := 6 }) (Nat.le_refl _) (Nat.le_refl _) hRcells hRslots
  obtain ⟨s', hA⟩ : ∃ z, z = (T.setVm s.vm).setFrames (.invoking m args :: below) := ⟨_, rfl⟩
  rw [← hA] at Y
  have hvm : s'.vm = s.vm := by rw [hA]; rfl
  have hhp : s'.heap = H := by rw [hA]; exact hT
  have hW0 : s.WarmedH s'.vm := by rw [hvm]; exact State.WarmedH.refl s
  have hat' : ∀ w ∈ vx_atS own ic cls names, w.before args s' = true := fun w hw => vx_ot_at hW0 hvm.symm (hgood w (List.mem_cons_of_mem _ (List.mem_cons_of_mem _ hw))) (hat w hw)
  have hk' : (Cond.classLink own ik cls).before args s' = true := vx_ot_at hW0 hvm.symm (hgood _ List.mem_cons_self) hk
  have hini' : (Cond.initialized cls).before args s' = true := vx_ot_at hW0 hvm.symm (hgood _ (List.mem_cons_of_mem _ List.mem_cons_self)) hini
  have hU' : vx_Zq Bundle.tN "UNASSIGNED_STACK" Bundle.steD A s' s'.heap := by rw [hhp]; exact vx_Zq.moved hW0.alike (hU.kept hS.2.1)
  have hN' : vx_Zq Bundle.tN "SUPPRESSED_SENTINEL" Bundle.listD A s' s'.heap := by rw [hhp]; exact vx_Zq.moved hW0.alike (hN.kept hS.2.1)
  have h : ∀ w ∈ Bundle.ownAtoms own ic cls names, w.before args s' = true := vx_own hat' (vx_isRefq hU'.1) (vx_isRefq hN'.1) hU'.2.word hN'.2.word
  have hown' : s'.vm.findClass own = some m.cls := by rw [hvm]; exact hown
  have hins : (Cond.instantiable cls 6).before args s' = true := h _ (by simp [Bundle.ownAtoms])
  obtain ⟨vm₁, cX, kX, hfX, hkX, -, -, X₁, st1⟩ := Y.newCold hexec (own := own) (C := cls) (index := ik) (n := 6) hown' hk' hins hini'
    (g := F0 m pc ls rest) rfl (by rw [hb]; exact d0) (Nat.le_refl _) (Nat.le_refl _)
  generalize hT1 : (T.setVm vm₁).pushCell { cls := cX, slots := kX.instanceTypes.map defaultValue, vm := .none } = T1 at X₁ st1
  have hcat : (Value.ref T.heap.size).category = 1 := rfl
  have hcellA : T1.heap[T.heap.size]? = some (freshCell cX kX) := by rw [← hT1]; exact State.heap_pushCell_size _ _
  have d3' : decode c.code (pc + 3) = .ok (.dup, 1) := by rw [hb]; exact d3
  have d4' : decode c.code (pc + 4) = .ok (.ldc is, 2) := by rw [hb]; exact d4
  have hstr' : vk_R own is text sa s' := vk_R.warm hW0 hstr
  obtain ⟨U, hsteps, hrun, hend, hW, hsame, ce, hce, hO⟩ := X₁.ctorThrowS hexec htr (own := own) (cls := cls) (names := names) (ic := ic) hown' hcls hnames h (fun x hx => nomatch hx) hfX hkX hcellA (by rw [hhp, hT]; exact Nat.le_refl _) (msg := .ref sa) rfl
    (g := { method := m, pc := pc + 6, locals := ls, stack := .ref sa :: .ref T.heap.size :: .ref T.heap.size :: rest, locked := none }) rfl hsize rfl rfl (rest := rest) rfl
    (by rw [hb]; exact d6) (by rw [hb]; exact d9) hout hRframes (by simp only [List.map_cons, List.sum_cons, hcat]; omega) hlocks
  obtain ⟨f1, f2⟩ := vx_frame hsame
  rw [hhp] at f1 f2
  have hWs : s.WarmedH U.vm := State.WarmedH.trans hW0 hW
  have hcl : s.vm.findClass cls = some ce.cls := by
    have h9 := hO.cls
    rw [hvm] at h9
    exact h9
  have hall : s.sameButNew ({ U with vm := s.vm } : State) locs mc ms := by
    subst hA
    obtain ⟨e1, e2⟩ := hsame
    rw [State.setFrames_setFrames] at e1
    have h2 : (T.setVm s.vm).sameButNew ({ U with vm := s.vm } : State) [] (0 + 1) (0 + 6) := ⟨e1, e2⟩
    have h3 := X.same.trans h2
    rw [List.append_nil] at h3
    exact h3.mono hc hs
  refine ⟨U, ?_, .threw T.heap.size, hrun, hend, Or.inr ⟨T.heap.size, rfl, cls, ce, locs, hx U hWs.alike f1 (fun q hq => f2 q hq (fun z hz => nomatch hz)), hce, hO.vm, hcl, hWs, hall, hf⟩⟩
  refine st1 _ ?_
  show Steps p.tables e below (T1.setTop { method := m, pc := pc + 3, locals := ls, stack := .ref T.heap.size :: rest, locked := none }) _
  jvm_step X₁.here [X₁.here.top, hexec, d3', Value.category]
  exact X₁.ldcString hexec (own := own) (text := text) (index := is) (a := sa) hown' hstr'.1 hstr'.2
    (g := { method := m, pc := pc + 4, locals := ls, stack := .ref T.heap.size :: .ref T.heap.size :: rest, locked := none }) rfl d4' _ hsteps
/-- 'throw new E("text")', the text by a wide index -/
theorem vx_throwSW {cc : ByteArray} {pc : Nat} (hexec : p.tables.exec = Jvm.exec) (hb : c.code = cc) (hl : l.stackTraces = false) {own cls text : String} {names : List String} {ik is ic mc ms sa : Nat} {A : Nat → Prop}
    (hown : s.vm.findClass own = some m.cls) (hcls : Bundle.fit cls = true) (hnames : ∀ n ∈ names, Bundle.fit n = true)
    (hk : (Cond.classLink own ik cls).before args s = true) (hini : (Cond.initialized cls).before args s = true) (hstr : vk_R own is text sa s) (hat : ∀ w ∈ vx_atS own ic cls names, w.before args s = true)
    (hgood : ∀ w ∈ Cond.classLink own ik cls :: Cond.initialized cls :: vx_atS own ic cls names, vx_ot w = true)
    (hU : vx_Zq Bundle.tN "UNASSIGNED_STACK" Bundle.steD A s s.heap) (hN : vx_Zq Bundle.tN "SUPPRESSED_SENTINEL" Bundle.listD A s s.heap) (hS : va_S A s.heap H locs) (hsize : ls.size = c.maxLocals)
    (d0 : decode cc pc = .ok (.new ik, 3)) (d3 : decode cc (pc + 3) = .ok (.dup, 1)) (d4 : decode cc (pc + 4) = .ok (.ldc_w is, 3)) (d7 : decode cc (pc + 7) = .ok (.invokespecial ic, 3)) (d10 : decode cc (pc + 10) = .ok (.athrow, 1))
    (hout : ∀ x ∈ c.exceptionTable.toList, covers x (pc + 10) = false)
    (hRframes : names.length + 3 < R.frames) (hRlocals : (rest.map fun v => v.category).sum + (13 * (names.length + 1) + 43) ≤ R.locals) (hRcells : cells + 1 ≤ R.cells) (hRslots : slots + 6 ≤ R.slots) (hlocks : meth.locks = false)
    (hx : ∀ t : State, s.vm.Alike t.vm → H.size ≤ t.heap.size → (∀ q : Nat, q < H.size → t.heap[q]? = H[q]?) → XC cls s t)
    (hf : ∀ z ∈ locs, free z.base) (hc : cells + 1 ≤ mc) (hs : slots + 6 ≤ ms) :
    W p l e R s m args below meth c H locs cells slots (vx_MQ below Qc XC args s mc ms free) (F0 m pc ls rest) := by
  intro T hT X
  have htr : e.platform.stackTraces = false := (show e.platform.stackTraces = l.stackTraces by rw [X.admits.platform]).trans hl
  have Y := vx_rebase X (R' := { frames := R.frames, locals := R.locals, cells := 1, slots := 6 }) (Nat.le_refl _) (Nat.le_refl _) hRcells hRslots
  obtain ⟨s', hA⟩ : ∃ z, z = (T.setVm s.vm).setFrames (.invoking m args :: below) := ⟨_, rfl⟩
  rw [← hA] at Y
  have hvm : s'.vm = s.vm := by rw [hA]; rfl
  have hhp : s'.heap = H := by rw [hA]; exact hT
  have hW0 : s.WarmedH s'.vm := by rw [hvm]; exact State.WarmedH.refl s
  have hat' : ∀ w ∈ vx_atS own ic cls names, w.before args s' = true := fun w hw => vx_ot_at hW0 hvm.symm (hgood w (List.mem_cons_of_mem _ (List.mem_cons_of_mem _ hw))) (hat w hw)
  have hk' : (Cond.classLink own ik cls).before args s' = true := vx_ot_at hW0 hvm.symm (hgood _ List.mem_cons_self) hk
  have hini' : (Cond.initialized cls).before args s' = true := vx_ot_at hW0 hvm.symm (hgood _ (List.mem_cons_of_mem _ List.mem_cons_self)) hini
  have hU' : vx_Zq Bundle.tN "UNASSIGNED_STACK" Bundle.steD A s' s'.heap := by rw [hhp]; exact vx_Zq.moved hW0.alike (hU.kept hS.2.1)
  have hN' : vx_Zq Bundle.tN "SUPPRESSED_SENTINEL" Bundle.listD A s' s'.heap := by rw [hhp]; exact vx_Zq.moved hW0.alike (hN.kept hS.2.1)
  have h : ∀ w ∈ Bundle.ownAtoms own ic cls names, w.before args s' = true := vx_own hat' (vx_isRefq hU'.1) (vx_isRefq hN'.1) hU'.2.word hN'.2.word
  have hown' : s'.vm.findClass own = some m.cls := by rw [hvm]; exact hown
  have hins : (Cond.instantiable cls 6).before args s' = true := h _ (by simp [Bundle.ownAtoms])
  obtain ⟨vm₁, cX, kX, hfX, hkX, -, -, X₁, st1⟩ := Y.newCold hexec (own := own) (C := cls) (index := ik) (n := 6) hown' hk' hins hini'
    (g := F0 m pc ls rest) rfl (by rw [hb]; exact d0) (Nat.le_refl _) (Nat.le_refl _)
  generalize hT1 : (T.setVm vm₁).pushCell { cls := cX, slots := kX.instanceTypes.map defaultValue, vm := .none } = T1 at X₁ st1
  have hcat : (Value.ref T.heap.size).category = 1 := rfl
  have hcellA : T1.heap[T.heap.size]? = some (freshCell cX kX) := by rw [← hT1]; exact State.heap_pushCell_size _ _
  have d3' : decode c.code (pc + 3) = .ok (.dup, 1) := by rw [hb]; exact d3
  have d4' : decode c.code (pc + 4) = .ok (.ldc_w is, 3) := by rw [hb]; exact d4
  have hstr' : vk_R own is text sa s' := vk_R.warm hW0 hstr
  obtain ⟨U, hsteps, hrun, hend, hW, hsame, ce, hce, hO⟩ := X₁.ctorThrowS hexec htr (own := own) (cls := cls) (names := names) (ic := ic) hown' hcls hnames h (fun x hx => nomatch hx) hfX hkX hcellA (by rw [hhp, hT]; exact Nat.le_refl _) (msg := .ref sa) rfl
    (g := { method := m, pc := pc + 7, locals := ls, stack := .ref sa :: .ref T.heap.size :: .ref T.heap.size :: rest, locked := none }) rfl hsize rfl rfl (rest := rest) rfl
    (by rw [hb]; exact d7) (by rw [hb]; exact d10) hout hRframes (by simp only [List.map_cons, List.sum_cons, hcat]; omega) hlocks
  obtain ⟨f1, f2⟩ := vx_frame hsame
  rw [hhp] at f1 f2
  have hWs : s.WarmedH U.vm := State.WarmedH.trans hW0 hW
  have hcl : s.vm.findClass cls = some ce.cls := by
    have h9 := hO.cls
    rw [hvm] at h9
    exact h9
  have hall : s.sameButNew ({ U with vm := s.vm } : State) locs mc ms := by
    subst hA
    obtain ⟨e1, e2⟩ := hsame
    rw [State.setFrames_setFrames] at e1
    have h2 : (T.setVm s.vm).sameButNew ({ U with vm := s.vm } : State) [] (0 + 1) (0 + 6) := ⟨e1, e2⟩
    have h3 := X.same.trans h2
    rw [List.append_nil] at h3
    exact h3.mono hc hs
  refine ⟨U, ?_, .threw T.heap.size, hrun, hend, Or.inr ⟨T.heap.size, rfl, cls, ce, locs, hx U hWs.alike f1 (fun q hq => f2 q hq (fun z hz => nomatch hz)), hce, hO.vm, hcl, hWs, hall, hf⟩⟩
  refine st1 _ ?_
  show Steps p.tables e below (T1.setTop { method := m, pc := pc + 3, locals := ls, stack := .ref T.heap.size :: rest, locked := none }) _
  jvm_step X₁.here [X₁.here.top, hexec, d3', Value.category]
  exact X₁.ldcStringW hexec (own := own) (text := text) (index := is) (a := sa) hown' hstr'.1 hstr'.2
    (g := { method := m, pc := pc + 4, locals := ls, stack := .ref T.heap.size :: .ref T.heap.size :: rest, locked := none }) rfl d4' _ hsteps
end Ends
section Bodies
variable {l : Launch}
theorem vx_ofW {y : MethodName} {ws ws' : List Cond} {rm : Room} {Pc : Array Value → State → Prop} {Qc : Array Value → State → Outcome → State → Prop} {XC : String → State → State → Prop} {mc ms : Nat} {free : Addr → Prop} {cc : ByteArray} {maxL : Nat} {ret : Option FieldType}
    (hy : plainName y.cls = true) (hw : ws = Cond.code y cc maxL ret :: ws')
    (body : ∀ p e s m args below meth c s₁, BodyLoose p l y (headSpec ws rm) cc maxL ret e s m args below meth c s₁ → c.maxLocals = maxL → (∀ x ∈ c.exceptionTable.toList, False) → Pc args s →
      W p l e (headSpec ws rm).room s m args below meth c s.heap [] 0 0 (vx_MQ below Qc XC args s mc ms free) (entryFrame m args maxL)) : vx_Met l y ws rm Pc Qc XC mc ms free := by
  refine MetFree.of_bodyS (code := cc) (maxLocals := maxL) (ret := ret) hy ?_ ?_
  · intro args s m h hn
    obtain ⟨meth, c, h1, h2, h3, h4, h5, h6, -, -⟩ := Cond.code_spec hn (atoms_spec (ws := ws) h _ (by rw [hw]; exact List.mem_cons_self))
    exact ⟨meth, c, h1, h2, h3, h4, h5, h6⟩
  · intro p e s m args below meth c s₁ B hml hP _
    have hh0 : s₁.heap = s.heap := by rw [B.state]; rfl
    have ht : ∀ x ∈ c.exceptionTable.toList, False := by
      obtain ⟨meth9, c9, h1, h2, -, -, -, -, h7, -⟩ := Cond.code_spec B.named (atoms_spec (ws := ws) B.pre _ (by rw [hw]; exact List.mem_cons_self))
      cases Option.some.inj (h1.symm.trans B.method)
      cases Option.some.inj (h2.symm.trans (Stand.of_body B).code)
      intro x hx
      rw [Array.isEmpty_iff.mp h7] at hx
      cases hx
    obtain ⟨t, a1, o, b1, b2, b3⟩ := body p e s m args below meth c s₁ B hml ht hP s₁ hh0 (Stand.of_body B)
    exact ⟨t, o, a1, b1, b2, b3⟩
/-- the table of a body with handlers -/
theorem vx_table {p : Program} {x y : MethodName} {S : Spec} {cc bytes : ByteArray} {maxL maxL' : Nat} {ret ret' : Option FieldType} {e : Env} {s s₁ : State} {m : MethodId} {args : Array Value} {below : List Frame} {meth : Method} {c : Code} {hh : List (Nat × Nat × Nat × Nat)}
    (B : BodyLoose p l y S cc maxL ret e s m args below meth c s₁) (h : (Cond.codeWith y bytes maxL' ret' hh).before args s = true) : c.exceptionTable.toList = tableOf hh := by
  obtain ⟨m9, meth9, c9, hn9, h1, h2, -, -, h6, -⟩ := Cond.codeWith_spec h
  cases Option.some.inj (hn9.symm.trans B.named)
  cases Option.some.inj (h1.symm.trans B.method)
  cases Option.some.inj (h2.symm.trans (Stand.of_body B).code)
  rw [← h6, table_eq]
end Bodies
end VXA
/-! ===== END ===== -/
/-! ===== BEGIN a static call of a method with an exception table ===== -/
section VXS
variable {p : Program} {l : Launch} {e : Env} {R : Room} {s : State} {m : MethodId} {args : Array Value} {below : List Frame} {meth : Method} {c : Code} {T : State} {H : Heap} {locs : List Loc} {cells slots : Nat}
abbrev vx_CSW (R : Room) (s : State) (args : Array Value) (own : String) (index : Nat) (y : MethodName) (bytes : ByteArray) (maxL : Nat) (ret : Option FieldType) (hh : List (Nat × Nat × Nat × Nat)) (ws : List Cond) (rm : Room) (mc ms n : Nat) : Prop :=
  (rm.cells = mc ∧ rm.slots = ms ∧ rm.frames + 1 ≤ R.frames ∧ 8 + (maxL + 11) + rm.locals ≤ R.locals ∧ (∀ w ∈ ws, ∀ (a' : Array Value) (U : State), s.WarmedH U.vm → w.before a' U = true) ∧ Cond.codeWith y bytes maxL ret hh ∈ ws) ∧
  (Cond.codeWith y bytes maxL ret hh).before args s = true ∧ (Cond.initialized y.cls).before args s = true ∧ (y.cls ≠ "java/lang/invoke/MethodHandle" ∧ y.cls ≠ "java/lang/invoke/VarHandle") ∧
  (∀ sig, parseMethodDescriptor y.desc = some sig → n = sig.parameters.length) ∧ (Cond.methodLink own index y).before args s = true ∧ (Cond.static y).before args s = true
theorem vx_cwSW {own : String} {index maxL mc ms : Nat} {y : MethodName} {bytes : ByteArray} {ret : Option FieldType} {hh : List (Nat × Nat × Nat × Nat)} {Ts ws ws' : List Cond} {rm : Room} (n : Nat) (ht : ∀ w ∈ Ts, w.before args s = true) (hT : GoodIn Ts (va_wsS own index y ws)) (hw : ws = Cond.codeWith y bytes maxL ret hh :: ws') (hrc : rm.cells = mc) (hrs : rm.slots = ms)
    (hd : y.cls ≠ "java/lang/invoke/MethodHandle" ∧ y.cls ≠ "java/lang/invoke/VarHandle" ∧ (parseMethodDescriptor y.desc).map (fun d => d.parameters.length) = some n) (hR : rm.frames + 1 ≤ R.frames ∧ 8 + (maxL + 11) + rm.locals ≤ R.locals) :
    vx_CSW R s args own index y bytes maxL ret hh ws rm mc ms n := by
  have ok : ∀ w ∈ va_wsS own index y ws, w.before args s = true := fun w h => ht w (hT w h).1
  have hG : GoodIn Ts ws := fun w h => hT w (by unfold va_wsS; exact List.mem_append_right _ h)
  have hc : Cond.codeWith y bytes maxL ret hh ∈ ws := by rw [hw]; exact List.mem_cons_self
  refine ⟨⟨hrc, hrs, hR.1, hR.2, pay_in ht hG, hc⟩, ht _ (hG _ hc).1, ok _ (by simp [va_wsS]), ⟨hd.1, hd.2.1⟩, fun sig h => ?_, ok _ (by simp [va_wsS]), ok _ (by simp [va_wsS])⟩
  have h2 := hd.2.2
  rw [h] at h2
  exact (Option.some.inj h2).symm
theorem vx_callSW (X : Stand p l e R s m args below meth c T locs cells slots) (hexec : p.tables.exec = Jvm.exec) {own : String} {index : Nat} {y : MethodName} {bytes : ByteArray} {maxL : Nat} {ret : Option FieldType} {hh : List (Nat × Nat × Nat × Nat)}
    (hown : s.vm.findClass own = some m.cls) (hlink : (Cond.methodLink own index y).before args s = true) (hstat : (Cond.static y).before args s = true) (hinit : (Cond.initialized y.cls).before args s = true)
    (hcode : (Cond.codeWith y bytes maxL ret hh).before args s = true) (hy : y.cls ≠ "java/lang/invoke/MethodHandle" ∧ y.cls ≠ "java/lang/invoke/VarHandle")
    {W9 : Nat} {Pre : Pt → Array Value → Prop} {Post : Pt → Array Value → Option Value → Pt → Prop} (hK : Back l R p e below s args y 3 W9 Pre Post)
    {g : JFrame} (hg : g.method = m) (hsize : g.locals.size = c.maxLocals) {argsL rest : List Value} (hlen : ∀ sig, parseMethodDescriptor y.desc = some sig → argsL.length = sig.parameters.length)
    (hstack : g.stack = argsL.reverse ++ rest) (hW : 2 * g.monitorRoom + (rest.map fun v => v.category).sum ≤ W9) (hdg : decode c.code g.pc = .ok (.invokestatic index, 3))
    (hpre : ∀ vm₁, s.WarmedH vm₁ → Pre ⟨T.setVm vm₁, locs, cells, slots⟩ argsL.toArray) :
    ∃ (v : Option Value) (vm₁ : Vm) (B : Pt), s.WarmedH vm₁ ∧ Stand p l e R s m args below meth c B.U B.locs B.cells B.slots ∧ Post ⟨T.setVm vm₁, locs, cells, slots⟩ argsL.toArray v B ∧
      ∀ target, Steps p.tables e below (B.U.setTop { g with pc := g.pc + 3, stack := v.toList ++ rest }) target → Steps p.tables e below (T.setTop g) target := by
  obtain ⟨mk, methM, cM, hnamed, hmethM, -, -, -, -, -, -, hsigM⟩ := Cond.codeWith_spec hcode
  have hstatic : methM.isStatic = true := Cond.static_spec hnamed hmethM hstat
  obtain ⟨kP, hkP, -⟩ := className_of_methodNamed hnamed
  have hinitP : kP.init = .initialized := Cond.initialized_spec (findClass_of_methodNamed hnamed) hkP hinit
  obtain ⟨vm₁, X₁, hstep₁⟩ := X.invokestatic hexec hown hlink hnamed hmethM hstatic hkP hinitP hy (g := g) hg (argsL := argsL) (rest := rest) (hlen _ hsigM) hstack hdg
  obtain ⟨v, B, X', hpost, hsteps⟩ := hK m meth c ⟨T.setVm vm₁, locs, cells, slots⟩ { g with stack := rest } (.invokestatic index) mk argsL.toArray X₁ hg hsize hdg hW (X₁.named hnamed) (hpre vm₁ X₁.warmed)
  exact ⟨v, vm₁, B, X₁.warmed, X', hpost, fun target h => hstep₁ _ fun acts => by rw [doInvoke_state]; exact hsteps.trans h⟩
theorem vx_runSW {y : MethodName} {bytes cc : ByteArray} {maxL nL mc ms n index : Nat} {ret : Option FieldType} {hh : List (Nat × Nat × Nat × Nat)} {ws : List Cond} {rm : Room} {Pc : Array Value → State → Prop} {Qc : Array Value → State → Outcome → State → Prop} {free : Addr → Prop} {Ts : List Cond} {own : String} {As rest : List Value} {g : JFrame}
    (S : CallFix p m c cc nL s args Ts own) (hM : Met l y ws rm Pc Qc mc ms free) (cw : vx_CSW R s args own index y bytes maxL ret hh ws rm mc ms n) (hp : PreS s H Pc As)
    (hg : g.method = m) (hn : As.length = n) (hsize : g.locals.size = nL) (hstack : g.stack = As.reverse ++ rest) (hW : 2 * g.monitorRoom + (rest.map fun v => v.category).sum ≤ 8) (hdg : decode cc g.pc = .ok (.invokestatic index, 3)) (hf : cells + mc ≤ R.cells ∧ slots + ms ≤ R.slots) :
    va_Run p l e R s m args below meth c H locs cells slots mc ms g rest (Qc As.toArray) (free) := by
  obtain ⟨⟨hrc, hrs, hfr, hlo, hws, hcw⟩, hcode, hini, hy, hlen, hl, hstt⟩ := cw
  have hK : Back l R p e below s args y 3 8 (PreOf R mc ms Pc) (PostOf Qc mc ms free) := va_backW (hh := hh) (bytes := bytes) (maxL := maxL) (ret := ret) hM hp.1 hrc hrs hfr hlo hws hcw (fun a' U hW => word_at hW (Or.inl (by first | rfl | simp [Cond.onTables, Cond.keeps, Cond.steady])) hini)
  obtain ⟨hx, hb, hml, ho, -⟩ := S
  intro T hT X
  obtain ⟨v, vm₁, ⟨U', l2, c2, s2⟩, hW₁, X', ⟨g', mk, t, L, e1, e2, hq, h1, hL, h2, h3⟩, st⟩ := vx_callSW X hx (hh := hh) (bytes := bytes) (maxL := maxL) (ret := ret) ho hl hstt hini hcode hy hK hg (hsize.trans hml.symm) (argsL := As) (rest := rest) (fun sig h => hn.trans (hlen sig h)) hstack hW (by rw [hb]; exact hdg)
    (fun vm₁ hW₁ => ⟨hf.1, hf.2, hp.2 (T.setVm vm₁) hT hW₁⟩)
  dsimp only [Pt.U, Pt.locs, Pt.cells, Pt.slots] at X' e1 e2 h1 h2 h3 st
  subst h1; subst h2; subst h3
  exact ⟨v, (T.setVm vm₁).calling g' mk As.toArray, t, U', L, hT, X', hL, e1, e2, hq, st⟩
/-- not caught here, past rows that name other classes: it goes on to the caller -/
theorem vx_outP {p : Program} {l : Launch} {e : Env} {R : Room} {s : State} {m : MethodId} {args : Array Value} {below : List Frame} {meth : Method} {c : Code} {H : Heap} {locs : List Loc} {cells slots : Nat} {free : Addr → Prop} {ls : Array Slot} {rest : List Value} {Qc : Array Value → State → Outcome → State → Prop} {XC : String → State → State → Prop}
    {pc : Nat} {own E : String} {ce : Cell} {q : Addr} {mc ms : Nat} (hown : s.vm.findClass own = some m.cls) (hlocks : meth.locks = false)
    (hpass : ∀ z ∈ c.exceptionTable.toList, covers z pc = false ∨ (z.catchType ≠ 0 ∧ ∃ nm : String, (Cond.classLink own z.catchType nm).before args s = true ∧ va_Nc E nm s)) (hcell : H[q]? = some ce) (hv : ce.vm = .none) (hcl : s.vm.findClass E = some ce.cls)
    (hx : ∀ t : State, t.heap = H → s.vm.Alike t.vm → XC E s t) (hf : ∀ z ∈ locs, free z.base) (hc : cells ≤ mc) (hs : slots ≤ ms) :
    vx_W p l e R s m args below meth c H locs cells slots (vx_MQ below Qc XC args s mc ms free) (F0 m pc ls rest) q := by
  intro T hT X
  have hpl : e.platform.magicAccessors = ({} : Platform).magicAccessors := by rw [X.admits.platform]
  obtain ⟨vm', hW', X', st⟩ := X.outThrough hlocks q (g := F0 m pc ls rest) rfl rfl rfl (cell := ce) (by rw [hT]; exact hcell) (by rw [hv]; rfl)
    (by obtain ⟨k9, h9, -⟩ := Vm.findClass_spec hcl; exact ⟨k9, h9⟩) (fun z hz => by
      rcases hpass z hz with h | ⟨hz0, nm, hl1, hn1⟩
      · exact Or.inl h
      · obtain ⟨c6, hc6, hcl6⟩ := Cond.classLink_spec hown hl1 e.platform hpl
        obtain ⟨a8, b8, h1, h2, h3⟩ := hn1
        cases Option.some.inj (h1.symm.trans hcl)
        cases Option.some.inj (h2.symm.trans hc6)
        exact Or.inr ⟨hz0, _, hcl6, h3⟩)
  obtain ⟨g₀, hfr⟩ := X'.frames_eq
  have hcell9 : ((T.setVm vm').setFrames (.throwing q :: below)).heap[q]? = some ce := by
    show T.heap[q]? = some ce
    rw [hT]; exact hcell
  have hend : Ended ((T.setVm vm').setFrames (.throwing q :: below)) below (.threw q) := State.frames_setFrames _ (State.cur_lt_of_frames hfr)
  refine ⟨(T.setVm vm').setFrames (.throwing q :: below), ?_, .threw q, X'.here.running, hend, Or.inr ⟨q, rfl, E, ce, locs, hx _ hT (X'.ends _).1.alike, hcell9, hv, hcl, (X'.ends _).1, (X'.ends _).2.mono hc hs, hf⟩⟩
  rw [X.pushThrowing_eq]
  exact st
/-- a thing of a world lies in the heap -/
theorem vx_lt {D : va_G} {cl : List vw_C} {ws : va_W} {H1 : Heap} (h : va_P D cl ws H1) {k : Nat} {q : Nat × va_E} (hk : ws[k]? = some q) : q.1 < H1.size := (h k q hk).lt
end VXS
/-! ===== END ===== -/
/-! ===== BEGIN methods with a table of their own: called by a name, returning or throwing ===== -/
section VXH
/-! vx_backW, vx_callVX, vx_callSX, vx_callVW, vx_runVW, vx_runVX, vx_runSX, vx_ofWH follow the same proofs as their sisters above (Free/Laws.lean, Shelf42/LK1.lean); vx_outP calls Shelf42/NT130.lean (outThrough). -/
section
variable {l : Launch} {R : Room} {p : Program} {e : Env} {below : List Frame} {s : State} {sargs : Array Value} {y : MethodName} {len W9 : Nat}
theorem vx_backW {ws : List Cond} {rm : Room} {Pc : Array Value → State → Prop} {Qc : Array Value → State → Outcome → State → Prop} {XC : String → State → State → Prop} {mc ms : Nat} {free : Addr → Prop} {bytes : ByteArray} {maxL : Nat} {ret : Option FieldType} {hh : List (Nat × Nat × Nat × Nat)}
    (hM : vx_Met l y ws rm Pc Qc XC mc ms free) (hblind : FrameBlind Pc) (hrc : rm.cells = mc) (hrs : rm.slots = ms)
    (hframes : rm.frames + 1 ≤ R.frames) (hlocals : W9 + (maxL + 11) + rm.locals ≤ R.locals)
    (hws : ∀ w ∈ ws, ∀ a' U, s.WarmedH U.vm → w.before a' U = true) (hcode : Cond.codeWith y bytes maxL ret hh ∈ ws) (hinit : ∀ a' U, s.WarmedH U.vm → (Cond.initialized y.cls).before a' U = true) :
    vx_Back l R p e below s sargs y len W9 (PreOf R mc ms Pc) (PostOf Qc mc ms free) (vx_Post XC mc ms free) := by
  intro m meth c A g ig mk a X hg hsize hdg hW hn hp
  have h1 : (headSpec ws rm).pre.before a A.U = true := atoms_intro fun w hw => hws w hw _ _ X.warmed
  have h2 : (Cond.codeWith y bytes maxL ret hh).before a A.U = true := hws _ hcode _ _ X.warmed
  have h3 : (Cond.initialized y.cls).before a A.U = true := hinit _ _ X.warmed
  have h4 : A.cells + (headSpec ws rm).room.cells ≤ R.cells := by rw [show (headSpec ws rm).room.cells = mc from hrc]; exact hp.1
  have h5 : A.slots + (headSpec ws rm).room.slots ≤ R.slots := by rw [show (headSpec ws rm).room.slots = ms from hrs]; exact hp.2.1
  have hPc : Pc a (A.U.calling g mk a) := hblind _ _ _ _ hp.2.2
  obtain ⟨U, Ls, c0, s0⟩ := A
  dsimp only [Pt.U, Pt.locs, Pt.cells, Pt.slots] at h1 h2 h3 h4 h5 X hn hPc ⊢
  obtain ⟨m9, methY, cY, hn9, hmY, hcY, -, hlY, -⟩ := Cond.codeWith_spec h2
  cases Option.some.inj (hn9.symm.trans hn)
  obtain ⟨kY, hkY, -⟩ := className_of_methodNamed hn
  have hinitY : kY.init = .initialized := Cond.initialized_spec (findClass_of_methodNamed hn) hkY h3
  have h : At U g.method c below := by rw [hg]; exact X.here
  have hlocals9 : W9 + (maxL + 11) + (headSpec ws rm).room.locals ≤ R.locals := hlocals
  have happ : (headSpec ws rm).appliesLoose y e.platform (U.calling g mk a) = true :=
    Spec.appliesLoose_calling (g := g) h hdg hn hkY hinitY
      (X.room_calling (g := g) (R' := (headSpec ws rm).room) hsize hmY hcY hframes (by rw [hlY]; omega) h4 h5) h1
  obtain ⟨mid, hmid⟩ := h.above
  have hfr : (U.setTop g).frames = (.java g :: mid) ++ below := by rw [State.frames_setTop' g h.top, hmid]; rfl
  obtain ⟨o, s₂, hsteps, -, hend, hq⟩ := Steps.callFree hM p X.admits X.cas X.clock (acts := []) hfr happ hPc trivial
  have hq' : vx_Q Qc XC mc ms free a (U.calling g mk a) o s₂ := hq
  rw [State.frames_setTop' g h.top] at hend
  obtain ⟨g₀, hg0⟩ := Option.isSome_iff_exists.mp h.top
  obtain ⟨r, hr⟩ := State.topJava?_eq_some.mp hg0
  have hr' : (({ U with heap := s₂.heap, slotsUsed := s₂.slotsUsed } : State).setVm s₂.vm).frames = .java g₀ :: r := hr
  rcases hq' with ⟨hqc, L, hfe, hL⟩ | ⟨q, rfl, E, ce, L, hx, hce, hcv, hcl, hW₂, hsm, hL⟩
  · obtain ⟨⟨v, rfl⟩, hW₂, e2, q2, q3, q4, q5, q6⟩ := id hfe
    have e3 : s₂ = ({ (U.calling g mk a).setFrames s₂.frames with heap := s₂.heap, slotsUsed := s₂.slotsUsed } : State).setVm s₂.vm := by
      have : s₂ = ({ s₂ with vm := (U.calling g mk a).vm } : State).setVm s₂.vm := rfl
      rw [e2] at this
      exact this
    obtain ⟨c₂, i₂, len₂, hc₂, hd₂, hf₂⟩ := hend
    have hW' : U.WarmedH s₂.vm := hW₂
    have hcc : c₂ = c := by
      have h1 : s₂.code? g.method = U.code? g.method := by
        rw [State.code?_eq, State.code?_eq, hW'.alike.method?]
      exact Option.some.inj (hc₂.symm.trans (h1.trans h.code))
    subst hcc
    have hlen : len₂ = len := by rw [hdg] at hd₂; cases hd₂; rfl
    subst hlen
    have hs₂ : s₂ = (({ U with heap := s₂.heap, slotsUsed := s₂.slotsUsed } : State).setVm s₂.vm).setTop { g with pc := g.pc + len₂, stack := v.toList ++ g.stack } := by
      refine e3.trans ?_
      rw [hf₂, State.calling_eq h.top, State.setFrames_setFrames, State.setTop_of_frames _ hr', hr]
      rfl
    have hsame : U.sameButNew ({ U with heap := s₂.heap, slotsUsed := s₂.slotsUsed } : State) L mc ms := by
      refine ⟨?_, q2, q3, q4, q5, q6⟩
      obtain ⟨t, ht, -⟩ := State.frames_cons hr
      show ({ U with heap := s₂.heap, slotsUsed := s₂.slotsUsed } : State) = { U.setFrames U.frames with heap := s₂.heap, slotsUsed := s₂.slotsUsed }
      rw [State.setFrames_self ht]
    subst hg
    refine Or.inl ⟨v, ⟨(({ U with heap := s₂.heap, slotsUsed := s₂.slotsUsed } : State).setVm s₂.vm), Ls ++ L, c0 + mc, s0 + ms⟩,
      ⟨X.admits, X.cas, X.clock, X.frames, X.room, X.hears, X.method, X.code, (X.here.setHeapUsed s₂.heap s₂.slotsUsed).setVm hW'.alike, X.tail, State.WarmedH.trans X.warmed hW', X.limits, X.bytes, X.same.trans (hsame.setVm s.vm)⟩,
      ⟨g, mk, s₂, L, rfl, rfl, hqc, rfl, hL, rfl, rfl⟩, ?_⟩
    show Steps p.tables e below _ ((({ U with heap := s₂.heap, slotsUsed := s₂.slotsUsed } : State).setVm s₂.vm).setTop { g with pc := g.pc + len₂, stack := v.toList ++ g.stack })
    rw [← hs₂]
    exact hsteps
  · obtain ⟨e2, q2, q3, q4, q5, q6⟩ := id hsm
    have e3 : s₂ = ({ (U.calling g mk a).setFrames s₂.frames with heap := s₂.heap, slotsUsed := s₂.slotsUsed } : State).setVm s₂.vm := by
      have : s₂ = ({ s₂ with vm := (U.calling g mk a).vm } : State).setVm s₂.vm := rfl
      rw [e2] at this
      exact this
    have hf₂ : s₂.frames = .throwing q :: .java g :: U.frames.tail := hend
    have hW' : U.WarmedH s₂.vm := hW₂
    have hs₂ : s₂ = ((({ U with heap := s₂.heap, slotsUsed := s₂.slotsUsed } : State).setVm s₂.vm).setTop g).pushFrame (.throwing q) := by
      refine e3.trans ?_
      rw [hf₂, State.calling_eq h.top, State.setFrames_setFrames, State.pushFrame, State.frames_setTop _ hr', State.setTop_of_frames _ hr', State.setFrames_setFrames, hr]
      rfl
    have hsame : U.sameButNew ({ U with heap := s₂.heap, slotsUsed := s₂.slotsUsed } : State) L mc ms := by
      refine ⟨?_, q2, q3, q4, q5, q6⟩
      obtain ⟨t, ht, -⟩ := State.frames_cons hr
      show ({ U with heap := s₂.heap, slotsUsed := s₂.slotsUsed } : State) = { U.setFrames U.frames with heap := s₂.heap, slotsUsed := s₂.slotsUsed }
      rw [State.setFrames_self ht]
    subst hg
    refine Or.inr ⟨q, ⟨(({ U with heap := s₂.heap, slotsUsed := s₂.slotsUsed } : State).setVm s₂.vm), Ls ++ L, c0 + mc, s0 + ms⟩,
      ⟨X.admits, X.cas, X.clock, X.frames, X.room, X.hears, X.method, X.code, (X.here.setHeapUsed s₂.heap s₂.slotsUsed).setVm hW'.alike, X.tail, State.WarmedH.trans X.warmed hW', X.limits, X.bytes, X.same.trans (hsame.setVm s.vm)⟩,
      ⟨g, mk, s₂, L, E, ce, rfl, rfl, hx, hce, hcv, hcl, rfl, hL, rfl, rfl⟩, ?_⟩
    show Steps p.tables e below _ (((({ U with heap := s₂.heap, slotsUsed := s₂.slotsUsed } : State).setVm s₂.vm).setTop g).pushFrame (.throwing q))
    rw [← hs₂]
    exact hsteps
end
variable {p : Program} {l : Launch} {e : Env} {R : Room} {s : State} {m : MethodId} {args : Array Value} {below : List Frame} {meth : Method} {c : Code} {T : State} {H : Heap} {locs : List Loc} {cells slots : Nat}
theorem vx_callVX (X : Stand p l e R s m args below meth c T locs cells slots) (hexec : p.tables.exec = Jvm.exec) {own C : String} {index : Nat} {y : MethodName} {bytes : ByteArray} {maxL : Nat} {ret : Option FieldType} {hh : List (Nat × Nat × Nat × Nat)}
    (hown : s.vm.findClass own = some m.cls) (hlink : (Cond.methodLink own index y).before args s = true) (hinst : (Cond.instanceMethod y).before args s = true) (hsel : (Cond.selects C y y).before args s = true)
    (hcode : (Cond.codeWith y bytes maxL ret hh).before args s = true) (hy : y.cls ≠ "java/lang/invoke/MethodHandle" ∧ y.cls ≠ "java/lang/invoke/VarHandle")
    {W9 : Nat} {Pre : Pt → Array Value → Prop} {Post : Pt → Array Value → Option Value → Pt → Prop} {PostX : Pt → Array Value → Addr → Pt → Prop} (hK : vx_Back l R p e below s args y 3 W9 Pre Post PostX)
    {b : Addr} {cellB : Cell} (hcell : T.heap[b]? = some cellB) (hobj : cellB.vm.isStatics = false) (hcls : s.vm.findClass C = some cellB.cls)
    {g : JFrame} (hg : g.method = m) (hsize : g.locals.size = c.maxLocals) {argsL rest : List Value} (hlen : ∀ sig, parseMethodDescriptor y.desc = some sig → argsL.length = sig.parameters.length)
    (hstack : g.stack = argsL.reverse ++ .ref b :: rest) (hW : 2 * g.monitorRoom + (rest.map fun v => v.category).sum ≤ W9) (hdg : decode c.code g.pc = .ok (.invokevirtual index, 3))
    (hpre : ∀ vm₁, s.WarmedH vm₁ → Pre ⟨T.setVm vm₁, locs, cells, slots⟩ (Value.ref b :: argsL).toArray) :
    (∃ (v : Option Value) (vm₁ : Vm) (B : Pt), s.WarmedH vm₁ ∧ Stand p l e R s m args below meth c B.U B.locs B.cells B.slots ∧ Post ⟨T.setVm vm₁, locs, cells, slots⟩ (Value.ref b :: argsL).toArray v B ∧
      ∀ target, Steps p.tables e below (B.U.setTop { g with pc := g.pc + 3, stack := v.toList ++ rest }) target → Steps p.tables e below (T.setTop g) target) ∨
    (∃ (q : Addr) (vm₁ : Vm) (B : Pt), s.WarmedH vm₁ ∧ Stand p l e R s m args below meth c B.U B.locs B.cells B.slots ∧ PostX ⟨T.setVm vm₁, locs, cells, slots⟩ (Value.ref b :: argsL).toArray q B ∧
      Steps p.tables e below (T.setTop g) ((B.U.setTop { g with stack := rest }).pushFrame (.throwing q))) := by
  obtain ⟨mk, methM, hnamed, hmethM, hstM, habM⟩ := Cond.instanceMethod_spec hinst
  obtain ⟨m8, methM', cM, hn8, hmethM', -, -, -, -, -, -, hsigM⟩ := Cond.codeWith_spec hcode
  cases Option.some.inj (hn8.symm.trans hnamed)
  cases hmethM.symm.trans hmethM'
  obtain ⟨c2, r2, m2, q1, q2, q3, q4, kP, hkP, hkPi⟩ := Cond.selects_spec hsel
  cases hcls.symm.trans q1
  cases (State.methodFound?_of_named hnamed hy).symm.trans q2
  cases hnamed.symm.trans q3
  have hselP : selectMethod e.platform s.vm cellB.cls mk = .method mk := by rw [Launch.admits_selectMethod X.admits]; exact q4
  obtain ⟨vm₁, X₁, hstep₁⟩ := X.invokevirtual hexec hown hlink hnamed hmethM hstM hkP hkPi hy (a := b) (cell := cellB) hcell
    (fun z h => by rw [h] at hobj; cases hobj) hselP hmethM habM hkP hkPi (g := g) hg (argsL := argsL) (rest := rest) (hlen _ hsigM) hstack hdg
  rcases hK m meth c ⟨T.setVm vm₁, locs, cells, slots⟩ { g with stack := rest } (.invokevirtual index) mk (Value.ref b :: argsL).toArray X₁ hg hsize hdg hW (X₁.named hnamed) (hpre vm₁ X₁.warmed) with ⟨v, B, X', hpost, hsteps⟩ | ⟨q, B, X', hpost, hsteps⟩
  · exact Or.inl ⟨v, vm₁, B, X₁.warmed, X', hpost, fun target h => hstep₁ _ fun acts => by rw [doInvoke_state]; exact hsteps.trans h⟩
  · exact Or.inr ⟨q, vm₁, B, X₁.warmed, X', hpost, hstep₁ _ fun acts => by rw [doInvoke_state]; exact hsteps⟩
theorem vx_callSX (X : Stand p l e R s m args below meth c T locs cells slots) (hexec : p.tables.exec = Jvm.exec) {own : String} {index : Nat} {y : MethodName} {bytes : ByteArray} {maxL : Nat} {ret : Option FieldType} {hh : List (Nat × Nat × Nat × Nat)}
    (hown : s.vm.findClass own = some m.cls) (hlink : (Cond.methodLink own index y).before args s = true) (hstat : (Cond.static y).before args s = true) (hinit : (Cond.initialized y.cls).before args s = true)
    (hcode : (Cond.codeWith y bytes maxL ret hh).before args s = true) (hy : y.cls ≠ "java/lang/invoke/MethodHandle" ∧ y.cls ≠ "java/lang/invoke/VarHandle")
    {W9 : Nat} {Pre : Pt → Array Value → Prop} {Post : Pt → Array Value → Option Value → Pt → Prop} {PostX : Pt → Array Value → Addr → Pt → Prop} (hK : vx_Back l R p e below s args y 3 W9 Pre Post PostX)
    {g : JFrame} (hg : g.method = m) (hsize : g.locals.size = c.maxLocals) {argsL rest : List Value} (hlen : ∀ sig, parseMethodDescriptor y.desc = some sig → argsL.length = sig.parameters.length)
    (hstack : g.stack = argsL.reverse ++ rest) (hW : 2 * g.monitorRoom + (rest.map fun v => v.category).sum ≤ W9) (hdg : decode c.code g.pc = .ok (.invokestatic index, 3))
    (hpre : ∀ vm₁, s.WarmedH vm₁ → Pre ⟨T.setVm vm₁, locs, cells, slots⟩ argsL.toArray) :
    (∃ (v : Option Value) (vm₁ : Vm) (B : Pt), s.WarmedH vm₁ ∧ Stand p l e R s m args below meth c B.U B.locs B.cells B.slots ∧ Post ⟨T.setVm vm₁, locs, cells, slots⟩ argsL.toArray v B ∧
      ∀ target, Steps p.tables e below (B.U.setTop { g with pc := g.pc + 3, stack := v.toList ++ rest }) target → Steps p.tables e below (T.setTop g) target) ∨
    (∃ (q : Addr) (vm₁ : Vm) (B : Pt), s.WarmedH vm₁ ∧ Stand p l e R s m args below meth c B.U B.locs B.cells B.slots ∧ PostX ⟨T.setVm vm₁, locs, cells, slots⟩ argsL.toArray q B ∧
      Steps p.tables e below (T.setTop g) ((B.U.setTop { g with stack := rest }).pushFrame (.throwing q))) := by
  obtain ⟨mk, methM, cM, hnamed, hmethM, -, -, -, -, -, -, hsigM⟩ := Cond.codeWith_spec hcode
  have hstatic : methM.isStatic = true := Cond.static_spec hnamed hmethM hstat
  obtain ⟨kP, hkP, -⟩ := className_of_methodNamed hnamed
  have hinitP : kP.init = .initialized := Cond.initialized_spec (findClass_of_methodNamed hnamed) hkP hinit
  obtain ⟨vm₁, X₁, hstep₁⟩ := X.invokestatic hexec hown hlink hnamed hmethM hstatic hkP hinitP hy (g := g) hg (argsL := argsL) (rest := rest) (hlen _ hsigM) hstack hdg
  rcases hK m meth c ⟨T.setVm vm₁, locs, cells, slots⟩ { g with stack := rest } (.invokestatic index) mk argsL.toArray X₁ hg hsize hdg hW (X₁.named hnamed) (hpre vm₁ X₁.warmed) with ⟨v, B, X', hpost, hsteps⟩ | ⟨q, B, X', hpost, hsteps⟩
  · exact Or.inl ⟨v, vm₁, B, X₁.warmed, X', hpost, fun target h => hstep₁ _ fun acts => by rw [doInvoke_state]; exact hsteps.trans h⟩
  · exact Or.inr ⟨q, vm₁, B, X₁.warmed, X', hpost, hstep₁ _ fun acts => by rw [doInvoke_state]; exact hsteps⟩
theorem vx_callVW (X : Stand p l e R s m args below meth c T locs cells slots) (hexec : p.tables.exec = Jvm.exec) {own C : String} {index : Nat} {y : MethodName} {bytes : ByteArray} {maxL : Nat} {ret : Option FieldType} {hh : List (Nat × Nat × Nat × Nat)}
    (hown : s.vm.findClass own = some m.cls) (hlink : (Cond.methodLink own index y).before args s = true) (hinst : (Cond.instanceMethod y).before args s = true) (hsel : (Cond.selects C y y).before args s = true)
    (hcode : (Cond.codeWith y bytes maxL ret hh).before args s = true) (hy : y.cls ≠ "java/lang/invoke/MethodHandle" ∧ y.cls ≠ "java/lang/invoke/VarHandle")
    {W9 : Nat} {Pre : Pt → Array Value → Prop} {Post : Pt → Array Value → Option Value → Pt → Prop} (hK : Back l R p e below s args y 3 W9 Pre Post)
    {b : Addr} {cellB : Cell} (hcell : T.heap[b]? = some cellB) (hobj : cellB.vm.isStatics = false) (hcls : s.vm.findClass C = some cellB.cls)
    {g : JFrame} (hg : g.method = m) (hsize : g.locals.size = c.maxLocals) {argsL rest : List Value} (hlen : ∀ sig, parseMethodDescriptor y.desc = some sig → argsL.length = sig.parameters.length)
    (hstack : g.stack = argsL.reverse ++ .ref b :: rest) (hW : 2 * g.monitorRoom + (rest.map fun v => v.category).sum ≤ W9) (hdg : decode c.code g.pc = .ok (.invokevirtual index, 3))
    (hpre : ∀ vm₁, s.WarmedH vm₁ → Pre ⟨T.setVm vm₁, locs, cells, slots⟩ (Value.ref b :: argsL).toArray) :
    ∃ (v : Option Value) (vm₁ : Vm) (B : Pt), s.WarmedH vm₁ ∧ Stand p l e R s m args below meth c B.U B.locs B.cells B.slots ∧ Post ⟨T.setVm vm₁, locs, cells, slots⟩ (Value.ref b :: argsL).toArray v B ∧
      ∀ target, Steps p.tables e below (B.U.setTop { g with pc := g.pc + 3, stack := v.toList ++ rest }) target → Steps p.tables e below (T.setTop g) target := by
  obtain ⟨mk, methM, hnamed, hmethM, hstM, habM⟩ := Cond.instanceMethod_spec hinst
  obtain ⟨m8, methM', cM, hn8, hmethM', -, -, -, -, -, -, hsigM⟩ := Cond.codeWith_spec hcode
  cases Option.some.inj (hn8.symm.trans hnamed)
  cases hmethM.symm.trans hmethM'
  obtain ⟨c2, r2, m2, q1, q2, q3, q4, kP, hkP, hkPi⟩ := Cond.selects_spec hsel
  cases hcls.symm.trans q1
  cases (State.methodFound?_of_named hnamed hy).symm.trans q2
  cases hnamed.symm.trans q3
  have hselP : selectMethod e.platform s.vm cellB.cls mk = .method mk := by rw [Launch.admits_selectMethod X.admits]; exact q4
  obtain ⟨vm₁, X₁, hstep₁⟩ := X.invokevirtual hexec hown hlink hnamed hmethM hstM hkP hkPi hy (a := b) (cell := cellB) hcell
    (fun z h => by rw [h] at hobj; cases hobj) hselP hmethM habM hkP hkPi (g := g) hg (argsL := argsL) (rest := rest) (hlen _ hsigM) hstack hdg
  obtain ⟨v, B, X', hpost, hsteps⟩ := hK m meth c ⟨T.setVm vm₁, locs, cells, slots⟩ { g with stack := rest } (.invokevirtual index) mk (Value.ref b :: argsL).toArray X₁ hg hsize hdg hW (X₁.named hnamed) (hpre vm₁ X₁.warmed)
  exact ⟨v, vm₁, B, X₁.warmed, X', hpost, fun target h => hstep₁ _ fun acts => by rw [doInvoke_state]; exact hsteps.trans h⟩
abbrev vx_CVW (R : Room) (s : State) (args : Array Value) (own C : String) (index : Nat) (y : MethodName) (bytes : ByteArray) (maxL : Nat) (ret : Option FieldType) (hh : List (Nat × Nat × Nat × Nat)) (ws : List Cond) (rm : Room) (mc ms n : Nat) : Prop :=
  (rm.cells = mc ∧ rm.slots = ms ∧ rm.frames + 1 ≤ R.frames ∧ 8 + (maxL + 11) + rm.locals ≤ R.locals ∧ (∀ w ∈ ws, ∀ (a' : Array Value) (U : State), s.WarmedH U.vm → w.before a' U = true) ∧ Cond.codeWith y bytes maxL ret hh ∈ ws) ∧
  (Cond.codeWith y bytes maxL ret hh).before args s = true ∧ (Cond.initialized y.cls).before args s = true ∧ (y.cls ≠ "java/lang/invoke/MethodHandle" ∧ y.cls ≠ "java/lang/invoke/VarHandle") ∧
  (∀ sig, parseMethodDescriptor y.desc = some sig → n = sig.parameters.length) ∧ (Cond.methodLink own index y).before args s = true ∧ (Cond.instanceMethod y).before args s = true ∧ (Cond.selects C y y).before args s = true
theorem vx_cwVW {own C : String} {index maxL mc ms : Nat} {y : MethodName} {bytes : ByteArray} {ret : Option FieldType} {hh : List (Nat × Nat × Nat × Nat)} {Ts ws ws' : List Cond} {rm : Room} (n : Nat) (ht : ∀ w ∈ Ts, w.before args s = true) (hT : GoodIn Ts (wsV own index C y ws)) (hw : ws = Cond.codeWith y bytes maxL ret hh :: ws') (hrc : rm.cells = mc) (hrs : rm.slots = ms)
    (hd : y.cls = C ∧ y.cls ≠ "java/lang/invoke/MethodHandle" ∧ y.cls ≠ "java/lang/invoke/VarHandle" ∧ (parseMethodDescriptor y.desc).map (fun d => d.parameters.length) = some n) (hR : rm.frames + 1 ≤ R.frames ∧ 8 + (maxL + 11) + rm.locals ≤ R.locals) :
    vx_CVW R s args own C index y bytes maxL ret hh ws rm mc ms n := by
  obtain ⟨hC, hd⟩ := hd
  subst hC
  have ok : ∀ w ∈ wsV own index y.cls y ws, w.before args s = true := fun w h => ht w (hT w h).1
  have hG : GoodIn Ts ws := fun w h => hT w (by unfold wsV; exact List.mem_append_right _ h)
  have hc : Cond.codeWith y bytes maxL ret hh ∈ ws := by rw [hw]; exact List.mem_cons_self
  refine ⟨⟨hrc, hrs, hR.1, hR.2, pay_in ht hG, hc⟩, ht _ (hG _ hc).1, ok _ (by simp [wsV]), ⟨hd.1, hd.2.1⟩, fun sig h => ?_, ok _ (by simp [wsV]), ok _ (by simp [wsV]), ok _ (by simp [wsV])⟩
  have h2 := hd.2.2
  rw [h] at h2
  exact (Option.some.inj h2).symm
theorem vx_runVW {y : MethodName} {bytes cc : ByteArray} {maxL nL mc ms n index : Nat} {ret : Option FieldType} {hh : List (Nat × Nat × Nat × Nat)} {ws : List Cond} {rm : Room} {Pc : Array Value → State → Prop} {Qc : Array Value → State → Outcome → State → Prop} {free : Addr → Prop} {Ts : List Cond} {own C : String} {b : Addr} {As rest : List Value} {g : JFrame}
    (S : CallFix p m c cc nL s args Ts own) (hM : Met l y ws rm Pc Qc mc ms free) (cw : vx_CVW R s args own C index y bytes maxL ret hh ws rm mc ms n) (hp : PreV s H C b Pc As)
    (hg : g.method = m) (hn : As.length = n) (hsize : g.locals.size = nL) (hstack : g.stack = As.reverse ++ .ref b :: rest) (hW : 2 * g.monitorRoom + (rest.map fun v => v.category).sum ≤ 8) (hdg : decode cc g.pc = .ok (.invokevirtual index, 3)) (hf : cells + mc ≤ R.cells ∧ slots + ms ≤ R.slots) :
    va_Run p l e R s m args below meth c H locs cells slots mc ms g rest (Qc (Value.ref b :: As).toArray) free := by
  obtain ⟨⟨hrc, hrs, hfr, hlo, hws, hcw⟩, hcode, hini, hy, hlen, hl, hin, hse⟩ := cw
  have hK : Back l R p e below s args y 3 8 (PreOf R mc ms Pc) (PostOf Qc mc ms free) := va_backW (hh := hh) (bytes := bytes) (maxL := maxL) (ret := ret) hM hp.1 hrc hrs hfr hlo hws hcw (fun a' U hW => word_at hW (Or.inl (by first | rfl | simp [Cond.onTables, Cond.keeps, Cond.steady])) hini)
  obtain ⟨hx, hb, hml, ho, -⟩ := S
  obtain ⟨-, ⟨cellB, hcB, hoB, hclB⟩, hPc⟩ := hp
  intro T hT X
  obtain ⟨v, vm₁, ⟨U', l2, c2, s2⟩, hW₁, X', ⟨g', mk, t, L, e1, e2, hq, h1, hL, h2, h3⟩, st⟩ := vx_callVW X hx (C := C) (hh := hh) (bytes := bytes) (maxL := maxL) (ret := ret) ho hl hin hse hcode hy hK (by rw [hT]; exact hcB) hoB hclB hg (hsize.trans hml.symm) (argsL := As) (rest := rest) (fun sig h => hn.trans (hlen sig h)) hstack hW (by rw [hb]; exact hdg)
    (fun vm₁ hW₁ => ⟨hf.1, hf.2, hPc (T.setVm vm₁) hT hW₁⟩)
  dsimp only [Pt.U, Pt.locs, Pt.cells, Pt.slots] at X' e1 e2 h1 h2 h3 st
  subst h1; subst h2; subst h3
  exact ⟨v, (T.setVm vm₁).calling g' mk (Value.ref b :: As).toArray, t, U', L, hT, X', hL, e1, e2, hq, st⟩
section
variable {y : MethodName} {bytes cc : ByteArray} {maxL nL mc ms n index : Nat} {ret : Option FieldType} {ws : List Cond} {rm : Room} {Pc : Array Value → State → Prop} {Qc : Array Value → State → Outcome → State → Prop} {XC : String → State → State → Prop} {free : Addr → Prop} {Ts : List Cond} {own C : String} {b : Addr} {As rest : List Value} {g : JFrame}
theorem vx_runVX {hh : List (Nat × Nat × Nat × Nat)} (S : CallFix p m c cc nL s args Ts own) (hM : vx_Met l y ws rm Pc Qc XC mc ms free) (cw : vx_CVW R s args own C index y bytes maxL ret hh ws rm mc ms n) (hp : PreV s H C b Pc As)
    (hg : g.method = m) (hn : As.length = n) (hsize : g.locals.size = nL) (hstack : g.stack = As.reverse ++ .ref b :: rest) (hW : 2 * g.monitorRoom + (rest.map fun v => v.category).sum ≤ 8) (hdg : decode cc g.pc = .ok (.invokevirtual index, 3)) (hf : cells + mc ≤ R.cells ∧ slots + ms ≤ R.slots) :
    vx_Run p l e R s m args below meth c H locs cells slots mc ms g rest (Qc (Value.ref b :: As).toArray) XC free := by
  obtain ⟨⟨hrc, hrs, hfr, hlo, hws, hcw⟩, hcode, hini, hy, hlen, hl, hin, hse⟩ := cw
  have hK : vx_Back l R p e below s args y 3 8 (PreOf R mc ms Pc) (PostOf Qc mc ms free) (vx_Post XC mc ms free) := vx_backW (hh := hh) (bytes := bytes) (maxL := maxL) (ret := ret) hM hp.1 hrc hrs hfr hlo hws hcw (fun a' U hW => word_at hW (Or.inl (by first | rfl | simp [Cond.onTables, Cond.keeps, Cond.steady])) hini)
  obtain ⟨hx, hb, hml, ho, -⟩ := S
  obtain ⟨-, ⟨cellB, hcB, hoB, hclB⟩, hPc⟩ := hp
  intro T hT X
  rcases vx_callVX X hx (C := C) (hh := hh) (bytes := bytes) (maxL := maxL) (ret := ret) ho hl hin hse hcode hy hK (by rw [hT]; exact hcB) hoB hclB hg (hsize.trans hml.symm) (argsL := As) (rest := rest) (fun sig h => hn.trans (hlen sig h)) hstack hW (by rw [hb]; exact hdg)
    (fun vm₁ hW₁ => ⟨hf.1, hf.2, hPc (T.setVm vm₁) hT hW₁⟩) with ⟨v, vm₁, ⟨U', l2, c2, s2⟩, hW₁, X', ⟨g', mk, t, L, e1, e2, hq, h1, hL, h2, h3⟩, st⟩ | ⟨q, vm₁, ⟨U', l2, c2, s2⟩, hW₁, X', ⟨g', mk, t, L, E, ce, e1, e2, hq, hce, hcv, hcl, h1, hL, h2, h3⟩, st⟩
  · dsimp only [Pt.U, Pt.locs, Pt.cells, Pt.slots] at X' e1 e2 h1 h2 h3 st
    subst h1; subst h2; subst h3
    exact Or.inl ⟨v, (T.setVm vm₁).calling g' mk (Value.ref b :: As).toArray, t, U', L, hT, X', hL, e1, e2, hq, st⟩
  · dsimp only [Pt.U, Pt.locs, Pt.cells, Pt.slots] at X' e1 e2 h1 h2 h3 st hcl
    subst h1; subst h2; subst h3
    exact Or.inr ⟨q, (T.setVm vm₁).calling g' mk (Value.ref b :: As).toArray, t, U', L, E, ce, hT, X', hL, e1, e2, hq, hce, hcv, vx_cls hW₁ hcl, st⟩
theorem vx_runSX {hh : List (Nat × Nat × Nat × Nat)} (S : CallFix p m c cc nL s args Ts own) (hM : vx_Met l y ws rm Pc Qc XC mc ms free) (cw : vx_CSW R s args own index y bytes maxL ret hh ws rm mc ms n) (hp : PreS s H Pc As)
    (hg : g.method = m) (hn : As.length = n) (hsize : g.locals.size = nL) (hstack : g.stack = As.reverse ++ rest) (hW : 2 * g.monitorRoom + (rest.map fun v => v.category).sum ≤ 8) (hdg : decode cc g.pc = .ok (.invokestatic index, 3)) (hf : cells + mc ≤ R.cells ∧ slots + ms ≤ R.slots) :
    vx_Run p l e R s m args below meth c H locs cells slots mc ms g rest (Qc As.toArray) XC free := by
  obtain ⟨⟨hrc, hrs, hfr, hlo, hws, hcw⟩, hcode, hini, hy, hlen, hl, hstt⟩ := cw
  have hK : vx_Back l R p e below s args y 3 8 (PreOf R mc ms Pc) (PostOf Qc mc ms free) (vx_Post XC mc ms free) := vx_backW (hh := hh) (bytes := bytes) (maxL := maxL) (ret := ret) hM hp.1 hrc hrs hfr hlo hws hcw (fun a' U hW => word_at hW (Or.inl (by first | rfl | simp [Cond.onTables, Cond.keeps, Cond.steady])) hini)
  obtain ⟨hx, hb, hml, ho, -⟩ := S
  intro T hT X
  rcases vx_callSX X hx (hh := hh) (bytes := bytes) (maxL := maxL) (ret := ret) ho hl hstt hini hcode hy hK hg (hsize.trans hml.symm) (argsL := As) (rest := rest) (fun sig h => hn.trans (hlen sig h)) hstack hW (by rw [hb]; exact hdg)
    (fun vm₁ hW₁ => ⟨hf.1, hf.2, hp.2 (T.setVm vm₁) hT hW₁⟩) with ⟨v, vm₁, ⟨U', l2, c2, s2⟩, hW₁, X', ⟨g', mk, t, L, e1, e2, hq, h1, hL, h2, h3⟩, st⟩ | ⟨q, vm₁, ⟨U', l2, c2, s2⟩, hW₁, X', ⟨g', mk, t, L, E, ce, e1, e2, hq, hce, hcv, hcl, h1, hL, h2, h3⟩, st⟩
  · dsimp only [Pt.U, Pt.locs, Pt.cells, Pt.slots] at X' e1 e2 h1 h2 h3 st
    subst h1; subst h2; subst h3
    exact Or.inl ⟨v, (T.setVm vm₁).calling g' mk As.toArray, t, U', L, hT, X', hL, e1, e2, hq, st⟩
  · dsimp only [Pt.U, Pt.locs, Pt.cells, Pt.slots] at X' e1 e2 h1 h2 h3 st hcl
    subst h1; subst h2; subst h3
    exact Or.inr ⟨q, (T.setVm vm₁).calling g' mk As.toArray, t, U', L, E, ce, hT, X', hL, e1, e2, hq, hce, hcv, vx_cls hW₁ hcl, st⟩
end
end VXH
theorem vx_ofWH {l : Launch} {y : MethodName} {ws ws' : List Cond} {rm : Room} {Pc : Array Value → State → Prop} {Qc : Array Value → State → Outcome → State → Prop} {XC : String → State → State → Prop} {mc ms : Nat} {free : Addr → Prop} {cc : ByteArray} {maxL : Nat} {ret : Option FieldType} {hh : List (Nat × Nat × Nat × Nat)}
    (hy : plainName y.cls = true) (hw : ws = Cond.codeWith y cc maxL ret hh :: ws')
    (body : ∀ p e s m args below meth c s₁, BodyLoose p l y (headSpec ws rm) cc maxL ret e s m args below meth c s₁ → c.maxLocals = maxL → Pc args s →
      W p l e (headSpec ws rm).room s m args below meth c s.heap [] 0 0 (vx_MQ below Qc XC args s mc ms free) (entryFrame m args maxL)) : vx_Met l y ws rm Pc Qc XC mc ms free := by
  refine MetFree.of_bodyS (code := cc) (maxLocals := maxL) (ret := ret) hy ?_ ?_
  · intro args s m h hn
    obtain ⟨m9, meth, c, hn9, h1, h2, h3, h4, -, h5, h6, -⟩ := Cond.codeWith_spec (atoms_spec (ws := ws) h _ (by rw [hw]; exact List.mem_cons_self))
    cases hn.symm.trans hn9
    exact ⟨meth, c, h1, h2, h3, h4, h5, h6⟩
  · intro p e s m args below meth c s₁ B hml hP _
    have hh0 : s₁.heap = s.heap := by rw [B.state]; rfl
    obtain ⟨t, a1, o, b1, b2, b3⟩ := body p e s m args below meth c s₁ B hml hP s₁ hh0 (Stand.of_body B)
    exact ⟨t, o, a1, b1, b2, b3⟩
/-! ===== END ===== -/

def RX0 : String := "Campground$Bookings"
def TX0 : u_T := fun k => match k with
  | 0 => ("Campground$Bookings", "siteClass", "[I", true)
  | 1 => ("Campground$Bookings", "arrival", "[I", true)
  | 2 => ("Campground$Bookings", "departure", "[I", true)
  | 3 => ("Campground$Bookings", "cost", "[I", true)
  | 4 => ("Campground$Bookings", "state", "[I", true)
  | 5 => ("Campground$Bookings", "site", "[I", true)
  | _ => ("Campground$Bookings", "count", "I", false)
def tyX0 : Nat → FieldType := fun k => match k with
  | 0 => .array .int
  | 1 => .array .int
  | 2 => .array .int
  | 3 => .array .int
  | 4 => .array .int
  | 5 => .array .int
  | _ => .int
abbrev wsX00 : List Cond := u_ws RX0 TX0 7
theorem nmX0 : ∀ a, a < 7 → ∀ b, b < 7 → a ≠ b → (TX0 a).2.1 ≠ (TX0 b).2.1 := by decide +kernel
theorem tyX0_ok : ∀ k, k < 7 → parseFieldDescriptor (TX0 k).2.2.1 = some (tyX0 k) := by decide +kernel
abbrev cX0_init : ByteArray := prog_2_method_1_code
def yX0_init : MethodName := ⟨RX0, "<init>", "()V"⟩
abbrev cX0_isFull : ByteArray := prog_2_method_2_code
def yX0_isFull : MethodName := ⟨RX0, "isFull", "()Z"⟩
abbrev cX0_add : ByteArray := prog_2_method_3_code
def yX0_add : MethodName := ⟨RX0, "add", "(IIII)I"⟩
abbrev cX0_isActive : ByteArray := prog_2_method_4_code
def yX0_isActive : MethodName := ⟨RX0, "isActive", "(I)Z"⟩
abbrev cX0_isToArrive : ByteArray := prog_2_method_5_code
def yX0_isToArrive : MethodName := ⟨RX0, "isToArrive", "(II)Z"⟩
abbrev cX0_isToDepart : ByteArray := prog_2_method_6_code
def yX0_isToDepart : MethodName := ⟨RX0, "isToDepart", "(II)Z"⟩
abbrev cX0_takenOn : ByteArray := prog_2_method_7_code
def yX0_takenOn : MethodName := ⟨RX0, "takenOn", "(II)I"⟩
abbrev cX0_isSomebodyAt : ByteArray := prog_2_method_8_code
def yX0_isSomebodyAt : MethodName := ⟨RX0, "isSomebodyAt", "(I)Z"⟩
abbrev cX0_isDearer : ByteArray := prog_2_method_9_code
def yX0_isDearer : MethodName := ⟨RX0, "isDearer", "(II)Z"⟩
abbrev cX0_endNight : ByteArray := prog_2_method_10_code
def yX0_endNight : MethodName := ⟨RX0, "endNight", "(I)V"⟩
abbrev cX0_copyFrom : ByteArray := prog_2_method_11_code
def yX0_copyFrom : MethodName := ⟨RX0, "copyFrom", "(LCampground$Bookings;)V"⟩
def RX1 : String := "Campground$Camp"
def TX1 : u_T := fun k => match k with
  | 0 => ("Campground$Camp", "classes", "LCampground$Classes;", true)
  | 1 => ("Campground$Camp", "sites", "LCampground$Sites;", true)
  | 2 => ("Campground$Camp", "seasons", "LCampground$Seasons;", true)
  | 3 => ("Campground$Camp", "bookings", "LCampground$Bookings;", true)
  | 4 => ("Campground$Camp", "requests", "LCampground$Requests;", true)
  | _ => ("Campground$Camp", "today", "I", false)
def tyX1 : Nat → FieldType := fun k => match k with
  | 0 => .object "Campground$Classes"
  | 1 => .object "Campground$Sites"
  | 2 => .object "Campground$Seasons"
  | 3 => .object "Campground$Bookings"
  | 4 => .object "Campground$Requests"
  | _ => .int
abbrev wsX10 : List Cond := u_ws RX1 TX1 6
theorem nmX1 : ∀ a, a < 6 → ∀ b, b < 6 → a ≠ b → (TX1 a).2.1 ≠ (TX1 b).2.1 := by decide +kernel
theorem tyX1_ok : ∀ k, k < 6 → parseFieldDescriptor (TX1 k).2.2.1 = some (tyX1 k) := by decide +kernel
abbrev cX1_init : ByteArray := prog_3_method_1_code
def yX1_init : MethodName := ⟨RX1, "<init>", "()V"⟩
abbrev cX1_clear : ByteArray := prog_3_method_2_code
def yX1_clear : MethodName := ⟨RX1, "clear", "()V"⟩
abbrev cX1_copyFrom : ByteArray := prog_3_method_3_code
def yX1_copyFrom : MethodName := ⟨RX1, "copyFrom", "(LCampground$Camp;)V"⟩
abbrev cX1_capacityOn : ByteArray := prog_3_method_4_code
def yX1_capacityOn : MethodName := ⟨RX1, "capacityOn", "(II)I"⟩
abbrev cX1_releasedOn : ByteArray := prog_3_method_5_code
def yX1_releasedOn : MethodName := ⟨RX1, "releasedOn", "(II)I"⟩
abbrev cX1_takenInAll : ByteArray := prog_3_method_6_code
def yX1_takenInAll : MethodName := ⟨RX1, "takenInAll", "(III)I"⟩
abbrev cX1_capacityInAll : ByteArray := prog_3_method_7_code
def yX1_capacityInAll : MethodName := ⟨RX1, "capacityInAll", "(III)I"⟩
abbrev cX1_canSpare : ByteArray := prog_3_method_8_code
def yX1_canSpare : MethodName := ⟨RX1, "canSpare", "(II)Z"⟩
abbrev cX1_isVacant : ByteArray := prog_3_method_9_code
def yX1_isVacant : MethodName := ⟨RX1, "isVacant", "(I)Z"⟩
abbrev cX1_lowestVacantSite : ByteArray := prog_3_method_10_code
def yX1_lowestVacantSite : MethodName := ⟨RX1, "lowestVacantSite", "(I)I"⟩
abbrev cX1_addBooking : ByteArray := prog_3_method_11_code
def yX1_addBooking : MethodName := ⟨RX1, "addBooking", "(III)I"⟩
abbrev cX1_bookRequest : ByteArray := prog_3_method_12_code
def yX1_bookRequest : MethodName := ⟨RX1, "bookRequest", "(I)V"⟩
abbrev cX1_refundOfCancelling : ByteArray := prog_3_method_13_code
def yX1_refundOfCancelling : MethodName := ⟨RX1, "refundOfCancelling", "(I)I"⟩
abbrev cX1_refundOfDeparting : ByteArray := prog_3_method_14_code
def yX1_refundOfDeparting : MethodName := ⟨RX1, "refundOfDeparting", "(I)I"⟩
abbrev cX1_endToday : ByteArray := prog_3_method_15_code
def yX1_endToday : MethodName := ⟨RX1, "endToday", "()V"⟩
def RX2 : String := "Campground$Classes"
def TX2 : u_T := fun k => match k with
  | 0 => ("Campground$Classes", "window", "[I", true)
  | 1 => ("Campground$Classes", "shortWindow", "[I", true)
  | 2 => ("Campground$Classes", "quota", "[I", true)
  | _ => ("Campground$Classes", "count", "I", false)
def tyX2 : Nat → FieldType := fun k => match k with
  | 0 => .array .int
  | 1 => .array .int
  | 2 => .array .int
  | _ => .int
abbrev wsX20 : List Cond := u_ws RX2 TX2 4
theorem nmX2 : ∀ a, a < 4 → ∀ b, b < 4 → a ≠ b → (TX2 a).2.1 ≠ (TX2 b).2.1 := by decide +kernel
theorem tyX2_ok : ∀ k, k < 4 → parseFieldDescriptor (TX2 k).2.2.1 = some (tyX2 k) := by decide +kernel
abbrev cX2_init : ByteArray := prog_4_method_1_code
def yX2_init : MethodName := ⟨RX2, "<init>", "()V"⟩
abbrev cX2_add : ByteArray := prog_4_method_2_code
def yX2_add : MethodName := ⟨RX2, "add", "(III)I"⟩
abbrev cX2_limitAhead : ByteArray := prog_4_method_3_code
def yX2_limitAhead : MethodName := ⟨RX2, "limitAhead", "(II)I"⟩
abbrev cX2_windowOf : ByteArray := prog_4_method_4_code
def yX2_windowOf : MethodName := ⟨RX2, "windowOf", "(I)I"⟩
abbrev cX2_copyFrom : ByteArray := prog_4_method_5_code
def yX2_copyFrom : MethodName := ⟨RX2, "copyFrom", "(LCampground$Classes;)V"⟩
def RX3 : String := "Campground$Plan"
def TX3 : u_T := fun k => match k with
  | 0 => ("Campground$Plan", "camp", "LCampground$Camp;", true)
  | 1 => ("Campground$Plan", "site", "[I", true)
  | 2 => ("Campground$Plan", "busyUntil", "[I", true)
  | 3 => ("Campground$Plan", "nightsInGaps", "I", false)
  | _ => ("Campground$Plan", "orphans", "I", false)
def tyX3 : Nat → FieldType := fun k => match k with
  | 0 => .object "Campground$Camp"
  | 1 => .array .int
  | 2 => .array .int
  | 3 => .int
  | _ => .int
abbrev wsX30 : List Cond := u_ws RX3 TX3 5
theorem nmX3 : ∀ a, a < 5 → ∀ b, b < 5 → a ≠ b → (TX3 a).2.1 ≠ (TX3 b).2.1 := by decide +kernel
theorem tyX3_ok : ∀ k, k < 5 → parseFieldDescriptor (TX3 k).2.2.1 = some (tyX3 k) := by decide +kernel
abbrev cX3_init : ByteArray := prog_5_method_1_code
def yX3_init : MethodName := ⟨RX3, "<init>", "(LCampground$Camp;)V"⟩
abbrev cX3_make : ByteArray := prog_5_method_2_code
def yX3_make : MethodName := ⟨RX3, "make", "(II)V"⟩
abbrev cX3_placeStaying : ByteArray := prog_5_method_3_code
def yX3_placeStaying : MethodName := ⟨RX3, "placeStaying", "(I)V"⟩
abbrev cX3_nextToPlace : ByteArray := prog_5_method_4_code
def yX3_nextToPlace : MethodName := ⟨RX3, "nextToPlace", "(I)I"⟩
abbrev cX3_chooseSite : ByteArray := prog_5_method_5_code
def yX3_chooseSite : MethodName := ⟨RX3, "chooseSite", "(III)I"⟩
abbrev cX3_countGap : ByteArray := prog_5_method_6_code
def yX3_countGap : MethodName := ⟨RX3, "countGap", "(III)V"⟩
def RX4 : String := "Campground$Requests"
def TX4 : u_T := fun k => match k with
  | 0 => ("Campground$Requests", "siteClass", "[I", true)
  | 1 => ("Campground$Requests", "arrival", "[I", true)
  | 2 => ("Campground$Requests", "nights", "[I", true)
  | 3 => ("Campground$Requests", "state", "[I", true)
  | 4 => ("Campground$Requests", "booking", "[I", true)
  | _ => ("Campground$Requests", "count", "I", false)
def tyX4 : Nat → FieldType := fun k => match k with
  | 0 => .array .int
  | 1 => .array .int
  | 2 => .array .int
  | 3 => .array .int
  | 4 => .array .int
  | _ => .int
abbrev wsX40 : List Cond := u_ws RX4 TX4 6
theorem nmX4 : ∀ a, a < 6 → ∀ b, b < 6 → a ≠ b → (TX4 a).2.1 ≠ (TX4 b).2.1 := by decide +kernel
theorem tyX4_ok : ∀ k, k < 6 → parseFieldDescriptor (TX4 k).2.2.1 = some (tyX4 k) := by decide +kernel
abbrev cX4_init : ByteArray := prog_6_method_1_code
def yX4_init : MethodName := ⟨RX4, "<init>", "()V"⟩
abbrev cX4_add : ByteArray := prog_6_method_2_code
def yX4_add : MethodName := ⟨RX4, "add", "(III)I"⟩
abbrev cX4_isBetter : ByteArray := prog_6_method_3_code
def yX4_isBetter : MethodName := ⟨RX4, "isBetter", "(II)Z"⟩
abbrev cX4_expireBefore : ByteArray := prog_6_method_4_code
def yX4_expireBefore : MethodName := ⟨RX4, "expireBefore", "(I)V"⟩
abbrev cX4_copyFrom : ByteArray := prog_6_method_5_code
def yX4_copyFrom : MethodName := ⟨RX4, "copyFrom", "(LCampground$Requests;)V"⟩
def RX5 : String := "Campground$Seasons"
def TX5 : u_T := fun k => match k with
  | 0 => ("Campground$Seasons", "siteClass", "[I", true)
  | 1 => ("Campground$Seasons", "first", "[I", true)
  | 2 => ("Campground$Seasons", "last", "[I", true)
  | 3 => ("Campground$Seasons", "least", "[I", true)
  | 4 => ("Campground$Seasons", "charge", "[I", true)
  | _ => ("Campground$Seasons", "count", "I", false)
def tyX5 : Nat → FieldType := fun k => match k with
  | 0 => .array .int
  | 1 => .array .int
  | 2 => .array .int
  | 3 => .array .int
  | 4 => .array .int
  | _ => .int
abbrev wsX50 : List Cond := u_ws RX5 TX5 6
theorem nmX5 : ∀ a, a < 6 → ∀ b, b < 6 → a ≠ b → (TX5 a).2.1 ≠ (TX5 b).2.1 := by decide +kernel
theorem tyX5_ok : ∀ k, k < 6 → parseFieldDescriptor (TX5 k).2.2.1 = some (tyX5 k) := by decide +kernel
abbrev cX5_init : ByteArray := prog_7_method_1_code
def yX5_init : MethodName := ⟨RX5, "<init>", "()V"⟩
abbrev cX5_add : ByteArray := prog_7_method_2_code
def yX5_add : MethodName := ⟨RX5, "add", "(IIIII)I"⟩
abbrev cX5_latestWith : ByteArray := prog_7_method_3_code
def yX5_latestWith : MethodName := ⟨RX5, "latestWith", "(II)I"⟩
abbrev cX5_minimumOn : ByteArray := prog_7_method_4_code
def yX5_minimumOn : MethodName := ⟨RX5, "minimumOn", "(II)I"⟩
abbrev cX5_priceOn : ByteArray := prog_7_method_5_code
def yX5_priceOn : MethodName := ⟨RX5, "priceOn", "(II)I"⟩
abbrev cX5_priceOfNights : ByteArray := prog_7_method_6_code
def yX5_priceOfNights : MethodName := ⟨RX5, "priceOfNights", "(III)I"⟩
abbrev cX5_copyFrom : ByteArray := prog_7_method_7_code
def yX5_copyFrom : MethodName := ⟨RX5, "copyFrom", "(LCampground$Seasons;)V"⟩
def RX6 : String := "Campground$SetupReader"
def TX6 : u_T := fun k => match k with
  | 0 => ("Campground$SetupReader", "text", "[B", true)
  | 1 => ("Campground$SetupReader", "camp", "LCampground$Camp;", true)
  | 2 => ("Campground$SetupReader", "length", "I", false)
  | 3 => ("Campground$SetupReader", "kind", "I", false)
  | 4 => ("Campground$SetupReader", "start", "I", false)
  | 5 => ("Campground$SetupReader", "end", "I", false)
  | 6 => ("Campground$SetupReader", "value", "I", false)
  | 7 => ("Campground$SetupReader", "code", "I", false)
  | _ => ("Campground$SetupReader", "position", "I", false)
def tyX6 : Nat → FieldType := fun k => match k with
  | 0 => .array .byte
  | 1 => .object "Campground$Camp"
  | 2 => .int
  | 3 => .int
  | 4 => .int
  | 5 => .int
  | 6 => .int
  | 7 => .int
  | _ => .int
abbrev wsX60 : List Cond := u_ws RX6 TX6 9
theorem nmX6 : ∀ a, a < 9 → ∀ b, b < 9 → a ≠ b → (TX6 a).2.1 ≠ (TX6 b).2.1 := by decide +kernel
theorem tyX6_ok : ∀ k, k < 9 → parseFieldDescriptor (TX6 k).2.2.1 = some (tyX6 k) := by decide +kernel
abbrev cX6_init : ByteArray := prog_8_method_1_code
def yX6_init : MethodName := ⟨RX6, "<init>", "([BLCampground$Camp;)V"⟩
abbrev cX6_read : ByteArray := prog_8_method_2_code
def yX6_read : MethodName := ⟨RX6, "read", "(I)I"⟩
abbrev cX6_readStatement : ByteArray := prog_8_method_3_code
def yX6_readStatement : MethodName := ⟨RX6, "readStatement", "()Z"⟩
abbrev cX6_readClass : ByteArray := prog_8_method_4_code
def yX6_readClass : MethodName := ⟨RX6, "readClass", "()Z"⟩
abbrev cX6_readSites : ByteArray := prog_8_method_5_code
def yX6_readSites : MethodName := ⟨RX6, "readSites", "()Z"⟩
abbrev cX6_readSeason : ByteArray := prog_8_method_6_code
def yX6_readSeason : MethodName := ⟨RX6, "readSeason", "()Z"⟩
abbrev cX6_readDay : ByteArray := prog_8_method_7_code
def yX6_readDay : MethodName := ⟨RX6, "readDay", "()Z"⟩
abbrev cX6_readSemicolon : ByteArray := prog_8_method_8_code
def yX6_readSemicolon : MethodName := ⟨RX6, "readSemicolon", "()Z"⟩
abbrev cX6_readNumber : ByteArray := prog_8_method_9_code
def yX6_readNumber : MethodName := ⟨RX6, "readNumber", "(II)I"⟩
abbrev cX6_fail : ByteArray := prog_8_method_10_code
def yX6_fail : MethodName := ⟨RX6, "fail", "(I)Z"⟩
abbrev cX6_failAt : ByteArray := prog_8_method_11_code
def yX6_failAt : MethodName := ⟨RX6, "failAt", "(II)Z"⟩
abbrev cX6_isWord : ByteArray := prog_8_method_12_code
def yX6_isWord : MethodName := ⟨RX6, "isWord", "(Ljava/lang/String;)Z"⟩
abbrev cX6_step : ByteArray := prog_8_method_13_code
def yX6_step : MethodName := ⟨RX6, "step", "()V"⟩
abbrev cX6_isLetter : ByteArray := prog_8_method_14_code
def yX6_isLetter : MethodName := ⟨RX6, "isLetter", "(B)Z"⟩
abbrev cX6_isDigit : ByteArray := prog_8_method_15_code
def yX6_isDigit : MethodName := ⟨RX6, "isDigit", "(B)Z"⟩
def RX7 : String := "Campground$Sites"
def TX7 : u_T := fun k => match k with
  | 0 => ("Campground$Sites", "siteClass", "[I", true)
  | 1 => ("Campground$Sites", "closedUntil", "[I", true)
  | _ => ("Campground$Sites", "count", "I", false)
def tyX7 : Nat → FieldType := fun k => match k with
  | 0 => .array .int
  | 1 => .array .int
  | _ => .int
abbrev wsX70 : List Cond := u_ws RX7 TX7 3
theorem nmX7 : ∀ a, a < 3 → ∀ b, b < 3 → a ≠ b → (TX7 a).2.1 ≠ (TX7 b).2.1 := by decide +kernel
theorem tyX7_ok : ∀ k, k < 3 → parseFieldDescriptor (TX7 k).2.2.1 = some (tyX7 k) := by decide +kernel
abbrev cX7_init : ByteArray := prog_9_method_1_code
def yX7_init : MethodName := ⟨RX7, "<init>", "()V"⟩
abbrev cX7_add : ByteArray := prog_9_method_2_code
def yX7_add : MethodName := ⟨RX7, "add", "(I)I"⟩
abbrev cX7_isClosed : ByteArray := prog_9_method_3_code
def yX7_isClosed : MethodName := ⟨RX7, "isClosed", "(II)Z"⟩
abbrev cX7_countOpen : ByteArray := prog_9_method_4_code
def yX7_countOpen : MethodName := ⟨RX7, "countOpen", "(II)I"⟩
abbrev cX7_copyFrom : ByteArray := prog_9_method_5_code
def yX7_copyFrom : MethodName := ⟨RX7, "copyFrom", "(LCampground$Sites;)V"⟩
def RX8 : String := "Campground$StayJudge"
def TX8 : u_T := fun k => match k with
  | 0 => ("Campground$StayJudge", "camp", "LCampground$Camp;", true)
  | 1 => ("Campground$StayJudge", "known", "[I", true)
  | _ => ("Campground$StayJudge", "siteClass", "I", false)
def tyX8 : Nat → FieldType := fun k => match k with
  | 0 => .object "Campground$Camp"
  | 1 => .array .int
  | _ => .int
abbrev wsX80 : List Cond := u_ws RX8 TX8 3
theorem nmX8 : ∀ a, a < 3 → ∀ b, b < 3 → a ≠ b → (TX8 a).2.1 ≠ (TX8 b).2.1 := by decide +kernel
theorem tyX8_ok : ∀ k, k < 3 → parseFieldDescriptor (TX8 k).2.2.1 = some (tyX8 k) := by decide +kernel
abbrev cX8_init : ByteArray := prog_10_method_1_code
def yX8_init : MethodName := ⟨RX8, "<init>", "(LCampground$Camp;)V"⟩
abbrev cX8_turnTo : ByteArray := prog_10_method_2_code
def yX8_turnTo : MethodName := ⟨RX8, "turnTo", "(I)V"⟩
abbrev cX8_isFree : ByteArray := prog_10_method_3_code
def yX8_isFree : MethodName := ⟨RX8, "isFree", "(I)Z"⟩
abbrev cX8_leavesWindow : ByteArray := prog_10_method_4_code
def yX8_leavesWindow : MethodName := ⟨RX8, "leavesWindow", "(II)Z"⟩
abbrev cX8_obstacleToNights : ByteArray := prog_10_method_5_code
def yX8_obstacleToNights : MethodName := ⟨RX8, "obstacleToNights", "(II)I"⟩
abbrev cX8_obstacleToStay : ByteArray := prog_10_method_6_code
def yX8_obstacleToStay : MethodName := ⟨RX8, "obstacleToStay", "(II)I"⟩
def RX9 : String := "Campground"
def TX9 : u_T := fun k => match k with
  | 0 => ("Campground", "camp", "LCampground$Camp;", true)
  | 1 => ("Campground", "draft", "LCampground$Camp;", true)
  | 2 => ("Campground", "saved", "[LCampground$Camp;", true)
  | 3 => ("Campground", "judge", "LCampground$StayJudge;", true)
  | 4 => ("Campground", "plan", "LCampground$Plan;", true)
  | 5 => ("Campground", "text", "[B", true)
  | 6 => ("Campground", "reader", "LCampground$SetupReader;", true)
  | _ => ("Campground", "textLength", "I", false)
def tyX9 : Nat → FieldType := fun k => match k with
  | 0 => .object "Campground$Camp"
  | 1 => .object "Campground$Camp"
  | 2 => .array (.object "Campground$Camp")
  | 3 => .object "Campground$StayJudge"
  | 4 => .object "Campground$Plan"
  | 5 => .array .byte
  | 6 => .object "Campground$SetupReader"
  | _ => .int
abbrev wsX90 : List Cond := u_ws RX9 TX9 8
theorem nmX9 : ∀ a, a < 8 → ∀ b, b < 8 → a ≠ b → (TX9 a).2.1 ≠ (TX9 b).2.1 := by decide +kernel
theorem tyX9_ok : ∀ k, k < 8 → parseFieldDescriptor (TX9 k).2.2.1 = some (tyX9 k) := by decide +kernel
abbrev cX9_init : ByteArray := prog_1_method_1_code
def yX9_init : MethodName := ⟨RX9, "<init>", "()V"⟩
abbrev cX9_addClass : ByteArray := prog_1_method_2_code
def yX9_addClass : MethodName := ⟨RX9, "addClass", "(III)I"⟩
abbrev cX9_addSite : ByteArray := prog_1_method_3_code
def yX9_addSite : MethodName := ⟨RX9, "addSite", "(I)I"⟩
abbrev cX9_addSeason : ByteArray := prog_1_method_4_code
def yX9_addSeason : MethodName := ⟨RX9, "addSeason", "(IIIII)I"⟩
abbrev cX9_classCount : ByteArray := prog_1_method_5_code
def yX9_classCount : MethodName := ⟨RX9, "classCount", "()I"⟩
abbrev cX9_siteCount : ByteArray := prog_1_method_6_code
def yX9_siteCount : MethodName := ⟨RX9, "siteCount", "()I"⟩
abbrev cX9_classOf : ByteArray := prog_1_method_7_code
def yX9_classOf : MethodName := ⟨RX9, "classOf", "(I)I"⟩
abbrev cX9_minimum : ByteArray := prog_1_method_8_code
def yX9_minimum : MethodName := ⟨RX9, "minimum", "(II)I"⟩
abbrev cX9_price : ByteArray := prog_1_method_9_code
def yX9_price : MethodName := ⟨RX9, "price", "(II)I"⟩
abbrev cX9_capacity : ByteArray := prog_1_method_10_code
def yX9_capacity : MethodName := ⟨RX9, "capacity", "(II)I"⟩
abbrev cX9_released : ByteArray := prog_1_method_11_code
def yX9_released : MethodName := ⟨RX9, "released", "(II)I"⟩
abbrev cX9_taken : ByteArray := prog_1_method_12_code
def yX9_taken : MethodName := ⟨RX9, "taken", "(II)I"⟩
abbrev cX9_available : ByteArray := prog_1_method_13_code
def yX9_available : MethodName := ⟨RX9, "available", "(II)I"⟩
abbrev cX9_obstacle : ByteArray := prog_1_method_14_code
def yX9_obstacle : MethodName := ⟨RX9, "obstacle", "(III)I"⟩
abbrev cX9_longestStay : ByteArray := prog_1_method_15_code
def yX9_longestStay : MethodName := ⟨RX9, "longestStay", "(II)I"⟩
abbrev cX9_cheapestArrival : ByteArray := prog_1_method_16_code
def yX9_cheapestArrival : MethodName := ⟨RX9, "cheapestArrival", "(IIII)I"⟩
abbrev cX9_nextGap : ByteArray := prog_1_method_17_code
def yX9_nextGap : MethodName := ⟨RX9, "nextGap", "(II)I"⟩
abbrev cX9_book : ByteArray := prog_1_method_18_code
def yX9_book : MethodName := ⟨RX9, "book", "(III)I"⟩
abbrev cX9_bookingCount : ByteArray := prog_1_method_19_code
def yX9_bookingCount : MethodName := ⟨RX9, "bookingCount", "()I"⟩
abbrev cX9_bookingState : ByteArray := prog_1_method_20_code
def yX9_bookingState : MethodName := ⟨RX9, "bookingState", "(I)I"⟩
abbrev cX9_bookingClass : ByteArray := prog_1_method_21_code
def yX9_bookingClass : MethodName := ⟨RX9, "bookingClass", "(I)I"⟩
abbrev cX9_arrival : ByteArray := prog_1_method_22_code
def yX9_arrival : MethodName := ⟨RX9, "arrival", "(I)I"⟩
abbrev cX9_departure : ByteArray := prog_1_method_23_code
def yX9_departure : MethodName := ⟨RX9, "departure", "(I)I"⟩
abbrev cX9_cost : ByteArray := prog_1_method_24_code
def yX9_cost : MethodName := ⟨RX9, "cost", "(I)I"⟩
abbrev cX9_siteOf : ByteArray := prog_1_method_25_code
def yX9_siteOf : MethodName := ⟨RX9, "siteOf", "(I)I"⟩
abbrev cX9_cancel : ByteArray := prog_1_method_26_code
def yX9_cancel : MethodName := ⟨RX9, "cancel", "(I)I"⟩
abbrev cX9_vacantSite : ByteArray := prog_1_method_27_code
def yX9_vacantSite : MethodName := ⟨RX9, "vacantSite", "(I)I"⟩
abbrev cX9_checkIn : ByteArray := prog_1_method_28_code
def yX9_checkIn : MethodName := ⟨RX9, "checkIn", "(II)I"⟩
abbrev cX9_move : ByteArray := prog_1_method_29_code
def yX9_move : MethodName := ⟨RX9, "move", "(II)I"⟩
abbrev cX9_departEarly : ByteArray := prog_1_method_30_code
def yX9_departEarly : MethodName := ⟨RX9, "departEarly", "(I)I"⟩
abbrev cX9_extend : ByteArray := prog_1_method_31_code
def yX9_extend : MethodName := ⟨RX9, "extend", "(II)I"⟩
abbrev cX9_endDays : ByteArray := prog_1_method_32_code
def yX9_endDays : MethodName := ⟨RX9, "endDays", "(I)I"⟩
abbrev cX9_today : ByteArray := prog_1_method_33_code
def yX9_today : MethodName := ⟨RX9, "today", "()I"⟩
abbrev cX9_close : ByteArray := prog_1_method_34_code
def yX9_close : MethodName := ⟨RX9, "close", "(II)V"⟩
abbrev cX9_open : ByteArray := prog_1_method_35_code
def yX9_open : MethodName := ⟨RX9, "open", "(I)I"⟩
abbrev cX9_request : ByteArray := prog_1_method_36_code
def yX9_request : MethodName := ⟨RX9, "request", "(III)I"⟩
abbrev cX9_requestState : ByteArray := prog_1_method_37_code
def yX9_requestState : MethodName := ⟨RX9, "requestState", "(I)I"⟩
abbrev cX9_bookingOf : ByteArray := prog_1_method_38_code
def yX9_bookingOf : MethodName := ⟨RX9, "bookingOf", "(I)I"⟩
abbrev cX9_withdraw : ByteArray := prog_1_method_39_code
def yX9_withdraw : MethodName := ⟨RX9, "withdraw", "(I)V"⟩
abbrev cX9_fill : ByteArray := prog_1_method_40_code
def yX9_fill : MethodName := ⟨RX9, "fill", "(I)I"⟩
abbrev cX9_planSite : ByteArray := prog_1_method_41_code
def yX9_planSite : MethodName := ⟨RX9, "planSite", "(II)I"⟩
abbrev cX9_gapNights : ByteArray := prog_1_method_42_code
def yX9_gapNights : MethodName := ⟨RX9, "gapNights", "(II)I"⟩
abbrev cX9_orphanNights : ByteArray := prog_1_method_43_code
def yX9_orphanNights : MethodName := ⟨RX9, "orphanNights", "(II)I"⟩
abbrev cX9_occupancyNumerator : ByteArray := prog_1_method_44_code
def yX9_occupancyNumerator : MethodName := ⟨RX9, "occupancyNumerator", "(III)I"⟩
abbrev cX9_occupancyDenominator : ByteArray := prog_1_method_45_code
def yX9_occupancyDenominator : MethodName := ⟨RX9, "occupancyDenominator", "(III)I"⟩
abbrev cX9_expected : ByteArray := prog_1_method_46_code
def yX9_expected : MethodName := ⟨RX9, "expected", "(IIZ)I"⟩
abbrev cX9_dearestBooking : ByteArray := prog_1_method_47_code
def yX9_dearestBooking : MethodName := ⟨RX9, "dearestBooking", "(I)I"⟩
abbrev cX9_busiestNight : ByteArray := prog_1_method_48_code
def yX9_busiestNight : MethodName := ⟨RX9, "busiestNight", "(III)I"⟩
abbrev cX9_revenue : ByteArray := prog_1_method_49_code
def yX9_revenue : MethodName := ⟨RX9, "revenue", "()I"⟩
abbrev cX9_appendText : ByteArray := prog_1_method_50_code
def yX9_appendText : MethodName := ⟨RX9, "appendText", "(I)I"⟩
abbrev cX9_truncateText : ByteArray := prog_1_method_51_code
def yX9_truncateText : MethodName := ⟨RX9, "truncateText", "(I)I"⟩
abbrev cX9_load : ByteArray := prog_1_method_52_code
def yX9_load : MethodName := ⟨RX9, "load", "()I"⟩
abbrev cX9_errorCode : ByteArray := prog_1_method_53_code
def yX9_errorCode : MethodName := ⟨RX9, "errorCode", "()I"⟩
abbrev cX9_errorPosition : ByteArray := prog_1_method_54_code
def yX9_errorPosition : MethodName := ⟨RX9, "errorPosition", "()I"⟩
abbrev cX9_save : ByteArray := prog_1_method_55_code
def yX9_save : MethodName := ⟨RX9, "save", "(I)V"⟩
abbrev cX9_restore : ByteArray := prog_1_method_56_code
def yX9_restore : MethodName := ⟨RX9, "restore", "(I)V"⟩
abbrev cX9_checkClass : ByteArray := prog_1_method_57_code
def yX9_checkClass : MethodName := ⟨RX9, "checkClass", "(I)V"⟩
abbrev cX9_checkSite : ByteArray := prog_1_method_58_code
def yX9_checkSite : MethodName := ⟨RX9, "checkSite", "(I)V"⟩
abbrev cX9_checkBooking : ByteArray := prog_1_method_59_code
def yX9_checkBooking : MethodName := ⟨RX9, "checkBooking", "(I)V"⟩
abbrev cX9_checkRequest : ByteArray := prog_1_method_60_code
def yX9_checkRequest : MethodName := ⟨RX9, "checkRequest", "(I)V"⟩
abbrev cX9_checkSameClass : ByteArray := prog_1_method_61_code
def yX9_checkSameClass : MethodName := ⟨RX9, "checkSameClass", "(II)V"⟩
abbrev cX9_checkNights : ByteArray := prog_1_method_62_code
def yX9_checkNights : MethodName := ⟨RX9, "checkNights", "(II)V"⟩
abbrev cX9_checkRange : ByteArray := prog_1_method_63_code
def yX9_checkRange : MethodName := ⟨RX9, "checkRange", "(III)V"⟩
abbrev cX9_checkState : ByteArray := prog_1_method_64_code
def yX9_checkState : MethodName := ⟨RX9, "checkState", "(Z)V"⟩
abbrev cX9_bestRequest : ByteArray := prog_1_method_65_code
def yX9_bestRequest : MethodName := ⟨RX9, "bestRequest", "(I)I"⟩
abbrev cX9_commonDivisor : ByteArray := prog_1_method_66_code
def yX9_commonDivisor : MethodName := ⟨RX9, "commonDivisor", "(II)I"⟩
abbrev cX9_copyRow : ByteArray := prog_1_method_67_code
def yX9_copyRow : MethodName := ⟨RX9, "copyRow", "([I[I)V"⟩
def RX10 : String := "CampgroundModel"
def TX10 : u_T := fun k => match k with
  | 0 => ("CampgroundModel", "camp", "[I", true)
  | 1 => ("CampgroundModel", "backup", "[I", true)
  | 2 => ("CampgroundModel", "saved", "[I", true)
  | 3 => ("CampgroundModel", "isSaved", "[Z", true)
  | 4 => ("CampgroundModel", "thrown", "I", false)
  | 5 => ("CampgroundModel", "planned", "[I", true)
  | 6 => ("CampgroundModel", "leaving", "[I", true)
  | 7 => ("CampgroundModel", "gapSum", "I", false)
  | 8 => ("CampgroundModel", "orphanSum", "I", false)
  | 9 => ("CampgroundModel", "text", "[I", true)
  | 10 => ("CampgroundModel", "textLength", "I", false)
  | 11 => ("CampgroundModel", "position", "I", false)
  | 12 => ("CampgroundModel", "tokenStart", "I", false)
  | 13 => ("CampgroundModel", "token", "I", false)
  | 14 => ("CampgroundModel", "letters", "I", false)
  | 15 => ("CampgroundModel", "number", "I", false)
  | 16 => ("CampgroundModel", "errorCode", "I", false)
  | 17 => ("CampgroundModel", "errorPosition", "I", false)
  | _ => ("CampgroundModel", "word", "J", false)
def tyX10 : Nat → FieldType := fun k => match k with
  | 0 => .array .int
  | 1 => .array .int
  | 2 => .array .int
  | 3 => .array .boolean
  | 4 => .int
  | 5 => .array .int
  | 6 => .array .int
  | 7 => .int
  | 8 => .int
  | 9 => .array .int
  | 10 => .int
  | 11 => .int
  | 12 => .int
  | 13 => .int
  | 14 => .int
  | 15 => .int
  | 16 => .int
  | 17 => .int
  | _ => .long
abbrev wsX100 : List Cond := u_ws RX10 TX10 19
theorem nmX10 : ∀ a, a < 19 → ∀ b, b < 19 → a ≠ b → (TX10 a).2.1 ≠ (TX10 b).2.1 := by decide +kernel
theorem tyX10_ok : ∀ k, k < 19 → parseFieldDescriptor (TX10 k).2.2.1 = some (tyX10 k) := by decide +kernel
abbrev cX10_init : ByteArray := prog_12_method_1_code
def yX10_init : MethodName := ⟨RX10, "<init>", "()V"⟩
abbrev cX10_thrown : ByteArray := prog_12_method_2_code
def yX10_thrown : MethodName := ⟨RX10, "thrown", "()I"⟩
abbrev cX10_fail : ByteArray := prog_12_method_3_code
def yX10_fail : MethodName := ⟨RX10, "fail", "(I)I"⟩
abbrev cX10_isBetween : ByteArray := prog_12_method_4_code
def yX10_isBetween : MethodName := ⟨RX10, "isBetween", "(III)Z"⟩
abbrev cX10_isClass : ByteArray := prog_12_method_5_code
def yX10_isClass : MethodName := ⟨RX10, "isClass", "(I)Z"⟩
abbrev cX10_isSite : ByteArray := prog_12_method_6_code
def yX10_isSite : MethodName := ⟨RX10, "isSite", "(I)Z"⟩
abbrev cX10_isBooking : ByteArray := prog_12_method_7_code
def yX10_isBooking : MethodName := ⟨RX10, "isBooking", "(I)Z"⟩
abbrev cX10_isRequest : ByteArray := prog_12_method_8_code
def yX10_isRequest : MethodName := ⟨RX10, "isRequest", "(I)Z"⟩
abbrev cX10_isDay : ByteArray := prog_12_method_9_code
def yX10_isDay : MethodName := ⟨RX10, "isDay", "(I)Z"⟩
abbrev cX10_isStay : ByteArray := prog_12_method_10_code
def yX10_isStay : MethodName := ⟨RX10, "isStay", "(I)Z"⟩
abbrev cX10_siteClass : ByteArray := prog_12_method_11_code
def yX10_siteClass : MethodName := ⟨RX10, "siteClass", "(II)I"⟩
abbrev cX10_site : ByteArray := prog_12_method_12_code
def yX10_site : MethodName := ⟨RX10, "site", "(II)I"⟩
abbrev cX10_season : ByteArray := prog_12_method_13_code
def yX10_season : MethodName := ⟨RX10, "season", "(II)I"⟩
abbrev cX10_booking : ByteArray := prog_12_method_14_code
def yX10_booking : MethodName := ⟨RX10, "booking", "(II)I"⟩
abbrev cX10_setBooking : ByteArray := prog_12_method_15_code
def yX10_setBooking : MethodName := ⟨RX10, "setBooking", "(III)V"⟩
abbrev cX10_requestField : ByteArray := prog_12_method_16_code
def yX10_requestField : MethodName := ⟨RX10, "requestField", "(II)I"⟩
abbrev cX10_setRequest : ByteArray := prog_12_method_17_code
def yX10_setRequest : MethodName := ⟨RX10, "setRequest", "(III)V"⟩
abbrev cX10_copy : ByteArray := prog_12_method_18_code
def yX10_copy : MethodName := ⟨RX10, "copy", "([II[II)V"⟩
abbrev cX10_appendClass : ByteArray := prog_12_method_19_code
def yX10_appendClass : MethodName := ⟨RX10, "appendClass", "(III)I"⟩
abbrev cX10_addClass : ByteArray := prog_12_method_20_code
def yX10_addClass : MethodName := ⟨RX10, "addClass", "(III)I"⟩
abbrev cX10_appendSite : ByteArray := prog_12_method_21_code
def yX10_appendSite : MethodName := ⟨RX10, "appendSite", "(I)I"⟩
abbrev cX10_addSite : ByteArray := prog_12_method_22_code
def yX10_addSite : MethodName := ⟨RX10, "addSite", "(I)I"⟩
abbrev cX10_appendSeason : ByteArray := prog_12_method_23_code
def yX10_appendSeason : MethodName := ⟨RX10, "appendSeason", "(IIIII)I"⟩
abbrev cX10_addSeason : ByteArray := prog_12_method_24_code
def yX10_addSeason : MethodName := ⟨RX10, "addSeason", "(IIIII)I"⟩
abbrev cX10_classCount : ByteArray := prog_12_method_25_code
def yX10_classCount : MethodName := ⟨RX10, "classCount", "()I"⟩
abbrev cX10_siteCount : ByteArray := prog_12_method_26_code
def yX10_siteCount : MethodName := ⟨RX10, "siteCount", "()I"⟩
abbrev cX10_classOf : ByteArray := prog_12_method_27_code
def yX10_classOf : MethodName := ⟨RX10, "classOf", "(I)I"⟩
abbrev cX10_seasonOf : ByteArray := prog_12_method_28_code
def yX10_seasonOf : MethodName := ⟨RX10, "seasonOf", "(II)I"⟩
abbrev cX10_minimumOf : ByteArray := prog_12_method_29_code
def yX10_minimumOf : MethodName := ⟨RX10, "minimumOf", "(II)I"⟩
abbrev cX10_priceOf : ByteArray := prog_12_method_30_code
def yX10_priceOf : MethodName := ⟨RX10, "priceOf", "(II)I"⟩
abbrev cX10_pricesOf : ByteArray := prog_12_method_31_code
def yX10_pricesOf : MethodName := ⟨RX10, "pricesOf", "(III)I"⟩
abbrev cX10_minimum : ByteArray := prog_12_method_32_code
def yX10_minimum : MethodName := ⟨RX10, "minimum", "(II)I"⟩
abbrev cX10_price : ByteArray := prog_12_method_33_code
def yX10_price : MethodName := ⟨RX10, "price", "(II)I"⟩
abbrev cX10_isNight : ByteArray := prog_12_method_34_code
def yX10_isNight : MethodName := ⟨RX10, "isNight", "(I)Z"⟩
abbrev cX10_isOpenOn : ByteArray := prog_12_method_35_code
def yX10_isOpenOn : MethodName := ⟨RX10, "isOpenOn", "(II)Z"⟩
abbrev cX10_capacityOf : ByteArray := prog_12_method_36_code
def yX10_capacityOf : MethodName := ⟨RX10, "capacityOf", "(II)I"⟩
abbrev cX10_releasedOf : ByteArray := prog_12_method_37_code
def yX10_releasedOf : MethodName := ⟨RX10, "releasedOf", "(II)I"⟩
abbrev cX10_isActive : ByteArray := prog_12_method_38_code
def yX10_isActive : MethodName := ⟨RX10, "isActive", "(I)Z"⟩
abbrev cX10_takenOf : ByteArray := prog_12_method_39_code
def yX10_takenOf : MethodName := ⟨RX10, "takenOf", "(II)I"⟩
abbrev cX10_availableOf : ByteArray := prog_12_method_40_code
def yX10_availableOf : MethodName := ⟨RX10, "availableOf", "(II)I"⟩
abbrev cX10_capacity : ByteArray := prog_12_method_41_code
def yX10_capacity : MethodName := ⟨RX10, "capacity", "(II)I"⟩
abbrev cX10_released : ByteArray := prog_12_method_42_code
def yX10_released : MethodName := ⟨RX10, "released", "(II)I"⟩
abbrev cX10_taken : ByteArray := prog_12_method_43_code
def yX10_taken : MethodName := ⟨RX10, "taken", "(II)I"⟩
abbrev cX10_available : ByteArray := prog_12_method_44_code
def yX10_available : MethodName := ⟨RX10, "available", "(II)I"⟩
abbrev cX10_nightsObstacle : ByteArray := prog_12_method_45_code
def yX10_nightsObstacle : MethodName := ⟨RX10, "nightsObstacle", "(III)I"⟩
abbrev cX10_obstacleOf : ByteArray := prog_12_method_46_code
def yX10_obstacleOf : MethodName := ⟨RX10, "obstacleOf", "(III)I"⟩
abbrev cX10_obstacle : ByteArray := prog_12_method_47_code
def yX10_obstacle : MethodName := ⟨RX10, "obstacle", "(III)I"⟩
abbrev cX10_longestStay : ByteArray := prog_12_method_48_code
def yX10_longestStay : MethodName := ⟨RX10, "longestStay", "(II)I"⟩
abbrev cX10_cheapestArrival : ByteArray := prog_12_method_49_code
def yX10_cheapestArrival : MethodName := ⟨RX10, "cheapestArrival", "(IIII)I"⟩
abbrev cX10_nextGap : ByteArray := prog_12_method_50_code
def yX10_nextGap : MethodName := ⟨RX10, "nextGap", "(II)I"⟩
abbrev cX10_appendBooking : ByteArray := prog_12_method_51_code
def yX10_appendBooking : MethodName := ⟨RX10, "appendBooking", "(III)I"⟩
abbrev cX10_book : ByteArray := prog_12_method_52_code
def yX10_book : MethodName := ⟨RX10, "book", "(III)I"⟩
abbrev cX10_bookingCount : ByteArray := prog_12_method_53_code
def yX10_bookingCount : MethodName := ⟨RX10, "bookingCount", "()I"⟩
abbrev cX10_bookingField : ByteArray := prog_12_method_54_code
def yX10_bookingField : MethodName := ⟨RX10, "bookingField", "(II)I"⟩
abbrev cX10_bookingState : ByteArray := prog_12_method_55_code
def yX10_bookingState : MethodName := ⟨RX10, "bookingState", "(I)I"⟩
abbrev cX10_bookingClass : ByteArray := prog_12_method_56_code
def yX10_bookingClass : MethodName := ⟨RX10, "bookingClass", "(I)I"⟩
abbrev cX10_arrival : ByteArray := prog_12_method_57_code
def yX10_arrival : MethodName := ⟨RX10, "arrival", "(I)I"⟩
abbrev cX10_departure : ByteArray := prog_12_method_58_code
def yX10_departure : MethodName := ⟨RX10, "departure", "(I)I"⟩
abbrev cX10_cost : ByteArray := prog_12_method_59_code
def yX10_cost : MethodName := ⟨RX10, "cost", "(I)I"⟩
abbrev cX10_siteOf : ByteArray := prog_12_method_60_code
def yX10_siteOf : MethodName := ⟨RX10, "siteOf", "(I)I"⟩
abbrev cX10_cancel : ByteArray := prog_12_method_61_code
def yX10_cancel : MethodName := ⟨RX10, "cancel", "(I)I"⟩
abbrev cX10_isOccupied : ByteArray := prog_12_method_62_code
def yX10_isOccupied : MethodName := ⟨RX10, "isOccupied", "(I)Z"⟩
abbrev cX10_isVacant : ByteArray := prog_12_method_63_code
def yX10_isVacant : MethodName := ⟨RX10, "isVacant", "(I)Z"⟩
abbrev cX10_vacantSiteOf : ByteArray := prog_12_method_64_code
def yX10_vacantSiteOf : MethodName := ⟨RX10, "vacantSiteOf", "(I)I"⟩
abbrev cX10_vacantSite : ByteArray := prog_12_method_65_code
def yX10_vacantSite : MethodName := ⟨RX10, "vacantSite", "(I)I"⟩
abbrev cX10_checkIn : ByteArray := prog_12_method_66_code
def yX10_checkIn : MethodName := ⟨RX10, "checkIn", "(II)I"⟩
abbrev cX10_move : ByteArray := prog_12_method_67_code
def yX10_move : MethodName := ⟨RX10, "move", "(II)I"⟩
abbrev cX10_departEarly : ByteArray := prog_12_method_68_code
def yX10_departEarly : MethodName := ⟨RX10, "departEarly", "(I)I"⟩
abbrev cX10_extend : ByteArray := prog_12_method_69_code
def yX10_extend : MethodName := ⟨RX10, "extend", "(II)I"⟩
abbrev cX10_endDay : ByteArray := prog_12_method_70_code
def yX10_endDay : MethodName := ⟨RX10, "endDay", "()V"⟩
abbrev cX10_endDays : ByteArray := prog_12_method_71_code
def yX10_endDays : MethodName := ⟨RX10, "endDays", "(I)I"⟩
abbrev cX10_today : ByteArray := prog_12_method_72_code
def yX10_today : MethodName := ⟨RX10, "today", "()I"⟩
abbrev cX10_hasSpareSite : ByteArray := prog_12_method_73_code
def yX10_hasSpareSite : MethodName := ⟨RX10, "hasSpareSite", "(II)Z"⟩
abbrev cX10_close : ByteArray := prog_12_method_74_code
def yX10_close : MethodName := ⟨RX10, "close", "(II)V"⟩
abbrev cX10_open : ByteArray := prog_12_method_75_code
def yX10_open : MethodName := ⟨RX10, "open", "(I)I"⟩
abbrev cX10_appendRequest : ByteArray := prog_12_method_76_code
def yX10_appendRequest : MethodName := ⟨RX10, "appendRequest", "(III)I"⟩
abbrev cX10_request : ByteArray := prog_12_method_77_code
def yX10_request : MethodName := ⟨RX10, "request", "(III)I"⟩
abbrev cX10_requestState : ByteArray := prog_12_method_78_code
def yX10_requestState : MethodName := ⟨RX10, "requestState", "(I)I"⟩
abbrev cX10_bookingOf : ByteArray := prog_12_method_79_code
def yX10_bookingOf : MethodName := ⟨RX10, "bookingOf", "(I)I"⟩
abbrev cX10_withdraw : ByteArray := prog_12_method_80_code
def yX10_withdraw : MethodName := ⟨RX10, "withdraw", "(I)V"⟩
abbrev cX10_isAhead : ByteArray := prog_12_method_81_code
def yX10_isAhead : MethodName := ⟨RX10, "isAhead", "(II)Z"⟩
abbrev cX10_nextRequest : ByteArray := prog_12_method_82_code
def yX10_nextRequest : MethodName := ⟨RX10, "nextRequest", "(I)I"⟩
abbrev cX10_fill : ByteArray := prog_12_method_83_code
def yX10_fill : MethodName := ⟨RX10, "fill", "(I)I"⟩
abbrev cX10_place : ByteArray := prog_12_method_84_code
def yX10_place : MethodName := ⟨RX10, "place", "(II)V"⟩
abbrev cX10_freeSite : ByteArray := prog_12_method_85_code
def yX10_freeSite : MethodName := ⟨RX10, "freeSite", "(II)I"⟩
abbrev cX10_nextBooking : ByteArray := prog_12_method_86_code
def yX10_nextBooking : MethodName := ⟨RX10, "nextBooking", "(I)I"⟩
abbrev cX10_plan : ByteArray := prog_12_method_87_code
def yX10_plan : MethodName := ⟨RX10, "plan", "(II)V"⟩
abbrev cX10_planSite : ByteArray := prog_12_method_88_code
def yX10_planSite : MethodName := ⟨RX10, "planSite", "(II)I"⟩
abbrev cX10_wrongPlan : ByteArray := prog_12_method_89_code
def yX10_wrongPlan : MethodName := ⟨RX10, "wrongPlan", "(II)I"⟩
abbrev cX10_gapNights : ByteArray := prog_12_method_90_code
def yX10_gapNights : MethodName := ⟨RX10, "gapNights", "(II)I"⟩
abbrev cX10_orphanNights : ByteArray := prog_12_method_91_code
def yX10_orphanNights : MethodName := ⟨RX10, "orphanNights", "(II)I"⟩
abbrev cX10_commonDivisor : ByteArray := prog_12_method_92_code
def yX10_commonDivisor : MethodName := ⟨RX10, "commonDivisor", "(II)I"⟩
abbrev cX10_occupancy : ByteArray := prog_12_method_93_code
def yX10_occupancy : MethodName := ⟨RX10, "occupancy", "(IIIZ)I"⟩
abbrev cX10_occupancyNumerator : ByteArray := prog_12_method_94_code
def yX10_occupancyNumerator : MethodName := ⟨RX10, "occupancyNumerator", "(III)I"⟩
abbrev cX10_occupancyDenominator : ByteArray := prog_12_method_95_code
def yX10_occupancyDenominator : MethodName := ⟨RX10, "occupancyDenominator", "(III)I"⟩
abbrev cX10_expected : ByteArray := prog_12_method_96_code
def yX10_expected : MethodName := ⟨RX10, "expected", "(IIZ)I"⟩
abbrev cX10_nightsOf : ByteArray := prog_12_method_97_code
def yX10_nightsOf : MethodName := ⟨RX10, "nightsOf", "(I)J"⟩
abbrev cX10_dearestBooking : ByteArray := prog_12_method_98_code
def yX10_dearestBooking : MethodName := ⟨RX10, "dearestBooking", "(I)I"⟩
abbrev cX10_busiestNight : ByteArray := prog_12_method_99_code
def yX10_busiestNight : MethodName := ⟨RX10, "busiestNight", "(III)I"⟩
abbrev cX10_revenue : ByteArray := prog_12_method_100_code
def yX10_revenue : MethodName := ⟨RX10, "revenue", "()I"⟩
abbrev cX10_appendText : ByteArray := prog_12_method_101_code
def yX10_appendText : MethodName := ⟨RX10, "appendText", "(I)I"⟩
abbrev cX10_truncateText : ByteArray := prog_12_method_102_code
def yX10_truncateText : MethodName := ⟨RX10, "truncateText", "(I)I"⟩
abbrev cX10_byteAt : ByteArray := prog_12_method_103_code
def yX10_byteAt : MethodName := ⟨RX10, "byteAt", "(I)I"⟩
abbrev cX10_isLetter : ByteArray := prog_12_method_104_code
def yX10_isLetter : MethodName := ⟨RX10, "isLetter", "(I)Z"⟩
abbrev cX10_isDigit : ByteArray := prog_12_method_105_code
def yX10_isDigit : MethodName := ⟨RX10, "isDigit", "(I)Z"⟩
abbrev cX10_nextToken : ByteArray := prog_12_method_106_code
def yX10_nextToken : MethodName := ⟨RX10, "nextToken", "()V"⟩
abbrev cX10_isWord : ByteArray := prog_12_method_107_code
def yX10_isWord : MethodName := ⟨RX10, "isWord", "(Ljava/lang/String;)Z"⟩
abbrev cX10_require : ByteArray := prog_12_method_108_code
def yX10_require : MethodName := ⟨RX10, "require", "(ZI)V"⟩
abbrev cX10_advanceToken : ByteArray := prog_12_method_109_code
def yX10_advanceToken : MethodName := ⟨RX10, "advanceToken", "()V"⟩
abbrev cX10_parseNumber : ByteArray := prog_12_method_110_code
def yX10_parseNumber : MethodName := ⟨RX10, "parseNumber", "(II)I"⟩
abbrev cX10_parseClass : ByteArray := prog_12_method_111_code
def yX10_parseClass : MethodName := ⟨RX10, "parseClass", "()V"⟩
abbrev cX10_parseSites : ByteArray := prog_12_method_112_code
def yX10_parseSites : MethodName := ⟨RX10, "parseSites", "()V"⟩
abbrev cX10_parseSeason : ByteArray := prog_12_method_113_code
def yX10_parseSeason : MethodName := ⟨RX10, "parseSeason", "()V"⟩
abbrev cX10_parseStatement : ByteArray := prog_12_method_114_code
def yX10_parseStatement : MethodName := ⟨RX10, "parseStatement", "()V"⟩
abbrev cX10_load : ByteArray := prog_12_method_115_code
def yX10_load : MethodName := ⟨RX10, "load", "()I"⟩
abbrev cX10_errorCode : ByteArray := prog_12_method_116_code
def yX10_errorCode : MethodName := ⟨RX10, "errorCode", "()I"⟩
abbrev cX10_errorPosition : ByteArray := prog_12_method_117_code
def yX10_errorPosition : MethodName := ⟨RX10, "errorPosition", "()I"⟩
abbrev cX10_save : ByteArray := prog_12_method_118_code
def yX10_save : MethodName := ⟨RX10, "save", "(I)V"⟩
abbrev cX10_restore : ByteArray := prog_12_method_119_code
def yX10_restore : MethodName := ⟨RX10, "restore", "(I)V"⟩
def RJx145de : String := "java/io/Serializable"
def TJx145de : u_T := fun k => match k with
  | _ => ("", "", "", false)
def tyJx145de : Nat → FieldType := fun k => match k with
  | _ => .int
abbrev wsJx145de0 : List Cond := u_ws RJx145de TJx145de 0
theorem nmJx145de : ∀ a, a < 0 → ∀ b, b < 0 → a ≠ b → (TJx145de a).2.1 ≠ (TJx145de b).2.1 := by decide +kernel
theorem tyJx145de_ok : ∀ k, k < 0 → parseFieldDescriptor (TJx145de k).2.2.1 = some (tyJx145de k) := by decide +kernel
def RJx9f9b0 : String := "java/lang/CharSequence"
def TJx9f9b0 : u_T := fun k => match k with
  | _ => ("", "", "", false)
def tyJx9f9b0 : Nat → FieldType := fun k => match k with
  | _ => .int
abbrev wsJx9f9b00 : List Cond := u_ws RJx9f9b0 TJx9f9b0 0
theorem nmJx9f9b0 : ∀ a, a < 0 → ∀ b, b < 0 → a ≠ b → (TJx9f9b0 a).2.1 ≠ (TJx9f9b0 b).2.1 := by decide +kernel
theorem tyJx9f9b0_ok : ∀ k, k < 0 → parseFieldDescriptor (TJx9f9b0 k).2.2.1 = some (tyJx9f9b0 k) := by decide +kernel
def RJxb160c : String := "java/lang/Comparable"
def TJxb160c : u_T := fun k => match k with
  | _ => ("", "", "", false)
def tyJxb160c : Nat → FieldType := fun k => match k with
  | _ => .int
abbrev wsJxb160c0 : List Cond := u_ws RJxb160c TJxb160c 0
theorem nmJxb160c : ∀ a, a < 0 → ∀ b, b < 0 → a ≠ b → (TJxb160c a).2.1 ≠ (TJxb160c b).2.1 := by decide +kernel
theorem tyJxb160c_ok : ∀ k, k < 0 → parseFieldDescriptor (TJxb160c k).2.2.1 = some (tyJxb160c k) := by decide +kernel
def RJ9 : String := "java/lang/Math"
def TJ9 : u_T := fun k => match k with
  | _ => ("", "", "", false)
def tyJ9 : Nat → FieldType := fun k => match k with
  | _ => .int
abbrev wsJ90 : List Cond := u_ws RJ9 TJ9 0
theorem nmJ9 : ∀ a, a < 0 → ∀ b, b < 0 → a ≠ b → (TJ9 a).2.1 ≠ (TJ9 b).2.1 := by decide +kernel
theorem tyJ9_ok : ∀ k, k < 0 → parseFieldDescriptor (TJ9 k).2.2.1 = some (tyJ9 k) := by decide +kernel
abbrev cJ9_max_7cf53 : ByteArray := prog_17_method_65_code
def yJ9_max_7cf53 : MethodName := ⟨RJ9, "max", "(II)I"⟩
abbrev cJ9_min_7cf53 : ByteArray := prog_17_method_69_code
def yJ9_min_7cf53 : MethodName := ⟨RJ9, "min", "(II)I"⟩
def RJ0 : String := "java/lang/String"
def TJ0 : u_T := fun k => match k with
  | _ => ("", "", "", false)
def tyJ0 : Nat → FieldType := fun k => match k with
  | _ => .int
abbrev wsJ00 : List Cond := u_ws RJ0 TJ0 0
theorem nmJ0 : ∀ a, a < 0 → ∀ b, b < 0 → a ≠ b → (TJ0 a).2.1 ≠ (TJ0 b).2.1 := by decide +kernel
theorem tyJ0_ok : ∀ k, k < 0 → parseFieldDescriptor (TJ0 k).2.2.1 = some (tyJ0 k) := by decide +kernel
abbrev cJ0_length_8abf5 : ByteArray := prog_19_method_54_code
def yJ0_length_8abf5 : MethodName := ⟨RJ0, "length", "()I"⟩
abbrev cJ0_charAt_5068e : ByteArray := prog_19_method_56_code
def yJ0_charAt_5068e : MethodName := ⟨RJ0, "charAt", "(I)C"⟩
abbrev cJ0_coder_7d493 : ByteArray := prog_19_method_152_code
def yJ0_coder_7d493 : MethodName := ⟨RJ0, "coder", "()B"⟩
abbrev cJ0_isLatin1_aae02 : ByteArray := prog_19_method_154_code
def yJ0_isLatin1_aae02 : MethodName := ⟨RJ0, "isLatin1", "()Z"⟩
abbrev cJ0_checkIndex_df160 : ByteArray := prog_19_method_155_code
def yJ0_checkIndex_df160 : MethodName := ⟨RJ0, "checkIndex", "(II)V"⟩
def RJ1 : String := "java/lang/StringLatin1"
def TJ1 : u_T := fun k => match k with
  | _ => ("", "", "", false)
def tyJ1 : Nat → FieldType := fun k => match k with
  | _ => .int
abbrev wsJ10 : List Cond := u_ws RJ1 TJ1 0
theorem nmJ1 : ∀ a, a < 0 → ∀ b, b < 0 → a ≠ b → (TJ1 a).2.1 ≠ (TJ1 b).2.1 := by decide +kernel
theorem tyJ1_ok : ∀ k, k < 0 → parseFieldDescriptor (TJ1 k).2.2.1 = some (tyJ1 k) := by decide +kernel
abbrev cJ1_charAt_3b067 : ByteArray := prog_20_method_2_code
def yJ1_charAt_3b067 : MethodName := ⟨RJ1, "charAt", "([BI)C"⟩
def RJ2 : String := "java/lang/StringUTF16"
def TJ2 : u_T := fun k => match k with
  | _ => ("", "", "", false)
def tyJ2 : Nat → FieldType := fun k => match k with
  | _ => .int
abbrev wsJ20 : List Cond := u_ws RJ2 TJ2 0
theorem nmJ2 : ∀ a, a < 0 → ∀ b, b < 0 → a ≠ b → (TJ2 a).2.1 ≠ (TJ2 b).2.1 := by decide +kernel
theorem tyJ2_ok : ∀ k, k < 0 → parseFieldDescriptor (TJ2 k).2.2.1 = some (tyJ2 k) := by decide +kernel
abbrev cJ2_getChar_3b067 : ByteArray := prog_21_method_5_code
def yJ2_getChar_3b067 : MethodName := ⟨RJ2, "getChar", "([BI)C"⟩
abbrev cJ2_length_9d52b : ByteArray := prog_21_method_6_code
def yJ2_length_9d52b : MethodName := ⟨RJ2, "length", "([B)I"⟩
abbrev cJ2_charAt_3b067 : ByteArray := prog_21_method_83_code
def yJ2_charAt_3b067 : MethodName := ⟨RJ2, "charAt", "([BI)C"⟩
abbrev cJ2_checkIndex_2214a : ByteArray := prog_21_method_91_code
def yJ2_checkIndex_2214a : MethodName := ⟨RJ2, "checkIndex", "(I[B)V"⟩
def RJ10 : String := "java/lang/System"
def TJ10 : u_T := fun k => match k with
  | _ => ("", "", "", false)
def tyJ10 : Nat → FieldType := fun k => match k with
  | _ => .int
abbrev wsJ100 : List Cond := u_ws RJ10 TJ10 0
theorem nmJ10 : ∀ a, a < 0 → ∀ b, b < 0 → a ≠ b → (TJ10 a).2.1 ≠ (TJ10 b).2.1 := by decide +kernel
theorem tyJ10_ok : ∀ k, k < 0 → parseFieldDescriptor (TJ10 k).2.2.1 = some (tyJ10 k) := by decide +kernel
def RJxfd54e : String := "java/lang/constant/Constable"
def TJxfd54e : u_T := fun k => match k with
  | _ => ("", "", "", false)
def tyJxfd54e : Nat → FieldType := fun k => match k with
  | _ => .int
abbrev wsJxfd54e0 : List Cond := u_ws RJxfd54e TJxfd54e 0
theorem nmJxfd54e : ∀ a, a < 0 → ∀ b, b < 0 → a ≠ b → (TJxfd54e a).2.1 ≠ (TJxfd54e b).2.1 := by decide +kernel
theorem tyJxfd54e_ok : ∀ k, k < 0 → parseFieldDescriptor (TJxfd54e k).2.2.1 = some (tyJxfd54e k) := by decide +kernel
def RJx3cf43 : String := "java/lang/constant/ConstantDesc"
def TJx3cf43 : u_T := fun k => match k with
  | _ => ("", "", "", false)
def tyJx3cf43 : Nat → FieldType := fun k => match k with
  | _ => .int
abbrev wsJx3cf430 : List Cond := u_ws RJx3cf43 TJx3cf43 0
theorem nmJx3cf43 : ∀ a, a < 0 → ∀ b, b < 0 → a ≠ b → (TJx3cf43 a).2.1 ≠ (TJx3cf43 b).2.1 := by decide +kernel
theorem tyJx3cf43_ok : ∀ k, k < 0 → parseFieldDescriptor (TJx3cf43 k).2.2.1 = some (tyJx3cf43 k) := by decide +kernel
def RJ7 : String := "java/util/Arrays"
def TJ7 : u_T := fun k => match k with
  | _ => ("", "", "", false)
def tyJ7 : Nat → FieldType := fun k => match k with
  | _ => .int
abbrev wsJ70 : List Cond := u_ws RJ7 TJ7 0
theorem nmJ7 : ∀ a, a < 0 → ∀ b, b < 0 → a ≠ b → (TJ7 a).2.1 ≠ (TJ7 b).2.1 := by decide +kernel
theorem tyJ7_ok : ∀ k, k < 0 → parseFieldDescriptor (TJ7 k).2.2.1 = some (tyJ7 k) := by decide +kernel
abbrev cJ7_fill_53178 : ByteArray := prog_24_method_103_code
def yJ7_fill_53178 : MethodName := ⟨RJ7, "fill", "([II)V"⟩
def RJ3 : String := "jdk/internal/util/Preconditions"
def TJ3 : u_T := fun k => match k with
  | _ => ("", "", "", false)
def tyJ3 : Nat → FieldType := fun k => match k with
  | _ => .int
abbrev wsJ30 : List Cond := u_ws RJ3 TJ3 0
theorem nmJ3 : ∀ a, a < 0 → ∀ b, b < 0 → a ≠ b → (TJ3 a).2.1 ≠ (TJ3 b).2.1 := by decide +kernel
theorem tyJ3_ok : ∀ k, k < 0 → parseFieldDescriptor (TJ3 k).2.2.1 = some (tyJ3 k) := by decide +kernel
abbrev cJ3_checkIndex_8e157 : ByteArray := prog_25_method_11_code
def yJ3_checkIndex_8e157 : MethodName := ⟨RJ3, "checkIndex", "(IILjava/util/function/BiFunction;)I"⟩
def RL : String := "CampgroundLaw"
abbrev cL_addClass : ByteArray := method_3_code
def yL_addClass : MethodName := ⟨RL, "addClass", "(LCampground;III[J)I"⟩
abbrev cL_addSite : ByteArray := method_4_code
def yL_addSite : MethodName := ⟨RL, "addSite", "(LCampground;I[J)I"⟩
abbrev cL_addSeason : ByteArray := method_5_code
def yL_addSeason : MethodName := ⟨RL, "addSeason", "(LCampground;IIIII[J)I"⟩
abbrev cL_classOf : ByteArray := method_6_code
def yL_classOf : MethodName := ⟨RL, "classOf", "(LCampground;I[J)I"⟩
abbrev cL_minimum : ByteArray := method_7_code
def yL_minimum : MethodName := ⟨RL, "minimum", "(LCampground;II[J)I"⟩
abbrev cL_price : ByteArray := method_8_code
def yL_price : MethodName := ⟨RL, "price", "(LCampground;II[J)I"⟩
abbrev cL_capacity : ByteArray := method_9_code
def yL_capacity : MethodName := ⟨RL, "capacity", "(LCampground;II[J)I"⟩
abbrev cL_released : ByteArray := method_10_code
def yL_released : MethodName := ⟨RL, "released", "(LCampground;II[J)I"⟩
abbrev cL_taken : ByteArray := method_11_code
def yL_taken : MethodName := ⟨RL, "taken", "(LCampground;II[J)I"⟩
abbrev cL_available : ByteArray := method_12_code
def yL_available : MethodName := ⟨RL, "available", "(LCampground;II[J)I"⟩
abbrev cL_obstacle : ByteArray := method_13_code
def yL_obstacle : MethodName := ⟨RL, "obstacle", "(LCampground;III[J)I"⟩
abbrev cL_longestStay : ByteArray := method_14_code
def yL_longestStay : MethodName := ⟨RL, "longestStay", "(LCampground;II[J)I"⟩
abbrev cL_cheapestArrival : ByteArray := method_15_code
def yL_cheapestArrival : MethodName := ⟨RL, "cheapestArrival", "(LCampground;IIII[J)I"⟩
abbrev cL_nextGap : ByteArray := method_16_code
def yL_nextGap : MethodName := ⟨RL, "nextGap", "(LCampground;II[J)I"⟩
abbrev cL_book : ByteArray := method_17_code
def yL_book : MethodName := ⟨RL, "book", "(LCampground;III[J)I"⟩
abbrev cL_bookingState : ByteArray := method_18_code
def yL_bookingState : MethodName := ⟨RL, "bookingState", "(LCampground;I[J)I"⟩
abbrev cL_bookingClass : ByteArray := method_19_code
def yL_bookingClass : MethodName := ⟨RL, "bookingClass", "(LCampground;I[J)I"⟩
abbrev cL_arrival : ByteArray := method_20_code
def yL_arrival : MethodName := ⟨RL, "arrival", "(LCampground;I[J)I"⟩
abbrev cL_departure : ByteArray := method_21_code
def yL_departure : MethodName := ⟨RL, "departure", "(LCampground;I[J)I"⟩
abbrev cL_cost : ByteArray := method_22_code
def yL_cost : MethodName := ⟨RL, "cost", "(LCampground;I[J)I"⟩
abbrev cL_siteOf : ByteArray := method_23_code
def yL_siteOf : MethodName := ⟨RL, "siteOf", "(LCampground;I[J)I"⟩
abbrev cL_cancel : ByteArray := method_24_code
def yL_cancel : MethodName := ⟨RL, "cancel", "(LCampground;I[J)I"⟩
abbrev cL_vacantSite : ByteArray := method_25_code
def yL_vacantSite : MethodName := ⟨RL, "vacantSite", "(LCampground;I[J)I"⟩
abbrev cL_checkIn : ByteArray := method_26_code
def yL_checkIn : MethodName := ⟨RL, "checkIn", "(LCampground;II[J)I"⟩
abbrev cL_move : ByteArray := method_27_code
def yL_move : MethodName := ⟨RL, "move", "(LCampground;II[J)I"⟩
abbrev cL_departEarly : ByteArray := method_28_code
def yL_departEarly : MethodName := ⟨RL, "departEarly", "(LCampground;I[J)I"⟩
abbrev cL_extend : ByteArray := method_29_code
def yL_extend : MethodName := ⟨RL, "extend", "(LCampground;II[J)I"⟩
abbrev cL_endDays : ByteArray := method_30_code
def yL_endDays : MethodName := ⟨RL, "endDays", "(LCampground;I[J)I"⟩
abbrev cL_close : ByteArray := method_31_code
def yL_close : MethodName := ⟨RL, "close", "(LCampground;II)I"⟩
abbrev cL_open : ByteArray := method_32_code
def yL_open : MethodName := ⟨RL, "open", "(LCampground;I[J)I"⟩
abbrev cL_request : ByteArray := method_33_code
def yL_request : MethodName := ⟨RL, "request", "(LCampground;III[J)I"⟩
abbrev cL_requestState : ByteArray := method_34_code
def yL_requestState : MethodName := ⟨RL, "requestState", "(LCampground;I[J)I"⟩
abbrev cL_bookingOf : ByteArray := method_35_code
def yL_bookingOf : MethodName := ⟨RL, "bookingOf", "(LCampground;I[J)I"⟩
abbrev cL_withdraw : ByteArray := method_36_code
def yL_withdraw : MethodName := ⟨RL, "withdraw", "(LCampground;I)I"⟩
abbrev cL_fill : ByteArray := method_37_code
def yL_fill : MethodName := ⟨RL, "fill", "(LCampground;I[J)I"⟩
abbrev cL_planSite : ByteArray := method_38_code
def yL_planSite : MethodName := ⟨RL, "planSite", "(LCampground;II[J)I"⟩
abbrev cL_gapNights : ByteArray := method_39_code
def yL_gapNights : MethodName := ⟨RL, "gapNights", "(LCampground;II[J)I"⟩
abbrev cL_orphanNights : ByteArray := method_40_code
def yL_orphanNights : MethodName := ⟨RL, "orphanNights", "(LCampground;II[J)I"⟩
abbrev cL_occupancyNumerator : ByteArray := method_41_code
def yL_occupancyNumerator : MethodName := ⟨RL, "occupancyNumerator", "(LCampground;III[J)I"⟩
abbrev cL_occupancyDenominator : ByteArray := method_42_code
def yL_occupancyDenominator : MethodName := ⟨RL, "occupancyDenominator", "(LCampground;III[J)I"⟩
abbrev cL_expected : ByteArray := method_43_code
def yL_expected : MethodName := ⟨RL, "expected", "(LCampground;IIZ[J)I"⟩
abbrev cL_dearestBooking : ByteArray := method_44_code
def yL_dearestBooking : MethodName := ⟨RL, "dearestBooking", "(LCampground;I[J)I"⟩
abbrev cL_busiestNight : ByteArray := method_45_code
def yL_busiestNight : MethodName := ⟨RL, "busiestNight", "(LCampground;III[J)I"⟩
abbrev cL_appendText : ByteArray := method_46_code
def yL_appendText : MethodName := ⟨RL, "appendText", "(LCampground;I[J)I"⟩
abbrev cL_truncateText : ByteArray := method_47_code
def yL_truncateText : MethodName := ⟨RL, "truncateText", "(LCampground;I[J)I"⟩
abbrev cL_save : ByteArray := method_48_code
def yL_save : MethodName := ⟨RL, "save", "(LCampground;I)I"⟩
abbrev cL_restore : ByteArray := method_49_code
def yL_restore : MethodName := ⟨RL, "restore", "(LCampground;I)I"⟩
abbrev cL_law : ByteArray := code
def yL_law : MethodName := ⟨RL, "law", "([I)Z"⟩
abbrev vwCl : List vw_C := [(RX0, TX0, 7), (RX1, TX1, 6), (RX2, TX2, 4), (RX3, TX3, 5), (RX4, TX4, 6), (RX5, TX5, 6), (RX6, TX6, 9), (RX7, TX7, 3), (RX8, TX8, 3), (RX9, TX9, 8), (RX10, TX10, 19)]
end
section
/-! ===== THE ABSTRACT LAYER: a heap of numbered entries over the machine's heap; one judgement AW a place in a method's code ===== -/
/-- entries: an array (its kind, its length, its contents), an object (its class's place, its fields); references are numbers of entries -/
abbrev AE : Type := (Nat × vp_A) ⊕ (Nat × List Value)
def cv (ad : Nat → Nat) (v : Value) : Value := match v with
  | .ref i => .ref (ad i)
  | w => w
def cvA (ad : Nat → Nat) (a : vp_A) : vp_A := match a with
  | (n, .inr (.inr (.inr (.inr f)))) => (n, .inr (.inr (.inr (.inr (fun j => (f j).map ad)))))
  | x => x
def cE (ad : Nat → Nat) (kc : Nat → ClassId) (e : AE) : va_E := match e with
  | .inl (k, a) => .inl (kc k, cvA ad a)
  | .inr (ci, fs) => .inr (ci, fs.map (cv ad))
def cW (ad : Nat → Nat) (kc : Nat → ClassId) (h : Nat → AE) (n : Nat) : va_W := (List.range n).map (fun i => (ad i, cE ad kc (h i)))
def hset (h : Nat → AE) (i : Nat) (e : AE) : Nat → AE := fun j => if j = i then e else h j
theorem cW_get {ad : Nat → Nat} {kc : Nat → ClassId} {h : Nat → AE} {n i : Nat} (hi : i < n) : (cW ad kc h n)[i]? = some (ad i, cE ad kc (h i)) := by
  simp [cW, hi]
theorem cW_getE {ad : Nat → Nat} {kc : Nat → ClassId} {h : Nat → AE} {n i : Nat} {e : AE} {e' : va_E} (hi : i < n) (he : h i = e) (hc : cE ad kc e = e') : (cW ad kc h n)[i]? = some (ad i, e') := by
  rw [cW_get hi, he, hc]
theorem cW_mem {ad : Nat → Nat} {kc : Nat → ClassId} {h : Nat → AE} {n k : Nat} {q : Nat × va_E} (hq : (cW ad kc h n)[k]? = some q) : k < n ∧ q = (ad k, cE ad kc (h k)) := by
  have hk : k < n := by
    have h1 := (List.getElem?_eq_some_iff.mp hq).1
    simpa [cW] using h1
  rw [cW_get hk] at hq
  exact ⟨hk, (Option.some.inj hq).symm⟩
theorem cW_set {ad : Nat → Nat} {kc : Nat → ClassId} {h : Nat → AE} {n i : Nat} {e : AE} (hi : i < n) : (cW ad kc h n).set i (ad i, cE ad kc e) = cW ad kc (hset h i e) n := by
  apply List.ext_getElem?
  intro j
  rw [List.getElem?_set]
  by_cases hj : i = j
  · subst hj
    rw [if_pos rfl, cW_get hi]
    have hl : i < (cW ad kc h n).length := by simpa [cW] using hi
    rw [if_pos hl]
    simp [hset]
  · rw [if_neg hj]
    by_cases hn : j < n
    · rw [cW_get hn, cW_get hn]
      simp [hset, Ne.symm hj]
    · have h1 : (cW ad kc h n)[j]? = none := by simp [cW]; omega
      have h2 : (cW ad kc (hset h i e) n)[j]? = none := by simp [cW]; omega
      rw [h1, h2]
theorem cW_congr {ad : Nat → Nat} {kc : Nat → ClassId} {h h' : Nat → AE} {n : Nat} (e : ∀ i, i < n → h i = h' i) : cW ad kc h n = cW ad kc h' n := by
  apply List.map_congr_left
  intro i hi
  rw [e i (List.mem_range.mp hi)]
/-- the words of the tables that hold at every later state too -/
def pw : Cond → Bool
  | .fieldLinkNest .. => true
  | .methodLinkNest .. => true
  | .castable .. => true
  | .declares _ => true
  | w => goodWord w
def GW : List Cond := lw_tbl.filter pw
theorem gw_at {w : Cond} (i : Nat) (hm : lw_tbl[i]? = some w) (hp : pw w = true) : w ∈ GW := List.mem_filter.mpr ⟨List.mem_of_getElem? hm, hp⟩
theorem gw_in {w : Cond} (hm : w ∈ lw_tbl) (hp : pw w = true) : w ∈ GW := List.mem_filter.mpr ⟨hm, hp⟩
theorem gw_lays {C : String} {T : u_T} {N : Nat} (hin : ∀ w ∈ u_ws C T N, w ∈ lw_tbl) : ∀ w ∈ u_ws C T N, w ∈ GW := by
  intro w hw
  refine gw_in (hin w hw) ?_
  obtain ⟨k, -, rfl⟩ := List.mem_map.mp hw
  unfold u_lay
  split <;> rfl
theorem pw_warm {w : Cond} (hp : pw w = true) {a a' : Array Value} {s U : State} (hW : s.WarmedH U.vm) (h : w.before a s = true) : w.before a' U = true := by
  cases w with
  | fieldLinkNest a1 i b n d h1 => exact va_Nw.use rfl (va_Nw.warmF hW (va_Nw.of rfl h))
  | methodLinkNest a1 i x h1 => exact va_Nw.use rfl (va_Nw.warmM hW (va_Nw.of rfl h))
  | castable C T => exact va_Nw.use rfl (va_Nw.warmC hW (va_Nw.of rfl h))
  | declares x => exact va_Nw.use rfl (va_Nw.warmD hW (va_Nw.of rfl h))
  | _ => exact word_at hW (good_of_word hp) h
/-- the array kinds -/
def tysOf (kc : Nat → ClassId) : List (ClassId × FieldType) := [(kc 0, .int), (kc 1, .byte), (kc 2, .long), (kc 3, .boolean), (kc 4, .object "Campground$Camp")]
/-- the constants of the exceptions' texts -/
def STX : List (String × Nat × String) := [("Campground", 71, "there are 4 classes"), ("Campground", 91, "there are 16 sites"), ("Campground", 103, "there are 12 seasons"), ("Campground", 159, "an obstacle, or 60 bookings"), ("Campground", 213, "there is no day after 999"), ("Campground", 235, "there are 20 requests"), ("Campground", 282, "the text would be longer than 500 bytes"), ("Campground", 296, "nothing is saved there"), ("Campground", 300, "no such class"), ("Campground", 303, "no such site"), ("Campground", 305, "no such booking"), ("Campground", 307, "no such request"), ("Campground", 311, "the site has another class"), ("Campground", 314, "out of range"), ("Campground", 316, "not possible in this state")]
/-- the constants that texts are compared with: class, entry, text, which of the four -/
def STW : List (String × Nat × String × Nat) := [("Campground$SetupReader", 59, "class", 0), ("Campground$SetupReader", 71, "site", 1), ("Campground$SetupReader", 76, "season", 2), ("Campground$SetupReader", 81, "day", 3), ("CampgroundModel", 274, "class", 0), ("CampgroundModel", 283, "site", 1), ("CampgroundModel", 287, "season", 2), ("CampgroundModel", 291, "day", 3)]
def SBY : List (List Int32) := [[99, 108, 97, 115, 115], [115, 105, 116, 101], [115, 101, 97, 115, 111, 110], [100, 97, 121]]
/-- what holds all the way through, of what lies outside the entries -/
def EV (sa : Nat → Nat) (A : Nat → Prop) (U : State) (H : Heap) : Prop :=
  (∀ w ∈ GW, w.before #[] U = true) ∧ vx_Zq Bundle.tN "UNASSIGNED_STACK" Bundle.steD A U H ∧ vx_Zq Bundle.tN "SUPPRESSED_SENTINEL" Bundle.listD A U H ∧
  (∀ q ∈ STX, ∃ a, vk_R q.1 q.2.1 q.2.2 a U) ∧ (∀ q ∈ STW, vk_R q.1 q.2.1 q.2.2.1 (sa q.2.2.2) U) ∧
  vk_S 4 [5, 4, 6, 3] SBY sa (fun k => sa (10 + k)) A U H ∧ va_Z "java/lang/String" "COMPACT_STRINGS" "Z" (.int 1) A U H
theorem EV.step {sa : Nat → Nat} {A A' : Nat → Prop} {s U : State} {H : Heap} {locs : List Loc} (h : EV sa A s s.heap) (hS : va_S A s.heap H locs) (hU : U.heap = H) (hW : s.WarmedH U.vm) (hA : ∀ q, A' q → A q) : EV sa A' U U.heap := by
  obtain ⟨h1, h2, h3, h4, h5, h6, h7⟩ := h
  have hk : ∀ a : Nat, a < s.heap.size → ¬ A a → U.heap[a]? = s.heap[a]? := fun a h8 h9 => by rw [hU]; exact hS.2.1 a h8 h9
  refine ⟨fun w hw => pw_warm (List.mem_filter.mp hw).2 hW (h1 w hw), ((h2.kept hk).moved hW.alike).narrow hA, ((h3.kept hk).moved hW.alike).narrow hA, fun q hq => ?_, fun q hq => (h5 q hq).warm hW, ((h6.kept hk).moved hW.alike).narrow hA, ((h7.kept hk).moved hW.alike).narrow hA⟩
  obtain ⟨a, ha⟩ := h4 q hq
  exact ⟨a, ha.warm hW⟩
theorem EV.call {sa : Nat → Nat} {A : Nat → Prop} {U : State} {g : JFrame} {mk : MethodId} {a : Array Value} (h : EV sa A U U.heap) : EV sa A (U.calling g mk a) (U.calling g mk a).heap := by
  have hW : U.WarmedH (U.calling g mk a).vm := State.WarmedH.refl U
  exact EV.step (locs := []) h va_S.rf rfl hW (fun _ h => h)
/-- a method's fixed things: its class, its code, its locals, what it returns, its room, whether it makes an object -/
abbrev ATy : Type := String × ByteArray × Nat × Option FieldType × Room × Bool
/-- how a method ends: an answer or the name of what it throws; the entries then, how many -/
abbrev APost : Type := (Option Value ⊕ String) → (Nat → AE) → Nat → Prop
abbrev AQ : Type := List Frame → Array Value → State → (Nat → ClassId) → va_G → ((Nat → Nat) × Nat) → (Nat → Prop) → State → Prop
def FX (T : ATy) (p : Program) (l : Launch) (s : State) (m : MethodId) (args : Array Value) (meth : Method) (c : Code) (z : (Nat → Nat) × Nat) (A : Nat → Prop) : Prop :=
  p.tables.exec = Jvm.exec ∧ c.code = T.2.1 ∧ c.maxLocals = T.2.2.1 ∧ s.vm.findClass T.1 = some m.cls ∧ (∀ w ∈ GW, w.before args s = true) ∧ meth.locks = false ∧ meth.sig.returnType = T.2.2.2.1 ∧ l.stackTraces = false ∧ (∀ q, s.heap.size ≤ q → A q) ∧ EV (fun k => z.1 (900000 + k)) A s s.heap ∧ (T.2.2.2.2.2 = true → meth.name = "<init>")
def lvh (ls : Array Slot) (nL : Nat) (ad : Nat → Nat) (lo : List (Option Value)) : Prop := ls.size = nL ∧ lv_wf ls ∧ ∀ (i : Nat) (v : Value), lo[i]? = some (some v) → ls[i]? = some (.val (cv ad v))
def DY (T : ATy) (s : State) (H : Heap) (locs : List Loc) (ls : Array Slot) (ad : Nat → Nat) (kc : Nat → ClassId) (D : va_G) (z : (Nat → Nat) × Nat) (A : Nat → Prop) (lo : List (Option Value)) (h : Nat → AE) (n : Nat) : Prop :=
  va_K D vwCl (tysOf kc) s ∧ va_P D vwCl (cW ad kc h n) H ∧ va_D A (cW ad kc h n) ∧ va_S A s.heap H locs ∧ (∀ i, (i < z.2 ∨ n ≤ i) → ad i = z.1 i) ∧ (z.2 ≤ n ∧ n ≤ 900000) ∧ lvh ls T.2.2.1 ad lo
/-- THE JUDGEMENT: in the method T, at pc, with the locals lo, the stack st and the n entries h, the machine comes to Q; CX: what its code's table of handlers and the law's script say -/
def AW (T : ATy) (Q : AQ) (CX : Code → State → ((Nat → Nat) × Nat) → (Nat → Prop) → Prop) (pc : Nat) (lo : List (Option Value)) (st : List Value) (h : Nat → AE) (n ce sl : Nat) : Prop :=
  ∀ (p : Program) (l : Launch) (e : Env) (s : State) (m : MethodId) (args : Array Value) (below : List Frame) (meth : Method) (c : Code) (H : Heap) (locs : List Loc) (ls : Array Slot) (ad : Nat → Nat) (kc : Nat → ClassId) (D : va_G) (z : (Nat → Nat) × Nat) (A : Nat → Prop),
    FX T p l s m args meth c z A → CX c s z A → DY T s H locs ls ad kc D z A lo h n →
    W p l e T.2.2.2.2.1 s m args below meth c H locs ce sl (Q below args s kc D z A) (F0 m pc ls (st.map (cv ad)))
abbrev AC : Type := Code → State → ((Nat → Nat) × Nat) → (Nat → Prop) → Prop
/-- no handlers -/
def C0 : AC := fun c _ _ _ => ∀ x ∈ c.exceptionTable.toList, False
section AWrows
variable {T : ATy} {Q : AQ} {CX : AC} {pc : Nat} {lo lo' : List (Option Value)} {st : List Value} {h h' : Nat → AE} {n ce sl : Nat}
theorem AW.heap (e : ∀ i, i < n → h i = h' i) (k : AW T Q CX pc lo st h' n ce sl) : AW T Q CX pc lo st h n ce sl := by
  intro p l e1 s m args below meth c H locs ls ad kc D z A hF hC hD
  refine k p l e1 s m args below meth c H locs ls ad kc D z A hF hC ?_
  unfold DY at hD ⊢
  rw [← cW_congr e]
  exact hD
theorem AW.widen {ce' sl' : Nat} (h1 : ce ≤ ce') (h2 : sl ≤ sl') (k : AW T Q CX pc lo st h n ce' sl') : AW T Q CX pc lo st h n ce sl := by
  intro p l e1 s m args below meth c H locs ls ad kc D z A hF hC hD
  exact W.widen h1 h2 (k p l e1 s m args below meth c H locs ls ad kc D z A hF hC hD)
theorem aw_iconst {k : Int} {v : Int32} (hd : decode T.2.1 pc = .ok (.iconst k, 1)) (hv : Int32.ofInt k = v) (kk : AW T Q CX (pc + 1) lo (.int v :: st) h n ce sl) : AW T Q CX pc lo st h n ce sl := by
  intro p l e1 s m args below meth c H locs ls ad kc D z A hF hC hD
  exact lv_iconst hF.1 hF.2.1 hd hv (kk p l e1 s m args below meth c H locs ls ad kc D z A hF hC hD)
theorem aw_bipush {k : Int} {v : Int32} (hd : decode T.2.1 pc = .ok (.bipush k, 2)) (hv : (Int8.ofInt k).toInt32 = v) (kk : AW T Q CX (pc + 2) lo (.int v :: st) h n ce sl) : AW T Q CX pc lo st h n ce sl := by
  intro p l e1 s m args below meth c H locs ls ad kc D z A hF hC hD
  exact lv_bipush hF.1 hF.2.1 hd hv (kk p l e1 s m args below meth c H locs ls ad kc D z A hF hC hD)
theorem aw_sipush {k : Int} {v : Int32} (hd : decode T.2.1 pc = .ok (.sipush k, 3)) (hv : (Int16.ofInt k).toInt32 = v) (kk : AW T Q CX (pc + 3) lo (.int v :: st) h n ce sl) : AW T Q CX pc lo st h n ce sl := by
  intro p l e1 s m args below meth c H locs ls ad kc D z A hF hC hD
  exact lv_sipush hF.1 hF.2.1 hd hv (kk p l e1 s m args below meth c H locs ls ad kc D z A hF hC hD)
theorem aw_lconst {k : Fin 2} {v : Int64} (hd : decode T.2.1 pc = .ok (.lconst k, 1)) (hv : Int64.ofNat (k : Nat) = v) (kk : AW T Q CX (pc + 1) lo (.long v :: st) h n ce sl) : AW T Q CX pc lo st h n ce sl := by
  intro p l e1 s m args below meth c H locs ls ad kc D z A hF hC hD
  exact lv_lconst hF.1 hF.2.1 hd hv (kk p l e1 s m args below meth c H locs ls ad kc D z A hF hC hD)
theorem aw_ldc {index : Nat} {v : Int32} (hw : Cond.constant T.1 index v ∈ GW) (hd : decode T.2.1 pc = .ok (.ldc index, 2)) (kk : AW T Q CX (pc + 2) lo (.int v :: st) h n ce sl) : AW T Q CX pc lo st h n ce sl := by
  intro p l e1 s m args below meth c H locs ls ad kc D z A hF hC hD
  exact lv_ldc hF.1 hF.2.1 hF.2.2.2.1 (hF.2.2.2.2.1 _ hw) hd (kk p l e1 s m args below meth c H locs ls ad kc D z A hF hC hD)
theorem aw_ldc2 {index : Nat} {v : Int64} (hw : Cond.constantLong T.1 index v ∈ GW) (hd : decode T.2.1 pc = .ok (.ldc2_w index, 3)) (kk : AW T Q CX (pc + 3) lo (.long v :: st) h n ce sl) : AW T Q CX pc lo st h n ce sl := by
  intro p l e1 s m args below meth c H locs ls ad kc D z A hF hC hD
  exact lv_ldc2 hF.1 hF.2.1 hF.2.2.2.1 (hF.2.2.2.2.1 _ hw) hd (kk p l e1 s m args below meth c H locs ls ad kc D z A hF hC hD)
theorem aw_iload_n {k : Fin 4} {x : Int32} (hd : decode T.2.1 pc = .ok (.iload_n k, 1)) (hl : lo[(k : Nat)]? = some (some (.int x))) (kk : AW T Q CX (pc + 1) lo (.int x :: st) h n ce sl) : AW T Q CX pc lo st h n ce sl := by
  intro p l e1 s m args below meth c H locs ls ad kc D z A hF hC hD
  exact lv_iload_n hF.1 hF.2.1 hd rfl (hD.2.2.2.2.2.2.2.2 _ _ hl) (kk p l e1 s m args below meth c H locs ls ad kc D z A hF hC hD)
theorem aw_iload {k : Nat} {x : Int32} (hd : decode T.2.1 pc = .ok (.iload k, 2)) (hl : lo[k]? = some (some (.int x))) (kk : AW T Q CX (pc + 2) lo (.int x :: st) h n ce sl) : AW T Q CX pc lo st h n ce sl := by
  intro p l e1 s m args below meth c H locs ls ad kc D z A hF hC hD
  exact lv_iload hF.1 hF.2.1 hd (hD.2.2.2.2.2.2.2.2 _ _ hl) (kk p l e1 s m args below meth c H locs ls ad kc D z A hF hC hD)
theorem aw_lload_n {k : Fin 4} {x : Int64} (hd : decode T.2.1 pc = .ok (.lload_n k, 1)) (hl : lo[(k : Nat)]? = some (some (.long x))) (kk : AW T Q CX (pc + 1) lo (.long x :: st) h n ce sl) : AW T Q CX pc lo st h n ce sl := by
  intro p l e1 s m args below meth c H locs ls ad kc D z A hF hC hD
  exact lv_lload_n hF.1 hF.2.1 hd rfl (hD.2.2.2.2.2.2.2.2 _ _ hl) (kk p l e1 s m args below meth c H locs ls ad kc D z A hF hC hD)
theorem aw_lload {k : Nat} {x : Int64} (hd : decode T.2.1 pc = .ok (.lload k, 2)) (hl : lo[k]? = some (some (.long x))) (kk : AW T Q CX (pc + 2) lo (.long x :: st) h n ce sl) : AW T Q CX pc lo st h n ce sl := by
  intro p l e1 s m args below meth c H locs ls ad kc D z A hF hC hD
  exact lv_lload hF.1 hF.2.1 hd (hD.2.2.2.2.2.2.2.2 _ _ hl) (kk p l e1 s m args below meth c H locs ls ad kc D z A hF hC hD)
theorem aw_aload_n {k : Fin 4} {x : Nat} (hd : decode T.2.1 pc = .ok (.aload_n k, 1)) (hl : lo[(k : Nat)]? = some (some (.ref x))) (kk : AW T Q CX (pc + 1) lo (.ref x :: st) h n ce sl) : AW T Q CX pc lo st h n ce sl := by
  intro p l e1 s m args below meth c H locs ls ad kc D z A hF hC hD
  exact lv_aload_n hF.1 hF.2.1 hd rfl (hD.2.2.2.2.2.2.2.2 _ _ hl) (kk p l e1 s m args below meth c H locs ls ad kc D z A hF hC hD)
theorem aw_aload {k x : Nat} (hd : decode T.2.1 pc = .ok (.aload k, 2)) (hl : lo[k]? = some (some (.ref x))) (kk : AW T Q CX (pc + 2) lo (.ref x :: st) h n ce sl) : AW T Q CX pc lo st h n ce sl := by
  intro p l e1 s m args below meth c H locs ls ad kc D z A hF hC hD
  exact lv_aload hF.1 hF.2.1 hd (hD.2.2.2.2.2.2.2.2 _ _ hl) (kk p l e1 s m args below meth c H locs ls ad kc D z A hF hC hD)
theorem aw_aload_nN {k : Fin 4} (hd : decode T.2.1 pc = .ok (.aload_n k, 1)) (hl : lo[(k : Nat)]? = some (some .null)) (kk : AW T Q CX (pc + 1) lo (.null :: st) h n ce sl) : AW T Q CX pc lo st h n ce sl := by
  intro p l e1 s m args below meth c H locs ls ad kc D z A hF hC hD
  exact lv_aload_nN hF.1 hF.2.1 hd rfl (hD.2.2.2.2.2.2.2.2 _ _ hl) (kk p l e1 s m args below meth c H locs ls ad kc D z A hF hC hD)
theorem aw_iadd {x y : Int32} (hd : decode T.2.1 pc = .ok (.iadd, 1)) (kk : AW T Q CX (pc + 1) lo (.int (x + y) :: st) h n ce sl) : AW T Q CX pc lo (.int y :: .int x :: st) h n ce sl := by
  intro p l e1 s m args below meth c H locs ls ad kc D z A hF hC hD
  exact lv_iadd hF.1 hF.2.1 hd (kk p l e1 s m args below meth c H locs ls ad kc D z A hF hC hD)
theorem aw_isub {x y : Int32} (hd : decode T.2.1 pc = .ok (.isub, 1)) (kk : AW T Q CX (pc + 1) lo (.int (x - y) :: st) h n ce sl) : AW T Q CX pc lo (.int y :: .int x :: st) h n ce sl := by
  intro p l e1 s m args below meth c H locs ls ad kc D z A hF hC hD
  exact lv_isub hF.1 hF.2.1 hd (kk p l e1 s m args below meth c H locs ls ad kc D z A hF hC hD)
theorem aw_imul {x y : Int32} (hd : decode T.2.1 pc = .ok (.imul, 1)) (kk : AW T Q CX (pc + 1) lo (.int (x * y) :: st) h n ce sl) : AW T Q CX pc lo (.int y :: .int x :: st) h n ce sl := by
  intro p l e1 s m args below meth c H locs ls ad kc D z A hF hC hD
  exact lv_imul hF.1 hF.2.1 hd (kk p l e1 s m args below meth c H locs ls ad kc D z A hF hC hD)
theorem aw_idiv {x y : Int32} (hd : decode T.2.1 pc = .ok (.idiv, 1)) (hne : ¬ y = 0) (kk : AW T Q CX (pc + 1) lo (.int (x / y) :: st) h n ce sl) : AW T Q CX pc lo (.int y :: .int x :: st) h n ce sl := by
  intro p l e1 s m args below meth c H locs ls ad kc D z A hF hC hD
  exact lv_idiv hF.1 hF.2.1 hd hne (kk p l e1 s m args below meth c H locs ls ad kc D z A hF hC hD)
theorem aw_irem {x y : Int32} (hd : decode T.2.1 pc = .ok (.irem, 1)) (hne : ¬ y = 0) (kk : AW T Q CX (pc + 1) lo (.int (x - x / y * y) :: st) h n ce sl) : AW T Q CX pc lo (.int y :: .int x :: st) h n ce sl := by
  intro p l e1 s m args below meth c H locs ls ad kc D z A hF hC hD
  exact lv_irem hF.1 hF.2.1 hd hne (kk p l e1 s m args below meth c H locs ls ad kc D z A hF hC hD)
theorem aw_iand {x y : Int32} (hd : decode T.2.1 pc = .ok (.iand, 1)) (kk : AW T Q CX (pc + 1) lo (.int (x &&& y) :: st) h n ce sl) : AW T Q CX pc lo (.int y :: .int x :: st) h n ce sl := by
  intro p l e1 s m args below meth c H locs ls ad kc D z A hF hC hD
  exact lv_iand hF.1 hF.2.1 hd (kk p l e1 s m args below meth c H locs ls ad kc D z A hF hC hD)
theorem aw_ishr {x y : Int32} (hd : decode T.2.1 pc = .ok (.ishr, 1)) (kk : AW T Q CX (pc + 1) lo (.int (x >>> (y &&& 31)) :: st) h n ce sl) : AW T Q CX pc lo (.int y :: .int x :: st) h n ce sl := by
  intro p l e1 s m args below meth c H locs ls ad kc D z A hF hC hD
  exact lv_ishr hF.1 hF.2.1 hd (kk p l e1 s m args below meth c H locs ls ad kc D z A hF hC hD)
theorem aw_ladd {x y : Int64} (hd : decode T.2.1 pc = .ok (.ladd, 1)) (kk : AW T Q CX (pc + 1) lo (.long (x + y) :: st) h n ce sl) : AW T Q CX pc lo (.long y :: .long x :: st) h n ce sl := by
  intro p l e1 s m args below meth c H locs ls ad kc D z A hF hC hD
  exact lv_ladd hF.1 hF.2.1 hd (kk p l e1 s m args below meth c H locs ls ad kc D z A hF hC hD)
theorem aw_lsub {x y : Int64} (hd : decode T.2.1 pc = .ok (.lsub, 1)) (kk : AW T Q CX (pc + 1) lo (.long (x - y) :: st) h n ce sl) : AW T Q CX pc lo (.long y :: .long x :: st) h n ce sl := by
  intro p l e1 s m args below meth c H locs ls ad kc D z A hF hC hD
  exact lv_lsub hF.1 hF.2.1 hd (kk p l e1 s m args below meth c H locs ls ad kc D z A hF hC hD)
theorem aw_lmul {x y : Int64} (hd : decode T.2.1 pc = .ok (.lmul, 1)) (kk : AW T Q CX (pc + 1) lo (.long (x * y) :: st) h n ce sl) : AW T Q CX pc lo (.long y :: .long x :: st) h n ce sl := by
  intro p l e1 s m args below meth c H locs ls ad kc D z A hF hC hD
  exact lv_lmul hF.1 hF.2.1 hd (kk p l e1 s m args below meth c H locs ls ad kc D z A hF hC hD)
theorem aw_lcmp {x y : Int64} (hd : decode T.2.1 pc = .ok (.lcmp, 1)) (kk : AW T Q CX (pc + 1) lo (.int (lg_cmp x y) :: st) h n ce sl) : AW T Q CX pc lo (.long y :: .long x :: st) h n ce sl := by
  intro p l e1 s m args below meth c H locs ls ad kc D z A hF hC hD
  exact W.lcmp hF.1 hF.2.1 hd (kk p l e1 s m args below meth c H locs ls ad kc D z A hF hC hD)
theorem aw_i2l {x : Int32} (hd : decode T.2.1 pc = .ok (.i2l, 1)) (kk : AW T Q CX (pc + 1) lo (.long x.toInt64 :: st) h n ce sl) : AW T Q CX pc lo (.int x :: st) h n ce sl := by
  intro p l e1 s m args below meth c H locs ls ad kc D z A hF hC hD
  exact lv_i2l hF.1 hF.2.1 hd rfl (kk p l e1 s m args below meth c H locs ls ad kc D z A hF hC hD)
theorem aw_i2b {x : Int32} (hd : decode T.2.1 pc = .ok (.i2b, 1)) (kk : AW T Q CX (pc + 1) lo (.int x.toInt8.toInt32 :: st) h n ce sl) : AW T Q CX pc lo (.int x :: st) h n ce sl := by
  intro p l e1 s m args below meth c H locs ls ad kc D z A hF hC hD
  exact lv_i2b hF.1 hF.2.1 hd rfl (kk p l e1 s m args below meth c H locs ls ad kc D z A hF hC hD)
theorem cv_cat (ad : Nat → Nat) (v : Value) : (cv ad v).category = v.category := by cases v <;> rfl
theorem aw_dup {v : Value} (hd : decode T.2.1 pc = .ok (.dup, 1)) (hv : v.category = 1) (kk : AW T Q CX (pc + 1) lo (v :: v :: st) h n ce sl) : AW T Q CX pc lo (v :: st) h n ce sl := by
  intro p l e1 s m args below meth c H locs ls ad kc D z A hF hC hD
  exact lv_dup hF.1 hF.2.1 hd ((cv_cat ad v).trans hv) (kk p l e1 s m args below meth c H locs ls ad kc D z A hF hC hD)
theorem aw_pop {v : Value} (hd : decode T.2.1 pc = .ok (.pop, 1)) (hv : v.category = 1) (kk : AW T Q CX (pc + 1) lo st h n ce sl) : AW T Q CX pc lo (v :: st) h n ce sl := by
  intro p l e1 s m args below meth c H locs ls ad kc D z A hF hC hD
  exact lv_pop hF.1 hF.2.1 hd ((cv_cat ad v).trans hv) (kk p l e1 s m args below meth c H locs ls ad kc D z A hF hC hD)
theorem aw_dup_x1 {v w : Value} (hd : decode T.2.1 pc = .ok (.dup_x1, 1)) (hv : v.category = 1) (hw : w.category = 1) (kk : AW T Q CX (pc + 1) lo (v :: w :: v :: st) h n ce sl) : AW T Q CX pc lo (v :: w :: st) h n ce sl := by
  intro p l e1 s m args below meth c H locs ls ad kc D z A hF hC hD
  exact lv_dup_x1 hF.1 hF.2.1 hd ((cv_cat ad v).trans hv) ((cv_cat ad w).trans hw) (kk p l e1 s m args below meth c H locs ls ad kc D z A hF hC hD)
theorem aw_dup2 {v w : Value} (hd : decode T.2.1 pc = .ok (.dup2, 1)) (hv : v.category = 1) (hw : w.category = 1) (kk : AW T Q CX (pc + 1) lo (v :: w :: v :: w :: st) h n ce sl) : AW T Q CX pc lo (v :: w :: st) h n ce sl := by
  intro p l e1 s m args below meth c H locs ls ad kc D z A hF hC hD
  exact lv_dup2_11 hF.1 hF.2.1 hd ((cv_cat ad v).trans hv) ((cv_cat ad w).trans hw) (kk p l e1 s m args below meth c H locs ls ad kc D z A hF hC hD)
theorem aw_if_eq {x : Int32} {off : Int} (tgt : Nat) (hd : decode T.2.1 pc = .ok (.ifCond .eq off, 3)) (ht : (pc : Int) + off = (tgt : Int)) (kt : x = 0 → AW T Q CX tgt lo st h n ce sl) (kf : ¬ x = 0 → AW T Q CX (pc + 3) lo st h n ce sl) : AW T Q CX pc lo (.int x :: st) h n ce sl := by
  intro p l e1 s m args below meth c H locs ls ad kc D z A hF hC hD
  exact lv_if_eq hF.1 hF.2.1 hd ht (fun q => kt q p l e1 s m args below meth c H locs ls ad kc D z A hF hC hD) (fun q => kf q p l e1 s m args below meth c H locs ls ad kc D z A hF hC hD)
theorem aw_icmp_eq {x y : Int32} {off : Int} (tgt : Nat) (hd : decode T.2.1 pc = .ok (.if_icmp .eq off, 3)) (ht : (pc : Int) + off = (tgt : Int)) (kt : x = y → AW T Q CX tgt lo st h n ce sl) (kf : ¬ x = y → AW T Q CX (pc + 3) lo st h n ce sl) : AW T Q CX pc lo (.int y :: .int x :: st) h n ce sl := by
  intro p l e1 s m args below meth c H locs ls ad kc D z A hF hC hD
  exact lv_icmp_eq hF.1 hF.2.1 hd ht (fun q => kt q p l e1 s m args below meth c H locs ls ad kc D z A hF hC hD) (fun q => kf q p l e1 s m args below meth c H locs ls ad kc D z A hF hC hD)
theorem aw_if_ne {x : Int32} {off : Int} (tgt : Nat) (hd : decode T.2.1 pc = .ok (.ifCond .ne off, 3)) (ht : (pc : Int) + off = (tgt : Int)) (kt : ¬ x = 0 → AW T Q CX tgt lo st h n ce sl) (kf : x = 0 → AW T Q CX (pc + 3) lo st h n ce sl) : AW T Q CX pc lo (.int x :: st) h n ce sl := by
  intro p l e1 s m args below meth c H locs ls ad kc D z A hF hC hD
  exact lv_if_ne hF.1 hF.2.1 hd ht (fun q => kt q p l e1 s m args below meth c H locs ls ad kc D z A hF hC hD) (fun q => kf q p l e1 s m args below meth c H locs ls ad kc D z A hF hC hD)
theorem aw_icmp_ne {x y : Int32} {off : Int} (tgt : Nat) (hd : decode T.2.1 pc = .ok (.if_icmp .ne off, 3)) (ht : (pc : Int) + off = (tgt : Int)) (kt : ¬ x = y → AW T Q CX tgt lo st h n ce sl) (kf : x = y → AW T Q CX (pc + 3) lo st h n ce sl) : AW T Q CX pc lo (.int y :: .int x :: st) h n ce sl := by
  intro p l e1 s m args below meth c H locs ls ad kc D z A hF hC hD
  exact lv_icmp_ne hF.1 hF.2.1 hd ht (fun q => kt q p l e1 s m args below meth c H locs ls ad kc D z A hF hC hD) (fun q => kf q p l e1 s m args below meth c H locs ls ad kc D z A hF hC hD)
theorem aw_if_lt {x : Int32} {off : Int} (tgt : Nat) (hd : decode T.2.1 pc = .ok (.ifCond .lt off, 3)) (ht : (pc : Int) + off = (tgt : Int)) (kt : x < 0 → AW T Q CX tgt lo st h n ce sl) (kf : ¬ x < 0 → AW T Q CX (pc + 3) lo st h n ce sl) : AW T Q CX pc lo (.int x :: st) h n ce sl := by
  intro p l e1 s m args below meth c H locs ls ad kc D z A hF hC hD
  exact lv_if_lt hF.1 hF.2.1 hd ht (fun q => kt q p l e1 s m args below meth c H locs ls ad kc D z A hF hC hD) (fun q => kf q p l e1 s m args below meth c H locs ls ad kc D z A hF hC hD)
theorem aw_icmp_lt {x y : Int32} {off : Int} (tgt : Nat) (hd : decode T.2.1 pc = .ok (.if_icmp .lt off, 3)) (ht : (pc : Int) + off = (tgt : Int)) (kt : x < y → AW T Q CX tgt lo st h n ce sl) (kf : ¬ x < y → AW T Q CX (pc + 3) lo st h n ce sl) : AW T Q CX pc lo (.int y :: .int x :: st) h n ce sl := by
  intro p l e1 s m args below meth c H locs ls ad kc D z A hF hC hD
  exact lv_icmp_lt hF.1 hF.2.1 hd ht (fun q => kt q p l e1 s m args below meth c H locs ls ad kc D z A hF hC hD) (fun q => kf q p l e1 s m args below meth c H locs ls ad kc D z A hF hC hD)
theorem aw_if_ge {x : Int32} {off : Int} (tgt : Nat) (hd : decode T.2.1 pc = .ok (.ifCond .ge off, 3)) (ht : (pc : Int) + off = (tgt : Int)) (kt : 0 ≤ x → AW T Q CX tgt lo st h n ce sl) (kf : ¬ 0 ≤ x → AW T Q CX (pc + 3) lo st h n ce sl) : AW T Q CX pc lo (.int x :: st) h n ce sl := by
  intro p l e1 s m args below meth c H locs ls ad kc D z A hF hC hD
  exact lv_if_ge hF.1 hF.2.1 hd ht (fun q => kt q p l e1 s m args below meth c H locs ls ad kc D z A hF hC hD) (fun q => kf q p l e1 s m args below meth c H locs ls ad kc D z A hF hC hD)
theorem aw_icmp_ge {x y : Int32} {off : Int} (tgt : Nat) (hd : decode T.2.1 pc = .ok (.if_icmp .ge off, 3)) (ht : (pc : Int) + off = (tgt : Int)) (kt : y ≤ x → AW T Q CX tgt lo st h n ce sl) (kf : ¬ y ≤ x → AW T Q CX (pc + 3) lo st h n ce sl) : AW T Q CX pc lo (.int y :: .int x :: st) h n ce sl := by
  intro p l e1 s m args below meth c H locs ls ad kc D z A hF hC hD
  exact lv_icmp_ge hF.1 hF.2.1 hd ht (fun q => kt q p l e1 s m args below meth c H locs ls ad kc D z A hF hC hD) (fun q => kf q p l e1 s m args below meth c H locs ls ad kc D z A hF hC hD)
theorem aw_if_gt {x : Int32} {off : Int} (tgt : Nat) (hd : decode T.2.1 pc = .ok (.ifCond .gt off, 3)) (ht : (pc : Int) + off = (tgt : Int)) (kt : 0 < x → AW T Q CX tgt lo st h n ce sl) (kf : ¬ 0 < x → AW T Q CX (pc + 3) lo st h n ce sl) : AW T Q CX pc lo (.int x :: st) h n ce sl := by
  intro p l e1 s m args below meth c H locs ls ad kc D z A hF hC hD
  exact lv_if_gt hF.1 hF.2.1 hd ht (fun q => kt q p l e1 s m args below meth c H locs ls ad kc D z A hF hC hD) (fun q => kf q p l e1 s m args below meth c H locs ls ad kc D z A hF hC hD)
theorem aw_icmp_gt {x y : Int32} {off : Int} (tgt : Nat) (hd : decode T.2.1 pc = .ok (.if_icmp .gt off, 3)) (ht : (pc : Int) + off = (tgt : Int)) (kt : y < x → AW T Q CX tgt lo st h n ce sl) (kf : ¬ y < x → AW T Q CX (pc + 3) lo st h n ce sl) : AW T Q CX pc lo (.int y :: .int x :: st) h n ce sl := by
  intro p l e1 s m args below meth c H locs ls ad kc D z A hF hC hD
  exact lv_icmp_gt hF.1 hF.2.1 hd ht (fun q => kt q p l e1 s m args below meth c H locs ls ad kc D z A hF hC hD) (fun q => kf q p l e1 s m args below meth c H locs ls ad kc D z A hF hC hD)
theorem aw_if_le {x : Int32} {off : Int} (tgt : Nat) (hd : decode T.2.1 pc = .ok (.ifCond .le off, 3)) (ht : (pc : Int) + off = (tgt : Int)) (kt : x ≤ 0 → AW T Q CX tgt lo st h n ce sl) (kf : ¬ x ≤ 0 → AW T Q CX (pc + 3) lo st h n ce sl) : AW T Q CX pc lo (.int x :: st) h n ce sl := by
  intro p l e1 s m args below meth c H locs ls ad kc D z A hF hC hD
  exact lv_if_le hF.1 hF.2.1 hd ht (fun q => kt q p l e1 s m args below meth c H locs ls ad kc D z A hF hC hD) (fun q => kf q p l e1 s m args below meth c H locs ls ad kc D z A hF hC hD)
theorem aw_icmp_le {x y : Int32} {off : Int} (tgt : Nat) (hd : decode T.2.1 pc = .ok (.if_icmp .le off, 3)) (ht : (pc : Int) + off = (tgt : Int)) (kt : x ≤ y → AW T Q CX tgt lo st h n ce sl) (kf : ¬ x ≤ y → AW T Q CX (pc + 3) lo st h n ce sl) : AW T Q CX pc lo (.int y :: .int x :: st) h n ce sl := by
  intro p l e1 s m args below meth c H locs ls ad kc D z A hF hC hD
  exact lv_icmp_le hF.1 hF.2.1 hd ht (fun q => kt q p l e1 s m args below meth c H locs ls ad kc D z A hF hC hD) (fun q => kf q p l e1 s m args below meth c H locs ls ad kc D z A hF hC hD)
theorem aw_goto {off : Int} (tgt : Nat) (hd : decode T.2.1 pc = .ok (.goto off, 3)) (ht : (pc : Int) + off = (tgt : Int)) (kk : AW T Q CX tgt lo st h n ce sl) : AW T Q CX pc lo st h n ce sl := by
  intro p l e1 s m args below meth c H locs ls ad kc D z A hF hC hD
  exact lv_goto hF.1 hF.2.1 hd ht (kk p l e1 s m args below meth c H locs ls ad kc D z A hF hC hD)
theorem aw_ifnonnull {x : Nat} {off : Int} (tgt : Nat) (hd : decode T.2.1 pc = .ok (.ifnonnull off, 3)) (ht : (pc : Int) + off = (tgt : Int)) (kk : AW T Q CX tgt lo st h n ce sl) : AW T Q CX pc lo (.ref x :: st) h n ce sl := by
  intro p l e1 s m args below meth c H locs ls ad kc D z A hF hC hD
  exact lv_ifnonnull hF.1 hF.2.1 hd ht (kk p l e1 s m args below meth c H locs ls ad kc D z A hF hC hD)
theorem aw_ifnonnullN {off : Int} (hd : decode T.2.1 pc = .ok (.ifnonnull off, 3)) (kk : AW T Q CX (pc + 3) lo st h n ce sl) : AW T Q CX pc lo (.null :: st) h n ce sl := by
  intro p l e1 s m args below meth c H locs ls ad kc D z A hF hC hD
  exact lv_ifnonnullN hF.1 hF.2.1 hd (kk p l e1 s m args below meth c H locs ls ad kc D z A hF hC hD)
def dropL (o : Option Value) : Option Value := match o with
  | some (.long _) => none
  | some (.double _) => none
  | x => x
/-- a store of one word at i -/
def stL : List (Option Value) → Nat → Value → List (Option Value)
  | [], _, _ => []
  | _ :: l, 0, v => some v :: l
  | o :: l, 1, v => dropL o :: stL l 0 v
  | o :: l, i + 2, v => o :: stL l (i + 1) v
/-- a store of two words at i -/
def stM : List (Option Value) → Nat → Value → List (Option Value)
  | [], _, _ => []
  | [_], 0, v => [some v]
  | _ :: _ :: l, 0, v => some v :: none :: l
  | o :: l, 1, v => dropL o :: stM l 0 v
  | o :: l, i + 2, v => o :: stM l (i + 1) v
theorem dropL_some {o : Option Value} {w : Value} (h : dropL o = some w) : o = some w ∧ w.category = 1 := by
  cases o with
  | none => simp [dropL] at h
  | some v => cases v <;> simp [dropL] at h <;> subst h <;> exact ⟨rfl, rfl⟩
theorem stL_get : ∀ (lo : List (Option Value)) (i : Nat) (v : Value) (j : Nat) (w : Value), (stL lo i v)[j]? = some (some w) → (j = i ∧ w = v) ∨ (j ≠ i ∧ lo[j]? = some (some w) ∧ (j + 1 = i → w.category = 1))
  | [], i, v, j, w, h => by simp [stL] at h
  | o :: l, 0, v, j, w, h => by
    cases j with
    | zero => simp [stL] at h; exact Or.inl ⟨rfl, h.symm⟩
    | succ j => simp [stL] at h; exact Or.inr ⟨by omega, by simpa using h, by omega⟩
  | o :: l, 1, v, j, w, h => by
    cases j with
    | zero =>
      simp [stL] at h
      obtain ⟨h1, h2⟩ := dropL_some h
      exact Or.inr ⟨by omega, by simp [h1], fun _ => h2⟩
    | succ j =>
      have h1 : (stL l 0 v)[j]? = some (some w) := by simpa [stL] using h
      rcases stL_get l 0 v j w h1 with ⟨a, b⟩ | ⟨a, b, c⟩
      · exact Or.inl ⟨by omega, b⟩
      · exact Or.inr ⟨by omega, by simpa using b, fun q => c (by omega)⟩
  | o :: l, i + 2, v, j, w, h => by
    cases j with
    | zero =>
      simp [stL] at h
      exact Or.inr ⟨by omega, by simp [h], by omega⟩
    | succ j =>
      have h1 : (stL l (i + 1) v)[j]? = some (some w) := by simpa [stL] using h
      rcases stL_get l (i + 1) v j w h1 with ⟨a, b⟩ | ⟨a, b, c⟩
      · exact Or.inl ⟨by omega, b⟩
      · exact Or.inr ⟨by omega, by simpa using b, fun q => c (by omega)⟩
theorem stM_get : ∀ (lo : List (Option Value)) (i : Nat) (v : Value) (j : Nat) (w : Value), (stM lo i v)[j]? = some (some w) → (j = i ∧ w = v) ∨ (j ≠ i ∧ j ≠ i + 1 ∧ lo[j]? = some (some w) ∧ (j + 1 = i → w.category = 1))
  | [], i, v, j, w, h => by simp [stM] at h
  | [o], 0, v, j, w, h => by
    cases j with
    | zero => simp [stM] at h; exact Or.inl ⟨rfl, h.symm⟩
    | succ j => simp [stM] at h
  | o :: o2 :: l, 0, v, j, w, h => by
    cases j with
    | zero => simp [stM] at h; exact Or.inl ⟨rfl, h.symm⟩
    | succ j =>
      cases j with
      | zero => simp [stM] at h
      | succ j => simp [stM] at h; exact Or.inr ⟨by omega, by omega, by simpa using h, by omega⟩
  | o :: l, 1, v, j, w, h => by
    cases j with
    | zero =>
      simp [stM] at h
      obtain ⟨h1, h2⟩ := dropL_some h
      exact Or.inr ⟨by omega, by omega, by simp [h1], fun _ => h2⟩
    | succ j =>
      have h1 : (stM l 0 v)[j]? = some (some w) := by simpa [stM] using h
      rcases stM_get l 0 v j w h1 with ⟨a, b⟩ | ⟨a, b, c, d⟩
      · exact Or.inl ⟨by omega, b⟩
      · exact Or.inr ⟨by omega, by omega, by simpa using c, fun q => d (by omega)⟩
  | o :: l, i + 2, v, j, w, h => by
    cases j with
    | zero =>
      simp [stM] at h
      exact Or.inr ⟨by omega, by omega, by simp [h], by omega⟩
    | succ j =>
      have h1 : (stM l (i + 1) v)[j]? = some (some w) := by simpa [stM] using h
      rcases stM_get l (i + 1) v j w h1 with ⟨a, b⟩ | ⟨a, b, c, d⟩
      · exact Or.inl ⟨by omega, b⟩
      · exact Or.inr ⟨by omega, by omega, by simpa using c, fun q => d (by omega)⟩
/-- the known locals as a list of pairs -/
def prs (ad : Nat → Nat) (lo : List (Option Value)) : List (Nat × Value) := (List.range lo.length).filterMap (fun i => match lo[i]? with
  | some (some v) => some (i, cv ad v)
  | _ => none)
theorem prs_mem {ad : Nat → Nat} {lo : List (Option Value)} {i : Nat} {v : Value} (h : lo[i]? = some (some v)) : (i, cv ad v) ∈ prs ad lo := by
  refine List.mem_filterMap.mpr ⟨i, List.mem_range.mpr (List.getElem?_eq_some_iff.mp h).1, ?_⟩
  rw [h]
theorem prs_of {ad : Nat → Nat} {lo : List (Option Value)} {q : Nat × Value} (h : q ∈ prs ad lo) : ∃ v, lo[q.1]? = some (some v) ∧ q.2 = cv ad v := by
  obtain ⟨i, -, hi⟩ := List.mem_filterMap.mp h
  cases hl : lo[i]? with
  | none => rw [hl] at hi; simp at hi
  | some o => cases o with
    | none => rw [hl] at hi; simp at hi
    | some v => rw [hl] at hi; simp at hi; subst hi; exact ⟨v, hl, rfl⟩
theorem lvh_has {ls : Array Slot} {nL : Nat} {ad : Nat → Nat} {lo : List (Option Value)} (h : lvh ls nL ad lo) : lv_has ls nL (prs ad lo) := ⟨h.1, h.2.1, fun q hq => by
  obtain ⟨v, h1, h2⟩ := prs_of hq
  rw [h2]
  exact h.2.2 _ _ h1⟩
theorem lvh_st {ls' : Array Slot} {nL : Nat} {ad : Nat → Nat} {lo lo' : List (Option Value)} {i : Nat} {v : Value} (hl : stL lo i v = lo')
    (h : lv_has ls' nL ((i, cv ad v) :: (prs ad lo).filter (fun q => !(q.1 == i) && !(q.1 + 1 == i && q.2.category == 2)))) : lvh ls' nL ad lo' := by
  refine ⟨h.1, h.2.1, fun j w hj => ?_⟩
  rw [← hl] at hj
  rcases stL_get lo i v j w hj with ⟨a, b⟩ | ⟨a, b, c⟩
  · subst a; subst b
    exact h.2.2 (j, cv ad w) List.mem_cons_self
  · refine h.2.2 (j, cv ad w) (List.mem_cons_of_mem _ (List.mem_filter.mpr ⟨prs_mem b, ?_⟩))
    by_cases e : j + 1 = i
    · have hc := c e
      simp [a, cv_cat, hc]
    · simp [a, e]
theorem lvh_sm {ls' : Array Slot} {nL : Nat} {ad : Nat → Nat} {lo lo' : List (Option Value)} {i : Nat} {v : Value} (hl : stM lo i v = lo')
    (h : lv_has ls' nL ((i, cv ad v) :: (prs ad lo).filter (fun q => !(q.1 == i) && (!(q.1 == i + 1) && !(q.1 + 1 == i && q.2.category == 2))))) : lvh ls' nL ad lo' := by
  refine ⟨h.1, h.2.1, fun j w hj => ?_⟩
  rw [← hl] at hj
  rcases stM_get lo i v j w hj with ⟨a, b⟩ | ⟨a, b, c, d⟩
  · subst a; subst b
    exact h.2.2 (j, cv ad w) List.mem_cons_self
  · refine h.2.2 (j, cv ad w) (List.mem_cons_of_mem _ (List.mem_filter.mpr ⟨prs_mem c, ?_⟩))
    by_cases e : j + 1 = i
    · have hc := d e
      simp [a, b, cv_cat, hc]
    · simp [a, b, e]
theorem dy_lo {s : State} {H : Heap} {locs : List Loc} {ls ls' : Array Slot} {ad : Nat → Nat} {kc : Nat → ClassId} {D : va_G} {z : (Nat → Nat) × Nat} {A : Nat → Prop} (hD : DY T s H locs ls ad kc D z A lo h n) (hl : lvh ls' T.2.2.1 ad lo') : DY T s H locs ls' ad kc D z A lo' h n := ⟨hD.1, hD.2.1, hD.2.2.1, hD.2.2.2.1, hD.2.2.2.2.1, hD.2.2.2.2.2.1, hl⟩
theorem aw_lo (e : ∀ (i : Nat) (v : Value), lo'[i]? = some (some v) → lo[i]? = some (some v)) (k : AW T Q CX pc lo' st h n ce sl) : AW T Q CX pc lo st h n ce sl := by
  intro p l e1 s m args below meth c H locs ls ad kc D z A hF hC hD
  exact k p l e1 s m args below meth c H locs ls ad kc D z A hF hC (dy_lo hD ⟨hD.2.2.2.2.2.2.1, hD.2.2.2.2.2.2.2.1, fun i v hi => hD.2.2.2.2.2.2.2.2 i v (e i v hi)⟩)
theorem aw_istore_n {k : Fin 4} {x : Int32} (hd : decode T.2.1 pc = .ok (.istore_n k, 1)) (hn : (k : Nat) < T.2.2.1) (hl : stL lo (k : Nat) (.int x) = lo') (kk : AW T Q CX (pc + 1) lo' st h n ce sl) : AW T Q CX pc lo (.int x :: st) h n ce sl := by
  intro p l e1 s m args below meth c H locs ls ad kc D z A hF hC hD
  exact lv_istore_n hF.1 hF.2.1 hd rfl (lvh_has hD.2.2.2.2.2.2) hn rfl (fun ls' hls => kk p l e1 s m args below meth c H locs ls' ad kc D z A hF hC (dy_lo hD (lvh_st hl hls)))
theorem aw_istore {k : Nat} {x : Int32} (hd : decode T.2.1 pc = .ok (.istore k, 2)) (hn : k < T.2.2.1) (hl : stL lo k (.int x) = lo') (kk : AW T Q CX (pc + 2) lo' st h n ce sl) : AW T Q CX pc lo (.int x :: st) h n ce sl := by
  intro p l e1 s m args below meth c H locs ls ad kc D z A hF hC hD
  exact lv_istore hF.1 hF.2.1 hd (lvh_has hD.2.2.2.2.2.2) hn rfl (fun ls' hls => kk p l e1 s m args below meth c H locs ls' ad kc D z A hF hC (dy_lo hD (lvh_st hl hls)))
theorem aw_astore_n {k : Fin 4} {x : Nat} (hd : decode T.2.1 pc = .ok (.astore_n k, 1)) (hn : (k : Nat) < T.2.2.1) (hl : stL lo (k : Nat) (.ref x) = lo') (kk : AW T Q CX (pc + 1) lo' st h n ce sl) : AW T Q CX pc lo (.ref x :: st) h n ce sl := by
  intro p l e1 s m args below meth c H locs ls ad kc D z A hF hC hD
  exact lv_astore_n hF.1 hF.2.1 hd rfl (lvh_has hD.2.2.2.2.2.2) hn rfl (fun ls' hls => kk p l e1 s m args below meth c H locs ls' ad kc D z A hF hC (dy_lo hD (lvh_st hl hls)))
theorem aw_astore {k x : Nat} (hd : decode T.2.1 pc = .ok (.astore k, 2)) (hn : k < T.2.2.1) (hl : stL lo k (.ref x) = lo') (kk : AW T Q CX (pc + 2) lo' st h n ce sl) : AW T Q CX pc lo (.ref x :: st) h n ce sl := by
  intro p l e1 s m args below meth c H locs ls ad kc D z A hF hC hD
  exact lv_astore hF.1 hF.2.1 hd (lvh_has hD.2.2.2.2.2.2) hn rfl (fun ls' hls => kk p l e1 s m args below meth c H locs ls' ad kc D z A hF hC (dy_lo hD (lvh_st hl hls)))
theorem aw_astore_nN {k : Fin 4} (hd : decode T.2.1 pc = .ok (.astore_n k, 1)) (hn : (k : Nat) < T.2.2.1) (hl : stL lo (k : Nat) .null = lo') (kk : AW T Q CX (pc + 1) lo' st h n ce sl) : AW T Q CX pc lo (.null :: st) h n ce sl := by
  intro p l e1 s m args below meth c H locs ls ad kc D z A hF hC hD
  exact lv_astore_nN hF.1 hF.2.1 hd rfl (lvh_has hD.2.2.2.2.2.2) hn rfl (fun ls' hls => kk p l e1 s m args below meth c H locs ls' ad kc D z A hF hC (dy_lo hD (lvh_st hl hls)))
theorem aw_lstore_n {k : Fin 4} {x : Int64} (hd : decode T.2.1 pc = .ok (.lstore_n k, 1)) (hn : (k : Nat) + 1 < T.2.2.1) (hl : stM lo (k : Nat) (.long x) = lo') (kk : AW T Q CX (pc + 1) lo' st h n ce sl) : AW T Q CX pc lo (.long x :: st) h n ce sl := by
  intro p l e1 s m args below meth c H locs ls ad kc D z A hF hC hD
  exact lv_lstore_n hF.1 hF.2.1 hd rfl (lvh_has hD.2.2.2.2.2.2) hn rfl (fun ls' hls => kk p l e1 s m args below meth c H locs ls' ad kc D z A hF hC (dy_lo hD (lvh_sm hl hls)))
theorem aw_lstore {k : Nat} {x : Int64} (hd : decode T.2.1 pc = .ok (.lstore k, 2)) (hn : k + 1 < T.2.2.1) (hl : stM lo k (.long x) = lo') (kk : AW T Q CX (pc + 2) lo' st h n ce sl) : AW T Q CX pc lo (.long x :: st) h n ce sl := by
  intro p l e1 s m args below meth c H locs ls ad kc D z A hF hC hD
  exact lv_lstore hF.1 hF.2.1 hd (lvh_has hD.2.2.2.2.2.2) hn rfl (fun ls' hls => kk p l e1 s m args below meth c H locs ls' ad kc D z A hF hC (dy_lo hD (lvh_sm hl hls)))
theorem aw_iinc {i : Nat} {d : Int} {x : Int32} (hd : decode T.2.1 pc = .ok (.iinc i d, 3)) (hx : lo[i]? = some (some (.int x))) (hn : i < T.2.2.1) (hl : stL lo i (.int (x + Int32.ofInt d)) = lo') (kk : AW T Q CX (pc + 3) lo' st h n ce sl) : AW T Q CX pc lo st h n ce sl := by
  intro p l e1 s m args below meth c H locs ls ad kc D z A hF hC hD
  obtain ⟨k, hk⟩ := List.getElem?_of_mem (prs_mem (ad := ad) hx)
  exact lv_iinc (k := k) hF.1 hF.2.1 hd (lvh_has hD.2.2.2.2.2.2) hk rfl hn rfl (fun ls' hls => kk p l e1 s m args below meth c H locs ls' ad kc D z A hF hC (dy_lo hD (lvh_st hl hls)))
/-- a field by the place k of its class ci, as the class own reaches it at its entry index -/
def FL (own : String) (index ci k : Nat) : Prop := ∃ (C : String) (TT : u_T) (N : Nat), vwCl[ci]? = some (C, TT, N) ∧ k < N ∧ (∀ w ∈ u_ws C TT N, w ∈ GW) ∧ (Cond.fieldLink own index (TT k).1 (TT k).2.1 (TT k).2.2.1 ∈ GW ∨ ∃ host, Cond.fieldLinkNest own index (TT k).1 (TT k).2.1 (TT k).2.2.1 host ∈ GW)
/-- a field that own may write -/
def FP (own : String) (index ci k : Nat) (ty : FieldType) (ini : Bool) : Prop := ∃ (C : String) (TT : u_T) (N : Nat) (ty0 : Nat → FieldType), vwCl[ci]? = some (C, TT, N) ∧ k < N ∧ (∀ w ∈ u_ws C TT N, w ∈ GW) ∧
  (∀ k, k < N → parseFieldDescriptor (TT k).2.2.1 = some (ty0 k)) ∧ (∀ a, a < N → ∀ b, b < N → a ≠ b → (TT a).2.1 ≠ (TT b).2.1) ∧ parseFieldDescriptor (TT k).2.2.1 = some ty ∧
  ((Cond.fieldLink own index (TT k).1 (TT k).2.1 (TT k).2.2.1 ∈ GW ∧ (TT k).2.2.2 = false) ∨ ((∃ host, Cond.fieldLinkNest own index (TT k).1 (TT k).2.1 (TT k).2.2.1 host ∈ GW) ∧ (TT k).2.2.2 = false) ∨ (Cond.fieldLink own index (TT k).1 (TT k).2.1 (TT k).2.2.1 ∈ GW ∧ (TT k).2.2.2 = true ∧ ini = true ∧ (TT k).1 = own))
theorem aw_get {i ci index k : Nat} {fs : List Value} {v : Value} (hL : FL T.1 index ci k) (hd : decode T.2.1 pc = .ok (.getfield index, 3)) (he : h i = .inr (ci, fs)) (hi : i < n) (hv : fs[k]? = some v) (kk : AW T Q CX (pc + 3) lo (v :: st) h n ce sl) : AW T Q CX pc lo (.ref i :: st) h n ce sl := by
  intro p l e1 s m args below meth c H locs ls ad kc D z A hF hC hD
  obtain ⟨C, TT, N, hc, hk, hin, hw | ⟨host, hw⟩⟩ := hL
  · exact va_get (D := D) (cl := vwCl) (tys := tysOf kc) (ws := cW ad kc h n) (v := cv ad v) hF.1 hF.2.1 hF.2.2.2.2.1 hin hF.2.2.2.1 hD.1 hD.2.1 i (cW_getE hi he rfl) hc k hk (hF.2.2.2.2.1 _ hw) (fun _ h9 => h9) (by rw [List.getElem?_map, hv]; rfl) hd (kk p l e1 s m args below meth c H locs ls ad kc D z A hF hC hD)
  · exact va_getN (D := D) (cl := vwCl) (tys := tysOf kc) (ws := cW ad kc h n) (v := cv ad v) hF.1 hF.2.1 hF.2.2.2.2.1 hin hF.2.2.2.1 hD.1 hD.2.1 i (cW_getE hi he rfl) hc k hk (hF.2.2.2.2.1 _ hw) (fun _ h9 => h9) (by rw [List.getElem?_map, hv]; rfl) hd (kk p l e1 s m args below meth c H locs ls ad kc D z A hF hC hD)
theorem DY.put {s : State} {H H1 : Heap} {locs locs1 : List Loc} {ls : Array Slot} {ad : Nat → Nat} {kc : Nat → ClassId} {D : va_G} {z : (Nat → Nat) × Nat} {A : Nat → Prop} {i : Nat} {e : AE} {e' : va_E} (hD : DY T s H locs ls ad kc D z A lo h n) (hi : i < n) (hh : hset h i e = h') (he : cE ad kc e = e') (hP1 : va_P D vwCl ((cW ad kc h n).set i (ad i, e')) H1) (hD1 : va_D A ((cW ad kc h n).set i (ad i, e'))) (hS1 : va_S A s.heap H1 locs1) : DY T s H1 locs1 ls ad kc D z A lo h' n := by
  subst he
  rw [cW_set hi, hh] at hP1 hD1
  exact ⟨hD.1, hP1, hD1, hS1, hD.2.2.2.2.1, hD.2.2.2.2.2.1, hD.2.2.2.2.2.2⟩
theorem aw_put {i ci index k : Nat} {ty : FieldType} {fs : List Value} {v : Value} (hL : FP T.1 index ci k ty T.2.2.2.2.2) (hd : decode T.2.1 pc = .ok (.putfield index, 3)) (he : h i = .inr (ci, fs)) (hi : i < n) (hl : k < fs.length) (hty : ∀ ad : Nat → Nat, narrow ty (cv ad v) = cv ad v ∧ fits ty (cv ad v) = true) (hh : hset h i (.inr (ci, fs.set k v)) = h') (kk : AW T Q CX (pc + 3) lo st h' n ce sl) : AW T Q CX pc lo (v :: .ref i :: st) h n ce sl := by
  intro p l e1 s m args below meth c H locs ls ad kc D z A hF hC hD
  obtain ⟨C, TT, N, ty0, hc, hk, hin, h0, hnm, hpd, ⟨hw, hf⟩ | ⟨⟨host, hw⟩, hf⟩ | ⟨hw, hf, hini, hdec⟩⟩ := hL
  · exact va_put (D := D) (cl := vwCl) (tys := tysOf kc) (ws := cW ad kc h n) (v := cv ad v) hF.1 hF.2.1 hF.2.2.2.2.1 hin ty0 h0 hnm hF.2.2.2.1 hD.1 hD.2.1 hD.2.2.1 hD.2.2.2.1 i (cW_getE hi he rfl) hc k hk (hF.2.2.2.2.1 _ hw) (fun _ h9 => h9) hf hpd (hty ad).1 (hty ad).2 (by rw [List.length_map]; exact hl) hd
      (fun H1 locs1 hP1 hD1 hS1 => kk p l e1 s m args below meth c H1 locs1 ls ad kc D z A hF hC (hD.put hi hh (by simp [cE, List.map_set]) hP1 hD1 hS1))
  · exact va_putN (D := D) (cl := vwCl) (tys := tysOf kc) (ws := cW ad kc h n) (v := cv ad v) hF.1 hF.2.1 hF.2.2.2.2.1 hin ty0 h0 hnm hF.2.2.2.1 hD.1 hD.2.1 hD.2.2.1 hD.2.2.2.1 i (cW_getE hi he rfl) hc k hk (hF.2.2.2.2.1 _ hw) (fun _ h9 => h9) hf hpd (hty ad).1 (hty ad).2 (by rw [List.length_map]; exact hl) hd
      (fun H1 locs1 hP1 hD1 hS1 => kk p l e1 s m args below meth c H1 locs1 ls ad kc D z A hF hC (hD.put hi hh (by simp [cE, List.map_set]) hP1 hD1 hS1))
  · exact va_putF (D := D) (cl := vwCl) (tys := tysOf kc) (ws := cW ad kc h n) (v := cv ad v) hF.1 hF.2.1 hF.2.2.2.2.1 hin ty0 h0 hnm hF.2.2.2.1 hD.1 hD.2.1 hD.2.2.1 hD.2.2.2.1 i (cW_getE hi he rfl) hc k hk (hF.2.2.2.2.1 _ hw) (fun _ h9 => h9) hf (hF.2.2.2.2.2.2.2.2.2.2 hini) hdec hpd (hty ad).1 (hty ad).2 (by rw [List.length_map]; exact hl) hd
      (fun H1 locs1 hP1 hD1 hS1 => kk p l e1 s m args below meth c H1 locs1 ls ad kc D z A hF hC (hD.put hi hh (by simp [cE, List.map_set]) hP1 hD1 hS1))
theorem aw_iald {i len : Nat} {f : Nat → Int32} {j : Int32} (hd : decode T.2.1 pc = .ok (.iaload, 1)) (he : h i = .inl (0, len, .inl f)) (hi : i < n) (hj : vp_in j len) (kk : AW T Q CX (pc + 1) lo (.int (f j.toNatClampNeg) :: st) h n ce sl) : AW T Q CX pc lo (.int j :: .ref i :: st) h n ce sl := by
  intro p l e1 s m args below meth c H locs ls ad kc D z A hF hC hD
  exact va_iald hF.1 hF.2.1 hD.1 hD.2.1 i 0 (cW_getE hi he rfl) rfl hj hd (kk p l e1 s m args below meth c H locs ls ad kc D z A hF hC hD)
theorem aw_bald {i len : Nat} {f : Nat → Int32} {j : Int32} (hd : decode T.2.1 pc = .ok (.baload, 1)) (he : h i = .inl (1, len, .inl f)) (hi : i < n) (hj : vp_in j len) (kk : AW T Q CX (pc + 1) lo (.int (f j.toNatClampNeg) :: st) h n ce sl) : AW T Q CX pc lo (.int j :: .ref i :: st) h n ce sl := by
  intro p l e1 s m args below meth c H locs ls ad kc D z A hF hC hD
  exact va_bald hF.1 hF.2.1 hD.1 hD.2.1 i 1 (cW_getE hi he rfl) rfl hj hd (kk p l e1 s m args below meth c H locs ls ad kc D z A hF hC hD)
theorem aw_zald {i len : Nat} {f : Nat → Int32} {j : Int32} (hd : decode T.2.1 pc = .ok (.baload, 1)) (he : h i = .inl (3, len, .inl f)) (hi : i < n) (hj : vp_in j len) (kk : AW T Q CX (pc + 1) lo (.int (f j.toNatClampNeg) :: st) h n ce sl) : AW T Q CX pc lo (.int j :: .ref i :: st) h n ce sl := by
  intro p l e1 s m args below meth c H locs ls ad kc D z A hF hC hD
  exact va_zald hF.1 hF.2.1 hD.1 hD.2.1 i 3 (cW_getE hi he rfl) rfl hj hd (kk p l e1 s m args below meth c H locs ls ad kc D z A hF hC hD)
theorem aw_lald {i len : Nat} {f : Nat → Int64} {j : Int32} (hd : decode T.2.1 pc = .ok (.laload, 1)) (he : h i = .inl (2, len, .inr (.inl f))) (hi : i < n) (hj : vp_in j len) (kk : AW T Q CX (pc + 1) lo (.long (f j.toNatClampNeg) :: st) h n ce sl) : AW T Q CX pc lo (.int j :: .ref i :: st) h n ce sl := by
  intro p l e1 s m args below meth c H locs ls ad kc D z A hF hC hD
  exact va_lald hF.1 hF.2.1 hD.1 hD.2.1 i 2 (cW_getE hi he rfl) rfl hj hd (kk p l e1 s m args below meth c H locs ls ad kc D z A hF hC hD)
theorem cv_rf (ad : Nat → Nat) (r : Option Nat) : cv ad (va_rf r) = va_rf (r.map ad) := by cases r <;> rfl
theorem aw_aald {i len : Nat} {f : Nat → Option Nat} {j : Int32} (hd : decode T.2.1 pc = .ok (.aaload, 1)) (he : h i = .inl (4, len, .inr (.inr (.inr (.inr f))))) (hi : i < n) (hj : vp_in j len) (kk : AW T Q CX (pc + 1) lo (va_rf (f j.toNatClampNeg) :: st) h n ce sl) : AW T Q CX pc lo (.int j :: .ref i :: st) h n ce sl := by
  intro p l e1 s m args below meth c H locs ls ad kc D z A hF hC hD
  have k1 := kk p l e1 s m args below meth c H locs ls ad kc D z A hF hC hD
  rw [List.map_cons, cv_rf] at k1
  exact va_aldq hF.1 hF.2.1 hD.1 hD.2.1 i 4 (cW_getE hi he rfl) rfl hj hd k1
theorem aw_alen {i len k : Nat} {x : (Nat → Int32) ⊕ (Nat → Int64) ⊕ (Nat → UInt32) ⊕ (Nat → UInt64) ⊕ (Nat → Option Nat)} {v : Int32} (hd : decode T.2.1 pc = .ok (.arraylength, 1)) (he : h i = .inl (k, len, x)) (hi : i < n) (hk : k < 5) (hv : Int32.ofNat len = v) (kk : AW T Q CX (pc + 1) lo (.int v :: st) h n ce sl) : AW T Q CX pc lo (.ref i :: st) h n ce sl := by
  intro p l e1 s m args below meth c H locs ls ad kc D z A hF hC hD
  have h1 : ∃ y, cvA ad (len, x) = (len, y) := by
    rcases x with f | f | f | f | f <;> exact ⟨_, rfl⟩
  obtain ⟨y, hy⟩ := h1
  have h2 : ∃ ty, (tysOf kc)[k]? = some (kc k, ty) := by
    rcases (show k = 0 ∨ k = 1 ∨ k = 2 ∨ k = 3 ∨ k = 4 by omega) with rfl | rfl | rfl | rfl | rfl <;> exact ⟨_, rfl⟩
  obtain ⟨ty, h2⟩ := h2
  exact va_alen hF.1 hF.2.1 hD.1 hD.2.1 i k (x := (len, y)) (cW_getE hi he (by simp [cE, hy])) h2 hv hd (kk p l e1 s m args below meth c H locs ls ad kc D z A hF hC hD)
theorem aw_iast {i len : Nat} {f : Nat → Int32} {j x : Int32} (hd : decode T.2.1 pc = .ok (.iastore, 1)) (he : h i = .inl (0, len, .inl f)) (hi : i < n) (hj : vp_in j len) (hh : hset h i (.inl (0, len, .inl (upd f j.toNatClampNeg x))) = h') (kk : AW T Q CX (pc + 1) lo st h' n ce sl) : AW T Q CX pc lo (.int x :: .int j :: .ref i :: st) h n ce sl := by
  intro p l e1 s m args below meth c H locs ls ad kc D z A hF hC hD
  exact va_iast hF.1 hF.2.1 hD.1 hD.2.1 hD.2.2.1 hD.2.2.2.1 i 0 (cW_getE hi he rfl) rfl hj hd (fun H1 locs1 hP1 hD1 hS1 => kk p l e1 s m args below meth c H1 locs1 ls ad kc D z A hF hC (hD.put hi hh rfl hP1 hD1 hS1))
theorem aw_bast {i len : Nat} {f : Nat → Int32} {j x : Int32} (hd : decode T.2.1 pc = .ok (.bastore, 1)) (he : h i = .inl (1, len, .inl f)) (hi : i < n) (hj : vp_in j len) (hh : hset h i (.inl (1, len, .inl (upd f j.toNatClampNeg (vp_nar .byte x)))) = h') (kk : AW T Q CX (pc + 1) lo st h' n ce sl) : AW T Q CX pc lo (.int x :: .int j :: .ref i :: st) h n ce sl := by
  intro p l e1 s m args below meth c H locs ls ad kc D z A hF hC hD
  exact va_bast hF.1 hF.2.1 hD.1 hD.2.1 hD.2.2.1 hD.2.2.2.1 i 1 (cW_getE hi he rfl) rfl hj hd (fun H1 locs1 hP1 hD1 hS1 => kk p l e1 s m args below meth c H1 locs1 ls ad kc D z A hF hC (hD.put hi hh rfl hP1 hD1 hS1))
theorem aw_zast {i len : Nat} {f : Nat → Int32} {j x : Int32} (hd : decode T.2.1 pc = .ok (.bastore, 1)) (he : h i = .inl (3, len, .inl f)) (hi : i < n) (hj : vp_in j len) (hh : hset h i (.inl (3, len, .inl (upd f j.toNatClampNeg (vp_nar .boolean x)))) = h') (kk : AW T Q CX (pc + 1) lo st h' n ce sl) : AW T Q CX pc lo (.int x :: .int j :: .ref i :: st) h n ce sl := by
  intro p l e1 s m args below meth c H locs ls ad kc D z A hF hC hD
  exact va_zast hF.1 hF.2.1 hD.1 hD.2.1 hD.2.2.1 hD.2.2.2.1 i 3 (cW_getE hi he rfl) rfl hj hd (fun H1 locs1 hP1 hD1 hS1 => kk p l e1 s m args below meth c H1 locs1 ls ad kc D z A hF hC (hD.put hi hh rfl hP1 hD1 hS1))
theorem aw_last {i len : Nat} {f : Nat → Int64} {j : Int32} {x : Int64} (hd : decode T.2.1 pc = .ok (.lastore, 1)) (he : h i = .inl (2, len, .inr (.inl f))) (hi : i < n) (hj : vp_in j len) (hh : hset h i (.inl (2, len, .inr (.inl (vp_updL f j.toNatClampNeg x)))) = h') (kk : AW T Q CX (pc + 1) lo st h' n ce sl) : AW T Q CX pc lo (.long x :: .int j :: .ref i :: st) h n ce sl := by
  intro p l e1 s m args below meth c H locs ls ad kc D z A hF hC hD
  exact va_last hF.1 hF.2.1 hD.1 hD.2.1 hD.2.2.1 hD.2.2.2.1 i 2 (cW_getE hi he rfl) rfl hj hd (fun H1 locs1 hP1 hD1 hS1 => kk p l e1 s m args below meth c H1 locs1 ls ad kc D z A hF hC (hD.put hi hh rfl hP1 hD1 hS1))
/-- the n entries h stand in t's heap -/
def AWd (kc : Nat → ClassId) (D : va_G) (z : (Nat → Nat) × Nat) (A : Nat → Prop) (ad : Nat → Nat) (h : Nat → AE) (n : Nat) (t : State) : Prop :=
  va_P D vwCl (cW ad kc h n) t.heap ∧ va_K D vwCl (tysOf kc) t ∧ va_D A (cW ad kc h n) ∧ (∀ i, (i < z.2 ∨ n ≤ i) → ad i = z.1 i) ∧ (z.2 ≤ n ∧ n ≤ 900000)
def AQc (Po : APost) (kc : Nat → ClassId) (D : va_G) (z : (Nat → Nat) × Nat) (A : Nat → Prop) : Array Value → State → Outcome → State → Prop := fun _ s o t =>
  (∃ (v : Option Value) (h : Nat → AE) (n : Nat) (ad : Nat → Nat), o = .returned (v.map (cv ad)) ∧ Po (.inl v) h n ∧ AWd kc D z A ad h n t) ∧ va_F A s t
def AXc (Po : APost) (kc : Nat → ClassId) (D : va_G) (z : (Nat → Nat) × Nat) (A : Nat → Prop) : String → State → State → Prop := fun E s t =>
  (∃ (h : Nat → AE) (n : Nat) (ad : Nat → Nat), Po (.inr E) h n ∧ AWd kc D z A ad h n t) ∧ va_F A s t
/-- a method's own end -/
def AQm (T : ATy) (Po : APost) : AQ := fun below args s kc D z A => vx_MQ below (AQc Po kc D z A) (AXc Po kc D z A) args s T.2.2.2.2.1.cells T.2.2.2.2.1.slots A
/-- what a call asks of its start -/
def APc (av : List Value) (h : Nat → AE) (n : Nat) (ad : Nat → Nat) (kc : Nat → ClassId) (D : va_G) (sz : Nat) : Array Value → State → Prop :=
  va_Pc (av.map (cv ad)) (fun U => U.heap.size = sz ∧ n ≤ 900000 ∧ va_K D vwCl (tysOf kc) U ∧ va_P D vwCl (cW ad kc h n) U.heap ∧ va_D (fun _ => True) (cW ad kc h n) ∧ EV (fun k => ad (900000 + k)) (va_A (cW ad kc h n) sz) U U.heap)
/-- a method's CONTRACT: called with av over the n entries h it ends as Po says -/
def AMet (T : ATy) (y : MethodName) (ws : List Cond) (av : List Value) (h : Nat → AE) (n : Nat) (Po : APost) : Prop :=
  ∀ (l : Launch), l.stackTraces = false → ∀ (ad : Nat → Nat) (kc : Nat → ClassId) (D : va_G) (sz : Nat),
    vx_Met l y ws T.2.2.2.2.1 (APc av h n ad kc D sz) (AQc Po kc D (ad, n) (va_A (cW ad kc h n) sz)) (AXc Po kc D (ad, n) (va_A (cW ad kc h n) sz)) T.2.2.2.2.1.cells T.2.2.2.2.1.slots (va_A (cW ad kc h n) sz)
theorem AMet.mono {y : MethodName} {ws : List Cond} {av : List Value} {Po Po' : APost} (hp : ∀ o h n, Po o h n → Po' o h n) (hM : AMet T y ws av h n Po) : AMet T y ws av h n Po' := by
  intro l hl ad kc D sz p e h1 h2 h3 s m args below h4 h5 h6 h7
  obtain ⟨k, o, a1, a2, a3, a4⟩ := hM l hl ad kc D sz p e h1 h2 h3 s m args below h4 h5 h6 h7
  refine ⟨k, o, a1, a2, a3, ?_⟩
  rcases a4 with ⟨⟨⟨v, h', n', ad', b1, b2, b3⟩, b4⟩, b5⟩ | ⟨q, b1, E, ce, L, ⟨⟨h', n', ad', b2, b3⟩, b4⟩, b5⟩
  · exact Or.inl ⟨⟨⟨v, h', n', ad', b1, hp _ _ _ b2, b3⟩, b4⟩, b5⟩
  · exact Or.inr ⟨q, b1, E, ce, L, ⟨⟨h', n', ad', hp _ _ _ b2, b3⟩, b4⟩, b5⟩
theorem dy_awd {s t : State} {H : Heap} {locs : List Loc} {ls : Array Slot} {ad : Nat → Nat} {kc : Nat → ClassId} {D : va_G} {z : (Nat → Nat) × Nat} {A : Nat → Prop} (hD : DY T s H locs ls ad kc D z A lo h n) (ht : t.heap = H) (hv : s.vm.Alike t.vm) : AWd kc D z A ad h n t :=
  ⟨by rw [ht]; exact hD.2.1, va_K.moved hv hD.1, hD.2.2.1, hD.2.2.2.2.1, hD.2.2.2.2.2.1⟩
theorem aw_iret {Po : APost} {v : Int32} (hr : T.2.2.2.1 = some .int) (hd : decode T.2.1 pc = .ok (.ireturn, 1)) (hce : ce ≤ T.2.2.2.2.1.cells) (hsl : sl ≤ T.2.2.2.2.1.slots) (hp : Po (.inl (some (.int v))) h n) : AW T (AQm T Po) CX pc lo [.int v] h n ce sl := by
  intro p l e1 s m args below meth c H locs ls ad kc D z A hF hC hD
  refine W.widen hce hsl (vx_ret (W.iret hF.1 hF.2.1 (hF.2.2.2.2.2.2.1.trans hr) (fun t ht hW => ?_) hD.2.2.2.1.2.2 hd (hlocks := hF.2.2.2.2.2.1)))
  exact ⟨⟨some (.int v), h, n, ad, rfl, hp, dy_awd hD ht hW.alike⟩, hD.2.2.2.1.F ht⟩
theorem aw_zret {Po : APost} {v : Int32} (hr : T.2.2.2.1 = some .boolean) (hd : decode T.2.1 pc = .ok (.ireturn, 1)) (hn : narrow .boolean (.int v) = .int v) (hce : ce ≤ T.2.2.2.2.1.cells) (hsl : sl ≤ T.2.2.2.2.1.slots) (hp : Po (.inl (some (.int v))) h n) : AW T (AQm T Po) CX pc lo [.int v] h n ce sl := by
  intro p l e1 s m args below meth c H locs ls ad kc D z A hF hC hD
  refine W.widen hce hsl (vx_ret (W.zret hF.1 hF.2.1 (hF.2.2.2.2.2.2.1.trans hr) hn (fun t ht hW => ?_) hD.2.2.2.1.2.2 hd (hlocks := hF.2.2.2.2.2.1)))
  exact ⟨⟨some (.int v), h, n, ad, rfl, hp, dy_awd hD ht hW.alike⟩, hD.2.2.2.1.F ht⟩
theorem aw_lret {Po : APost} {v : Int64} (hr : T.2.2.2.1 = some .long) (hd : decode T.2.1 pc = .ok (.lreturn, 1)) (hce : ce ≤ T.2.2.2.2.1.cells) (hsl : sl ≤ T.2.2.2.2.1.slots) (hp : Po (.inl (some (.long v))) h n) : AW T (AQm T Po) CX pc lo [.long v] h n ce sl := by
  intro p l e1 s m args below meth c H locs ls ad kc D z A hF hC hD
  refine W.widen hce hsl (vx_ret (W.lret hF.1 hF.2.1 (hF.2.2.2.2.2.2.1.trans hr) (fun t ht hW => ?_) hD.2.2.2.1.2.2 hd (hlocks := hF.2.2.2.2.2.1)))
  exact ⟨⟨some (.long v), h, n, ad, rfl, hp, dy_awd hD ht hW.alike⟩, hD.2.2.2.1.F ht⟩
theorem aw_vret {Po : APost} (hr : T.2.2.2.1 = none) (hd : decode T.2.1 pc = .ok (.return_, 1)) (hce : ce ≤ T.2.2.2.2.1.cells) (hsl : sl ≤ T.2.2.2.2.1.slots) (hp : Po (.inl none) h n) : AW T (AQm T Po) CX pc lo [] h n ce sl := by
  intro p l e1 s m args below meth c H locs ls ad kc D z A hF hC hD
  refine W.widen hce hsl (vx_ret (W.vret hF.1 hF.2.1 (hF.2.2.2.2.2.2.1.trans hr) (fun t ht hW => ?_) hD.2.2.2.1.2.2 hd (hlocks := hF.2.2.2.2.2.1)))
  exact ⟨⟨none, h, n, ad, rfl, hp, dy_awd hD ht hW.alike⟩, hD.2.2.2.1.F ht⟩
theorem args_mem : ∀ (vs : List Value) (k i : Nat) (v : Value), (∀ w ∈ vs, w.category = 1) → vs[i]? = some v → (k + i, v) ∈ lv_args k vs
  | [], k, i, v, _, h => by simp at h
  | w :: vs, k, i, v, hc, h => by
    have h1 : ¬ w.category = 2 := by rw [hc w List.mem_cons_self]; decide
    rw [lv_args, if_neg h1]
    cases i with
    | zero => simp at h; subst h; exact List.mem_cons_self
    | succ i =>
      refine List.mem_cons_of_mem _ ?_
      have := args_mem vs (k + 1) i v (fun w hw => hc w (List.mem_cons_of_mem _ hw)) (by simpa using h)
      rw [show k + (i + 1) = k + 1 + i by omega]
      exact this
theorem sl_len : ∀ (vs : List Value), (∀ w ∈ vs, w.category = 1) → (lg_sl vs).length = vs.length
  | [], _ => rfl
  | w :: vs, hc => by
    have h1 : ¬ w.category = 2 := by rw [hc w List.mem_cons_self]; decide
    have h2 := sl_len vs (fun w hw => hc w (List.mem_cons_of_mem _ hw))
    unfold lg_sl at h2 ⊢
    simp only [List.flatMap_cons, List.length_append, List.length_cons, h1, if_false]
    rw [h2]
    simp [Nat.add_comm]
theorem amet_of {y : MethodName} {av : List Value} {Po : APost} (hy : plainName y.cls = true) (hyn : y.cls = T.1) (hini : T.2.2.2.2.2 = true → y.name = "<init>") (hlen : av.length ≤ T.2.2.1) (hcat : ∀ v ∈ av, v.category = 1) (hlo : av.map some ++ List.replicate (T.2.2.1 - av.length) none = lo)
    (body : AW T (AQm T Po) C0 0 lo [] h n 0 0) : AMet T y [Cond.code y T.2.1 T.2.2.1 T.2.2.2.1] av h n Po := by
  intro l hl ad kc D sz
  refine vx_ofW (cc := T.2.1) (maxL := T.2.2.1) (ret := T.2.2.2.1) (ws' := []) hy rfl ?_
  intro p e s m args below meth c s₁ B hml hX hv
  obtain ⟨rfl, hsz, hn9, hK, hP, hD0, hE⟩ := hv
  subst hsz
  have hcat' : ∀ w ∈ av.map (cv ad), w.category = 1 := fun w hw => by
    obtain ⟨v, h1, rfl⟩ := List.mem_map.mp hw
    rw [cv_cat]; exact hcat v h1
  have hl0 := lv_entry (av.map (cv ad)) (n := T.2.2.1) (by rw [sl_len _ hcat', List.length_map]; exact hlen)
  rw [lg_entry_eq]
  refine body p l e s m _ below meth c s.heap [] _ ad kc D (ad, n) (va_A (cW ad kc h n) s.heap.size) ?_ hX ?_
  · have hown : s.vm.findClass y.cls = some m.cls := findClass_of_methodNamed B.named
    refine ⟨B.exec, B.bytes, hml, by rw [← hyn]; exact hown, fun w hw => pw_warm (List.mem_filter.mp hw).2 (State.WarmedH.refl s) (hE.1 w hw), B.notSynchronized, B.returns, hl, fun q hq => Or.inr hq, hE, fun hi => ?_⟩
    rw [(name_of_methodNamed B.named B.method).1]
    exact hini hi
  · refine ⟨hK, hP, hD0.self, va_S.rf, fun _ _ => rfl, ⟨Nat.le_refl _, hn9⟩, ⟨hl0.1, hl0.2.1, fun i v hi => ?_⟩⟩
    subst hlo
    have hi2 : av[i]? = some v := by
      rw [List.getElem?_append] at hi
      split at hi
      · rw [List.getElem?_map] at hi
        cases ha : av[i]? with
        | none => rw [ha] at hi; simp at hi
        | some w => rw [ha] at hi; simp at hi; rw [hi]
      · rw [List.getElem?_replicate] at hi
        split at hi <;> simp at hi
    have := args_mem (av.map (cv ad)) 0 i (cv ad v) hcat' (by rw [List.getElem?_map, hi2]; rfl)
    rw [Nat.zero_add] at this
    exact hl0.2.2 _ this

theorem met_of_vx {l : Launch} {y : MethodName} {ws : List Cond} {rm : Room} {Pc : Array Value → State → Prop} {Qc : Array Value → State → Outcome → State → Prop} {XC : String → State → State → Prop} {mc ms : Nat} {free : Addr → Prop} (hM : vx_Met l y ws rm Pc Qc XC mc ms free) (hX : ∀ E s t, ¬ XC E s t) : Met l y ws rm Pc Qc mc ms free := by
  intro p e h1 h2 h3 s m args below h4 h5 h6 h7
  obtain ⟨k, o, a1, a2, a3, a4⟩ := hM p e h1 h2 h3 s m args below h4 h5 h6 h7
  refine ⟨k, o, a1, a2, a3, ?_⟩
  rcases a4 with a4 | ⟨q, b1, E, ce, L, b2, -⟩
  · exact a4
  · exact absurd b2 (hX _ _ _)
theorem run_of_va {p : Program} {l : Launch} {e : Env} {R : Room} {s : State} {m : MethodId} {args : Array Value} {below : List Frame} {meth : Method} {c : Code} {H : Heap} {locs : List Loc} {cells slots mc ms : Nat} {g : JFrame} {rest : List Value} {Qa : State → Outcome → State → Prop} {XC : String → State → State → Prop} {free : Addr → Prop}
    (hr : va_Run p l e R s m args below meth c H locs cells slots mc ms g rest Qa free) : vx_Run p l e R s m args below meth c H locs cells slots mc ms g rest Qa XC free := by
  intro T hT X
  exact Or.inl (hr T hT X)
/-- behind a call -/
theorem aw_run {Po : APost} {p : Program} {l : Launch} {e0 : Env} {s : State} {m : MethodId} {args : Array Value} {below : List Frame} {meth : Method} {c : Code} {H : Heap} {locs : List Loc} {ls : Array Slot} {ad : Nat → Nat} {kc : Nat → ClassId} {D : va_G} {z : (Nat → Nat) × Nat} {A : Nat → Prop} {mc ms : Nat} {sk : List Value} {a : Array Value}
    (hF : FX T p l s m args meth c z A) (hC : CX c s z A) (hD : DY T s H locs ls ad kc D z A lo h n)
    (hr : vx_Run p l e0 T.2.2.2.2.1 s m args below meth c H locs ce sl mc ms (F0 m pc ls sk) (st.map (cv ad)) (AQc Po kc D (ad, n) (va_A (cW ad kc h n) H.size) a) (AXc Po kc D (ad, n) (va_A (cW ad kc h n) H.size)) (va_A (cW ad kc h n) H.size))
    (hna : ∀ o h' n', Po o h' n' → n' = n)
    (kx : ∀ (E : String) (h' : Nat → AE) (H1 : Heap) (locs1 : List Loc) (q : Addr) (cl : Cell), Po (.inr E) h' n → DY T s H1 locs1 ls ad kc D z A lo h' n → H1[q]? = some cl → cl.vm = .none → s.vm.findClass E = some cl.cls → vx_W p l e0 T.2.2.2.2.1 s m args below meth c H1 locs1 (ce + mc) (sl + ms) (Q below args s kc D z A) (F0 m pc ls (st.map (cv ad))) q)
    (kk : ∀ (v : Option Value) (h' : Nat → AE), Po (.inl v) h' n → AW T Q CX (pc + 3) lo (v.toList ++ st) h' n (ce + mc) (sl + ms)) : W p l e0 T.2.2.2.2.1 s m args below meth c H locs ce sl (Q below args s kc D z A) (F0 m pc ls sk) := by
  intro T0 hT X
  have hA : ∀ q, va_A (cW ad kc h n) H.size q → A q := by
    intro q hq
    rcases hq with ⟨k, e, hk⟩ | hq
    · exact hD.2.2.1.2 k _ hk
    · exact hF.2.2.2.2.2.2.2.2.1 q (Nat.le_trans hD.2.2.2.1.1 hq)
  have hdy : ∀ (h' : Nat → AE) (ad' : Nat → Nat) (t T' : State) (L : List Loc), T'.heap = t.heap → s.vm.Alike t.vm → va_S A s.heap T'.heap (locs ++ L) → AWd kc D (ad, n) (va_A (cW ad kc h n) H.size) ad' h' n t → ad' = ad ∧ DY T s T'.heap (locs ++ L) ls ad kc D z A lo h' n := by
    intro h' ad' t T' L e1 hv k3 hw
    have had : ad' = ad := by
      funext i
      rcases Nat.lt_or_ge i n with q | q
      · exact hw.2.2.2.1 i (Or.inl q)
      · exact hw.2.2.2.1 i (Or.inr q)
    subst had
    exact ⟨rfl, hD.1, by rw [e1]; exact hw.1, hw.2.2.1.weaken (fun _ q _ hq => hA q.1 hq), k3, hD.2.2.2.2.1, hD.2.2.2.2.2.1, hD.2.2.2.2.2.2⟩
  rcases hr T0 hT X with ⟨v0, st₀, t, T', L, h0, X', hL, e1, e2, ⟨⟨v, h', n', ad', hv, hp, hw⟩, hFr⟩, st1⟩ | ⟨q, st₀, t, T', L, E, cl, h0, X', hL, e1, e2, ⟨⟨h', n', ad', hp, hw⟩, hFr⟩, hce, hcv, hcl, st1⟩
  · obtain rfl := hna _ _ _ hp
    obtain ⟨k1, k2, k3⟩ := vx_keep h0 e1 hD.2.2.2.1 (fun q _ hq => hA q hq) hA hL hFr
    obtain ⟨rfl, hdy1⟩ := hdy h' ad' t T' L e1 (by rw [← e2]; exact X'.warmed.alike) k3 hw
    have hv' : v0 = v.map (cv ad') := by cases hv; rfl
    subst hv'
    obtain ⟨t2, a1, b1⟩ := kk v h' hp p l e0 s m args below meth c T'.heap (locs ++ L) ls ad' kc D z A hF hC hdy1 T' rfl X'
    refine ⟨t2, st1 t2 ?_, b1⟩
    have e3 : (v.toList ++ st).map (cv ad') = (v.map (cv ad')).toList ++ st.map (cv ad') := by cases v <;> simp
    rw [e3] at a1
    exact a1
  · obtain rfl := hna _ _ _ hp
    obtain ⟨k1, k2, k3⟩ := vx_keep h0 e1 hD.2.2.2.1 (fun q _ hq => hA q hq) hA hL hFr
    obtain ⟨rfl, hdy1⟩ := hdy h' ad' t T' L e1 (by rw [← e2]; exact X'.warmed.alike) k3 hw
    obtain ⟨t2, a1, b1⟩ := kx E h' T'.heap (locs ++ L) q cl hp hdy1 (by rw [e1]; exact hce) hcv hcl T' rfl X'
    exact ⟨t2, st1.trans a1, b1⟩
/-- a method that can be called: its code, its class, how many arguments -/
def KO (y : MethodName) (cc : ByteArray) (maxL : Nat) (ret : Option FieldType) (na : Nat) : Prop := Cond.code y cc maxL ret ∈ GW ∧ Cond.initialized y.cls ∈ GW ∧ (y.cls ≠ "java/lang/invoke/MethodHandle" ∧ y.cls ≠ "java/lang/invoke/VarHandle" ∧ (parseMethodDescriptor y.desc).map (fun d => d.parameters.length) = some na)
/-- .. and how own links it -/
def KL (own : String) (index : Nat) (y : MethodName) : Prop := Cond.methodLink own index y ∈ GW ∨ ∃ host, Cond.methodLinkNest own index y host ∈ GW
def KV (own : String) (index : Nat) (y : MethodName) : Prop := KL own index y ∧ Cond.instanceMethod y ∈ GW ∧ Cond.selects y.cls y y ∈ GW
def KS (own : String) (index : Nat) (y : MethodName) : Prop := KL own index y ∧ Cond.static y ∈ GW
def KI (own : String) (index : Nat) (y : MethodName) : Prop := KL own index y ∧ y.name = "<init>" ∧ Cond.instanceMethod y ∈ GW
theorem ko_good {y : MethodName} {cc : ByteArray} {maxL na : Nat} {ret : Option FieldType} (hk : KO y cc maxL ret na) : GoodIn GW [Cond.code y cc maxL ret] := by
  intro w hw
  rw [List.mem_singleton] at hw
  subst hw
  exact ⟨hk.1, good_of_word (show goodWord _ = true from (List.mem_filter.mp hk.1).2)⟩
theorem apc_blind {av : List Value} {ad : Nat → Nat} {kc : Nat → ClassId} {D : va_G} {sz : Nat} : FrameBlind (APc av h n ad kc D sz) := by
  intro a U g mk hp
  obtain ⟨h1, h2, h9, h3, h4, h5, h6⟩ := hp
  exact ⟨h1, h2, h9, va_K.moved (u := U) (U := U.calling g mk a) (Vm.Alike.refl U.vm) h3, h4, h5, EV.call h6⟩
theorem apc_at {av : List Value} {p : Program} {l : Launch} {s : State} {m : MethodId} {args : Array Value} {meth : Method} {c : Code} {H : Heap} {locs : List Loc} {ls : Array Slot} {ad : Nat → Nat} {kc : Nat → ClassId} {D : va_G} {z : (Nat → Nat) × Nat} {A : Nat → Prop} (hF : FX T p l s m args meth c z A) (hD : DY T s H locs ls ad kc D z A lo h n) :
    ∀ U : State, U.heap = H → s.WarmedH U.vm → APc av h n ad kc D H.size (av.map (cv ad)).toArray U := by
  intro U hU hW
  have hA : ∀ q, va_A (cW ad kc h n) H.size q → A q := by
    intro q hq
    rcases hq with ⟨k, e, hk⟩ | hq
    · exact hD.2.2.1.2 k _ hk
    · exact hF.2.2.2.2.2.2.2.2.1 q (Nat.le_trans hD.2.2.2.1.1 hq)
  have hsa : (fun k => ad (900000 + k)) = (fun k => z.1 (900000 + k)) := by
    funext k
    exact hD.2.2.2.2.1 _ (Or.inr (Nat.le_trans hD.2.2.2.2.2.1.2 (Nat.le_add_right _ _)))
  refine ⟨rfl, by rw [hU], hD.2.2.2.2.2.1.2, va_K.moved hW.alike hD.1, by rw [hU]; exact hD.2.1, hD.2.2.1.weaken (fun _ _ _ _ => trivial), ?_⟩
  rw [hsa]
  exact EV.step hF.2.2.2.2.2.2.2.2.2.1 hD.2.2.2.1 hU hW hA
theorem sum_cat (ad : Nat → Nat) (st : List Value) : ((st.map (cv ad)).map fun v => v.category).sum = (st.map fun v => v.category).sum := by
  rw [List.map_map]
  congr 1
  apply List.map_congr_left
  intro v _
  exact cv_cat ad v
/-- room for a call -/
abbrev RmOk (T Tc : ATy) (ce sl : Nat) : Prop := Tc.2.2.2.2.1.frames + 1 ≤ T.2.2.2.2.1.frames ∧ 8 + (Tc.2.2.1 + 11) + Tc.2.2.2.2.1.locals ≤ T.2.2.2.2.1.locals ∧ ce + Tc.2.2.2.2.1.cells ≤ T.2.2.2.2.1.cells ∧ sl + Tc.2.2.2.2.1.slots ≤ T.2.2.2.2.1.slots
section Crows
variable {Tc : ATy} {y : MethodName} {Po Po' : APost} {index : Nat} {sk as : List Value} {i ci na : Nat} {fs : List Value} {r : vw_C}
theorem aw_callV (hL : KV T.1 index y) (hK : KO y Tc.2.1 Tc.2.2.1 Tc.2.2.2.1 na) (hM : AMet Tc y [Cond.code y Tc.2.1 Tc.2.2.1 Tc.2.2.2.1] (.ref i :: as) h n Po) (hd : decode T.2.1 pc = .ok (.invokevirtual index, 3)) (he : h i = .inr (ci, fs)) (hi : i < n) (hcl : vwCl[ci]? = some r) (hr1 : r.1 = y.cls) (hst : sk = as.reverse ++ .ref i :: st) (hna9 : as.length = na) (hw : (st.map fun v => v.category).sum ≤ 8) (hR : RmOk T Tc ce sl)
    (hnx : ∀ E h' n', ¬ Po (.inr E) h' n') (hna : ∀ o h' n', Po o h' n' → n' = n) (kk : ∀ (v : Option Value) (h' : Nat → AE), Po (.inl v) h' n → AW T Q CX (pc + 3) lo (v.toList ++ st) h' n (ce + Tc.2.2.2.2.1.cells) (sl + Tc.2.2.2.2.1.slots)) : AW T Q CX pc lo sk h n ce sl := by
  intro p l e1 s m args below meth c H locs ls ad kc D z A hF hC hD
  have hM1 := met_of_vx (hM l hF.2.2.2.2.2.2.2.1 ad kc D H.size) (fun E s t hx => by obtain ⟨⟨h', n', ad', hp, -⟩, -⟩ := hx; exact hnx _ _ _ hp)
  have hrec := va_recv hD.1 hD.2.1 hcl (cW_getE (ad := ad) (kc := kc) hi he rfl)
  rw [hr1] at hrec
  subst hst
  refine aw_run (a := (Value.ref (ad i) :: as.map (cv ad)).toArray) (mc := Tc.2.2.2.2.1.cells) (ms := Tc.2.2.2.2.1.slots) hF hC hD ?_ hna (fun E h' H1 locs1 q cl hp => absurd hp (hnx _ _ _)) kk
  refine run_of_va ?_
  obtain ⟨hL | ⟨host, hL⟩, hins, hsel⟩ := hL
  · exact va_runV (bytes := Tc.2.1) (maxL := Tc.2.2.1) (ret := Tc.2.2.2.1) (n := na) (C := y.cls) (b := ad i) (As := as.map (cv ad)) (own := T.1) (Ts := GW) (nL := T.2.2.1) ⟨hF.1, hF.2.1, hF.2.2.1, hF.2.2.2.1, hF.2.2.2.2.1⟩ hM1
      ⟨callB_of (ws' := []) na hF.2.2.2.2.1 (ko_good hK) rfl rfl rfl (hF.2.2.2.2.1 _ hK.2.1) (hF.2.2.2.2.1 _ hL) hK.2.2 ⟨hR.1, hR.2.1⟩, hF.2.2.2.2.1 _ hins, hF.2.2.2.2.1 _ hsel⟩
      ⟨apc_blind, hrec, apc_at (av := .ref i :: as) hF hD⟩ rfl (by rw [List.length_map]; exact hna9) hD.2.2.2.2.2.2.1 (by simp [List.map_append, List.map_reverse, cv]) (lv_room (by rw [sum_cat]; exact hw)) hd ⟨hR.2.2.1, hR.2.2.2⟩
  · exact va_runVN (bytes := Tc.2.1) (maxL := Tc.2.2.1) (ret := Tc.2.2.2.1) (n := na) (C := y.cls) (b := ad i) (As := as.map (cv ad)) (own := T.1) (Ts := GW) (nL := T.2.2.1) ⟨hF.1, hF.2.1, hF.2.2.1, hF.2.2.2.1, hF.2.2.2.2.1⟩ hM1
      ⟨va_cnB (ws' := []) na hF.2.2.2.2.1 (ko_good hK) rfl rfl rfl (va_Nw.of rfl (hF.2.2.2.2.1 _ hL)) (hF.2.2.2.2.1 _ hK.2.1) hK.2.2 ⟨hR.1, hR.2.1⟩, hF.2.2.2.2.1 _ hins, hF.2.2.2.2.1 _ hsel⟩
      ⟨apc_blind, hrec, apc_at (av := .ref i :: as) hF hD⟩ rfl (by rw [List.length_map]; exact hna9) hD.2.2.2.2.2.2.1 (by simp [List.map_append, List.map_reverse, cv]) (lv_room (by rw [sum_cat]; exact hw)) hd ⟨hR.2.2.1, hR.2.2.2⟩
theorem aw_callS (hL : KS T.1 index y) (hK : KO y Tc.2.1 Tc.2.2.1 Tc.2.2.2.1 na) (hM : AMet Tc y [Cond.code y Tc.2.1 Tc.2.2.1 Tc.2.2.2.1] as h n Po) (hd : decode T.2.1 pc = .ok (.invokestatic index, 3)) (hst : sk = as.reverse ++ st) (hna9 : as.length = na) (hw : (st.map fun v => v.category).sum ≤ 8) (hR : RmOk T Tc ce sl)
    (hnx : ∀ E h' n', ¬ Po (.inr E) h' n') (hna : ∀ o h' n', Po o h' n' → n' = n) (kk : ∀ (v : Option Value) (h' : Nat → AE), Po (.inl v) h' n → AW T Q CX (pc + 3) lo (v.toList ++ st) h' n (ce + Tc.2.2.2.2.1.cells) (sl + Tc.2.2.2.2.1.slots)) : AW T Q CX pc lo sk h n ce sl := by
  intro p l e1 s m args below meth c H locs ls ad kc D z A hF hC hD
  have hM1 := met_of_vx (hM l hF.2.2.2.2.2.2.2.1 ad kc D H.size) (fun E s t hx => by obtain ⟨⟨h', n', ad', hp, -⟩, -⟩ := hx; exact hnx _ _ _ hp)
  subst hst
  refine aw_run (a := (as.map (cv ad)).toArray) (mc := Tc.2.2.2.2.1.cells) (ms := Tc.2.2.2.2.1.slots) hF hC hD ?_ hna (fun E h' H1 locs1 q cl hp => absurd hp (hnx _ _ _)) kk
  refine run_of_va ?_
  obtain ⟨hL | ⟨host, hL⟩, hsta⟩ := hL
  · exact va_runS (bytes := Tc.2.1) (maxL := Tc.2.2.1) (ret := Tc.2.2.2.1) (n := na) (As := as.map (cv ad)) (own := T.1) (Ts := GW) (nL := T.2.2.1) ⟨hF.1, hF.2.1, hF.2.2.1, hF.2.2.2.1, hF.2.2.2.2.1⟩ hM1
      ⟨callB_of (ws' := []) na hF.2.2.2.2.1 (ko_good hK) rfl rfl rfl (hF.2.2.2.2.1 _ hK.2.1) (hF.2.2.2.2.1 _ hL) hK.2.2 ⟨hR.1, hR.2.1⟩, hF.2.2.2.2.1 _ hsta⟩
      ⟨apc_blind, apc_at (av := as) hF hD⟩ rfl (by rw [List.length_map]; exact hna9) hD.2.2.2.2.2.2.1 (by simp [List.map_append, List.map_reverse]) (lv_room (by rw [sum_cat]; exact hw)) hd ⟨hR.2.2.1, hR.2.2.2⟩
  · exact va_runSN (bytes := Tc.2.1) (maxL := Tc.2.2.1) (ret := Tc.2.2.2.1) (n := na) (As := as.map (cv ad)) (own := T.1) (Ts := GW) (nL := T.2.2.1) ⟨hF.1, hF.2.1, hF.2.2.1, hF.2.2.2.1, hF.2.2.2.2.1⟩ hM1
      ⟨va_cnB (ws' := []) na hF.2.2.2.2.1 (ko_good hK) rfl rfl rfl (va_Nw.of rfl (hF.2.2.2.2.1 _ hL)) (hF.2.2.2.2.1 _ hK.2.1) hK.2.2 ⟨hR.1, hR.2.1⟩, hF.2.2.2.2.1 _ hsta, trivial⟩
      ⟨apc_blind, apc_at (av := as) hF hD⟩ rfl (by rw [List.length_map]; exact hna9) hD.2.2.2.2.2.2.1 (by simp [List.map_append, List.map_reverse]) (lv_room (by rw [sum_cat]; exact hw)) hd ⟨hR.2.2.1, hR.2.2.2⟩
/-- a call that may throw, in a method without handlers -/
theorem aw_xcallV (hL : Cond.methodLink T.1 index y ∈ GW) (hins : Cond.instanceMethod y ∈ GW) (hsel : Cond.selects y.cls y y ∈ GW) (hK : KO y Tc.2.1 Tc.2.2.1 Tc.2.2.2.1 na) (hM : AMet Tc y [Cond.code y Tc.2.1 Tc.2.2.1 Tc.2.2.2.1] (.ref i :: as) h n Po) (hd : decode T.2.1 pc = .ok (.invokevirtual index, 3)) (he : h i = .inr (ci, fs)) (hi : i < n) (hcl : vwCl[ci]? = some r) (hr1 : r.1 = y.cls) (hst : sk = as.reverse ++ .ref i :: st) (hna9 : as.length = na) (hw : (st.map fun v => v.category).sum ≤ 8) (hR : RmOk T Tc ce sl)
    (hna : ∀ o h' n', Po o h' n' → n' = n) (kx : ∀ E h', Po (.inr E) h' n → Po' (.inr E) h' n) (kk : ∀ (v : Option Value) (h' : Nat → AE), Po (.inl v) h' n → AW T (AQm T Po') C0 (pc + 3) lo (v.toList ++ st) h' n (ce + Tc.2.2.2.2.1.cells) (sl + Tc.2.2.2.2.1.slots)) : AW T (AQm T Po') C0 pc lo sk h n ce sl := by
  intro p l e1 s m args below meth c H locs ls ad kc D z A hF hC hD
  have hM1 := hM l hF.2.2.2.2.2.2.2.1 ad kc D H.size
  have hrec := va_recv hD.1 hD.2.1 hcl (cW_getE (ad := ad) (kc := kc) hi he rfl)
  rw [hr1] at hrec
  subst hst
  refine aw_run (a := (Value.ref (ad i) :: as.map (cv ad)).toArray) (mc := Tc.2.2.2.2.1.cells) (ms := Tc.2.2.2.2.1.slots) hF hC hD ?_ hna ?_ kk
  · exact vx_runV (bytes := Tc.2.1) (maxL := Tc.2.2.1) (ret := Tc.2.2.2.1) (n := na) (C := y.cls) (b := ad i) (As := as.map (cv ad)) (own := T.1) (Ts := GW) (nL := T.2.2.1) ⟨hF.1, hF.2.1, hF.2.2.1, hF.2.2.2.1, hF.2.2.2.2.1⟩ hM1
      ⟨callB_of (ws' := []) na hF.2.2.2.2.1 (ko_good hK) rfl rfl rfl (hF.2.2.2.2.1 _ hK.2.1) (hF.2.2.2.2.1 _ hL) hK.2.2 ⟨hR.1, hR.2.1⟩, hF.2.2.2.2.1 _ hins, hF.2.2.2.2.1 _ hsel⟩
      ⟨apc_blind, hrec, apc_at (av := .ref i :: as) hF hD⟩ rfl (by rw [List.length_map]; exact hna9) hD.2.2.2.2.2.2.1 (by simp [List.map_append, List.map_reverse, cv]) (lv_room (by rw [sum_cat]; exact hw)) hd ⟨hR.2.2.1, hR.2.2.2⟩
  · intro E h' H1 locs1 q cl hp hD1 h1 h2 h3
    exact vx_out (fun x hx => (hC x hx).elim) hF.2.2.2.2.2.1 h1 h2 h3 (fun t ht hv => ⟨⟨h', n, ad, kx E h' hp, dy_awd hD1 ht hv⟩, hD1.2.2.2.1.F ht⟩) hD1.2.2.2.1.2.2 hR.2.2.1 hR.2.2.2
theorem aw_xcallS (hL : Cond.methodLink T.1 index y ∈ GW) (hsta : Cond.static y ∈ GW) (hK : KO y Tc.2.1 Tc.2.2.1 Tc.2.2.2.1 na) (hM : AMet Tc y [Cond.code y Tc.2.1 Tc.2.2.1 Tc.2.2.2.1] as h n Po) (hd : decode T.2.1 pc = .ok (.invokestatic index, 3)) (hst : sk = as.reverse ++ st) (hna9 : as.length = na) (hw : (st.map fun v => v.category).sum ≤ 8) (hR : RmOk T Tc ce sl)
    (hna : ∀ o h' n', Po o h' n' → n' = n) (kx : ∀ E h', Po (.inr E) h' n → Po' (.inr E) h' n) (kk : ∀ (v : Option Value) (h' : Nat → AE), Po (.inl v) h' n → AW T (AQm T Po') C0 (pc + 3) lo (v.toList ++ st) h' n (ce + Tc.2.2.2.2.1.cells) (sl + Tc.2.2.2.2.1.slots)) : AW T (AQm T Po') C0 pc lo sk h n ce sl := by
  intro p l e1 s m args below meth c H locs ls ad kc D z A hF hC hD
  have hM1 := hM l hF.2.2.2.2.2.2.2.1 ad kc D H.size
  subst hst
  refine aw_run (a := (as.map (cv ad)).toArray) (mc := Tc.2.2.2.2.1.cells) (ms := Tc.2.2.2.2.1.slots) hF hC hD ?_ hna ?_ kk
  · exact vx_runS (bytes := Tc.2.1) (maxL := Tc.2.2.1) (ret := Tc.2.2.2.1) (n := na) (As := as.map (cv ad)) (own := T.1) (Ts := GW) (nL := T.2.2.1) ⟨hF.1, hF.2.1, hF.2.2.1, hF.2.2.2.1, hF.2.2.2.2.1⟩ hM1
      ⟨callB_of (ws' := []) na hF.2.2.2.2.1 (ko_good hK) rfl rfl rfl (hF.2.2.2.2.1 _ hK.2.1) (hF.2.2.2.2.1 _ hL) hK.2.2 ⟨hR.1, hR.2.1⟩, hF.2.2.2.2.1 _ hsta⟩
      ⟨apc_blind, apc_at (av := as) hF hD⟩ rfl (by rw [List.length_map]; exact hna9) hD.2.2.2.2.2.2.1 (by simp [List.map_append, List.map_reverse]) (lv_room (by rw [sum_cat]; exact hw)) hd ⟨hR.2.2.1, hR.2.2.2⟩
  · intro E h' H1 locs1 q cl hp hD1 h1 h2 h3
    exact vx_out (fun x hx => (hC x hx).elim) hF.2.2.2.2.2.1 h1 h2 h3 (fun t ht hv => ⟨⟨h', n, ad, kx E h' hp, dy_awd hD1 ht hv⟩, hD1.2.2.2.1.F ht⟩) hD1.2.2.2.1.2.2 hR.2.2.1 hR.2.2.2
end Crows
theorem va_P_same {D : va_G} {ws : va_W} {H H1 : Heap} (hP : va_P D vwCl ws H) (hk : ∀ q : Nat, q < H.size → H1[q]? = H[q]?) : va_P D vwCl ws H1 := fun k q hq => (hP k q hq).kept (hk q.1 (vx_lt hP hq))
/-- all that a throw of cls asks of the tables -/
def TX (own : String) (ik is ic : Nat) (cls text : String) (names : List String) : Prop := Bundle.fit cls = true ∧ (∀ n ∈ names, Bundle.fit n = true) ∧ Cond.classLink own ik cls ∈ GW ∧ Cond.initialized cls ∈ GW ∧ (own, is, text) ∈ STX ∧ (∀ w ∈ vx_atS own ic cls names, w ∈ GW) ∧ (∀ w ∈ Cond.classLink own ik cls :: Cond.initialized cls :: vx_atS own ic cls names, vx_ot w = true)
theorem aw_throwS {Po : APost} {ik is ic : Nat} {cls text : String} {names : List String} (hX : TX T.1 ik is ic cls text names)
    (d0 : decode T.2.1 pc = .ok (.new ik, 3)) (d3 : decode T.2.1 (pc + 3) = .ok (.dup, 1)) (d4 : decode T.2.1 (pc + 4) = .ok (.ldc is, 2)) (d6 : decode T.2.1 (pc + 6) = .ok (.invokespecial ic, 3)) (d9 : decode T.2.1 (pc + 9) = .ok (.athrow, 1))
    (hR : names.length + 3 < T.2.2.2.2.1.frames ∧ (st.map fun v => v.category).sum + (13 * (names.length + 1) + 43) ≤ T.2.2.2.2.1.locals ∧ ce + 1 ≤ T.2.2.2.2.1.cells ∧ sl + 6 ≤ T.2.2.2.2.1.slots) (hp : Po (.inr cls) h n) : AW T (AQm T Po) C0 pc lo st h n ce sl := by
  intro p l e1 s m args below meth c H locs ls ad kc D z A hF hC hD
  obtain ⟨h1, h2, h3, h4, h5, h6, h7⟩ := hX
  obtain ⟨sa, hsa⟩ := hF.2.2.2.2.2.2.2.2.2.1.2.2.2.1 _ h5
  exact vx_throwS (A := A) hF.1 hF.2.1 hF.2.2.2.2.2.2.2.1 hF.2.2.2.1 h1 h2 (hF.2.2.2.2.1 _ h3) (hF.2.2.2.2.1 _ h4) hsa (fun w hw => hF.2.2.2.2.1 _ (h6 w hw)) h7 hF.2.2.2.2.2.2.2.2.2.1.2.1 hF.2.2.2.2.2.2.2.2.2.1.2.2.1 hD.2.2.2.1 (hD.2.2.2.2.2.2.1.trans hF.2.2.1.symm) d0 d3 d4 d6 d9 (fun x hx => (hC x hx).elim) hR.1 (by rw [sum_cat]; exact hR.2.1) hR.2.2.1 hR.2.2.2 hF.2.2.2.2.2.1
    (fun t hv hz hk => ⟨⟨h, n, ad, hp, va_P_same hD.2.1 hk, va_K.moved hv hD.1, hD.2.2.1, hD.2.2.2.2.1, hD.2.2.2.2.2.1⟩, ⟨Nat.le_trans hD.2.2.2.1.1 hz, fun q hq hA => by rw [hk q (Nat.lt_of_lt_of_le hq hD.2.2.2.1.1)]; exact hD.2.2.2.1.2.1 q hq hA⟩⟩) hD.2.2.2.1.2.2 hR.2.2.1 hR.2.2.2
theorem aw_throwSW {Po : APost} {ik is ic : Nat} {cls text : String} {names : List String} (hX : TX T.1 ik is ic cls text names)
    (d0 : decode T.2.1 pc = .ok (.new ik, 3)) (d3 : decode T.2.1 (pc + 3) = .ok (.dup, 1)) (d4 : decode T.2.1 (pc + 4) = .ok (.ldc_w is, 3)) (d6 : decode T.2.1 (pc + 7) = .ok (.invokespecial ic, 3)) (d9 : decode T.2.1 (pc + 10) = .ok (.athrow, 1))
    (hR : names.length + 3 < T.2.2.2.2.1.frames ∧ (st.map fun v => v.category).sum + (13 * (names.length + 1) + 43) ≤ T.2.2.2.2.1.locals ∧ ce + 1 ≤ T.2.2.2.2.1.cells ∧ sl + 6 ≤ T.2.2.2.2.1.slots) (hp : Po (.inr cls) h n) : AW T (AQm T Po) C0 pc lo st h n ce sl := by
  intro p l e1 s m args below meth c H locs ls ad kc D z A hF hC hD
  obtain ⟨h1, h2, h3, h4, h5, h6, h7⟩ := hX
  obtain ⟨sa, hsa⟩ := hF.2.2.2.2.2.2.2.2.2.1.2.2.2.1 _ h5
  exact vx_throwSW (A := A) hF.1 hF.2.1 hF.2.2.2.2.2.2.2.1 hF.2.2.2.1 h1 h2 (hF.2.2.2.2.1 _ h3) (hF.2.2.2.2.1 _ h4) hsa (fun w hw => hF.2.2.2.2.1 _ (h6 w hw)) h7 hF.2.2.2.2.2.2.2.2.2.1.2.1 hF.2.2.2.2.2.2.2.2.2.1.2.2.1 hD.2.2.2.1 (hD.2.2.2.2.2.2.1.trans hF.2.2.1.symm) d0 d3 d4 d6 d9 (fun x hx => (hC x hx).elim) hR.1 (by rw [sum_cat]; exact hR.2.1) hR.2.2.1 hR.2.2.2 hF.2.2.2.2.2.1
    (fun t hv hz hk => ⟨⟨h, n, ad, hp, va_P_same hD.2.1 hk, va_K.moved hv hD.1, hD.2.2.1, hD.2.2.2.2.1, hD.2.2.2.2.2.1⟩, ⟨Nat.le_trans hD.2.2.2.1.1 hz, fun q hq hA => by rw [hk q (Nat.lt_of_lt_of_le hq hD.2.2.2.1.1)]; exact hD.2.2.2.1.2.1 q hq hA⟩⟩) hD.2.2.2.1.2.2 hR.2.2.1 hR.2.2.2
def KMin (own : String) (index : Nat) : Prop := Cond.methodLink own index Lib.Math.min.name ∈ GW ∧ Cond.static Lib.Math.min.name ∈ GW ∧ Cond.initialized "java/lang/Math" ∈ GW ∧ Cond.code Lib.Math.min.name Lib.Math.min.code 2 (some .int) ∈ GW
def KMax (own : String) (index : Nat) : Prop := Cond.methodLink own index Lib.Math.max.name ∈ GW ∧ Cond.static Lib.Math.max.name ∈ GW ∧ Cond.initialized "java/lang/Math" ∈ GW ∧ Cond.code Lib.Math.max.name Lib.Math.max.code 2 (some .int) ∈ GW
theorem aw_mmin {index : Nat} {x y : Int32} (hK : KMin T.1 index) (hd : decode T.2.1 pc = .ok (.invokestatic index, 3)) (hR : 1 ≤ T.2.2.2.2.1.frames ∧ (st.map fun v => v.category).sum + 13 ≤ T.2.2.2.2.1.locals ∧ ce ≤ T.2.2.2.2.1.cells ∧ sl ≤ T.2.2.2.2.1.slots) (kk : AW T Q CX (pc + 3) lo (.int (if y < x then y else x) :: st) h n ce sl) : AW T Q CX pc lo (.int y :: .int x :: st) h n ce sl := by
  intro p l e1 s m args below meth c H locs ls ad kc D z A hF hC hD
  exact va_mmin hF.1 hF.2.1 (hF.2.2.1.trans hD.2.2.2.2.2.2.1.symm) hF.2.2.2.1 (hF.2.2.2.2.1 _ hK.1) (hF.2.2.2.2.1 _ hK.2.1) (hF.2.2.2.2.1 _ hK.2.2.1) (hF.2.2.2.2.1 _ hK.2.2.2) hR.1 (by rw [sum_cat]; exact hR.2.1) hR.2.2.1 hR.2.2.2 hd (kk p l e1 s m args below meth c H locs ls ad kc D z A hF hC hD)
theorem aw_mmax {index : Nat} {x y : Int32} (hK : KMax T.1 index) (hd : decode T.2.1 pc = .ok (.invokestatic index, 3)) (hR : 1 ≤ T.2.2.2.2.1.frames ∧ (st.map fun v => v.category).sum + 13 ≤ T.2.2.2.2.1.locals ∧ ce ≤ T.2.2.2.2.1.cells ∧ sl ≤ T.2.2.2.2.1.slots) (kk : AW T Q CX (pc + 3) lo (.int (if x < y then y else x) :: st) h n ce sl) : AW T Q CX pc lo (.int y :: .int x :: st) h n ce sl := by
  intro p l e1 s m args below meth c H locs ls ad kc D z A hF hC hD
  exact va_mmax hF.1 hF.2.1 (hF.2.2.1.trans hD.2.2.2.2.2.2.1.symm) hF.2.2.2.1 (hF.2.2.2.2.1 _ hK.1) (hF.2.2.2.2.1 _ hK.2.1) (hF.2.2.2.2.1 _ hK.2.2.1) (hF.2.2.2.2.1 _ hK.2.2.2) hR.1 (by rw [sum_cat]; exact hR.2.1) hR.2.2.1 hR.2.2.2 hd (kk p l e1 s m args below meth c H locs ls ad kc D z A hF hC hD)
def KCp (own : String) (index : Nat) : Prop := Cond.methodLink own index arraycopyName ∈ GW ∧ Cond.native arraycopyName ∈ GW ∧ Cond.static arraycopyName ∈ GW ∧ Cond.initialized "java/lang/System" ∈ GW
theorem aw_copy {index i0 i1 n0 n1 : Nat} {f g : Nat → Int32} {sp dp k : Int32} (hK : KCp T.1 index) (hd : decode T.2.1 pc = .ok (.invokestatic index, 3)) (he0 : h i0 = .inl (0, n0, .inl f)) (he1 : h i1 = .inl (0, n1, .inl g)) (hi0 : i0 < n) (hi1 : i1 < n) (h1 : ¬ sp < 0) (h2 : ¬ dp < 0) (h3 : ¬ k < 0) (h4 : sp.toNatClampNeg + k.toNatClampNeg ≤ n0) (h5 : dp.toNatClampNeg + k.toNatClampNeg ≤ n1)
    (hR : 1 ≤ T.2.2.2.2.1.frames ∧ (st.map fun v => v.category).sum + (nativeFrameWords "java/lang/System" "arraycopy" 5 + 11) ≤ T.2.2.2.2.1.locals) (hh : hset h i1 (.inl (0, n1, .inl (va_cpy f g sp.toNatClampNeg dp.toNatClampNeg k.toNatClampNeg))) = h') (kk : AW T Q CX (pc + 3) lo st h' n ce sl) : AW T Q CX pc lo (.int k :: .int dp :: .ref i1 :: .int sp :: .ref i0 :: st) h n ce sl := by
  intro p l e1 s m args below meth c H locs ls ad kc D z A hF hC hD
  exact va_copyi hF.1 hF.2.1 (hF.2.2.1.trans hD.2.2.2.2.2.2.1.symm) hF.2.2.2.1 (hF.2.2.2.2.1 _ hK.1) (hF.2.2.2.2.1 _ hK.2.1) (hF.2.2.2.2.1 _ hK.2.2.1) (hF.2.2.2.2.1 _ hK.2.2.2) hD.1 hD.2.1 hD.2.2.1 hD.2.2.2.1 i0 i1 0 0 (cW_getE hi0 he0 rfl) (cW_getE hi1 he1 rfl) rfl rfl rfl h1 h2 h3 h4 h5 (fun _ _ => rfl) hR.1 (by rw [sum_cat]; exact hR.2) hd
    (fun H1 locs1 hP1 hD1 hS1 => kk p l e1 s m args below meth c H1 locs1 ls ad kc D z A hF hC (hD.put hi1 hh rfl hP1 hD1 hS1))
end AWrows
end
section
theorem gx_X0 : ∀ w ∈ u_ws RX0 TX0 7, w ∈ GW := gw_lays (by decide +kernel)
theorem gx_X1 : ∀ w ∈ u_ws RX1 TX1 6, w ∈ GW := gw_lays (by decide +kernel)
theorem gx_X2 : ∀ w ∈ u_ws RX2 TX2 4, w ∈ GW := gw_lays (by decide +kernel)
theorem gx_X3 : ∀ w ∈ u_ws RX3 TX3 5, w ∈ GW := gw_lays (by decide +kernel)
theorem gx_X4 : ∀ w ∈ u_ws RX4 TX4 6, w ∈ GW := gw_lays (by decide +kernel)
theorem gx_X5 : ∀ w ∈ u_ws RX5 TX5 6, w ∈ GW := gw_lays (by decide +kernel)
theorem gx_X6 : ∀ w ∈ u_ws RX6 TX6 9, w ∈ GW := gw_lays (by decide +kernel)
theorem gx_X7 : ∀ w ∈ u_ws RX7 TX7 3, w ∈ GW := gw_lays (by decide +kernel)
theorem gx_X8 : ∀ w ∈ u_ws RX8 TX8 3, w ∈ GW := gw_lays (by decide +kernel)
theorem gx_X9 : ∀ w ∈ u_ws RX9 TX9 8, w ∈ GW := gw_lays (by decide +kernel)
theorem gx_X10 : ∀ w ∈ u_ws RX10 TX10 19, w ∈ GW := gw_lays (by decide +kernel)
theorem fl_X9_10 : FL RX9 10 9 0 := ⟨RX9, TX9, 8, rfl, by decide, gx_X9, Or.inl (gw_at 438 (by decide +kernel) rfl)⟩
theorem fp_X9_10_i : FP RX9 10 9 0 (.object "Campground$Camp") true := ⟨RX9, TX9, 8, tyX9, rfl, by decide, gx_X9, tyX9_ok, nmX9, by decide +kernel, Or.inr (Or.inr ⟨gw_at 438 (by decide +kernel) rfl, rfl, rfl, rfl⟩)⟩
theorem fl_X9_16 : FL RX9 16 9 1 := ⟨RX9, TX9, 8, rfl, by decide, gx_X9, Or.inl (gw_at 439 (by decide +kernel) rfl)⟩
theorem fp_X9_16_i : FP RX9 16 9 1 (.object "Campground$Camp") true := ⟨RX9, TX9, 8, tyX9, rfl, by decide, gx_X9, tyX9_ok, nmX9, by decide +kernel, Or.inr (Or.inr ⟨gw_at 439 (by decide +kernel) rfl, rfl, rfl, rfl⟩)⟩
theorem fl_X9_19 : FL RX9 19 9 2 := ⟨RX9, TX9, 8, rfl, by decide, gx_X9, Or.inl (gw_at 440 (by decide +kernel) rfl)⟩
theorem fp_X9_19_i : FP RX9 19 9 2 (.array (.object "Campground$Camp")) true := ⟨RX9, TX9, 8, tyX9, rfl, by decide, gx_X9, tyX9_ok, nmX9, by decide +kernel, Or.inr (Or.inr ⟨gw_at 440 (by decide +kernel) rfl, rfl, rfl, rfl⟩)⟩
theorem fl_X9_28 : FL RX9 28 9 3 := ⟨RX9, TX9, 8, rfl, by decide, gx_X9, Or.inl (gw_at 441 (by decide +kernel) rfl)⟩
theorem fp_X9_28_i : FP RX9 28 9 3 (.object "Campground$StayJudge") true := ⟨RX9, TX9, 8, tyX9, rfl, by decide, gx_X9, tyX9_ok, nmX9, by decide +kernel, Or.inr (Or.inr ⟨gw_at 441 (by decide +kernel) rfl, rfl, rfl, rfl⟩)⟩
theorem fl_X9_35 : FL RX9 35 9 4 := ⟨RX9, TX9, 8, rfl, by decide, gx_X9, Or.inl (gw_at 442 (by decide +kernel) rfl)⟩
theorem fp_X9_35_i : FP RX9 35 9 4 (.object "Campground$Plan") true := ⟨RX9, TX9, 8, tyX9, rfl, by decide, gx_X9, tyX9_ok, nmX9, by decide +kernel, Or.inr (Or.inr ⟨gw_at 442 (by decide +kernel) rfl, rfl, rfl, rfl⟩)⟩
theorem fl_X9_39 : FL RX9 39 9 5 := ⟨RX9, TX9, 8, rfl, by decide, gx_X9, Or.inl (gw_at 443 (by decide +kernel) rfl)⟩
theorem fp_X9_39_i : FP RX9 39 9 5 (.array .byte) true := ⟨RX9, TX9, 8, tyX9, rfl, by decide, gx_X9, tyX9_ok, nmX9, by decide +kernel, Or.inr (Or.inr ⟨gw_at 443 (by decide +kernel) rfl, rfl, rfl, rfl⟩)⟩
theorem fl_X9_48 : FL RX9 48 9 6 := ⟨RX9, TX9, 8, rfl, by decide, gx_X9, Or.inl (gw_at 444 (by decide +kernel) rfl)⟩
theorem fp_X9_48_i : FP RX9 48 9 6 (.object "Campground$SetupReader") true := ⟨RX9, TX9, 8, tyX9, rfl, by decide, gx_X9, tyX9_ok, nmX9, by decide +kernel, Or.inr (Or.inr ⟨gw_at 444 (by decide +kernel) rfl, rfl, rfl, rfl⟩)⟩
theorem fl_X9_52 : FL RX9 52 9 7 := ⟨RX9, TX9, 8, rfl, by decide, gx_X9, Or.inl (gw_at 445 (by decide +kernel) rfl)⟩
theorem fp_X9_52_m : FP RX9 52 9 7 (.int) false := ⟨RX9, TX9, 8, tyX9, rfl, by decide, gx_X9, tyX9_ok, nmX9, by decide +kernel, Or.inl ⟨gw_at 445 (by decide +kernel) rfl, rfl⟩⟩
theorem fp_X9_52_i : FP RX9 52 9 7 (.int) true := ⟨RX9, TX9, 8, tyX9, rfl, by decide, gx_X9, tyX9_ok, nmX9, by decide +kernel, Or.inl ⟨gw_at 445 (by decide +kernel) rfl, rfl⟩⟩
theorem fl_X9_60 : FL RX9 60 1 0 := ⟨RX1, TX1, 6, rfl, by decide, gx_X1, Or.inr ⟨"Campground", gw_at 324 (by decide +kernel) rfl⟩⟩
theorem fl_X9_64 : FL RX9 64 2 3 := ⟨RX2, TX2, 4, rfl, by decide, gx_X2, Or.inr ⟨"Campground", gw_at 177 (by decide +kernel) rfl⟩⟩
theorem fl_X9_84 : FL RX9 84 1 1 := ⟨RX1, TX1, 6, rfl, by decide, gx_X1, Or.inr ⟨"Campground", gw_at 328 (by decide +kernel) rfl⟩⟩
theorem fl_X9_88 : FL RX9 88 7 2 := ⟨RX7, TX7, 3, rfl, by decide, gx_X7, Or.inr ⟨"Campground", gw_at 203 (by decide +kernel) rfl⟩⟩
theorem fl_X9_96 : FL RX9 96 1 2 := ⟨RX1, TX1, 6, rfl, by decide, gx_X1, Or.inr ⟨"Campground", gw_at 332 (by decide +kernel) rfl⟩⟩
theorem fl_X9_100 : FL RX9 100 5 5 := ⟨RX5, TX5, 6, rfl, by decide, gx_X5, Or.inr ⟨"Campground", gw_at 225 (by decide +kernel) rfl⟩⟩
theorem fl_X9_111 : FL RX9 111 7 0 := ⟨RX7, TX7, 3, rfl, by decide, gx_X7, Or.inr ⟨"Campground", gw_at 197 (by decide +kernel) rfl⟩⟩
theorem fl_X9_128 : FL RX9 128 1 3 := ⟨RX1, TX1, 6, rfl, by decide, gx_X1, Or.inr ⟨"Campground", gw_at 339 (by decide +kernel) rfl⟩⟩
theorem fl_X9_164 : FL RX9 164 0 6 := ⟨RX0, TX0, 7, rfl, by decide, gx_X0, Or.inr ⟨"Campground", gw_at 270 (by decide +kernel) rfl⟩⟩
theorem fl_X9_168 : FL RX9 168 0 4 := ⟨RX0, TX0, 7, rfl, by decide, gx_X0, Or.inr ⟨"Campground", gw_at 263 (by decide +kernel) rfl⟩⟩
theorem fl_X9_171 : FL RX9 171 0 0 := ⟨RX0, TX0, 7, rfl, by decide, gx_X0, Or.inr ⟨"Campground", gw_at 249 (by decide +kernel) rfl⟩⟩
theorem fl_X9_172 : FL RX9 172 0 1 := ⟨RX0, TX0, 7, rfl, by decide, gx_X0, Or.inr ⟨"Campground", gw_at 253 (by decide +kernel) rfl⟩⟩
theorem fl_X9_175 : FL RX9 175 0 2 := ⟨RX0, TX0, 7, rfl, by decide, gx_X0, Or.inr ⟨"Campground", gw_at 257 (by decide +kernel) rfl⟩⟩
theorem fl_X9_178 : FL RX9 178 0 3 := ⟨RX0, TX0, 7, rfl, by decide, gx_X0, Or.inr ⟨"Campground", gw_at 260 (by decide +kernel) rfl⟩⟩
theorem fl_X9_181 : FL RX9 181 0 5 := ⟨RX0, TX0, 7, rfl, by decide, gx_X0, Or.inr ⟨"Campground", gw_at 266 (by decide +kernel) rfl⟩⟩
theorem fl_X9_198 : FL RX9 198 1 5 := ⟨RX1, TX1, 6, rfl, by decide, gx_X1, Or.inr ⟨"Campground", gw_at 345 (by decide +kernel) rfl⟩⟩
theorem fl_X9_222 : FL RX9 222 7 1 := ⟨RX7, TX7, 3, rfl, by decide, gx_X7, Or.inr ⟨"Campground", gw_at 200 (by decide +kernel) rfl⟩⟩
theorem fl_X9_228 : FL RX9 228 1 4 := ⟨RX1, TX1, 6, rfl, by decide, gx_X1, Or.inr ⟨"Campground", gw_at 341 (by decide +kernel) rfl⟩⟩
theorem fl_X9_232 : FL RX9 232 4 5 := ⟨RX4, TX4, 6, rfl, by decide, gx_X4, Or.inr ⟨"Campground", gw_at 309 (by decide +kernel) rfl⟩⟩
theorem fl_X9_241 : FL RX9 241 4 3 := ⟨RX4, TX4, 6, rfl, by decide, gx_X4, Or.inr ⟨"Campground", gw_at 303 (by decide +kernel) rfl⟩⟩
theorem fl_X9_242 : FL RX9 242 4 4 := ⟨RX4, TX4, 6, rfl, by decide, gx_X4, Or.inr ⟨"Campground", gw_at 306 (by decide +kernel) rfl⟩⟩
theorem fl_X9_254 : FL RX9 254 3 1 := ⟨RX3, TX3, 5, rfl, by decide, gx_X3, Or.inr ⟨"Campground", gw_at 384 (by decide +kernel) rfl⟩⟩
theorem fl_X9_255 : FL RX9 255 3 3 := ⟨RX3, TX3, 5, rfl, by decide, gx_X3, Or.inr ⟨"Campground", gw_at 387 (by decide +kernel) rfl⟩⟩
theorem fl_X9_258 : FL RX9 258 3 4 := ⟨RX3, TX3, 5, rfl, by decide, gx_X3, Or.inr ⟨"Campground", gw_at 389 (by decide +kernel) rfl⟩⟩
theorem fl_X9_290 : FL RX9 290 6 7 := ⟨RX6, TX6, 9, rfl, by decide, gx_X6, Or.inr ⟨"Campground", gw_at 415 (by decide +kernel) rfl⟩⟩
theorem fl_X9_293 : FL RX9 293 6 8 := ⟨RX6, TX6, 9, rfl, by decide, gx_X6, Or.inr ⟨"Campground", gw_at 417 (by decide +kernel) rfl⟩⟩
theorem fl_X9_318 : FL RX9 318 4 0 := ⟨RX4, TX4, 6, rfl, by decide, gx_X4, Or.inr ⟨"Campground", gw_at 294 (by decide +kernel) rfl⟩⟩
theorem fl_X9_322 : FL RX9 322 4 1 := ⟨RX4, TX4, 6, rfl, by decide, gx_X4, Or.inr ⟨"Campground", gw_at 297 (by decide +kernel) rfl⟩⟩
theorem fl_X9_323 : FL RX9 323 4 2 := ⟨RX4, TX4, 6, rfl, by decide, gx_X4, Or.inr ⟨"Campground", gw_at 300 (by decide +kernel) rfl⟩⟩
theorem fl_X0_9 : FL RX0 9 0 0 := ⟨RX0, TX0, 7, rfl, by decide, gx_X0, Or.inl (gw_at 246 (by decide +kernel) rfl)⟩
theorem fp_X0_9_i : FP RX0 9 0 0 (.array .int) true := ⟨RX0, TX0, 7, tyX0, rfl, by decide, gx_X0, tyX0_ok, nmX0, by decide +kernel, Or.inr (Or.inr ⟨gw_at 246 (by decide +kernel) rfl, rfl, rfl, rfl⟩)⟩
theorem fl_X0_15 : FL RX0 15 0 1 := ⟨RX0, TX0, 7, rfl, by decide, gx_X0, Or.inl (gw_at 250 (by decide +kernel) rfl)⟩
theorem fp_X0_15_i : FP RX0 15 0 1 (.array .int) true := ⟨RX0, TX0, 7, tyX0, rfl, by decide, gx_X0, tyX0_ok, nmX0, by decide +kernel, Or.inr (Or.inr ⟨gw_at 250 (by decide +kernel) rfl, rfl, rfl, rfl⟩)⟩
theorem fl_X0_18 : FL RX0 18 0 2 := ⟨RX0, TX0, 7, rfl, by decide, gx_X0, Or.inl (gw_at 254 (by decide +kernel) rfl)⟩
theorem fp_X0_18_i : FP RX0 18 0 2 (.array .int) true := ⟨RX0, TX0, 7, tyX0, rfl, by decide, gx_X0, tyX0_ok, nmX0, by decide +kernel, Or.inr (Or.inr ⟨gw_at 254 (by decide +kernel) rfl, rfl, rfl, rfl⟩)⟩
theorem fl_X0_21 : FL RX0 21 0 3 := ⟨RX0, TX0, 7, rfl, by decide, gx_X0, Or.inl (gw_at 258 (by decide +kernel) rfl)⟩
theorem fp_X0_21_i : FP RX0 21 0 3 (.array .int) true := ⟨RX0, TX0, 7, tyX0, rfl, by decide, gx_X0, tyX0_ok, nmX0, by decide +kernel, Or.inr (Or.inr ⟨gw_at 258 (by decide +kernel) rfl, rfl, rfl, rfl⟩)⟩
theorem fl_X0_24 : FL RX0 24 0 4 := ⟨RX0, TX0, 7, rfl, by decide, gx_X0, Or.inl (gw_at 261 (by decide +kernel) rfl)⟩
theorem fp_X0_24_i : FP RX0 24 0 4 (.array .int) true := ⟨RX0, TX0, 7, tyX0, rfl, by decide, gx_X0, tyX0_ok, nmX0, by decide +kernel, Or.inr (Or.inr ⟨gw_at 261 (by decide +kernel) rfl, rfl, rfl, rfl⟩)⟩
theorem fl_X0_27 : FL RX0 27 0 5 := ⟨RX0, TX0, 7, rfl, by decide, gx_X0, Or.inl (gw_at 264 (by decide +kernel) rfl)⟩
theorem fp_X0_27_i : FP RX0 27 0 5 (.array .int) true := ⟨RX0, TX0, 7, tyX0, rfl, by decide, gx_X0, tyX0_ok, nmX0, by decide +kernel, Or.inr (Or.inr ⟨gw_at 264 (by decide +kernel) rfl, rfl, rfl, rfl⟩)⟩
theorem fl_X0_30 : FL RX0 30 0 6 := ⟨RX0, TX0, 7, rfl, by decide, gx_X0, Or.inl (gw_at 267 (by decide +kernel) rfl)⟩
theorem fp_X0_30_m : FP RX0 30 0 6 (.int) false := ⟨RX0, TX0, 7, tyX0, rfl, by decide, gx_X0, tyX0_ok, nmX0, by decide +kernel, Or.inl ⟨gw_at 267 (by decide +kernel) rfl, rfl⟩⟩
theorem fp_X0_30_i : FP RX0 30 0 6 (.int) true := ⟨RX0, TX0, 7, tyX0, rfl, by decide, gx_X0, tyX0_ok, nmX0, by decide +kernel, Or.inl ⟨gw_at 267 (by decide +kernel) rfl, rfl⟩⟩
theorem fl_X1_12 : FL RX1 12 1 0 := ⟨RX1, TX1, 6, rfl, by decide, gx_X1, Or.inl (gw_at 323 (by decide +kernel) rfl)⟩
theorem fp_X1_12_i : FP RX1 12 1 0 (.object "Campground$Classes") true := ⟨RX1, TX1, 6, tyX1, rfl, by decide, gx_X1, tyX1_ok, nmX1, by decide +kernel, Or.inr (Or.inr ⟨gw_at 323 (by decide +kernel) rfl, rfl, rfl, rfl⟩)⟩
theorem fl_X1_21 : FL RX1 21 1 1 := ⟨RX1, TX1, 6, rfl, by decide, gx_X1, Or.inl (gw_at 327 (by decide +kernel) rfl)⟩
theorem fp_X1_21_i : FP RX1 21 1 1 (.object "Campground$Sites") true := ⟨RX1, TX1, 6, tyX1, rfl, by decide, gx_X1, tyX1_ok, nmX1, by decide +kernel, Or.inr (Or.inr ⟨gw_at 327 (by decide +kernel) rfl, rfl, rfl, rfl⟩)⟩
theorem fl_X1_28 : FL RX1 28 1 2 := ⟨RX1, TX1, 6, rfl, by decide, gx_X1, Or.inl (gw_at 331 (by decide +kernel) rfl)⟩
theorem fp_X1_28_i : FP RX1 28 1 2 (.object "Campground$Seasons") true := ⟨RX1, TX1, 6, tyX1, rfl, by decide, gx_X1, tyX1_ok, nmX1, by decide +kernel, Or.inr (Or.inr ⟨gw_at 331 (by decide +kernel) rfl, rfl, rfl, rfl⟩)⟩
theorem fl_X1_35 : FL RX1 35 1 3 := ⟨RX1, TX1, 6, rfl, by decide, gx_X1, Or.inl (gw_at 336 (by decide +kernel) rfl)⟩
theorem fp_X1_35_i : FP RX1 35 1 3 (.object "Campground$Bookings") true := ⟨RX1, TX1, 6, tyX1, rfl, by decide, gx_X1, tyX1_ok, nmX1, by decide +kernel, Or.inr (Or.inr ⟨gw_at 336 (by decide +kernel) rfl, rfl, rfl, rfl⟩)⟩
theorem fl_X1_42 : FL RX1 42 1 4 := ⟨RX1, TX1, 6, rfl, by decide, gx_X1, Or.inl (gw_at 340 (by decide +kernel) rfl)⟩
theorem fp_X1_42_i : FP RX1 42 1 4 (.object "Campground$Requests") true := ⟨RX1, TX1, 6, tyX1, rfl, by decide, gx_X1, tyX1_ok, nmX1, by decide +kernel, Or.inr (Or.inr ⟨gw_at 340 (by decide +kernel) rfl, rfl, rfl, rfl⟩)⟩
theorem fl_X1_46 : FL RX1 46 1 5 := ⟨RX1, TX1, 6, rfl, by decide, gx_X1, Or.inl (gw_at 342 (by decide +kernel) rfl)⟩
theorem fp_X1_46_m : FP RX1 46 1 5 (.int) false := ⟨RX1, TX1, 6, tyX1, rfl, by decide, gx_X1, tyX1_ok, nmX1, by decide +kernel, Or.inl ⟨gw_at 342 (by decide +kernel) rfl, rfl⟩⟩
theorem fp_X1_46_i : FP RX1 46 1 5 (.int) true := ⟨RX1, TX1, 6, tyX1, rfl, by decide, gx_X1, tyX1_ok, nmX1, by decide +kernel, Or.inl ⟨gw_at 342 (by decide +kernel) rfl, rfl⟩⟩
theorem fl_X1_50 : FL RX1 50 2 3 := ⟨RX2, TX2, 4, rfl, by decide, gx_X2, Or.inr ⟨"Campground", gw_at 176 (by decide +kernel) rfl⟩⟩
theorem fp_X1_50_m : FP RX1 50 2 3 (.int) false := ⟨RX2, TX2, 4, tyX2, rfl, by decide, gx_X2, tyX2_ok, nmX2, by decide +kernel, Or.inr (Or.inl ⟨⟨"Campground", gw_at 176 (by decide +kernel) rfl⟩, rfl⟩)⟩
theorem fl_X1_53 : FL RX1 53 7 2 := ⟨RX7, TX7, 3, rfl, by decide, gx_X7, Or.inr ⟨"Campground", gw_at 202 (by decide +kernel) rfl⟩⟩
theorem fp_X1_53_m : FP RX1 53 7 2 (.int) false := ⟨RX7, TX7, 3, tyX7, rfl, by decide, gx_X7, tyX7_ok, nmX7, by decide +kernel, Or.inr (Or.inl ⟨⟨"Campground", gw_at 202 (by decide +kernel) rfl⟩, rfl⟩)⟩
theorem fl_X1_54 : FL RX1 54 5 5 := ⟨RX5, TX5, 6, rfl, by decide, gx_X5, Or.inr ⟨"Campground", gw_at 224 (by decide +kernel) rfl⟩⟩
theorem fp_X1_54_m : FP RX1 54 5 5 (.int) false := ⟨RX5, TX5, 6, tyX5, rfl, by decide, gx_X5, tyX5_ok, nmX5, by decide +kernel, Or.inr (Or.inl ⟨⟨"Campground", gw_at 224 (by decide +kernel) rfl⟩, rfl⟩)⟩
theorem fl_X1_55 : FL RX1 55 0 6 := ⟨RX0, TX0, 7, rfl, by decide, gx_X0, Or.inr ⟨"Campground", gw_at 268 (by decide +kernel) rfl⟩⟩
theorem fp_X1_55_m : FP RX1 55 0 6 (.int) false := ⟨RX0, TX0, 7, tyX0, rfl, by decide, gx_X0, tyX0_ok, nmX0, by decide +kernel, Or.inr (Or.inl ⟨⟨"Campground", gw_at 268 (by decide +kernel) rfl⟩, rfl⟩)⟩
theorem fl_X1_56 : FL RX1 56 4 5 := ⟨RX4, TX4, 6, rfl, by decide, gx_X4, Or.inr ⟨"Campground", gw_at 308 (by decide +kernel) rfl⟩⟩
theorem fp_X1_56_m : FP RX1 56 4 5 (.int) false := ⟨RX4, TX4, 6, tyX4, rfl, by decide, gx_X4, tyX4_ok, nmX4, by decide +kernel, Or.inr (Or.inl ⟨⟨"Campground", gw_at 308 (by decide +kernel) rfl⟩, rfl⟩)⟩
theorem fl_X1_99 : FL RX1 99 7 0 := ⟨RX7, TX7, 3, rfl, by decide, gx_X7, Or.inr ⟨"Campground", gw_at 198 (by decide +kernel) rfl⟩⟩
theorem fl_X1_114 : FL RX1 114 4 0 := ⟨RX4, TX4, 6, rfl, by decide, gx_X4, Or.inr ⟨"Campground", gw_at 293 (by decide +kernel) rfl⟩⟩
theorem fl_X1_115 : FL RX1 115 4 1 := ⟨RX4, TX4, 6, rfl, by decide, gx_X4, Or.inr ⟨"Campground", gw_at 296 (by decide +kernel) rfl⟩⟩
theorem fl_X1_118 : FL RX1 118 4 2 := ⟨RX4, TX4, 6, rfl, by decide, gx_X4, Or.inr ⟨"Campground", gw_at 299 (by decide +kernel) rfl⟩⟩
theorem fl_X1_124 : FL RX1 124 4 4 := ⟨RX4, TX4, 6, rfl, by decide, gx_X4, Or.inr ⟨"Campground", gw_at 305 (by decide +kernel) rfl⟩⟩
theorem fl_X1_127 : FL RX1 127 4 3 := ⟨RX4, TX4, 6, rfl, by decide, gx_X4, Or.inr ⟨"Campground", gw_at 302 (by decide +kernel) rfl⟩⟩
theorem fl_X1_130 : FL RX1 130 0 1 := ⟨RX0, TX0, 7, rfl, by decide, gx_X0, Or.inr ⟨"Campground", gw_at 252 (by decide +kernel) rfl⟩⟩
theorem fl_X1_131 : FL RX1 131 0 3 := ⟨RX0, TX0, 7, rfl, by decide, gx_X0, Or.inr ⟨"Campground", gw_at 259 (by decide +kernel) rfl⟩⟩
theorem fl_X1_134 : FL RX1 134 0 0 := ⟨RX0, TX0, 7, rfl, by decide, gx_X0, Or.inr ⟨"Campground", gw_at 248 (by decide +kernel) rfl⟩⟩
theorem fl_X1_135 : FL RX1 135 0 2 := ⟨RX0, TX0, 7, rfl, by decide, gx_X0, Or.inr ⟨"Campground", gw_at 256 (by decide +kernel) rfl⟩⟩
theorem fl_X2_9 : FL RX2 9 2 0 := ⟨RX2, TX2, 4, rfl, by decide, gx_X2, Or.inl (gw_at 172 (by decide +kernel) rfl)⟩
theorem fp_X2_9_i : FP RX2 9 2 0 (.array .int) true := ⟨RX2, TX2, 4, tyX2, rfl, by decide, gx_X2, tyX2_ok, nmX2, by decide +kernel, Or.inr (Or.inr ⟨gw_at 172 (by decide +kernel) rfl, rfl, rfl, rfl⟩)⟩
theorem fl_X2_15 : FL RX2 15 2 1 := ⟨RX2, TX2, 4, rfl, by decide, gx_X2, Or.inl (gw_at 173 (by decide +kernel) rfl)⟩
theorem fp_X2_15_i : FP RX2 15 2 1 (.array .int) true := ⟨RX2, TX2, 4, tyX2, rfl, by decide, gx_X2, tyX2_ok, nmX2, by decide +kernel, Or.inr (Or.inr ⟨gw_at 173 (by decide +kernel) rfl, rfl, rfl, rfl⟩)⟩
theorem fl_X2_18 : FL RX2 18 2 2 := ⟨RX2, TX2, 4, rfl, by decide, gx_X2, Or.inl (gw_at 174 (by decide +kernel) rfl)⟩
theorem fp_X2_18_i : FP RX2 18 2 2 (.array .int) true := ⟨RX2, TX2, 4, tyX2, rfl, by decide, gx_X2, tyX2_ok, nmX2, by decide +kernel, Or.inr (Or.inr ⟨gw_at 174 (by decide +kernel) rfl, rfl, rfl, rfl⟩)⟩
theorem fl_X2_21 : FL RX2 21 2 3 := ⟨RX2, TX2, 4, rfl, by decide, gx_X2, Or.inl (gw_at 175 (by decide +kernel) rfl)⟩
theorem fp_X2_21_m : FP RX2 21 2 3 (.int) false := ⟨RX2, TX2, 4, tyX2, rfl, by decide, gx_X2, tyX2_ok, nmX2, by decide +kernel, Or.inl ⟨gw_at 175 (by decide +kernel) rfl, rfl⟩⟩
theorem fp_X2_21_i : FP RX2 21 2 3 (.int) true := ⟨RX2, TX2, 4, tyX2, rfl, by decide, gx_X2, tyX2_ok, nmX2, by decide +kernel, Or.inl ⟨gw_at 175 (by decide +kernel) rfl, rfl⟩⟩
theorem fl_X3_9 : FL RX3 9 3 1 := ⟨RX3, TX3, 5, rfl, by decide, gx_X3, Or.inl (gw_at 383 (by decide +kernel) rfl)⟩
theorem fp_X3_9_i : FP RX3 9 3 1 (.array .int) true := ⟨RX3, TX3, 5, tyX3, rfl, by decide, gx_X3, tyX3_ok, nmX3, by decide +kernel, Or.inr (Or.inr ⟨gw_at 383 (by decide +kernel) rfl, rfl, rfl, rfl⟩)⟩
theorem fl_X3_15 : FL RX3 15 3 2 := ⟨RX3, TX3, 5, rfl, by decide, gx_X3, Or.inl (gw_at 385 (by decide +kernel) rfl)⟩
theorem fp_X3_15_i : FP RX3 15 3 2 (.array .int) true := ⟨RX3, TX3, 5, tyX3, rfl, by decide, gx_X3, tyX3_ok, nmX3, by decide +kernel, Or.inr (Or.inr ⟨gw_at 385 (by decide +kernel) rfl, rfl, rfl, rfl⟩)⟩
theorem fl_X3_18 : FL RX3 18 3 3 := ⟨RX3, TX3, 5, rfl, by decide, gx_X3, Or.inl (gw_at 386 (by decide +kernel) rfl)⟩
theorem fp_X3_18_m : FP RX3 18 3 3 (.int) false := ⟨RX3, TX3, 5, tyX3, rfl, by decide, gx_X3, tyX3_ok, nmX3, by decide +kernel, Or.inl ⟨gw_at 386 (by decide +kernel) rfl, rfl⟩⟩
theorem fp_X3_18_i : FP RX3 18 3 3 (.int) true := ⟨RX3, TX3, 5, tyX3, rfl, by decide, gx_X3, tyX3_ok, nmX3, by decide +kernel, Or.inl ⟨gw_at 386 (by decide +kernel) rfl, rfl⟩⟩
theorem fl_X3_22 : FL RX3 22 3 4 := ⟨RX3, TX3, 5, rfl, by decide, gx_X3, Or.inl (gw_at 388 (by decide +kernel) rfl)⟩
theorem fp_X3_22_m : FP RX3 22 3 4 (.int) false := ⟨RX3, TX3, 5, tyX3, rfl, by decide, gx_X3, tyX3_ok, nmX3, by decide +kernel, Or.inl ⟨gw_at 388 (by decide +kernel) rfl, rfl⟩⟩
theorem fp_X3_22_i : FP RX3 22 3 4 (.int) true := ⟨RX3, TX3, 5, tyX3, rfl, by decide, gx_X3, tyX3_ok, nmX3, by decide +kernel, Or.inl ⟨gw_at 388 (by decide +kernel) rfl, rfl⟩⟩
theorem fl_X3_25 : FL RX3 25 3 0 := ⟨RX3, TX3, 5, rfl, by decide, gx_X3, Or.inl (gw_at 382 (by decide +kernel) rfl)⟩
theorem fp_X3_25_i : FP RX3 25 3 0 (.object "Campground$Camp") true := ⟨RX3, TX3, 5, tyX3, rfl, by decide, gx_X3, tyX3_ok, nmX3, by decide +kernel, Or.inr (Or.inr ⟨gw_at 382 (by decide +kernel) rfl, rfl, rfl, rfl⟩)⟩
theorem fl_X3_39 : FL RX3 39 1 3 := ⟨RX1, TX1, 6, rfl, by decide, gx_X1, Or.inr ⟨"Campground", gw_at 337 (by decide +kernel) rfl⟩⟩
theorem fl_X3_45 : FL RX3 45 0 6 := ⟨RX0, TX0, 7, rfl, by decide, gx_X0, Or.inr ⟨"Campground", gw_at 269 (by decide +kernel) rfl⟩⟩
theorem fl_X3_54 : FL RX3 54 0 1 := ⟨RX0, TX0, 7, rfl, by decide, gx_X0, Or.inr ⟨"Campground", gw_at 251 (by decide +kernel) rfl⟩⟩
theorem fl_X3_65 : FL RX3 65 0 2 := ⟨RX0, TX0, 7, rfl, by decide, gx_X0, Or.inr ⟨"Campground", gw_at 255 (by decide +kernel) rfl⟩⟩
theorem fl_X3_68 : FL RX3 68 0 5 := ⟨RX0, TX0, 7, rfl, by decide, gx_X0, Or.inr ⟨"Campground", gw_at 265 (by decide +kernel) rfl⟩⟩
theorem fl_X3_69 : FL RX3 69 0 4 := ⟨RX0, TX0, 7, rfl, by decide, gx_X0, Or.inr ⟨"Campground", gw_at 262 (by decide +kernel) rfl⟩⟩
theorem fl_X3_72 : FL RX3 72 0 0 := ⟨RX0, TX0, 7, rfl, by decide, gx_X0, Or.inr ⟨"Campground", gw_at 247 (by decide +kernel) rfl⟩⟩
theorem fl_X3_75 : FL RX3 75 1 1 := ⟨RX1, TX1, 6, rfl, by decide, gx_X1, Or.inr ⟨"Campground", gw_at 329 (by decide +kernel) rfl⟩⟩
theorem fl_X3_79 : FL RX3 79 7 2 := ⟨RX7, TX7, 3, rfl, by decide, gx_X7, Or.inr ⟨"Campground", gw_at 204 (by decide +kernel) rfl⟩⟩
theorem fl_X3_82 : FL RX3 82 7 0 := ⟨RX7, TX7, 3, rfl, by decide, gx_X7, Or.inr ⟨"Campground", gw_at 196 (by decide +kernel) rfl⟩⟩
theorem fl_X3_87 : FL RX3 87 1 2 := ⟨RX1, TX1, 6, rfl, by decide, gx_X1, Or.inr ⟨"Campground", gw_at 335 (by decide +kernel) rfl⟩⟩
theorem fl_X4_9 : FL RX4 9 4 0 := ⟨RX4, TX4, 6, rfl, by decide, gx_X4, Or.inl (gw_at 292 (by decide +kernel) rfl)⟩
theorem fp_X4_9_i : FP RX4 9 4 0 (.array .int) true := ⟨RX4, TX4, 6, tyX4, rfl, by decide, gx_X4, tyX4_ok, nmX4, by decide +kernel, Or.inr (Or.inr ⟨gw_at 292 (by decide +kernel) rfl, rfl, rfl, rfl⟩)⟩
theorem fl_X4_15 : FL RX4 15 4 1 := ⟨RX4, TX4, 6, rfl, by decide, gx_X4, Or.inl (gw_at 295 (by decide +kernel) rfl)⟩
theorem fp_X4_15_i : FP RX4 15 4 1 (.array .int) true := ⟨RX4, TX4, 6, tyX4, rfl, by decide, gx_X4, tyX4_ok, nmX4, by decide +kernel, Or.inr (Or.inr ⟨gw_at 295 (by decide +kernel) rfl, rfl, rfl, rfl⟩)⟩
theorem fl_X4_18 : FL RX4 18 4 2 := ⟨RX4, TX4, 6, rfl, by decide, gx_X4, Or.inl (gw_at 298 (by decide +kernel) rfl)⟩
theorem fp_X4_18_i : FP RX4 18 4 2 (.array .int) true := ⟨RX4, TX4, 6, tyX4, rfl, by decide, gx_X4, tyX4_ok, nmX4, by decide +kernel, Or.inr (Or.inr ⟨gw_at 298 (by decide +kernel) rfl, rfl, rfl, rfl⟩)⟩
theorem fl_X4_21 : FL RX4 21 4 3 := ⟨RX4, TX4, 6, rfl, by decide, gx_X4, Or.inl (gw_at 301 (by decide +kernel) rfl)⟩
theorem fp_X4_21_i : FP RX4 21 4 3 (.array .int) true := ⟨RX4, TX4, 6, tyX4, rfl, by decide, gx_X4, tyX4_ok, nmX4, by decide +kernel, Or.inr (Or.inr ⟨gw_at 301 (by decide +kernel) rfl, rfl, rfl, rfl⟩)⟩
theorem fl_X4_24 : FL RX4 24 4 4 := ⟨RX4, TX4, 6, rfl, by decide, gx_X4, Or.inl (gw_at 304 (by decide +kernel) rfl)⟩
theorem fp_X4_24_i : FP RX4 24 4 4 (.array .int) true := ⟨RX4, TX4, 6, tyX4, rfl, by decide, gx_X4, tyX4_ok, nmX4, by decide +kernel, Or.inr (Or.inr ⟨gw_at 304 (by decide +kernel) rfl, rfl, rfl, rfl⟩)⟩
theorem fl_X4_27 : FL RX4 27 4 5 := ⟨RX4, TX4, 6, rfl, by decide, gx_X4, Or.inl (gw_at 307 (by decide +kernel) rfl)⟩
theorem fp_X4_27_m : FP RX4 27 4 5 (.int) false := ⟨RX4, TX4, 6, tyX4, rfl, by decide, gx_X4, tyX4_ok, nmX4, by decide +kernel, Or.inl ⟨gw_at 307 (by decide +kernel) rfl, rfl⟩⟩
theorem fp_X4_27_i : FP RX4 27 4 5 (.int) true := ⟨RX4, TX4, 6, tyX4, rfl, by decide, gx_X4, tyX4_ok, nmX4, by decide +kernel, Or.inl ⟨gw_at 307 (by decide +kernel) rfl, rfl⟩⟩
theorem fl_X5_9 : FL RX5 9 5 0 := ⟨RX5, TX5, 6, rfl, by decide, gx_X5, Or.inl (gw_at 218 (by decide +kernel) rfl)⟩
theorem fp_X5_9_i : FP RX5 9 5 0 (.array .int) true := ⟨RX5, TX5, 6, tyX5, rfl, by decide, gx_X5, tyX5_ok, nmX5, by decide +kernel, Or.inr (Or.inr ⟨gw_at 218 (by decide +kernel) rfl, rfl, rfl, rfl⟩)⟩
theorem fl_X5_15 : FL RX5 15 5 1 := ⟨RX5, TX5, 6, rfl, by decide, gx_X5, Or.inl (gw_at 219 (by decide +kernel) rfl)⟩
theorem fp_X5_15_i : FP RX5 15 5 1 (.array .int) true := ⟨RX5, TX5, 6, tyX5, rfl, by decide, gx_X5, tyX5_ok, nmX5, by decide +kernel, Or.inr (Or.inr ⟨gw_at 219 (by decide +kernel) rfl, rfl, rfl, rfl⟩)⟩
theorem fl_X5_18 : FL RX5 18 5 2 := ⟨RX5, TX5, 6, rfl, by decide, gx_X5, Or.inl (gw_at 220 (by decide +kernel) rfl)⟩
theorem fp_X5_18_i : FP RX5 18 5 2 (.array .int) true := ⟨RX5, TX5, 6, tyX5, rfl, by decide, gx_X5, tyX5_ok, nmX5, by decide +kernel, Or.inr (Or.inr ⟨gw_at 220 (by decide +kernel) rfl, rfl, rfl, rfl⟩)⟩
theorem fl_X5_21 : FL RX5 21 5 3 := ⟨RX5, TX5, 6, rfl, by decide, gx_X5, Or.inl (gw_at 221 (by decide +kernel) rfl)⟩
theorem fp_X5_21_i : FP RX5 21 5 3 (.array .int) true := ⟨RX5, TX5, 6, tyX5, rfl, by decide, gx_X5, tyX5_ok, nmX5, by decide +kernel, Or.inr (Or.inr ⟨gw_at 221 (by decide +kernel) rfl, rfl, rfl, rfl⟩)⟩
theorem fl_X5_24 : FL RX5 24 5 4 := ⟨RX5, TX5, 6, rfl, by decide, gx_X5, Or.inl (gw_at 222 (by decide +kernel) rfl)⟩
theorem fp_X5_24_i : FP RX5 24 5 4 (.array .int) true := ⟨RX5, TX5, 6, tyX5, rfl, by decide, gx_X5, tyX5_ok, nmX5, by decide +kernel, Or.inr (Or.inr ⟨gw_at 222 (by decide +kernel) rfl, rfl, rfl, rfl⟩)⟩
theorem fl_X5_27 : FL RX5 27 5 5 := ⟨RX5, TX5, 6, rfl, by decide, gx_X5, Or.inl (gw_at 223 (by decide +kernel) rfl)⟩
theorem fp_X5_27_m : FP RX5 27 5 5 (.int) false := ⟨RX5, TX5, 6, tyX5, rfl, by decide, gx_X5, tyX5_ok, nmX5, by decide +kernel, Or.inl ⟨gw_at 223 (by decide +kernel) rfl, rfl⟩⟩
theorem fp_X5_27_i : FP RX5 27 5 5 (.int) true := ⟨RX5, TX5, 6, tyX5, rfl, by decide, gx_X5, tyX5_ok, nmX5, by decide +kernel, Or.inl ⟨gw_at 223 (by decide +kernel) rfl, rfl⟩⟩
theorem fl_X6_9 : FL RX6 9 6 2 := ⟨RX6, TX6, 9, rfl, by decide, gx_X6, Or.inl (gw_at 409 (by decide +kernel) rfl)⟩
theorem fp_X6_9_m : FP RX6 9 6 2 (.int) false := ⟨RX6, TX6, 9, tyX6, rfl, by decide, gx_X6, tyX6_ok, nmX6, by decide +kernel, Or.inl ⟨gw_at 409 (by decide +kernel) rfl, rfl⟩⟩
theorem fp_X6_9_i : FP RX6 9 6 2 (.int) true := ⟨RX6, TX6, 9, tyX6, rfl, by decide, gx_X6, tyX6_ok, nmX6, by decide +kernel, Or.inl ⟨gw_at 409 (by decide +kernel) rfl, rfl⟩⟩
theorem fl_X6_15 : FL RX6 15 6 3 := ⟨RX6, TX6, 9, rfl, by decide, gx_X6, Or.inl (gw_at 410 (by decide +kernel) rfl)⟩
theorem fp_X6_15_m : FP RX6 15 6 3 (.int) false := ⟨RX6, TX6, 9, tyX6, rfl, by decide, gx_X6, tyX6_ok, nmX6, by decide +kernel, Or.inl ⟨gw_at 410 (by decide +kernel) rfl, rfl⟩⟩
theorem fp_X6_15_i : FP RX6 15 6 3 (.int) true := ⟨RX6, TX6, 9, tyX6, rfl, by decide, gx_X6, tyX6_ok, nmX6, by decide +kernel, Or.inl ⟨gw_at 410 (by decide +kernel) rfl, rfl⟩⟩
theorem fl_X6_18 : FL RX6 18 6 4 := ⟨RX6, TX6, 9, rfl, by decide, gx_X6, Or.inl (gw_at 411 (by decide +kernel) rfl)⟩
theorem fp_X6_18_m : FP RX6 18 6 4 (.int) false := ⟨RX6, TX6, 9, tyX6, rfl, by decide, gx_X6, tyX6_ok, nmX6, by decide +kernel, Or.inl ⟨gw_at 411 (by decide +kernel) rfl, rfl⟩⟩
theorem fp_X6_18_i : FP RX6 18 6 4 (.int) true := ⟨RX6, TX6, 9, tyX6, rfl, by decide, gx_X6, tyX6_ok, nmX6, by decide +kernel, Or.inl ⟨gw_at 411 (by decide +kernel) rfl, rfl⟩⟩
theorem fl_X6_21 : FL RX6 21 6 5 := ⟨RX6, TX6, 9, rfl, by decide, gx_X6, Or.inl (gw_at 412 (by decide +kernel) rfl)⟩
theorem fp_X6_21_m : FP RX6 21 6 5 (.int) false := ⟨RX6, TX6, 9, tyX6, rfl, by decide, gx_X6, tyX6_ok, nmX6, by decide +kernel, Or.inl ⟨gw_at 412 (by decide +kernel) rfl, rfl⟩⟩
theorem fp_X6_21_i : FP RX6 21 6 5 (.int) true := ⟨RX6, TX6, 9, tyX6, rfl, by decide, gx_X6, tyX6_ok, nmX6, by decide +kernel, Or.inl ⟨gw_at 412 (by decide +kernel) rfl, rfl⟩⟩
theorem fl_X6_24 : FL RX6 24 6 6 := ⟨RX6, TX6, 9, rfl, by decide, gx_X6, Or.inl (gw_at 413 (by decide +kernel) rfl)⟩
theorem fp_X6_24_m : FP RX6 24 6 6 (.int) false := ⟨RX6, TX6, 9, tyX6, rfl, by decide, gx_X6, tyX6_ok, nmX6, by decide +kernel, Or.inl ⟨gw_at 413 (by decide +kernel) rfl, rfl⟩⟩
theorem fp_X6_24_i : FP RX6 24 6 6 (.int) true := ⟨RX6, TX6, 9, tyX6, rfl, by decide, gx_X6, tyX6_ok, nmX6, by decide +kernel, Or.inl ⟨gw_at 413 (by decide +kernel) rfl, rfl⟩⟩
theorem fl_X6_27 : FL RX6 27 6 7 := ⟨RX6, TX6, 9, rfl, by decide, gx_X6, Or.inl (gw_at 414 (by decide +kernel) rfl)⟩
theorem fp_X6_27_m : FP RX6 27 6 7 (.int) false := ⟨RX6, TX6, 9, tyX6, rfl, by decide, gx_X6, tyX6_ok, nmX6, by decide +kernel, Or.inl ⟨gw_at 414 (by decide +kernel) rfl, rfl⟩⟩
theorem fp_X6_27_i : FP RX6 27 6 7 (.int) true := ⟨RX6, TX6, 9, tyX6, rfl, by decide, gx_X6, tyX6_ok, nmX6, by decide +kernel, Or.inl ⟨gw_at 414 (by decide +kernel) rfl, rfl⟩⟩
theorem fl_X6_30 : FL RX6 30 6 8 := ⟨RX6, TX6, 9, rfl, by decide, gx_X6, Or.inl (gw_at 416 (by decide +kernel) rfl)⟩
theorem fp_X6_30_m : FP RX6 30 6 8 (.int) false := ⟨RX6, TX6, 9, tyX6, rfl, by decide, gx_X6, tyX6_ok, nmX6, by decide +kernel, Or.inl ⟨gw_at 416 (by decide +kernel) rfl, rfl⟩⟩
theorem fp_X6_30_i : FP RX6 30 6 8 (.int) true := ⟨RX6, TX6, 9, tyX6, rfl, by decide, gx_X6, tyX6_ok, nmX6, by decide +kernel, Or.inl ⟨gw_at 416 (by decide +kernel) rfl, rfl⟩⟩
theorem fl_X6_33 : FL RX6 33 6 0 := ⟨RX6, TX6, 9, rfl, by decide, gx_X6, Or.inl (gw_at 407 (by decide +kernel) rfl)⟩
theorem fp_X6_33_i : FP RX6 33 6 0 (.array .byte) true := ⟨RX6, TX6, 9, tyX6, rfl, by decide, gx_X6, tyX6_ok, nmX6, by decide +kernel, Or.inr (Or.inr ⟨gw_at 407 (by decide +kernel) rfl, rfl, rfl, rfl⟩)⟩
theorem fl_X6_37 : FL RX6 37 6 1 := ⟨RX6, TX6, 9, rfl, by decide, gx_X6, Or.inl (gw_at 408 (by decide +kernel) rfl)⟩
theorem fp_X6_37_i : FP RX6 37 6 1 (.object "Campground$Camp") true := ⟨RX6, TX6, 9, tyX6, rfl, by decide, gx_X6, tyX6_ok, nmX6, by decide +kernel, Or.inr (Or.inr ⟨gw_at 408 (by decide +kernel) rfl, rfl, rfl, rfl⟩)⟩
theorem fl_X6_90 : FL RX6 90 1 0 := ⟨RX1, TX1, 6, rfl, by decide, gx_X1, Or.inr ⟨"Campground", gw_at 325 (by decide +kernel) rfl⟩⟩
theorem fl_X6_94 : FL RX6 94 2 3 := ⟨RX2, TX2, 4, rfl, by decide, gx_X2, Or.inr ⟨"Campground", gw_at 178 (by decide +kernel) rfl⟩⟩
theorem fl_X6_106 : FL RX6 106 1 1 := ⟨RX1, TX1, 6, rfl, by decide, gx_X1, Or.inr ⟨"Campground", gw_at 330 (by decide +kernel) rfl⟩⟩
theorem fl_X6_119 : FL RX6 119 1 2 := ⟨RX1, TX1, 6, rfl, by decide, gx_X1, Or.inr ⟨"Campground", gw_at 333 (by decide +kernel) rfl⟩⟩
theorem fl_X6_123 : FL RX6 123 5 5 := ⟨RX5, TX5, 6, rfl, by decide, gx_X5, Or.inr ⟨"Campground", gw_at 226 (by decide +kernel) rfl⟩⟩
theorem fl_X6_129 : FL RX6 129 1 5 := ⟨RX1, TX1, 6, rfl, by decide, gx_X1, Or.inr ⟨"Campground", gw_at 344 (by decide +kernel) rfl⟩⟩
theorem fp_X6_129_m : FP RX6 129 1 5 (.int) false := ⟨RX1, TX1, 6, tyX1, rfl, by decide, gx_X1, tyX1_ok, nmX1, by decide +kernel, Or.inr (Or.inl ⟨⟨"Campground", gw_at 344 (by decide +kernel) rfl⟩, rfl⟩)⟩
theorem fl_X7_9 : FL RX7 9 7 0 := ⟨RX7, TX7, 3, rfl, by decide, gx_X7, Or.inl (gw_at 195 (by decide +kernel) rfl)⟩
theorem fp_X7_9_i : FP RX7 9 7 0 (.array .int) true := ⟨RX7, TX7, 3, tyX7, rfl, by decide, gx_X7, tyX7_ok, nmX7, by decide +kernel, Or.inr (Or.inr ⟨gw_at 195 (by decide +kernel) rfl, rfl, rfl, rfl⟩)⟩
theorem fl_X7_15 : FL RX7 15 7 1 := ⟨RX7, TX7, 3, rfl, by decide, gx_X7, Or.inl (gw_at 199 (by decide +kernel) rfl)⟩
theorem fp_X7_15_i : FP RX7 15 7 1 (.array .int) true := ⟨RX7, TX7, 3, tyX7, rfl, by decide, gx_X7, tyX7_ok, nmX7, by decide +kernel, Or.inr (Or.inr ⟨gw_at 199 (by decide +kernel) rfl, rfl, rfl, rfl⟩)⟩
theorem fl_X7_18 : FL RX7 18 7 2 := ⟨RX7, TX7, 3, rfl, by decide, gx_X7, Or.inl (gw_at 201 (by decide +kernel) rfl)⟩
theorem fp_X7_18_m : FP RX7 18 7 2 (.int) false := ⟨RX7, TX7, 3, tyX7, rfl, by decide, gx_X7, tyX7_ok, nmX7, by decide +kernel, Or.inl ⟨gw_at 201 (by decide +kernel) rfl, rfl⟩⟩
theorem fp_X7_18_i : FP RX7 18 7 2 (.int) true := ⟨RX7, TX7, 3, tyX7, rfl, by decide, gx_X7, tyX7_ok, nmX7, by decide +kernel, Or.inl ⟨gw_at 201 (by decide +kernel) rfl, rfl⟩⟩
theorem fl_X8_9 : FL RX8 9 8 1 := ⟨RX8, TX8, 3, rfl, by decide, gx_X8, Or.inl (gw_at 367 (by decide +kernel) rfl)⟩
theorem fp_X8_9_i : FP RX8 9 8 1 (.array .int) true := ⟨RX8, TX8, 3, tyX8, rfl, by decide, gx_X8, tyX8_ok, nmX8, by decide +kernel, Or.inr (Or.inr ⟨gw_at 367 (by decide +kernel) rfl, rfl, rfl, rfl⟩)⟩
theorem fl_X8_15 : FL RX8 15 8 2 := ⟨RX8, TX8, 3, rfl, by decide, gx_X8, Or.inl (gw_at 368 (by decide +kernel) rfl)⟩
theorem fp_X8_15_m : FP RX8 15 8 2 (.int) false := ⟨RX8, TX8, 3, tyX8, rfl, by decide, gx_X8, tyX8_ok, nmX8, by decide +kernel, Or.inl ⟨gw_at 368 (by decide +kernel) rfl, rfl⟩⟩
theorem fp_X8_15_i : FP RX8 15 8 2 (.int) true := ⟨RX8, TX8, 3, tyX8, rfl, by decide, gx_X8, tyX8_ok, nmX8, by decide +kernel, Or.inl ⟨gw_at 368 (by decide +kernel) rfl, rfl⟩⟩
theorem fl_X8_19 : FL RX8 19 8 0 := ⟨RX8, TX8, 3, rfl, by decide, gx_X8, Or.inl (gw_at 366 (by decide +kernel) rfl)⟩
theorem fp_X8_19_i : FP RX8 19 8 0 (.object "Campground$Camp") true := ⟨RX8, TX8, 3, tyX8, rfl, by decide, gx_X8, tyX8_ok, nmX8, by decide +kernel, Or.inr (Or.inr ⟨gw_at 366 (by decide +kernel) rfl, rfl, rfl, rfl⟩)⟩
theorem fl_X8_35 : FL RX8 35 1 3 := ⟨RX1, TX1, 6, rfl, by decide, gx_X1, Or.inr ⟨"Campground", gw_at 338 (by decide +kernel) rfl⟩⟩
theorem fl_X8_44 : FL RX8 44 1 5 := ⟨RX1, TX1, 6, rfl, by decide, gx_X1, Or.inr ⟨"Campground", gw_at 343 (by decide +kernel) rfl⟩⟩
theorem fl_X8_47 : FL RX8 47 1 0 := ⟨RX1, TX1, 6, rfl, by decide, gx_X1, Or.inr ⟨"Campground", gw_at 326 (by decide +kernel) rfl⟩⟩
theorem fl_X8_68 : FL RX8 68 1 2 := ⟨RX1, TX1, 6, rfl, by decide, gx_X1, Or.inr ⟨"Campground", gw_at 334 (by decide +kernel) rfl⟩⟩
theorem fl_X10_7 : FL RX10 7 10 0 := ⟨RX10, TX10, 19, rfl, by decide, gx_X10, Or.inl (gw_at 1336 (by decide +kernel) rfl)⟩
theorem fp_X10_7_i : FP RX10 7 10 0 (.array .int) true := ⟨RX10, TX10, 19, tyX10, rfl, by decide, gx_X10, tyX10_ok, nmX10, by decide +kernel, Or.inr (Or.inr ⟨gw_at 1336 (by decide +kernel) rfl, rfl, rfl, rfl⟩)⟩
theorem fl_X10_13 : FL RX10 13 10 1 := ⟨RX10, TX10, 19, rfl, by decide, gx_X10, Or.inl (gw_at 1337 (by decide +kernel) rfl)⟩
theorem fp_X10_13_i : FP RX10 13 10 1 (.array .int) true := ⟨RX10, TX10, 19, tyX10, rfl, by decide, gx_X10, tyX10_ok, nmX10, by decide +kernel, Or.inr (Or.inr ⟨gw_at 1337 (by decide +kernel) rfl, rfl, rfl, rfl⟩)⟩
theorem fl_X10_16 : FL RX10 16 10 2 := ⟨RX10, TX10, 19, rfl, by decide, gx_X10, Or.inl (gw_at 1338 (by decide +kernel) rfl)⟩
theorem fp_X10_16_i : FP RX10 16 10 2 (.array .int) true := ⟨RX10, TX10, 19, tyX10, rfl, by decide, gx_X10, tyX10_ok, nmX10, by decide +kernel, Or.inr (Or.inr ⟨gw_at 1338 (by decide +kernel) rfl, rfl, rfl, rfl⟩)⟩
theorem fl_X10_19 : FL RX10 19 10 3 := ⟨RX10, TX10, 19, rfl, by decide, gx_X10, Or.inl (gw_at 1339 (by decide +kernel) rfl)⟩
theorem fp_X10_19_i : FP RX10 19 10 3 (.array .boolean) true := ⟨RX10, TX10, 19, tyX10, rfl, by decide, gx_X10, tyX10_ok, nmX10, by decide +kernel, Or.inr (Or.inr ⟨gw_at 1339 (by decide +kernel) rfl, rfl, rfl, rfl⟩)⟩
theorem fl_X10_23 : FL RX10 23 10 5 := ⟨RX10, TX10, 19, rfl, by decide, gx_X10, Or.inl (gw_at 1341 (by decide +kernel) rfl)⟩
theorem fp_X10_23_i : FP RX10 23 10 5 (.array .int) true := ⟨RX10, TX10, 19, tyX10, rfl, by decide, gx_X10, tyX10_ok, nmX10, by decide +kernel, Or.inr (Or.inr ⟨gw_at 1341 (by decide +kernel) rfl, rfl, rfl, rfl⟩)⟩
theorem fl_X10_26 : FL RX10 26 10 6 := ⟨RX10, TX10, 19, rfl, by decide, gx_X10, Or.inl (gw_at 1342 (by decide +kernel) rfl)⟩
theorem fp_X10_26_i : FP RX10 26 10 6 (.array .int) true := ⟨RX10, TX10, 19, tyX10, rfl, by decide, gx_X10, tyX10_ok, nmX10, by decide +kernel, Or.inr (Or.inr ⟨gw_at 1342 (by decide +kernel) rfl, rfl, rfl, rfl⟩)⟩
theorem fl_X10_29 : FL RX10 29 10 9 := ⟨RX10, TX10, 19, rfl, by decide, gx_X10, Or.inl (gw_at 1345 (by decide +kernel) rfl)⟩
theorem fp_X10_29_i : FP RX10 29 10 9 (.array .int) true := ⟨RX10, TX10, 19, tyX10, rfl, by decide, gx_X10, tyX10_ok, nmX10, by decide +kernel, Or.inr (Or.inr ⟨gw_at 1345 (by decide +kernel) rfl, rfl, rfl, rfl⟩)⟩
theorem fl_X10_32 : FL RX10 32 10 17 := ⟨RX10, TX10, 19, rfl, by decide, gx_X10, Or.inl (gw_at 1353 (by decide +kernel) rfl)⟩
theorem fp_X10_32_m : FP RX10 32 10 17 (.int) false := ⟨RX10, TX10, 19, tyX10, rfl, by decide, gx_X10, tyX10_ok, nmX10, by decide +kernel, Or.inl ⟨gw_at 1353 (by decide +kernel) rfl, rfl⟩⟩
theorem fp_X10_32_i : FP RX10 32 10 17 (.int) true := ⟨RX10, TX10, 19, tyX10, rfl, by decide, gx_X10, tyX10_ok, nmX10, by decide +kernel, Or.inl ⟨gw_at 1353 (by decide +kernel) rfl, rfl⟩⟩
theorem fl_X10_36 : FL RX10 36 10 4 := ⟨RX10, TX10, 19, rfl, by decide, gx_X10, Or.inl (gw_at 1340 (by decide +kernel) rfl)⟩
theorem fp_X10_36_m : FP RX10 36 10 4 (.int) false := ⟨RX10, TX10, 19, tyX10, rfl, by decide, gx_X10, tyX10_ok, nmX10, by decide +kernel, Or.inl ⟨gw_at 1340 (by decide +kernel) rfl, rfl⟩⟩
theorem fl_X10_180 : FL RX10 180 10 7 := ⟨RX10, TX10, 19, rfl, by decide, gx_X10, Or.inl (gw_at 1343 (by decide +kernel) rfl)⟩
theorem fp_X10_180_m : FP RX10 180 10 7 (.int) false := ⟨RX10, TX10, 19, tyX10, rfl, by decide, gx_X10, tyX10_ok, nmX10, by decide +kernel, Or.inl ⟨gw_at 1343 (by decide +kernel) rfl, rfl⟩⟩
theorem fl_X10_183 : FL RX10 183 10 8 := ⟨RX10, TX10, 19, rfl, by decide, gx_X10, Or.inl (gw_at 1344 (by decide +kernel) rfl)⟩
theorem fp_X10_183_m : FP RX10 183 10 8 (.int) false := ⟨RX10, TX10, 19, tyX10, rfl, by decide, gx_X10, tyX10_ok, nmX10, by decide +kernel, Or.inl ⟨gw_at 1344 (by decide +kernel) rfl, rfl⟩⟩
theorem fl_X10_213 : FL RX10 213 10 10 := ⟨RX10, TX10, 19, rfl, by decide, gx_X10, Or.inl (gw_at 1346 (by decide +kernel) rfl)⟩
theorem fp_X10_213_m : FP RX10 213 10 10 (.int) false := ⟨RX10, TX10, 19, tyX10, rfl, by decide, gx_X10, tyX10_ok, nmX10, by decide +kernel, Or.inl ⟨gw_at 1346 (by decide +kernel) rfl, rfl⟩⟩
theorem fl_X10_216 : FL RX10 216 10 11 := ⟨RX10, TX10, 19, rfl, by decide, gx_X10, Or.inl (gw_at 1347 (by decide +kernel) rfl)⟩
theorem fp_X10_216_m : FP RX10 216 10 11 (.int) false := ⟨RX10, TX10, 19, tyX10, rfl, by decide, gx_X10, tyX10_ok, nmX10, by decide +kernel, Or.inl ⟨gw_at 1347 (by decide +kernel) rfl, rfl⟩⟩
theorem fl_X10_222 : FL RX10 222 10 12 := ⟨RX10, TX10, 19, rfl, by decide, gx_X10, Or.inl (gw_at 1348 (by decide +kernel) rfl)⟩
theorem fp_X10_222_m : FP RX10 222 10 12 (.int) false := ⟨RX10, TX10, 19, tyX10, rfl, by decide, gx_X10, tyX10_ok, nmX10, by decide +kernel, Or.inl ⟨gw_at 1348 (by decide +kernel) rfl, rfl⟩⟩
theorem fl_X10_225 : FL RX10 225 10 14 := ⟨RX10, TX10, 19, rfl, by decide, gx_X10, Or.inl (gw_at 1350 (by decide +kernel) rfl)⟩
theorem fp_X10_225_m : FP RX10 225 10 14 (.int) false := ⟨RX10, TX10, 19, tyX10, rfl, by decide, gx_X10, tyX10_ok, nmX10, by decide +kernel, Or.inl ⟨gw_at 1350 (by decide +kernel) rfl, rfl⟩⟩
theorem fl_X10_228 : FL RX10 228 10 18 := ⟨RX10, TX10, 19, rfl, by decide, gx_X10, Or.inl (gw_at 1354 (by decide +kernel) rfl)⟩
theorem fp_X10_228_m : FP RX10 228 10 18 (.long) false := ⟨RX10, TX10, 19, tyX10, rfl, by decide, gx_X10, tyX10_ok, nmX10, by decide +kernel, Or.inl ⟨gw_at 1354 (by decide +kernel) rfl, rfl⟩⟩
theorem fl_X10_232 : FL RX10 232 10 15 := ⟨RX10, TX10, 19, rfl, by decide, gx_X10, Or.inl (gw_at 1351 (by decide +kernel) rfl)⟩
theorem fp_X10_232_m : FP RX10 232 10 15 (.int) false := ⟨RX10, TX10, 19, tyX10, rfl, by decide, gx_X10, tyX10_ok, nmX10, by decide +kernel, Or.inl ⟨gw_at 1351 (by decide +kernel) rfl, rfl⟩⟩
theorem fl_X10_235 : FL RX10 235 10 13 := ⟨RX10, TX10, 19, rfl, by decide, gx_X10, Or.inl (gw_at 1349 (by decide +kernel) rfl)⟩
theorem fp_X10_235_m : FP RX10 235 10 13 (.int) false := ⟨RX10, TX10, 19, tyX10, rfl, by decide, gx_X10, tyX10_ok, nmX10, by decide +kernel, Or.inl ⟨gw_at 1349 (by decide +kernel) rfl, rfl⟩⟩
theorem fl_X10_258 : FL RX10 258 10 16 := ⟨RX10, TX10, 19, rfl, by decide, gx_X10, Or.inl (gw_at 1352 (by decide +kernel) rfl)⟩
theorem fp_X10_258_m : FP RX10 258 10 16 (.int) false := ⟨RX10, TX10, 19, tyX10, rfl, by decide, gx_X10, tyX10_ok, nmX10, by decide +kernel, Or.inl ⟨gw_at 1352 (by decide +kernel) rfl, rfl⟩⟩
theorem ko_X9_init : KO yX9_init cX9_init 1 none 0 := ⟨gw_at 156 (by decide +kernel) rfl, gw_at 128 (by decide +kernel) rfl, by decide +kernel⟩
theorem ko_X9_addClass : KO yX9_addClass cX9_addClass 4 (some .int) 3 := ⟨gw_at 664 (by decide +kernel) rfl, gw_at 128 (by decide +kernel) rfl, by decide +kernel⟩
theorem ko_X9_addSeason : KO yX9_addSeason cX9_addSeason 6 (some .int) 5 := ⟨gw_at 788 (by decide +kernel) rfl, gw_at 128 (by decide +kernel) rfl, by decide +kernel⟩
theorem ko_X9_addSite : KO yX9_addSite cX9_addSite 2 (some .int) 1 := ⟨gw_at 759 (by decide +kernel) rfl, gw_at 128 (by decide +kernel) rfl, by decide +kernel⟩
theorem ko_X9_appendText : KO yX9_appendText cX9_appendText 3 (some .int) 1 := ⟨gw_at 1306 (by decide +kernel) rfl, gw_at 128 (by decide +kernel) rfl, by decide +kernel⟩
theorem ko_X9_arrival : KO yX9_arrival cX9_arrival 2 (some .int) 1 := ⟨gw_at 995 (by decide +kernel) rfl, gw_at 128 (by decide +kernel) rfl, by decide +kernel⟩
theorem ko_X9_available : KO yX9_available cX9_available 4 (some .int) 2 := ⟨gw_at 881 (by decide +kernel) rfl, gw_at 128 (by decide +kernel) rfl, by decide +kernel⟩
theorem ko_X9_bestRequest : KO yX9_bestRequest cX9_bestRequest 5 (some .int) 1 := ⟨gw_at 1184 (by decide +kernel) rfl, gw_at 128 (by decide +kernel) rfl, by decide +kernel⟩
theorem ko_X9_book : KO yX9_book cX9_book 4 (some .int) 3 := ⟨gw_at 955 (by decide +kernel) rfl, gw_at 128 (by decide +kernel) rfl, by decide +kernel⟩
theorem ko_X9_bookingClass : KO yX9_bookingClass cX9_bookingClass 2 (some .int) 1 := ⟨gw_at 988 (by decide +kernel) rfl, gw_at 128 (by decide +kernel) rfl, by decide +kernel⟩
theorem ko_X9_bookingCount : KO yX9_bookingCount cX9_bookingCount 1 (some .int) 0 := ⟨gw_at 474 (by decide +kernel) rfl, gw_at 128 (by decide +kernel) rfl, by decide +kernel⟩
theorem ko_X9_bookingOf : KO yX9_bookingOf cX9_bookingOf 2 (some .int) 1 := ⟨gw_at 1166 (by decide +kernel) rfl, gw_at 128 (by decide +kernel) rfl, by decide +kernel⟩
theorem ko_X9_bookingState : KO yX9_bookingState cX9_bookingState 2 (some .int) 1 := ⟨gw_at 976 (by decide +kernel) rfl, gw_at 128 (by decide +kernel) rfl, by decide +kernel⟩
theorem ko_X9_busiestNight : KO yX9_busiestNight cX9_busiestNight 8 (some .int) 3 := ⟨gw_at 1299 (by decide +kernel) rfl, gw_at 128 (by decide +kernel) rfl, by decide +kernel⟩
theorem ko_X9_cancel : KO yX9_cancel cX9_cancel 3 (some .int) 1 := ⟨gw_at 1023 (by decide +kernel) rfl, gw_at 128 (by decide +kernel) rfl, by decide +kernel⟩
theorem ko_X9_capacity : KO yX9_capacity cX9_capacity 3 (some .int) 2 := ⟨gw_at 835 (by decide +kernel) rfl, gw_at 128 (by decide +kernel) rfl, by decide +kernel⟩
theorem ko_X9_cheapestArrival : KO yX9_cheapestArrival cX9_cheapestArrival 9 (some .int) 4 := ⟨gw_at 935 (by decide +kernel) rfl, gw_at 128 (by decide +kernel) rfl, by decide +kernel⟩
theorem ko_X9_checkBooking : KO yX9_checkBooking cX9_checkBooking 2 none 1 := ⟨gw_at 980 (by decide +kernel) rfl, gw_at 128 (by decide +kernel) rfl, by decide +kernel⟩
theorem ko_X9_checkClass : KO yX9_checkClass cX9_checkClass 2 none 1 := ⟨gw_at 763 (by decide +kernel) rfl, gw_at 128 (by decide +kernel) rfl, by decide +kernel⟩
theorem ko_X9_checkIn : KO yX9_checkIn cX9_checkIn 5 (some .int) 2 := ⟨gw_at 1061 (by decide +kernel) rfl, gw_at 128 (by decide +kernel) rfl, by decide +kernel⟩
theorem ko_X9_checkNights : KO yX9_checkNights cX9_checkNights 3 none 2 := ⟨gw_at 1248 (by decide +kernel) rfl, gw_at 128 (by decide +kernel) rfl, by decide +kernel⟩
theorem ko_X9_checkRange : KO yX9_checkRange cX9_checkRange 3 none 3 := ⟨gw_at 667 (by decide +kernel) rfl, gw_at 128 (by decide +kernel) rfl, by decide +kernel⟩
theorem ko_X9_checkRequest : KO yX9_checkRequest cX9_checkRequest 2 none 1 := ⟨gw_at 1158 (by decide +kernel) rfl, gw_at 128 (by decide +kernel) rfl, by decide +kernel⟩
theorem ko_X9_checkSameClass : KO yX9_checkSameClass cX9_checkSameClass 3 none 2 := ⟨gw_at 1065 (by decide +kernel) rfl, gw_at 128 (by decide +kernel) rfl, by decide +kernel⟩
theorem ko_X9_checkSite : KO yX9_checkSite cX9_checkSite 2 none 1 := ⟨gw_at 801 (by decide +kernel) rfl, gw_at 128 (by decide +kernel) rfl, by decide +kernel⟩
theorem ko_X9_checkState : KO yX9_checkState cX9_checkState 1 none 1 := ⟨gw_at 1026 (by decide +kernel) rfl, gw_at 128 (by decide +kernel) rfl, by decide +kernel⟩
theorem ko_X9_classCount : KO yX9_classCount cX9_classCount 1 (some .int) 0 := ⟨gw_at 466 (by decide +kernel) rfl, gw_at 128 (by decide +kernel) rfl, by decide +kernel⟩
theorem ko_X9_classOf : KO yX9_classOf cX9_classOf 2 (some .int) 1 := ⟨gw_at 797 (by decide +kernel) rfl, gw_at 128 (by decide +kernel) rfl, by decide +kernel⟩
theorem ko_X9_close : KO yX9_close cX9_close 3 none 2 := ⟨gw_at 1121 (by decide +kernel) rfl, gw_at 128 (by decide +kernel) rfl, by decide +kernel⟩
theorem ko_X9_commonDivisor : KO yX9_commonDivisor cX9_commonDivisor 6 (some .int) 2 := ⟨gw_at 1259 (by decide +kernel) rfl, gw_at 128 (by decide +kernel) rfl, by decide +kernel⟩
theorem ko_X9_copyRow : KO yX9_copyRow cX9_copyRow 2 none 2 := ⟨gw_at 623 (by decide +kernel) rfl, gw_at 128 (by decide +kernel) rfl, by decide +kernel⟩
theorem ko_X9_cost : KO yX9_cost cX9_cost 2 (some .int) 1 := ⟨gw_at 1009 (by decide +kernel) rfl, gw_at 128 (by decide +kernel) rfl, by decide +kernel⟩
theorem ko_X9_dearestBooking : KO yX9_dearestBooking cX9_dearestBooking 4 (some .int) 1 := ⟨gw_at 1288 (by decide +kernel) rfl, gw_at 128 (by decide +kernel) rfl, by decide +kernel⟩
theorem ko_X9_departEarly : KO yX9_departEarly cX9_departEarly 3 (some .int) 1 := ⟨gw_at 1081 (by decide +kernel) rfl, gw_at 128 (by decide +kernel) rfl, by decide +kernel⟩
theorem ko_X9_departure : KO yX9_departure cX9_departure 2 (some .int) 1 := ⟨gw_at 1002 (by decide +kernel) rfl, gw_at 128 (by decide +kernel) rfl, by decide +kernel⟩
theorem ko_X9_endDays : KO yX9_endDays cX9_endDays 3 (some .int) 1 := ⟨gw_at 1101 (by decide +kernel) rfl, gw_at 128 (by decide +kernel) rfl, by decide +kernel⟩
theorem ko_X9_errorCode : KO yX9_errorCode cX9_errorCode 1 (some .int) 0 := ⟨gw_at 651 (by decide +kernel) rfl, gw_at 128 (by decide +kernel) rfl, by decide +kernel⟩
theorem ko_X9_errorPosition : KO yX9_errorPosition cX9_errorPosition 1 (some .int) 0 := ⟨gw_at 655 (by decide +kernel) rfl, gw_at 128 (by decide +kernel) rfl, by decide +kernel⟩
theorem ko_X9_expected : KO yX9_expected cX9_expected 7 (some .int) 3 := ⟨gw_at 1273 (by decide +kernel) rfl, gw_at 128 (by decide +kernel) rfl, by decide +kernel⟩
theorem ko_X9_extend : KO yX9_extend cX9_extend 6 (some .int) 2 := ⟨gw_at 1092 (by decide +kernel) rfl, gw_at 128 (by decide +kernel) rfl, by decide +kernel⟩
theorem ko_X9_fill : KO yX9_fill cX9_fill 4 (some .int) 1 := ⟨gw_at 1180 (by decide +kernel) rfl, gw_at 128 (by decide +kernel) rfl, by decide +kernel⟩
theorem ko_X9_gapNights : KO yX9_gapNights cX9_gapNights 3 (some .int) 2 := ⟨gw_at 1230 (by decide +kernel) rfl, gw_at 128 (by decide +kernel) rfl, by decide +kernel⟩
theorem ko_X9_load : KO yX9_load cX9_load 2 (some .int) 0 := ⟨gw_at 486 (by decide +kernel) rfl, gw_at 128 (by decide +kernel) rfl, by decide +kernel⟩
theorem ko_X9_longestStay : KO yX9_longestStay cX9_longestStay 4 (some .int) 2 := ⟨gw_at 928 (by decide +kernel) rfl, gw_at 128 (by decide +kernel) rfl, by decide +kernel⟩
theorem ko_X9_minimum : KO yX9_minimum cX9_minimum 3 (some .int) 2 := ⟨gw_at 809 (by decide +kernel) rfl, gw_at 128 (by decide +kernel) rfl, by decide +kernel⟩
theorem ko_X9_move : KO yX9_move cX9_move 4 (some .int) 2 := ⟨gw_at 1074 (by decide +kernel) rfl, gw_at 128 (by decide +kernel) rfl, by decide +kernel⟩
theorem ko_X9_nextGap : KO yX9_nextGap cX9_nextGap 4 (some .int) 2 := ⟨gw_at 947 (by decide +kernel) rfl, gw_at 128 (by decide +kernel) rfl, by decide +kernel⟩
theorem ko_X9_obstacle : KO yX9_obstacle cX9_obstacle 4 (some .int) 3 := ⟨gw_at 891 (by decide +kernel) rfl, gw_at 128 (by decide +kernel) rfl, by decide +kernel⟩
theorem ko_X9_occupancyDenominator : KO yX9_occupancyDenominator cX9_occupancyDenominator 7 (some .int) 3 := ⟨gw_at 1266 (by decide +kernel) rfl, gw_at 128 (by decide +kernel) rfl, by decide +kernel⟩
theorem ko_X9_occupancyNumerator : KO yX9_occupancyNumerator cX9_occupancyNumerator 6 (some .int) 3 := ⟨gw_at 1244 (by decide +kernel) rfl, gw_at 128 (by decide +kernel) rfl, by decide +kernel⟩
theorem ko_X9_open : KO yX9_open cX9_open 3 (some .int) 1 := ⟨gw_at 1134 (by decide +kernel) rfl, gw_at 128 (by decide +kernel) rfl, by decide +kernel⟩
theorem ko_X9_orphanNights : KO yX9_orphanNights cX9_orphanNights 3 (some .int) 2 := ⟨gw_at 1237 (by decide +kernel) rfl, gw_at 128 (by decide +kernel) rfl, by decide +kernel⟩
theorem ko_X9_planSite : KO yX9_planSite cX9_planSite 3 (some .int) 2 := ⟨gw_at 1200 (by decide +kernel) rfl, gw_at 128 (by decide +kernel) rfl, by decide +kernel⟩
theorem ko_X9_price : KO yX9_price cX9_price 3 (some .int) 2 := ⟨gw_at 824 (by decide +kernel) rfl, gw_at 128 (by decide +kernel) rfl, by decide +kernel⟩
theorem ko_X9_released : KO yX9_released cX9_released 3 (some .int) 2 := ⟨gw_at 850 (by decide +kernel) rfl, gw_at 128 (by decide +kernel) rfl, by decide +kernel⟩
theorem ko_X9_request : KO yX9_request cX9_request 4 (some .int) 3 := ⟨gw_at 1142 (by decide +kernel) rfl, gw_at 128 (by decide +kernel) rfl, by decide +kernel⟩
theorem ko_X9_requestState : KO yX9_requestState cX9_requestState 2 (some .int) 1 := ⟨gw_at 1154 (by decide +kernel) rfl, gw_at 128 (by decide +kernel) rfl, by decide +kernel⟩
theorem ko_X9_restore : KO yX9_restore cX9_restore 3 none 1 := ⟨gw_at 1328 (by decide +kernel) rfl, gw_at 128 (by decide +kernel) rfl, by decide +kernel⟩
theorem ko_X9_revenue : KO yX9_revenue cX9_revenue 3 (some .int) 0 := ⟨gw_at 482 (by decide +kernel) rfl, gw_at 128 (by decide +kernel) rfl, by decide +kernel⟩
theorem ko_X9_save : KO yX9_save cX9_save 3 none 1 := ⟨gw_at 1321 (by decide +kernel) rfl, gw_at 128 (by decide +kernel) rfl, by decide +kernel⟩
theorem ko_X9_siteCount : KO yX9_siteCount cX9_siteCount 1 (some .int) 0 := ⟨gw_at 470 (by decide +kernel) rfl, gw_at 128 (by decide +kernel) rfl, by decide +kernel⟩
theorem ko_X9_siteOf : KO yX9_siteOf cX9_siteOf 2 (some .int) 1 := ⟨gw_at 1016 (by decide +kernel) rfl, gw_at 128 (by decide +kernel) rfl, by decide +kernel⟩
theorem ko_X9_taken : KO yX9_taken cX9_taken 3 (some .int) 2 := ⟨gw_at 866 (by decide +kernel) rfl, gw_at 128 (by decide +kernel) rfl, by decide +kernel⟩
theorem ko_X9_today : KO yX9_today cX9_today 1 (some .int) 0 := ⟨gw_at 478 (by decide +kernel) rfl, gw_at 128 (by decide +kernel) rfl, by decide +kernel⟩
theorem ko_X9_truncateText : KO yX9_truncateText cX9_truncateText 2 (some .int) 1 := ⟨gw_at 1314 (by decide +kernel) rfl, gw_at 128 (by decide +kernel) rfl, by decide +kernel⟩
theorem ko_X9_vacantSite : KO yX9_vacantSite cX9_vacantSite 2 (some .int) 1 := ⟨gw_at 1038 (by decide +kernel) rfl, gw_at 128 (by decide +kernel) rfl, by decide +kernel⟩
theorem ko_X9_withdraw : KO yX9_withdraw cX9_withdraw 2 none 1 := ⟨gw_at 1173 (by decide +kernel) rfl, gw_at 128 (by decide +kernel) rfl, by decide +kernel⟩
theorem ko_X0_init : KO yX0_init cX0_init 1 none 0 := ⟨gw_at 244 (by decide +kernel) rfl, gw_at 133 (by decide +kernel) rfl, by decide +kernel⟩
theorem ko_X0_add : KO yX0_add cX0_add 5 (some .int) 4 := ⟨gw_at 969 (by decide +kernel) rfl, gw_at 133 (by decide +kernel) rfl, by decide +kernel⟩
theorem ko_X0_copyFrom : KO yX0_copyFrom cX0_copyFrom 2 none 1 := ⟨gw_at 641 (by decide +kernel) rfl, gw_at 133 (by decide +kernel) rfl, by decide +kernel⟩
theorem ko_X0_endNight : KO yX0_endNight cX0_endNight 3 none 1 := ⟨gw_at 1110 (by decide +kernel) rfl, gw_at 133 (by decide +kernel) rfl, by decide +kernel⟩
theorem ko_X0_isActive : KO yX0_isActive cX0_isActive 2 (some .boolean) 1 := ⟨gw_at 874 (by decide +kernel) rfl, gw_at 133 (by decide +kernel) rfl, by decide +kernel⟩
theorem ko_X0_isDearer : KO yX0_isDearer cX0_isDearer 7 (some .boolean) 2 := ⟨gw_at 1292 (by decide +kernel) rfl, gw_at 133 (by decide +kernel) rfl, by decide +kernel⟩
theorem ko_X0_isFull : KO yX0_isFull cX0_isFull 1 (some .boolean) 0 := ⟨gw_at 959 (by decide +kernel) rfl, gw_at 133 (by decide +kernel) rfl, by decide +kernel⟩
theorem ko_X0_isSomebodyAt : KO yX0_isSomebodyAt cX0_isSomebodyAt 3 (some .boolean) 1 := ⟨gw_at 1054 (by decide +kernel) rfl, gw_at 133 (by decide +kernel) rfl, by decide +kernel⟩
theorem ko_X0_isToArrive : KO yX0_isToArrive cX0_isToArrive 3 (some .boolean) 2 := ⟨gw_at 1281 (by decide +kernel) rfl, gw_at 133 (by decide +kernel) rfl, by decide +kernel⟩
theorem ko_X0_isToDepart : KO yX0_isToDepart cX0_isToDepart 3 (some .boolean) 2 := ⟨gw_at 1277 (by decide +kernel) rfl, gw_at 133 (by decide +kernel) rfl, by decide +kernel⟩
theorem ko_X0_takenOn : KO yX0_takenOn cX0_takenOn 5 (some .int) 2 := ⟨gw_at 870 (by decide +kernel) rfl, gw_at 133 (by decide +kernel) rfl, by decide +kernel⟩
theorem ko_X1_init : KO yX1_init cX1_init 1 none 0 := ⟨gw_at 164 (by decide +kernel) rfl, gw_at 129 (by decide +kernel) rfl, by decide +kernel⟩
theorem ko_X1_addBooking : KO yX1_addBooking cX1_addBooking 6 (some .int) 3 := ⟨gw_at 964 (by decide +kernel) rfl, gw_at 129 (by decide +kernel) rfl, by decide +kernel⟩
theorem ko_X1_bookRequest : KO yX1_bookRequest cX1_bookRequest 3 none 1 := ⟨gw_at 1192 (by decide +kernel) rfl, gw_at 129 (by decide +kernel) rfl, by decide +kernel⟩
theorem ko_X1_canSpare : KO yX1_canSpare cX1_canSpare 4 (some .boolean) 2 := ⟨gw_at 1125 (by decide +kernel) rfl, gw_at 129 (by decide +kernel) rfl, by decide +kernel⟩
theorem ko_X1_capacityInAll : KO yX1_capacityInAll cX1_capacityInAll 6 (some .int) 3 := ⟨gw_at 1256 (by decide +kernel) rfl, gw_at 129 (by decide +kernel) rfl, by decide +kernel⟩
theorem ko_X1_capacityOn : KO yX1_capacityOn cX1_capacityOn 3 (some .int) 2 := ⟨gw_at 839 (by decide +kernel) rfl, gw_at 129 (by decide +kernel) rfl, by decide +kernel⟩
theorem ko_X1_clear : KO yX1_clear cX1_clear 1 none 0 := ⟨gw_at 497 (by decide +kernel) rfl, gw_at 129 (by decide +kernel) rfl, by decide +kernel⟩
theorem ko_X1_copyFrom : KO yX1_copyFrom cX1_copyFrom 2 none 1 := ⟨gw_at 616 (by decide +kernel) rfl, gw_at 129 (by decide +kernel) rfl, by decide +kernel⟩
theorem ko_X1_endToday : KO yX1_endToday cX1_endToday 1 none 0 := ⟨gw_at 1106 (by decide +kernel) rfl, gw_at 129 (by decide +kernel) rfl, by decide +kernel⟩
theorem ko_X1_isVacant : KO yX1_isVacant cX1_isVacant 2 (some .boolean) 1 := ⟨gw_at 1046 (by decide +kernel) rfl, gw_at 129 (by decide +kernel) rfl, by decide +kernel⟩
theorem ko_X1_lowestVacantSite : KO yX1_lowestVacantSite cX1_lowestVacantSite 3 (some .int) 1 := ⟨gw_at 1042 (by decide +kernel) rfl, gw_at 129 (by decide +kernel) rfl, by decide +kernel⟩
theorem ko_X1_refundOfCancelling : KO yX1_refundOfCancelling cX1_refundOfCancelling 3 (some .int) 1 := ⟨gw_at 1031 (by decide +kernel) rfl, gw_at 129 (by decide +kernel) rfl, by decide +kernel⟩
theorem ko_X1_refundOfDeparting : KO yX1_refundOfDeparting cX1_refundOfDeparting 3 (some .int) 1 := ⟨gw_at 1085 (by decide +kernel) rfl, gw_at 129 (by decide +kernel) rfl, by decide +kernel⟩
theorem ko_X1_releasedOn : KO yX1_releasedOn cX1_releasedOn 3 (some .int) 2 := ⟨gw_at 854 (by decide +kernel) rfl, gw_at 129 (by decide +kernel) rfl, by decide +kernel⟩
theorem ko_X1_takenInAll : KO yX1_takenInAll cX1_takenInAll 6 (some .int) 3 := ⟨gw_at 1252 (by decide +kernel) rfl, gw_at 129 (by decide +kernel) rfl, by decide +kernel⟩
theorem ko_X2_init : KO yX2_init cX2_init 1 none 0 := ⟨gw_at 170 (by decide +kernel) rfl, gw_at 130 (by decide +kernel) rfl, by decide +kernel⟩
theorem ko_X2_add : KO yX2_add cX2_add 4 (some .int) 3 := ⟨gw_at 585 (by decide +kernel) rfl, gw_at 130 (by decide +kernel) rfl, by decide +kernel⟩
theorem ko_X2_copyFrom : KO yX2_copyFrom cX2_copyFrom 2 none 1 := ⟨gw_at 620 (by decide +kernel) rfl, gw_at 130 (by decide +kernel) rfl, by decide +kernel⟩
theorem ko_X2_limitAhead : KO yX2_limitAhead cX2_limitAhead 3 (some .int) 2 := ⟨gw_at 858 (by decide +kernel) rfl, gw_at 130 (by decide +kernel) rfl, by decide +kernel⟩
theorem ko_X2_windowOf : KO yX2_windowOf cX2_windowOf 2 (some .int) 1 := ⟨gw_at 914 (by decide +kernel) rfl, gw_at 130 (by decide +kernel) rfl, by decide +kernel⟩
theorem ko_X3_init : KO yX3_init cX3_init 2 none 1 := ⟨gw_at 380 (by decide +kernel) rfl, gw_at 136 (by decide +kernel) rfl, by decide +kernel⟩
theorem ko_X3_chooseSite : KO yX3_chooseSite cX3_chooseSite 7 (some .int) 3 := ⟨gw_at 1217 (by decide +kernel) rfl, gw_at 136 (by decide +kernel) rfl, by decide +kernel⟩
theorem ko_X3_countGap : KO yX3_countGap cX3_countGap 5 none 3 := ⟨gw_at 1222 (by decide +kernel) rfl, gw_at 136 (by decide +kernel) rfl, by decide +kernel⟩
theorem ko_X3_make : KO yX3_make cX3_make 6 none 2 := ⟨gw_at 1204 (by decide +kernel) rfl, gw_at 136 (by decide +kernel) rfl, by decide +kernel⟩
theorem ko_X3_nextToPlace : KO yX3_nextToPlace cX3_nextToPlace 5 (some .int) 1 := ⟨gw_at 1213 (by decide +kernel) rfl, gw_at 136 (by decide +kernel) rfl, by decide +kernel⟩
theorem ko_X3_placeStaying : KO yX3_placeStaying cX3_placeStaying 5 none 1 := ⟨gw_at 1209 (by decide +kernel) rfl, gw_at 136 (by decide +kernel) rfl, by decide +kernel⟩
theorem ko_X4_init : KO yX4_init cX4_init 1 none 0 := ⟨gw_at 290 (by decide +kernel) rfl, gw_at 134 (by decide +kernel) rfl, by decide +kernel⟩
theorem ko_X4_add : KO yX4_add cX4_add 4 (some .int) 3 := ⟨gw_at 1147 (by decide +kernel) rfl, gw_at 134 (by decide +kernel) rfl, by decide +kernel⟩
theorem ko_X4_copyFrom : KO yX4_copyFrom cX4_copyFrom 2 none 1 := ⟨gw_at 646 (by decide +kernel) rfl, gw_at 134 (by decide +kernel) rfl, by decide +kernel⟩
theorem ko_X4_expireBefore : KO yX4_expireBefore cX4_expireBefore 3 none 1 := ⟨gw_at 1114 (by decide +kernel) rfl, gw_at 134 (by decide +kernel) rfl, by decide +kernel⟩
theorem ko_X4_isBetter : KO yX4_isBetter cX4_isBetter 3 (some .boolean) 2 := ⟨gw_at 1188 (by decide +kernel) rfl, gw_at 134 (by decide +kernel) rfl, by decide +kernel⟩
theorem ko_X5_init : KO yX5_init cX5_init 1 none 0 := ⟨gw_at 216 (by decide +kernel) rfl, gw_at 132 (by decide +kernel) rfl, by decide +kernel⟩
theorem ko_X5_add : KO yX5_add cX5_add 6 (some .int) 5 := ⟨gw_at 607 (by decide +kernel) rfl, gw_at 132 (by decide +kernel) rfl, by decide +kernel⟩
theorem ko_X5_copyFrom : KO yX5_copyFrom cX5_copyFrom 2 none 1 := ⟨gw_at 636 (by decide +kernel) rfl, gw_at 132 (by decide +kernel) rfl, by decide +kernel⟩
theorem ko_X5_latestWith : KO yX5_latestWith cX5_latestWith 4 (some .int) 2 := ⟨gw_at 817 (by decide +kernel) rfl, gw_at 132 (by decide +kernel) rfl, by decide +kernel⟩
theorem ko_X5_minimumOn : KO yX5_minimumOn cX5_minimumOn 4 (some .int) 2 := ⟨gw_at 813 (by decide +kernel) rfl, gw_at 132 (by decide +kernel) rfl, by decide +kernel⟩
theorem ko_X5_priceOfNights : KO yX5_priceOfNights cX5_priceOfNights 6 (some .int) 3 := ⟨gw_at 939 (by decide +kernel) rfl, gw_at 132 (by decide +kernel) rfl, by decide +kernel⟩
theorem ko_X5_priceOn : KO yX5_priceOn cX5_priceOn 4 (some .int) 2 := ⟨gw_at 828 (by decide +kernel) rfl, gw_at 132 (by decide +kernel) rfl, by decide +kernel⟩
theorem ko_X6_init : KO yX6_init cX6_init 3 none 2 := ⟨gw_at 405 (by decide +kernel) rfl, gw_at 137 (by decide +kernel) rfl, by decide +kernel⟩
theorem ko_X6_fail : KO yX6_fail cX6_fail 2 (some .boolean) 1 := ⟨gw_at 573 (by decide +kernel) rfl, gw_at 137 (by decide +kernel) rfl, by decide +kernel⟩
theorem ko_X6_failAt : KO yX6_failAt cX6_failAt 3 (some .boolean) 2 := ⟨gw_at 577 (by decide +kernel) rfl, gw_at 137 (by decide +kernel) rfl, by decide +kernel⟩
theorem ko_X6_isDigit : KO yX6_isDigit cX6_isDigit 1 (some .boolean) 1 := ⟨gw_at 507 (by decide +kernel) rfl, gw_at 137 (by decide +kernel) rfl, by decide +kernel⟩
theorem ko_X6_isLetter : KO yX6_isLetter cX6_isLetter 1 (some .boolean) 1 := ⟨gw_at 504 (by decide +kernel) rfl, gw_at 137 (by decide +kernel) rfl, by decide +kernel⟩
theorem ko_X6_isWord : KO yX6_isWord cX6_isWord 3 (some .boolean) 1 := ⟨gw_at 517 (by decide +kernel) rfl, gw_at 137 (by decide +kernel) rfl, by decide +kernel⟩
theorem ko_X6_read : KO yX6_read cX6_read 3 (some .int) 1 := ⟨gw_at 490 (by decide +kernel) rfl, gw_at 137 (by decide +kernel) rfl, by decide +kernel⟩
theorem ko_X6_readClass : KO yX6_readClass cX6_readClass 4 (some .boolean) 0 := ⟨gw_at 569 (by decide +kernel) rfl, gw_at 137 (by decide +kernel) rfl, by decide +kernel⟩
theorem ko_X6_readDay : KO yX6_readDay cX6_readDay 2 (some .boolean) 0 := ⟨gw_at 612 (by decide +kernel) rfl, gw_at 137 (by decide +kernel) rfl, by decide +kernel⟩
theorem ko_X6_readNumber : KO yX6_readNumber cX6_readNumber 4 (some .int) 2 := ⟨gw_at 581 (by decide +kernel) rfl, gw_at 137 (by decide +kernel) rfl, by decide +kernel⟩
theorem ko_X6_readSeason : KO yX6_readSeason cX6_readSeason 6 (some .boolean) 0 := ⟨gw_at 603 (by decide +kernel) rfl, gw_at 137 (by decide +kernel) rfl, by decide +kernel⟩
theorem ko_X6_readSemicolon : KO yX6_readSemicolon cX6_readSemicolon 1 (some .boolean) 0 := ⟨gw_at 589 (by decide +kernel) rfl, gw_at 137 (by decide +kernel) rfl, by decide +kernel⟩
theorem ko_X6_readSites : KO yX6_readSites cX6_readSites 4 (some .boolean) 0 := ⟨gw_at 594 (by decide +kernel) rfl, gw_at 137 (by decide +kernel) rfl, by decide +kernel⟩
theorem ko_X6_readStatement : KO yX6_readStatement cX6_readStatement 1 (some .boolean) 0 := ⟨gw_at 512 (by decide +kernel) rfl, gw_at 137 (by decide +kernel) rfl, by decide +kernel⟩
theorem ko_X6_step : KO yX6_step cX6_step 1 none 0 := ⟨gw_at 501 (by decide +kernel) rfl, gw_at 137 (by decide +kernel) rfl, by decide +kernel⟩
theorem ko_X7_init : KO yX7_init cX7_init 1 none 0 := ⟨gw_at 193 (by decide +kernel) rfl, gw_at 131 (by decide +kernel) rfl, by decide +kernel⟩
theorem ko_X7_add : KO yX7_add cX7_add 2 (some .int) 1 := ⟨gw_at 598 (by decide +kernel) rfl, gw_at 131 (by decide +kernel) rfl, by decide +kernel⟩
theorem ko_X7_copyFrom : KO yX7_copyFrom cX7_copyFrom 2 none 1 := ⟨gw_at 631 (by decide +kernel) rfl, gw_at 131 (by decide +kernel) rfl, by decide +kernel⟩
theorem ko_X7_countOpen : KO yX7_countOpen cX7_countOpen 5 (some .int) 2 := ⟨gw_at 843 (by decide +kernel) rfl, gw_at 131 (by decide +kernel) rfl, by decide +kernel⟩
theorem ko_X7_isClosed : KO yX7_isClosed cX7_isClosed 3 (some .boolean) 2 := ⟨gw_at 1050 (by decide +kernel) rfl, gw_at 131 (by decide +kernel) rfl, by decide +kernel⟩
theorem ko_X8_init : KO yX8_init cX8_init 2 none 1 := ⟨gw_at 364 (by decide +kernel) rfl, gw_at 135 (by decide +kernel) rfl, by decide +kernel⟩
theorem ko_X8_isFree : KO yX8_isFree cX8_isFree 4 (some .boolean) 1 := ⟨gw_at 918 (by decide +kernel) rfl, gw_at 135 (by decide +kernel) rfl, by decide +kernel⟩
theorem ko_X8_leavesWindow : KO yX8_leavesWindow cX8_leavesWindow 4 (some .boolean) 2 := ⟨gw_at 910 (by decide +kernel) rfl, gw_at 135 (by decide +kernel) rfl, by decide +kernel⟩
theorem ko_X8_obstacleToNights : KO yX8_obstacleToNights cX8_obstacleToNights 4 (some .int) 2 := ⟨gw_at 906 (by decide +kernel) rfl, gw_at 135 (by decide +kernel) rfl, by decide +kernel⟩
theorem ko_X8_obstacleToStay : KO yX8_obstacleToStay cX8_obstacleToStay 5 (some .int) 2 := ⟨gw_at 902 (by decide +kernel) rfl, gw_at 135 (by decide +kernel) rfl, by decide +kernel⟩
theorem ko_X8_turnTo : KO yX8_turnTo cX8_turnTo 2 none 1 := ⟨gw_at 895 (by decide +kernel) rfl, gw_at 135 (by decide +kernel) rfl, by decide +kernel⟩
theorem ko_X10_init : KO yX10_init cX10_init 1 none 0 := ⟨gw_at 1334 (by decide +kernel) rfl, gw_at 138 (by decide +kernel) rfl, by decide +kernel⟩
theorem ko_X10_addClass : KO yX10_addClass cX10_addClass 4 (some .int) 3 := ⟨gw_at 1402 (by decide +kernel) rfl, gw_at 138 (by decide +kernel) rfl, by decide +kernel⟩
theorem ko_X10_addSeason : KO yX10_addSeason cX10_addSeason 6 (some .int) 5 := ⟨gw_at 1429 (by decide +kernel) rfl, gw_at 138 (by decide +kernel) rfl, by decide +kernel⟩
theorem ko_X10_addSite : KO yX10_addSite cX10_addSite 2 (some .int) 1 := ⟨gw_at 1417 (by decide +kernel) rfl, gw_at 138 (by decide +kernel) rfl, by decide +kernel⟩
theorem ko_X10_advanceToken : KO yX10_advanceToken cX10_advanceToken 1 none 0 := ⟨gw_at 1839 (by decide +kernel) rfl, gw_at 138 (by decide +kernel) rfl, by decide +kernel⟩
theorem ko_X10_appendBooking : KO yX10_appendBooking cX10_appendBooking 5 (some .int) 3 := ⟨gw_at 1574 (by decide +kernel) rfl, gw_at 138 (by decide +kernel) rfl, by decide +kernel⟩
theorem ko_X10_appendClass : KO yX10_appendClass cX10_appendClass 5 (some .int) 3 := ⟨gw_at 1413 (by decide +kernel) rfl, gw_at 138 (by decide +kernel) rfl, by decide +kernel⟩
theorem ko_X10_appendRequest : KO yX10_appendRequest cX10_appendRequest 5 (some .int) 3 := ⟨gw_at 1690 (by decide +kernel) rfl, gw_at 138 (by decide +kernel) rfl, by decide +kernel⟩
theorem ko_X10_appendSeason : KO yX10_appendSeason cX10_appendSeason 7 (some .int) 5 := ⟨gw_at 1436 (by decide +kernel) rfl, gw_at 138 (by decide +kernel) rfl, by decide +kernel⟩
theorem ko_X10_appendSite : KO yX10_appendSite cX10_appendSite 3 (some .int) 1 := ⟨gw_at 1425 (by decide +kernel) rfl, gw_at 138 (by decide +kernel) rfl, by decide +kernel⟩
theorem ko_X10_appendText : KO yX10_appendText cX10_appendText 3 (some .int) 1 := ⟨gw_at 1789 (by decide +kernel) rfl, gw_at 138 (by decide +kernel) rfl, by decide +kernel⟩
theorem ko_X10_arrival : KO yX10_arrival cX10_arrival 2 (some .int) 1 := ⟨gw_at 1602 (by decide +kernel) rfl, gw_at 138 (by decide +kernel) rfl, by decide +kernel⟩
theorem ko_X10_available : KO yX10_available cX10_available 3 (some .int) 2 := ⟨gw_at 1529 (by decide +kernel) rfl, gw_at 138 (by decide +kernel) rfl, by decide +kernel⟩
theorem ko_X10_availableOf : KO yX10_availableOf cX10_availableOf 3 (some .int) 2 := ⟨gw_at 1533 (by decide +kernel) rfl, gw_at 138 (by decide +kernel) rfl, by decide +kernel⟩
theorem ko_X10_book : KO yX10_book cX10_book 4 (some .int) 3 := ⟨gw_at 1570 (by decide +kernel) rfl, gw_at 138 (by decide +kernel) rfl, by decide +kernel⟩
theorem ko_X10_booking : KO yX10_booking cX10_booking 3 (some .int) 2 := ⟨gw_at 1521 (by decide +kernel) rfl, gw_at 138 (by decide +kernel) rfl, by decide +kernel⟩
theorem ko_X10_bookingClass : KO yX10_bookingClass cX10_bookingClass 2 (some .int) 1 := ⟨gw_at 1598 (by decide +kernel) rfl, gw_at 138 (by decide +kernel) rfl, by decide +kernel⟩
theorem ko_X10_bookingCount : KO yX10_bookingCount cX10_bookingCount 1 (some .int) 0 := ⟨gw_at 1582 (by decide +kernel) rfl, gw_at 138 (by decide +kernel) rfl, by decide +kernel⟩
theorem ko_X10_bookingField : KO yX10_bookingField cX10_bookingField 3 (some .int) 2 := ⟨gw_at 1590 (by decide +kernel) rfl, gw_at 138 (by decide +kernel) rfl, by decide +kernel⟩
theorem ko_X10_bookingOf : KO yX10_bookingOf cX10_bookingOf 2 (some .int) 1 := ⟨gw_at 1702 (by decide +kernel) rfl, gw_at 138 (by decide +kernel) rfl, by decide +kernel⟩
theorem ko_X10_bookingState : KO yX10_bookingState cX10_bookingState 2 (some .int) 1 := ⟨gw_at 1586 (by decide +kernel) rfl, gw_at 138 (by decide +kernel) rfl, by decide +kernel⟩
theorem ko_X10_busiestNight : KO yX10_busiestNight cX10_busiestNight 6 (some .int) 3 := ⟨gw_at 1781 (by decide +kernel) rfl, gw_at 138 (by decide +kernel) rfl, by decide +kernel⟩
theorem ko_X10_byteAt : KO yX10_byteAt cX10_byteAt 2 (some .int) 1 := ⟨gw_at 1808 (by decide +kernel) rfl, gw_at 138 (by decide +kernel) rfl, by decide +kernel⟩
theorem ko_X10_cancel : KO yX10_cancel cX10_cancel 5 (some .int) 1 := ⟨gw_at 1618 (by decide +kernel) rfl, gw_at 138 (by decide +kernel) rfl, by decide +kernel⟩
theorem ko_X10_capacity : KO yX10_capacity cX10_capacity 3 (some .int) 2 := ⟨gw_at 1484 (by decide +kernel) rfl, gw_at 138 (by decide +kernel) rfl, by decide +kernel⟩
theorem ko_X10_capacityOf : KO yX10_capacityOf cX10_capacityOf 5 (some .int) 2 := ⟨gw_at 1488 (by decide +kernel) rfl, gw_at 138 (by decide +kernel) rfl, by decide +kernel⟩
theorem ko_X10_cheapestArrival : KO yX10_cheapestArrival cX10_cheapestArrival 9 (some .int) 4 := ⟨gw_at 1558 (by decide +kernel) rfl, gw_at 138 (by decide +kernel) rfl, by decide +kernel⟩
theorem ko_X10_checkIn : KO yX10_checkIn cX10_checkIn 5 (some .int) 2 := ⟨gw_at 1638 (by decide +kernel) rfl, gw_at 138 (by decide +kernel) rfl, by decide +kernel⟩
theorem ko_X10_classCount : KO yX10_classCount cX10_classCount 1 (some .int) 0 := ⟨gw_at 1440 (by decide +kernel) rfl, gw_at 138 (by decide +kernel) rfl, by decide +kernel⟩
theorem ko_X10_classOf : KO yX10_classOf cX10_classOf 2 (some .int) 1 := ⟨gw_at 1448 (by decide +kernel) rfl, gw_at 138 (by decide +kernel) rfl, by decide +kernel⟩
theorem ko_X10_close : KO yX10_close cX10_close 3 none 2 := ⟨gw_at 1674 (by decide +kernel) rfl, gw_at 138 (by decide +kernel) rfl, by decide +kernel⟩
theorem ko_X10_commonDivisor : KO yX10_commonDivisor cX10_commonDivisor 5 (some .int) 2 := ⟨gw_at 1761 (by decide +kernel) rfl, gw_at 138 (by decide +kernel) rfl, by decide +kernel⟩
theorem ko_X10_copy : KO yX10_copy cX10_copy 5 none 4 := ⟨gw_at 1800 (by decide +kernel) rfl, gw_at 138 (by decide +kernel) rfl, by decide +kernel⟩
theorem ko_X10_cost : KO yX10_cost cX10_cost 2 (some .int) 1 := ⟨gw_at 1610 (by decide +kernel) rfl, gw_at 138 (by decide +kernel) rfl, by decide +kernel⟩
theorem ko_X10_dearestBooking : KO yX10_dearestBooking cX10_dearestBooking 5 (some .int) 1 := ⟨gw_at 1773 (by decide +kernel) rfl, gw_at 138 (by decide +kernel) rfl, by decide +kernel⟩
theorem ko_X10_departEarly : KO yX10_departEarly cX10_departEarly 5 (some .int) 1 := ⟨gw_at 1646 (by decide +kernel) rfl, gw_at 138 (by decide +kernel) rfl, by decide +kernel⟩
theorem ko_X10_departure : KO yX10_departure cX10_departure 2 (some .int) 1 := ⟨gw_at 1606 (by decide +kernel) rfl, gw_at 138 (by decide +kernel) rfl, by decide +kernel⟩
theorem ko_X10_endDay : KO yX10_endDay cX10_endDay 5 none 0 := ⟨gw_at 1658 (by decide +kernel) rfl, gw_at 138 (by decide +kernel) rfl, by decide +kernel⟩
theorem ko_X10_endDays : KO yX10_endDays cX10_endDays 3 (some .int) 1 := ⟨gw_at 1654 (by decide +kernel) rfl, gw_at 138 (by decide +kernel) rfl, by decide +kernel⟩
theorem ko_X10_errorCode : KO yX10_errorCode cX10_errorCode 1 (some .int) 0 := ⟨gw_at 1858 (by decide +kernel) rfl, gw_at 138 (by decide +kernel) rfl, by decide +kernel⟩
theorem ko_X10_errorPosition : KO yX10_errorPosition cX10_errorPosition 1 (some .int) 0 := ⟨gw_at 1862 (by decide +kernel) rfl, gw_at 138 (by decide +kernel) rfl, by decide +kernel⟩
theorem ko_X10_expected : KO yX10_expected cX10_expected 9 (some .int) 3 := ⟨gw_at 1769 (by decide +kernel) rfl, gw_at 138 (by decide +kernel) rfl, by decide +kernel⟩
theorem ko_X10_extend : KO yX10_extend cX10_extend 6 (some .int) 2 := ⟨gw_at 1650 (by decide +kernel) rfl, gw_at 138 (by decide +kernel) rfl, by decide +kernel⟩
theorem ko_X10_fail : KO yX10_fail cX10_fail 2 (some .int) 1 := ⟨gw_at 1409 (by decide +kernel) rfl, gw_at 138 (by decide +kernel) rfl, by decide +kernel⟩
theorem ko_X10_fill : KO yX10_fill cX10_fill 5 (some .int) 1 := ⟨gw_at 1710 (by decide +kernel) rfl, gw_at 138 (by decide +kernel) rfl, by decide +kernel⟩
theorem ko_X10_freeSite : KO yX10_freeSite cX10_freeSite 7 (some .int) 2 := ⟨gw_at 1738 (by decide +kernel) rfl, gw_at 138 (by decide +kernel) rfl, by decide +kernel⟩
theorem ko_X10_gapNights : KO yX10_gapNights cX10_gapNights 3 (some .int) 2 := ⟨gw_at 1742 (by decide +kernel) rfl, gw_at 138 (by decide +kernel) rfl, by decide +kernel⟩
theorem ko_X10_hasSpareSite : KO yX10_hasSpareSite cX10_hasSpareSite 5 (some .boolean) 2 := ⟨gw_at 1678 (by decide +kernel) rfl, gw_at 138 (by decide +kernel) rfl, by decide +kernel⟩
theorem ko_X10_isActive : KO yX10_isActive cX10_isActive 2 (some .boolean) 1 := ⟨gw_at 1525 (by decide +kernel) rfl, gw_at 138 (by decide +kernel) rfl, by decide +kernel⟩
theorem ko_X10_isAhead : KO yX10_isAhead cX10_isAhead 3 (some .boolean) 2 := ⟨gw_at 1718 (by decide +kernel) rfl, gw_at 138 (by decide +kernel) rfl, by decide +kernel⟩
theorem ko_X10_isBetween : KO yX10_isBetween cX10_isBetween 3 (some .boolean) 3 := ⟨gw_at 1405 (by decide +kernel) rfl, gw_at 138 (by decide +kernel) rfl, by decide +kernel⟩
theorem ko_X10_isBooking : KO yX10_isBooking cX10_isBooking 2 (some .boolean) 1 := ⟨gw_at 1594 (by decide +kernel) rfl, gw_at 138 (by decide +kernel) rfl, by decide +kernel⟩
theorem ko_X10_isClass : KO yX10_isClass cX10_isClass 2 (some .boolean) 1 := ⟨gw_at 1421 (by decide +kernel) rfl, gw_at 138 (by decide +kernel) rfl, by decide +kernel⟩
theorem ko_X10_isDay : KO yX10_isDay cX10_isDay 1 (some .boolean) 1 := ⟨gw_at 1432 (by decide +kernel) rfl, gw_at 138 (by decide +kernel) rfl, by decide +kernel⟩
theorem ko_X10_isDigit : KO yX10_isDigit cX10_isDigit 1 (some .boolean) 1 := ⟨gw_at 1816 (by decide +kernel) rfl, gw_at 138 (by decide +kernel) rfl, by decide +kernel⟩
theorem ko_X10_isLetter : KO yX10_isLetter cX10_isLetter 1 (some .boolean) 1 := ⟨gw_at 1811 (by decide +kernel) rfl, gw_at 138 (by decide +kernel) rfl, by decide +kernel⟩
theorem ko_X10_isNight : KO yX10_isNight cX10_isNight 2 (some .boolean) 1 := ⟨gw_at 1496 (by decide +kernel) rfl, gw_at 138 (by decide +kernel) rfl, by decide +kernel⟩
theorem ko_X10_isOccupied : KO yX10_isOccupied cX10_isOccupied 4 (some .boolean) 1 := ⟨gw_at 1634 (by decide +kernel) rfl, gw_at 138 (by decide +kernel) rfl, by decide +kernel⟩
theorem ko_X10_isOpenOn : KO yX10_isOpenOn cX10_isOpenOn 3 (some .boolean) 2 := ⟨gw_at 1492 (by decide +kernel) rfl, gw_at 138 (by decide +kernel) rfl, by decide +kernel⟩
theorem ko_X10_isRequest : KO yX10_isRequest cX10_isRequest 2 (some .boolean) 1 := ⟨gw_at 1698 (by decide +kernel) rfl, gw_at 138 (by decide +kernel) rfl, by decide +kernel⟩
theorem ko_X10_isSite : KO yX10_isSite cX10_isSite 2 (some .boolean) 1 := ⟨gw_at 1452 (by decide +kernel) rfl, gw_at 138 (by decide +kernel) rfl, by decide +kernel⟩
theorem ko_X10_isStay : KO yX10_isStay cX10_isStay 1 (some .boolean) 1 := ⟨gw_at 1541 (by decide +kernel) rfl, gw_at 138 (by decide +kernel) rfl, by decide +kernel⟩
theorem ko_X10_isVacant : KO yX10_isVacant cX10_isVacant 2 (some .boolean) 1 := ⟨gw_at 1630 (by decide +kernel) rfl, gw_at 138 (by decide +kernel) rfl, by decide +kernel⟩
theorem ko_X10_isWord : KO yX10_isWord cX10_isWord 5 (some .boolean) 1 := ⟨gw_at 1825 (by decide +kernel) rfl, gw_at 138 (by decide +kernel) rfl, by decide +kernel⟩
theorem ko_X10_load : KO yX10_load cX10_load 2 (some .int) 0 := ⟨gw_at 1797 (by decide +kernel) rfl, gw_at 138 (by decide +kernel) rfl, by decide +kernel⟩
theorem ko_X10_longestStay : KO yX10_longestStay cX10_longestStay 5 (some .int) 2 := ⟨gw_at 1554 (by decide +kernel) rfl, gw_at 138 (by decide +kernel) rfl, by decide +kernel⟩
theorem ko_X10_minimum : KO yX10_minimum cX10_minimum 3 (some .int) 2 := ⟨gw_at 1460 (by decide +kernel) rfl, gw_at 138 (by decide +kernel) rfl, by decide +kernel⟩
theorem ko_X10_minimumOf : KO yX10_minimumOf cX10_minimumOf 4 (some .int) 2 := ⟨gw_at 1464 (by decide +kernel) rfl, gw_at 138 (by decide +kernel) rfl, by decide +kernel⟩
theorem ko_X10_move : KO yX10_move cX10_move 4 (some .int) 2 := ⟨gw_at 1642 (by decide +kernel) rfl, gw_at 138 (by decide +kernel) rfl, by decide +kernel⟩
theorem ko_X10_nextBooking : KO yX10_nextBooking cX10_nextBooking 5 (some .int) 1 := ⟨gw_at 1734 (by decide +kernel) rfl, gw_at 138 (by decide +kernel) rfl, by decide +kernel⟩
theorem ko_X10_nextGap : KO yX10_nextGap cX10_nextGap 4 (some .int) 2 := ⟨gw_at 1566 (by decide +kernel) rfl, gw_at 138 (by decide +kernel) rfl, by decide +kernel⟩
theorem ko_X10_nextRequest : KO yX10_nextRequest cX10_nextRequest 5 (some .int) 1 := ⟨gw_at 1714 (by decide +kernel) rfl, gw_at 138 (by decide +kernel) rfl, by decide +kernel⟩
theorem ko_X10_nextToken : KO yX10_nextToken cX10_nextToken 2 none 0 := ⟨gw_at 1804 (by decide +kernel) rfl, gw_at 138 (by decide +kernel) rfl, by decide +kernel⟩
theorem ko_X10_nightsObstacle : KO yX10_nightsObstacle cX10_nightsObstacle 7 (some .int) 3 := ⟨gw_at 1549 (by decide +kernel) rfl, gw_at 138 (by decide +kernel) rfl, by decide +kernel⟩
theorem ko_X10_nightsOf : KO yX10_nightsOf cX10_nightsOf 2 (some .long) 1 := ⟨gw_at 1777 (by decide +kernel) rfl, gw_at 138 (by decide +kernel) rfl, by decide +kernel⟩
theorem ko_X10_obstacle : KO yX10_obstacle cX10_obstacle 4 (some .int) 3 := ⟨gw_at 1538 (by decide +kernel) rfl, gw_at 138 (by decide +kernel) rfl, by decide +kernel⟩
theorem ko_X10_obstacleOf : KO yX10_obstacleOf cX10_obstacleOf 6 (some .int) 3 := ⟨gw_at 1545 (by decide +kernel) rfl, gw_at 138 (by decide +kernel) rfl, by decide +kernel⟩
theorem ko_X10_occupancy : KO yX10_occupancy cX10_occupancy 8 (some .int) 4 := ⟨gw_at 1758 (by decide +kernel) rfl, gw_at 138 (by decide +kernel) rfl, by decide +kernel⟩
theorem ko_X10_occupancyDenominator : KO yX10_occupancyDenominator cX10_occupancyDenominator 4 (some .int) 3 := ⟨gw_at 1765 (by decide +kernel) rfl, gw_at 138 (by decide +kernel) rfl, by decide +kernel⟩
theorem ko_X10_occupancyNumerator : KO yX10_occupancyNumerator cX10_occupancyNumerator 4 (some .int) 3 := ⟨gw_at 1754 (by decide +kernel) rfl, gw_at 138 (by decide +kernel) rfl, by decide +kernel⟩
theorem ko_X10_open : KO yX10_open cX10_open 3 (some .int) 1 := ⟨gw_at 1682 (by decide +kernel) rfl, gw_at 138 (by decide +kernel) rfl, by decide +kernel⟩
theorem ko_X10_orphanNights : KO yX10_orphanNights cX10_orphanNights 3 (some .int) 2 := ⟨gw_at 1750 (by decide +kernel) rfl, gw_at 138 (by decide +kernel) rfl, by decide +kernel⟩
theorem ko_X10_parseClass : KO yX10_parseClass cX10_parseClass 5 none 0 := ⟨gw_at 1831 (by decide +kernel) rfl, gw_at 138 (by decide +kernel) rfl, by decide +kernel⟩
theorem ko_X10_parseNumber : KO yX10_parseNumber cX10_parseNumber 4 (some .int) 2 := ⟨gw_at 1843 (by decide +kernel) rfl, gw_at 138 (by decide +kernel) rfl, by decide +kernel⟩
theorem ko_X10_parseSeason : KO yX10_parseSeason cX10_parseSeason 7 none 0 := ⟨gw_at 1853 (by decide +kernel) rfl, gw_at 138 (by decide +kernel) rfl, by decide +kernel⟩
theorem ko_X10_parseSites : KO yX10_parseSites cX10_parseSites 4 none 0 := ⟨gw_at 1848 (by decide +kernel) rfl, gw_at 138 (by decide +kernel) rfl, by decide +kernel⟩
theorem ko_X10_parseStatement : KO yX10_parseStatement cX10_parseStatement 2 none 0 := ⟨gw_at 1820 (by decide +kernel) rfl, gw_at 138 (by decide +kernel) rfl, by decide +kernel⟩
theorem ko_X10_place : KO yX10_place cX10_place 5 none 2 := ⟨gw_at 1730 (by decide +kernel) rfl, gw_at 138 (by decide +kernel) rfl, by decide +kernel⟩
theorem ko_X10_plan : KO yX10_plan cX10_plan 4 none 2 := ⟨gw_at 1726 (by decide +kernel) rfl, gw_at 138 (by decide +kernel) rfl, by decide +kernel⟩
theorem ko_X10_planSite : KO yX10_planSite cX10_planSite 3 (some .int) 2 := ⟨gw_at 1722 (by decide +kernel) rfl, gw_at 138 (by decide +kernel) rfl, by decide +kernel⟩
theorem ko_X10_price : KO yX10_price cX10_price 3 (some .int) 2 := ⟨gw_at 1476 (by decide +kernel) rfl, gw_at 138 (by decide +kernel) rfl, by decide +kernel⟩
theorem ko_X10_priceOf : KO yX10_priceOf cX10_priceOf 4 (some .int) 2 := ⟨gw_at 1480 (by decide +kernel) rfl, gw_at 138 (by decide +kernel) rfl, by decide +kernel⟩
theorem ko_X10_pricesOf : KO yX10_pricesOf cX10_pricesOf 6 (some .int) 3 := ⟨gw_at 1562 (by decide +kernel) rfl, gw_at 138 (by decide +kernel) rfl, by decide +kernel⟩
theorem ko_X10_released : KO yX10_released cX10_released 3 (some .int) 2 := ⟨gw_at 1500 (by decide +kernel) rfl, gw_at 138 (by decide +kernel) rfl, by decide +kernel⟩
theorem ko_X10_releasedOf : KO yX10_releasedOf cX10_releasedOf 4 (some .int) 2 := ⟨gw_at 1504 (by decide +kernel) rfl, gw_at 138 (by decide +kernel) rfl, by decide +kernel⟩
theorem ko_X10_request : KO yX10_request cX10_request 4 (some .int) 3 := ⟨gw_at 1686 (by decide +kernel) rfl, gw_at 138 (by decide +kernel) rfl, by decide +kernel⟩
theorem ko_X10_requestField : KO yX10_requestField cX10_requestField 3 (some .int) 2 := ⟨gw_at 1662 (by decide +kernel) rfl, gw_at 138 (by decide +kernel) rfl, by decide +kernel⟩
theorem ko_X10_requestState : KO yX10_requestState cX10_requestState 2 (some .int) 1 := ⟨gw_at 1694 (by decide +kernel) rfl, gw_at 138 (by decide +kernel) rfl, by decide +kernel⟩
theorem ko_X10_require : KO yX10_require cX10_require 3 none 2 := ⟨gw_at 1835 (by decide +kernel) rfl, gw_at 138 (by decide +kernel) rfl, by decide +kernel⟩
theorem ko_X10_restore : KO yX10_restore cX10_restore 2 none 1 := ⟨gw_at 1870 (by decide +kernel) rfl, gw_at 138 (by decide +kernel) rfl, by decide +kernel⟩
theorem ko_X10_revenue : KO yX10_revenue cX10_revenue 3 (some .int) 0 := ⟨gw_at 1785 (by decide +kernel) rfl, gw_at 138 (by decide +kernel) rfl, by decide +kernel⟩
theorem ko_X10_save : KO yX10_save cX10_save 2 none 1 := ⟨gw_at 1866 (by decide +kernel) rfl, gw_at 138 (by decide +kernel) rfl, by decide +kernel⟩
theorem ko_X10_season : KO yX10_season cX10_season 3 (some .int) 2 := ⟨gw_at 1472 (by decide +kernel) rfl, gw_at 138 (by decide +kernel) rfl, by decide +kernel⟩
theorem ko_X10_seasonOf : KO yX10_seasonOf cX10_seasonOf 6 (some .int) 2 := ⟨gw_at 1468 (by decide +kernel) rfl, gw_at 138 (by decide +kernel) rfl, by decide +kernel⟩
theorem ko_X10_setBooking : KO yX10_setBooking cX10_setBooking 4 none 3 := ⟨gw_at 1578 (by decide +kernel) rfl, gw_at 138 (by decide +kernel) rfl, by decide +kernel⟩
theorem ko_X10_setRequest : KO yX10_setRequest cX10_setRequest 4 none 3 := ⟨gw_at 1666 (by decide +kernel) rfl, gw_at 138 (by decide +kernel) rfl, by decide +kernel⟩
theorem ko_X10_site : KO yX10_site cX10_site 3 (some .int) 2 := ⟨gw_at 1456 (by decide +kernel) rfl, gw_at 138 (by decide +kernel) rfl, by decide +kernel⟩
theorem ko_X10_siteClass : KO yX10_siteClass cX10_siteClass 3 (some .int) 2 := ⟨gw_at 1508 (by decide +kernel) rfl, gw_at 138 (by decide +kernel) rfl, by decide +kernel⟩
theorem ko_X10_siteCount : KO yX10_siteCount cX10_siteCount 1 (some .int) 0 := ⟨gw_at 1444 (by decide +kernel) rfl, gw_at 138 (by decide +kernel) rfl, by decide +kernel⟩
theorem ko_X10_siteOf : KO yX10_siteOf cX10_siteOf 2 (some .int) 1 := ⟨gw_at 1614 (by decide +kernel) rfl, gw_at 138 (by decide +kernel) rfl, by decide +kernel⟩
theorem ko_X10_taken : KO yX10_taken cX10_taken 3 (some .int) 2 := ⟨gw_at 1513 (by decide +kernel) rfl, gw_at 138 (by decide +kernel) rfl, by decide +kernel⟩
theorem ko_X10_takenOf : KO yX10_takenOf cX10_takenOf 6 (some .int) 2 := ⟨gw_at 1517 (by decide +kernel) rfl, gw_at 138 (by decide +kernel) rfl, by decide +kernel⟩
theorem ko_X10_thrown : KO yX10_thrown cX10_thrown 1 (some .int) 0 := ⟨gw_at 1398 (by decide +kernel) rfl, gw_at 138 (by decide +kernel) rfl, by decide +kernel⟩
theorem ko_X10_today : KO yX10_today cX10_today 1 (some .int) 0 := ⟨gw_at 1670 (by decide +kernel) rfl, gw_at 138 (by decide +kernel) rfl, by decide +kernel⟩
theorem ko_X10_truncateText : KO yX10_truncateText cX10_truncateText 2 (some .int) 1 := ⟨gw_at 1793 (by decide +kernel) rfl, gw_at 138 (by decide +kernel) rfl, by decide +kernel⟩
theorem ko_X10_vacantSite : KO yX10_vacantSite cX10_vacantSite 2 (some .int) 1 := ⟨gw_at 1622 (by decide +kernel) rfl, gw_at 138 (by decide +kernel) rfl, by decide +kernel⟩
theorem ko_X10_vacantSiteOf : KO yX10_vacantSiteOf cX10_vacantSiteOf 3 (some .int) 1 := ⟨gw_at 1626 (by decide +kernel) rfl, gw_at 138 (by decide +kernel) rfl, by decide +kernel⟩
theorem ko_X10_withdraw : KO yX10_withdraw cX10_withdraw 2 none 1 := ⟨gw_at 1706 (by decide +kernel) rfl, gw_at 138 (by decide +kernel) rfl, by decide +kernel⟩
theorem ko_X10_wrongPlan : KO yX10_wrongPlan cX10_wrongPlan 3 (some .int) 2 := ⟨gw_at 1746 (by decide +kernel) rfl, gw_at 138 (by decide +kernel) rfl, by decide +kernel⟩
theorem ko_J0_charAt_5068e : KO yJ0_charAt_5068e cJ0_charAt_5068e 2 (some .char) 1 := ⟨gw_at 531 (by decide +kernel) rfl, gw_at 147 (by decide +kernel) rfl, by decide +kernel⟩
theorem ko_J0_checkIndex_df160 : KO yJ0_checkIndex_df160 cJ0_checkIndex_df160 2 none 2 := ⟨gw_at 541 (by decide +kernel) rfl, gw_at 147 (by decide +kernel) rfl, by decide +kernel⟩
theorem ko_J0_coder_7d493 : KO yJ0_coder_7d493 cJ0_coder_7d493 1 (some .byte) 0 := ⟨gw_at 525 (by decide +kernel) rfl, gw_at 147 (by decide +kernel) rfl, by decide +kernel⟩
theorem ko_J0_isLatin1_aae02 : KO yJ0_isLatin1_aae02 cJ0_isLatin1_aae02 1 (some .boolean) 0 := ⟨gw_at 535 (by decide +kernel) rfl, gw_at 147 (by decide +kernel) rfl, by decide +kernel⟩
theorem ko_J0_length_8abf5 : KO yJ0_length_8abf5 cJ0_length_8abf5 1 (some .int) 0 := ⟨gw_at 521 (by decide +kernel) rfl, gw_at 147 (by decide +kernel) rfl, by decide +kernel⟩
theorem ko_J1_charAt_3b067 : KO yJ1_charAt_3b067 cJ1_charAt_3b067 2 (some .char) 2 := ⟨gw_at 538 (by decide +kernel) rfl, gw_at 148 (by decide +kernel) rfl, by decide +kernel⟩
theorem ko_J2_charAt_3b067 : KO yJ2_charAt_3b067 cJ2_charAt_3b067 2 (some .char) 2 := ⟨gw_at 549 (by decide +kernel) rfl, gw_at 150 (by decide +kernel) rfl, by decide +kernel⟩
theorem ko_J2_checkIndex_2214a : KO yJ2_checkIndex_2214a cJ2_checkIndex_2214a 2 none 2 := ⟨gw_at 552 (by decide +kernel) rfl, gw_at 150 (by decide +kernel) rfl, by decide +kernel⟩
theorem ko_J2_getChar_3b067 : KO yJ2_getChar_3b067 cJ2_getChar_3b067 2 (some .char) 2 := ⟨gw_at 559 (by decide +kernel) rfl, gw_at 150 (by decide +kernel) rfl, by decide +kernel⟩
theorem ko_J2_length_9d52b : KO yJ2_length_9d52b cJ2_length_9d52b 1 (some .int) 1 := ⟨gw_at 555 (by decide +kernel) rfl, gw_at 150 (by decide +kernel) rfl, by decide +kernel⟩
theorem ko_J7_fill_53178 : KO yJ7_fill_53178 cJ7_fill_53178 4 none 2 := ⟨gw_at 898 (by decide +kernel) rfl, gw_at 146 (by decide +kernel) rfl, by decide +kernel⟩
theorem ki_X9_9 : KI RX9 9 yX1_init := ⟨Or.inr ⟨"Campground", gw_at 162 (by decide +kernel) rfl⟩, rfl, gw_at 163 (by decide +kernel) rfl⟩
theorem ki_X9_25 : KI RX9 25 yX8_init := ⟨Or.inr ⟨"Campground", gw_at 362 (by decide +kernel) rfl⟩, rfl, gw_at 363 (by decide +kernel) rfl⟩
theorem ki_X9_34 : KI RX9 34 yX3_init := ⟨Or.inr ⟨"Campground", gw_at 378 (by decide +kernel) rfl⟩, rfl, gw_at 379 (by decide +kernel) rfl⟩
theorem ki_X9_45 : KI RX9 45 yX6_init := ⟨Or.inr ⟨"Campground", gw_at 403 (by decide +kernel) rfl⟩, rfl, gw_at 404 (by decide +kernel) rfl⟩
theorem ks_X9_56 : KS RX9 56 yX9_checkRange := ⟨Or.inl (gw_at 665 (by decide +kernel) rfl), gw_at 666 (by decide +kernel) rfl⟩
theorem kw_X9_56 : Cond.methodLink RX9 56 yX9_checkRange ∈ GW := gw_at 665 (by decide +kernel) rfl
theorem kv_X9_76 : KV RX9 76 yX2_add := ⟨Or.inr ⟨"Campground", gw_at 751 (by decide +kernel) rfl⟩, gw_at 584 (by decide +kernel) rfl, gw_at 9 (by decide +kernel) rfl⟩
theorem kv_X9_80 : KV RX9 80 yX9_checkClass := ⟨Or.inl (gw_at 760 (by decide +kernel) rfl), gw_at 762 (by decide +kernel) rfl, gw_at 23 (by decide +kernel) rfl⟩
theorem kw_X9_80 : Cond.methodLink RX9 80 yX9_checkClass ∈ GW := gw_at 760 (by decide +kernel) rfl
theorem kv_X9_93 : KV RX9 93 yX7_add := ⟨Or.inr ⟨"Campground", gw_at 781 (by decide +kernel) rfl⟩, gw_at 597 (by decide +kernel) rfl, gw_at 12 (by decide +kernel) rfl⟩
theorem kv_X9_105 : KV RX9 105 yX5_add := ⟨Or.inr ⟨"Campground", gw_at 790 (by decide +kernel) rfl⟩, gw_at 606 (by decide +kernel) rfl, gw_at 14 (by decide +kernel) rfl⟩
theorem kv_X9_108 : KV RX9 108 yX9_checkSite := ⟨Or.inl (gw_at 798 (by decide +kernel) rfl), gw_at 800 (by decide +kernel) rfl, gw_at 24 (by decide +kernel) rfl⟩
theorem kw_X9_108 : Cond.methodLink RX9 108 yX9_checkSite ∈ GW := gw_at 798 (by decide +kernel) rfl
theorem kv_X9_115 : KV RX9 115 yX5_minimumOn := ⟨Or.inr ⟨"Campground", gw_at 810 (by decide +kernel) rfl⟩, gw_at 812 (by decide +kernel) rfl, gw_at 25 (by decide +kernel) rfl⟩
theorem kv_X9_119 : KV RX9 119 yX5_priceOn := ⟨Or.inr ⟨"Campground", gw_at 825 (by decide +kernel) rfl⟩, gw_at 827 (by decide +kernel) rfl, gw_at 27 (by decide +kernel) rfl⟩
theorem kv_X9_122 : KV RX9 122 yX1_capacityOn := ⟨Or.inr ⟨"Campground", gw_at 836 (by decide +kernel) rfl⟩, gw_at 838 (by decide +kernel) rfl, gw_at 28 (by decide +kernel) rfl⟩
theorem kv_X9_125 : KV RX9 125 yX1_releasedOn := ⟨Or.inr ⟨"Campground", gw_at 851 (by decide +kernel) rfl⟩, gw_at 853 (by decide +kernel) rfl, gw_at 30 (by decide +kernel) rfl⟩
theorem kv_X9_132 : KV RX9 132 yX0_takenOn := ⟨Or.inr ⟨"Campground", gw_at 867 (by decide +kernel) rfl⟩, gw_at 869 (by decide +kernel) rfl, gw_at 32 (by decide +kernel) rfl⟩
theorem km_X9_137 : KMax RX9 137 := ⟨gw_at 882 (by decide +kernel) rfl, gw_at 883 (by decide +kernel) rfl, gw_at 145 (by decide +kernel) rfl, gw_at 884 (by decide +kernel) rfl⟩
theorem kv_X9_142 : KV RX9 142 yX8_turnTo := ⟨Or.inr ⟨"Campground", gw_at 892 (by decide +kernel) rfl⟩, gw_at 894 (by decide +kernel) rfl, gw_at 34 (by decide +kernel) rfl⟩
theorem kv_X9_145 : KV RX9 145 yX8_obstacleToStay := ⟨Or.inr ⟨"Campground", gw_at 899 (by decide +kernel) rfl⟩, gw_at 901 (by decide +kernel) rfl, gw_at 35 (by decide +kernel) rfl⟩
theorem kv_X9_148 : KV RX9 148 yX5_priceOfNights := ⟨Or.inr ⟨"Campground", gw_at 936 (by decide +kernel) rfl⟩, gw_at 938 (by decide +kernel) rfl, gw_at 40 (by decide +kernel) rfl⟩
theorem kv_X9_151 : KV RX9 151 yX8_isFree := ⟨Or.inr ⟨"Campground", gw_at 948 (by decide +kernel) rfl⟩, gw_at 917 (by decide +kernel) rfl, gw_at 39 (by decide +kernel) rfl⟩
theorem kv_X9_155 : KV RX9 155 yX0_isFull := ⟨Or.inr ⟨"Campground", gw_at 956 (by decide +kernel) rfl⟩, gw_at 958 (by decide +kernel) rfl, gw_at 41 (by decide +kernel) rfl⟩
theorem kv_X9_161 : KV RX9 161 yX1_addBooking := ⟨Or.inr ⟨"Campground", gw_at 961 (by decide +kernel) rfl⟩, gw_at 963 (by decide +kernel) rfl, gw_at 42 (by decide +kernel) rfl⟩
theorem kv_X9_165 : KV RX9 165 yX9_checkBooking := ⟨Or.inl (gw_at 977 (by decide +kernel) rfl), gw_at 979 (by decide +kernel) rfl, gw_at 44 (by decide +kernel) rfl⟩
theorem kw_X9_165 : Cond.methodLink RX9 165 yX9_checkBooking ∈ GW := gw_at 977 (by decide +kernel) rfl
theorem ks_X9_184 : KS RX9 184 yX9_checkState := ⟨Or.inl (gw_at 1024 (by decide +kernel) rfl), gw_at 1025 (by decide +kernel) rfl⟩
theorem kw_X9_184 : Cond.methodLink RX9 184 yX9_checkState ∈ GW := gw_at 1024 (by decide +kernel) rfl
theorem kv_X9_188 : KV RX9 188 yX1_refundOfCancelling := ⟨Or.inr ⟨"Campground", gw_at 1028 (by decide +kernel) rfl⟩, gw_at 1030 (by decide +kernel) rfl, gw_at 45 (by decide +kernel) rfl⟩
theorem kv_X9_191 : KV RX9 191 yX1_lowestVacantSite := ⟨Or.inr ⟨"Campground", gw_at 1039 (by decide +kernel) rfl⟩, gw_at 1041 (by decide +kernel) rfl, gw_at 46 (by decide +kernel) rfl⟩
theorem kv_X9_194 : KV RX9 194 yX9_checkSameClass := ⟨Or.inl (gw_at 1062 (by decide +kernel) rfl), gw_at 1064 (by decide +kernel) rfl, gw_at 50 (by decide +kernel) rfl⟩
theorem kw_X9_194 : Cond.methodLink RX9 194 yX9_checkSameClass ∈ GW := gw_at 1062 (by decide +kernel) rfl
theorem kv_X9_201 : KV RX9 201 yX1_isVacant := ⟨Or.inr ⟨"Campground", gw_at 1067 (by decide +kernel) rfl⟩, gw_at 1045 (by decide +kernel) rfl, gw_at 47 (by decide +kernel) rfl⟩
theorem kv_X9_204 : KV RX9 204 yX1_refundOfDeparting := ⟨Or.inr ⟨"Campground", gw_at 1082 (by decide +kernel) rfl⟩, gw_at 1084 (by decide +kernel) rfl, gw_at 51 (by decide +kernel) rfl⟩
theorem kv_X9_207 : KV RX9 207 yX0_isActive := ⟨Or.inr ⟨"Campground", gw_at 1093 (by decide +kernel) rfl⟩, gw_at 873 (by decide +kernel) rfl, gw_at 33 (by decide +kernel) rfl⟩
theorem kv_X9_210 : KV RX9 210 yX8_obstacleToNights := ⟨Or.inr ⟨"Campground", gw_at 1094 (by decide +kernel) rfl⟩, gw_at 905 (by decide +kernel) rfl, gw_at 36 (by decide +kernel) rfl⟩
theorem kv_X9_215 : KV RX9 215 yX1_endToday := ⟨Or.inr ⟨"Campground", gw_at 1103 (by decide +kernel) rfl⟩, gw_at 1105 (by decide +kernel) rfl, gw_at 52 (by decide +kernel) rfl⟩
theorem kv_X9_218 : KV RX9 218 yX1_canSpare := ⟨Or.inr ⟨"Campground", gw_at 1122 (by decide +kernel) rfl⟩, gw_at 1124 (by decide +kernel) rfl, gw_at 55 (by decide +kernel) rfl⟩
theorem kv_X9_225 : KV RX9 225 yX7_isClosed := ⟨Or.inr ⟨"Campground", gw_at 1135 (by decide +kernel) rfl⟩, gw_at 1049 (by decide +kernel) rfl, gw_at 48 (by decide +kernel) rfl⟩
theorem kv_X9_237 : KV RX9 237 yX4_add := ⟨Or.inr ⟨"Campground", gw_at 1144 (by decide +kernel) rfl⟩, gw_at 1146 (by decide +kernel) rfl, gw_at 56 (by decide +kernel) rfl⟩
theorem kv_X9_238 : KV RX9 238 yX9_checkRequest := ⟨Or.inl (gw_at 1155 (by decide +kernel) rfl), gw_at 1157 (by decide +kernel) rfl, gw_at 57 (by decide +kernel) rfl⟩
theorem kw_X9_238 : Cond.methodLink RX9 238 yX9_checkRequest ∈ GW := gw_at 1155 (by decide +kernel) rfl
theorem kv_X9_245 : KV RX9 245 yX9_bestRequest := ⟨Or.inl (gw_at 1181 (by decide +kernel) rfl), gw_at 1183 (by decide +kernel) rfl, gw_at 58 (by decide +kernel) rfl⟩
theorem kw_X9_245 : Cond.methodLink RX9 245 yX9_bestRequest ∈ GW := gw_at 1181 (by decide +kernel) rfl
theorem kv_X9_248 : KV RX9 248 yX1_bookRequest := ⟨Or.inr ⟨"Campground", gw_at 1189 (by decide +kernel) rfl⟩, gw_at 1191 (by decide +kernel) rfl, gw_at 60 (by decide +kernel) rfl⟩
theorem kv_X9_251 : KV RX9 251 yX3_make := ⟨Or.inr ⟨"Campground", gw_at 1201 (by decide +kernel) rfl⟩, gw_at 1203 (by decide +kernel) rfl, gw_at 61 (by decide +kernel) rfl⟩
theorem kv_X9_261 : KV RX9 261 yX9_checkNights := ⟨Or.inl (gw_at 1245 (by decide +kernel) rfl), gw_at 1247 (by decide +kernel) rfl, gw_at 66 (by decide +kernel) rfl⟩
theorem kw_X9_261 : Cond.methodLink RX9 261 yX9_checkNights ∈ GW := gw_at 1245 (by decide +kernel) rfl
theorem kv_X9_264 : KV RX9 264 yX1_takenInAll := ⟨Or.inr ⟨"Campground", gw_at 1249 (by decide +kernel) rfl⟩, gw_at 1251 (by decide +kernel) rfl, gw_at 67 (by decide +kernel) rfl⟩
theorem kv_X9_267 : KV RX9 267 yX1_capacityInAll := ⟨Or.inr ⟨"Campground", gw_at 1253 (by decide +kernel) rfl⟩, gw_at 1255 (by decide +kernel) rfl, gw_at 68 (by decide +kernel) rfl⟩
theorem ks_X9_270 : KS RX9 270 yX9_commonDivisor := ⟨Or.inl (gw_at 1257 (by decide +kernel) rfl), gw_at 1258 (by decide +kernel) rfl⟩
theorem kw_X9_270 : Cond.methodLink RX9 270 yX9_commonDivisor ∈ GW := gw_at 1257 (by decide +kernel) rfl
theorem kv_X9_273 : KV RX9 273 yX0_isToDepart := ⟨Or.inr ⟨"Campground", gw_at 1274 (by decide +kernel) rfl⟩, gw_at 1276 (by decide +kernel) rfl, gw_at 69 (by decide +kernel) rfl⟩
theorem kv_X9_276 : KV RX9 276 yX0_isToArrive := ⟨Or.inr ⟨"Campground", gw_at 1278 (by decide +kernel) rfl⟩, gw_at 1280 (by decide +kernel) rfl, gw_at 70 (by decide +kernel) rfl⟩
theorem kv_X9_279 : KV RX9 279 yX0_isDearer := ⟨Or.inr ⟨"Campground", gw_at 1289 (by decide +kernel) rfl⟩, gw_at 1291 (by decide +kernel) rfl, gw_at 71 (by decide +kernel) rfl⟩
theorem kv_X9_284 : KV RX9 284 yX6_read := ⟨Or.inr ⟨"Campground", gw_at 487 (by decide +kernel) rfl⟩, gw_at 489 (by decide +kernel) rfl, gw_at 0 (by decide +kernel) rfl⟩
theorem kv_X9_287 : KV RX9 287 yX1_copyFrom := ⟨Or.inr ⟨"Campground", gw_at 613 (by decide +kernel) rfl⟩, gw_at 615 (by decide +kernel) rfl, gw_at 16 (by decide +kernel) rfl⟩
theorem kv_X9_319 : KV RX9 319 yX4_isBetter := ⟨Or.inr ⟨"Campground", gw_at 1185 (by decide +kernel) rfl⟩, gw_at 1187 (by decide +kernel) rfl, gw_at 59 (by decide +kernel) rfl⟩
theorem km_X9_326 : KMin RX9 326 := ⟨gw_at 624 (by decide +kernel) rfl, gw_at 492 (by decide +kernel) rfl, gw_at 145 (by decide +kernel) rfl, gw_at 493 (by decide +kernel) rfl⟩
theorem kc_X9_329 : KCp RX9 329 := ⟨gw_at 625 (by decide +kernel) rfl, gw_at 627 (by decide +kernel) rfl, gw_at 626 (by decide +kernel) rfl, gw_at 151 (by decide +kernel) rfl⟩
theorem kv_X0_34 : KV RX0 34 yX0_isActive := ⟨Or.inl (gw_at 871 (by decide +kernel) rfl), gw_at 873 (by decide +kernel) rfl, gw_at 33 (by decide +kernel) rfl⟩
theorem kw_X0_34 : Cond.methodLink RX0 34 yX0_isActive ∈ GW := gw_at 871 (by decide +kernel) rfl
theorem ks_X0_38 : KS RX0 38 yX9_copyRow := ⟨Or.inr ⟨"Campground", gw_at 642 (by decide +kernel) rfl⟩, gw_at 622 (by decide +kernel) rfl⟩
theorem ki_X1_11 : KI RX1 11 yX2_init := ⟨Or.inr ⟨"Campground", gw_at 168 (by decide +kernel) rfl⟩, rfl, gw_at 169 (by decide +kernel) rfl⟩
theorem ki_X1_20 : KI RX1 20 yX7_init := ⟨Or.inr ⟨"Campground", gw_at 191 (by decide +kernel) rfl⟩, rfl, gw_at 192 (by decide +kernel) rfl⟩
theorem ki_X1_27 : KI RX1 27 yX5_init := ⟨Or.inr ⟨"Campground", gw_at 214 (by decide +kernel) rfl⟩, rfl, gw_at 215 (by decide +kernel) rfl⟩
theorem ki_X1_34 : KI RX1 34 yX0_init := ⟨Or.inr ⟨"Campground", gw_at 242 (by decide +kernel) rfl⟩, rfl, gw_at 243 (by decide +kernel) rfl⟩
theorem ki_X1_41 : KI RX1 41 yX4_init := ⟨Or.inr ⟨"Campground", gw_at 288 (by decide +kernel) rfl⟩, rfl, gw_at 289 (by decide +kernel) rfl⟩
theorem kv_X1_57 : KV RX1 57 yX2_copyFrom := ⟨Or.inr ⟨"Campground", gw_at 617 (by decide +kernel) rfl⟩, gw_at 619 (by decide +kernel) rfl, gw_at 17 (by decide +kernel) rfl⟩
theorem kv_X1_61 : KV RX1 61 yX7_copyFrom := ⟨Or.inr ⟨"Campground", gw_at 628 (by decide +kernel) rfl⟩, gw_at 630 (by decide +kernel) rfl, gw_at 18 (by decide +kernel) rfl⟩
theorem kv_X1_64 : KV RX1 64 yX5_copyFrom := ⟨Or.inr ⟨"Campground", gw_at 633 (by decide +kernel) rfl⟩, gw_at 635 (by decide +kernel) rfl, gw_at 19 (by decide +kernel) rfl⟩
theorem kv_X1_67 : KV RX1 67 yX0_copyFrom := ⟨Or.inr ⟨"Campground", gw_at 638 (by decide +kernel) rfl⟩, gw_at 640 (by decide +kernel) rfl, gw_at 20 (by decide +kernel) rfl⟩
theorem kv_X1_70 : KV RX1 70 yX4_copyFrom := ⟨Or.inr ⟨"Campground", gw_at 643 (by decide +kernel) rfl⟩, gw_at 645 (by decide +kernel) rfl, gw_at 21 (by decide +kernel) rfl⟩
theorem kv_X1_73 : KV RX1 73 yX7_countOpen := ⟨Or.inr ⟨"Campground", gw_at 840 (by decide +kernel) rfl⟩, gw_at 842 (by decide +kernel) rfl, gw_at 29 (by decide +kernel) rfl⟩
theorem kv_X1_77 : KV RX1 77 yX2_limitAhead := ⟨Or.inr ⟨"Campground", gw_at 855 (by decide +kernel) rfl⟩, gw_at 857 (by decide +kernel) rfl, gw_at 31 (by decide +kernel) rfl⟩
theorem km_X1_80 : KMin RX1 80 := ⟨gw_at 859 (by decide +kernel) rfl, gw_at 492 (by decide +kernel) rfl, gw_at 145 (by decide +kernel) rfl, gw_at 493 (by decide +kernel) rfl⟩
theorem kv_X1_85 : KV RX1 85 yX0_takenOn := ⟨Or.inr ⟨"Campground", gw_at 1127 (by decide +kernel) rfl⟩, gw_at 869 (by decide +kernel) rfl, gw_at 32 (by decide +kernel) rfl⟩
theorem kv_X1_88 : KV RX1 88 yX1_capacityOn := ⟨Or.inl (gw_at 1126 (by decide +kernel) rfl), gw_at 838 (by decide +kernel) rfl, gw_at 28 (by decide +kernel) rfl⟩
theorem kw_X1_88 : Cond.methodLink RX1 88 yX1_capacityOn ∈ GW := gw_at 1126 (by decide +kernel) rfl
theorem kv_X1_91 : KV RX1 91 yX7_isClosed := ⟨Or.inr ⟨"Campground", gw_at 1047 (by decide +kernel) rfl⟩, gw_at 1049 (by decide +kernel) rfl, gw_at 48 (by decide +kernel) rfl⟩
theorem kv_X1_95 : KV RX1 95 yX0_isSomebodyAt := ⟨Or.inr ⟨"Campground", gw_at 1051 (by decide +kernel) rfl⟩, gw_at 1053 (by decide +kernel) rfl, gw_at 49 (by decide +kernel) rfl⟩
theorem kv_X1_103 : KV RX1 103 yX1_isVacant := ⟨Or.inl (gw_at 1043 (by decide +kernel) rfl), gw_at 1045 (by decide +kernel) rfl, gw_at 47 (by decide +kernel) rfl⟩
theorem kw_X1_103 : Cond.methodLink RX1 103 yX1_isVacant ∈ GW := gw_at 1043 (by decide +kernel) rfl
theorem kv_X1_106 : KV RX1 106 yX5_priceOfNights := ⟨Or.inr ⟨"Campground", gw_at 965 (by decide +kernel) rfl⟩, gw_at 938 (by decide +kernel) rfl, gw_at 40 (by decide +kernel) rfl⟩
theorem kv_X1_110 : KV RX1 110 yX0_add := ⟨Or.inr ⟨"Campground", gw_at 966 (by decide +kernel) rfl⟩, gw_at 968 (by decide +kernel) rfl, gw_at 43 (by decide +kernel) rfl⟩
theorem kv_X1_121 : KV RX1 121 yX1_addBooking := ⟨Or.inl (gw_at 1193 (by decide +kernel) rfl), gw_at 963 (by decide +kernel) rfl, gw_at 42 (by decide +kernel) rfl⟩
theorem kw_X1_121 : Cond.methodLink RX1 121 yX1_addBooking ∈ GW := gw_at 1193 (by decide +kernel) rfl
theorem kv_X1_138 : KV RX1 138 yX0_endNight := ⟨Or.inr ⟨"Campground", gw_at 1107 (by decide +kernel) rfl⟩, gw_at 1109 (by decide +kernel) rfl, gw_at 53 (by decide +kernel) rfl⟩
theorem kv_X1_142 : KV RX1 142 yX4_expireBefore := ⟨Or.inr ⟨"Campground", gw_at 1111 (by decide +kernel) rfl⟩, gw_at 1113 (by decide +kernel) rfl, gw_at 54 (by decide +kernel) rfl⟩
theorem ks_X2_25 : KS RX2 25 yX9_copyRow := ⟨Or.inr ⟨"Campground", gw_at 621 (by decide +kernel) rfl⟩, gw_at 622 (by decide +kernel) rfl⟩
theorem ks_X3_29 : KS RX3 29 yJ7_fill_53178 := ⟨Or.inl (gw_at 1205 (by decide +kernel) rfl), gw_at 897 (by decide +kernel) rfl⟩
theorem kw_X3_29 : Cond.methodLink RX3 29 yJ7_fill_53178 ∈ GW := gw_at 1205 (by decide +kernel) rfl
theorem kv_X3_35 : KV RX3 35 yX3_placeStaying := ⟨Or.inl (gw_at 1206 (by decide +kernel) rfl), gw_at 1208 (by decide +kernel) rfl, gw_at 62 (by decide +kernel) rfl⟩
theorem kw_X3_35 : Cond.methodLink RX3 35 yX3_placeStaying ∈ GW := gw_at 1206 (by decide +kernel) rfl
theorem kv_X3_50 : KV RX3 50 yX3_nextToPlace := ⟨Or.inl (gw_at 1210 (by decide +kernel) rfl), gw_at 1212 (by decide +kernel) rfl, gw_at 63 (by decide +kernel) rfl⟩
theorem kw_X3_50 : Cond.methodLink RX3 50 yX3_nextToPlace ∈ GW := gw_at 1210 (by decide +kernel) rfl
theorem kv_X3_57 : KV RX3 57 yX3_chooseSite := ⟨Or.inl (gw_at 1214 (by decide +kernel) rfl), gw_at 1216 (by decide +kernel) rfl, gw_at 64 (by decide +kernel) rfl⟩
theorem kw_X3_57 : Cond.methodLink RX3 57 yX3_chooseSite ∈ GW := gw_at 1214 (by decide +kernel) rfl
theorem kv_X3_61 : KV RX3 61 yX3_countGap := ⟨Or.inl (gw_at 1219 (by decide +kernel) rfl), gw_at 1221 (by decide +kernel) rfl, gw_at 65 (by decide +kernel) rfl⟩
theorem kw_X3_61 : Cond.methodLink RX3 61 yX3_countGap ∈ GW := gw_at 1219 (by decide +kernel) rfl
theorem kv_X3_83 : KV RX3 83 yX7_isClosed := ⟨Or.inr ⟨"Campground", gw_at 1218 (by decide +kernel) rfl⟩, gw_at 1049 (by decide +kernel) rfl, gw_at 48 (by decide +kernel) rfl⟩
theorem kv_X3_91 : KV RX3 91 yX5_minimumOn := ⟨Or.inr ⟨"Campground", gw_at 1223 (by decide +kernel) rfl⟩, gw_at 812 (by decide +kernel) rfl, gw_at 25 (by decide +kernel) rfl⟩
theorem ks_X4_31 : KS RX4 31 yX9_copyRow := ⟨Or.inr ⟨"Campground", gw_at 647 (by decide +kernel) rfl⟩, gw_at 622 (by decide +kernel) rfl⟩
theorem kv_X5_31 : KV RX5 31 yX5_latestWith := ⟨Or.inl (gw_at 814 (by decide +kernel) rfl), gw_at 816 (by decide +kernel) rfl, gw_at 26 (by decide +kernel) rfl⟩
theorem kw_X5_31 : Cond.methodLink RX5 31 yX5_latestWith ∈ GW := gw_at 814 (by decide +kernel) rfl
theorem kv_X5_35 : KV RX5 35 yX5_priceOn := ⟨Or.inl (gw_at 940 (by decide +kernel) rfl), gw_at 827 (by decide +kernel) rfl, gw_at 27 (by decide +kernel) rfl⟩
theorem kw_X5_35 : Cond.methodLink RX5 35 yX5_priceOn ∈ GW := gw_at 940 (by decide +kernel) rfl
theorem ks_X5_38 : KS RX5 38 yX9_copyRow := ⟨Or.inr ⟨"Campground", gw_at 637 (by decide +kernel) rfl⟩, gw_at 622 (by decide +kernel) rfl⟩
theorem km_X6_41 : KMin RX6 41 := ⟨gw_at 491 (by decide +kernel) rfl, gw_at 492 (by decide +kernel) rfl, gw_at 145 (by decide +kernel) rfl, gw_at 493 (by decide +kernel) rfl⟩
theorem kv_X6_47 : KV RX6 47 yX1_clear := ⟨Or.inr ⟨"Campground", gw_at 494 (by decide +kernel) rfl⟩, gw_at 496 (by decide +kernel) rfl, gw_at 1 (by decide +kernel) rfl⟩
theorem kv_X6_52 : KV RX6 52 yX6_step := ⟨Or.inl (gw_at 498 (by decide +kernel) rfl), gw_at 500 (by decide +kernel) rfl, gw_at 2 (by decide +kernel) rfl⟩
theorem kw_X6_52 : Cond.methodLink RX6 52 yX6_step ∈ GW := gw_at 498 (by decide +kernel) rfl
theorem kv_X6_55 : KV RX6 55 yX6_readStatement := ⟨Or.inl (gw_at 509 (by decide +kernel) rfl), gw_at 511 (by decide +kernel) rfl, gw_at 3 (by decide +kernel) rfl⟩
theorem kw_X6_55 : Cond.methodLink RX6 55 yX6_readStatement ∈ GW := gw_at 509 (by decide +kernel) rfl
theorem kv_X6_61 : KV RX6 61 yX6_isWord := ⟨Or.inl (gw_at 514 (by decide +kernel) rfl), gw_at 516 (by decide +kernel) rfl, gw_at 4 (by decide +kernel) rfl⟩
theorem kw_X6_61 : Cond.methodLink RX6 61 yX6_isWord ∈ GW := gw_at 514 (by decide +kernel) rfl
theorem kv_X6_65 : KV RX6 65 yX6_readClass := ⟨Or.inl (gw_at 566 (by decide +kernel) rfl), gw_at 568 (by decide +kernel) rfl, gw_at 5 (by decide +kernel) rfl⟩
theorem kw_X6_65 : Cond.methodLink RX6 65 yX6_readClass ∈ GW := gw_at 566 (by decide +kernel) rfl
theorem kv_X6_68 : KV RX6 68 yX6_readSemicolon := ⟨Or.inl (gw_at 586 (by decide +kernel) rfl), gw_at 588 (by decide +kernel) rfl, gw_at 10 (by decide +kernel) rfl⟩
theorem kw_X6_68 : Cond.methodLink RX6 68 yX6_readSemicolon ∈ GW := gw_at 586 (by decide +kernel) rfl
theorem kv_X6_73 : KV RX6 73 yX6_readSites := ⟨Or.inl (gw_at 591 (by decide +kernel) rfl), gw_at 593 (by decide +kernel) rfl, gw_at 11 (by decide +kernel) rfl⟩
theorem kw_X6_73 : Cond.methodLink RX6 73 yX6_readSites ∈ GW := gw_at 591 (by decide +kernel) rfl
theorem kv_X6_78 : KV RX6 78 yX6_readSeason := ⟨Or.inl (gw_at 600 (by decide +kernel) rfl), gw_at 602 (by decide +kernel) rfl, gw_at 13 (by decide +kernel) rfl⟩
theorem kw_X6_78 : Cond.methodLink RX6 78 yX6_readSeason ∈ GW := gw_at 600 (by decide +kernel) rfl
theorem kv_X6_83 : KV RX6 83 yX6_readDay := ⟨Or.inl (gw_at 609 (by decide +kernel) rfl), gw_at 611 (by decide +kernel) rfl, gw_at 15 (by decide +kernel) rfl⟩
theorem kw_X6_83 : Cond.methodLink RX6 83 yX6_readDay ∈ GW := gw_at 609 (by decide +kernel) rfl
theorem kv_X6_86 : KV RX6 86 yX6_fail := ⟨Or.inl (gw_at 570 (by decide +kernel) rfl), gw_at 572 (by decide +kernel) rfl, gw_at 6 (by decide +kernel) rfl⟩
theorem kw_X6_86 : Cond.methodLink RX6 86 yX6_fail ∈ GW := gw_at 570 (by decide +kernel) rfl
theorem kv_X6_99 : KV RX6 99 yX6_readNumber := ⟨Or.inl (gw_at 578 (by decide +kernel) rfl), gw_at 580 (by decide +kernel) rfl, gw_at 8 (by decide +kernel) rfl⟩
theorem kw_X6_99 : Cond.methodLink RX6 99 yX6_readNumber ∈ GW := gw_at 578 (by decide +kernel) rfl
theorem kv_X6_102 : KV RX6 102 yX2_add := ⟨Or.inr ⟨"Campground", gw_at 582 (by decide +kernel) rfl⟩, gw_at 584 (by decide +kernel) rfl, gw_at 9 (by decide +kernel) rfl⟩
theorem kv_X6_110 : KV RX6 110 yX7_add := ⟨Or.inr ⟨"Campground", gw_at 595 (by decide +kernel) rfl⟩, gw_at 597 (by decide +kernel) rfl, gw_at 12 (by decide +kernel) rfl⟩
theorem kv_X6_115 : KV RX6 115 yX6_failAt := ⟨Or.inl (gw_at 574 (by decide +kernel) rfl), gw_at 576 (by decide +kernel) rfl, gw_at 7 (by decide +kernel) rfl⟩
theorem kw_X6_115 : Cond.methodLink RX6 115 yX6_failAt ∈ GW := gw_at 574 (by decide +kernel) rfl
theorem kv_X6_126 : KV RX6 126 yX5_add := ⟨Or.inr ⟨"Campground", gw_at 604 (by decide +kernel) rfl⟩, gw_at 606 (by decide +kernel) rfl, gw_at 14 (by decide +kernel) rfl⟩
theorem ks_X6_141 : KS RX6 141 yX6_isLetter := ⟨Or.inl (gw_at 502 (by decide +kernel) rfl), gw_at 503 (by decide +kernel) rfl⟩
theorem kw_X6_141 : Cond.methodLink RX6 141 yX6_isLetter ∈ GW := gw_at 502 (by decide +kernel) rfl
theorem ks_X6_145 : KS RX6 145 yX6_isDigit := ⟨Or.inl (gw_at 505 (by decide +kernel) rfl), gw_at 506 (by decide +kernel) rfl⟩
theorem kw_X6_145 : Cond.methodLink RX6 145 yX6_isDigit ∈ GW := gw_at 505 (by decide +kernel) rfl
theorem ks_X7_22 : KS RX7 22 yX9_copyRow := ⟨Or.inr ⟨"Campground", gw_at 632 (by decide +kernel) rfl⟩, gw_at 622 (by decide +kernel) rfl⟩
theorem ks_X8_23 : KS RX8 23 yJ7_fill_53178 := ⟨Or.inl (gw_at 896 (by decide +kernel) rfl), gw_at 897 (by decide +kernel) rfl⟩
theorem kw_X8_23 : Cond.methodLink RX8 23 yJ7_fill_53178 ∈ GW := gw_at 896 (by decide +kernel) rfl
theorem kv_X8_29 : KV RX8 29 yX1_releasedOn := ⟨Or.inr ⟨"Campground", gw_at 919 (by decide +kernel) rfl⟩, gw_at 853 (by decide +kernel) rfl, gw_at 30 (by decide +kernel) rfl⟩
theorem kv_X8_39 : KV RX8 39 yX0_takenOn := ⟨Or.inr ⟨"Campground", gw_at 920 (by decide +kernel) rfl⟩, gw_at 869 (by decide +kernel) rfl, gw_at 32 (by decide +kernel) rfl⟩
theorem kv_X8_51 : KV RX8 51 yX2_windowOf := ⟨Or.inr ⟨"Campground", gw_at 911 (by decide +kernel) rfl⟩, gw_at 913 (by decide +kernel) rfl, gw_at 38 (by decide +kernel) rfl⟩
theorem kv_X8_57 : KV RX8 57 yX8_leavesWindow := ⟨Or.inl (gw_at 907 (by decide +kernel) rfl), gw_at 909 (by decide +kernel) rfl, gw_at 37 (by decide +kernel) rfl⟩
theorem kw_X8_57 : Cond.methodLink RX8 57 yX8_leavesWindow ∈ GW := gw_at 907 (by decide +kernel) rfl
theorem kv_X8_61 : KV RX8 61 yX8_isFree := ⟨Or.inl (gw_at 915 (by decide +kernel) rfl), gw_at 917 (by decide +kernel) rfl, gw_at 39 (by decide +kernel) rfl⟩
theorem kw_X8_61 : Cond.methodLink RX8 61 yX8_isFree ∈ GW := gw_at 915 (by decide +kernel) rfl
theorem kv_X8_65 : KV RX8 65 yX8_obstacleToNights := ⟨Or.inl (gw_at 903 (by decide +kernel) rfl), gw_at 905 (by decide +kernel) rfl, gw_at 36 (by decide +kernel) rfl⟩
theorem kw_X8_65 : Cond.methodLink RX8 65 yX8_obstacleToNights ∈ GW := gw_at 903 (by decide +kernel) rfl
theorem kv_X8_72 : KV RX8 72 yX5_minimumOn := ⟨Or.inr ⟨"Campground", gw_at 921 (by decide +kernel) rfl⟩, gw_at 812 (by decide +kernel) rfl, gw_at 25 (by decide +kernel) rfl⟩
theorem kv_L_7 : KV RL 7 yX9_addClass := ⟨Or.inl (gw_at 661 (by decide +kernel) rfl), gw_at 662 (by decide +kernel) rfl, gw_at 663 (by decide +kernel) rfl⟩
theorem kw_L_7 : Cond.methodLink RL 7 yX9_addClass ∈ GW := gw_at 661 (by decide +kernel) rfl
theorem kv_L_17 : KV RL 17 yX9_addSite := ⟨Or.inl (gw_at 756 (by decide +kernel) rfl), gw_at 757 (by decide +kernel) rfl, gw_at 758 (by decide +kernel) rfl⟩
theorem kw_L_17 : Cond.methodLink RL 17 yX9_addSite ∈ GW := gw_at 756 (by decide +kernel) rfl
theorem kv_L_23 : KV RL 23 yX9_addSeason := ⟨Or.inl (gw_at 785 (by decide +kernel) rfl), gw_at 786 (by decide +kernel) rfl, gw_at 787 (by decide +kernel) rfl⟩
theorem kw_L_23 : Cond.methodLink RL 23 yX9_addSeason ∈ GW := gw_at 785 (by decide +kernel) rfl
theorem kv_L_27 : KV RL 27 yX9_classOf := ⟨Or.inl (gw_at 794 (by decide +kernel) rfl), gw_at 795 (by decide +kernel) rfl, gw_at 796 (by decide +kernel) rfl⟩
theorem kw_L_27 : Cond.methodLink RL 27 yX9_classOf ∈ GW := gw_at 794 (by decide +kernel) rfl
theorem kv_L_30 : KV RL 30 yX9_minimum := ⟨Or.inl (gw_at 806 (by decide +kernel) rfl), gw_at 807 (by decide +kernel) rfl, gw_at 808 (by decide +kernel) rfl⟩
theorem kw_L_30 : Cond.methodLink RL 30 yX9_minimum ∈ GW := gw_at 806 (by decide +kernel) rfl
theorem kv_L_34 : KV RL 34 yX9_price := ⟨Or.inl (gw_at 821 (by decide +kernel) rfl), gw_at 822 (by decide +kernel) rfl, gw_at 823 (by decide +kernel) rfl⟩
theorem kw_L_34 : Cond.methodLink RL 34 yX9_price ∈ GW := gw_at 821 (by decide +kernel) rfl
theorem kv_L_37 : KV RL 37 yX9_capacity := ⟨Or.inl (gw_at 832 (by decide +kernel) rfl), gw_at 833 (by decide +kernel) rfl, gw_at 834 (by decide +kernel) rfl⟩
theorem kw_L_37 : Cond.methodLink RL 37 yX9_capacity ∈ GW := gw_at 832 (by decide +kernel) rfl
theorem kv_L_40 : KV RL 40 yX9_released := ⟨Or.inl (gw_at 847 (by decide +kernel) rfl), gw_at 848 (by decide +kernel) rfl, gw_at 849 (by decide +kernel) rfl⟩
theorem kw_L_40 : Cond.methodLink RL 40 yX9_released ∈ GW := gw_at 847 (by decide +kernel) rfl
theorem kv_L_43 : KV RL 43 yX9_taken := ⟨Or.inl (gw_at 863 (by decide +kernel) rfl), gw_at 864 (by decide +kernel) rfl, gw_at 865 (by decide +kernel) rfl⟩
theorem kw_L_43 : Cond.methodLink RL 43 yX9_taken ∈ GW := gw_at 863 (by decide +kernel) rfl
theorem kv_L_46 : KV RL 46 yX9_available := ⟨Or.inl (gw_at 878 (by decide +kernel) rfl), gw_at 879 (by decide +kernel) rfl, gw_at 880 (by decide +kernel) rfl⟩
theorem kw_L_46 : Cond.methodLink RL 46 yX9_available ∈ GW := gw_at 878 (by decide +kernel) rfl
theorem kv_L_49 : KV RL 49 yX9_obstacle := ⟨Or.inl (gw_at 888 (by decide +kernel) rfl), gw_at 889 (by decide +kernel) rfl, gw_at 890 (by decide +kernel) rfl⟩
theorem kw_L_49 : Cond.methodLink RL 49 yX9_obstacle ∈ GW := gw_at 888 (by decide +kernel) rfl
theorem kv_L_52 : KV RL 52 yX9_longestStay := ⟨Or.inl (gw_at 925 (by decide +kernel) rfl), gw_at 926 (by decide +kernel) rfl, gw_at 927 (by decide +kernel) rfl⟩
theorem kw_L_52 : Cond.methodLink RL 52 yX9_longestStay ∈ GW := gw_at 925 (by decide +kernel) rfl
theorem kv_L_55 : KV RL 55 yX9_cheapestArrival := ⟨Or.inl (gw_at 932 (by decide +kernel) rfl), gw_at 933 (by decide +kernel) rfl, gw_at 934 (by decide +kernel) rfl⟩
theorem kw_L_55 : Cond.methodLink RL 55 yX9_cheapestArrival ∈ GW := gw_at 932 (by decide +kernel) rfl
theorem kv_L_59 : KV RL 59 yX9_nextGap := ⟨Or.inl (gw_at 944 (by decide +kernel) rfl), gw_at 945 (by decide +kernel) rfl, gw_at 946 (by decide +kernel) rfl⟩
theorem kw_L_59 : Cond.methodLink RL 59 yX9_nextGap ∈ GW := gw_at 944 (by decide +kernel) rfl
theorem kv_L_62 : KV RL 62 yX9_book := ⟨Or.inl (gw_at 952 (by decide +kernel) rfl), gw_at 953 (by decide +kernel) rfl, gw_at 954 (by decide +kernel) rfl⟩
theorem kw_L_62 : Cond.methodLink RL 62 yX9_book ∈ GW := gw_at 952 (by decide +kernel) rfl
theorem kv_L_65 : KV RL 65 yX9_bookingState := ⟨Or.inl (gw_at 973 (by decide +kernel) rfl), gw_at 974 (by decide +kernel) rfl, gw_at 975 (by decide +kernel) rfl⟩
theorem kw_L_65 : Cond.methodLink RL 65 yX9_bookingState ∈ GW := gw_at 973 (by decide +kernel) rfl
theorem kv_L_68 : KV RL 68 yX9_bookingClass := ⟨Or.inl (gw_at 985 (by decide +kernel) rfl), gw_at 986 (by decide +kernel) rfl, gw_at 987 (by decide +kernel) rfl⟩
theorem kw_L_68 : Cond.methodLink RL 68 yX9_bookingClass ∈ GW := gw_at 985 (by decide +kernel) rfl
theorem kv_L_71 : KV RL 71 yX9_arrival := ⟨Or.inl (gw_at 992 (by decide +kernel) rfl), gw_at 993 (by decide +kernel) rfl, gw_at 994 (by decide +kernel) rfl⟩
theorem kw_L_71 : Cond.methodLink RL 71 yX9_arrival ∈ GW := gw_at 992 (by decide +kernel) rfl
theorem kv_L_74 : KV RL 74 yX9_departure := ⟨Or.inl (gw_at 999 (by decide +kernel) rfl), gw_at 1000 (by decide +kernel) rfl, gw_at 1001 (by decide +kernel) rfl⟩
theorem kw_L_74 : Cond.methodLink RL 74 yX9_departure ∈ GW := gw_at 999 (by decide +kernel) rfl
theorem kv_L_77 : KV RL 77 yX9_cost := ⟨Or.inl (gw_at 1006 (by decide +kernel) rfl), gw_at 1007 (by decide +kernel) rfl, gw_at 1008 (by decide +kernel) rfl⟩
theorem kw_L_77 : Cond.methodLink RL 77 yX9_cost ∈ GW := gw_at 1006 (by decide +kernel) rfl
theorem kv_L_80 : KV RL 80 yX9_siteOf := ⟨Or.inl (gw_at 1013 (by decide +kernel) rfl), gw_at 1014 (by decide +kernel) rfl, gw_at 1015 (by decide +kernel) rfl⟩
theorem kw_L_80 : Cond.methodLink RL 80 yX9_siteOf ∈ GW := gw_at 1013 (by decide +kernel) rfl
theorem kv_L_83 : KV RL 83 yX9_cancel := ⟨Or.inl (gw_at 1020 (by decide +kernel) rfl), gw_at 1021 (by decide +kernel) rfl, gw_at 1022 (by decide +kernel) rfl⟩
theorem kw_L_83 : Cond.methodLink RL 83 yX9_cancel ∈ GW := gw_at 1020 (by decide +kernel) rfl
theorem kv_L_86 : KV RL 86 yX9_vacantSite := ⟨Or.inl (gw_at 1035 (by decide +kernel) rfl), gw_at 1036 (by decide +kernel) rfl, gw_at 1037 (by decide +kernel) rfl⟩
theorem kw_L_86 : Cond.methodLink RL 86 yX9_vacantSite ∈ GW := gw_at 1035 (by decide +kernel) rfl
theorem kv_L_89 : KV RL 89 yX9_checkIn := ⟨Or.inl (gw_at 1058 (by decide +kernel) rfl), gw_at 1059 (by decide +kernel) rfl, gw_at 1060 (by decide +kernel) rfl⟩
theorem kw_L_89 : Cond.methodLink RL 89 yX9_checkIn ∈ GW := gw_at 1058 (by decide +kernel) rfl
theorem kv_L_92 : KV RL 92 yX9_move := ⟨Or.inl (gw_at 1071 (by decide +kernel) rfl), gw_at 1072 (by decide +kernel) rfl, gw_at 1073 (by decide +kernel) rfl⟩
theorem kw_L_92 : Cond.methodLink RL 92 yX9_move ∈ GW := gw_at 1071 (by decide +kernel) rfl
theorem kv_L_95 : KV RL 95 yX9_departEarly := ⟨Or.inl (gw_at 1078 (by decide +kernel) rfl), gw_at 1079 (by decide +kernel) rfl, gw_at 1080 (by decide +kernel) rfl⟩
theorem kw_L_95 : Cond.methodLink RL 95 yX9_departEarly ∈ GW := gw_at 1078 (by decide +kernel) rfl
theorem kv_L_98 : KV RL 98 yX9_extend := ⟨Or.inl (gw_at 1089 (by decide +kernel) rfl), gw_at 1090 (by decide +kernel) rfl, gw_at 1091 (by decide +kernel) rfl⟩
theorem kw_L_98 : Cond.methodLink RL 98 yX9_extend ∈ GW := gw_at 1089 (by decide +kernel) rfl
theorem kv_L_101 : KV RL 101 yX9_endDays := ⟨Or.inl (gw_at 1098 (by decide +kernel) rfl), gw_at 1099 (by decide +kernel) rfl, gw_at 1100 (by decide +kernel) rfl⟩
theorem kw_L_101 : Cond.methodLink RL 101 yX9_endDays ∈ GW := gw_at 1098 (by decide +kernel) rfl
theorem kv_L_104 : KV RL 104 yX9_close := ⟨Or.inl (gw_at 1118 (by decide +kernel) rfl), gw_at 1119 (by decide +kernel) rfl, gw_at 1120 (by decide +kernel) rfl⟩
theorem kw_L_104 : Cond.methodLink RL 104 yX9_close ∈ GW := gw_at 1118 (by decide +kernel) rfl
theorem kv_L_108 : KV RL 108 yX9_open := ⟨Or.inl (gw_at 1131 (by decide +kernel) rfl), gw_at 1132 (by decide +kernel) rfl, gw_at 1133 (by decide +kernel) rfl⟩
theorem kw_L_108 : Cond.methodLink RL 108 yX9_open ∈ GW := gw_at 1131 (by decide +kernel) rfl
theorem kv_L_111 : KV RL 111 yX9_request := ⟨Or.inl (gw_at 1139 (by decide +kernel) rfl), gw_at 1140 (by decide +kernel) rfl, gw_at 1141 (by decide +kernel) rfl⟩
theorem kw_L_111 : Cond.methodLink RL 111 yX9_request ∈ GW := gw_at 1139 (by decide +kernel) rfl
theorem kv_L_114 : KV RL 114 yX9_requestState := ⟨Or.inl (gw_at 1151 (by decide +kernel) rfl), gw_at 1152 (by decide +kernel) rfl, gw_at 1153 (by decide +kernel) rfl⟩
theorem kw_L_114 : Cond.methodLink RL 114 yX9_requestState ∈ GW := gw_at 1151 (by decide +kernel) rfl
theorem kv_L_117 : KV RL 117 yX9_bookingOf := ⟨Or.inl (gw_at 1163 (by decide +kernel) rfl), gw_at 1164 (by decide +kernel) rfl, gw_at 1165 (by decide +kernel) rfl⟩
theorem kw_L_117 : Cond.methodLink RL 117 yX9_bookingOf ∈ GW := gw_at 1163 (by decide +kernel) rfl
theorem kv_L_120 : KV RL 120 yX9_withdraw := ⟨Or.inl (gw_at 1170 (by decide +kernel) rfl), gw_at 1171 (by decide +kernel) rfl, gw_at 1172 (by decide +kernel) rfl⟩
theorem kw_L_120 : Cond.methodLink RL 120 yX9_withdraw ∈ GW := gw_at 1170 (by decide +kernel) rfl
theorem kv_L_124 : KV RL 124 yX9_fill := ⟨Or.inl (gw_at 1177 (by decide +kernel) rfl), gw_at 1178 (by decide +kernel) rfl, gw_at 1179 (by decide +kernel) rfl⟩
theorem kw_L_124 : Cond.methodLink RL 124 yX9_fill ∈ GW := gw_at 1177 (by decide +kernel) rfl
theorem kv_L_127 : KV RL 127 yX9_planSite := ⟨Or.inl (gw_at 1197 (by decide +kernel) rfl), gw_at 1198 (by decide +kernel) rfl, gw_at 1199 (by decide +kernel) rfl⟩
theorem kw_L_127 : Cond.methodLink RL 127 yX9_planSite ∈ GW := gw_at 1197 (by decide +kernel) rfl
theorem kv_L_130 : KV RL 130 yX9_gapNights := ⟨Or.inl (gw_at 1227 (by decide +kernel) rfl), gw_at 1228 (by decide +kernel) rfl, gw_at 1229 (by decide +kernel) rfl⟩
theorem kw_L_130 : Cond.methodLink RL 130 yX9_gapNights ∈ GW := gw_at 1227 (by decide +kernel) rfl
theorem kv_L_133 : KV RL 133 yX9_orphanNights := ⟨Or.inl (gw_at 1234 (by decide +kernel) rfl), gw_at 1235 (by decide +kernel) rfl, gw_at 1236 (by decide +kernel) rfl⟩
theorem kw_L_133 : Cond.methodLink RL 133 yX9_orphanNights ∈ GW := gw_at 1234 (by decide +kernel) rfl
theorem kv_L_136 : KV RL 136 yX9_occupancyNumerator := ⟨Or.inl (gw_at 1241 (by decide +kernel) rfl), gw_at 1242 (by decide +kernel) rfl, gw_at 1243 (by decide +kernel) rfl⟩
theorem kw_L_136 : Cond.methodLink RL 136 yX9_occupancyNumerator ∈ GW := gw_at 1241 (by decide +kernel) rfl
theorem kv_L_139 : KV RL 139 yX9_occupancyDenominator := ⟨Or.inl (gw_at 1263 (by decide +kernel) rfl), gw_at 1264 (by decide +kernel) rfl, gw_at 1265 (by decide +kernel) rfl⟩
theorem kw_L_139 : Cond.methodLink RL 139 yX9_occupancyDenominator ∈ GW := gw_at 1263 (by decide +kernel) rfl
theorem kv_L_142 : KV RL 142 yX9_expected := ⟨Or.inl (gw_at 1270 (by decide +kernel) rfl), gw_at 1271 (by decide +kernel) rfl, gw_at 1272 (by decide +kernel) rfl⟩
theorem kw_L_142 : Cond.methodLink RL 142 yX9_expected ∈ GW := gw_at 1270 (by decide +kernel) rfl
theorem kv_L_146 : KV RL 146 yX9_dearestBooking := ⟨Or.inl (gw_at 1285 (by decide +kernel) rfl), gw_at 1286 (by decide +kernel) rfl, gw_at 1287 (by decide +kernel) rfl⟩
theorem kw_L_146 : Cond.methodLink RL 146 yX9_dearestBooking ∈ GW := gw_at 1285 (by decide +kernel) rfl
theorem kv_L_149 : KV RL 149 yX9_busiestNight := ⟨Or.inl (gw_at 1296 (by decide +kernel) rfl), gw_at 1297 (by decide +kernel) rfl, gw_at 1298 (by decide +kernel) rfl⟩
theorem kw_L_149 : Cond.methodLink RL 149 yX9_busiestNight ∈ GW := gw_at 1296 (by decide +kernel) rfl
theorem kv_L_152 : KV RL 152 yX9_appendText := ⟨Or.inl (gw_at 1303 (by decide +kernel) rfl), gw_at 1304 (by decide +kernel) rfl, gw_at 1305 (by decide +kernel) rfl⟩
theorem kw_L_152 : Cond.methodLink RL 152 yX9_appendText ∈ GW := gw_at 1303 (by decide +kernel) rfl
theorem kv_L_155 : KV RL 155 yX9_truncateText := ⟨Or.inl (gw_at 1311 (by decide +kernel) rfl), gw_at 1312 (by decide +kernel) rfl, gw_at 1313 (by decide +kernel) rfl⟩
theorem kw_L_155 : Cond.methodLink RL 155 yX9_truncateText ∈ GW := gw_at 1311 (by decide +kernel) rfl
theorem kv_L_158 : KV RL 158 yX9_save := ⟨Or.inl (gw_at 1318 (by decide +kernel) rfl), gw_at 1319 (by decide +kernel) rfl, gw_at 1320 (by decide +kernel) rfl⟩
theorem kw_L_158 : Cond.methodLink RL 158 yX9_save ∈ GW := gw_at 1318 (by decide +kernel) rfl
theorem kv_L_161 : KV RL 161 yX9_restore := ⟨Or.inl (gw_at 1325 (by decide +kernel) rfl), gw_at 1326 (by decide +kernel) rfl, gw_at 1327 (by decide +kernel) rfl⟩
theorem kw_L_161 : Cond.methodLink RL 161 yX9_restore ∈ GW := gw_at 1325 (by decide +kernel) rfl
theorem ki_L_164 : KI RL 164 yX9_init := ⟨Or.inl (gw_at 154 (by decide +kernel) rfl), rfl, gw_at 155 (by decide +kernel) rfl⟩
theorem ki_L_167 : KI RL 167 yX10_init := ⟨Or.inl (gw_at 1332 (by decide +kernel) rfl), rfl, gw_at 1333 (by decide +kernel) rfl⟩
theorem kv_L_173 : KV RL 173 yX10_addClass := ⟨Or.inl (gw_at 1399 (by decide +kernel) rfl), gw_at 1400 (by decide +kernel) rfl, gw_at 1401 (by decide +kernel) rfl⟩
theorem kw_L_173 : Cond.methodLink RL 173 yX10_addClass ∈ GW := gw_at 1399 (by decide +kernel) rfl
theorem kv_L_174 : KV RL 174 yX10_thrown := ⟨Or.inl (gw_at 1395 (by decide +kernel) rfl), gw_at 1396 (by decide +kernel) rfl, gw_at 1397 (by decide +kernel) rfl⟩
theorem kw_L_174 : Cond.methodLink RL 174 yX10_thrown ∈ GW := gw_at 1395 (by decide +kernel) rfl
theorem kv_L_181 : KV RL 181 yX10_addSite := ⟨Or.inl (gw_at 1414 (by decide +kernel) rfl), gw_at 1415 (by decide +kernel) rfl, gw_at 1416 (by decide +kernel) rfl⟩
theorem kw_L_181 : Cond.methodLink RL 181 yX10_addSite ∈ GW := gw_at 1414 (by decide +kernel) rfl
theorem kv_L_185 : KV RL 185 yX10_addSeason := ⟨Or.inl (gw_at 1426 (by decide +kernel) rfl), gw_at 1427 (by decide +kernel) rfl, gw_at 1428 (by decide +kernel) rfl⟩
theorem kw_L_185 : Cond.methodLink RL 185 yX10_addSeason ∈ GW := gw_at 1426 (by decide +kernel) rfl
theorem kv_L_186 : KV RL 186 yX9_classCount := ⟨Or.inl (gw_at 463 (by decide +kernel) rfl), gw_at 464 (by decide +kernel) rfl, gw_at 465 (by decide +kernel) rfl⟩
theorem kw_L_186 : Cond.methodLink RL 186 yX9_classCount ∈ GW := gw_at 463 (by decide +kernel) rfl
theorem kv_L_189 : KV RL 189 yX10_classCount := ⟨Or.inl (gw_at 1437 (by decide +kernel) rfl), gw_at 1438 (by decide +kernel) rfl, gw_at 1439 (by decide +kernel) rfl⟩
theorem kw_L_189 : Cond.methodLink RL 189 yX10_classCount ∈ GW := gw_at 1437 (by decide +kernel) rfl
theorem kv_L_190 : KV RL 190 yX9_siteCount := ⟨Or.inl (gw_at 467 (by decide +kernel) rfl), gw_at 468 (by decide +kernel) rfl, gw_at 469 (by decide +kernel) rfl⟩
theorem kw_L_190 : Cond.methodLink RL 190 yX9_siteCount ∈ GW := gw_at 467 (by decide +kernel) rfl
theorem kv_L_193 : KV RL 193 yX10_siteCount := ⟨Or.inl (gw_at 1441 (by decide +kernel) rfl), gw_at 1442 (by decide +kernel) rfl, gw_at 1443 (by decide +kernel) rfl⟩
theorem kw_L_193 : Cond.methodLink RL 193 yX10_siteCount ∈ GW := gw_at 1441 (by decide +kernel) rfl
theorem kv_L_196 : KV RL 196 yX10_classOf := ⟨Or.inl (gw_at 1445 (by decide +kernel) rfl), gw_at 1446 (by decide +kernel) rfl, gw_at 1447 (by decide +kernel) rfl⟩
theorem kw_L_196 : Cond.methodLink RL 196 yX10_classOf ∈ GW := gw_at 1445 (by decide +kernel) rfl
theorem kv_L_200 : KV RL 200 yX10_minimum := ⟨Or.inl (gw_at 1457 (by decide +kernel) rfl), gw_at 1458 (by decide +kernel) rfl, gw_at 1459 (by decide +kernel) rfl⟩
theorem kw_L_200 : Cond.methodLink RL 200 yX10_minimum ∈ GW := gw_at 1457 (by decide +kernel) rfl
theorem kv_L_203 : KV RL 203 yX10_price := ⟨Or.inl (gw_at 1473 (by decide +kernel) rfl), gw_at 1474 (by decide +kernel) rfl, gw_at 1475 (by decide +kernel) rfl⟩
theorem kw_L_203 : Cond.methodLink RL 203 yX10_price ∈ GW := gw_at 1473 (by decide +kernel) rfl
theorem kv_L_206 : KV RL 206 yX10_capacity := ⟨Or.inl (gw_at 1481 (by decide +kernel) rfl), gw_at 1482 (by decide +kernel) rfl, gw_at 1483 (by decide +kernel) rfl⟩
theorem kw_L_206 : Cond.methodLink RL 206 yX10_capacity ∈ GW := gw_at 1481 (by decide +kernel) rfl
theorem kv_L_209 : KV RL 209 yX10_released := ⟨Or.inl (gw_at 1497 (by decide +kernel) rfl), gw_at 1498 (by decide +kernel) rfl, gw_at 1499 (by decide +kernel) rfl⟩
theorem kw_L_209 : Cond.methodLink RL 209 yX10_released ∈ GW := gw_at 1497 (by decide +kernel) rfl
theorem kv_L_212 : KV RL 212 yX10_taken := ⟨Or.inl (gw_at 1510 (by decide +kernel) rfl), gw_at 1511 (by decide +kernel) rfl, gw_at 1512 (by decide +kernel) rfl⟩
theorem kw_L_212 : Cond.methodLink RL 212 yX10_taken ∈ GW := gw_at 1510 (by decide +kernel) rfl
theorem kv_L_215 : KV RL 215 yX10_available := ⟨Or.inl (gw_at 1526 (by decide +kernel) rfl), gw_at 1527 (by decide +kernel) rfl, gw_at 1528 (by decide +kernel) rfl⟩
theorem kw_L_215 : Cond.methodLink RL 215 yX10_available ∈ GW := gw_at 1526 (by decide +kernel) rfl
theorem kv_L_218 : KV RL 218 yX10_obstacle := ⟨Or.inl (gw_at 1535 (by decide +kernel) rfl), gw_at 1536 (by decide +kernel) rfl, gw_at 1537 (by decide +kernel) rfl⟩
theorem kw_L_218 : Cond.methodLink RL 218 yX10_obstacle ∈ GW := gw_at 1535 (by decide +kernel) rfl
theorem kv_L_221 : KV RL 221 yX10_longestStay := ⟨Or.inl (gw_at 1551 (by decide +kernel) rfl), gw_at 1552 (by decide +kernel) rfl, gw_at 1553 (by decide +kernel) rfl⟩
theorem kw_L_221 : Cond.methodLink RL 221 yX10_longestStay ∈ GW := gw_at 1551 (by decide +kernel) rfl
theorem kv_L_225 : KV RL 225 yX10_cheapestArrival := ⟨Or.inl (gw_at 1555 (by decide +kernel) rfl), gw_at 1556 (by decide +kernel) rfl, gw_at 1557 (by decide +kernel) rfl⟩
theorem kw_L_225 : Cond.methodLink RL 225 yX10_cheapestArrival ∈ GW := gw_at 1555 (by decide +kernel) rfl
theorem kv_L_228 : KV RL 228 yX10_nextGap := ⟨Or.inl (gw_at 1563 (by decide +kernel) rfl), gw_at 1564 (by decide +kernel) rfl, gw_at 1565 (by decide +kernel) rfl⟩
theorem kw_L_228 : Cond.methodLink RL 228 yX10_nextGap ∈ GW := gw_at 1563 (by decide +kernel) rfl
theorem kv_L_231 : KV RL 231 yX10_book := ⟨Or.inl (gw_at 1567 (by decide +kernel) rfl), gw_at 1568 (by decide +kernel) rfl, gw_at 1569 (by decide +kernel) rfl⟩
theorem kw_L_231 : Cond.methodLink RL 231 yX10_book ∈ GW := gw_at 1567 (by decide +kernel) rfl
theorem kv_L_232 : KV RL 232 yX9_bookingCount := ⟨Or.inl (gw_at 471 (by decide +kernel) rfl), gw_at 472 (by decide +kernel) rfl, gw_at 473 (by decide +kernel) rfl⟩
theorem kw_L_232 : Cond.methodLink RL 232 yX9_bookingCount ∈ GW := gw_at 471 (by decide +kernel) rfl
theorem kv_L_235 : KV RL 235 yX10_bookingCount := ⟨Or.inl (gw_at 1579 (by decide +kernel) rfl), gw_at 1580 (by decide +kernel) rfl, gw_at 1581 (by decide +kernel) rfl⟩
theorem kw_L_235 : Cond.methodLink RL 235 yX10_bookingCount ∈ GW := gw_at 1579 (by decide +kernel) rfl
theorem kv_L_238 : KV RL 238 yX10_bookingState := ⟨Or.inl (gw_at 1583 (by decide +kernel) rfl), gw_at 1584 (by decide +kernel) rfl, gw_at 1585 (by decide +kernel) rfl⟩
theorem kw_L_238 : Cond.methodLink RL 238 yX10_bookingState ∈ GW := gw_at 1583 (by decide +kernel) rfl
theorem kv_L_241 : KV RL 241 yX10_bookingClass := ⟨Or.inl (gw_at 1595 (by decide +kernel) rfl), gw_at 1596 (by decide +kernel) rfl, gw_at 1597 (by decide +kernel) rfl⟩
theorem kw_L_241 : Cond.methodLink RL 241 yX10_bookingClass ∈ GW := gw_at 1595 (by decide +kernel) rfl
theorem kv_L_244 : KV RL 244 yX10_arrival := ⟨Or.inl (gw_at 1599 (by decide +kernel) rfl), gw_at 1600 (by decide +kernel) rfl, gw_at 1601 (by decide +kernel) rfl⟩
theorem kw_L_244 : Cond.methodLink RL 244 yX10_arrival ∈ GW := gw_at 1599 (by decide +kernel) rfl
theorem kv_L_247 : KV RL 247 yX10_departure := ⟨Or.inl (gw_at 1603 (by decide +kernel) rfl), gw_at 1604 (by decide +kernel) rfl, gw_at 1605 (by decide +kernel) rfl⟩
theorem kw_L_247 : Cond.methodLink RL 247 yX10_departure ∈ GW := gw_at 1603 (by decide +kernel) rfl
theorem kv_L_250 : KV RL 250 yX10_cost := ⟨Or.inl (gw_at 1607 (by decide +kernel) rfl), gw_at 1608 (by decide +kernel) rfl, gw_at 1609 (by decide +kernel) rfl⟩
theorem kw_L_250 : Cond.methodLink RL 250 yX10_cost ∈ GW := gw_at 1607 (by decide +kernel) rfl
theorem kv_L_253 : KV RL 253 yX10_siteOf := ⟨Or.inl (gw_at 1611 (by decide +kernel) rfl), gw_at 1612 (by decide +kernel) rfl, gw_at 1613 (by decide +kernel) rfl⟩
theorem kw_L_253 : Cond.methodLink RL 253 yX10_siteOf ∈ GW := gw_at 1611 (by decide +kernel) rfl
theorem kv_L_256 : KV RL 256 yX10_cancel := ⟨Or.inl (gw_at 1615 (by decide +kernel) rfl), gw_at 1616 (by decide +kernel) rfl, gw_at 1617 (by decide +kernel) rfl⟩
theorem kw_L_256 : Cond.methodLink RL 256 yX10_cancel ∈ GW := gw_at 1615 (by decide +kernel) rfl
theorem kv_L_259 : KV RL 259 yX10_vacantSite := ⟨Or.inl (gw_at 1619 (by decide +kernel) rfl), gw_at 1620 (by decide +kernel) rfl, gw_at 1621 (by decide +kernel) rfl⟩
theorem kw_L_259 : Cond.methodLink RL 259 yX10_vacantSite ∈ GW := gw_at 1619 (by decide +kernel) rfl
theorem kv_L_262 : KV RL 262 yX10_checkIn := ⟨Or.inl (gw_at 1635 (by decide +kernel) rfl), gw_at 1636 (by decide +kernel) rfl, gw_at 1637 (by decide +kernel) rfl⟩
theorem kw_L_262 : Cond.methodLink RL 262 yX10_checkIn ∈ GW := gw_at 1635 (by decide +kernel) rfl
theorem kv_L_265 : KV RL 265 yX10_move := ⟨Or.inl (gw_at 1639 (by decide +kernel) rfl), gw_at 1640 (by decide +kernel) rfl, gw_at 1641 (by decide +kernel) rfl⟩
theorem kw_L_265 : Cond.methodLink RL 265 yX10_move ∈ GW := gw_at 1639 (by decide +kernel) rfl
theorem kv_L_268 : KV RL 268 yX10_departEarly := ⟨Or.inl (gw_at 1643 (by decide +kernel) rfl), gw_at 1644 (by decide +kernel) rfl, gw_at 1645 (by decide +kernel) rfl⟩
theorem kw_L_268 : Cond.methodLink RL 268 yX10_departEarly ∈ GW := gw_at 1643 (by decide +kernel) rfl
theorem kv_L_271 : KV RL 271 yX10_extend := ⟨Or.inl (gw_at 1647 (by decide +kernel) rfl), gw_at 1648 (by decide +kernel) rfl, gw_at 1649 (by decide +kernel) rfl⟩
theorem kw_L_271 : Cond.methodLink RL 271 yX10_extend ∈ GW := gw_at 1647 (by decide +kernel) rfl
theorem kv_L_274 : KV RL 274 yX10_endDays := ⟨Or.inl (gw_at 1651 (by decide +kernel) rfl), gw_at 1652 (by decide +kernel) rfl, gw_at 1653 (by decide +kernel) rfl⟩
theorem kw_L_274 : Cond.methodLink RL 274 yX10_endDays ∈ GW := gw_at 1651 (by decide +kernel) rfl
theorem kv_L_275 : KV RL 275 yX9_today := ⟨Or.inl (gw_at 475 (by decide +kernel) rfl), gw_at 476 (by decide +kernel) rfl, gw_at 477 (by decide +kernel) rfl⟩
theorem kw_L_275 : Cond.methodLink RL 275 yX9_today ∈ GW := gw_at 475 (by decide +kernel) rfl
theorem kv_L_278 : KV RL 278 yX10_today := ⟨Or.inl (gw_at 1667 (by decide +kernel) rfl), gw_at 1668 (by decide +kernel) rfl, gw_at 1669 (by decide +kernel) rfl⟩
theorem kw_L_278 : Cond.methodLink RL 278 yX10_today ∈ GW := gw_at 1667 (by decide +kernel) rfl
theorem kv_L_282 : KV RL 282 yX10_close := ⟨Or.inl (gw_at 1671 (by decide +kernel) rfl), gw_at 1672 (by decide +kernel) rfl, gw_at 1673 (by decide +kernel) rfl⟩
theorem kw_L_282 : Cond.methodLink RL 282 yX10_close ∈ GW := gw_at 1671 (by decide +kernel) rfl
theorem kv_L_285 : KV RL 285 yX10_open := ⟨Or.inl (gw_at 1679 (by decide +kernel) rfl), gw_at 1680 (by decide +kernel) rfl, gw_at 1681 (by decide +kernel) rfl⟩
theorem kw_L_285 : Cond.methodLink RL 285 yX10_open ∈ GW := gw_at 1679 (by decide +kernel) rfl
theorem kv_L_288 : KV RL 288 yX10_request := ⟨Or.inl (gw_at 1683 (by decide +kernel) rfl), gw_at 1684 (by decide +kernel) rfl, gw_at 1685 (by decide +kernel) rfl⟩
theorem kw_L_288 : Cond.methodLink RL 288 yX10_request ∈ GW := gw_at 1683 (by decide +kernel) rfl
theorem kv_L_291 : KV RL 291 yX10_requestState := ⟨Or.inl (gw_at 1691 (by decide +kernel) rfl), gw_at 1692 (by decide +kernel) rfl, gw_at 1693 (by decide +kernel) rfl⟩
theorem kw_L_291 : Cond.methodLink RL 291 yX10_requestState ∈ GW := gw_at 1691 (by decide +kernel) rfl
theorem kv_L_294 : KV RL 294 yX10_bookingOf := ⟨Or.inl (gw_at 1699 (by decide +kernel) rfl), gw_at 1700 (by decide +kernel) rfl, gw_at 1701 (by decide +kernel) rfl⟩
theorem kw_L_294 : Cond.methodLink RL 294 yX10_bookingOf ∈ GW := gw_at 1699 (by decide +kernel) rfl
theorem kv_L_298 : KV RL 298 yX10_withdraw := ⟨Or.inl (gw_at 1703 (by decide +kernel) rfl), gw_at 1704 (by decide +kernel) rfl, gw_at 1705 (by decide +kernel) rfl⟩
theorem kw_L_298 : Cond.methodLink RL 298 yX10_withdraw ∈ GW := gw_at 1703 (by decide +kernel) rfl
theorem kv_L_301 : KV RL 301 yX10_fill := ⟨Or.inl (gw_at 1707 (by decide +kernel) rfl), gw_at 1708 (by decide +kernel) rfl, gw_at 1709 (by decide +kernel) rfl⟩
theorem kw_L_301 : Cond.methodLink RL 301 yX10_fill ∈ GW := gw_at 1707 (by decide +kernel) rfl
theorem kv_L_304 : KV RL 304 yX10_planSite := ⟨Or.inl (gw_at 1719 (by decide +kernel) rfl), gw_at 1720 (by decide +kernel) rfl, gw_at 1721 (by decide +kernel) rfl⟩
theorem kw_L_304 : Cond.methodLink RL 304 yX10_planSite ∈ GW := gw_at 1719 (by decide +kernel) rfl
theorem kv_L_307 : KV RL 307 yX10_gapNights := ⟨Or.inl (gw_at 1739 (by decide +kernel) rfl), gw_at 1740 (by decide +kernel) rfl, gw_at 1741 (by decide +kernel) rfl⟩
theorem kw_L_307 : Cond.methodLink RL 307 yX10_gapNights ∈ GW := gw_at 1739 (by decide +kernel) rfl
theorem kv_L_310 : KV RL 310 yX10_orphanNights := ⟨Or.inl (gw_at 1747 (by decide +kernel) rfl), gw_at 1748 (by decide +kernel) rfl, gw_at 1749 (by decide +kernel) rfl⟩
theorem kw_L_310 : Cond.methodLink RL 310 yX10_orphanNights ∈ GW := gw_at 1747 (by decide +kernel) rfl
theorem kv_L_313 : KV RL 313 yX10_occupancyNumerator := ⟨Or.inl (gw_at 1751 (by decide +kernel) rfl), gw_at 1752 (by decide +kernel) rfl, gw_at 1753 (by decide +kernel) rfl⟩
theorem kw_L_313 : Cond.methodLink RL 313 yX10_occupancyNumerator ∈ GW := gw_at 1751 (by decide +kernel) rfl
theorem kv_L_316 : KV RL 316 yX10_occupancyDenominator := ⟨Or.inl (gw_at 1762 (by decide +kernel) rfl), gw_at 1763 (by decide +kernel) rfl, gw_at 1764 (by decide +kernel) rfl⟩
theorem kw_L_316 : Cond.methodLink RL 316 yX10_occupancyDenominator ∈ GW := gw_at 1762 (by decide +kernel) rfl
theorem kv_L_320 : KV RL 320 yX10_expected := ⟨Or.inl (gw_at 1766 (by decide +kernel) rfl), gw_at 1767 (by decide +kernel) rfl, gw_at 1768 (by decide +kernel) rfl⟩
theorem kw_L_320 : Cond.methodLink RL 320 yX10_expected ∈ GW := gw_at 1766 (by decide +kernel) rfl
theorem kv_L_323 : KV RL 323 yX10_dearestBooking := ⟨Or.inl (gw_at 1770 (by decide +kernel) rfl), gw_at 1771 (by decide +kernel) rfl, gw_at 1772 (by decide +kernel) rfl⟩
theorem kw_L_323 : Cond.methodLink RL 323 yX10_dearestBooking ∈ GW := gw_at 1770 (by decide +kernel) rfl
theorem kv_L_326 : KV RL 326 yX10_busiestNight := ⟨Or.inl (gw_at 1778 (by decide +kernel) rfl), gw_at 1779 (by decide +kernel) rfl, gw_at 1780 (by decide +kernel) rfl⟩
theorem kw_L_326 : Cond.methodLink RL 326 yX10_busiestNight ∈ GW := gw_at 1778 (by decide +kernel) rfl
theorem kv_L_327 : KV RL 327 yX9_revenue := ⟨Or.inl (gw_at 479 (by decide +kernel) rfl), gw_at 480 (by decide +kernel) rfl, gw_at 481 (by decide +kernel) rfl⟩
theorem kw_L_327 : Cond.methodLink RL 327 yX9_revenue ∈ GW := gw_at 479 (by decide +kernel) rfl
theorem kv_L_330 : KV RL 330 yX10_revenue := ⟨Or.inl (gw_at 1782 (by decide +kernel) rfl), gw_at 1783 (by decide +kernel) rfl, gw_at 1784 (by decide +kernel) rfl⟩
theorem kw_L_330 : Cond.methodLink RL 330 yX10_revenue ∈ GW := gw_at 1782 (by decide +kernel) rfl
theorem kv_L_333 : KV RL 333 yX10_appendText := ⟨Or.inl (gw_at 1786 (by decide +kernel) rfl), gw_at 1787 (by decide +kernel) rfl, gw_at 1788 (by decide +kernel) rfl⟩
theorem kw_L_333 : Cond.methodLink RL 333 yX10_appendText ∈ GW := gw_at 1786 (by decide +kernel) rfl
theorem kv_L_336 : KV RL 336 yX10_truncateText := ⟨Or.inl (gw_at 1790 (by decide +kernel) rfl), gw_at 1791 (by decide +kernel) rfl, gw_at 1792 (by decide +kernel) rfl⟩
theorem kw_L_336 : Cond.methodLink RL 336 yX10_truncateText ∈ GW := gw_at 1790 (by decide +kernel) rfl
theorem kv_L_337 : KV RL 337 yX9_load := ⟨Or.inl (gw_at 483 (by decide +kernel) rfl), gw_at 484 (by decide +kernel) rfl, gw_at 485 (by decide +kernel) rfl⟩
theorem kw_L_337 : Cond.methodLink RL 337 yX9_load ∈ GW := gw_at 483 (by decide +kernel) rfl
theorem kv_L_340 : KV RL 340 yX10_load := ⟨Or.inl (gw_at 1794 (by decide +kernel) rfl), gw_at 1795 (by decide +kernel) rfl, gw_at 1796 (by decide +kernel) rfl⟩
theorem kw_L_340 : Cond.methodLink RL 340 yX10_load ∈ GW := gw_at 1794 (by decide +kernel) rfl
theorem kv_L_341 : KV RL 341 yX9_errorCode := ⟨Or.inl (gw_at 648 (by decide +kernel) rfl), gw_at 649 (by decide +kernel) rfl, gw_at 650 (by decide +kernel) rfl⟩
theorem kw_L_341 : Cond.methodLink RL 341 yX9_errorCode ∈ GW := gw_at 648 (by decide +kernel) rfl
theorem kv_L_344 : KV RL 344 yX10_errorCode := ⟨Or.inl (gw_at 1855 (by decide +kernel) rfl), gw_at 1856 (by decide +kernel) rfl, gw_at 1857 (by decide +kernel) rfl⟩
theorem kw_L_344 : Cond.methodLink RL 344 yX10_errorCode ∈ GW := gw_at 1855 (by decide +kernel) rfl
theorem kv_L_345 : KV RL 345 yX9_errorPosition := ⟨Or.inl (gw_at 652 (by decide +kernel) rfl), gw_at 653 (by decide +kernel) rfl, gw_at 654 (by decide +kernel) rfl⟩
theorem kw_L_345 : Cond.methodLink RL 345 yX9_errorPosition ∈ GW := gw_at 652 (by decide +kernel) rfl
theorem kv_L_348 : KV RL 348 yX10_errorPosition := ⟨Or.inl (gw_at 1859 (by decide +kernel) rfl), gw_at 1860 (by decide +kernel) rfl, gw_at 1861 (by decide +kernel) rfl⟩
theorem kw_L_348 : Cond.methodLink RL 348 yX10_errorPosition ∈ GW := gw_at 1859 (by decide +kernel) rfl
theorem kv_L_351 : KV RL 351 yX10_save := ⟨Or.inl (gw_at 1863 (by decide +kernel) rfl), gw_at 1864 (by decide +kernel) rfl, gw_at 1865 (by decide +kernel) rfl⟩
theorem kw_L_351 : Cond.methodLink RL 351 yX10_save ∈ GW := gw_at 1863 (by decide +kernel) rfl
theorem kv_L_354 : KV RL 354 yX10_restore := ⟨Or.inl (gw_at 1867 (by decide +kernel) rfl), gw_at 1868 (by decide +kernel) rfl, gw_at 1869 (by decide +kernel) rfl⟩
theorem kw_L_354 : Cond.methodLink RL 354 yX10_restore ∈ GW := gw_at 1867 (by decide +kernel) rfl
theorem ks_X10_39 : KS RX10 39 yX10_isBetween := ⟨Or.inl (gw_at 1403 (by decide +kernel) rfl), gw_at 1404 (by decide +kernel) rfl⟩
theorem kw_X10_39 : Cond.methodLink RX10 39 yX10_isBetween ∈ GW := gw_at 1403 (by decide +kernel) rfl
theorem kv_X10_43 : KV RX10 43 yX10_fail := ⟨Or.inl (gw_at 1406 (by decide +kernel) rfl), gw_at 1408 (by decide +kernel) rfl, gw_at 72 (by decide +kernel) rfl⟩
theorem kw_X10_43 : Cond.methodLink RX10 43 yX10_fail ∈ GW := gw_at 1406 (by decide +kernel) rfl
theorem kv_X10_47 : KV RX10 47 yX10_appendClass := ⟨Or.inl (gw_at 1410 (by decide +kernel) rfl), gw_at 1412 (by decide +kernel) rfl, gw_at 73 (by decide +kernel) rfl⟩
theorem kw_X10_47 : Cond.methodLink RX10 47 yX10_appendClass ∈ GW := gw_at 1410 (by decide +kernel) rfl
theorem kv_X10_51 : KV RX10 51 yX10_isClass := ⟨Or.inl (gw_at 1418 (by decide +kernel) rfl), gw_at 1420 (by decide +kernel) rfl, gw_at 74 (by decide +kernel) rfl⟩
theorem kw_X10_51 : Cond.methodLink RX10 51 yX10_isClass ∈ GW := gw_at 1418 (by decide +kernel) rfl
theorem kv_X10_55 : KV RX10 55 yX10_appendSite := ⟨Or.inl (gw_at 1422 (by decide +kernel) rfl), gw_at 1424 (by decide +kernel) rfl, gw_at 75 (by decide +kernel) rfl⟩
theorem kw_X10_55 : Cond.methodLink RX10 55 yX10_appendSite ∈ GW := gw_at 1422 (by decide +kernel) rfl
theorem ks_X10_58 : KS RX10 58 yX10_isDay := ⟨Or.inl (gw_at 1430 (by decide +kernel) rfl), gw_at 1431 (by decide +kernel) rfl⟩
theorem kw_X10_58 : Cond.methodLink RX10 58 yX10_isDay ∈ GW := gw_at 1430 (by decide +kernel) rfl
theorem kv_X10_61 : KV RX10 61 yX10_appendSeason := ⟨Or.inl (gw_at 1433 (by decide +kernel) rfl), gw_at 1435 (by decide +kernel) rfl, gw_at 76 (by decide +kernel) rfl⟩
theorem kw_X10_61 : Cond.methodLink RX10 61 yX10_appendSeason ∈ GW := gw_at 1433 (by decide +kernel) rfl
theorem kv_X10_65 : KV RX10 65 yX10_isSite := ⟨Or.inl (gw_at 1449 (by decide +kernel) rfl), gw_at 1451 (by decide +kernel) rfl, gw_at 77 (by decide +kernel) rfl⟩
theorem kw_X10_65 : Cond.methodLink RX10 65 yX10_isSite ∈ GW := gw_at 1449 (by decide +kernel) rfl
theorem kv_X10_68 : KV RX10 68 yX10_site := ⟨Or.inl (gw_at 1453 (by decide +kernel) rfl), gw_at 1455 (by decide +kernel) rfl, gw_at 78 (by decide +kernel) rfl⟩
theorem kw_X10_68 : Cond.methodLink RX10 68 yX10_site ∈ GW := gw_at 1453 (by decide +kernel) rfl
theorem kv_X10_72 : KV RX10 72 yX10_season := ⟨Or.inl (gw_at 1469 (by decide +kernel) rfl), gw_at 1471 (by decide +kernel) rfl, gw_at 81 (by decide +kernel) rfl⟩
theorem kw_X10_72 : Cond.methodLink RX10 72 yX10_season ∈ GW := gw_at 1469 (by decide +kernel) rfl
theorem kv_X10_75 : KV RX10 75 yX10_seasonOf := ⟨Or.inl (gw_at 1465 (by decide +kernel) rfl), gw_at 1467 (by decide +kernel) rfl, gw_at 80 (by decide +kernel) rfl⟩
theorem kw_X10_75 : Cond.methodLink RX10 75 yX10_seasonOf ∈ GW := gw_at 1465 (by decide +kernel) rfl
theorem kv_X10_78 : KV RX10 78 yX10_priceOf := ⟨Or.inl (gw_at 1477 (by decide +kernel) rfl), gw_at 1479 (by decide +kernel) rfl, gw_at 82 (by decide +kernel) rfl⟩
theorem kw_X10_78 : Cond.methodLink RX10 78 yX10_priceOf ∈ GW := gw_at 1477 (by decide +kernel) rfl
theorem kv_X10_81 : KV RX10 81 yX10_minimumOf := ⟨Or.inl (gw_at 1461 (by decide +kernel) rfl), gw_at 1463 (by decide +kernel) rfl, gw_at 79 (by decide +kernel) rfl⟩
theorem kw_X10_81 : Cond.methodLink RX10 81 yX10_minimumOf ∈ GW := gw_at 1461 (by decide +kernel) rfl
theorem kv_X10_84 : KV RX10 84 yX10_isOpenOn := ⟨Or.inl (gw_at 1489 (by decide +kernel) rfl), gw_at 1491 (by decide +kernel) rfl, gw_at 84 (by decide +kernel) rfl⟩
theorem kw_X10_84 : Cond.methodLink RX10 84 yX10_isOpenOn ∈ GW := gw_at 1489 (by decide +kernel) rfl
theorem kv_X10_88 : KV RX10 88 yX10_isNight := ⟨Or.inl (gw_at 1493 (by decide +kernel) rfl), gw_at 1495 (by decide +kernel) rfl, gw_at 85 (by decide +kernel) rfl⟩
theorem kw_X10_88 : Cond.methodLink RX10 88 yX10_isNight ∈ GW := gw_at 1493 (by decide +kernel) rfl
theorem kv_X10_91 : KV RX10 91 yX10_siteClass := ⟨Or.inl (gw_at 1505 (by decide +kernel) rfl), gw_at 1507 (by decide +kernel) rfl, gw_at 87 (by decide +kernel) rfl⟩
theorem kw_X10_91 : Cond.methodLink RX10 91 yX10_siteClass ∈ GW := gw_at 1505 (by decide +kernel) rfl
theorem kv_X10_94 : KV RX10 94 yX10_capacityOf := ⟨Or.inl (gw_at 1485 (by decide +kernel) rfl), gw_at 1487 (by decide +kernel) rfl, gw_at 83 (by decide +kernel) rfl⟩
theorem kw_X10_94 : Cond.methodLink RX10 94 yX10_capacityOf ∈ GW := gw_at 1485 (by decide +kernel) rfl
theorem km_X10_97 : KMin RX10 97 := ⟨gw_at 1509 (by decide +kernel) rfl, gw_at 492 (by decide +kernel) rfl, gw_at 145 (by decide +kernel) rfl, gw_at 493 (by decide +kernel) rfl⟩
theorem kv_X10_102 : KV RX10 102 yX10_booking := ⟨Or.inl (gw_at 1518 (by decide +kernel) rfl), gw_at 1520 (by decide +kernel) rfl, gw_at 89 (by decide +kernel) rfl⟩
theorem kw_X10_102 : Cond.methodLink RX10 102 yX10_booking ∈ GW := gw_at 1518 (by decide +kernel) rfl
theorem kv_X10_105 : KV RX10 105 yX10_isActive := ⟨Or.inl (gw_at 1522 (by decide +kernel) rfl), gw_at 1524 (by decide +kernel) rfl, gw_at 90 (by decide +kernel) rfl⟩
theorem kw_X10_105 : Cond.methodLink RX10 105 yX10_isActive ∈ GW := gw_at 1522 (by decide +kernel) rfl
theorem kv_X10_108 : KV RX10 108 yX10_releasedOf := ⟨Or.inl (gw_at 1501 (by decide +kernel) rfl), gw_at 1503 (by decide +kernel) rfl, gw_at 86 (by decide +kernel) rfl⟩
theorem kw_X10_108 : Cond.methodLink RX10 108 yX10_releasedOf ∈ GW := gw_at 1501 (by decide +kernel) rfl
theorem kv_X10_111 : KV RX10 111 yX10_takenOf := ⟨Or.inl (gw_at 1514 (by decide +kernel) rfl), gw_at 1516 (by decide +kernel) rfl, gw_at 88 (by decide +kernel) rfl⟩
theorem kw_X10_111 : Cond.methodLink RX10 111 yX10_takenOf ∈ GW := gw_at 1514 (by decide +kernel) rfl
theorem km_X10_114 : KMax RX10 114 := ⟨gw_at 1534 (by decide +kernel) rfl, gw_at 883 (by decide +kernel) rfl, gw_at 145 (by decide +kernel) rfl, gw_at 884 (by decide +kernel) rfl⟩
theorem kv_X10_117 : KV RX10 117 yX10_availableOf := ⟨Or.inl (gw_at 1530 (by decide +kernel) rfl), gw_at 1532 (by decide +kernel) rfl, gw_at 91 (by decide +kernel) rfl⟩
theorem kw_X10_117 : Cond.methodLink RX10 117 yX10_availableOf ∈ GW := gw_at 1530 (by decide +kernel) rfl
theorem kv_X10_122 : KV RX10 122 yX10_nightsObstacle := ⟨Or.inl (gw_at 1546 (by decide +kernel) rfl), gw_at 1548 (by decide +kernel) rfl, gw_at 93 (by decide +kernel) rfl⟩
theorem kw_X10_122 : Cond.methodLink RX10 122 yX10_nightsObstacle ∈ GW := gw_at 1546 (by decide +kernel) rfl
theorem ks_X10_125 : KS RX10 125 yX10_isStay := ⟨Or.inl (gw_at 1539 (by decide +kernel) rfl), gw_at 1540 (by decide +kernel) rfl⟩
theorem kw_X10_125 : Cond.methodLink RX10 125 yX10_isStay ∈ GW := gw_at 1539 (by decide +kernel) rfl
theorem kv_X10_128 : KV RX10 128 yX10_obstacleOf := ⟨Or.inl (gw_at 1542 (by decide +kernel) rfl), gw_at 1544 (by decide +kernel) rfl, gw_at 92 (by decide +kernel) rfl⟩
theorem kw_X10_128 : Cond.methodLink RX10 128 yX10_obstacleOf ∈ GW := gw_at 1542 (by decide +kernel) rfl
theorem kv_X10_131 : KV RX10 131 yX10_pricesOf := ⟨Or.inl (gw_at 1559 (by decide +kernel) rfl), gw_at 1561 (by decide +kernel) rfl, gw_at 94 (by decide +kernel) rfl⟩
theorem kw_X10_131 : Cond.methodLink RX10 131 yX10_pricesOf ∈ GW := gw_at 1559 (by decide +kernel) rfl
theorem kv_X10_134 : KV RX10 134 yX10_setBooking := ⟨Or.inl (gw_at 1575 (by decide +kernel) rfl), gw_at 1577 (by decide +kernel) rfl, gw_at 96 (by decide +kernel) rfl⟩
theorem kw_X10_134 : Cond.methodLink RX10 134 yX10_setBooking ∈ GW := gw_at 1575 (by decide +kernel) rfl
theorem kv_X10_138 : KV RX10 138 yX10_appendBooking := ⟨Or.inl (gw_at 1571 (by decide +kernel) rfl), gw_at 1573 (by decide +kernel) rfl, gw_at 95 (by decide +kernel) rfl⟩
theorem kw_X10_138 : Cond.methodLink RX10 138 yX10_appendBooking ∈ GW := gw_at 1571 (by decide +kernel) rfl
theorem kv_X10_141 : KV RX10 141 yX10_isBooking := ⟨Or.inl (gw_at 1591 (by decide +kernel) rfl), gw_at 1593 (by decide +kernel) rfl, gw_at 98 (by decide +kernel) rfl⟩
theorem kw_X10_141 : Cond.methodLink RX10 141 yX10_isBooking ∈ GW := gw_at 1591 (by decide +kernel) rfl
theorem kv_X10_144 : KV RX10 144 yX10_bookingField := ⟨Or.inl (gw_at 1587 (by decide +kernel) rfl), gw_at 1589 (by decide +kernel) rfl, gw_at 97 (by decide +kernel) rfl⟩
theorem kw_X10_144 : Cond.methodLink RX10 144 yX10_bookingField ∈ GW := gw_at 1587 (by decide +kernel) rfl
theorem kv_X10_147 : KV RX10 147 yX10_isOccupied := ⟨Or.inl (gw_at 1631 (by decide +kernel) rfl), gw_at 1633 (by decide +kernel) rfl, gw_at 101 (by decide +kernel) rfl⟩
theorem kw_X10_147 : Cond.methodLink RX10 147 yX10_isOccupied ∈ GW := gw_at 1631 (by decide +kernel) rfl
theorem kv_X10_150 : KV RX10 150 yX10_isVacant := ⟨Or.inl (gw_at 1627 (by decide +kernel) rfl), gw_at 1629 (by decide +kernel) rfl, gw_at 100 (by decide +kernel) rfl⟩
theorem kw_X10_150 : Cond.methodLink RX10 150 yX10_isVacant ∈ GW := gw_at 1627 (by decide +kernel) rfl
theorem kv_X10_153 : KV RX10 153 yX10_vacantSiteOf := ⟨Or.inl (gw_at 1623 (by decide +kernel) rfl), gw_at 1625 (by decide +kernel) rfl, gw_at 99 (by decide +kernel) rfl⟩
theorem kw_X10_153 : Cond.methodLink RX10 153 yX10_vacantSiteOf ∈ GW := gw_at 1623 (by decide +kernel) rfl
theorem kv_X10_156 : KV RX10 156 yX10_requestField := ⟨Or.inl (gw_at 1659 (by decide +kernel) rfl), gw_at 1661 (by decide +kernel) rfl, gw_at 103 (by decide +kernel) rfl⟩
theorem kw_X10_156 : Cond.methodLink RX10 156 yX10_requestField ∈ GW := gw_at 1659 (by decide +kernel) rfl
theorem kv_X10_159 : KV RX10 159 yX10_setRequest := ⟨Or.inl (gw_at 1663 (by decide +kernel) rfl), gw_at 1665 (by decide +kernel) rfl, gw_at 104 (by decide +kernel) rfl⟩
theorem kw_X10_159 : Cond.methodLink RX10 159 yX10_setRequest ∈ GW := gw_at 1663 (by decide +kernel) rfl
theorem kv_X10_162 : KV RX10 162 yX10_endDay := ⟨Or.inl (gw_at 1655 (by decide +kernel) rfl), gw_at 1657 (by decide +kernel) rfl, gw_at 102 (by decide +kernel) rfl⟩
theorem kw_X10_162 : Cond.methodLink RX10 162 yX10_endDay ∈ GW := gw_at 1655 (by decide +kernel) rfl
theorem kv_X10_165 : KV RX10 165 yX10_hasSpareSite := ⟨Or.inl (gw_at 1675 (by decide +kernel) rfl), gw_at 1677 (by decide +kernel) rfl, gw_at 105 (by decide +kernel) rfl⟩
theorem kw_X10_165 : Cond.methodLink RX10 165 yX10_hasSpareSite ∈ GW := gw_at 1675 (by decide +kernel) rfl
theorem kv_X10_168 : KV RX10 168 yX10_appendRequest := ⟨Or.inl (gw_at 1687 (by decide +kernel) rfl), gw_at 1689 (by decide +kernel) rfl, gw_at 106 (by decide +kernel) rfl⟩
theorem kw_X10_168 : Cond.methodLink RX10 168 yX10_appendRequest ∈ GW := gw_at 1687 (by decide +kernel) rfl
theorem kv_X10_171 : KV RX10 171 yX10_isRequest := ⟨Or.inl (gw_at 1695 (by decide +kernel) rfl), gw_at 1697 (by decide +kernel) rfl, gw_at 107 (by decide +kernel) rfl⟩
theorem kw_X10_171 : Cond.methodLink RX10 171 yX10_isRequest ∈ GW := gw_at 1695 (by decide +kernel) rfl
theorem kv_X10_174 : KV RX10 174 yX10_isAhead := ⟨Or.inl (gw_at 1715 (by decide +kernel) rfl), gw_at 1717 (by decide +kernel) rfl, gw_at 109 (by decide +kernel) rfl⟩
theorem kw_X10_174 : Cond.methodLink RX10 174 yX10_isAhead ∈ GW := gw_at 1715 (by decide +kernel) rfl
theorem kv_X10_177 : KV RX10 177 yX10_nextRequest := ⟨Or.inl (gw_at 1711 (by decide +kernel) rfl), gw_at 1713 (by decide +kernel) rfl, gw_at 108 (by decide +kernel) rfl⟩
theorem kw_X10_177 : Cond.methodLink RX10 177 yX10_nextRequest ∈ GW := gw_at 1711 (by decide +kernel) rfl
theorem kv_X10_186 : KV RX10 186 yX10_place := ⟨Or.inl (gw_at 1727 (by decide +kernel) rfl), gw_at 1729 (by decide +kernel) rfl, gw_at 111 (by decide +kernel) rfl⟩
theorem kw_X10_186 : Cond.methodLink RX10 186 yX10_place ∈ GW := gw_at 1727 (by decide +kernel) rfl
theorem kv_X10_190 : KV RX10 190 yX10_nextBooking := ⟨Or.inl (gw_at 1731 (by decide +kernel) rfl), gw_at 1733 (by decide +kernel) rfl, gw_at 112 (by decide +kernel) rfl⟩
theorem kw_X10_190 : Cond.methodLink RX10 190 yX10_nextBooking ∈ GW := gw_at 1731 (by decide +kernel) rfl
theorem kv_X10_193 : KV RX10 193 yX10_freeSite := ⟨Or.inl (gw_at 1735 (by decide +kernel) rfl), gw_at 1737 (by decide +kernel) rfl, gw_at 113 (by decide +kernel) rfl⟩
theorem kw_X10_193 : Cond.methodLink RX10 193 yX10_freeSite ∈ GW := gw_at 1735 (by decide +kernel) rfl
theorem kv_X10_196 : KV RX10 196 yX10_plan := ⟨Or.inl (gw_at 1723 (by decide +kernel) rfl), gw_at 1725 (by decide +kernel) rfl, gw_at 110 (by decide +kernel) rfl⟩
theorem kw_X10_196 : Cond.methodLink RX10 196 yX10_plan ∈ GW := gw_at 1723 (by decide +kernel) rfl
theorem kv_X10_199 : KV RX10 199 yX10_wrongPlan := ⟨Or.inl (gw_at 1743 (by decide +kernel) rfl), gw_at 1745 (by decide +kernel) rfl, gw_at 114 (by decide +kernel) rfl⟩
theorem kw_X10_199 : Cond.methodLink RX10 199 yX10_wrongPlan ∈ GW := gw_at 1743 (by decide +kernel) rfl
theorem ks_X10_202 : KS RX10 202 yX10_commonDivisor := ⟨Or.inl (gw_at 1759 (by decide +kernel) rfl), gw_at 1760 (by decide +kernel) rfl⟩
theorem kw_X10_202 : Cond.methodLink RX10 202 yX10_commonDivisor ∈ GW := gw_at 1759 (by decide +kernel) rfl
theorem kv_X10_205 : KV RX10 205 yX10_occupancy := ⟨Or.inl (gw_at 1755 (by decide +kernel) rfl), gw_at 1757 (by decide +kernel) rfl, gw_at 115 (by decide +kernel) rfl⟩
theorem kw_X10_205 : Cond.methodLink RX10 205 yX10_occupancy ∈ GW := gw_at 1755 (by decide +kernel) rfl
theorem kv_X10_209 : KV RX10 209 yX10_nightsOf := ⟨Or.inl (gw_at 1774 (by decide +kernel) rfl), gw_at 1776 (by decide +kernel) rfl, gw_at 116 (by decide +kernel) rfl⟩
theorem kw_X10_209 : Cond.methodLink RX10 209 yX10_nightsOf ∈ GW := gw_at 1774 (by decide +kernel) rfl
theorem kv_X10_219 : KV RX10 219 yX10_byteAt := ⟨Or.inl (gw_at 1805 (by decide +kernel) rfl), gw_at 1807 (by decide +kernel) rfl, gw_at 118 (by decide +kernel) rfl⟩
theorem kw_X10_219 : Cond.methodLink RX10 219 yX10_byteAt ∈ GW := gw_at 1805 (by decide +kernel) rfl
theorem ks_X10_238 : KS RX10 238 yX10_isLetter := ⟨Or.inl (gw_at 1809 (by decide +kernel) rfl), gw_at 1810 (by decide +kernel) rfl⟩
theorem kw_X10_238 : Cond.methodLink RX10 238 yX10_isLetter ∈ GW := gw_at 1809 (by decide +kernel) rfl
theorem ks_X10_245 : KS RX10 245 yX10_isDigit := ⟨Or.inl (gw_at 1814 (by decide +kernel) rfl), gw_at 1815 (by decide +kernel) rfl⟩
theorem kw_X10_245 : Cond.methodLink RX10 245 yX10_isDigit ∈ GW := gw_at 1814 (by decide +kernel) rfl
theorem kv_X10_261 : KV RX10 261 yX10_nextToken := ⟨Or.inl (gw_at 1801 (by decide +kernel) rfl), gw_at 1803 (by decide +kernel) rfl, gw_at 117 (by decide +kernel) rfl⟩
theorem kw_X10_261 : Cond.methodLink RX10 261 yX10_nextToken ∈ GW := gw_at 1801 (by decide +kernel) rfl
theorem kv_X10_264 : KV RX10 264 yX10_require := ⟨Or.inl (gw_at 1832 (by decide +kernel) rfl), gw_at 1834 (by decide +kernel) rfl, gw_at 122 (by decide +kernel) rfl⟩
theorem kw_X10_264 : Cond.methodLink RX10 264 yX10_require ∈ GW := gw_at 1832 (by decide +kernel) rfl
theorem kv_X10_268 : KV RX10 268 yX10_advanceToken := ⟨Or.inl (gw_at 1836 (by decide +kernel) rfl), gw_at 1838 (by decide +kernel) rfl, gw_at 123 (by decide +kernel) rfl⟩
theorem kw_X10_268 : Cond.methodLink RX10 268 yX10_advanceToken ∈ GW := gw_at 1836 (by decide +kernel) rfl
theorem kv_X10_271 : KV RX10 271 yX10_parseNumber := ⟨Or.inl (gw_at 1840 (by decide +kernel) rfl), gw_at 1842 (by decide +kernel) rfl, gw_at 124 (by decide +kernel) rfl⟩
theorem kw_X10_271 : Cond.methodLink RX10 271 yX10_parseNumber ∈ GW := gw_at 1840 (by decide +kernel) rfl
theorem kv_X10_276 : KV RX10 276 yX10_isWord := ⟨Or.inl (gw_at 1822 (by decide +kernel) rfl), gw_at 1824 (by decide +kernel) rfl, gw_at 120 (by decide +kernel) rfl⟩
theorem kw_X10_276 : Cond.methodLink RX10 276 yX10_isWord ∈ GW := gw_at 1822 (by decide +kernel) rfl
theorem kv_X10_280 : KV RX10 280 yX10_parseClass := ⟨Or.inl (gw_at 1828 (by decide +kernel) rfl), gw_at 1830 (by decide +kernel) rfl, gw_at 121 (by decide +kernel) rfl⟩
theorem kw_X10_280 : Cond.methodLink RX10 280 yX10_parseClass ∈ GW := gw_at 1828 (by decide +kernel) rfl
theorem kv_X10_284 : KV RX10 284 yX10_parseSites := ⟨Or.inl (gw_at 1845 (by decide +kernel) rfl), gw_at 1847 (by decide +kernel) rfl, gw_at 125 (by decide +kernel) rfl⟩
theorem kw_X10_284 : Cond.methodLink RX10 284 yX10_parseSites ∈ GW := gw_at 1845 (by decide +kernel) rfl
theorem kv_X10_288 : KV RX10 288 yX10_parseSeason := ⟨Or.inl (gw_at 1850 (by decide +kernel) rfl), gw_at 1852 (by decide +kernel) rfl, gw_at 126 (by decide +kernel) rfl⟩
theorem kw_X10_288 : Cond.methodLink RX10 288 yX10_parseSeason ∈ GW := gw_at 1850 (by decide +kernel) rfl
theorem ks_X10_293 : KS RX10 293 yX10_copy := ⟨Or.inl (gw_at 1798 (by decide +kernel) rfl), gw_at 1799 (by decide +kernel) rfl⟩
theorem kw_X10_293 : Cond.methodLink RX10 293 yX10_copy ∈ GW := gw_at 1798 (by decide +kernel) rfl
theorem kv_X10_297 : KV RX10 297 yX10_parseStatement := ⟨Or.inl (gw_at 1817 (by decide +kernel) rfl), gw_at 1819 (by decide +kernel) rfl, gw_at 119 (by decide +kernel) rfl⟩
theorem kw_X10_297 : Cond.methodLink RX10 297 yX10_parseStatement ∈ GW := gw_at 1817 (by decide +kernel) rfl
abbrev tX9_init : ATy := (RX9, cX9_init, 1, none, { frames := 3, cells := 62, slots := 2786, locals := 66 }, true)
abbrev tX9_addClass : ATy := (RX9, cX9_addClass, 4, (some .int), { frames := 7, cells := 4, slots := 24, locals := 112 }, false)
abbrev tX9_addSite : ATy := (RX9, cX9_addSite, 2, (some .int), { frames := 7, cells := 2, slots := 12, locals := 111 }, false)
abbrev tX9_addSeason : ATy := (RX9, cX9_addSeason, 6, (some .int), { frames := 7, cells := 6, slots := 36, locals := 112 }, false)
abbrev tX9_classCount : ATy := (RX9, cX9_classCount, 1, (some .int), { frames := 0, cells := 0, slots := 0, locals := 0 }, false)
abbrev tX9_siteCount : ATy := (RX9, cX9_siteCount, 1, (some .int), { frames := 0, cells := 0, slots := 0, locals := 0 }, false)
abbrev tX9_classOf : ATy := (RX9, cX9_classOf, 2, (some .int), { frames := 7, cells := 1, slots := 6, locals := 111 }, false)
abbrev tX9_minimum : ATy := (RX9, cX9_minimum, 3, (some .int), { frames := 7, cells := 2, slots := 12, locals := 112 }, false)
abbrev tX9_price : ATy := (RX9, cX9_price, 3, (some .int), { frames := 7, cells := 2, slots := 12, locals := 112 }, false)
abbrev tX9_capacity : ATy := (RX9, cX9_capacity, 3, (some .int), { frames := 7, cells := 1, slots := 6, locals := 111 }, false)
abbrev tX9_released : ATy := (RX9, cX9_released, 3, (some .int), { frames := 7, cells := 1, slots := 6, locals := 111 }, false)
abbrev tX9_taken : ATy := (RX9, cX9_taken, 3, (some .int), { frames := 7, cells := 1, slots := 6, locals := 111 }, false)
abbrev tX9_available : ATy := (RX9, cX9_available, 4, (some .int), { frames := 7, cells := 1, slots := 6, locals := 111 }, false)
abbrev tX9_obstacle : ATy := (RX9, cX9_obstacle, 4, (some .int), { frames := 7, cells := 2, slots := 12, locals := 116 }, false)
abbrev tX9_longestStay : ATy := (RX9, cX9_longestStay, 4, (some .int), { frames := 7, cells := 1, slots := 6, locals := 116 }, false)
abbrev tX9_cheapestArrival : ATy := (RX9, cX9_cheapestArrival, 9, (some .int), { frames := 7, cells := 4, slots := 24, locals := 116 }, false)
abbrev tX9_nextGap : ATy := (RX9, cX9_nextGap, 4, (some .int), { frames := 7, cells := 2, slots := 12, locals := 112 }, false)
abbrev tX9_book : ATy := (RX9, cX9_book, 4, (some .int), { frames := 7, cells := 3, slots := 18, locals := 116 }, false)
abbrev tX9_bookingCount : ATy := (RX9, cX9_bookingCount, 1, (some .int), { frames := 0, cells := 0, slots := 0, locals := 0 }, false)
abbrev tX9_bookingState : ATy := (RX9, cX9_bookingState, 2, (some .int), { frames := 7, cells := 1, slots := 6, locals := 111 }, false)
abbrev tX9_bookingClass : ATy := (RX9, cX9_bookingClass, 2, (some .int), { frames := 7, cells := 1, slots := 6, locals := 111 }, false)
abbrev tX9_arrival : ATy := (RX9, cX9_arrival, 2, (some .int), { frames := 7, cells := 1, slots := 6, locals := 111 }, false)
abbrev tX9_departure : ATy := (RX9, cX9_departure, 2, (some .int), { frames := 7, cells := 1, slots := 6, locals := 111 }, false)
abbrev tX9_cost : ATy := (RX9, cX9_cost, 2, (some .int), { frames := 7, cells := 1, slots := 6, locals := 111 }, false)
abbrev tX9_siteOf : ATy := (RX9, cX9_siteOf, 2, (some .int), { frames := 7, cells := 1, slots := 6, locals := 111 }, false)
abbrev tX9_cancel : ATy := (RX9, cX9_cancel, 3, (some .int), { frames := 7, cells := 2, slots := 12, locals := 111 }, false)
abbrev tX9_vacantSite : ATy := (RX9, cX9_vacantSite, 2, (some .int), { frames := 7, cells := 1, slots := 6, locals := 111 }, false)
abbrev tX9_checkIn : ATy := (RX9, cX9_checkIn, 5, (some .int), { frames := 7, cells := 6, slots := 36, locals := 112 }, false)
abbrev tX9_move : ATy := (RX9, cX9_move, 4, (some .int), { frames := 7, cells := 5, slots := 30, locals := 112 }, false)
abbrev tX9_departEarly : ATy := (RX9, cX9_departEarly, 3, (some .int), { frames := 7, cells := 2, slots := 12, locals := 111 }, false)
abbrev tX9_extend : ATy := (RX9, cX9_extend, 6, (some .int), { frames := 7, cells := 4, slots := 24, locals := 112 }, false)
abbrev tX9_endDays : ATy := (RX9, cX9_endDays, 3, (some .int), { frames := 7, cells := 2, slots := 12, locals := 112 }, false)
abbrev tX9_today : ATy := (RX9, cX9_today, 1, (some .int), { frames := 0, cells := 0, slots := 0, locals := 0 }, false)
abbrev tX9_close : ATy := (RX9, cX9_close, 3, none, { frames := 7, cells := 4, slots := 24, locals := 112 }, false)
abbrev tX9_open : ATy := (RX9, cX9_open, 3, (some .int), { frames := 7, cells := 2, slots := 12, locals := 111 }, false)
abbrev tX9_request : ATy := (RX9, cX9_request, 4, (some .int), { frames := 7, cells := 4, slots := 24, locals := 112 }, false)
abbrev tX9_requestState : ATy := (RX9, cX9_requestState, 2, (some .int), { frames := 7, cells := 1, slots := 6, locals := 111 }, false)
abbrev tX9_bookingOf : ATy := (RX9, cX9_bookingOf, 2, (some .int), { frames := 7, cells := 1, slots := 6, locals := 111 }, false)
abbrev tX9_withdraw : ATy := (RX9, cX9_withdraw, 2, none, { frames := 7, cells := 2, slots := 12, locals := 111 }, false)
abbrev tX9_fill : ATy := (RX9, cX9_fill, 4, (some .int), { frames := 7, cells := 1, slots := 6, locals := 140 }, false)
abbrev tX9_planSite : ATy := (RX9, cX9_planSite, 3, (some .int), { frames := 7, cells := 3, slots := 18, locals := 112 }, false)
abbrev tX9_gapNights : ATy := (RX9, cX9_gapNights, 3, (some .int), { frames := 7, cells := 2, slots := 12, locals := 112 }, false)
abbrev tX9_orphanNights : ATy := (RX9, cX9_orphanNights, 3, (some .int), { frames := 7, cells := 2, slots := 12, locals := 112 }, false)
abbrev tX9_occupancyNumerator : ATy := (RX9, cX9_occupancyNumerator, 6, (some .int), { frames := 8, cells := 3, slots := 18, locals := 134 }, false)
abbrev tX9_occupancyDenominator : ATy := (RX9, cX9_occupancyDenominator, 7, (some .int), { frames := 8, cells := 3, slots := 18, locals := 134 }, false)
abbrev tX9_expected : ATy := (RX9, cX9_expected, 7, (some .int), { frames := 7, cells := 2, slots := 12, locals := 112 }, false)
abbrev tX9_dearestBooking : ATy := (RX9, cX9_dearestBooking, 4, (some .int), { frames := 7, cells := 1, slots := 6, locals := 111 }, false)
abbrev tX9_busiestNight : ATy := (RX9, cX9_busiestNight, 8, (some .int), { frames := 8, cells := 3, slots := 18, locals := 134 }, false)
abbrev tX9_revenue : ATy := (RX9, cX9_revenue, 3, (some .int), { frames := 0, cells := 0, slots := 0, locals := 0 }, false)
abbrev tX9_appendText : ATy := (RX9, cX9_appendText, 3, (some .int), { frames := 6, cells := 1, slots := 6, locals := 90 }, false)
abbrev tX9_truncateText : ATy := (RX9, cX9_truncateText, 2, (some .int), { frames := 7, cells := 1, slots := 6, locals := 112 }, false)
abbrev tX9_load : ATy := (RX9, cX9_load, 2, (some .int), { frames := 8, cells := 0, slots := 0, locals := 205 }, false)
abbrev tX9_errorCode : ATy := (RX9, cX9_errorCode, 1, (some .int), { frames := 0, cells := 0, slots := 0, locals := 0 }, false)
abbrev tX9_errorPosition : ATy := (RX9, cX9_errorPosition, 1, (some .int), { frames := 0, cells := 0, slots := 0, locals := 0 }, false)
abbrev tX9_save : ATy := (RX9, cX9_save, 3, none, { frames := 7, cells := 28, slots := 602, locals := 112 }, false)
abbrev tX9_restore : ATy := (RX9, cX9_restore, 3, none, { frames := 7, cells := 2, slots := 12, locals := 112 }, false)
abbrev tX9_checkClass : ATy := (RX9, cX9_checkClass, 2, none, { frames := 6, cells := 1, slots := 6, locals := 90 }, false)
abbrev tX9_checkSite : ATy := (RX9, cX9_checkSite, 2, none, { frames := 6, cells := 1, slots := 6, locals := 90 }, false)
abbrev tX9_checkBooking : ATy := (RX9, cX9_checkBooking, 2, none, { frames := 6, cells := 1, slots := 6, locals := 90 }, false)
abbrev tX9_checkRequest : ATy := (RX9, cX9_checkRequest, 2, none, { frames := 6, cells := 1, slots := 6, locals := 90 }, false)
abbrev tX9_checkSameClass : ATy := (RX9, cX9_checkSameClass, 3, none, { frames := 6, cells := 1, slots := 6, locals := 90 }, false)
abbrev tX9_checkNights : ATy := (RX9, cX9_checkNights, 3, none, { frames := 7, cells := 2, slots := 12, locals := 112 }, false)
abbrev tX9_checkRange : ATy := (RX9, cX9_checkRange, 3, none, { frames := 6, cells := 1, slots := 6, locals := 90 }, false)
abbrev tX9_checkState : ATy := (RX9, cX9_checkState, 1, none, { frames := 6, cells := 1, slots := 6, locals := 90 }, false)
abbrev tX9_bestRequest : ATy := (RX9, cX9_bestRequest, 5, (some .int), { frames := 5, cells := 0, slots := 0, locals := 116 }, false)
abbrev tX9_commonDivisor : ATy := (RX9, cX9_commonDivisor, 6, (some .int), { frames := 0, cells := 0, slots := 0, locals := 0 }, false)
abbrev tX9_copyRow : ATy := (RX9, cX9_copyRow, 2, none, { frames := 1, cells := 0, slots := 0, locals := 45 }, false)
abbrev tX10_init : ATy := (RX10, cX10_init, 1, none, { frames := 1, cells := 7, slots := 2866, locals := 26 }, true)
abbrev tX10_thrown : ATy := (RX10, cX10_thrown, 1, (some .int), { frames := 0, cells := 0, slots := 0, locals := 0 }, false)
abbrev tX10_fail : ATy := (RX10, cX10_fail, 2, (some .int), { frames := 0, cells := 0, slots := 0, locals := 0 }, false)
abbrev tX10_isBetween : ATy := (RX10, cX10_isBetween, 3, (some .boolean), { frames := 0, cells := 0, slots := 0, locals := 0 }, false)
abbrev tX10_isClass : ATy := (RX10, cX10_isClass, 2, (some .boolean), { frames := 1, cells := 0, slots := 0, locals := 22 }, false)
abbrev tX10_isSite : ATy := (RX10, cX10_isSite, 2, (some .boolean), { frames := 1, cells := 0, slots := 0, locals := 22 }, false)
abbrev tX10_isBooking : ATy := (RX10, cX10_isBooking, 2, (some .boolean), { frames := 1, cells := 0, slots := 0, locals := 22 }, false)
abbrev tX10_isRequest : ATy := (RX10, cX10_isRequest, 2, (some .boolean), { frames := 1, cells := 0, slots := 0, locals := 22 }, false)
abbrev tX10_isDay : ATy := (RX10, cX10_isDay, 1, (some .boolean), { frames := 1, cells := 0, slots := 0, locals := 22 }, false)
abbrev tX10_isStay : ATy := (RX10, cX10_isStay, 1, (some .boolean), { frames := 1, cells := 0, slots := 0, locals := 22 }, false)
abbrev tX10_siteClass : ATy := (RX10, cX10_siteClass, 3, (some .int), { frames := 0, cells := 0, slots := 0, locals := 0 }, false)
abbrev tX10_site : ATy := (RX10, cX10_site, 3, (some .int), { frames := 0, cells := 0, slots := 0, locals := 0 }, false)
abbrev tX10_season : ATy := (RX10, cX10_season, 3, (some .int), { frames := 0, cells := 0, slots := 0, locals := 0 }, false)
abbrev tX10_booking : ATy := (RX10, cX10_booking, 3, (some .int), { frames := 0, cells := 0, slots := 0, locals := 0 }, false)
abbrev tX10_setBooking : ATy := (RX10, cX10_setBooking, 4, none, { frames := 0, cells := 0, slots := 0, locals := 0 }, false)
abbrev tX10_requestField : ATy := (RX10, cX10_requestField, 3, (some .int), { frames := 0, cells := 0, slots := 0, locals := 0 }, false)
abbrev tX10_setRequest : ATy := (RX10, cX10_setRequest, 4, none, { frames := 0, cells := 0, slots := 0, locals := 0 }, false)
abbrev tX10_copy : ATy := (RX10, cX10_copy, 5, none, { frames := 0, cells := 0, slots := 0, locals := 0 }, false)
abbrev tX10_appendClass : ATy := (RX10, cX10_appendClass, 5, (some .int), { frames := 0, cells := 0, slots := 0, locals := 0 }, false)
abbrev tX10_addClass : ATy := (RX10, cX10_addClass, 4, (some .int), { frames := 1, cells := 0, slots := 0, locals := 24 }, false)
abbrev tX10_appendSite : ATy := (RX10, cX10_appendSite, 3, (some .int), { frames := 0, cells := 0, slots := 0, locals := 0 }, false)
abbrev tX10_addSite : ATy := (RX10, cX10_addSite, 2, (some .int), { frames := 2, cells := 0, slots := 0, locals := 43 }, false)
abbrev tX10_appendSeason : ATy := (RX10, cX10_appendSeason, 7, (some .int), { frames := 0, cells := 0, slots := 0, locals := 0 }, false)
abbrev tX10_addSeason : ATy := (RX10, cX10_addSeason, 6, (some .int), { frames := 2, cells := 0, slots := 0, locals := 43 }, false)
abbrev tX10_classCount : ATy := (RX10, cX10_classCount, 1, (some .int), { frames := 0, cells := 0, slots := 0, locals := 0 }, false)
abbrev tX10_siteCount : ATy := (RX10, cX10_siteCount, 1, (some .int), { frames := 0, cells := 0, slots := 0, locals := 0 }, false)
abbrev tX10_classOf : ATy := (RX10, cX10_classOf, 2, (some .int), { frames := 2, cells := 0, slots := 0, locals := 43 }, false)
abbrev tX10_seasonOf : ATy := (RX10, cX10_seasonOf, 6, (some .int), { frames := 1, cells := 0, slots := 0, locals := 22 }, false)
abbrev tX10_minimumOf : ATy := (RX10, cX10_minimumOf, 4, (some .int), { frames := 2, cells := 0, slots := 0, locals := 47 }, false)
abbrev tX10_priceOf : ATy := (RX10, cX10_priceOf, 4, (some .int), { frames := 2, cells := 0, slots := 0, locals := 47 }, false)
abbrev tX10_pricesOf : ATy := (RX10, cX10_pricesOf, 6, (some .int), { frames := 3, cells := 0, slots := 0, locals := 70 }, false)
abbrev tX10_minimum : ATy := (RX10, cX10_minimum, 3, (some .int), { frames := 3, cells := 0, slots := 0, locals := 70 }, false)
abbrev tX10_price : ATy := (RX10, cX10_price, 3, (some .int), { frames := 3, cells := 0, slots := 0, locals := 70 }, false)
abbrev tX10_isNight : ATy := (RX10, cX10_isNight, 2, (some .boolean), { frames := 1, cells := 0, slots := 0, locals := 22 }, false)
abbrev tX10_isOpenOn : ATy := (RX10, cX10_isOpenOn, 3, (some .boolean), { frames := 1, cells := 0, slots := 0, locals := 22 }, false)
abbrev tX10_capacityOf : ATy := (RX10, cX10_capacityOf, 5, (some .int), { frames := 2, cells := 0, slots := 0, locals := 44 }, false)
abbrev tX10_releasedOf : ATy := (RX10, cX10_releasedOf, 4, (some .int), { frames := 3, cells := 0, slots := 0, locals := 68 }, false)
abbrev tX10_isActive : ATy := (RX10, cX10_isActive, 2, (some .boolean), { frames := 1, cells := 0, slots := 0, locals := 22 }, false)
abbrev tX10_takenOf : ATy := (RX10, cX10_takenOf, 6, (some .int), { frames := 2, cells := 0, slots := 0, locals := 43 }, false)
abbrev tX10_availableOf : ATy := (RX10, cX10_availableOf, 3, (some .int), { frames := 4, cells := 0, slots := 0, locals := 91 }, false)
abbrev tX10_capacity : ATy := (RX10, cX10_capacity, 3, (some .int), { frames := 3, cells := 0, slots := 0, locals := 68 }, false)
abbrev tX10_released : ATy := (RX10, cX10_released, 3, (some .int), { frames := 4, cells := 0, slots := 0, locals := 91 }, false)
abbrev tX10_taken : ATy := (RX10, cX10_taken, 3, (some .int), { frames := 3, cells := 0, slots := 0, locals := 68 }, false)
abbrev tX10_available : ATy := (RX10, cX10_available, 3, (some .int), { frames := 5, cells := 0, slots := 0, locals := 113 }, false)
abbrev tX10_nightsObstacle : ATy := (RX10, cX10_nightsObstacle, 7, (some .int), { frames := 5, cells := 0, slots := 0, locals := 113 }, false)
abbrev tX10_obstacleOf : ATy := (RX10, cX10_obstacleOf, 6, (some .int), { frames := 6, cells := 0, slots := 0, locals := 139 }, false)
abbrev tX10_obstacle : ATy := (RX10, cX10_obstacle, 4, (some .int), { frames := 7, cells := 0, slots := 0, locals := 164 }, false)
abbrev tX10_longestStay : ATy := (RX10, cX10_longestStay, 5, (some .int), { frames := 7, cells := 0, slots := 0, locals := 164 }, false)
abbrev tX10_cheapestArrival : ATy := (RX10, cX10_cheapestArrival, 9, (some .int), { frames := 7, cells := 0, slots := 0, locals := 164 }, false)
abbrev tX10_nextGap : ATy := (RX10, cX10_nextGap, 4, (some .int), { frames := 5, cells := 0, slots := 0, locals := 113 }, false)
abbrev tX10_appendBooking : ATy := (RX10, cX10_appendBooking, 5, (some .int), { frames := 4, cells := 0, slots := 0, locals := 95 }, false)
abbrev tX10_book : ATy := (RX10, cX10_book, 4, (some .int), { frames := 7, cells := 0, slots := 0, locals := 164 }, false)
abbrev tX10_bookingCount : ATy := (RX10, cX10_bookingCount, 1, (some .int), { frames := 0, cells := 0, slots := 0, locals := 0 }, false)
abbrev tX10_bookingField : ATy := (RX10, cX10_bookingField, 3, (some .int), { frames := 2, cells := 0, slots := 0, locals := 43 }, false)
abbrev tX10_bookingState : ATy := (RX10, cX10_bookingState, 2, (some .int), { frames := 3, cells := 0, slots := 0, locals := 65 }, false)
abbrev tX10_bookingClass : ATy := (RX10, cX10_bookingClass, 2, (some .int), { frames := 3, cells := 0, slots := 0, locals := 65 }, false)
abbrev tX10_arrival : ATy := (RX10, cX10_arrival, 2, (some .int), { frames := 3, cells := 0, slots := 0, locals := 65 }, false)
abbrev tX10_departure : ATy := (RX10, cX10_departure, 2, (some .int), { frames := 3, cells := 0, slots := 0, locals := 65 }, false)
abbrev tX10_cost : ATy := (RX10, cX10_cost, 2, (some .int), { frames := 3, cells := 0, slots := 0, locals := 65 }, false)
abbrev tX10_siteOf : ATy := (RX10, cX10_siteOf, 2, (some .int), { frames := 3, cells := 0, slots := 0, locals := 65 }, false)
abbrev tX10_cancel : ATy := (RX10, cX10_cancel, 5, (some .int), { frames := 2, cells := 0, slots := 0, locals := 43 }, false)
abbrev tX10_isOccupied : ATy := (RX10, cX10_isOccupied, 4, (some .boolean), { frames := 1, cells := 0, slots := 0, locals := 22 }, false)
abbrev tX10_isVacant : ATy := (RX10, cX10_isVacant, 2, (some .boolean), { frames := 2, cells := 0, slots := 0, locals := 45 }, false)
abbrev tX10_vacantSiteOf : ATy := (RX10, cX10_vacantSiteOf, 3, (some .int), { frames := 3, cells := 0, slots := 0, locals := 66 }, false)
abbrev tX10_vacantSite : ATy := (RX10, cX10_vacantSite, 2, (some .int), { frames := 4, cells := 0, slots := 0, locals := 88 }, false)
abbrev tX10_checkIn : ATy := (RX10, cX10_checkIn, 5, (some .int), { frames := 4, cells := 0, slots := 0, locals := 88 }, false)
abbrev tX10_move : ATy := (RX10, cX10_move, 4, (some .int), { frames := 3, cells := 0, slots := 0, locals := 66 }, false)
abbrev tX10_departEarly : ATy := (RX10, cX10_departEarly, 5, (some .int), { frames := 4, cells := 0, slots := 0, locals := 95 }, false)
abbrev tX10_extend : ATy := (RX10, cX10_extend, 6, (some .int), { frames := 6, cells := 0, slots := 0, locals := 139 }, false)
abbrev tX10_endDay : ATy := (RX10, cX10_endDay, 5, none, { frames := 1, cells := 0, slots := 0, locals := 23 }, false)
abbrev tX10_endDays : ATy := (RX10, cX10_endDays, 3, (some .int), { frames := 2, cells := 0, slots := 0, locals := 47 }, false)
abbrev tX10_today : ATy := (RX10, cX10_today, 1, (some .int), { frames := 0, cells := 0, slots := 0, locals := 0 }, false)
abbrev tX10_hasSpareSite : ATy := (RX10, cX10_hasSpareSite, 5, (some .boolean), { frames := 3, cells := 0, slots := 0, locals := 68 }, false)
abbrev tX10_close : ATy := (RX10, cX10_close, 3, none, { frames := 4, cells := 0, slots := 0, locals := 92 }, false)
abbrev tX10_open : ATy := (RX10, cX10_open, 3, (some .int), { frames := 2, cells := 0, slots := 0, locals := 44 }, false)
abbrev tX10_appendRequest : ATy := (RX10, cX10_appendRequest, 5, (some .int), { frames := 1, cells := 0, slots := 0, locals := 23 }, false)
abbrev tX10_request : ATy := (RX10, cX10_request, 4, (some .int), { frames := 2, cells := 0, slots := 0, locals := 47 }, false)
abbrev tX10_requestState : ATy := (RX10, cX10_requestState, 2, (some .int), { frames := 2, cells := 0, slots := 0, locals := 43 }, false)
abbrev tX10_bookingOf : ATy := (RX10, cX10_bookingOf, 2, (some .int), { frames := 2, cells := 0, slots := 0, locals := 43 }, false)
abbrev tX10_withdraw : ATy := (RX10, cX10_withdraw, 2, none, { frames := 2, cells := 0, slots := 0, locals := 43 }, false)
abbrev tX10_isAhead : ATy := (RX10, cX10_isAhead, 3, (some .boolean), { frames := 1, cells := 0, slots := 0, locals := 22 }, false)
abbrev tX10_nextRequest : ATy := (RX10, cX10_nextRequest, 5, (some .int), { frames := 7, cells := 0, slots := 0, locals := 164 }, false)
abbrev tX10_fill : ATy := (RX10, cX10_fill, 5, (some .int), { frames := 8, cells := 0, slots := 0, locals := 188 }, false)
abbrev tX10_place : ATy := (RX10, cX10_place, 5, none, { frames := 3, cells := 0, slots := 0, locals := 70 }, false)
abbrev tX10_freeSite : ATy := (RX10, cX10_freeSite, 7, (some .int), { frames := 2, cells := 0, slots := 0, locals := 44 }, false)
abbrev tX10_nextBooking : ATy := (RX10, cX10_nextBooking, 5, (some .int), { frames := 1, cells := 0, slots := 0, locals := 22 }, false)
abbrev tX10_plan : ATy := (RX10, cX10_plan, 4, none, { frames := 4, cells := 0, slots := 0, locals := 94 }, false)
abbrev tX10_planSite : ATy := (RX10, cX10_planSite, 3, (some .int), { frames := 5, cells := 0, slots := 0, locals := 117 }, false)
abbrev tX10_wrongPlan : ATy := (RX10, cX10_wrongPlan, 3, (some .int), { frames := 2, cells := 0, slots := 0, locals := 43 }, false)
abbrev tX10_gapNights : ATy := (RX10, cX10_gapNights, 3, (some .int), { frames := 5, cells := 0, slots := 0, locals := 117 }, false)
abbrev tX10_orphanNights : ATy := (RX10, cX10_orphanNights, 3, (some .int), { frames := 5, cells := 0, slots := 0, locals := 117 }, false)
abbrev tX10_commonDivisor : ATy := (RX10, cX10_commonDivisor, 5, (some .int), { frames := 0, cells := 0, slots := 0, locals := 0 }, false)
abbrev tX10_occupancy : ATy := (RX10, cX10_occupancy, 8, (some .int), { frames := 3, cells := 0, slots := 0, locals := 68 }, false)
abbrev tX10_occupancyNumerator : ATy := (RX10, cX10_occupancyNumerator, 4, (some .int), { frames := 4, cells := 0, slots := 0, locals := 95 }, false)
abbrev tX10_occupancyDenominator : ATy := (RX10, cX10_occupancyDenominator, 4, (some .int), { frames := 4, cells := 0, slots := 0, locals := 95 }, false)
abbrev tX10_expected : ATy := (RX10, cX10_expected, 9, (some .int), { frames := 2, cells := 0, slots := 0, locals := 43 }, false)
abbrev tX10_nightsOf : ATy := (RX10, cX10_nightsOf, 2, (some .long), { frames := 1, cells := 0, slots := 0, locals := 22 }, false)
abbrev tX10_dearestBooking : ATy := (RX10, cX10_dearestBooking, 5, (some .int), { frames := 2, cells := 0, slots := 0, locals := 43 }, false)
abbrev tX10_busiestNight : ATy := (RX10, cX10_busiestNight, 6, (some .int), { frames := 3, cells := 0, slots := 0, locals := 68 }, false)
abbrev tX10_revenue : ATy := (RX10, cX10_revenue, 3, (some .int), { frames := 1, cells := 0, slots := 0, locals := 22 }, false)
abbrev tX10_appendText : ATy := (RX10, cX10_appendText, 3, (some .int), { frames := 1, cells := 0, slots := 0, locals := 21 }, false)
abbrev tX10_truncateText : ATy := (RX10, cX10_truncateText, 2, (some .int), { frames := 1, cells := 0, slots := 0, locals := 22 }, false)
abbrev tX10_byteAt : ATy := (RX10, cX10_byteAt, 2, (some .int), { frames := 0, cells := 0, slots := 0, locals := 0 }, false)
abbrev tX10_isLetter : ATy := (RX10, cX10_isLetter, 1, (some .boolean), { frames := 1, cells := 0, slots := 0, locals := 22 }, false)
abbrev tX10_isDigit : ATy := (RX10, cX10_isDigit, 1, (some .boolean), { frames := 1, cells := 0, slots := 0, locals := 22 }, false)
abbrev tX10_nextToken : ATy := (RX10, cX10_nextToken, 2, none, { frames := 2, cells := 0, slots := 0, locals := 42 }, false)
abbrev tX10_isWord : ATy := (RX10, cX10_isWord, 5, (some .boolean), { frames := 5, cells := 0, slots := 0, locals := 141 }, false)
abbrev tX10_require : ATy := (RX10, cX10_require, 3, none, { frames := 0, cells := 0, slots := 0, locals := 0 }, false)
abbrev tX10_advanceToken : ATy := (RX10, cX10_advanceToken, 1, none, { frames := 3, cells := 0, slots := 0, locals := 63 }, false)
abbrev tX10_parseNumber : ATy := (RX10, cX10_parseNumber, 4, (some .int), { frames := 4, cells := 0, slots := 0, locals := 83 }, false)
abbrev tX10_parseClass : ATy := (RX10, cX10_parseClass, 5, none, { frames := 5, cells := 0, slots := 0, locals := 106 }, false)
abbrev tX10_parseSites : ATy := (RX10, cX10_parseSites, 4, none, { frames := 5, cells := 0, slots := 0, locals := 106 }, false)
abbrev tX10_parseSeason : ATy := (RX10, cX10_parseSeason, 7, none, { frames := 5, cells := 0, slots := 0, locals := 106 }, false)
abbrev tX10_parseStatement : ATy := (RX10, cX10_parseStatement, 2, none, { frames := 6, cells := 0, slots := 0, locals := 165 }, false)
abbrev tX10_load : ATy := (RX10, cX10_load, 2, (some .int), { frames := 7, cells := 0, slots := 0, locals := 186 }, false)
abbrev tX10_errorCode : ATy := (RX10, cX10_errorCode, 1, (some .int), { frames := 0, cells := 0, slots := 0, locals := 0 }, false)
abbrev tX10_errorPosition : ATy := (RX10, cX10_errorPosition, 1, (some .int), { frames := 0, cells := 0, slots := 0, locals := 0 }, false)
abbrev tX10_save : ATy := (RX10, cX10_save, 2, none, { frames := 1, cells := 0, slots := 0, locals := 24 }, false)
abbrev tX10_restore : ATy := (RX10, cX10_restore, 2, none, { frames := 1, cells := 0, slots := 0, locals := 24 }, false)
abbrev tX0_init : ATy := (RX0, cX0_init, 1, none, { frames := 1, cells := 6, slots := 360, locals := 26 }, true)
abbrev tX0_isFull : ATy := (RX0, cX0_isFull, 1, (some .boolean), { frames := 0, cells := 0, slots := 0, locals := 0 }, false)
abbrev tX0_add : ATy := (RX0, cX0_add, 5, (some .int), { frames := 0, cells := 0, slots := 0, locals := 0 }, false)
abbrev tX0_isActive : ATy := (RX0, cX0_isActive, 2, (some .boolean), { frames := 0, cells := 0, slots := 0, locals := 0 }, false)
abbrev tX0_isToArrive : ATy := (RX0, cX0_isToArrive, 3, (some .boolean), { frames := 0, cells := 0, slots := 0, locals := 0 }, false)
abbrev tX0_isToDepart : ATy := (RX0, cX0_isToDepart, 3, (some .boolean), { frames := 1, cells := 0, slots := 0, locals := 21 }, false)
abbrev tX0_takenOn : ATy := (RX0, cX0_takenOn, 5, (some .int), { frames := 1, cells := 0, slots := 0, locals := 21 }, false)
abbrev tX0_isSomebodyAt : ATy := (RX0, cX0_isSomebodyAt, 3, (some .boolean), { frames := 0, cells := 0, slots := 0, locals := 0 }, false)
abbrev tX0_isDearer : ATy := (RX0, cX0_isDearer, 7, (some .boolean), { frames := 0, cells := 0, slots := 0, locals := 0 }, false)
abbrev tX0_endNight : ATy := (RX0, cX0_endNight, 3, none, { frames := 0, cells := 0, slots := 0, locals := 0 }, false)
abbrev tX0_copyFrom : ATy := (RX0, cX0_copyFrom, 2, none, { frames := 2, cells := 0, slots := 0, locals := 66 }, false)
abbrev tX1_init : ATy := (RX1, cX1_init, 1, none, { frames := 2, cells := 26, slots := 590, locals := 46 }, true)
abbrev tX1_clear : ATy := (RX1, cX1_clear, 1, none, { frames := 0, cells := 0, slots := 0, locals := 0 }, false)
abbrev tX1_copyFrom : ATy := (RX1, cX1_copyFrom, 2, none, { frames := 3, cells := 0, slots := 0, locals := 87 }, false)
abbrev tX1_capacityOn : ATy := (RX1, cX1_capacityOn, 3, (some .int), { frames := 1, cells := 0, slots := 0, locals := 24 }, false)
abbrev tX1_releasedOn : ATy := (RX1, cX1_releasedOn, 3, (some .int), { frames := 1, cells := 0, slots := 0, locals := 24 }, false)
abbrev tX1_takenInAll : ATy := (RX1, cX1_takenInAll, 6, (some .int), { frames := 2, cells := 0, slots := 0, locals := 45 }, false)
abbrev tX1_capacityInAll : ATy := (RX1, cX1_capacityInAll, 6, (some .int), { frames := 2, cells := 0, slots := 0, locals := 46 }, false)
abbrev tX1_canSpare : ATy := (RX1, cX1_canSpare, 4, (some .boolean), { frames := 2, cells := 0, slots := 0, locals := 46 }, false)
abbrev tX1_isVacant : ATy := (RX1, cX1_isVacant, 2, (some .boolean), { frames := 1, cells := 0, slots := 0, locals := 22 }, false)
abbrev tX1_lowestVacantSite : ATy := (RX1, cX1_lowestVacantSite, 3, (some .int), { frames := 2, cells := 0, slots := 0, locals := 43 }, false)
abbrev tX1_addBooking : ATy := (RX1, cX1_addBooking, 6, (some .int), { frames := 3, cells := 0, slots := 0, locals := 71 }, false)
abbrev tX1_bookRequest : ATy := (RX1, cX1_bookRequest, 3, none, { frames := 4, cells := 0, slots := 0, locals := 96 }, false)
abbrev tX1_refundOfCancelling : ATy := (RX1, cX1_refundOfCancelling, 3, (some .int), { frames := 0, cells := 0, slots := 0, locals := 0 }, false)
abbrev tX1_refundOfDeparting : ATy := (RX1, cX1_refundOfDeparting, 3, (some .int), { frames := 3, cells := 0, slots := 0, locals := 71 }, false)
abbrev tX1_endToday : ATy := (RX1, cX1_endToday, 1, none, { frames := 1, cells := 0, slots := 0, locals := 22 }, false)
abbrev tX2_init : ATy := (RX2, cX2_init, 1, none, { frames := 1, cells := 3, slots := 12, locals := 26 }, true)
abbrev tX2_add : ATy := (RX2, cX2_add, 4, (some .int), { frames := 0, cells := 0, slots := 0, locals := 0 }, false)
abbrev tX2_limitAhead : ATy := (RX2, cX2_limitAhead, 3, (some .int), { frames := 0, cells := 0, slots := 0, locals := 0 }, false)
abbrev tX2_windowOf : ATy := (RX2, cX2_windowOf, 2, (some .int), { frames := 0, cells := 0, slots := 0, locals := 0 }, false)
abbrev tX2_copyFrom : ATy := (RX2, cX2_copyFrom, 2, none, { frames := 2, cells := 0, slots := 0, locals := 66 }, false)
abbrev tX3_init : ATy := (RX3, cX3_init, 2, none, { frames := 1, cells := 2, slots := 76, locals := 26 }, true)
abbrev tX3_make : ATy := (RX3, cX3_make, 6, none, { frames := 3, cells := 0, slots := 0, locals := 70 }, false)
abbrev tX3_placeStaying : ATy := (RX3, cX3_placeStaying, 5, none, { frames := 0, cells := 0, slots := 0, locals := 0 }, false)
abbrev tX3_nextToPlace : ATy := (RX3, cX3_nextToPlace, 5, (some .int), { frames := 0, cells := 0, slots := 0, locals := 0 }, false)
abbrev tX3_chooseSite : ATy := (RX3, cX3_chooseSite, 7, (some .int), { frames := 1, cells := 0, slots := 0, locals := 22 }, false)
abbrev tX3_countGap : ATy := (RX3, cX3_countGap, 5, none, { frames := 2, cells := 0, slots := 0, locals := 46 }, false)
abbrev tX4_init : ATy := (RX4, cX4_init, 1, none, { frames := 1, cells := 5, slots := 100, locals := 26 }, true)
abbrev tX4_add : ATy := (RX4, cX4_add, 4, (some .int), { frames := 0, cells := 0, slots := 0, locals := 0 }, false)
abbrev tX4_isBetter : ATy := (RX4, cX4_isBetter, 3, (some .boolean), { frames := 0, cells := 0, slots := 0, locals := 0 }, false)
abbrev tX4_expireBefore : ATy := (RX4, cX4_expireBefore, 3, none, { frames := 0, cells := 0, slots := 0, locals := 0 }, false)
abbrev tX4_copyFrom : ATy := (RX4, cX4_copyFrom, 2, none, { frames := 2, cells := 0, slots := 0, locals := 66 }, false)
abbrev tX5_init : ATy := (RX5, cX5_init, 1, none, { frames := 1, cells := 5, slots := 60, locals := 26 }, true)
abbrev tX5_add : ATy := (RX5, cX5_add, 6, (some .int), { frames := 0, cells := 0, slots := 0, locals := 0 }, false)
abbrev tX5_latestWith : ATy := (RX5, cX5_latestWith, 4, (some .int), { frames := 0, cells := 0, slots := 0, locals := 0 }, false)
abbrev tX5_minimumOn : ATy := (RX5, cX5_minimumOn, 4, (some .int), { frames := 1, cells := 0, slots := 0, locals := 23 }, false)
abbrev tX5_priceOn : ATy := (RX5, cX5_priceOn, 4, (some .int), { frames := 1, cells := 0, slots := 0, locals := 23 }, false)
abbrev tX5_priceOfNights : ATy := (RX5, cX5_priceOfNights, 6, (some .int), { frames := 2, cells := 0, slots := 0, locals := 46 }, false)
abbrev tX5_copyFrom : ATy := (RX5, cX5_copyFrom, 2, none, { frames := 2, cells := 0, slots := 0, locals := 66 }, false)
abbrev tX6_init : ATy := (RX6, cX6_init, 3, none, { frames := 1, cells := 0, slots := 0, locals := 26 }, true)
abbrev tX6_read : ATy := (RX6, cX6_read, 3, (some .int), { frames := 7, cells := 0, slots := 0, locals := 183 }, false)
abbrev tX6_readStatement : ATy := (RX6, cX6_readStatement, 1, (some .boolean), { frames := 6, cells := 0, slots := 0, locals := 163 }, false)
abbrev tX6_readClass : ATy := (RX6, cX6_readClass, 4, (some .boolean), { frames := 3, cells := 0, slots := 0, locals := 66 }, false)
abbrev tX6_readSites : ATy := (RX6, cX6_readSites, 4, (some .boolean), { frames := 3, cells := 0, slots := 0, locals := 66 }, false)
abbrev tX6_readSeason : ATy := (RX6, cX6_readSeason, 6, (some .boolean), { frames := 3, cells := 0, slots := 0, locals := 66 }, false)
abbrev tX6_readDay : ATy := (RX6, cX6_readDay, 2, (some .boolean), { frames := 3, cells := 0, slots := 0, locals := 66 }, false)
abbrev tX6_readSemicolon : ATy := (RX6, cX6_readSemicolon, 1, (some .boolean), { frames := 2, cells := 0, slots := 0, locals := 43 }, false)
abbrev tX6_readNumber : ATy := (RX6, cX6_readNumber, 4, (some .int), { frames := 2, cells := 0, slots := 0, locals := 43 }, false)
abbrev tX6_fail : ATy := (RX6, cX6_fail, 2, (some .boolean), { frames := 1, cells := 0, slots := 0, locals := 22 }, false)
abbrev tX6_failAt : ATy := (RX6, cX6_failAt, 3, (some .boolean), { frames := 0, cells := 0, slots := 0, locals := 0 }, false)
abbrev tX6_isWord : ATy := (RX6, cX6_isWord, 3, (some .boolean), { frames := 5, cells := 0, slots := 0, locals := 141 }, false)
abbrev tX6_step : ATy := (RX6, cX6_step, 1, none, { frames := 1, cells := 0, slots := 0, locals := 23 }, false)
abbrev tX6_isLetter : ATy := (RX6, cX6_isLetter, 1, (some .boolean), { frames := 0, cells := 0, slots := 0, locals := 0 }, false)
abbrev tX6_isDigit : ATy := (RX6, cX6_isDigit, 1, (some .boolean), { frames := 0, cells := 0, slots := 0, locals := 0 }, false)
abbrev tX7_init : ATy := (RX7, cX7_init, 1, none, { frames := 1, cells := 2, slots := 32, locals := 26 }, true)
abbrev tX7_add : ATy := (RX7, cX7_add, 2, (some .int), { frames := 0, cells := 0, slots := 0, locals := 0 }, false)
abbrev tX7_isClosed : ATy := (RX7, cX7_isClosed, 3, (some .boolean), { frames := 0, cells := 0, slots := 0, locals := 0 }, false)
abbrev tX7_countOpen : ATy := (RX7, cX7_countOpen, 5, (some .int), { frames := 0, cells := 0, slots := 0, locals := 0 }, false)
abbrev tX7_copyFrom : ATy := (RX7, cX7_copyFrom, 2, none, { frames := 2, cells := 0, slots := 0, locals := 66 }, false)
abbrev tX8_init : ATy := (RX8, cX8_init, 2, none, { frames := 1, cells := 1, slots := 999, locals := 26 }, true)
abbrev tX8_turnTo : ATy := (RX8, cX8_turnTo, 2, none, { frames := 1, cells := 0, slots := 0, locals := 23 }, false)
abbrev tX8_isFree : ATy := (RX8, cX8_isFree, 4, (some .boolean), { frames := 2, cells := 0, slots := 0, locals := 46 }, false)
abbrev tX8_leavesWindow : ATy := (RX8, cX8_leavesWindow, 4, (some .boolean), { frames := 1, cells := 0, slots := 0, locals := 21 }, false)
abbrev tX8_obstacleToNights : ATy := (RX8, cX8_obstacleToNights, 4, (some .int), { frames := 3, cells := 0, slots := 0, locals := 69 }, false)
abbrev tX8_obstacleToStay : ATy := (RX8, cX8_obstacleToStay, 5, (some .int), { frames := 4, cells := 0, slots := 0, locals := 92 }, false)
abbrev tL_addClass : ATy := (RL, cL_addClass, 6, (some .int), { frames := 8, cells := 4, slots := 24, locals := 135 }, false)
abbrev tL_addSite : ATy := (RL, cL_addSite, 4, (some .int), { frames := 8, cells := 2, slots := 12, locals := 132 }, false)
abbrev tL_addSeason : ATy := (RL, cL_addSeason, 8, (some .int), { frames := 8, cells := 6, slots := 36, locals := 137 }, false)
abbrev tL_classOf : ATy := (RL, cL_classOf, 4, (some .int), { frames := 8, cells := 1, slots := 6, locals := 132 }, false)
abbrev tL_minimum : ATy := (RL, cL_minimum, 5, (some .int), { frames := 8, cells := 2, slots := 12, locals := 134 }, false)
abbrev tL_price : ATy := (RL, cL_price, 5, (some .int), { frames := 8, cells := 2, slots := 12, locals := 134 }, false)
abbrev tL_capacity : ATy := (RL, cL_capacity, 5, (some .int), { frames := 8, cells := 1, slots := 6, locals := 133 }, false)
abbrev tL_released : ATy := (RL, cL_released, 5, (some .int), { frames := 8, cells := 1, slots := 6, locals := 133 }, false)
abbrev tL_taken : ATy := (RL, cL_taken, 5, (some .int), { frames := 8, cells := 1, slots := 6, locals := 133 }, false)
abbrev tL_available : ATy := (RL, cL_available, 5, (some .int), { frames := 8, cells := 1, slots := 6, locals := 134 }, false)
abbrev tL_obstacle : ATy := (RL, cL_obstacle, 6, (some .int), { frames := 8, cells := 2, slots := 12, locals := 139 }, false)
abbrev tL_longestStay : ATy := (RL, cL_longestStay, 5, (some .int), { frames := 8, cells := 1, slots := 6, locals := 139 }, false)
abbrev tL_cheapestArrival : ATy := (RL, cL_cheapestArrival, 7, (some .int), { frames := 8, cells := 4, slots := 24, locals := 144 }, false)
abbrev tL_nextGap : ATy := (RL, cL_nextGap, 5, (some .int), { frames := 8, cells := 2, slots := 12, locals := 135 }, false)
abbrev tL_book : ATy := (RL, cL_book, 6, (some .int), { frames := 8, cells := 3, slots := 18, locals := 139 }, false)
abbrev tL_bookingState : ATy := (RL, cL_bookingState, 4, (some .int), { frames := 8, cells := 1, slots := 6, locals := 132 }, false)
abbrev tL_bookingClass : ATy := (RL, cL_bookingClass, 4, (some .int), { frames := 8, cells := 1, slots := 6, locals := 132 }, false)
abbrev tL_arrival : ATy := (RL, cL_arrival, 4, (some .int), { frames := 8, cells := 1, slots := 6, locals := 132 }, false)
abbrev tL_departure : ATy := (RL, cL_departure, 4, (some .int), { frames := 8, cells := 1, slots := 6, locals := 132 }, false)
abbrev tL_cost : ATy := (RL, cL_cost, 4, (some .int), { frames := 8, cells := 1, slots := 6, locals := 132 }, false)
abbrev tL_siteOf : ATy := (RL, cL_siteOf, 4, (some .int), { frames := 8, cells := 1, slots := 6, locals := 132 }, false)
abbrev tL_cancel : ATy := (RL, cL_cancel, 4, (some .int), { frames := 8, cells := 2, slots := 12, locals := 133 }, false)
abbrev tL_vacantSite : ATy := (RL, cL_vacantSite, 4, (some .int), { frames := 8, cells := 1, slots := 6, locals := 132 }, false)
abbrev tL_checkIn : ATy := (RL, cL_checkIn, 5, (some .int), { frames := 8, cells := 6, slots := 36, locals := 136 }, false)
abbrev tL_move : ATy := (RL, cL_move, 5, (some .int), { frames := 8, cells := 5, slots := 30, locals := 135 }, false)
abbrev tL_departEarly : ATy := (RL, cL_departEarly, 4, (some .int), { frames := 8, cells := 2, slots := 12, locals := 133 }, false)
abbrev tL_extend : ATy := (RL, cL_extend, 5, (some .int), { frames := 8, cells := 4, slots := 24, locals := 137 }, false)
abbrev tL_endDays : ATy := (RL, cL_endDays, 4, (some .int), { frames := 8, cells := 2, slots := 12, locals := 134 }, false)
abbrev tL_close : ATy := (RL, cL_close, 4, (some .int), { frames := 8, cells := 4, slots := 24, locals := 134 }, false)
abbrev tL_open : ATy := (RL, cL_open, 4, (some .int), { frames := 8, cells := 2, slots := 12, locals := 133 }, false)
abbrev tL_request : ATy := (RL, cL_request, 6, (some .int), { frames := 8, cells := 4, slots := 24, locals := 135 }, false)
abbrev tL_requestState : ATy := (RL, cL_requestState, 4, (some .int), { frames := 8, cells := 1, slots := 6, locals := 132 }, false)
abbrev tL_bookingOf : ATy := (RL, cL_bookingOf, 4, (some .int), { frames := 8, cells := 1, slots := 6, locals := 132 }, false)
abbrev tL_withdraw : ATy := (RL, cL_withdraw, 3, (some .int), { frames := 8, cells := 2, slots := 12, locals := 132 }, false)
abbrev tL_fill : ATy := (RL, cL_fill, 4, (some .int), { frames := 8, cells := 1, slots := 6, locals := 163 }, false)
abbrev tL_planSite : ATy := (RL, cL_planSite, 5, (some .int), { frames := 8, cells := 3, slots := 18, locals := 134 }, false)
abbrev tL_gapNights : ATy := (RL, cL_gapNights, 5, (some .int), { frames := 8, cells := 2, slots := 12, locals := 134 }, false)
abbrev tL_orphanNights : ATy := (RL, cL_orphanNights, 5, (some .int), { frames := 8, cells := 2, slots := 12, locals := 134 }, false)
abbrev tL_occupancyNumerator : ATy := (RL, cL_occupancyNumerator, 6, (some .int), { frames := 9, cells := 3, slots := 18, locals := 159 }, false)
abbrev tL_occupancyDenominator : ATy := (RL, cL_occupancyDenominator, 6, (some .int), { frames := 9, cells := 3, slots := 18, locals := 160 }, false)
abbrev tL_expected : ATy := (RL, cL_expected, 6, (some .int), { frames := 8, cells := 2, slots := 12, locals := 138 }, false)
abbrev tL_dearestBooking : ATy := (RL, cL_dearestBooking, 4, (some .int), { frames := 8, cells := 1, slots := 6, locals := 134 }, false)
abbrev tL_busiestNight : ATy := (RL, cL_busiestNight, 6, (some .int), { frames := 9, cells := 3, slots := 18, locals := 161 }, false)
abbrev tL_appendText : ATy := (RL, cL_appendText, 4, (some .int), { frames := 7, cells := 1, slots := 6, locals := 112 }, false)
abbrev tL_truncateText : ATy := (RL, cL_truncateText, 4, (some .int), { frames := 8, cells := 1, slots := 6, locals := 133 }, false)
abbrev tL_save : ATy := (RL, cL_save, 3, (some .int), { frames := 8, cells := 28, slots := 602, locals := 134 }, false)
abbrev tL_restore : ATy := (RL, cL_restore, 3, (some .int), { frames := 8, cells := 2, slots := 12, locals := 134 }, false)
abbrev tJ7_fill_53178 : ATy := (RJ7, cJ7_fill_53178, 4, none, { frames := 0, cells := 0, slots := 0, locals := 0 }, false)
end
