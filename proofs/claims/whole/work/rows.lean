section
-- ===== PART A: goes FIRST, ahead of the names: the tables' words, and 'selects' of the private methods out of them =====
/-- a private method of a class that the tables say can be made, by its rows of tables_1 -/
def lw_okq (q : MethodName × Nat) : Prop := (q.1.cls ≠ "java/lang/invoke/MethodHandle" ∧ q.1.cls ≠ "java/lang/invoke/VarHandle") ∧ Cond.instantiable q.1.cls q.2 ∈ tables_1 ∧ Cond.privateMethod q.1 ∈ tables_1 ∧ Cond.instanceMethod q.1 ∈ tables_1
theorem lw_p0 : lw_okq (⟨"Campground$SetupReader", "read", "(I)I"⟩, 9) := ⟨⟨by decide +kernel, by decide +kernel⟩, List.mem_of_getElem? (i := 275) (by decide +kernel), List.mem_of_getElem? (i := 361) (by decide +kernel), List.mem_of_getElem? (i := 362) (by decide +kernel)⟩
theorem lw_p1 : lw_okq (⟨"Campground$Camp", "clear", "()V"⟩, 6) := ⟨⟨by decide +kernel, by decide +kernel⟩, List.mem_of_getElem? (i := 34) (by decide +kernel), List.mem_of_getElem? (i := 368) (by decide +kernel), List.mem_of_getElem? (i := 369) (by decide +kernel)⟩
theorem lw_p2 : lw_okq (⟨"Campground$SetupReader", "step", "()V"⟩, 9) := ⟨⟨by decide +kernel, by decide +kernel⟩, List.mem_of_getElem? (i := 275) (by decide +kernel), List.mem_of_getElem? (i := 372) (by decide +kernel), List.mem_of_getElem? (i := 373) (by decide +kernel)⟩
theorem lw_p3 : lw_okq (⟨"Campground$SetupReader", "readStatement", "()Z"⟩, 9) := ⟨⟨by decide +kernel, by decide +kernel⟩, List.mem_of_getElem? (i := 275) (by decide +kernel), List.mem_of_getElem? (i := 383) (by decide +kernel), List.mem_of_getElem? (i := 384) (by decide +kernel)⟩
theorem lw_p4 : lw_okq (⟨"Campground$SetupReader", "isWord", "(Ljava/lang/String;)Z"⟩, 9) := ⟨⟨by decide +kernel, by decide +kernel⟩, List.mem_of_getElem? (i := 275) (by decide +kernel), List.mem_of_getElem? (i := 388) (by decide +kernel), List.mem_of_getElem? (i := 389) (by decide +kernel)⟩
theorem lw_p5 : lw_okq (⟨"Campground$SetupReader", "readClass", "()Z"⟩, 9) := ⟨⟨by decide +kernel, by decide +kernel⟩, List.mem_of_getElem? (i := 275) (by decide +kernel), List.mem_of_getElem? (i := 440) (by decide +kernel), List.mem_of_getElem? (i := 441) (by decide +kernel)⟩
theorem lw_p6 : lw_okq (⟨"Campground$SetupReader", "fail", "(I)Z"⟩, 9) := ⟨⟨by decide +kernel, by decide +kernel⟩, List.mem_of_getElem? (i := 275) (by decide +kernel), List.mem_of_getElem? (i := 444) (by decide +kernel), List.mem_of_getElem? (i := 445) (by decide +kernel)⟩
theorem lw_p7 : lw_okq (⟨"Campground$SetupReader", "failAt", "(II)Z"⟩, 9) := ⟨⟨by decide +kernel, by decide +kernel⟩, List.mem_of_getElem? (i := 275) (by decide +kernel), List.mem_of_getElem? (i := 448) (by decide +kernel), List.mem_of_getElem? (i := 449) (by decide +kernel)⟩
theorem lw_p8 : lw_okq (⟨"Campground$SetupReader", "readNumber", "(II)I"⟩, 9) := ⟨⟨by decide +kernel, by decide +kernel⟩, List.mem_of_getElem? (i := 275) (by decide +kernel), List.mem_of_getElem? (i := 452) (by decide +kernel), List.mem_of_getElem? (i := 453) (by decide +kernel)⟩
theorem lw_p9 : lw_okq (⟨"Campground$Classes", "add", "(III)I"⟩, 4) := ⟨⟨by decide +kernel, by decide +kernel⟩, List.mem_of_getElem? (i := 40) (by decide +kernel), List.mem_of_getElem? (i := 456) (by decide +kernel), List.mem_of_getElem? (i := 457) (by decide +kernel)⟩
theorem lw_p10 : lw_okq (⟨"Campground$SetupReader", "readSemicolon", "()Z"⟩, 9) := ⟨⟨by decide +kernel, by decide +kernel⟩, List.mem_of_getElem? (i := 275) (by decide +kernel), List.mem_of_getElem? (i := 460) (by decide +kernel), List.mem_of_getElem? (i := 461) (by decide +kernel)⟩
theorem lw_p11 : lw_okq (⟨"Campground$SetupReader", "readSites", "()Z"⟩, 9) := ⟨⟨by decide +kernel, by decide +kernel⟩, List.mem_of_getElem? (i := 275) (by decide +kernel), List.mem_of_getElem? (i := 465) (by decide +kernel), List.mem_of_getElem? (i := 466) (by decide +kernel)⟩
theorem lw_p12 : lw_okq (⟨"Campground$Sites", "add", "(I)I"⟩, 3) := ⟨⟨by decide +kernel, by decide +kernel⟩, List.mem_of_getElem? (i := 63) (by decide +kernel), List.mem_of_getElem? (i := 469) (by decide +kernel), List.mem_of_getElem? (i := 470) (by decide +kernel)⟩
theorem lw_p13 : lw_okq (⟨"Campground$SetupReader", "readSeason", "()Z"⟩, 9) := ⟨⟨by decide +kernel, by decide +kernel⟩, List.mem_of_getElem? (i := 275) (by decide +kernel), List.mem_of_getElem? (i := 474) (by decide +kernel), List.mem_of_getElem? (i := 475) (by decide +kernel)⟩
theorem lw_p14 : lw_okq (⟨"Campground$Seasons", "add", "(IIIII)I"⟩, 6) := ⟨⟨by decide +kernel, by decide +kernel⟩, List.mem_of_getElem? (i := 86) (by decide +kernel), List.mem_of_getElem? (i := 478) (by decide +kernel), List.mem_of_getElem? (i := 479) (by decide +kernel)⟩
theorem lw_p15 : lw_okq (⟨"Campground$SetupReader", "readDay", "()Z"⟩, 9) := ⟨⟨by decide +kernel, by decide +kernel⟩, List.mem_of_getElem? (i := 275) (by decide +kernel), List.mem_of_getElem? (i := 483) (by decide +kernel), List.mem_of_getElem? (i := 484) (by decide +kernel)⟩
def lw_privs_1 : List (MethodName × Nat) := [(⟨"Campground$SetupReader", "read", "(I)I"⟩, 9), (⟨"Campground$Camp", "clear", "()V"⟩, 6), (⟨"Campground$SetupReader", "step", "()V"⟩, 9), (⟨"Campground$SetupReader", "readStatement", "()Z"⟩, 9), (⟨"Campground$SetupReader", "isWord", "(Ljava/lang/String;)Z"⟩, 9), (⟨"Campground$SetupReader", "readClass", "()Z"⟩, 9), (⟨"Campground$SetupReader", "fail", "(I)Z"⟩, 9), (⟨"Campground$SetupReader", "failAt", "(II)Z"⟩, 9), (⟨"Campground$SetupReader", "readNumber", "(II)I"⟩, 9), (⟨"Campground$Classes", "add", "(III)I"⟩, 4), (⟨"Campground$SetupReader", "readSemicolon", "()Z"⟩, 9), (⟨"Campground$SetupReader", "readSites", "()Z"⟩, 9), (⟨"Campground$Sites", "add", "(I)I"⟩, 3), (⟨"Campground$SetupReader", "readSeason", "()Z"⟩, 9), (⟨"Campground$Seasons", "add", "(IIIII)I"⟩, 6), (⟨"Campground$SetupReader", "readDay", "()Z"⟩, 9)]
theorem lw_r1 : ∀ q ∈ lw_privs_1, lw_okq q := List.forall_mem_cons.mpr ⟨lw_p0, List.forall_mem_cons.mpr ⟨lw_p1, List.forall_mem_cons.mpr ⟨lw_p2, List.forall_mem_cons.mpr ⟨lw_p3, List.forall_mem_cons.mpr ⟨lw_p4, List.forall_mem_cons.mpr ⟨lw_p5, List.forall_mem_cons.mpr ⟨lw_p6, List.forall_mem_cons.mpr ⟨lw_p7, List.forall_mem_cons.mpr ⟨lw_p8, List.forall_mem_cons.mpr ⟨lw_p9, List.forall_mem_cons.mpr ⟨lw_p10, List.forall_mem_cons.mpr ⟨lw_p11, List.forall_mem_cons.mpr ⟨lw_p12, List.forall_mem_cons.mpr ⟨lw_p13, List.forall_mem_cons.mpr ⟨lw_p14, List.forall_mem_cons.mpr ⟨lw_p15, fun _ h => absurd h List.not_mem_nil⟩⟩⟩⟩⟩⟩⟩⟩⟩⟩⟩⟩⟩⟩⟩⟩
theorem lw_p16 : lw_okq (⟨"Campground$Camp", "copyFrom", "(LCampground$Camp;)V"⟩, 6) := ⟨⟨by decide +kernel, by decide +kernel⟩, List.mem_of_getElem? (i := 34) (by decide +kernel), List.mem_of_getElem? (i := 487) (by decide +kernel), List.mem_of_getElem? (i := 488) (by decide +kernel)⟩
theorem lw_p17 : lw_okq (⟨"Campground$Classes", "copyFrom", "(LCampground$Classes;)V"⟩, 4) := ⟨⟨by decide +kernel, by decide +kernel⟩, List.mem_of_getElem? (i := 40) (by decide +kernel), List.mem_of_getElem? (i := 491) (by decide +kernel), List.mem_of_getElem? (i := 492) (by decide +kernel)⟩
theorem lw_p18 : lw_okq (⟨"Campground$Sites", "copyFrom", "(LCampground$Sites;)V"⟩, 3) := ⟨⟨by decide +kernel, by decide +kernel⟩, List.mem_of_getElem? (i := 63) (by decide +kernel), List.mem_of_getElem? (i := 502) (by decide +kernel), List.mem_of_getElem? (i := 503) (by decide +kernel)⟩
theorem lw_p19 : lw_okq (⟨"Campground$Seasons", "copyFrom", "(LCampground$Seasons;)V"⟩, 6) := ⟨⟨by decide +kernel, by decide +kernel⟩, List.mem_of_getElem? (i := 86) (by decide +kernel), List.mem_of_getElem? (i := 507) (by decide +kernel), List.mem_of_getElem? (i := 508) (by decide +kernel)⟩
theorem lw_p20 : lw_okq (⟨"Campground$Bookings", "copyFrom", "(LCampground$Bookings;)V"⟩, 7) := ⟨⟨by decide +kernel, by decide +kernel⟩, List.mem_of_getElem? (i := 114) (by decide +kernel), List.mem_of_getElem? (i := 512) (by decide +kernel), List.mem_of_getElem? (i := 513) (by decide +kernel)⟩
theorem lw_p21 : lw_okq (⟨"Campground$Requests", "copyFrom", "(LCampground$Requests;)V"⟩, 6) := ⟨⟨by decide +kernel, by decide +kernel⟩, List.mem_of_getElem? (i := 160) (by decide +kernel), List.mem_of_getElem? (i := 517) (by decide +kernel), List.mem_of_getElem? (i := 518) (by decide +kernel)⟩
theorem lw_p22 : lw_okq (⟨"java/lang/Throwable", "fillInStackTrace", "(I)Ljava/lang/Throwable;"⟩, 6) := ⟨⟨by decide +kernel, by decide +kernel⟩, List.mem_of_getElem? (i := 580) (by decide +kernel), List.mem_of_getElem? (i := 578) (by decide +kernel), List.mem_of_getElem? (i := 579) (by decide +kernel)⟩
theorem lw_p23 : lw_okq (⟨"Campground", "checkClass", "(I)V"⟩, 8) := ⟨⟨by decide +kernel, by decide +kernel⟩, List.mem_of_getElem? (i := 26) (by decide +kernel), List.mem_of_getElem? (i := 634) (by decide +kernel), List.mem_of_getElem? (i := 635) (by decide +kernel)⟩
theorem lw_p24 : lw_okq (⟨"Campground", "checkSite", "(I)V"⟩, 8) := ⟨⟨by decide +kernel, by decide +kernel⟩, List.mem_of_getElem? (i := 26) (by decide +kernel), List.mem_of_getElem? (i := 672) (by decide +kernel), List.mem_of_getElem? (i := 673) (by decide +kernel)⟩
theorem lw_p25 : lw_okq (⟨"Campground$Seasons", "minimumOn", "(II)I"⟩, 6) := ⟨⟨by decide +kernel, by decide +kernel⟩, List.mem_of_getElem? (i := 86) (by decide +kernel), List.mem_of_getElem? (i := 684) (by decide +kernel), List.mem_of_getElem? (i := 685) (by decide +kernel)⟩
theorem lw_p26 : lw_okq (⟨"Campground$Seasons", "latestWith", "(II)I"⟩, 6) := ⟨⟨by decide +kernel, by decide +kernel⟩, List.mem_of_getElem? (i := 86) (by decide +kernel), List.mem_of_getElem? (i := 688) (by decide +kernel), List.mem_of_getElem? (i := 689) (by decide +kernel)⟩
theorem lw_p27 : lw_okq (⟨"Campground$Seasons", "priceOn", "(II)I"⟩, 6) := ⟨⟨by decide +kernel, by decide +kernel⟩, List.mem_of_getElem? (i := 86) (by decide +kernel), List.mem_of_getElem? (i := 699) (by decide +kernel), List.mem_of_getElem? (i := 700) (by decide +kernel)⟩
theorem lw_p28 : lw_okq (⟨"Campground$Camp", "capacityOn", "(II)I"⟩, 6) := ⟨⟨by decide +kernel, by decide +kernel⟩, List.mem_of_getElem? (i := 34) (by decide +kernel), List.mem_of_getElem? (i := 710) (by decide +kernel), List.mem_of_getElem? (i := 711) (by decide +kernel)⟩
theorem lw_p29 : lw_okq (⟨"Campground$Sites", "countOpen", "(II)I"⟩, 3) := ⟨⟨by decide +kernel, by decide +kernel⟩, List.mem_of_getElem? (i := 63) (by decide +kernel), List.mem_of_getElem? (i := 714) (by decide +kernel), List.mem_of_getElem? (i := 715) (by decide +kernel)⟩
theorem lw_p30 : lw_okq (⟨"Campground$Camp", "releasedOn", "(II)I"⟩, 6) := ⟨⟨by decide +kernel, by decide +kernel⟩, List.mem_of_getElem? (i := 34) (by decide +kernel), List.mem_of_getElem? (i := 725) (by decide +kernel), List.mem_of_getElem? (i := 726) (by decide +kernel)⟩
theorem lw_p31 : lw_okq (⟨"Campground$Classes", "limitAhead", "(II)I"⟩, 4) := ⟨⟨by decide +kernel, by decide +kernel⟩, List.mem_of_getElem? (i := 40) (by decide +kernel), List.mem_of_getElem? (i := 729) (by decide +kernel), List.mem_of_getElem? (i := 730) (by decide +kernel)⟩
def lw_privs_2 : List (MethodName × Nat) := [(⟨"Campground$Camp", "copyFrom", "(LCampground$Camp;)V"⟩, 6), (⟨"Campground$Classes", "copyFrom", "(LCampground$Classes;)V"⟩, 4), (⟨"Campground$Sites", "copyFrom", "(LCampground$Sites;)V"⟩, 3), (⟨"Campground$Seasons", "copyFrom", "(LCampground$Seasons;)V"⟩, 6), (⟨"Campground$Bookings", "copyFrom", "(LCampground$Bookings;)V"⟩, 7), (⟨"Campground$Requests", "copyFrom", "(LCampground$Requests;)V"⟩, 6), (⟨"java/lang/Throwable", "fillInStackTrace", "(I)Ljava/lang/Throwable;"⟩, 6), (⟨"Campground", "checkClass", "(I)V"⟩, 8), (⟨"Campground", "checkSite", "(I)V"⟩, 8), (⟨"Campground$Seasons", "minimumOn", "(II)I"⟩, 6), (⟨"Campground$Seasons", "latestWith", "(II)I"⟩, 6), (⟨"Campground$Seasons", "priceOn", "(II)I"⟩, 6), (⟨"Campground$Camp", "capacityOn", "(II)I"⟩, 6), (⟨"Campground$Sites", "countOpen", "(II)I"⟩, 3), (⟨"Campground$Camp", "releasedOn", "(II)I"⟩, 6), (⟨"Campground$Classes", "limitAhead", "(II)I"⟩, 4)]
theorem lw_r2 : ∀ q ∈ lw_privs_2, lw_okq q := List.forall_mem_cons.mpr ⟨lw_p16, List.forall_mem_cons.mpr ⟨lw_p17, List.forall_mem_cons.mpr ⟨lw_p18, List.forall_mem_cons.mpr ⟨lw_p19, List.forall_mem_cons.mpr ⟨lw_p20, List.forall_mem_cons.mpr ⟨lw_p21, List.forall_mem_cons.mpr ⟨lw_p22, List.forall_mem_cons.mpr ⟨lw_p23, List.forall_mem_cons.mpr ⟨lw_p24, List.forall_mem_cons.mpr ⟨lw_p25, List.forall_mem_cons.mpr ⟨lw_p26, List.forall_mem_cons.mpr ⟨lw_p27, List.forall_mem_cons.mpr ⟨lw_p28, List.forall_mem_cons.mpr ⟨lw_p29, List.forall_mem_cons.mpr ⟨lw_p30, List.forall_mem_cons.mpr ⟨lw_p31, fun _ h => absurd h List.not_mem_nil⟩⟩⟩⟩⟩⟩⟩⟩⟩⟩⟩⟩⟩⟩⟩⟩
theorem lw_p32 : lw_okq (⟨"Campground$Bookings", "takenOn", "(II)I"⟩, 7) := ⟨⟨by decide +kernel, by decide +kernel⟩, List.mem_of_getElem? (i := 114) (by decide +kernel), List.mem_of_getElem? (i := 741) (by decide +kernel), List.mem_of_getElem? (i := 742) (by decide +kernel)⟩
theorem lw_p33 : lw_okq (⟨"Campground$Bookings", "isActive", "(I)Z"⟩, 7) := ⟨⟨by decide +kernel, by decide +kernel⟩, List.mem_of_getElem? (i := 114) (by decide +kernel), List.mem_of_getElem? (i := 745) (by decide +kernel), List.mem_of_getElem? (i := 746) (by decide +kernel)⟩
theorem lw_p34 : lw_okq (⟨"Campground$StayJudge", "turnTo", "(I)V"⟩, 3) := ⟨⟨by decide +kernel, by decide +kernel⟩, List.mem_of_getElem? (i := 234) (by decide +kernel), List.mem_of_getElem? (i := 766) (by decide +kernel), List.mem_of_getElem? (i := 767) (by decide +kernel)⟩
theorem lw_p35 : lw_okq (⟨"Campground$StayJudge", "obstacleToStay", "(II)I"⟩, 3) := ⟨⟨by decide +kernel, by decide +kernel⟩, List.mem_of_getElem? (i := 234) (by decide +kernel), List.mem_of_getElem? (i := 773) (by decide +kernel), List.mem_of_getElem? (i := 774) (by decide +kernel)⟩
theorem lw_p36 : lw_okq (⟨"Campground$StayJudge", "obstacleToNights", "(II)I"⟩, 3) := ⟨⟨by decide +kernel, by decide +kernel⟩, List.mem_of_getElem? (i := 234) (by decide +kernel), List.mem_of_getElem? (i := 777) (by decide +kernel), List.mem_of_getElem? (i := 778) (by decide +kernel)⟩
theorem lw_p37 : lw_okq (⟨"Campground$StayJudge", "leavesWindow", "(II)Z"⟩, 3) := ⟨⟨by decide +kernel, by decide +kernel⟩, List.mem_of_getElem? (i := 234) (by decide +kernel), List.mem_of_getElem? (i := 781) (by decide +kernel), List.mem_of_getElem? (i := 782) (by decide +kernel)⟩
theorem lw_p38 : lw_okq (⟨"Campground$Classes", "windowOf", "(I)I"⟩, 4) := ⟨⟨by decide +kernel, by decide +kernel⟩, List.mem_of_getElem? (i := 40) (by decide +kernel), List.mem_of_getElem? (i := 785) (by decide +kernel), List.mem_of_getElem? (i := 786) (by decide +kernel)⟩
theorem lw_p39 : lw_okq (⟨"Campground$StayJudge", "isFree", "(I)Z"⟩, 3) := ⟨⟨by decide +kernel, by decide +kernel⟩, List.mem_of_getElem? (i := 234) (by decide +kernel), List.mem_of_getElem? (i := 789) (by decide +kernel), List.mem_of_getElem? (i := 790) (by decide +kernel)⟩
theorem lw_p40 : lw_okq (⟨"Campground$Seasons", "priceOfNights", "(III)I"⟩, 6) := ⟨⟨by decide +kernel, by decide +kernel⟩, List.mem_of_getElem? (i := 86) (by decide +kernel), List.mem_of_getElem? (i := 810) (by decide +kernel), List.mem_of_getElem? (i := 811) (by decide +kernel)⟩
theorem lw_p41 : lw_okq (⟨"Campground$Bookings", "isFull", "()Z"⟩, 7) := ⟨⟨by decide +kernel, by decide +kernel⟩, List.mem_of_getElem? (i := 114) (by decide +kernel), List.mem_of_getElem? (i := 830) (by decide +kernel), List.mem_of_getElem? (i := 831) (by decide +kernel)⟩
theorem lw_p42 : lw_okq (⟨"Campground$Camp", "addBooking", "(III)I"⟩, 6) := ⟨⟨by decide +kernel, by decide +kernel⟩, List.mem_of_getElem? (i := 34) (by decide +kernel), List.mem_of_getElem? (i := 835) (by decide +kernel), List.mem_of_getElem? (i := 836) (by decide +kernel)⟩
theorem lw_p43 : lw_okq (⟨"Campground$Bookings", "add", "(IIII)I"⟩, 7) := ⟨⟨by decide +kernel, by decide +kernel⟩, List.mem_of_getElem? (i := 114) (by decide +kernel), List.mem_of_getElem? (i := 840) (by decide +kernel), List.mem_of_getElem? (i := 841) (by decide +kernel)⟩
theorem lw_p44 : lw_okq (⟨"Campground", "checkBooking", "(I)V"⟩, 8) := ⟨⟨by decide +kernel, by decide +kernel⟩, List.mem_of_getElem? (i := 26) (by decide +kernel), List.mem_of_getElem? (i := 851) (by decide +kernel), List.mem_of_getElem? (i := 852) (by decide +kernel)⟩
theorem lw_p45 : lw_okq (⟨"Campground$Camp", "refundOfCancelling", "(I)I"⟩, 6) := ⟨⟨by decide +kernel, by decide +kernel⟩, List.mem_of_getElem? (i := 34) (by decide +kernel), List.mem_of_getElem? (i := 902) (by decide +kernel), List.mem_of_getElem? (i := 903) (by decide +kernel)⟩
theorem lw_p46 : lw_okq (⟨"Campground$Camp", "lowestVacantSite", "(I)I"⟩, 6) := ⟨⟨by decide +kernel, by decide +kernel⟩, List.mem_of_getElem? (i := 34) (by decide +kernel), List.mem_of_getElem? (i := 913) (by decide +kernel), List.mem_of_getElem? (i := 914) (by decide +kernel)⟩
theorem lw_p47 : lw_okq (⟨"Campground$Camp", "isVacant", "(I)Z"⟩, 6) := ⟨⟨by decide +kernel, by decide +kernel⟩, List.mem_of_getElem? (i := 34) (by decide +kernel), List.mem_of_getElem? (i := 917) (by decide +kernel), List.mem_of_getElem? (i := 918) (by decide +kernel)⟩
def lw_privs_3 : List (MethodName × Nat) := [(⟨"Campground$Bookings", "takenOn", "(II)I"⟩, 7), (⟨"Campground$Bookings", "isActive", "(I)Z"⟩, 7), (⟨"Campground$StayJudge", "turnTo", "(I)V"⟩, 3), (⟨"Campground$StayJudge", "obstacleToStay", "(II)I"⟩, 3), (⟨"Campground$StayJudge", "obstacleToNights", "(II)I"⟩, 3), (⟨"Campground$StayJudge", "leavesWindow", "(II)Z"⟩, 3), (⟨"Campground$Classes", "windowOf", "(I)I"⟩, 4), (⟨"Campground$StayJudge", "isFree", "(I)Z"⟩, 3), (⟨"Campground$Seasons", "priceOfNights", "(III)I"⟩, 6), (⟨"Campground$Bookings", "isFull", "()Z"⟩, 7), (⟨"Campground$Camp", "addBooking", "(III)I"⟩, 6), (⟨"Campground$Bookings", "add", "(IIII)I"⟩, 7), (⟨"Campground", "checkBooking", "(I)V"⟩, 8), (⟨"Campground$Camp", "refundOfCancelling", "(I)I"⟩, 6), (⟨"Campground$Camp", "lowestVacantSite", "(I)I"⟩, 6), (⟨"Campground$Camp", "isVacant", "(I)Z"⟩, 6)]
theorem lw_r3 : ∀ q ∈ lw_privs_3, lw_okq q := List.forall_mem_cons.mpr ⟨lw_p32, List.forall_mem_cons.mpr ⟨lw_p33, List.forall_mem_cons.mpr ⟨lw_p34, List.forall_mem_cons.mpr ⟨lw_p35, List.forall_mem_cons.mpr ⟨lw_p36, List.forall_mem_cons.mpr ⟨lw_p37, List.forall_mem_cons.mpr ⟨lw_p38, List.forall_mem_cons.mpr ⟨lw_p39, List.forall_mem_cons.mpr ⟨lw_p40, List.forall_mem_cons.mpr ⟨lw_p41, List.forall_mem_cons.mpr ⟨lw_p42, List.forall_mem_cons.mpr ⟨lw_p43, List.forall_mem_cons.mpr ⟨lw_p44, List.forall_mem_cons.mpr ⟨lw_p45, List.forall_mem_cons.mpr ⟨lw_p46, List.forall_mem_cons.mpr ⟨lw_p47, fun _ h => absurd h List.not_mem_nil⟩⟩⟩⟩⟩⟩⟩⟩⟩⟩⟩⟩⟩⟩⟩⟩
theorem lw_p48 : lw_okq (⟨"Campground$Sites", "isClosed", "(II)Z"⟩, 3) := ⟨⟨by decide +kernel, by decide +kernel⟩, List.mem_of_getElem? (i := 63) (by decide +kernel), List.mem_of_getElem? (i := 921) (by decide +kernel), List.mem_of_getElem? (i := 922) (by decide +kernel)⟩
theorem lw_p49 : lw_okq (⟨"Campground$Bookings", "isSomebodyAt", "(I)Z"⟩, 7) := ⟨⟨by decide +kernel, by decide +kernel⟩, List.mem_of_getElem? (i := 114) (by decide +kernel), List.mem_of_getElem? (i := 925) (by decide +kernel), List.mem_of_getElem? (i := 926) (by decide +kernel)⟩
theorem lw_p50 : lw_okq (⟨"Campground", "checkSameClass", "(II)V"⟩, 8) := ⟨⟨by decide +kernel, by decide +kernel⟩, List.mem_of_getElem? (i := 26) (by decide +kernel), List.mem_of_getElem? (i := 936) (by decide +kernel), List.mem_of_getElem? (i := 937) (by decide +kernel)⟩
theorem lw_p51 : lw_okq (⟨"Campground$Camp", "refundOfDeparting", "(I)I"⟩, 6) := ⟨⟨by decide +kernel, by decide +kernel⟩, List.mem_of_getElem? (i := 34) (by decide +kernel), List.mem_of_getElem? (i := 956) (by decide +kernel), List.mem_of_getElem? (i := 957) (by decide +kernel)⟩
theorem lw_p52 : lw_okq (⟨"Campground$Camp", "endToday", "()V"⟩, 6) := ⟨⟨by decide +kernel, by decide +kernel⟩, List.mem_of_getElem? (i := 34) (by decide +kernel), List.mem_of_getElem? (i := 977) (by decide +kernel), List.mem_of_getElem? (i := 978) (by decide +kernel)⟩
theorem lw_p53 : lw_okq (⟨"Campground$Bookings", "endNight", "(I)V"⟩, 7) := ⟨⟨by decide +kernel, by decide +kernel⟩, List.mem_of_getElem? (i := 114) (by decide +kernel), List.mem_of_getElem? (i := 981) (by decide +kernel), List.mem_of_getElem? (i := 982) (by decide +kernel)⟩
theorem lw_p54 : lw_okq (⟨"Campground$Requests", "expireBefore", "(I)V"⟩, 6) := ⟨⟨by decide +kernel, by decide +kernel⟩, List.mem_of_getElem? (i := 160) (by decide +kernel), List.mem_of_getElem? (i := 985) (by decide +kernel), List.mem_of_getElem? (i := 986) (by decide +kernel)⟩
theorem lw_p55 : lw_okq (⟨"Campground$Camp", "canSpare", "(II)Z"⟩, 6) := ⟨⟨by decide +kernel, by decide +kernel⟩, List.mem_of_getElem? (i := 34) (by decide +kernel), List.mem_of_getElem? (i := 996) (by decide +kernel), List.mem_of_getElem? (i := 997) (by decide +kernel)⟩
theorem lw_p56 : lw_okq (⟨"Campground$Requests", "add", "(III)I"⟩, 6) := ⟨⟨by decide +kernel, by decide +kernel⟩, List.mem_of_getElem? (i := 160) (by decide +kernel), List.mem_of_getElem? (i := 1018) (by decide +kernel), List.mem_of_getElem? (i := 1019) (by decide +kernel)⟩
theorem lw_p57 : lw_okq (⟨"Campground", "checkRequest", "(I)V"⟩, 8) := ⟨⟨by decide +kernel, by decide +kernel⟩, List.mem_of_getElem? (i := 26) (by decide +kernel), List.mem_of_getElem? (i := 1029) (by decide +kernel), List.mem_of_getElem? (i := 1030) (by decide +kernel)⟩
theorem lw_p58 : lw_okq (⟨"Campground", "bestRequest", "(I)I"⟩, 8) := ⟨⟨by decide +kernel, by decide +kernel⟩, List.mem_of_getElem? (i := 26) (by decide +kernel), List.mem_of_getElem? (i := 1055) (by decide +kernel), List.mem_of_getElem? (i := 1056) (by decide +kernel)⟩
theorem lw_p59 : lw_okq (⟨"Campground$Requests", "isBetter", "(II)Z"⟩, 6) := ⟨⟨by decide +kernel, by decide +kernel⟩, List.mem_of_getElem? (i := 160) (by decide +kernel), List.mem_of_getElem? (i := 1059) (by decide +kernel), List.mem_of_getElem? (i := 1060) (by decide +kernel)⟩
theorem lw_p60 : lw_okq (⟨"Campground$Camp", "bookRequest", "(I)V"⟩, 6) := ⟨⟨by decide +kernel, by decide +kernel⟩, List.mem_of_getElem? (i := 34) (by decide +kernel), List.mem_of_getElem? (i := 1063) (by decide +kernel), List.mem_of_getElem? (i := 1064) (by decide +kernel)⟩
theorem lw_p61 : lw_okq (⟨"Campground$Plan", "make", "(II)V"⟩, 5) := ⟨⟨by decide +kernel, by decide +kernel⟩, List.mem_of_getElem? (i := 250) (by decide +kernel), List.mem_of_getElem? (i := 1075) (by decide +kernel), List.mem_of_getElem? (i := 1076) (by decide +kernel)⟩
theorem lw_p62 : lw_okq (⟨"Campground$Plan", "placeStaying", "(I)V"⟩, 5) := ⟨⟨by decide +kernel, by decide +kernel⟩, List.mem_of_getElem? (i := 250) (by decide +kernel), List.mem_of_getElem? (i := 1080) (by decide +kernel), List.mem_of_getElem? (i := 1081) (by decide +kernel)⟩
theorem lw_p63 : lw_okq (⟨"Campground$Plan", "nextToPlace", "(I)I"⟩, 5) := ⟨⟨by decide +kernel, by decide +kernel⟩, List.mem_of_getElem? (i := 250) (by decide +kernel), List.mem_of_getElem? (i := 1084) (by decide +kernel), List.mem_of_getElem? (i := 1085) (by decide +kernel)⟩
def lw_privs_4 : List (MethodName × Nat) := [(⟨"Campground$Sites", "isClosed", "(II)Z"⟩, 3), (⟨"Campground$Bookings", "isSomebodyAt", "(I)Z"⟩, 7), (⟨"Campground", "checkSameClass", "(II)V"⟩, 8), (⟨"Campground$Camp", "refundOfDeparting", "(I)I"⟩, 6), (⟨"Campground$Camp", "endToday", "()V"⟩, 6), (⟨"Campground$Bookings", "endNight", "(I)V"⟩, 7), (⟨"Campground$Requests", "expireBefore", "(I)V"⟩, 6), (⟨"Campground$Camp", "canSpare", "(II)Z"⟩, 6), (⟨"Campground$Requests", "add", "(III)I"⟩, 6), (⟨"Campground", "checkRequest", "(I)V"⟩, 8), (⟨"Campground", "bestRequest", "(I)I"⟩, 8), (⟨"Campground$Requests", "isBetter", "(II)Z"⟩, 6), (⟨"Campground$Camp", "bookRequest", "(I)V"⟩, 6), (⟨"Campground$Plan", "make", "(II)V"⟩, 5), (⟨"Campground$Plan", "placeStaying", "(I)V"⟩, 5), (⟨"Campground$Plan", "nextToPlace", "(I)I"⟩, 5)]
theorem lw_r4 : ∀ q ∈ lw_privs_4, lw_okq q := List.forall_mem_cons.mpr ⟨lw_p48, List.forall_mem_cons.mpr ⟨lw_p49, List.forall_mem_cons.mpr ⟨lw_p50, List.forall_mem_cons.mpr ⟨lw_p51, List.forall_mem_cons.mpr ⟨lw_p52, List.forall_mem_cons.mpr ⟨lw_p53, List.forall_mem_cons.mpr ⟨lw_p54, List.forall_mem_cons.mpr ⟨lw_p55, List.forall_mem_cons.mpr ⟨lw_p56, List.forall_mem_cons.mpr ⟨lw_p57, List.forall_mem_cons.mpr ⟨lw_p58, List.forall_mem_cons.mpr ⟨lw_p59, List.forall_mem_cons.mpr ⟨lw_p60, List.forall_mem_cons.mpr ⟨lw_p61, List.forall_mem_cons.mpr ⟨lw_p62, List.forall_mem_cons.mpr ⟨lw_p63, fun _ h => absurd h List.not_mem_nil⟩⟩⟩⟩⟩⟩⟩⟩⟩⟩⟩⟩⟩⟩⟩⟩
theorem lw_p64 : lw_okq (⟨"Campground$Plan", "chooseSite", "(III)I"⟩, 5) := ⟨⟨by decide +kernel, by decide +kernel⟩, List.mem_of_getElem? (i := 250) (by decide +kernel), List.mem_of_getElem? (i := 1088) (by decide +kernel), List.mem_of_getElem? (i := 1089) (by decide +kernel)⟩
theorem lw_p65 : lw_okq (⟨"Campground$Plan", "countGap", "(III)V"⟩, 5) := ⟨⟨by decide +kernel, by decide +kernel⟩, List.mem_of_getElem? (i := 250) (by decide +kernel), List.mem_of_getElem? (i := 1093) (by decide +kernel), List.mem_of_getElem? (i := 1094) (by decide +kernel)⟩
theorem lw_p66 : lw_okq (⟨"Campground", "checkNights", "(II)V"⟩, 8) := ⟨⟨by decide +kernel, by decide +kernel⟩, List.mem_of_getElem? (i := 26) (by decide +kernel), List.mem_of_getElem? (i := 1119) (by decide +kernel), List.mem_of_getElem? (i := 1120) (by decide +kernel)⟩
theorem lw_p67 : lw_okq (⟨"Campground$Camp", "takenInAll", "(III)I"⟩, 6) := ⟨⟨by decide +kernel, by decide +kernel⟩, List.mem_of_getElem? (i := 34) (by decide +kernel), List.mem_of_getElem? (i := 1123) (by decide +kernel), List.mem_of_getElem? (i := 1124) (by decide +kernel)⟩
theorem lw_p68 : lw_okq (⟨"Campground$Camp", "capacityInAll", "(III)I"⟩, 6) := ⟨⟨by decide +kernel, by decide +kernel⟩, List.mem_of_getElem? (i := 34) (by decide +kernel), List.mem_of_getElem? (i := 1127) (by decide +kernel), List.mem_of_getElem? (i := 1128) (by decide +kernel)⟩
theorem lw_p69 : lw_okq (⟨"Campground$Bookings", "isToDepart", "(II)Z"⟩, 7) := ⟨⟨by decide +kernel, by decide +kernel⟩, List.mem_of_getElem? (i := 114) (by decide +kernel), List.mem_of_getElem? (i := 1148) (by decide +kernel), List.mem_of_getElem? (i := 1149) (by decide +kernel)⟩
theorem lw_p70 : lw_okq (⟨"Campground$Bookings", "isToArrive", "(II)Z"⟩, 7) := ⟨⟨by decide +kernel, by decide +kernel⟩, List.mem_of_getElem? (i := 114) (by decide +kernel), List.mem_of_getElem? (i := 1152) (by decide +kernel), List.mem_of_getElem? (i := 1153) (by decide +kernel)⟩
theorem lw_p71 : lw_okq (⟨"Campground$Bookings", "isDearer", "(II)Z"⟩, 7) := ⟨⟨by decide +kernel, by decide +kernel⟩, List.mem_of_getElem? (i := 114) (by decide +kernel), List.mem_of_getElem? (i := 1163) (by decide +kernel), List.mem_of_getElem? (i := 1164) (by decide +kernel)⟩
theorem lw_p72 : lw_okq (⟨"CampgroundModel", "fail", "(I)I"⟩, 19) := ⟨⟨by decide +kernel, by decide +kernel⟩, List.mem_of_getElem? (i := 1204) (by decide +kernel), List.mem_of_getElem? (i := 1280) (by decide +kernel), List.mem_of_getElem? (i := 1281) (by decide +kernel)⟩
theorem lw_p73 : lw_okq (⟨"CampgroundModel", "appendClass", "(III)I"⟩, 19) := ⟨⟨by decide +kernel, by decide +kernel⟩, List.mem_of_getElem? (i := 1204) (by decide +kernel), List.mem_of_getElem? (i := 1284) (by decide +kernel), List.mem_of_getElem? (i := 1285) (by decide +kernel)⟩
theorem lw_p74 : lw_okq (⟨"CampgroundModel", "isClass", "(I)Z"⟩, 19) := ⟨⟨by decide +kernel, by decide +kernel⟩, List.mem_of_getElem? (i := 1204) (by decide +kernel), List.mem_of_getElem? (i := 1292) (by decide +kernel), List.mem_of_getElem? (i := 1293) (by decide +kernel)⟩
theorem lw_p75 : lw_okq (⟨"CampgroundModel", "appendSite", "(I)I"⟩, 19) := ⟨⟨by decide +kernel, by decide +kernel⟩, List.mem_of_getElem? (i := 1204) (by decide +kernel), List.mem_of_getElem? (i := 1296) (by decide +kernel), List.mem_of_getElem? (i := 1297) (by decide +kernel)⟩
theorem lw_p76 : lw_okq (⟨"CampgroundModel", "appendSeason", "(IIIII)I"⟩, 19) := ⟨⟨by decide +kernel, by decide +kernel⟩, List.mem_of_getElem? (i := 1204) (by decide +kernel), List.mem_of_getElem? (i := 1307) (by decide +kernel), List.mem_of_getElem? (i := 1308) (by decide +kernel)⟩
theorem lw_p77 : lw_okq (⟨"CampgroundModel", "isSite", "(I)Z"⟩, 19) := ⟨⟨by decide +kernel, by decide +kernel⟩, List.mem_of_getElem? (i := 1204) (by decide +kernel), List.mem_of_getElem? (i := 1323) (by decide +kernel), List.mem_of_getElem? (i := 1324) (by decide +kernel)⟩
theorem lw_p78 : lw_okq (⟨"CampgroundModel", "site", "(II)I"⟩, 19) := ⟨⟨by decide +kernel, by decide +kernel⟩, List.mem_of_getElem? (i := 1204) (by decide +kernel), List.mem_of_getElem? (i := 1327) (by decide +kernel), List.mem_of_getElem? (i := 1328) (by decide +kernel)⟩
theorem lw_p79 : lw_okq (⟨"CampgroundModel", "minimumOf", "(II)I"⟩, 19) := ⟨⟨by decide +kernel, by decide +kernel⟩, List.mem_of_getElem? (i := 1204) (by decide +kernel), List.mem_of_getElem? (i := 1335) (by decide +kernel), List.mem_of_getElem? (i := 1336) (by decide +kernel)⟩
def lw_privs_5 : List (MethodName × Nat) := [(⟨"Campground$Plan", "chooseSite", "(III)I"⟩, 5), (⟨"Campground$Plan", "countGap", "(III)V"⟩, 5), (⟨"Campground", "checkNights", "(II)V"⟩, 8), (⟨"Campground$Camp", "takenInAll", "(III)I"⟩, 6), (⟨"Campground$Camp", "capacityInAll", "(III)I"⟩, 6), (⟨"Campground$Bookings", "isToDepart", "(II)Z"⟩, 7), (⟨"Campground$Bookings", "isToArrive", "(II)Z"⟩, 7), (⟨"Campground$Bookings", "isDearer", "(II)Z"⟩, 7), (⟨"CampgroundModel", "fail", "(I)I"⟩, 19), (⟨"CampgroundModel", "appendClass", "(III)I"⟩, 19), (⟨"CampgroundModel", "isClass", "(I)Z"⟩, 19), (⟨"CampgroundModel", "appendSite", "(I)I"⟩, 19), (⟨"CampgroundModel", "appendSeason", "(IIIII)I"⟩, 19), (⟨"CampgroundModel", "isSite", "(I)Z"⟩, 19), (⟨"CampgroundModel", "site", "(II)I"⟩, 19), (⟨"CampgroundModel", "minimumOf", "(II)I"⟩, 19)]
theorem lw_r5 : ∀ q ∈ lw_privs_5, lw_okq q := List.forall_mem_cons.mpr ⟨lw_p64, List.forall_mem_cons.mpr ⟨lw_p65, List.forall_mem_cons.mpr ⟨lw_p66, List.forall_mem_cons.mpr ⟨lw_p67, List.forall_mem_cons.mpr ⟨lw_p68, List.forall_mem_cons.mpr ⟨lw_p69, List.forall_mem_cons.mpr ⟨lw_p70, List.forall_mem_cons.mpr ⟨lw_p71, List.forall_mem_cons.mpr ⟨lw_p72, List.forall_mem_cons.mpr ⟨lw_p73, List.forall_mem_cons.mpr ⟨lw_p74, List.forall_mem_cons.mpr ⟨lw_p75, List.forall_mem_cons.mpr ⟨lw_p76, List.forall_mem_cons.mpr ⟨lw_p77, List.forall_mem_cons.mpr ⟨lw_p78, List.forall_mem_cons.mpr ⟨lw_p79, fun _ h => absurd h List.not_mem_nil⟩⟩⟩⟩⟩⟩⟩⟩⟩⟩⟩⟩⟩⟩⟩⟩
theorem lw_p80 : lw_okq (⟨"CampgroundModel", "seasonOf", "(II)I"⟩, 19) := ⟨⟨by decide +kernel, by decide +kernel⟩, List.mem_of_getElem? (i := 1204) (by decide +kernel), List.mem_of_getElem? (i := 1339) (by decide +kernel), List.mem_of_getElem? (i := 1340) (by decide +kernel)⟩
theorem lw_p81 : lw_okq (⟨"CampgroundModel", "season", "(II)I"⟩, 19) := ⟨⟨by decide +kernel, by decide +kernel⟩, List.mem_of_getElem? (i := 1204) (by decide +kernel), List.mem_of_getElem? (i := 1343) (by decide +kernel), List.mem_of_getElem? (i := 1344) (by decide +kernel)⟩
theorem lw_p82 : lw_okq (⟨"CampgroundModel", "priceOf", "(II)I"⟩, 19) := ⟨⟨by decide +kernel, by decide +kernel⟩, List.mem_of_getElem? (i := 1204) (by decide +kernel), List.mem_of_getElem? (i := 1351) (by decide +kernel), List.mem_of_getElem? (i := 1352) (by decide +kernel)⟩
theorem lw_p83 : lw_okq (⟨"CampgroundModel", "capacityOf", "(II)I"⟩, 19) := ⟨⟨by decide +kernel, by decide +kernel⟩, List.mem_of_getElem? (i := 1204) (by decide +kernel), List.mem_of_getElem? (i := 1359) (by decide +kernel), List.mem_of_getElem? (i := 1360) (by decide +kernel)⟩
theorem lw_p84 : lw_okq (⟨"CampgroundModel", "isOpenOn", "(II)Z"⟩, 19) := ⟨⟨by decide +kernel, by decide +kernel⟩, List.mem_of_getElem? (i := 1204) (by decide +kernel), List.mem_of_getElem? (i := 1363) (by decide +kernel), List.mem_of_getElem? (i := 1364) (by decide +kernel)⟩
theorem lw_p85 : lw_okq (⟨"CampgroundModel", "isNight", "(I)Z"⟩, 19) := ⟨⟨by decide +kernel, by decide +kernel⟩, List.mem_of_getElem? (i := 1204) (by decide +kernel), List.mem_of_getElem? (i := 1367) (by decide +kernel), List.mem_of_getElem? (i := 1368) (by decide +kernel)⟩
theorem lw_p86 : lw_okq (⟨"CampgroundModel", "releasedOf", "(II)I"⟩, 19) := ⟨⟨by decide +kernel, by decide +kernel⟩, List.mem_of_getElem? (i := 1204) (by decide +kernel), List.mem_of_getElem? (i := 1375) (by decide +kernel), List.mem_of_getElem? (i := 1376) (by decide +kernel)⟩
theorem lw_p87 : lw_okq (⟨"CampgroundModel", "siteClass", "(II)I"⟩, 19) := ⟨⟨by decide +kernel, by decide +kernel⟩, List.mem_of_getElem? (i := 1204) (by decide +kernel), List.mem_of_getElem? (i := 1379) (by decide +kernel), List.mem_of_getElem? (i := 1380) (by decide +kernel)⟩
theorem lw_p88 : lw_okq (⟨"CampgroundModel", "takenOf", "(II)I"⟩, 19) := ⟨⟨by decide +kernel, by decide +kernel⟩, List.mem_of_getElem? (i := 1204) (by decide +kernel), List.mem_of_getElem? (i := 1388) (by decide +kernel), List.mem_of_getElem? (i := 1389) (by decide +kernel)⟩
theorem lw_p89 : lw_okq (⟨"CampgroundModel", "booking", "(II)I"⟩, 19) := ⟨⟨by decide +kernel, by decide +kernel⟩, List.mem_of_getElem? (i := 1204) (by decide +kernel), List.mem_of_getElem? (i := 1392) (by decide +kernel), List.mem_of_getElem? (i := 1393) (by decide +kernel)⟩
theorem lw_p90 : lw_okq (⟨"CampgroundModel", "isActive", "(I)Z"⟩, 19) := ⟨⟨by decide +kernel, by decide +kernel⟩, List.mem_of_getElem? (i := 1204) (by decide +kernel), List.mem_of_getElem? (i := 1396) (by decide +kernel), List.mem_of_getElem? (i := 1397) (by decide +kernel)⟩
theorem lw_p91 : lw_okq (⟨"CampgroundModel", "availableOf", "(II)I"⟩, 19) := ⟨⟨by decide +kernel, by decide +kernel⟩, List.mem_of_getElem? (i := 1204) (by decide +kernel), List.mem_of_getElem? (i := 1404) (by decide +kernel), List.mem_of_getElem? (i := 1405) (by decide +kernel)⟩
theorem lw_p92 : lw_okq (⟨"CampgroundModel", "obstacleOf", "(III)I"⟩, 19) := ⟨⟨by decide +kernel, by decide +kernel⟩, List.mem_of_getElem? (i := 1204) (by decide +kernel), List.mem_of_getElem? (i := 1416) (by decide +kernel), List.mem_of_getElem? (i := 1417) (by decide +kernel)⟩
theorem lw_p93 : lw_okq (⟨"CampgroundModel", "nightsObstacle", "(III)I"⟩, 19) := ⟨⟨by decide +kernel, by decide +kernel⟩, List.mem_of_getElem? (i := 1204) (by decide +kernel), List.mem_of_getElem? (i := 1420) (by decide +kernel), List.mem_of_getElem? (i := 1421) (by decide +kernel)⟩
theorem lw_p94 : lw_okq (⟨"CampgroundModel", "pricesOf", "(III)I"⟩, 19) := ⟨⟨by decide +kernel, by decide +kernel⟩, List.mem_of_getElem? (i := 1204) (by decide +kernel), List.mem_of_getElem? (i := 1433) (by decide +kernel), List.mem_of_getElem? (i := 1434) (by decide +kernel)⟩
theorem lw_p95 : lw_okq (⟨"CampgroundModel", "appendBooking", "(III)I"⟩, 19) := ⟨⟨by decide +kernel, by decide +kernel⟩, List.mem_of_getElem? (i := 1204) (by decide +kernel), List.mem_of_getElem? (i := 1445) (by decide +kernel), List.mem_of_getElem? (i := 1446) (by decide +kernel)⟩
def lw_privs_6 : List (MethodName × Nat) := [(⟨"CampgroundModel", "seasonOf", "(II)I"⟩, 19), (⟨"CampgroundModel", "season", "(II)I"⟩, 19), (⟨"CampgroundModel", "priceOf", "(II)I"⟩, 19), (⟨"CampgroundModel", "capacityOf", "(II)I"⟩, 19), (⟨"CampgroundModel", "isOpenOn", "(II)Z"⟩, 19), (⟨"CampgroundModel", "isNight", "(I)Z"⟩, 19), (⟨"CampgroundModel", "releasedOf", "(II)I"⟩, 19), (⟨"CampgroundModel", "siteClass", "(II)I"⟩, 19), (⟨"CampgroundModel", "takenOf", "(II)I"⟩, 19), (⟨"CampgroundModel", "booking", "(II)I"⟩, 19), (⟨"CampgroundModel", "isActive", "(I)Z"⟩, 19), (⟨"CampgroundModel", "availableOf", "(II)I"⟩, 19), (⟨"CampgroundModel", "obstacleOf", "(III)I"⟩, 19), (⟨"CampgroundModel", "nightsObstacle", "(III)I"⟩, 19), (⟨"CampgroundModel", "pricesOf", "(III)I"⟩, 19), (⟨"CampgroundModel", "appendBooking", "(III)I"⟩, 19)]
theorem lw_r6 : ∀ q ∈ lw_privs_6, lw_okq q := List.forall_mem_cons.mpr ⟨lw_p80, List.forall_mem_cons.mpr ⟨lw_p81, List.forall_mem_cons.mpr ⟨lw_p82, List.forall_mem_cons.mpr ⟨lw_p83, List.forall_mem_cons.mpr ⟨lw_p84, List.forall_mem_cons.mpr ⟨lw_p85, List.forall_mem_cons.mpr ⟨lw_p86, List.forall_mem_cons.mpr ⟨lw_p87, List.forall_mem_cons.mpr ⟨lw_p88, List.forall_mem_cons.mpr ⟨lw_p89, List.forall_mem_cons.mpr ⟨lw_p90, List.forall_mem_cons.mpr ⟨lw_p91, List.forall_mem_cons.mpr ⟨lw_p92, List.forall_mem_cons.mpr ⟨lw_p93, List.forall_mem_cons.mpr ⟨lw_p94, List.forall_mem_cons.mpr ⟨lw_p95, fun _ h => absurd h List.not_mem_nil⟩⟩⟩⟩⟩⟩⟩⟩⟩⟩⟩⟩⟩⟩⟩⟩
theorem lw_p96 : lw_okq (⟨"CampgroundModel", "setBooking", "(III)V"⟩, 19) := ⟨⟨by decide +kernel, by decide +kernel⟩, List.mem_of_getElem? (i := 1204) (by decide +kernel), List.mem_of_getElem? (i := 1449) (by decide +kernel), List.mem_of_getElem? (i := 1450) (by decide +kernel)⟩
theorem lw_p97 : lw_okq (⟨"CampgroundModel", "bookingField", "(II)I"⟩, 19) := ⟨⟨by decide +kernel, by decide +kernel⟩, List.mem_of_getElem? (i := 1204) (by decide +kernel), List.mem_of_getElem? (i := 1461) (by decide +kernel), List.mem_of_getElem? (i := 1462) (by decide +kernel)⟩
theorem lw_p98 : lw_okq (⟨"CampgroundModel", "isBooking", "(I)Z"⟩, 19) := ⟨⟨by decide +kernel, by decide +kernel⟩, List.mem_of_getElem? (i := 1204) (by decide +kernel), List.mem_of_getElem? (i := 1465) (by decide +kernel), List.mem_of_getElem? (i := 1466) (by decide +kernel)⟩
theorem lw_p99 : lw_okq (⟨"CampgroundModel", "vacantSiteOf", "(I)I"⟩, 19) := ⟨⟨by decide +kernel, by decide +kernel⟩, List.mem_of_getElem? (i := 1204) (by decide +kernel), List.mem_of_getElem? (i := 1497) (by decide +kernel), List.mem_of_getElem? (i := 1498) (by decide +kernel)⟩
theorem lw_p100 : lw_okq (⟨"CampgroundModel", "isVacant", "(I)Z"⟩, 19) := ⟨⟨by decide +kernel, by decide +kernel⟩, List.mem_of_getElem? (i := 1204) (by decide +kernel), List.mem_of_getElem? (i := 1501) (by decide +kernel), List.mem_of_getElem? (i := 1502) (by decide +kernel)⟩
theorem lw_p101 : lw_okq (⟨"CampgroundModel", "isOccupied", "(I)Z"⟩, 19) := ⟨⟨by decide +kernel, by decide +kernel⟩, List.mem_of_getElem? (i := 1204) (by decide +kernel), List.mem_of_getElem? (i := 1505) (by decide +kernel), List.mem_of_getElem? (i := 1506) (by decide +kernel)⟩
theorem lw_p102 : lw_okq (⟨"CampgroundModel", "endDay", "()V"⟩, 19) := ⟨⟨by decide +kernel, by decide +kernel⟩, List.mem_of_getElem? (i := 1204) (by decide +kernel), List.mem_of_getElem? (i := 1529) (by decide +kernel), List.mem_of_getElem? (i := 1530) (by decide +kernel)⟩
theorem lw_p103 : lw_okq (⟨"CampgroundModel", "requestField", "(II)I"⟩, 19) := ⟨⟨by decide +kernel, by decide +kernel⟩, List.mem_of_getElem? (i := 1204) (by decide +kernel), List.mem_of_getElem? (i := 1533) (by decide +kernel), List.mem_of_getElem? (i := 1534) (by decide +kernel)⟩
theorem lw_p104 : lw_okq (⟨"CampgroundModel", "setRequest", "(III)V"⟩, 19) := ⟨⟨by decide +kernel, by decide +kernel⟩, List.mem_of_getElem? (i := 1204) (by decide +kernel), List.mem_of_getElem? (i := 1537) (by decide +kernel), List.mem_of_getElem? (i := 1538) (by decide +kernel)⟩
theorem lw_p105 : lw_okq (⟨"CampgroundModel", "hasSpareSite", "(II)Z"⟩, 19) := ⟨⟨by decide +kernel, by decide +kernel⟩, List.mem_of_getElem? (i := 1204) (by decide +kernel), List.mem_of_getElem? (i := 1549) (by decide +kernel), List.mem_of_getElem? (i := 1550) (by decide +kernel)⟩
theorem lw_p106 : lw_okq (⟨"CampgroundModel", "appendRequest", "(III)I"⟩, 19) := ⟨⟨by decide +kernel, by decide +kernel⟩, List.mem_of_getElem? (i := 1204) (by decide +kernel), List.mem_of_getElem? (i := 1561) (by decide +kernel), List.mem_of_getElem? (i := 1562) (by decide +kernel)⟩
theorem lw_p107 : lw_okq (⟨"CampgroundModel", "isRequest", "(I)Z"⟩, 19) := ⟨⟨by decide +kernel, by decide +kernel⟩, List.mem_of_getElem? (i := 1204) (by decide +kernel), List.mem_of_getElem? (i := 1569) (by decide +kernel), List.mem_of_getElem? (i := 1570) (by decide +kernel)⟩
theorem lw_p108 : lw_okq (⟨"CampgroundModel", "nextRequest", "(I)I"⟩, 19) := ⟨⟨by decide +kernel, by decide +kernel⟩, List.mem_of_getElem? (i := 1204) (by decide +kernel), List.mem_of_getElem? (i := 1585) (by decide +kernel), List.mem_of_getElem? (i := 1586) (by decide +kernel)⟩
theorem lw_p109 : lw_okq (⟨"CampgroundModel", "isAhead", "(II)Z"⟩, 19) := ⟨⟨by decide +kernel, by decide +kernel⟩, List.mem_of_getElem? (i := 1204) (by decide +kernel), List.mem_of_getElem? (i := 1589) (by decide +kernel), List.mem_of_getElem? (i := 1590) (by decide +kernel)⟩
theorem lw_p110 : lw_okq (⟨"CampgroundModel", "plan", "(II)V"⟩, 19) := ⟨⟨by decide +kernel, by decide +kernel⟩, List.mem_of_getElem? (i := 1204) (by decide +kernel), List.mem_of_getElem? (i := 1597) (by decide +kernel), List.mem_of_getElem? (i := 1598) (by decide +kernel)⟩
theorem lw_p111 : lw_okq (⟨"CampgroundModel", "place", "(II)V"⟩, 19) := ⟨⟨by decide +kernel, by decide +kernel⟩, List.mem_of_getElem? (i := 1204) (by decide +kernel), List.mem_of_getElem? (i := 1601) (by decide +kernel), List.mem_of_getElem? (i := 1602) (by decide +kernel)⟩
def lw_privs_7 : List (MethodName × Nat) := [(⟨"CampgroundModel", "setBooking", "(III)V"⟩, 19), (⟨"CampgroundModel", "bookingField", "(II)I"⟩, 19), (⟨"CampgroundModel", "isBooking", "(I)Z"⟩, 19), (⟨"CampgroundModel", "vacantSiteOf", "(I)I"⟩, 19), (⟨"CampgroundModel", "isVacant", "(I)Z"⟩, 19), (⟨"CampgroundModel", "isOccupied", "(I)Z"⟩, 19), (⟨"CampgroundModel", "endDay", "()V"⟩, 19), (⟨"CampgroundModel", "requestField", "(II)I"⟩, 19), (⟨"CampgroundModel", "setRequest", "(III)V"⟩, 19), (⟨"CampgroundModel", "hasSpareSite", "(II)Z"⟩, 19), (⟨"CampgroundModel", "appendRequest", "(III)I"⟩, 19), (⟨"CampgroundModel", "isRequest", "(I)Z"⟩, 19), (⟨"CampgroundModel", "nextRequest", "(I)I"⟩, 19), (⟨"CampgroundModel", "isAhead", "(II)Z"⟩, 19), (⟨"CampgroundModel", "plan", "(II)V"⟩, 19), (⟨"CampgroundModel", "place", "(II)V"⟩, 19)]
theorem lw_r7 : ∀ q ∈ lw_privs_7, lw_okq q := List.forall_mem_cons.mpr ⟨lw_p96, List.forall_mem_cons.mpr ⟨lw_p97, List.forall_mem_cons.mpr ⟨lw_p98, List.forall_mem_cons.mpr ⟨lw_p99, List.forall_mem_cons.mpr ⟨lw_p100, List.forall_mem_cons.mpr ⟨lw_p101, List.forall_mem_cons.mpr ⟨lw_p102, List.forall_mem_cons.mpr ⟨lw_p103, List.forall_mem_cons.mpr ⟨lw_p104, List.forall_mem_cons.mpr ⟨lw_p105, List.forall_mem_cons.mpr ⟨lw_p106, List.forall_mem_cons.mpr ⟨lw_p107, List.forall_mem_cons.mpr ⟨lw_p108, List.forall_mem_cons.mpr ⟨lw_p109, List.forall_mem_cons.mpr ⟨lw_p110, List.forall_mem_cons.mpr ⟨lw_p111, fun _ h => absurd h List.not_mem_nil⟩⟩⟩⟩⟩⟩⟩⟩⟩⟩⟩⟩⟩⟩⟩⟩
theorem lw_p112 : lw_okq (⟨"CampgroundModel", "nextBooking", "(I)I"⟩, 19) := ⟨⟨by decide +kernel, by decide +kernel⟩, List.mem_of_getElem? (i := 1204) (by decide +kernel), List.mem_of_getElem? (i := 1605) (by decide +kernel), List.mem_of_getElem? (i := 1606) (by decide +kernel)⟩
theorem lw_p113 : lw_okq (⟨"CampgroundModel", "freeSite", "(II)I"⟩, 19) := ⟨⟨by decide +kernel, by decide +kernel⟩, List.mem_of_getElem? (i := 1204) (by decide +kernel), List.mem_of_getElem? (i := 1609) (by decide +kernel), List.mem_of_getElem? (i := 1610) (by decide +kernel)⟩
theorem lw_p114 : lw_okq (⟨"CampgroundModel", "wrongPlan", "(II)I"⟩, 19) := ⟨⟨by decide +kernel, by decide +kernel⟩, List.mem_of_getElem? (i := 1204) (by decide +kernel), List.mem_of_getElem? (i := 1617) (by decide +kernel), List.mem_of_getElem? (i := 1618) (by decide +kernel)⟩
theorem lw_p115 : lw_okq (⟨"CampgroundModel", "occupancy", "(IIIZ)I"⟩, 19) := ⟨⟨by decide +kernel, by decide +kernel⟩, List.mem_of_getElem? (i := 1204) (by decide +kernel), List.mem_of_getElem? (i := 1629) (by decide +kernel), List.mem_of_getElem? (i := 1630) (by decide +kernel)⟩
theorem lw_p116 : lw_okq (⟨"CampgroundModel", "nightsOf", "(I)J"⟩, 19) := ⟨⟨by decide +kernel, by decide +kernel⟩, List.mem_of_getElem? (i := 1204) (by decide +kernel), List.mem_of_getElem? (i := 1648) (by decide +kernel), List.mem_of_getElem? (i := 1649) (by decide +kernel)⟩
theorem lw_p117 : lw_okq (⟨"CampgroundModel", "nextToken", "()V"⟩, 19) := ⟨⟨by decide +kernel, by decide +kernel⟩, List.mem_of_getElem? (i := 1204) (by decide +kernel), List.mem_of_getElem? (i := 1675) (by decide +kernel), List.mem_of_getElem? (i := 1676) (by decide +kernel)⟩
theorem lw_p118 : lw_okq (⟨"CampgroundModel", "byteAt", "(I)I"⟩, 19) := ⟨⟨by decide +kernel, by decide +kernel⟩, List.mem_of_getElem? (i := 1204) (by decide +kernel), List.mem_of_getElem? (i := 1679) (by decide +kernel), List.mem_of_getElem? (i := 1680) (by decide +kernel)⟩
theorem lw_p119 : lw_okq (⟨"CampgroundModel", "parseStatement", "()V"⟩, 19) := ⟨⟨by decide +kernel, by decide +kernel⟩, List.mem_of_getElem? (i := 1204) (by decide +kernel), List.mem_of_getElem? (i := 1691) (by decide +kernel), List.mem_of_getElem? (i := 1692) (by decide +kernel)⟩
theorem lw_p120 : lw_okq (⟨"CampgroundModel", "isWord", "(Ljava/lang/String;)Z"⟩, 19) := ⟨⟨by decide +kernel, by decide +kernel⟩, List.mem_of_getElem? (i := 1204) (by decide +kernel), List.mem_of_getElem? (i := 1696) (by decide +kernel), List.mem_of_getElem? (i := 1697) (by decide +kernel)⟩
theorem lw_p121 : lw_okq (⟨"CampgroundModel", "parseClass", "()V"⟩, 19) := ⟨⟨by decide +kernel, by decide +kernel⟩, List.mem_of_getElem? (i := 1204) (by decide +kernel), List.mem_of_getElem? (i := 1702) (by decide +kernel), List.mem_of_getElem? (i := 1703) (by decide +kernel)⟩
theorem lw_p122 : lw_okq (⟨"CampgroundModel", "require", "(ZI)V"⟩, 19) := ⟨⟨by decide +kernel, by decide +kernel⟩, List.mem_of_getElem? (i := 1204) (by decide +kernel), List.mem_of_getElem? (i := 1706) (by decide +kernel), List.mem_of_getElem? (i := 1707) (by decide +kernel)⟩
theorem lw_p123 : lw_okq (⟨"CampgroundModel", "advanceToken", "()V"⟩, 19) := ⟨⟨by decide +kernel, by decide +kernel⟩, List.mem_of_getElem? (i := 1204) (by decide +kernel), List.mem_of_getElem? (i := 1710) (by decide +kernel), List.mem_of_getElem? (i := 1711) (by decide +kernel)⟩
theorem lw_p124 : lw_okq (⟨"CampgroundModel", "parseNumber", "(II)I"⟩, 19) := ⟨⟨by decide +kernel, by decide +kernel⟩, List.mem_of_getElem? (i := 1204) (by decide +kernel), List.mem_of_getElem? (i := 1714) (by decide +kernel), List.mem_of_getElem? (i := 1715) (by decide +kernel)⟩
theorem lw_p125 : lw_okq (⟨"CampgroundModel", "parseSites", "()V"⟩, 19) := ⟨⟨by decide +kernel, by decide +kernel⟩, List.mem_of_getElem? (i := 1204) (by decide +kernel), List.mem_of_getElem? (i := 1719) (by decide +kernel), List.mem_of_getElem? (i := 1720) (by decide +kernel)⟩
theorem lw_p126 : lw_okq (⟨"CampgroundModel", "parseSeason", "()V"⟩, 19) := ⟨⟨by decide +kernel, by decide +kernel⟩, List.mem_of_getElem? (i := 1204) (by decide +kernel), List.mem_of_getElem? (i := 1724) (by decide +kernel), List.mem_of_getElem? (i := 1725) (by decide +kernel)⟩
def lw_privs_8 : List (MethodName × Nat) := [(⟨"CampgroundModel", "nextBooking", "(I)I"⟩, 19), (⟨"CampgroundModel", "freeSite", "(II)I"⟩, 19), (⟨"CampgroundModel", "wrongPlan", "(II)I"⟩, 19), (⟨"CampgroundModel", "occupancy", "(IIIZ)I"⟩, 19), (⟨"CampgroundModel", "nightsOf", "(I)J"⟩, 19), (⟨"CampgroundModel", "nextToken", "()V"⟩, 19), (⟨"CampgroundModel", "byteAt", "(I)I"⟩, 19), (⟨"CampgroundModel", "parseStatement", "()V"⟩, 19), (⟨"CampgroundModel", "isWord", "(Ljava/lang/String;)Z"⟩, 19), (⟨"CampgroundModel", "parseClass", "()V"⟩, 19), (⟨"CampgroundModel", "require", "(ZI)V"⟩, 19), (⟨"CampgroundModel", "advanceToken", "()V"⟩, 19), (⟨"CampgroundModel", "parseNumber", "(II)I"⟩, 19), (⟨"CampgroundModel", "parseSites", "()V"⟩, 19), (⟨"CampgroundModel", "parseSeason", "()V"⟩, 19)]
theorem lw_r8 : ∀ q ∈ lw_privs_8, lw_okq q := List.forall_mem_cons.mpr ⟨lw_p112, List.forall_mem_cons.mpr ⟨lw_p113, List.forall_mem_cons.mpr ⟨lw_p114, List.forall_mem_cons.mpr ⟨lw_p115, List.forall_mem_cons.mpr ⟨lw_p116, List.forall_mem_cons.mpr ⟨lw_p117, List.forall_mem_cons.mpr ⟨lw_p118, List.forall_mem_cons.mpr ⟨lw_p119, List.forall_mem_cons.mpr ⟨lw_p120, List.forall_mem_cons.mpr ⟨lw_p121, List.forall_mem_cons.mpr ⟨lw_p122, List.forall_mem_cons.mpr ⟨lw_p123, List.forall_mem_cons.mpr ⟨lw_p124, List.forall_mem_cons.mpr ⟨lw_p125, List.forall_mem_cons.mpr ⟨lw_p126, fun _ h => absurd h List.not_mem_nil⟩⟩⟩⟩⟩⟩⟩⟩⟩⟩⟩⟩⟩⟩⟩
def lw_privs : List (MethodName × Nat) := lw_privs_1 ++ (lw_privs_2 ++ (lw_privs_3 ++ (lw_privs_4 ++ (lw_privs_5 ++ (lw_privs_6 ++ (lw_privs_7 ++ (lw_privs_8)))))))
def lw_tbl : List Cond := k2_sels lw_privs ++ tables_1
theorem lw_privs_ok : ∀ q ∈ lw_privs, lw_okq q := by
  show ∀ q ∈ lw_privs_1 ++ (lw_privs_2 ++ (lw_privs_3 ++ (lw_privs_4 ++ (lw_privs_5 ++ (lw_privs_6 ++ (lw_privs_7 ++ (lw_privs_8))))))), lw_okq q
  exact List.forall_mem_append.mpr ⟨lw_r1, List.forall_mem_append.mpr ⟨lw_r2, List.forall_mem_append.mpr ⟨lw_r3, List.forall_mem_append.mpr ⟨lw_r4, List.forall_mem_append.mpr ⟨lw_r5, List.forall_mem_append.mpr ⟨lw_r6, List.forall_mem_append.mpr ⟨lw_r7, lw_r8⟩⟩⟩⟩⟩⟩⟩
end
section
/-! ===== BEGIN words of one list among another's, by their places ===== -/
theorem goodIn_r {big : List Cond} (ws : List Cond) (ps : List Nat) (hp : ws = ps.filterMap (fun i => big[i]?)) (h : ws.all goodWord = true) : GoodIn big ws := by
  intro w hw
  have h1 := List.all_eq_true.mp h w hw
  rw [hp] at hw
  obtain ⟨i, -, hi⟩ := List.mem_filterMap.mp hw
  have hm : w ∈ big := by first | exact List.mem_of_getElem? hi | exact List.getElem?_mem hi
  exact ⟨hm, good_of_word h1⟩
theorem goodIn_app {big a b : List Cond} (ha : GoodIn big a) (hb : GoodIn big b) : GoodIn big (a ++ b) := fun w h => (List.mem_append.mp h).elim (ha w) (hb w)
theorem goodIn_ca {big a b : List Cond} {c : Cond} (ha : GoodIn big (c :: a)) (hb : GoodIn big b) : GoodIn big (c :: (a ++ b)) := fun w h => (List.mem_cons.mp h).elim (fun e => ha w (List.mem_cons.mpr (Or.inl e))) (fun h => (List.mem_append.mp h).elim (fun h => ha w (List.mem_cons.mpr (Or.inr h))) (hb w))
theorem goodIn_sub {big ws : List Cond} (hm : ∀ w ∈ ws, w ∈ big) (h : ws.all goodWord = true) : GoodIn big ws := fun w hw => ⟨hm w hw, good_of_word (List.all_eq_true.mp h w hw)⟩
/-! ===== END ===== -/

/-! ===== BEGIN exceptions that leave a method, and their catching by the caller (launches without stack traces) ===== -/
section VXA
/-! The laws vx_back, vx_callV, vx_callS, vx_callSW, vx_throw0, vx_throwS follow proofs of the library, with one case more: JvmDerived/Free/Laws.lean (Back.of_free), Shelf42/LK1.lean (callV, callS), Shelf/KitTraced.lean (throwNew0V, throwNewS). -/
/-- where a method has thrown q: the class by its name, the cell, what was written, the world -/
def vx_T (XC : String → State → State → Prop) (st : State) (q : Addr) (t : State) (mc ms : Nat) (free : Addr → Prop) : Prop :=
  ∃ (E : String) (ce : Cell) (L : List Loc), XC E st t ∧ t.heap[q]? = some ce ∧ ce.vm = .none ∧ st.vm.findClass E = some ce.cls ∧ st.WarmedH t.vm ∧ st.sameButNew ({ t with vm := st.vm } : State) L mc ms ∧ ∀ z ∈ L, free z.base
def vx_Q (Qc : Array Value → State → Outcome → State → Prop) (XC : String → State → State → Prop) (mc ms : Nat) (free : Addr → Prop) : Array Value → State → Outcome → State → Prop := fun a st o t =>
  (Qc a st o t ∧ ∃ L, FrameEnd st o t L mc ms ∧ ∀ q ∈ L, free q.base) ∨ ∃ q, o = .threw q ∧ vx_T XC st q t mc ms free
/-- a callee that returns or throws -/
def vx_Met (l : Launch) (y : MethodName) (ws : List Cond) (rm : Room) (Pc : Array Value → State → Prop) (Qc : Array Value → State → Outcome → State → Prop) (XC : String → State → State → Prop) (mc ms : Nat) (free : Addr → Prop) : Prop :=
  MetFree l y (headSpec ws rm) Pc (fun _ _ _ _ _ => True) (vx_Q Qc XC mc ms free)
def vx_Post (XC : String → State → State → Prop) (mc ms : Nat) (free : Addr → Prop) : Pt → Array Value → Addr → Pt → Prop := fun A a q B =>
  ∃ (g : JFrame) (mk : MethodId) (t : State) (L : List Loc) (E : String) (ce : Cell), B.U.heap = t.heap ∧ B.U.vm = t.vm ∧ XC E (A.U.calling g mk a) t ∧ t.heap[q]? = some ce ∧ ce.vm = .none ∧ A.U.vm.findClass E = some ce.cls ∧ B.locs = A.locs ++ L ∧ (∀ z ∈ L, free z.base) ∧ B.cells = A.cells + mc ∧ B.slots = A.slots + ms
def vx_Back (l : Launch) (R : Room) (p : Program) (e : Env) (below : List Frame) (s : State) (sargs : Array Value) (y : MethodName) (len W9 : Nat)
    (Pre : Pt → Array Value → Prop) (Post : Pt → Array Value → Option Value → Pt → Prop) (PostX : Pt → Array Value → Addr → Pt → Prop) : Prop :=
  ∀ (m : MethodId) (meth : Method) (c : Code) (A : Pt) (g : JFrame) (ig : Instr) (mk : MethodId) (a : Array Value),
    Stand p l e R s m sargs below meth c A.U A.locs A.cells A.slots → g.method = m → g.locals.size = c.maxLocals → decode c.code g.pc = .ok (ig, len) →
    2 * g.monitorRoom + (g.stack.map fun v => v.category).sum ≤ W9 → A.U.methodNamed? y = some mk → Pre A a →
    (∃ (v : Option Value) (B : Pt), Stand p l e R s m sargs below meth c B.U B.locs B.cells B.slots ∧ Post A a v B ∧
      Steps p.tables e below (doInvoke e (A.U.setTop g) [] mk a).1 (B.U.setTop { g with pc := g.pc + len, stack := v.toList ++ g.stack })) ∨
    (∃ (q : Addr) (B : Pt), Stand p l e R s m sargs below meth c B.U B.locs B.cells B.slots ∧ PostX A a q B ∧
      Steps p.tables e below (doInvoke e (A.U.setTop g) [] mk a).1 ((B.U.setTop g).pushFrame (.throwing q)))
section Payer
variable {l : Launch} {R : Room} {p : Program} {e : Env} {below : List Frame} {s : State} {sargs : Array Value} {y : MethodName} {len W9 : Nat}
theorem vx_back {ws : List Cond} {rm : Room} {Pc : Array Value → State → Prop} {Qc : Array Value → State → Outcome → State → Prop} {XC : String → State → State → Prop} {mc ms : Nat} {free : Addr → Prop} {bytes : ByteArray} {maxL : Nat} {ret : Option FieldType}
    (hM : vx_Met l y ws rm Pc Qc XC mc ms free) (hblind : FrameBlind Pc) (hrc : rm.cells = mc) (hrs : rm.slots = ms)
    (hframes : rm.frames + 1 ≤ R.frames) (hlocals : W9 + (maxL + 11) + rm.locals ≤ R.locals)
    (hws : ∀ w ∈ ws, ∀ a' U, s.WarmedH U.vm → w.before a' U = true) (hcode : Cond.code y bytes maxL ret ∈ ws) (hinit : ∀ a' U, s.WarmedH U.vm → (Cond.initialized y.cls).before a' U = true) :
    vx_Back l R p e below s sargs y len W9 (PreOf R mc ms Pc) (PostOf Qc mc ms free) (vx_Post XC mc ms free) := by
  intro m meth c A g ig mk a X hg hsize hdg hW hn hp
  have h1 : (headSpec ws rm).pre.before a A.U = true := atoms_intro fun w hw => hws w hw _ _ X.warmed
  have h2 : (Cond.code y bytes maxL ret).before a A.U = true := hws _ hcode _ _ X.warmed
  have h3 : (Cond.initialized y.cls).before a A.U = true := hinit _ _ X.warmed
  have h4 : A.cells + (headSpec ws rm).room.cells ≤ R.cells := by rw [show (headSpec ws rm).room.cells = mc from hrc]; exact hp.1
  have h5 : A.slots + (headSpec ws rm).room.slots ≤ R.slots := by rw [show (headSpec ws rm).room.slots = ms from hrs]; exact hp.2.1
  have hPc : Pc a (A.U.calling g mk a) := hblind _ _ _ _ hp.2.2
  obtain ⟨U, Ls, c0, s0⟩ := A
  dsimp only [Pt.U, Pt.locs, Pt.cells, Pt.slots] at h1 h2 h3 h4 h5 X hn hPc ⊢
  obtain ⟨methY, cY, hmY, hcY, -, hlY, -, -, -, -⟩ := Cond.code_spec hn h2
  obtain ⟨kY, hkY, -⟩ := className_of_methodNamed hn
  have hinitY : kY.init = .initialized := Cond.initialized_spec (findClass_of_methodNamed hn) hkY h3
  have h : At U g.method c below := by rw [hg]; exact X.here
  have hlocals9 : W9 + (maxL + 11) + (headSpec ws rm).room.locals ≤ R.locals := hlocals
  have happ : (headSpec ws rm).appliesLoose y e.platform (U.calling g mk a) = true :=
    Spec.appliesLoose_calling (g := g) h hdg hn hkY hinitY
      (X.room_calling (g := g) (R' := (headSpec ws rm).room) hsize hmY hcY hframes (by rw [hlY]; omega) h4 h5) h1
  obtain ⟨mid, hmid⟩ := h.above
  have hfr : (U.setTop g).frames = (.java g :: mid) ++ below := by rw [State.frames_setTop' g h.top, hmid]; rfl
  obtain ⟨o, s₂, hsteps, -, hend, hq⟩ := Steps.callFree hM p X.admits X.cas X.clock (acts := []) hfr happ hPc trivial
  have hq' : vx_Q Qc XC mc ms free a (U.calling g mk a) o s₂ := hq
  rw [State.frames_setTop' g h.top] at hend
  obtain ⟨g₀, hg0⟩ := Option.isSome_iff_exists.mp h.top
  obtain ⟨r, hr⟩ := State.topJava?_eq_some.mp hg0
  have hr' : (({ U with heap := s₂.heap, slotsUsed := s₂.slotsUsed } : State).setVm s₂.vm).frames = .java g₀ :: r := hr
  rcases hq' with ⟨hqc, L, hfe, hL⟩ | ⟨q, rfl, E, ce, L, hx, hce, hcv, hcl, hW₂, hsm, hL⟩
  · obtain ⟨⟨v, rfl⟩, hW₂, e2, q2, q3, q4, q5, q6⟩ := id hfe
    have e3 : s₂ = ({ (U.calling g mk a).setFrames s₂.frames with heap := s₂.heap, slotsUsed := s₂.slotsUsed } : State).setVm s₂.vm := by
      have : s₂ = ({ s₂ with vm := (U.calling g mk a).vm } : State).setVm s₂.vm := rfl
      rw [e2] at this
      exact this
    obtain ⟨c₂, i₂, len₂, hc₂, hd₂, hf₂⟩ := hend
    have hW' : U.WarmedH s₂.vm := hW₂
    have hcc : c₂ = c := by
      have h1 : s₂.code? g.method = U.code? g.method := by
        rw [State.code?_eq, State.code?_eq, hW'.alike.method?]
      exact Option.some.inj (hc₂.symm.trans (h1.trans h.code))
    subst hcc
    have hlen : len₂ = len := by rw [hdg] at hd₂; cases hd₂; rfl
    subst hlen
    have hs₂ : s₂ = (({ U with heap := s₂.heap, slotsUsed := s₂.slotsUsed } : State).setVm s₂.vm).setTop { g with pc := g.pc + len₂, stack := v.toList ++ g.stack } := by
      refine e3.trans ?_
      rw [hf₂, State.calling_eq h.top, State.setFrames_setFrames, State.setTop_of_frames _ hr', hr]
      rfl
    have hsame : U.sameButNew ({ U with heap := s₂.heap, slotsUsed := s₂.slotsUsed } : State) L mc ms := by
      refine ⟨?_, q2, q3, q4, q5, q6⟩
      obtain ⟨t, ht, -⟩ := State.frames_cons hr
      show ({ U with heap := s₂.heap, slotsUsed := s₂.slotsUsed } : State) = { U.setFrames U.frames with heap := s₂.heap, slotsUsed := s₂.slotsUsed }
      rw [State.setFrames_self ht]
    subst hg
    refine Or.inl ⟨v, ⟨(({ U with heap := s₂.heap, slotsUsed := s₂.slotsUsed } : State).setVm s₂.vm), Ls ++ L, c0 + mc, s0 + ms⟩,
      ⟨X.admits, X.cas, X.clock, X.frames, X.room, X.hears, X.method, X.code, (X.here.setHeapUsed s₂.heap s₂.slotsUsed).setVm hW'.alike, X.tail, State.WarmedH.trans X.warmed hW', X.limits, X.bytes, X.same.trans (hsame.setVm s.vm)⟩,
      ⟨g, mk, s₂, L, rfl, rfl, hqc, rfl, hL, rfl, rfl⟩, ?_⟩
    show Steps p.tables e below _ ((({ U with heap := s₂.heap, slotsUsed := s₂.slotsUsed } : State).setVm s₂.vm).setTop { g with pc := g.pc + len₂, stack := v.toList ++ g.stack })
    rw [← hs₂]
    exact hsteps
  · obtain ⟨e2, q2, q3, q4, q5, q6⟩ := id hsm
    have e3 : s₂ = ({ (U.calling g mk a).setFrames s₂.frames with heap := s₂.heap, slotsUsed := s₂.slotsUsed } : State).setVm s₂.vm := by
      have : s₂ = ({ s₂ with vm := (U.calling g mk a).vm } : State).setVm s₂.vm := rfl
      rw [e2] at this
      exact this
    have hf₂ : s₂.frames = .throwing q :: .java g :: U.frames.tail := hend
    have hW' : U.WarmedH s₂.vm := hW₂
    have hs₂ : s₂ = ((({ U with heap := s₂.heap, slotsUsed := s₂.slotsUsed } : State).setVm s₂.vm).setTop g).pushFrame (.throwing q) := by
      refine e3.trans ?_
      rw [hf₂, State.calling_eq h.top, State.setFrames_setFrames, State.pushFrame, State.frames_setTop _ hr', State.setTop_of_frames _ hr', State.setFrames_setFrames, hr]
      rfl
    have hsame : U.sameButNew ({ U with heap := s₂.heap, slotsUsed := s₂.slotsUsed } : State) L mc ms := by
      refine ⟨?_, q2, q3, q4, q5, q6⟩
      obtain ⟨t, ht, -⟩ := State.frames_cons hr
      show ({ U with heap := s₂.heap, slotsUsed := s₂.slotsUsed } : State) = { U.setFrames U.frames with heap := s₂.heap, slotsUsed := s₂.slotsUsed }
      rw [State.setFrames_self ht]
    subst hg
    refine Or.inr ⟨q, ⟨(({ U with heap := s₂.heap, slotsUsed := s₂.slotsUsed } : State).setVm s₂.vm), Ls ++ L, c0 + mc, s0 + ms⟩,
      ⟨X.admits, X.cas, X.clock, X.frames, X.room, X.hears, X.method, X.code, (X.here.setHeapUsed s₂.heap s₂.slotsUsed).setVm hW'.alike, X.tail, State.WarmedH.trans X.warmed hW', X.limits, X.bytes, X.same.trans (hsame.setVm s.vm)⟩,
      ⟨g, mk, s₂, L, E, ce, rfl, rfl, hx, hce, hcv, hcl, rfl, hL, rfl, rfl⟩, ?_⟩
    show Steps p.tables e below _ (((({ U with heap := s₂.heap, slotsUsed := s₂.slotsUsed } : State).setVm s₂.vm).setTop g).pushFrame (.throwing q))
    rw [← hs₂]
    exact hsteps
end Payer
section Calls
variable {p : Program} {l : Launch} {e : Env} {R : Room} {s : State} {m : MethodId} {args : Array Value} {below : List Frame} {meth : Method} {c : Code} {T : State} {locs : List Loc} {cells slots : Nat}
theorem vx_callV (X : Stand p l e R s m args below meth c T locs cells slots) (hexec : p.tables.exec = Jvm.exec) {own C : String} {index : Nat} {y : MethodName} {bytes : ByteArray} {maxL : Nat} {ret : Option FieldType}
    (hown : s.vm.findClass own = some m.cls) (hlink : (Cond.methodLink own index y).before args s = true) (hinst : (Cond.instanceMethod y).before args s = true) (hsel : (Cond.selects C y y).before args s = true)
    (hcode : (Cond.code y bytes maxL ret).before args s = true) (hy : y.cls ≠ "java/lang/invoke/MethodHandle" ∧ y.cls ≠ "java/lang/invoke/VarHandle")
    {W9 : Nat} {Pre : Pt → Array Value → Prop} {Post : Pt → Array Value → Option Value → Pt → Prop} {PostX : Pt → Array Value → Addr → Pt → Prop} (hK : vx_Back l R p e below s args y 3 W9 Pre Post PostX)
    {b : Addr} {cellB : Cell} (hcell : T.heap[b]? = some cellB) (hobj : cellB.vm.isStatics = false) (hcls : s.vm.findClass C = some cellB.cls)
    {g : JFrame} (hg : g.method = m) (hsize : g.locals.size = c.maxLocals) {argsL rest : List Value} (hlen : ∀ sig, parseMethodDescriptor y.desc = some sig → argsL.length = sig.parameters.length)
    (hstack : g.stack = argsL.reverse ++ .ref b :: rest) (hW : 2 * g.monitorRoom + (rest.map fun v => v.category).sum ≤ W9) (hdg : decode c.code g.pc = .ok (.invokevirtual index, 3))
    (hpre : ∀ vm₁, s.WarmedH vm₁ → Pre ⟨T.setVm vm₁, locs, cells, slots⟩ (Value.ref b :: argsL).toArray) :
    (∃ (v : Option Value) (vm₁ : Vm) (B : Pt), s.WarmedH vm₁ ∧ Stand p l e R s m args below meth c B.U B.locs B.cells B.slots ∧ Post ⟨T.setVm vm₁, locs, cells, slots⟩ (Value.ref b :: argsL).toArray v B ∧
      ∀ target, Steps p.tables e below (B.U.setTop { g with pc := g.pc + 3, stack := v.toList ++ rest }) target → Steps p.tables e below (T.setTop g) target) ∨
    (∃ (q : Addr) (vm₁ : Vm) (B : Pt), s.WarmedH vm₁ ∧ Stand p l e R s m args below meth c B.U B.locs B.cells B.slots ∧ PostX ⟨T.setVm vm₁, locs, cells, slots⟩ (Value.ref b :: argsL).toArray q B ∧
      Steps p.tables e below (T.setTop g) ((B.U.setTop { g with stack := rest }).pushFrame (.throwing q))) := by
  obtain ⟨mk, methM, hnamed, hmethM, hstM, habM⟩ := Cond.instanceMethod_spec hinst
  obtain ⟨methM', cM, hmethM', -, -, -, -, -, -, hsigM⟩ := Cond.code_spec hnamed hcode
  cases hmethM.symm.trans hmethM'
  obtain ⟨c2, r2, m2, q1, q2, q3, q4, kP, hkP, hkPi⟩ := Cond.selects_spec hsel
  cases hcls.symm.trans q1
  cases (State.methodFound?_of_named hnamed hy).symm.trans q2
  cases hnamed.symm.trans q3
  have hselP : selectMethod e.platform s.vm cellB.cls mk = .method mk := by rw [Launch.admits_selectMethod X.admits]; exact q4
  obtain ⟨vm₁, X₁, hstep₁⟩ := X.invokevirtual hexec hown hlink hnamed hmethM hstM hkP hkPi hy (a := b) (cell := cellB) hcell
    (fun z h => by rw [h] at hobj; cases hobj) hselP hmethM habM hkP hkPi (g := g) hg (argsL := argsL) (rest := rest) (hlen _ hsigM) hstack hdg
  rcases hK m meth c ⟨T.setVm vm₁, locs, cells, slots⟩ { g with stack := rest } (.invokevirtual index) mk (Value.ref b :: argsL).toArray X₁ hg hsize hdg hW (X₁.named hnamed) (hpre vm₁ X₁.warmed) with ⟨v, B, X', hpost, hsteps⟩ | ⟨q, B, X', hpost, hsteps⟩
  · exact Or.inl ⟨v, vm₁, B, X₁.warmed, X', hpost, fun target h => hstep₁ _ fun acts => by rw [doInvoke_state]; exact hsteps.trans h⟩
  · exact Or.inr ⟨q, vm₁, B, X₁.warmed, X', hpost, hstep₁ _ fun acts => by rw [doInvoke_state]; exact hsteps⟩
theorem vx_callS (X : Stand p l e R s m args below meth c T locs cells slots) (hexec : p.tables.exec = Jvm.exec) {own : String} {index : Nat} {y : MethodName} {bytes : ByteArray} {maxL : Nat} {ret : Option FieldType}
    (hown : s.vm.findClass own = some m.cls) (hlink : (Cond.methodLink own index y).before args s = true) (hstat : (Cond.static y).before args s = true) (hinit : (Cond.initialized y.cls).before args s = true)
    (hcode : (Cond.code y bytes maxL ret).before args s = true) (hy : y.cls ≠ "java/lang/invoke/MethodHandle" ∧ y.cls ≠ "java/lang/invoke/VarHandle")
    {W9 : Nat} {Pre : Pt → Array Value → Prop} {Post : Pt → Array Value → Option Value → Pt → Prop} {PostX : Pt → Array Value → Addr → Pt → Prop} (hK : vx_Back l R p e below s args y 3 W9 Pre Post PostX)
    {g : JFrame} (hg : g.method = m) (hsize : g.locals.size = c.maxLocals) {argsL rest : List Value} (hlen : ∀ sig, parseMethodDescriptor y.desc = some sig → argsL.length = sig.parameters.length)
    (hstack : g.stack = argsL.reverse ++ rest) (hW : 2 * g.monitorRoom + (rest.map fun v => v.category).sum ≤ W9) (hdg : decode c.code g.pc = .ok (.invokestatic index, 3))
    (hpre : ∀ vm₁, s.WarmedH vm₁ → Pre ⟨T.setVm vm₁, locs, cells, slots⟩ argsL.toArray) :
    (∃ (v : Option Value) (vm₁ : Vm) (B : Pt), s.WarmedH vm₁ ∧ Stand p l e R s m args below meth c B.U B.locs B.cells B.slots ∧ Post ⟨T.setVm vm₁, locs, cells, slots⟩ argsL.toArray v B ∧
      ∀ target, Steps p.tables e below (B.U.setTop { g with pc := g.pc + 3, stack := v.toList ++ rest }) target → Steps p.tables e below (T.setTop g) target) ∨
    (∃ (q : Addr) (vm₁ : Vm) (B : Pt), s.WarmedH vm₁ ∧ Stand p l e R s m args below meth c B.U B.locs B.cells B.slots ∧ PostX ⟨T.setVm vm₁, locs, cells, slots⟩ argsL.toArray q B ∧
      Steps p.tables e below (T.setTop g) ((B.U.setTop { g with stack := rest }).pushFrame (.throwing q))) := by
  obtain ⟨mk, hnamed⟩ := Cond.code_named hcode
  obtain ⟨methM, cM, hmethM, -, -, -, -, -, -, hsigM⟩ := Cond.code_spec hnamed hcode
  have hstatic : methM.isStatic = true := Cond.static_spec hnamed hmethM hstat
  obtain ⟨kP, hkP, -⟩ := className_of_methodNamed hnamed
  have hinitP : kP.init = .initialized := Cond.initialized_spec (findClass_of_methodNamed hnamed) hkP hinit
  obtain ⟨vm₁, X₁, hstep₁⟩ := X.invokestatic hexec hown hlink hnamed hmethM hstatic hkP hinitP hy (g := g) hg (argsL := argsL) (rest := rest) (hlen _ hsigM) hstack hdg
  rcases hK m meth c ⟨T.setVm vm₁, locs, cells, slots⟩ { g with stack := rest } (.invokestatic index) mk argsL.toArray X₁ hg hsize hdg hW (X₁.named hnamed) (hpre vm₁ X₁.warmed) with ⟨v, B, X', hpost, hsteps⟩ | ⟨q, B, X', hpost, hsteps⟩
  · exact Or.inl ⟨v, vm₁, B, X₁.warmed, X', hpost, fun target h => hstep₁ _ fun acts => by rw [doInvoke_state]; exact hsteps.trans h⟩
  · exact Or.inr ⟨q, vm₁, B, X₁.warmed, X', hpost, hstep₁ _ fun acts => by rw [doInvoke_state]; exact hsteps⟩
end Calls
theorem vx_cls {s : State} {T : State} {vm₁ : Vm} {E : String} {k : ClassId} (hW : s.WarmedH vm₁) (h : (T.setVm vm₁).vm.findClass E = some k) : s.vm.findClass E = some k := by
  have h1 : vm₁.findClass E = some k := h
  rw [hW.alike.findClass] at h1
  exact h1
/-- the method's frame g, with q thrown over it -/
def vx_W (p : Program) (l : Launch) (e : Env) (R : Room) (s : State) (m : MethodId) (args : Array Value) (below : List Frame) (meth : Method) (c : Code) (H : Heap) (locs : List Loc) (cells slots : Nat) (Q : State → Prop) (g : JFrame) (q : Addr) : Prop :=
  ∀ T : State, T.heap = H → Stand p l e R s m args below meth c T locs cells slots → ∃ t, Steps p.tables e below ((T.setTop g).pushFrame (.throwing q)) t ∧ Q t
def vx_Run (p : Program) (l : Launch) (e : Env) (R : Room) (s : State) (m : MethodId) (args : Array Value) (below : List Frame) (meth : Method) (c : Code) (H : Heap) (locs : List Loc) (cells slots mc ms : Nat) (g : JFrame) (rest : List Value) (Qa : State → Outcome → State → Prop) (XC : String → State → State → Prop) (free : Addr → Prop) : Prop :=
  ∀ T : State, T.heap = H → Stand p l e R s m args below meth c T locs cells slots →
    (∃ (v : Option Value) (st₀ t T' : State) (L : List Loc), st₀.heap = H ∧ Stand p l e R s m args below meth c T' (locs ++ L) (cells + mc) (slots + ms) ∧ (∀ q ∈ L, free q.base) ∧ T'.heap = t.heap ∧ T'.vm = t.vm ∧ Qa st₀ (.returned v) t ∧
      Goes p e below T g T' { g with pc := g.pc + 3, stack := v.toList ++ rest }) ∨
    (∃ (q : Addr) (st₀ t T' : State) (L : List Loc) (E : String) (ce : Cell), st₀.heap = H ∧ Stand p l e R s m args below meth c T' (locs ++ L) (cells + mc) (slots + ms) ∧ (∀ z ∈ L, free z.base) ∧ T'.heap = t.heap ∧ T'.vm = t.vm ∧ XC E st₀ t ∧ t.heap[q]? = some ce ∧ ce.vm = .none ∧ s.vm.findClass E = some ce.cls ∧
      Steps p.tables e below (T.setTop g) ((T'.setTop { g with stack := rest }).pushFrame (.throwing q)))
def vx_X {S : Type} (px : S → Prop) (B : String → S → State → Prop) (A : Nat → Prop) : String → State → State → Prop := fun E st t => ∃ u : S, px u ∧ B E u t ∧ va_F A st t
section Runs
variable {p : Program} {l : Launch} {e : Env} {R : Room} {s : State} {m : MethodId} {args : Array Value} {below : List Frame} {meth : Method} {c : Code} {H : Heap} {locs : List Loc} {cells slots : Nat}
variable {y : MethodName} {bytes cc : ByteArray} {maxL nL mc ms n index : Nat} {ret : Option FieldType} {ws : List Cond} {rm : Room} {Pc : Array Value → State → Prop} {Qc : Array Value → State → Outcome → State → Prop} {XC : String → State → State → Prop} {free : Addr → Prop} {Ts : List Cond} {own C : String} {b : Addr} {As rest : List Value} {g : JFrame}
theorem vx_callBack (cb : CallB R s args own index y bytes maxL ret ws rm mc ms n) (hM : vx_Met l y ws rm Pc Qc XC mc ms free) (hbl : FrameBlind Pc) : vx_Back l R p e below s args y 3 8 (PreOf R mc ms Pc) (PostOf Qc mc ms free) (vx_Post XC mc ms free) := by
  obtain ⟨hrc, hrs, hfr, hlo, hws, hcw, -, hini, -⟩ := cb
  exact vx_back (bytes := bytes) (maxL := maxL) (ret := ret) hM hbl hrc hrs hfr hlo hws hcw (fun a' U hW => word_at hW (Or.inl (by first | rfl | simp [Cond.onTables, Cond.keeps, Cond.steady])) hini)
theorem vx_runV (S : CallFix p m c cc nL s args Ts own) (hM : vx_Met l y ws rm Pc Qc XC mc ms free) (cw : CallW R s args own C index y bytes maxL ret ws rm mc ms n) (hp : PreV s H C b Pc As)
    (hg : g.method = m) (hn : As.length = n) (hsize : g.locals.size = nL) (hstack : g.stack = As.reverse ++ .ref b :: rest) (hW : 2 * g.monitorRoom + (rest.map fun v => v.category).sum ≤ 8) (hdg : decode cc g.pc = .ok (.invokevirtual index, 3)) (hf : cells + mc ≤ R.cells ∧ slots + ms ≤ R.slots) :
    vx_Run p l e R s m args below meth c H locs cells slots mc ms g rest (Qc (Value.ref b :: As).toArray) XC free := by
  have hK : vx_Back l R p e below s args y 3 8 (PreOf R mc ms Pc) (PostOf Qc mc ms free) (vx_Post XC mc ms free) := vx_callBack cw.1 hM hp.1
  obtain ⟨⟨-, -, -, -, -, -, hcode, -, hy, hlen, hl⟩, hin, hse⟩ := cw
  obtain ⟨hx, hb, hml, ho, -⟩ := S
  obtain ⟨-, ⟨cellB, hcB, hoB, hclB⟩, hPc⟩ := hp
  intro T hT X
  rcases vx_callV X hx (C := C) (bytes := bytes) (maxL := maxL) (ret := ret) ho hl hin hse hcode hy hK (by rw [hT]; exact hcB) hoB hclB hg (hsize.trans hml.symm) (argsL := As) (rest := rest) (fun sig h => hn.trans (hlen sig h)) hstack hW (by rw [hb]; exact hdg)
    (fun vm₁ hW₁ => ⟨hf.1, hf.2, hPc (T.setVm vm₁) hT hW₁⟩) with ⟨v, vm₁, ⟨U', l2, c2, s2⟩, hW₁, X', ⟨g', mk, t, L, e1, e2, hq, h1, hL, h2, h3⟩, st⟩ | ⟨q, vm₁, ⟨U', l2, c2, s2⟩, hW₁, X', ⟨g', mk, t, L, E, ce, e1, e2, hq, hce, hcv, hcl, h1, hL, h2, h3⟩, st⟩
  · dsimp only [Pt.U, Pt.locs, Pt.cells, Pt.slots] at X' e1 e2 h1 h2 h3 st
    subst h1; subst h2; subst h3
    exact Or.inl ⟨v, (T.setVm vm₁).calling g' mk (Value.ref b :: As).toArray, t, U', L, hT, X', hL, e1, e2, hq, st⟩
  · dsimp only [Pt.U, Pt.locs, Pt.cells, Pt.slots] at X' e1 e2 h1 h2 h3 st hcl
    subst h1; subst h2; subst h3
    exact Or.inr ⟨q, (T.setVm vm₁).calling g' mk (Value.ref b :: As).toArray, t, U', L, E, ce, hT, X', hL, e1, e2, hq, hce, hcv, vx_cls hW₁ hcl, st⟩
theorem vx_runS (S : CallFix p m c cc nL s args Ts own) (hM : vx_Met l y ws rm Pc Qc XC mc ms free) (cw : CallB R s args own index y bytes maxL ret ws rm mc ms n ∧ (Cond.static y).before args s = true) (hp : PreS s H Pc As)
    (hg : g.method = m) (hn : As.length = n) (hsize : g.locals.size = nL) (hstack : g.stack = As.reverse ++ rest) (hW : 2 * g.monitorRoom + (rest.map fun v => v.category).sum ≤ 8) (hdg : decode cc g.pc = .ok (.invokestatic index, 3)) (hf : cells + mc ≤ R.cells ∧ slots + ms ≤ R.slots) :
    vx_Run p l e R s m args below meth c H locs cells slots mc ms g rest (Qc As.toArray) XC free := by
  have hK : vx_Back l R p e below s args y 3 8 (PreOf R mc ms Pc) (PostOf Qc mc ms free) (vx_Post XC mc ms free) := vx_callBack cw.1 hM hp.1
  obtain ⟨⟨-, -, -, -, -, -, hcode, hini, hy, hlen, hl⟩, hstt⟩ := cw
  obtain ⟨hx, hb, hml, ho, -⟩ := S
  intro T hT X
  rcases vx_callS X hx (bytes := bytes) (maxL := maxL) (ret := ret) ho hl hstt hini hcode hy hK hg (hsize.trans hml.symm) (argsL := As) (rest := rest) (fun sig h => hn.trans (hlen sig h)) hstack hW (by rw [hb]; exact hdg)
    (fun vm₁ hW₁ => ⟨hf.1, hf.2, hp.2 (T.setVm vm₁) hT hW₁⟩) with ⟨v, vm₁, ⟨U', l2, c2, s2⟩, hW₁, X', ⟨g', mk, t, L, e1, e2, hq, h1, hL, h2, h3⟩, st⟩ | ⟨q, vm₁, ⟨U', l2, c2, s2⟩, hW₁, X', ⟨g', mk, t, L, E, ce, e1, e2, hq, hce, hcv, hcl, h1, hL, h2, h3⟩, st⟩
  · dsimp only [Pt.U, Pt.locs, Pt.cells, Pt.slots] at X' e1 e2 h1 h2 h3 st
    subst h1; subst h2; subst h3
    exact Or.inl ⟨v, (T.setVm vm₁).calling g' mk As.toArray, t, U', L, hT, X', hL, e1, e2, hq, st⟩
  · dsimp only [Pt.U, Pt.locs, Pt.cells, Pt.slots] at X' e1 e2 h1 h2 h3 st hcl
    subst h1; subst h2; subst h3
    exact Or.inr ⟨q, (T.setVm vm₁).calling g' mk As.toArray, t, U', L, E, ce, hT, X', hL, e1, e2, hq, hce, hcv, vx_cls hW₁ hcl, st⟩
end Runs
section Rows
variable {p : Program} {l : Launch} {e : Env} {R : Room} {s : State} {m : MethodId} {args : Array Value} {below : List Frame} {meth : Method} {c : Code} {H : Heap} {locs : List Loc} {cells slots : Nat} {Q : State → Prop}
variable {mc ms : Nat} {free : Addr → Prop} {A0 A1 : Nat → Prop} {H0 : Heap} {a : Array Value} {pc : Nat} {ls : Array Slot} {st0 rest : List Value}
theorem vx_keep {st₀ t T' : State} {L : List Loc} (h0 : st₀.heap = H) (e1 : T'.heap = t.heap) (hS : va_S A0 H0 H locs) (hA : ∀ q, q < H.size → A1 q → A0 q) (hf : ∀ q, free q → A0 q) (hL : ∀ q ∈ L, free q.base) (hF : va_F A1 st₀ t) :
    H.size ≤ T'.heap.size ∧ (∀ q : Nat, q < H.size → ¬ A1 q → T'.heap[q]? = H[q]?) ∧ va_S A0 H0 T'.heap (locs ++ L) := by
  obtain ⟨hz, hk⟩ := hF
  rw [h0] at hz hk
  exact ⟨by rw [e1]; exact hz, fun q h1 h2 => by rw [e1]; exact hk q h1 h2,
    ⟨Nat.le_trans hS.1 (by rw [e1]; exact hz), fun q h1 h2 => by rw [e1, hk q (Nat.lt_of_lt_of_le h1 hS.1) (fun z => h2 (hA q (Nat.lt_of_lt_of_le h1 hS.1) z))]; exact hS.2.1 q h1 h2, fun q hq => by
      rcases List.mem_append.mp hq with h | h
      · exact hS.2.2 q h
      · exact hf _ (hL q h)⟩⟩
theorem vx_calli {S SX : Type} {post : Int32 → S → Prop} {px : SX → Prop} {B : S → State → Prop} {BX : String → SX → State → Prop} {AX : Nat → Prop} (hr : vx_Run p l e R s m args below meth c H locs cells slots mc ms (F0 m pc ls st0) rest (va_Qi post B A1 a) (vx_X px BX AX) free) (hS : va_S A0 H0 H locs) (hA : ∀ q, q < H.size → A1 q → A0 q) (hf : ∀ q, free q → A0 q) (hAX : ∀ q, q < H.size → AX q → A0 q)
    (kx : ∀ (E : String) (ce : Cell) (q9 : Addr) (u : SX) (t : State) (H1 : Heap) (locs1 : List Loc), t.heap = H1 → s.vm.Alike t.vm → px u → BX E u t → H.size ≤ H1.size → (∀ q : Nat, q < H.size → ¬ AX q → H1[q]? = H[q]?) → va_S A0 H0 H1 locs1 → H1[q9]? = some ce → ce.vm = .none → s.vm.findClass E = some ce.cls → vx_W p l e R s m args below meth c H1 locs1 (cells + mc) (slots + ms) Q (F0 m pc ls rest) q9)
    (kk : ∀ (r : Int32) (u : S) (t : State) (H1 : Heap) (locs1 : List Loc), t.heap = H1 → s.vm.Alike t.vm → post r u → B u t → H.size ≤ H1.size → (∀ q : Nat, q < H.size → ¬ A1 q → H1[q]? = H[q]?) → va_S A0 H0 H1 locs1 → W p l e R s m args below meth c H1 locs1 (cells + mc) (slots + ms) Q (F0 m (pc + 3) ls (.int r :: rest))) : W p l e R s m args below meth c H locs cells slots Q (F0 m pc ls st0) := by
  intro T hT X
  rcases hr T hT X with ⟨v, st₀, t, T', L, h0, X', hL, e1, e2, ⟨⟨r, u, hv, hp, hb⟩, hF⟩, st⟩ | ⟨q, st₀, t, T', L, E, ce, h0, X', hL, e1, e2, ⟨u, hp, hb, hF⟩, hce, hcv, hcl, st⟩
  · cases hv
    obtain ⟨k1, k2, k3⟩ := vx_keep h0 e1 hS hA hf hL hF
    obtain ⟨t2, a1, b1⟩ := kk r u t T'.heap (locs ++ L) e1.symm (by rw [← e2]; exact X'.warmed.alike) hp hb k1 k2 k3 T' rfl X'
    exact ⟨t2, st t2 a1, b1⟩
  · obtain ⟨k1, k2, k3⟩ := vx_keep h0 e1 hS hAX hf hL hF
    obtain ⟨t2, a1, b1⟩ := kx E ce q u t T'.heap (locs ++ L) e1.symm (by rw [← e2]; exact X'.warmed.alike) hp hb k1 k2 k3 (by rw [e1]; exact hce) hcv hcl T' rfl X'
    exact ⟨t2, st.trans a1, b1⟩
theorem vx_calll {S SX : Type} {post : Int64 → S → Prop} {px : SX → Prop} {B : S → State → Prop} {BX : String → SX → State → Prop} {AX : Nat → Prop} (hr : vx_Run p l e R s m args below meth c H locs cells slots mc ms (F0 m pc ls st0) rest (va_Ql post B A1 a) (vx_X px BX AX) free) (hS : va_S A0 H0 H locs) (hA : ∀ q, q < H.size → A1 q → A0 q) (hf : ∀ q, free q → A0 q) (hAX : ∀ q, q < H.size → AX q → A0 q)
    (kx : ∀ (E : String) (ce : Cell) (q9 : Addr) (u : SX) (t : State) (H1 : Heap) (locs1 : List Loc), t.heap = H1 → s.vm.Alike t.vm → px u → BX E u t → H.size ≤ H1.size → (∀ q : Nat, q < H.size → ¬ AX q → H1[q]? = H[q]?) → va_S A0 H0 H1 locs1 → H1[q9]? = some ce → ce.vm = .none → s.vm.findClass E = some ce.cls → vx_W p l e R s m args below meth c H1 locs1 (cells + mc) (slots + ms) Q (F0 m pc ls rest) q9)
    (kk : ∀ (r : Int64) (u : S) (t : State) (H1 : Heap) (locs1 : List Loc), t.heap = H1 → s.vm.Alike t.vm → post r u → B u t → H.size ≤ H1.size → (∀ q : Nat, q < H.size → ¬ A1 q → H1[q]? = H[q]?) → va_S A0 H0 H1 locs1 → W p l e R s m args below meth c H1 locs1 (cells + mc) (slots + ms) Q (F0 m (pc + 3) ls (.long r :: rest))) : W p l e R s m args below meth c H locs cells slots Q (F0 m pc ls st0) := by
  intro T hT X
  rcases hr T hT X with ⟨v, st₀, t, T', L, h0, X', hL, e1, e2, ⟨⟨r, u, hv, hp, hb⟩, hF⟩, st⟩ | ⟨q, st₀, t, T', L, E, ce, h0, X', hL, e1, e2, ⟨u, hp, hb, hF⟩, hce, hcv, hcl, st⟩
  · cases hv
    obtain ⟨k1, k2, k3⟩ := vx_keep h0 e1 hS hA hf hL hF
    obtain ⟨t2, a1, b1⟩ := kk r u t T'.heap (locs ++ L) e1.symm (by rw [← e2]; exact X'.warmed.alike) hp hb k1 k2 k3 T' rfl X'
    exact ⟨t2, st t2 a1, b1⟩
  · obtain ⟨k1, k2, k3⟩ := vx_keep h0 e1 hS hAX hf hL hF
    obtain ⟨t2, a1, b1⟩ := kx E ce q u t T'.heap (locs ++ L) e1.symm (by rw [← e2]; exact X'.warmed.alike) hp hb k1 k2 k3 (by rw [e1]; exact hce) hcv hcl T' rfl X'
    exact ⟨t2, st.trans a1, b1⟩
theorem vx_callf {S SX : Type} {post : UInt32 → S → Prop} {px : SX → Prop} {B : S → State → Prop} {BX : String → SX → State → Prop} {AX : Nat → Prop} (hr : vx_Run p l e R s m args below meth c H locs cells slots mc ms (F0 m pc ls st0) rest (va_Qf post B A1 a) (vx_X px BX AX) free) (hS : va_S A0 H0 H locs) (hA : ∀ q, q < H.size → A1 q → A0 q) (hf : ∀ q, free q → A0 q) (hAX : ∀ q, q < H.size → AX q → A0 q)
    (kx : ∀ (E : String) (ce : Cell) (q9 : Addr) (u : SX) (t : State) (H1 : Heap) (locs1 : List Loc), t.heap = H1 → s.vm.Alike t.vm → px u → BX E u t → H.size ≤ H1.size → (∀ q : Nat, q < H.size → ¬ AX q → H1[q]? = H[q]?) → va_S A0 H0 H1 locs1 → H1[q9]? = some ce → ce.vm = .none → s.vm.findClass E = some ce.cls → vx_W p l e R s m args below meth c H1 locs1 (cells + mc) (slots + ms) Q (F0 m pc ls rest) q9)
    (kk : ∀ (r : UInt32) (u : S) (t : State) (H1 : Heap) (locs1 : List Loc), t.heap = H1 → s.vm.Alike t.vm → post r u → B u t → H.size ≤ H1.size → (∀ q : Nat, q < H.size → ¬ A1 q → H1[q]? = H[q]?) → va_S A0 H0 H1 locs1 → W p l e R s m args below meth c H1 locs1 (cells + mc) (slots + ms) Q (F0 m (pc + 3) ls (.float r :: rest))) : W p l e R s m args below meth c H locs cells slots Q (F0 m pc ls st0) := by
  intro T hT X
  rcases hr T hT X with ⟨v, st₀, t, T', L, h0, X', hL, e1, e2, ⟨⟨r, u, hv, hp, hb⟩, hF⟩, st⟩ | ⟨q, st₀, t, T', L, E, ce, h0, X', hL, e1, e2, ⟨u, hp, hb, hF⟩, hce, hcv, hcl, st⟩
  · cases hv
    obtain ⟨k1, k2, k3⟩ := vx_keep h0 e1 hS hA hf hL hF
    obtain ⟨t2, a1, b1⟩ := kk r u t T'.heap (locs ++ L) e1.symm (by rw [← e2]; exact X'.warmed.alike) hp hb k1 k2 k3 T' rfl X'
    exact ⟨t2, st t2 a1, b1⟩
  · obtain ⟨k1, k2, k3⟩ := vx_keep h0 e1 hS hAX hf hL hF
    obtain ⟨t2, a1, b1⟩ := kx E ce q u t T'.heap (locs ++ L) e1.symm (by rw [← e2]; exact X'.warmed.alike) hp hb k1 k2 k3 (by rw [e1]; exact hce) hcv hcl T' rfl X'
    exact ⟨t2, st.trans a1, b1⟩
theorem vx_calld {S SX : Type} {post : UInt64 → S → Prop} {px : SX → Prop} {B : S → State → Prop} {BX : String → SX → State → Prop} {AX : Nat → Prop} (hr : vx_Run p l e R s m args below meth c H locs cells slots mc ms (F0 m pc ls st0) rest (va_Qd post B A1 a) (vx_X px BX AX) free) (hS : va_S A0 H0 H locs) (hA : ∀ q, q < H.size → A1 q → A0 q) (hf : ∀ q, free q → A0 q) (hAX : ∀ q, q < H.size → AX q → A0 q)
    (kx : ∀ (E : String) (ce : Cell) (q9 : Addr) (u : SX) (t : State) (H1 : Heap) (locs1 : List Loc), t.heap = H1 → s.vm.Alike t.vm → px u → BX E u t → H.size ≤ H1.size → (∀ q : Nat, q < H.size → ¬ AX q → H1[q]? = H[q]?) → va_S A0 H0 H1 locs1 → H1[q9]? = some ce → ce.vm = .none → s.vm.findClass E = some ce.cls → vx_W p l e R s m args below meth c H1 locs1 (cells + mc) (slots + ms) Q (F0 m pc ls rest) q9)
    (kk : ∀ (r : UInt64) (u : S) (t : State) (H1 : Heap) (locs1 : List Loc), t.heap = H1 → s.vm.Alike t.vm → post r u → B u t → H.size ≤ H1.size → (∀ q : Nat, q < H.size → ¬ A1 q → H1[q]? = H[q]?) → va_S A0 H0 H1 locs1 → W p l e R s m args below meth c H1 locs1 (cells + mc) (slots + ms) Q (F0 m (pc + 3) ls (.double r :: rest))) : W p l e R s m args below meth c H locs cells slots Q (F0 m pc ls st0) := by
  intro T hT X
  rcases hr T hT X with ⟨v, st₀, t, T', L, h0, X', hL, e1, e2, ⟨⟨r, u, hv, hp, hb⟩, hF⟩, st⟩ | ⟨q, st₀, t, T', L, E, ce, h0, X', hL, e1, e2, ⟨u, hp, hb, hF⟩, hce, hcv, hcl, st⟩
  · cases hv
    obtain ⟨k1, k2, k3⟩ := vx_keep h0 e1 hS hA hf hL hF
    obtain ⟨t2, a1, b1⟩ := kk r u t T'.heap (locs ++ L) e1.symm (by rw [← e2]; exact X'.warmed.alike) hp hb k1 k2 k3 T' rfl X'
    exact ⟨t2, st t2 a1, b1⟩
  · obtain ⟨k1, k2, k3⟩ := vx_keep h0 e1 hS hAX hf hL hF
    obtain ⟨t2, a1, b1⟩ := kx E ce q u t T'.heap (locs ++ L) e1.symm (by rw [← e2]; exact X'.warmed.alike) hp hb k1 k2 k3 (by rw [e1]; exact hce) hcv hcl T' rfl X'
    exact ⟨t2, st.trans a1, b1⟩
theorem vx_callv {S SX : Type} {post : S → Prop} {px : SX → Prop} {B : S → State → Prop} {BX : String → SX → State → Prop} {AX : Nat → Prop} (hr : vx_Run p l e R s m args below meth c H locs cells slots mc ms (F0 m pc ls st0) rest (va_Qv post B A1 a) (vx_X px BX AX) free) (hS : va_S A0 H0 H locs) (hA : ∀ q, q < H.size → A1 q → A0 q) (hf : ∀ q, free q → A0 q) (hAX : ∀ q, q < H.size → AX q → A0 q)
    (kx : ∀ (E : String) (ce : Cell) (q9 : Addr) (u : SX) (t : State) (H1 : Heap) (locs1 : List Loc), t.heap = H1 → s.vm.Alike t.vm → px u → BX E u t → H.size ≤ H1.size → (∀ q : Nat, q < H.size → ¬ AX q → H1[q]? = H[q]?) → va_S A0 H0 H1 locs1 → H1[q9]? = some ce → ce.vm = .none → s.vm.findClass E = some ce.cls → vx_W p l e R s m args below meth c H1 locs1 (cells + mc) (slots + ms) Q (F0 m pc ls rest) q9)
    (kk : ∀ (u : S) (t : State) (H1 : Heap) (locs1 : List Loc), t.heap = H1 → s.vm.Alike t.vm → post u → B u t → H.size ≤ H1.size → (∀ q : Nat, q < H.size → ¬ A1 q → H1[q]? = H[q]?) → va_S A0 H0 H1 locs1 → W p l e R s m args below meth c H1 locs1 (cells + mc) (slots + ms) Q (F0 m (pc + 3) ls (rest))) : W p l e R s m args below meth c H locs cells slots Q (F0 m pc ls st0) := by
  intro T hT X
  rcases hr T hT X with ⟨v, st₀, t, T', L, h0, X', hL, e1, e2, ⟨⟨u, hv, hp, hb⟩, hF⟩, st⟩ | ⟨q, st₀, t, T', L, E, ce, h0, X', hL, e1, e2, ⟨u, hp, hb, hF⟩, hce, hcv, hcl, st⟩
  · cases hv
    obtain ⟨k1, k2, k3⟩ := vx_keep h0 e1 hS hA hf hL hF
    obtain ⟨t2, a1, b1⟩ := kk u t T'.heap (locs ++ L) e1.symm (by rw [← e2]; exact X'.warmed.alike) hp hb k1 k2 k3 T' rfl X'
    exact ⟨t2, st t2 a1, b1⟩
  · obtain ⟨k1, k2, k3⟩ := vx_keep h0 e1 hS hAX hf hL hF
    obtain ⟨t2, a1, b1⟩ := kx E ce q u t T'.heap (locs ++ L) e1.symm (by rw [← e2]; exact X'.warmed.alike) hp hb k1 k2 k3 (by rw [e1]; exact hce) hcv hcl T' rfl X'
    exact ⟨t2, st.trans a1, b1⟩
/-- caught by the row x of this method's table; the rows ahead don't take it -/
theorem vx_catch {own name : String} {E : String} {ce : Cell} {q : Addr} (hown : s.vm.findClass own = some m.cls) (pre : List ExceptionTableEntry) (x : ExceptionTableEntry) (suf : List ExceptionTableEntry) (hsplit : c.exceptionTable.toList = pre ++ x :: suf)
    (hpass : ∀ z ∈ pre, covers z pc = false ∨ (z.catchType ≠ 0 ∧ ∃ nm : String, (Cond.classLink own z.catchType nm).before args s = true ∧ va_Nc E nm s)) (hx : covers x pc = true) (h0 : x.catchType ≠ 0)
    (hlink : (Cond.classLink own x.catchType name).before args s = true) (hcast : (Cond.castable E name).before args s = true) (hcell : H[q]? = some ce) (hv : ce.vm = .none) (hcl : s.vm.findClass E = some ce.cls)
    (kk : W p l e R s m args below meth c H locs cells slots Q (F0 m x.handlerPc ls [.ref q])) : vx_W p l e R s m args below meth c H locs cells slots Q (F0 m pc ls rest) q := by
  intro T hT X
  have hpl : e.platform.magicAccessors = ({} : Platform).magicAccessors := by rw [X.admits.platform]
  obtain ⟨c3, c4, hc3, hc4, hasg⟩ := Cond.castable_spec hcast
  cases Option.some.inj (hc3.symm.trans hcl)
  obtain ⟨c5, hc5, hcl5⟩ := Cond.classLink_spec hown hlink e.platform hpl
  cases Option.some.inj (hc4.symm.trans hc5)
  obtain ⟨vm', X', st⟩ := X.thenCaughtThrough q (g := F0 m pc ls rest) rfl (Steps.refl _) (by rw [hT]; exact hcell) (by rw [hv]; rfl) (by obtain ⟨k9, h9, -⟩ := Vm.findClass_spec hcl; exact ⟨k9, h9⟩) pre x suf hsplit
    (fun z hz => by
      rcases hpass z hz with h | ⟨hz0, nm, hl1, hn1⟩
      · exact Or.inl h
      · obtain ⟨c6, hc6, hcl6⟩ := Cond.classLink_spec hown hl1 e.platform hpl
        obtain ⟨a8, b8, h1, h2, h3⟩ := hn1
        cases Option.some.inj (h1.symm.trans hcl)
        cases Option.some.inj (h2.symm.trans hc6)
        exact Or.inr ⟨hz0, _, hcl6, h3⟩) hx (Or.inr ⟨h0, c4, hcl5, hasg⟩)
  obtain ⟨t, a1, b1⟩ := kk (T.setVm vm') hT X'
  exact ⟨t, st.trans a1, b1⟩
end Rows
section Ends
variable {p : Program} {l : Launch} {e : Env} {R : Room} {s : State} {m : MethodId} {args : Array Value} {below : List Frame} {meth : Method} {c : Code} {H : Heap} {locs : List Loc} {cells slots : Nat} {Q : State → Prop}
variable {mc ms : Nat} {free : Addr → Prop} {A0 A1 : Nat → Prop} {H0 : Heap} {a : Array Value} {ls : Array Slot} {st0 rest : List Value}
variable {Qc : Array Value → State → Outcome → State → Prop} {XC : String → State → State → Prop}
/-- what a body that may throw owes at its end -/
def vx_MQ (below : List Frame) (Qc : Array Value → State → Outcome → State → Prop) (XC : String → State → State → Prop) (a : Array Value) (s : State) (mc ms : Nat) (free : Addr → Prop) : State → Prop := fun t =>
  ∃ o, t.status = .running ∧ Ended t below o ∧ vx_Q Qc XC mc ms free a s o t
theorem vx_ret {g : JFrame} {mc ms : Nat} (k : W p l e R s m args below meth c H locs cells slots (MQ below Qc args s mc ms free) g) : W p l e R s m args below meth c H locs cells slots (vx_MQ below Qc XC args s mc ms free) g := by
  intro T hT X
  obtain ⟨t, a1, o, b1, b2, b3, b4⟩ := k T hT X
  exact ⟨t, a1, o, b1, b2, Or.inl ⟨b3, b4⟩⟩
/-- not caught here: it goes on to the caller -/
theorem vx_widen {g : JFrame} {q : Addr} {k n : Nat} (h1 : cells ≤ k) (h2 : slots ≤ n) (kk : vx_W p l e R s m args below meth c H locs k n Q g q) : vx_W p l e R s m args below meth c H locs cells slots Q g q := fun T hT X => kk T hT (stand_widen X h1 h2)
theorem vx_out {pc : Nat} {E : String} {ce : Cell} {q : Addr} {mc ms : Nat} (hout : ∀ x ∈ c.exceptionTable.toList, covers x pc = false) (hlocks : meth.locks = false) (hcell : H[q]? = some ce) (hv : ce.vm = .none) (hcl : s.vm.findClass E = some ce.cls)
    (hx : ∀ t : State, t.heap = H → s.vm.Alike t.vm → XC E s t) (hf : ∀ z ∈ locs, free z.base) (hc : cells ≤ mc) (hs : slots ≤ ms) :
    vx_W p l e R s m args below meth c H locs cells slots (vx_MQ below Qc XC args s mc ms free) (F0 m pc ls rest) q := by
  intro T hT X
  obtain ⟨st1, hrun, hend, hW, hsm⟩ := X.leaveThrown q (g := F0 m pc ls rest) rfl rfl rfl hout hlocks
  have hcell9 : (T.setFrames (.throwing q :: below)).heap[q]? = some ce := by
    show T.heap[q]? = some ce
    rw [hT]; exact hcell
  exact ⟨_, st1, .threw q, hrun, hend, Or.inr ⟨q, rfl, E, ce, locs, hx _ hT hW.alike, hcell9, hv, hcl, hW, hsm.mono hc hs, hf⟩⟩
theorem vx_frame {U : State} {k n : Nat} (h : s.sameButNew ({ U with vm := s.vm } : State) locs k n) : s.heap.size ≤ U.heap.size ∧ ∀ q : Nat, q < s.heap.size → (∀ z ∈ locs, z.base ≠ q) → U.heap[q]? = s.heap[q]? := by
  obtain ⟨-, h2, -, -, -, h6⟩ := h
  refine ⟨h2, fun q hq hz => ?_⟩
  obtain ⟨c9, e1, e2, e3, e4⟩ := h6 q _ (Array.getElem?_eq_getElem hq)
  have hs : c9.slots = (s.heap[q]).slots := Array.ext_getElem? fun i => e4 i fun hm => hz _ hm rfl
  have h9 : c9 = s.heap[q] := by
    rw [hs] at e2
    exact e2
  have e5 : U.heap[q]? = some c9 := e1
  rw [e5, h9, Array.getElem?_eq_getElem hq]
/-- the words of a throw but the four that speak of the heap -/
def vx_no (w : Cond) : Bool := decide (w ≠ .isRef (.static Bundle.tN "UNASSIGNED_STACK" Bundle.steD)) && decide (w ≠ .isRef (.static Bundle.tN "SUPPRESSED_SENTINEL" Bundle.listD)) && decide (w ≠ .laysStatic Bundle.tN "UNASSIGNED_STACK" Bundle.steD) && decide (w ≠ .laysStatic Bundle.tN "SUPPRESSED_SENTINEL" Bundle.listD)
def vx_at0 (own : String) (ic : Nat) (X : String) (names : List String) : List Cond := (Bundle.ownAtoms0 own ic X names).filter vx_no
def vx_atS (own : String) (ic : Nat) (X : String) (names : List String) : List Cond := (Bundle.ownAtoms own ic X names).filter vx_no
/-- a word that the tables alone decide, or a good one -/
def vx_ot (w : Cond) : Bool := w.onTables || goodWord w
theorem vx_ot_at {args a' : Array Value} {s U : State} {w : Cond} (hW : s.WarmedH U.vm) (hvm : s.vm = U.vm) (hg : vx_ot w = true) (h : w.before args s = true) : w.before a' U = true := by
  simp only [vx_ot, Bool.or_eq_true] at hg
  rcases hg with hg | hg
  · exact va_tabs hg hvm h
  · exact word_at hW (good_of_word hg) h
/-- a list's words: the good ones out of the method's own list, the others by premises of their own -/
theorem vx_hat {args : Array Value} {s : State} {L B : List Cond} (h1 : ∀ w ∈ L.filter goodWord, w.before args s = true) (h2 : ∀ w ∈ L.filter (fun w => !goodWord w), w ∈ B) (h3 : ∀ w ∈ B, w.before args s = true) : ∀ w ∈ L, w.before args s = true := by
  intro w hw
  by_cases g : goodWord w = true
  · exact h1 w (List.mem_filter.mpr ⟨hw, g⟩)
  · refine h3 w (h2 w (List.mem_filter.mpr ⟨hw, ?_⟩))
    show (!goodWord w) = true
    cases hgw : goodWord w
    · rfl
    · exact absurd hgw g
theorem vx_c {args : Array Value} {s : State} {w : Cond} {B : List Cond} (h : w.before args s = true) (t : ∀ w ∈ B, w.before args s = true) : ∀ w' ∈ w :: B, w'.before args s = true := fun w' h' => (List.mem_cons.mp h').elim (fun e => by rw [e]; exact h) (t w')
theorem vx_n {args : Array Value} {s : State} : ∀ w ∈ ([] : List Cond), w.before args s = true := fun _ h => nomatch h
theorem vx_own {args : Array Value} {s : State} {L : List Cond} (h1 : ∀ w ∈ L.filter vx_no, w.before args s = true)
    (hU : (Cond.isRef (.static Bundle.tN "UNASSIGNED_STACK" Bundle.steD)).before args s = true) (hN : (Cond.isRef (.static Bundle.tN "SUPPRESSED_SENTINEL" Bundle.listD)).before args s = true)
    (lU : (Cond.laysStatic Bundle.tN "UNASSIGNED_STACK" Bundle.steD).before args s = true) (lN : (Cond.laysStatic Bundle.tN "SUPPRESSED_SENTINEL" Bundle.listD).before args s = true) : ∀ w ∈ L, w.before args s = true := by
  intro w hw
  by_cases e1 : w = .isRef (.static Bundle.tN "UNASSIGNED_STACK" Bundle.steD)
  · rw [e1]; exact hU
  · by_cases e2 : w = .isRef (.static Bundle.tN "SUPPRESSED_SENTINEL" Bundle.listD)
    · rw [e2]; exact hN
    · by_cases e3 : w = .laysStatic Bundle.tN "UNASSIGNED_STACK" Bundle.steD
      · rw [e3]; exact lU
      · by_cases e4 : w = .laysStatic Bundle.tN "SUPPRESSED_SENTINEL" Bundle.listD
        · rw [e4]; exact lN
        · exact h1 w (List.mem_filter.mpr ⟨hw, by unfold vx_no; rw [decide_eq_true e1, decide_eq_true e2, decide_eq_true e3, decide_eq_true e4]; rfl⟩)
/-- where a static field lies, its class's statics cell in H -/
def vx_L (C n d : String) (A : Nat → Prop) (U : State) (H : Heap) : Prop := ∃ (c : ClassId) (k : Class) (i : Nat) (f : Field) (a : Nat) (cell : Cell), U.vm.findClass C = some c ∧ U.fieldFound? C n d = some (c, k, i, f) ∧ f.isStatic = true ∧ k.statics = some a ∧ H[a]? = some cell ∧ cell.vm.isStatics = true ∧ cell.cls = c ∧ f.slot < cell.slots.size ∧ k.staticTypes[f.slot]? = some f.type ∧ ¬ A a
theorem vx_L.moved {C n d : String} {A : Nat → Prop} {u U : State} {H : Heap} (hvm : u.vm.Alike U.vm) (h : vx_L C n d A u H) : vx_L C n d A U H := by
  obtain ⟨c, k, i, f, a, cell, h1, h2, h3, h4, h5, h6, h7, h8, h9, h10⟩ := h
  obtain ⟨k', hi', he⟩ := State.fieldFound?_setVm hvm h2
  exact ⟨c, k', i, f, a, cell, by rw [hvm.findClass]; exact h1, hi', h3, by rw [he]; exact h4, h5, h6, h7, h8, by rw [he]; exact h9, h10⟩
theorem vx_L.kept {C n d : String} {A : Nat → Prop} {U : State} {H H1 : Heap} (h : vx_L C n d A U H) (hq : ∀ a : Nat, a < H.size → ¬ A a → H1[a]? = H[a]?) : vx_L C n d A U H1 := by
  obtain ⟨c, k, i, f, a, cell, h1, h2, h3, h4, h5, h6, h7, h8, h9, h10⟩ := h
  exact ⟨c, k, i, f, a, cell, h1, h2, h3, h4, by rw [hq a (Array.getElem?_eq_some_iff.mp h5).1 h10]; exact h5, h6, h7, h8, h9, h10⟩
theorem vx_L.narrow {C n d : String} {A B : Nat → Prop} {U : State} {H : Heap} (h : vx_L C n d A U H) (hAB : ∀ q, B q → A q) : vx_L C n d B U H := by
  obtain ⟨c, k, i, f, a, cell, h1, h2, h3, h4, h5, h6, h7, h8, h9, h10⟩ := h
  exact ⟨c, k, i, f, a, cell, h1, h2, h3, h4, h5, h6, h7, h8, h9, fun z => h10 (hAB _ z)⟩
theorem vx_L.word {C n d : String} {A : Nat → Prop} {s : State} {args : Array Value} (h : vx_L C n d A s s.heap) : (Cond.laysStatic C n d).before args s = true := by
  obtain ⟨c, k, i, f, a, cell, h1, h2, h3, h4, h5, h6, h7, h8, h9, -⟩ := h
  show (Cond.laysStatic C n d).holds args s none s [] = true
  exact Cond.laysStatic_of h1 h2 h3 h4 h5 h6 h7 h8 h9
/-- .. and what it holds: null or some reference -/
def vx_Zq (C n d : String) (A : Nat → Prop) (U : State) (H : Heap) : Prop := va_Zq C n d A U H ∧ vx_L C n d A U H
theorem vx_Zq.moved {C n d : String} {A : Nat → Prop} {u U : State} {H : Heap} (hvm : u.vm.Alike U.vm) (h : vx_Zq C n d A u H) : vx_Zq C n d A U H := ⟨va_Zq.moved hvm h.1, vx_L.moved hvm h.2⟩
theorem vx_Zq.kept {C n d : String} {A : Nat → Prop} {U : State} {H H1 : Heap} (h : vx_Zq C n d A U H) (hq : ∀ a : Nat, a < H.size → ¬ A a → H1[a]? = H[a]?) : vx_Zq C n d A U H1 := ⟨va_Zq.kept h.1 hq, vx_L.kept h.2 hq⟩
theorem vx_Zq.narrow {C n d : String} {A B : Nat → Prop} {U : State} {H : Heap} (h : vx_Zq C n d A U H) (hAB : ∀ q, B q → A q) : vx_Zq C n d B U H := ⟨va_Zq.narrow h.1 hAB, vx_L.narrow h.2 hAB⟩
theorem vx_Zqof {args : Array Value} {s : State} {C n d : String} {A : Nat → Prop} (hl : (Cond.laysStatic C n d).before args s = true) (hini : (Cond.initialized C).before args s = true) (h : (Cond.isRef (.static C n d)).before args s = true) (hA : ∀ a : Nat, a < s.heap.size → ¬ A a) : vx_Zq C n d A s s.heap := by
  refine ⟨va_Zqof hl hini h hA, ?_⟩
  obtain ⟨c, k, i, f, a, cell, h1, h2, h3, h4, h5, h6, h7, h8, h9⟩ := Cond.laysStatic_spec hl
  exact ⟨c, k, i, f, a, cell, h1, h2, h3, h4, h5, h6, h7, h8, h9, hA a (Array.getElem?_eq_some_iff.mp h5).1⟩
theorem vx_isRef {C n d : String} {v : Value} {A : Nat → Prop} {s : State} {args : Array Value} (h : va_Z C n d v A s s.heap) (hv : v.isRef = true) : (Cond.isRef (.static C n d)).before args s = true := by
  obtain ⟨cf, kf, fi, f, a, cell, h1, h2, h3, h4, h5, h6, h7, -⟩ := h
  have he : (Term.static C n d).eval args s none [] s = some v := by
    simp [Term.eval, State.fieldNamed?, h1, h2, h4, h5, h6, h7]
  simp only [Cond.before, Cond.holds, Cond.value, he]
  cases v <;> simp_all [Value.isRef]
theorem vx_isRefq {C n d : String} {A : Nat → Prop} {s : State} {args : Array Value} (h : va_Zq C n d A s s.heap) : (Cond.isRef (.static C n d)).before args s = true := by
  rcases h with h | ⟨t, h⟩
  · exact vx_isRef h rfl
  · exact vx_isRef h rfl
/-- the same frame, seen from here: as if the method were called anew in this heap -/
theorem vx_rebase {T : State} (X : Stand p l e R s m args below meth c T locs cells slots) {R' : Room} (hf : R'.frames ≤ R.frames) (hl : R'.locals ≤ R.locals) (hc : cells + R'.cells ≤ R.cells) (hs : slots + R'.slots ≤ R.slots) :
    Stand p l e R' ((T.setVm s.vm).setFrames (.invoking m args :: below)) m args below meth c T [] 0 0 := by
  have htop : (T.setVm s.vm).topJava?.isSome := X.here.top
  have hF : ((T.setVm s.vm).setFrames (.invoking m args :: below)).frames = .invoking m args :: below := State.frames_setFrames _ (State.cur_lt_of_top htop)
  obtain ⟨g₀, hg0⟩ := Option.isSome_iff_exists.mp htop
  obtain ⟨r, hr⟩ := State.topJava?_eq_some.mp hg0
  have hl9 : e.platform.stackLimits (T.setVm s.vm).me = e.platform.stackLimits s.me := X.limits
  have hb9 : (T.setVm s.vm).me.stackBytes = s.me.stackBytes := X.bytes
  refine ⟨X.admits, X.cas, X.clock, hF, ?_, X.hears, X.method, X.code, X.here, X.tail, X.warmed, ?_, ?_, ?_⟩
  · have h := X.room
    have hU : ((T.setVm s.vm).setFrames (.invoking m args :: below)).localsInUse = s.localsInUse := by
      rw [State.localsInUse_invoking hF (meth := meth) (c := c) X.method X.code, State.localsInUse_invoking X.frames X.method X.code]
    simp only [State.hasRoom, Bool.and_eq_true, decide_eq_true_eq] at h ⊢
    obtain ⟨⟨⟨⟨h1, h2, h3, h4, h5, h6⟩, h7⟩, h8⟩, h9⟩ := h
    rw [X.frames, List.length_cons] at h2 h3
    have q1 := X.heapSize
    have q2 := X.used
    simp only [hF, hU, List.length_cons, State.stackLimits_setFrames, State.stackBytes_setFrames, hl9, hb9]
    refine ⟨⟨⟨⟨by omega, by omega, by omega, by omega, by omega, h6⟩, ?_⟩, ?_⟩, X.book⟩
    · show T.heap.size + R'.cells ≤ e.platform.maxCells
      omega
    · show T.slotsUsed + R'.slots ≤ e.platform.maxSlots
      omega
  · rw [State.stackLimits_setFrames]; rfl
  · rw [State.stackBytes_setFrames]; rfl
  · refine ⟨?_, Nat.le_refl _, Nat.le_refl _, ?_, ?_, fun a c9 h9 => ⟨c9, h9, rfl, rfl, fun _ _ => rfl⟩⟩
    · obtain ⟨t, ht, -⟩ := State.frames_cons hr
      show T.setVm s.vm = { ((T.setVm s.vm).setFrames (.invoking m args :: below)).setFrames (T.setVm s.vm).frames with heap := T.heap, slotsUsed := T.slotsUsed }
      rw [State.setFrames_setFrames, State.setFrames_self ht]
      rfl
    · show T.slotsUsed = T.slotsUsed + ((T.heap.toList.drop T.heap.size).map (·.slots.size)).sum
      rw [List.drop_eq_nil_of_le (Nat.le_of_eq Array.length_toList)]
      rfl
    · show ((T.heap.toList.drop T.heap.size).map (·.slots.size)).sum ≤ 0
      rw [List.drop_eq_nil_of_le (Nat.le_of_eq Array.length_toList)]
      exact Nat.le_refl _
/-- 'throw new E()': new; dup; invokespecial; athrow -/
theorem vx_throw0 {cc : ByteArray} {pc : Nat} (hexec : p.tables.exec = Jvm.exec) (hb : c.code = cc) (hl : l.stackTraces = false) {own cls : String} {names : List String} {ik ic mc ms : Nat} {A : Nat → Prop}
    (hown : s.vm.findClass own = some m.cls) (hcls : Bundle.fit cls = true) (hnames : ∀ n ∈ names, Bundle.fit n = true)
    (hk : (Cond.classLink own ik cls).before args s = true) (hini : (Cond.initialized cls).before args s = true) (hat : ∀ w ∈ vx_at0 own ic cls names, w.before args s = true)
    (hgood : ∀ w ∈ Cond.classLink own ik cls :: Cond.initialized cls :: vx_at0 own ic cls names, vx_ot w = true)
    (hU : vx_Zq Bundle.tN "UNASSIGNED_STACK" Bundle.steD A s s.heap) (hN : vx_Zq Bundle.tN "SUPPRESSED_SENTINEL" Bundle.listD A s s.heap) (hS : va_S A s.heap H locs) (hsize : ls.size = c.maxLocals)
    (d0 : decode cc pc = .ok (.new ik, 3)) (d3 : decode cc (pc + 3) = .ok (.dup, 1)) (d4 : decode cc (pc + 4) = .ok (.invokespecial ic, 3)) (d7 : decode cc (pc + 7) = .ok (.athrow, 1))
    (hout : ∀ x ∈ c.exceptionTable.toList, covers x (pc + 7) = false)
    (hRframes : names.length + 3 < R.frames) (hRlocals : (rest.map fun v => v.category).sum + (13 * (names.length + 1) + 42) ≤ R.locals) (hRcells : cells + 1 ≤ R.cells) (hRslots : slots + 6 ≤ R.slots) (hlocks : meth.locks = false)
    (hx : ∀ t : State, s.vm.Alike t.vm → H.size ≤ t.heap.size → (∀ q : Nat, q < H.size → t.heap[q]? = H[q]?) → XC cls s t)
    (hf : ∀ z ∈ locs, free z.base) (hc : cells + 1 ≤ mc) (hs : slots + 6 ≤ ms) :
    W p l e R s m args below meth c H locs cells slots (vx_MQ below Qc XC args s mc ms free) (F0 m pc ls rest) := by
  intro T hT X
  have htr : e.platform.stackTraces = false := (show e.platform.stackTraces = l.stackTraces by rw [X.admits.platform]).trans hl
  have Y := vx_rebase X (R' := { frames := R.frames, locals := R.locals, cells := 1, slots := 6 }) (Nat.le_refl _) (Nat.le_refl _) hRcells hRslots
  obtain ⟨s', hA⟩ : ∃ z, z = (T.setVm s.vm).setFrames (.invoking m args :: below) := ⟨_, rfl⟩
  rw [← hA] at Y
  have hvm : s'.vm = s.vm := by rw [hA]; rfl
  have hhp : s'.heap = H := by rw [hA]; exact hT
  have hW0 : s.WarmedH s'.vm := by rw [hvm]; exact State.WarmedH.refl s
  have hat' : ∀ w ∈ vx_at0 own ic cls names, w.before args s' = true := fun w hw => vx_ot_at hW0 hvm.symm (hgood w (List.mem_cons_of_mem _ (List.mem_cons_of_mem _ hw))) (hat w hw)
  have hk' : (Cond.classLink own ik cls).before args s' = true := vx_ot_at hW0 hvm.symm (hgood _ List.mem_cons_self) hk
  have hini' : (Cond.initialized cls).before args s' = true := vx_ot_at hW0 hvm.symm (hgood _ (List.mem_cons_of_mem _ List.mem_cons_self)) hini
  have hU' : vx_Zq Bundle.tN "UNASSIGNED_STACK" Bundle.steD A s' s'.heap := by rw [hhp]; exact vx_Zq.moved hW0.alike (hU.kept hS.2.1)
  have hN' : vx_Zq Bundle.tN "SUPPRESSED_SENTINEL" Bundle.listD A s' s'.heap := by rw [hhp]; exact vx_Zq.moved hW0.alike (hN.kept hS.2.1)
  have h : ∀ w ∈ Bundle.ownAtoms0 own ic cls names, w.before args s' = true := vx_own hat' (vx_isRefq hU'.1) (vx_isRefq hN'.1) hU'.2.word hN'.2.word
  have hown' : s'.vm.findClass own = some m.cls := by rw [hvm]; exact hown
  have hins : (Cond.instantiable cls 6).before args s' = true := h _ (by simp [Bundle.ownAtoms0])
  obtain ⟨vm₁, cX, kX, hfX, hkX, -, -, X₁, st1⟩ := Y.newCold hexec (own := own) (C := cls) (index := ik) (n := 6) hown' hk' hins hini'
    (g := F0 m pc ls rest) rfl (by rw [hb]; exact d0) (Nat.le_refl _) (Nat.le_refl _)
  generalize hT1 : (T.setVm vm₁).pushCell { cls := cX, slots := kX.instanceTypes.map defaultValue, vm := .none } = T1 at X₁ st1
  have hcat : (Value.ref T.heap.size).category = 1 := rfl
  have hcellA : T1.heap[T.heap.size]? = some (freshCell cX kX) := by rw [← hT1]; exact State.heap_pushCell_size _ _
  have d3' : decode c.code (pc + 3) = .ok (.dup, 1) := by rw [hb]; exact d3
  obtain ⟨U, hsteps, hrun, hend, hW, hsame, ce, hce, hO⟩ := X₁.ctorThrow0 hexec htr (own := own) (cls := cls) (names := names) (ic := ic) hown' hcls hnames h (fun x hx => nomatch hx) hfX hkX hcellA (by rw [hhp, hT]; exact Nat.le_refl _)
    (g := { method := m, pc := pc + 4, locals := ls, stack := .ref T.heap.size :: .ref T.heap.size :: rest, locked := none }) rfl hsize rfl rfl (rest := rest) rfl
    (by rw [hb]; exact d4) (by rw [hb]; exact d7) hout hRframes (by simp only [List.map_cons, List.sum_cons, hcat]; omega) hlocks
  obtain ⟨f1, f2⟩ := vx_frame hsame
  rw [hhp] at f1 f2
  have hWs : s.WarmedH U.vm := State.WarmedH.trans hW0 hW
  have hcl : s.vm.findClass cls = some ce.cls := by
    have h9 := hO.cls
    rw [hvm] at h9
    exact h9
  have hall : s.sameButNew ({ U with vm := s.vm } : State) locs mc ms := by
    subst hA
    obtain ⟨e1, e2⟩ := hsame
    rw [State.setFrames_setFrames] at e1
    have h2 : (T.setVm s.vm).sameButNew ({ U with vm := s.vm } : State) [] (0 + 1) (0 + 6) := ⟨e1, e2⟩
    have h3 := X.same.trans h2
    rw [List.append_nil] at h3
    exact h3.mono hc hs
  refine ⟨U, ?_, .threw T.heap.size, hrun, hend, Or.inr ⟨T.heap.size, rfl, cls, ce, locs, hx U hWs.alike f1 (fun q hq => f2 q hq (fun z hz => nomatch hz)), hce, hO.vm, hcl, hWs, hall, hf⟩⟩
  refine st1 _ ?_
  show Steps p.tables e below (T1.setTop { method := m, pc := pc + 3, locals := ls, stack := .ref T.heap.size :: rest, locked := none }) _
  jvm_step X₁.here [X₁.here.top, hexec, d3', Value.category]
  exact hsteps
/-- 'throw new E("text")': new; dup; ldc; invokespecial; athrow -/
theorem vx_throwS {cc : ByteArray} {pc : Nat} (hexec : p.tables.exec = Jvm.exec) (hb : c.code = cc) (hl : l.stackTraces = false) {own cls text : String} {names : List String} {ik is ic mc ms sa : Nat} {A : Nat → Prop}
    (hown : s.vm.findClass own = some m.cls) (hcls : Bundle.fit cls = true) (hnames : ∀ n ∈ names, Bundle.fit n = true)
    (hk : (Cond.classLink own ik cls).before args s = true) (hini : (Cond.initialized cls).before args s = true) (hstr : vk_R own is text sa s) (hat : ∀ w ∈ vx_atS own ic cls names, w.before args s = true)
    (hgood : ∀ w ∈ Cond.classLink own ik cls :: Cond.initialized cls :: vx_atS own ic cls names, vx_ot w = true)
    (hU : vx_Zq Bundle.tN "UNASSIGNED_STACK" Bundle.steD A s s.heap) (hN : vx_Zq Bundle.tN "SUPPRESSED_SENTINEL" Bundle.listD A s s.heap) (hS : va_S A s.heap H locs) (hsize : ls.size = c.maxLocals)
    (d0 : decode cc pc = .ok (.new ik, 3)) (d3 : decode cc (pc + 3) = .ok (.dup, 1)) (d4 : decode cc (pc + 4) = .ok (.ldc is, 2)) (d6 : decode cc (pc + 6) = .ok (.invokespecial ic, 3)) (d9 : decode cc (pc + 9) = .ok (.athrow, 1))
    (hout : ∀ x ∈ c.exceptionTable.toList, covers x (pc + 9) = false)
    (hRframes : names.length + 3 < R.frames) (hRlocals : (rest.map fun v => v.category).sum + (13 * (names.length + 1) + 43) ≤ R.locals) (hRcells : cells + 1 ≤ R.cells) (hRslots : slots + 6 ≤ R.slots) (hlocks : meth.locks = false)
    (hx : ∀ t : State, s.vm.Alike t.vm → H.size ≤ t.heap.size → (∀ q : Nat, q < H.size → t.heap[q]? = H[q]?) → XC cls s t)
    (hf : ∀ z ∈ locs, free z.base) (hc : cells + 1 ≤ mc) (hs : slots + 6 ≤ ms) :
    W p l e R s m args below meth c H locs cells slots (vx_MQ below Qc XC args s mc ms free) (F0 m pc ls rest) := by
  intro T hT X
  have htr : e.platform.stackTraces = false := (show e.platform.stackTraces = l.stackTraces by rw [X.admits.platform]).trans hl
  have Y := vx_rebase X (R' := { frames := R.frames, locals := R.locals, cells := 1, slots := 6 }) (Nat.le_refl _) (Nat.le_refl _) hRcells hRslots
  obtain ⟨s', hA⟩ : ∃ z, z = (T.setVm s.vm).setFrames (.invoking m args :: below) := ⟨_, rfl⟩
  rw [← hA] at Y
  have hvm : s'.vm = s.vm := by rw [hA]; rfl
  have hhp : s'.heap = H := by rw [hA]; exact hT
  have hW0 : s.WarmedH s'.vm := by rw [hvm]; exact State.WarmedH.refl s
  have hat' : ∀ w ∈ vx_atS own ic cls names, w.before args s' = true := fun w hw => vx_ot_at hW0 hvm.symm (hgood w (List.mem_cons_of_mem _ (List.mem_cons_of_mem _ hw))) (hat w hw)
  have hk' : (Cond.classLink own ik cls).before args s' = true := vx_ot_at hW0 hvm.symm (hgood _ List.mem_cons_self) hk
  have hini' : (Cond.initialized cls).before args s' = true := vx_ot_at hW0 hvm.symm (hgood _ (List.mem_cons_of_mem _ List.mem_cons_self)) hini
  have hU' : vx_Zq Bundle.tN "UNASSIGNED_STACK" Bundle.steD A s' s'.heap := by rw [hhp]; exact vx_Zq.moved hW0.alike (hU.kept hS.2.1)
  have hN' : vx_Zq Bundle.tN "SUPPRESSED_SENTINEL" Bundle.listD A s' s'.heap := by rw [hhp]; exact vx_Zq.moved hW0.alike (hN.kept hS.2.1)
  have h : ∀ w ∈ Bundle.ownAtoms own ic cls names, w.before args s' = true := vx_own hat' (vx_isRefq hU'.1) (vx_isRefq hN'.1) hU'.2.word hN'.2.word
  have hown' : s'.vm.findClass own = some m.cls := by rw [hvm]; exact hown
  have hins : (Cond.instantiable cls 6).before args s' = true := h _ (by simp [Bundle.ownAtoms])
  obtain ⟨vm₁, cX, kX, hfX, hkX, -, -, X₁, st1⟩ := Y.newCold hexec (own := own) (C := cls) (index := ik) (n := 6) hown' hk' hins hini'
    (g := F0 m pc ls rest) rfl (by rw [hb]; exact d0) (Nat.le_refl _) (Nat.le_refl _)
  generalize hT1 : (T.setVm vm₁).pushCell { cls := cX, slots := kX.instanceTypes.map defaultValue, vm := .none } = T1 at X₁ st1
  have hcat : (Value.ref T.heap.size).category = 1 := rfl
  have hcellA : T1.heap[T.heap.size]? = some (freshCell cX kX) := by rw [← hT1]; exact State.heap_pushCell_size _ _
  have d3' : decode c.code (pc + 3) = .ok (.dup, 1) := by rw [hb]; exact d3
  have d4' : decode c.code (pc + 4) = .ok (.ldc is, 2) := by rw [hb]; exact d4
  have hstr' : vk_R own is text sa s' := vk_R.warm hW0 hstr
  obtain ⟨U, hsteps, hrun, hend, hW, hsame, ce, hce, hO⟩ := X₁.ctorThrowS hexec htr (own := own) (cls := cls) (names := names) (ic := ic) hown' hcls hnames h (fun x hx => nomatch hx) hfX hkX hcellA (by rw [hhp, hT]; exact Nat.le_refl _) (msg := .ref sa) rfl
    (g := { method := m, pc := pc + 6, locals := ls, stack := .ref sa :: .ref T.heap.size :: .ref T.heap.size :: rest, locked := none }) rfl hsize rfl rfl (rest := rest) rfl
    (by rw [hb]; exact d6) (by rw [hb]; exact d9) hout hRframes (by simp only [List.map_cons, List.sum_cons, hcat]; omega) hlocks
  obtain ⟨f1, f2⟩ := vx_frame hsame
  rw [hhp] at f1 f2
  have hWs : s.WarmedH U.vm := State.WarmedH.trans hW0 hW
  have hcl : s.vm.findClass cls = some ce.cls := by
    have h9 := hO.cls
    rw [hvm] at h9
    exact h9
  have hall : s.sameButNew ({ U with vm := s.vm } : State) locs mc ms := by
    subst hA
    obtain ⟨e1, e2⟩ := hsame
    rw [State.setFrames_setFrames] at e1
    have h2 : (T.setVm s.vm).sameButNew ({ U with vm := s.vm } : State) [] (0 + 1) (0 + 6) := ⟨e1, e2⟩
    have h3 := X.same.trans h2
    rw [List.append_nil] at h3
    exact h3.mono hc hs
  refine ⟨U, ?_, .threw T.heap.size, hrun, hend, Or.inr ⟨T.heap.size, rfl, cls, ce, locs, hx U hWs.alike f1 (fun q hq => f2 q hq (fun z hz => nomatch hz)), hce, hO.vm, hcl, hWs, hall, hf⟩⟩
  refine st1 _ ?_
  show Steps p.tables e below (T1.setTop { method := m, pc := pc + 3, locals := ls, stack := .ref T.heap.size :: rest, locked := none }) _
  jvm_step X₁.here [X₁.here.top, hexec, d3', Value.category]
  exact X₁.ldcString hexec (own := own) (text := text) (index := is) (a := sa) hown' hstr'.1 hstr'.2
    (g := { method := m, pc := pc + 4, locals := ls, stack := .ref T.heap.size :: .ref T.heap.size :: rest, locked := none }) rfl d4' _ hsteps
/-- 'throw new E("text")', the text by a wide index -/
theorem vx_throwSW {cc : ByteArray} {pc : Nat} (hexec : p.tables.exec = Jvm.exec) (hb : c.code = cc) (hl : l.stackTraces = false) {own cls text : String} {names : List String} {ik is ic mc ms sa : Nat} {A : Nat → Prop}
    (hown : s.vm.findClass own = some m.cls) (hcls : Bundle.fit cls = true) (hnames : ∀ n ∈ names, Bundle.fit n = true)
    (hk : (Cond.classLink own ik cls).before args s = true) (hini : (Cond.initialized cls).before args s = true) (hstr : vk_R own is text sa s) (hat : ∀ w ∈ vx_atS own ic cls names, w.before args s = true)
    (hgood : ∀ w ∈ Cond.classLink own ik cls :: Cond.initialized cls :: vx_atS own ic cls names, vx_ot w = true)
    (hU : vx_Zq Bundle.tN "UNASSIGNED_STACK" Bundle.steD A s s.heap) (hN : vx_Zq Bundle.tN "SUPPRESSED_SENTINEL" Bundle.listD A s s.heap) (hS : va_S A s.heap H locs) (hsize : ls.size = c.maxLocals)
    (d0 : decode cc pc = .ok (.new ik, 3)) (d3 : decode cc (pc + 3) = .ok (.dup, 1)) (d4 : decode cc (pc + 4) = .ok (.ldc_w is, 3)) (d7 : decode cc (pc + 7) = .ok (.invokespecial ic, 3)) (d10 : decode cc (pc + 10) = .ok (.athrow, 1))
    (hout : ∀ x ∈ c.exceptionTable.toList, covers x (pc + 10) = false)
    (hRframes : names.length + 3 < R.frames) (hRlocals : (rest.map fun v => v.category).sum + (13 * (names.length + 1) + 43) ≤ R.locals) (hRcells : cells + 1 ≤ R.cells) (hRslots : slots + 6 ≤ R.slots) (hlocks : meth.locks = false)
    (hx : ∀ t : State, s.vm.Alike t.vm → H.size ≤ t.heap.size → (∀ q : Nat, q < H.size → t.heap[q]? = H[q]?) → XC cls s t)
    (hf : ∀ z ∈ locs, free z.base) (hc : cells + 1 ≤ mc) (hs : slots + 6 ≤ ms) :
    W p l e R s m args below meth c H locs cells slots (vx_MQ below Qc XC args s mc ms free) (F0 m pc ls rest) := by
  intro T hT X
  have htr : e.platform.stackTraces = false := (show e.platform.stackTraces = l.stackTraces by rw [X.admits.platform]).trans hl
  have Y := vx_rebase X (R' := { frames := R.frames, locals := R.locals, cells := 1, slots := 6 }) (Nat.le_refl _) (Nat.le_refl _) hRcells hRslots
  obtain ⟨s', hA⟩ : ∃ z, z = (T.setVm s.vm).setFrames (.invoking m args :: below) := ⟨_, rfl⟩
  rw [← hA] at Y
  have hvm : s'.vm = s.vm := by rw [hA]; rfl
  have hhp : s'.heap = H := by rw [hA]; exact hT
  have hW0 : s.WarmedH s'.vm := by rw [hvm]; exact State.WarmedH.refl s
  have hat' : ∀ w ∈ vx_atS own ic cls names, w.before args s' = true := fun w hw => vx_ot_at hW0 hvm.symm (hgood w (List.mem_cons_of_mem _ (List.mem_cons_of_mem _ hw))) (hat w hw)
  have hk' : (Cond.classLink own ik cls).before args s' = true := vx_ot_at hW0 hvm.symm (hgood _ List.mem_cons_self) hk
  have hini' : (Cond.initialized cls).before args s' = true := vx_ot_at hW0 hvm.symm (hgood _ (List.mem_cons_of_mem _ List.mem_cons_self)) hini
  have hU' : vx_Zq Bundle.tN "UNASSIGNED_STACK" Bundle.steD A s' s'.heap := by rw [hhp]; exact vx_Zq.moved hW0.alike (hU.kept hS.2.1)
  have hN' : vx_Zq Bundle.tN "SUPPRESSED_SENTINEL" Bundle.listD A s' s'.heap := by rw [hhp]; exact vx_Zq.moved hW0.alike (hN.kept hS.2.1)
  have h : ∀ w ∈ Bundle.ownAtoms own ic cls names, w.before args s' = true := vx_own hat' (vx_isRefq hU'.1) (vx_isRefq hN'.1) hU'.2.word hN'.2.word
  have hown' : s'.vm.findClass own = some m.cls := by rw [hvm]; exact hown
  have hins : (Cond.instantiable cls 6).before args s' = true := h _ (by simp [Bundle.ownAtoms])
  obtain ⟨vm₁, cX, kX, hfX, hkX, -, -, X₁, st1⟩ := Y.newCold hexec (own := own) (C := cls) (index := ik) (n := 6) hown' hk' hins hini'
    (g := F0 m pc ls rest) rfl (by rw [hb]; exact d0) (Nat.le_refl _) (Nat.le_refl _)
  generalize hT1 : (T.setVm vm₁).pushCell { cls := cX, slots := kX.instanceTypes.map defaultValue, vm := .none } = T1 at X₁ st1
  have hcat : (Value.ref T.heap.size).category = 1 := rfl
  have hcellA : T1.heap[T.heap.size]? = some (freshCell cX kX) := by rw [← hT1]; exact State.heap_pushCell_size _ _
  have d3' : decode c.code (pc + 3) = .ok (.dup, 1) := by rw [hb]; exact d3
  have d4' : decode c.code (pc + 4) = .ok (.ldc_w is, 3) := by rw [hb]; exact d4
  have hstr' : vk_R own is text sa s' := vk_R.warm hW0 hstr
  obtain ⟨U, hsteps, hrun, hend, hW, hsame, ce, hce, hO⟩ := X₁.ctorThrowS hexec htr (own := own) (cls := cls) (names := names) (ic := ic) hown' hcls hnames h (fun x hx => nomatch hx) hfX hkX hcellA (by rw [hhp, hT]; exact Nat.le_refl _) (msg := .ref sa) rfl
    (g := { method := m, pc := pc + 7, locals := ls, stack := .ref sa :: .ref T.heap.size :: .ref T.heap.size :: rest, locked := none }) rfl hsize rfl rfl (rest := rest) rfl
    (by rw [hb]; exact d7) (by rw [hb]; exact d10) hout hRframes (by simp only [List.map_cons, List.sum_cons, hcat]; omega) hlocks
  obtain ⟨f1, f2⟩ := vx_frame hsame
  rw [hhp] at f1 f2
  have hWs : s.WarmedH U.vm := State.WarmedH.trans hW0 hW
  have hcl : s.vm.findClass cls = some ce.cls := by
    have h9 := hO.cls
    rw [hvm] at h9
    exact h9
  have hall : s.sameButNew ({ U with vm := s.vm } : State) locs mc ms := by
    subst hA
    obtain ⟨e1, e2⟩ := hsame
    rw [State.setFrames_setFrames] at e1
    have h2 : (T.setVm s.vm).sameButNew ({ U with vm := s.vm } : State) [] (0 + 1) (0 + 6) := ⟨e1, e2⟩
    have h3 := X.same.trans h2
    rw [List.append_nil] at h3
    exact h3.mono hc hs
  refine ⟨U, ?_, .threw T.heap.size, hrun, hend, Or.inr ⟨T.heap.size, rfl, cls, ce, locs, hx U hWs.alike f1 (fun q hq => f2 q hq (fun z hz => nomatch hz)), hce, hO.vm, hcl, hWs, hall, hf⟩⟩
  refine st1 _ ?_
  show Steps p.tables e below (T1.setTop { method := m, pc := pc + 3, locals := ls, stack := .ref T.heap.size :: rest, locked := none }) _
  jvm_step X₁.here [X₁.here.top, hexec, d3', Value.category]
  exact X₁.ldcStringW hexec (own := own) (text := text) (index := is) (a := sa) hown' hstr'.1 hstr'.2
    (g := { method := m, pc := pc + 4, locals := ls, stack := .ref T.heap.size :: .ref T.heap.size :: rest, locked := none }) rfl d4' _ hsteps
end Ends
section Bodies
variable {l : Launch}
theorem vx_ofW {y : MethodName} {ws ws' : List Cond} {rm : Room} {Pc : Array Value → State → Prop} {Qc : Array Value → State → Outcome → State → Prop} {XC : String → State → State → Prop} {mc ms : Nat} {free : Addr → Prop} {cc : ByteArray} {maxL : Nat} {ret : Option FieldType}
    (hy : plainName y.cls = true) (hw : ws = Cond.code y cc maxL ret :: ws')
    (body : ∀ p e s m args below meth c s₁, BodyLoose p l y (headSpec ws rm) cc maxL ret e s m args below meth c s₁ → c.maxLocals = maxL → (∀ x ∈ c.exceptionTable.toList, False) → Pc args s →
      W p l e (headSpec ws rm).room s m args below meth c s.heap [] 0 0 (vx_MQ below Qc XC args s mc ms free) (entryFrame m args maxL)) : vx_Met l y ws rm Pc Qc XC mc ms free := by
  refine MetFree.of_bodyS (code := cc) (maxLocals := maxL) (ret := ret) hy ?_ ?_
  · intro args s m h hn
    obtain ⟨meth, c, h1, h2, h3, h4, h5, h6, -, -⟩ := Cond.code_spec hn (atoms_spec (ws := ws) h _ (by rw [hw]; exact List.mem_cons_self))
    exact ⟨meth, c, h1, h2, h3, h4, h5, h6⟩
  · intro p e s m args below meth c s₁ B hml hP _
    have hh0 : s₁.heap = s.heap := by rw [B.state]; rfl
    have ht : ∀ x ∈ c.exceptionTable.toList, False := by
      obtain ⟨meth9, c9, h1, h2, -, -, -, -, h7, -⟩ := Cond.code_spec B.named (atoms_spec (ws := ws) B.pre _ (by rw [hw]; exact List.mem_cons_self))
      cases Option.some.inj (h1.symm.trans B.method)
      cases Option.some.inj (h2.symm.trans (Stand.of_body B).code)
      intro x hx
      rw [Array.isEmpty_iff.mp h7] at hx
      cases hx
    obtain ⟨t, a1, o, b1, b2, b3⟩ := body p e s m args below meth c s₁ B hml ht hP s₁ hh0 (Stand.of_body B)
    exact ⟨t, o, a1, b1, b2, b3⟩
/-- the table of a body with handlers -/
theorem vx_table {p : Program} {x y : MethodName} {S : Spec} {cc bytes : ByteArray} {maxL maxL' : Nat} {ret ret' : Option FieldType} {e : Env} {s s₁ : State} {m : MethodId} {args : Array Value} {below : List Frame} {meth : Method} {c : Code} {hh : List (Nat × Nat × Nat × Nat)}
    (B : BodyLoose p l y S cc maxL ret e s m args below meth c s₁) (h : (Cond.codeWith y bytes maxL' ret' hh).before args s = true) : c.exceptionTable.toList = tableOf hh := by
  obtain ⟨m9, meth9, c9, hn9, h1, h2, -, -, h6, -⟩ := Cond.codeWith_spec h
  cases Option.some.inj (hn9.symm.trans B.named)
  cases Option.some.inj (h1.symm.trans B.method)
  cases Option.some.inj (h2.symm.trans (Stand.of_body B).code)
  rw [← h6, table_eq]
end Bodies
end VXA
/-! ===== END ===== -/
/-! ===== BEGIN a static call of a method with an exception table ===== -/
section VXS
variable {p : Program} {l : Launch} {e : Env} {R : Room} {s : State} {m : MethodId} {args : Array Value} {below : List Frame} {meth : Method} {c : Code} {T : State} {H : Heap} {locs : List Loc} {cells slots : Nat}
abbrev vx_CSW (R : Room) (s : State) (args : Array Value) (own : String) (index : Nat) (y : MethodName) (bytes : ByteArray) (maxL : Nat) (ret : Option FieldType) (hh : List (Nat × Nat × Nat × Nat)) (ws : List Cond) (rm : Room) (mc ms n : Nat) : Prop :=
  (rm.cells = mc ∧ rm.slots = ms ∧ rm.frames + 1 ≤ R.frames ∧ 8 + (maxL + 11) + rm.locals ≤ R.locals ∧ (∀ w ∈ ws, ∀ (a' : Array Value) (U : State), s.WarmedH U.vm → w.before a' U = true) ∧ Cond.codeWith y bytes maxL ret hh ∈ ws) ∧
  (Cond.codeWith y bytes maxL ret hh).before args s = true ∧ (Cond.initialized y.cls).before args s = true ∧ (y.cls ≠ "java/lang/invoke/MethodHandle" ∧ y.cls ≠ "java/lang/invoke/VarHandle") ∧
  (∀ sig, parseMethodDescriptor y.desc = some sig → n = sig.parameters.length) ∧ (Cond.methodLink own index y).before args s = true ∧ (Cond.static y).before args s = true
theorem vx_cwSW {own : String} {index maxL mc ms : Nat} {y : MethodName} {bytes : ByteArray} {ret : Option FieldType} {hh : List (Nat × Nat × Nat × Nat)} {Ts ws ws' : List Cond} {rm : Room} (n : Nat) (ht : ∀ w ∈ Ts, w.before args s = true) (hT : GoodIn Ts (va_wsS own index y ws)) (hw : ws = Cond.codeWith y bytes maxL ret hh :: ws') (hrc : rm.cells = mc) (hrs : rm.slots = ms)
    (hd : y.cls ≠ "java/lang/invoke/MethodHandle" ∧ y.cls ≠ "java/lang/invoke/VarHandle" ∧ (parseMethodDescriptor y.desc).map (fun d => d.parameters.length) = some n) (hR : rm.frames + 1 ≤ R.frames ∧ 8 + (maxL + 11) + rm.locals ≤ R.locals) :
    vx_CSW R s args own index y bytes maxL ret hh ws rm mc ms n := by
  have ok : ∀ w ∈ va_wsS own index y ws, w.before args s = true := fun w h => ht w (hT w h).1
  have hG : GoodIn Ts ws := fun w h => hT w (by unfold va_wsS; exact List.mem_append_right _ h)
  have hc : Cond.codeWith y bytes maxL ret hh ∈ ws := by rw [hw]; exact List.mem_cons_self
  refine ⟨⟨hrc, hrs, hR.1, hR.2, pay_in ht hG, hc⟩, ht _ (hG _ hc).1, ok _ (by simp [va_wsS]), ⟨hd.1, hd.2.1⟩, fun sig h => ?_, ok _ (by simp [va_wsS]), ok _ (by simp [va_wsS])⟩
  have h2 := hd.2.2
  rw [h] at h2
  exact (Option.some.inj h2).symm
theorem vx_callSW (X : Stand p l e R s m args below meth c T locs cells slots) (hexec : p.tables.exec = Jvm.exec) {own : String} {index : Nat} {y : MethodName} {bytes : ByteArray} {maxL : Nat} {ret : Option FieldType} {hh : List (Nat × Nat × Nat × Nat)}
    (hown : s.vm.findClass own = some m.cls) (hlink : (Cond.methodLink own index y).before args s = true) (hstat : (Cond.static y).before args s = true) (hinit : (Cond.initialized y.cls).before args s = true)
    (hcode : (Cond.codeWith y bytes maxL ret hh).before args s = true) (hy : y.cls ≠ "java/lang/invoke/MethodHandle" ∧ y.cls ≠ "java/lang/invoke/VarHandle")
    {W9 : Nat} {Pre : Pt → Array Value → Prop} {Post : Pt → Array Value → Option Value → Pt → Prop} (hK : Back l R p e below s args y 3 W9 Pre Post)
    {g : JFrame} (hg : g.method = m) (hsize : g.locals.size = c.maxLocals) {argsL rest : List Value} (hlen : ∀ sig, parseMethodDescriptor y.desc = some sig → argsL.length = sig.parameters.length)
    (hstack : g.stack = argsL.reverse ++ rest) (hW : 2 * g.monitorRoom + (rest.map fun v => v.category).sum ≤ W9) (hdg : decode c.code g.pc = .ok (.invokestatic index, 3))
    (hpre : ∀ vm₁, s.WarmedH vm₁ → Pre ⟨T.setVm vm₁, locs, cells, slots⟩ argsL.toArray) :
    ∃ (v : Option Value) (vm₁ : Vm) (B : Pt), s.WarmedH vm₁ ∧ Stand p l e R s m args below meth c B.U B.locs B.cells B.slots ∧ Post ⟨T.setVm vm₁, locs, cells, slots⟩ argsL.toArray v B ∧
      ∀ target, Steps p.tables e below (B.U.setTop { g with pc := g.pc + 3, stack := v.toList ++ rest }) target → Steps p.tables e below (T.setTop g) target := by
  obtain ⟨mk, methM, cM, hnamed, hmethM, -, -, -, -, -, -, hsigM⟩ := Cond.codeWith_spec hcode
  have hstatic : methM.isStatic = true := Cond.static_spec hnamed hmethM hstat
  obtain ⟨kP, hkP, -⟩ := className_of_methodNamed hnamed
  have hinitP : kP.init = .initialized := Cond.initialized_spec (findClass_of_methodNamed hnamed) hkP hinit
  obtain ⟨vm₁, X₁, hstep₁⟩ := X.invokestatic hexec hown hlink hnamed hmethM hstatic hkP hinitP hy (g := g) hg (argsL := argsL) (rest := rest) (hlen _ hsigM) hstack hdg
  obtain ⟨v, B, X', hpost, hsteps⟩ := hK m meth c ⟨T.setVm vm₁, locs, cells, slots⟩ { g with stack := rest } (.invokestatic index) mk argsL.toArray X₁ hg hsize hdg hW (X₁.named hnamed) (hpre vm₁ X₁.warmed)
  exact ⟨v, vm₁, B, X₁.warmed, X', hpost, fun target h => hstep₁ _ fun acts => by rw [doInvoke_state]; exact hsteps.trans h⟩
theorem vx_runSW {y : MethodName} {bytes cc : ByteArray} {maxL nL mc ms n index : Nat} {ret : Option FieldType} {hh : List (Nat × Nat × Nat × Nat)} {ws : List Cond} {rm : Room} {Pc : Array Value → State → Prop} {Qc : Array Value → State → Outcome → State → Prop} {free : Addr → Prop} {Ts : List Cond} {own : String} {As rest : List Value} {g : JFrame}
    (S : CallFix p m c cc nL s args Ts own) (hM : Met l y ws rm Pc Qc mc ms free) (cw : vx_CSW R s args own index y bytes maxL ret hh ws rm mc ms n) (hp : PreS s H Pc As)
    (hg : g.method = m) (hn : As.length = n) (hsize : g.locals.size = nL) (hstack : g.stack = As.reverse ++ rest) (hW : 2 * g.monitorRoom + (rest.map fun v => v.category).sum ≤ 8) (hdg : decode cc g.pc = .ok (.invokestatic index, 3)) (hf : cells + mc ≤ R.cells ∧ slots + ms ≤ R.slots) :
    va_Run p l e R s m args below meth c H locs cells slots mc ms g rest (Qc As.toArray) (free) := by
  obtain ⟨⟨hrc, hrs, hfr, hlo, hws, hcw⟩, hcode, hini, hy, hlen, hl, hstt⟩ := cw
  have hK : Back l R p e below s args y 3 8 (PreOf R mc ms Pc) (PostOf Qc mc ms free) := va_backW (hh := hh) (bytes := bytes) (maxL := maxL) (ret := ret) hM hp.1 hrc hrs hfr hlo hws hcw (fun a' U hW => word_at hW (Or.inl (by first | rfl | simp [Cond.onTables, Cond.keeps, Cond.steady])) hini)
  obtain ⟨hx, hb, hml, ho, -⟩ := S
  intro T hT X
  obtain ⟨v, vm₁, ⟨U', l2, c2, s2⟩, hW₁, X', ⟨g', mk, t, L, e1, e2, hq, h1, hL, h2, h3⟩, st⟩ := vx_callSW X hx (hh := hh) (bytes := bytes) (maxL := maxL) (ret := ret) ho hl hstt hini hcode hy hK hg (hsize.trans hml.symm) (argsL := As) (rest := rest) (fun sig h => hn.trans (hlen sig h)) hstack hW (by rw [hb]; exact hdg)
    (fun vm₁ hW₁ => ⟨hf.1, hf.2, hp.2 (T.setVm vm₁) hT hW₁⟩)
  dsimp only [Pt.U, Pt.locs, Pt.cells, Pt.slots] at X' e1 e2 h1 h2 h3 st
  subst h1; subst h2; subst h3
  exact ⟨v, (T.setVm vm₁).calling g' mk As.toArray, t, U', L, hT, X', hL, e1, e2, hq, st⟩
/-- not caught here, past rows that name other classes: it goes on to the caller -/
theorem vx_outP {p : Program} {l : Launch} {e : Env} {R : Room} {s : State} {m : MethodId} {args : Array Value} {below : List Frame} {meth : Method} {c : Code} {H : Heap} {locs : List Loc} {cells slots : Nat} {free : Addr → Prop} {ls : Array Slot} {rest : List Value} {Qc : Array Value → State → Outcome → State → Prop} {XC : String → State → State → Prop}
    {pc : Nat} {own E : String} {ce : Cell} {q : Addr} {mc ms : Nat} (hown : s.vm.findClass own = some m.cls) (hlocks : meth.locks = false)
    (hpass : ∀ z ∈ c.exceptionTable.toList, covers z pc = false ∨ (z.catchType ≠ 0 ∧ ∃ nm : String, (Cond.classLink own z.catchType nm).before args s = true ∧ va_Nc E nm s)) (hcell : H[q]? = some ce) (hv : ce.vm = .none) (hcl : s.vm.findClass E = some ce.cls)
    (hx : ∀ t : State, t.heap = H → s.vm.Alike t.vm → XC E s t) (hf : ∀ z ∈ locs, free z.base) (hc : cells ≤ mc) (hs : slots ≤ ms) :
    vx_W p l e R s m args below meth c H locs cells slots (vx_MQ below Qc XC args s mc ms free) (F0 m pc ls rest) q := by
  intro T hT X
  have hpl : e.platform.magicAccessors = ({} : Platform).magicAccessors := by rw [X.admits.platform]
  obtain ⟨vm', hW', X', st⟩ := X.outThrough hlocks q (g := F0 m pc ls rest) rfl rfl rfl (cell := ce) (by rw [hT]; exact hcell) (by rw [hv]; rfl)
    (by obtain ⟨k9, h9, -⟩ := Vm.findClass_spec hcl; exact ⟨k9, h9⟩) (fun z hz => by
      rcases hpass z hz with h | ⟨hz0, nm, hl1, hn1⟩
      · exact Or.inl h
      · obtain ⟨c6, hc6, hcl6⟩ := Cond.classLink_spec hown hl1 e.platform hpl
        obtain ⟨a8, b8, h1, h2, h3⟩ := hn1
        cases Option.some.inj (h1.symm.trans hcl)
        cases Option.some.inj (h2.symm.trans hc6)
        exact Or.inr ⟨hz0, _, hcl6, h3⟩)
  obtain ⟨g₀, hfr⟩ := X'.frames_eq
  have hcell9 : ((T.setVm vm').setFrames (.throwing q :: below)).heap[q]? = some ce := by
    show T.heap[q]? = some ce
    rw [hT]; exact hcell
  have hend : Ended ((T.setVm vm').setFrames (.throwing q :: below)) below (.threw q) := State.frames_setFrames _ (State.cur_lt_of_frames hfr)
  refine ⟨(T.setVm vm').setFrames (.throwing q :: below), ?_, .threw q, X'.here.running, hend, Or.inr ⟨q, rfl, E, ce, locs, hx _ hT (X'.ends _).1.alike, hcell9, hv, hcl, (X'.ends _).1, (X'.ends _).2.mono hc hs, hf⟩⟩
  rw [X.pushThrowing_eq]
  exact st
/-- a thing of a world lies in the heap -/
theorem vx_lt {D : va_G} {cl : List vw_C} {ws : va_W} {H1 : Heap} (h : va_P D cl ws H1) {k : Nat} {q : Nat × va_E} (hk : ws[k]? = some q) : q.1 < H1.size := (h k q hk).lt
end VXS
/-! ===== END ===== -/
/-! ===== BEGIN methods with a table of their own: called by a name, returning or throwing ===== -/
section VXH
/-! vx_backW, vx_callVX, vx_callSX, vx_callVW, vx_runVW, vx_runVX, vx_runSX, vx_ofWH follow the same proofs as their sisters above (Free/Laws.lean, Shelf42/LK1.lean); vx_outP calls Shelf42/NT130.lean (outThrough). -/
section
variable {l : Launch} {R : Room} {p : Program} {e : Env} {below : List Frame} {s : State} {sargs : Array Value} {y : MethodName} {len W9 : Nat}
theorem vx_backW {ws : List Cond} {rm : Room} {Pc : Array Value → State → Prop} {Qc : Array Value → State → Outcome → State → Prop} {XC : String → State → State → Prop} {mc ms : Nat} {free : Addr → Prop} {bytes : ByteArray} {maxL : Nat} {ret : Option FieldType} {hh : List (Nat × Nat × Nat × Nat)}
    (hM : vx_Met l y ws rm Pc Qc XC mc ms free) (hblind : FrameBlind Pc) (hrc : rm.cells = mc) (hrs : rm.slots = ms)
    (hframes : rm.frames + 1 ≤ R.frames) (hlocals : W9 + (maxL + 11) + rm.locals ≤ R.locals)
    (hws : ∀ w ∈ ws, ∀ a' U, s.WarmedH U.vm → w.before a' U = true) (hcode : Cond.codeWith y bytes maxL ret hh ∈ ws) (hinit : ∀ a' U, s.WarmedH U.vm → (Cond.initialized y.cls).before a' U = true) :
    vx_Back l R p e below s sargs y len W9 (PreOf R mc ms Pc) (PostOf Qc mc ms free) (vx_Post XC mc ms free) := by
  intro m meth c A g ig mk a X hg hsize hdg hW hn hp
  have h1 : (headSpec ws rm).pre.before a A.U = true := atoms_intro fun w hw => hws w hw _ _ X.warmed
  have h2 : (Cond.codeWith y bytes maxL ret hh).before a A.U = true := hws _ hcode _ _ X.warmed
  have h3 : (Cond.initialized y.cls).before a A.U = true := hinit _ _ X.warmed
  have h4 : A.cells + (headSpec ws rm).room.cells ≤ R.cells := by rw [show (headSpec ws rm).room.cells = mc from hrc]; exact hp.1
  have h5 : A.slots + (headSpec ws rm).room.slots ≤ R.slots := by rw [show (headSpec ws rm).room.slots = ms from hrs]; exact hp.2.1
  have hPc : Pc a (A.U.calling g mk a) := hblind _ _ _ _ hp.2.2
  obtain ⟨U, Ls, c0, s0⟩ := A
  dsimp only [Pt.U, Pt.locs, Pt.cells, Pt.slots] at h1 h2 h3 h4 h5 X hn hPc ⊢
  obtain ⟨m9, methY, cY, hn9, hmY, hcY, -, hlY, -⟩ := Cond.codeWith_spec h2
  cases Option.some.inj (hn9.symm.trans hn)
  obtain ⟨kY, hkY, -⟩ := className_of_methodNamed hn
  have hinitY : kY.init = .initialized := Cond.initialized_spec (findClass_of_methodNamed hn) hkY h3
  have h : At U g.method c below := by rw [hg]; exact X.here
  have hlocals9 : W9 + (maxL + 11) + (headSpec ws rm).room.locals ≤ R.locals := hlocals
  have happ : (headSpec ws rm).appliesLoose y e.platform (U.calling g mk a) = true :=
    Spec.appliesLoose_calling (g := g) h hdg hn hkY hinitY
      (X.room_calling (g := g) (R' := (headSpec ws rm).room) hsize hmY hcY hframes (by rw [hlY]; omega) h4 h5) h1
  obtain ⟨mid, hmid⟩ := h.above
  have hfr : (U.setTop g).frames = (.java g :: mid) ++ below := by rw [State.frames_setTop' g h.top, hmid]; rfl
  obtain ⟨o, s₂, hsteps, -, hend, hq⟩ := Steps.callFree hM p X.admits X.cas X.clock (acts := []) hfr happ hPc trivial
  have hq' : vx_Q Qc XC mc ms free a (U.calling g mk a) o s₂ := hq
  rw [State.frames_setTop' g h.top] at hend
  obtain ⟨g₀, hg0⟩ := Option.isSome_iff_exists.mp h.top
  obtain ⟨r, hr⟩ := State.topJava?_eq_some.mp hg0
  have hr' : (({ U with heap := s₂.heap, slotsUsed := s₂.slotsUsed } : State).setVm s₂.vm).frames = .java g₀ :: r := hr
  rcases hq' with ⟨hqc, L, hfe, hL⟩ | ⟨q, rfl, E, ce, L, hx, hce, hcv, hcl, hW₂, hsm, hL⟩
  · obtain ⟨⟨v, rfl⟩, hW₂, e2, q2, q3, q4, q5, q6⟩ := id hfe
    have e3 : s₂ = ({ (U.calling g mk a).setFrames s₂.frames with heap := s₂.heap, slotsUsed := s₂.slotsUsed } : State).setVm s₂.vm := by
      have : s₂ = ({ s₂ with vm := (U.calling g mk a).vm } : State).setVm s₂.vm := rfl
      rw [e2] at this
      exact this
    obtain ⟨c₂, i₂, len₂, hc₂, hd₂, hf₂⟩ := hend
    have hW' : U.WarmedH s₂.vm := hW₂
    have hcc : c₂ = c := by
      have h1 : s₂.code? g.method = U.code? g.method := by
        rw [State.code?_eq, State.code?_eq, hW'.alike.method?]
      exact Option.some.inj (hc₂.symm.trans (h1.trans h.code))
    subst hcc
    have hlen : len₂ = len := by rw [hdg] at hd₂; cases hd₂; rfl
    subst hlen
    have hs₂ : s₂ = (({ U with heap := s₂.heap, slotsUsed := s₂.slotsUsed } : State).setVm s₂.vm).setTop { g with pc := g.pc + len₂, stack := v.toList ++ g.stack } := by
      refine e3.trans ?_
      rw [hf₂, State.calling_eq h.top, State.setFrames_setFrames, State.setTop_of_frames _ hr', hr]
      rfl
    have hsame : U.sameButNew ({ U with heap := s₂.heap, slotsUsed := s₂.slotsUsed } : State) L mc ms := by
      refine ⟨?_, q2, q3, q4, q5, q6⟩
      obtain ⟨t, ht, -⟩ := State.frames_cons hr
      show ({ U with heap := s₂.heap, slotsUsed := s₂.slotsUsed } : State) = { U.setFrames U.frames with heap := s₂.heap, slotsUsed := s₂.slotsUsed }
      rw [State.setFrames_self ht]
    subst hg
    refine Or.inl ⟨v, ⟨(({ U with heap := s₂.heap, slotsUsed := s₂.slotsUsed } : State).setVm s₂.vm), Ls ++ L, c0 + mc, s0 + ms⟩,
      ⟨X.admits, X.cas, X.clock, X.frames, X.room, X.hears, X.method, X.code, (X.here.setHeapUsed s₂.heap s₂.slotsUsed).setVm hW'.alike, X.tail, State.WarmedH.trans X.warmed hW', X.limits, X.bytes, X.same.trans (hsame.setVm s.vm)⟩,
      ⟨g, mk, s₂, L, rfl, rfl, hqc, rfl, hL, rfl, rfl⟩, ?_⟩
    show Steps p.tables e below _ ((({ U with heap := s₂.heap, slotsUsed := s₂.slotsUsed } : State).setVm s₂.vm).setTop { g with pc := g.pc + len₂, stack := v.toList ++ g.stack })
    rw [← hs₂]
    exact hsteps
  · obtain ⟨e2, q2, q3, q4, q5, q6⟩ := id hsm
    have e3 : s₂ = ({ (U.calling g mk a).setFrames s₂.frames with heap := s₂.heap, slotsUsed := s₂.slotsUsed } : State).setVm s₂.vm := by
      have : s₂ = ({ s₂ with vm := (U.calling g mk a).vm } : State).setVm s₂.vm := rfl
      rw [e2] at this
      exact this
    have hf₂ : s₂.frames = .throwing q :: .java g :: U.frames.tail := hend
    have hW' : U.WarmedH s₂.vm := hW₂
    have hs₂ : s₂ = ((({ U with heap := s₂.heap, slotsUsed := s₂.slotsUsed } : State).setVm s₂.vm).setTop g).pushFrame (.throwing q) := by
      refine e3.trans ?_
      rw [hf₂, State.calling_eq h.top, State.setFrames_setFrames, State.pushFrame, State.frames_setTop _ hr', State.setTop_of_frames _ hr', State.setFrames_setFrames, hr]
      rfl
    have hsame : U.sameButNew ({ U with heap := s₂.heap, slotsUsed := s₂.slotsUsed } : State) L mc ms := by
      refine ⟨?_, q2, q3, q4, q5, q6⟩
      obtain ⟨t, ht, -⟩ := State.frames_cons hr
      show ({ U with heap := s₂.heap, slotsUsed := s₂.slotsUsed } : State) = { U.setFrames U.frames with heap := s₂.heap, slotsUsed := s₂.slotsUsed }
      rw [State.setFrames_self ht]
    subst hg
    refine Or.inr ⟨q, ⟨(({ U with heap := s₂.heap, slotsUsed := s₂.slotsUsed } : State).setVm s₂.vm), Ls ++ L, c0 + mc, s0 + ms⟩,
      ⟨X.admits, X.cas, X.clock, X.frames, X.room, X.hears, X.method, X.code, (X.here.setHeapUsed s₂.heap s₂.slotsUsed).setVm hW'.alike, X.tail, State.WarmedH.trans X.warmed hW', X.limits, X.bytes, X.same.trans (hsame.setVm s.vm)⟩,
      ⟨g, mk, s₂, L, E, ce, rfl, rfl, hx, hce, hcv, hcl, rfl, hL, rfl, rfl⟩, ?_⟩
    show Steps p.tables e below _ (((({ U with heap := s₂.heap, slotsUsed := s₂.slotsUsed } : State).setVm s₂.vm).setTop g).pushFrame (.throwing q))
    rw [← hs₂]
    exact hsteps
end
variable {p : Program} {l : Launch} {e : Env} {R : Room} {s : State} {m : MethodId} {args : Array Value} {below : List Frame} {meth : Method} {c : Code} {T : State} {H : Heap} {locs : List Loc} {cells slots : Nat}
theorem vx_callVX (X : Stand p l e R s m args below meth c T locs cells slots) (hexec : p.tables.exec = Jvm.exec) {own C : String} {index : Nat} {y : MethodName} {bytes : ByteArray} {maxL : Nat} {ret : Option FieldType} {hh : List (Nat × Nat × Nat × Nat)}
    (hown : s.vm.findClass own = some m.cls) (hlink : (Cond.methodLink own index y).before args s = true) (hinst : (Cond.instanceMethod y).before args s = true) (hsel : (Cond.selects C y y).before args s = true)
    (hcode : (Cond.codeWith y bytes maxL ret hh).before args s = true) (hy : y.cls ≠ "java/lang/invoke/MethodHandle" ∧ y.cls ≠ "java/lang/invoke/VarHandle")
    {W9 : Nat} {Pre : Pt → Array Value → Prop} {Post : Pt → Array Value → Option Value → Pt → Prop} {PostX : Pt → Array Value → Addr → Pt → Prop} (hK : vx_Back l R p e below s args y 3 W9 Pre Post PostX)
    {b : Addr} {cellB : Cell} (hcell : T.heap[b]? = some cellB) (hobj : cellB.vm.isStatics = false) (hcls : s.vm.findClass C = some cellB.cls)
    {g : JFrame} (hg : g.method = m) (hsize : g.locals.size = c.maxLocals) {argsL rest : List Value} (hlen : ∀ sig, parseMethodDescriptor y.desc = some sig → argsL.length = sig.parameters.length)
    (hstack : g.stack = argsL.reverse ++ .ref b :: rest) (hW : 2 * g.monitorRoom + (rest.map fun v => v.category).sum ≤ W9) (hdg : decode c.code g.pc = .ok (.invokevirtual index, 3))
    (hpre : ∀ vm₁, s.WarmedH vm₁ → Pre ⟨T.setVm vm₁, locs, cells, slots⟩ (Value.ref b :: argsL).toArray) :
    (∃ (v : Option Value) (vm₁ : Vm) (B : Pt), s.WarmedH vm₁ ∧ Stand p l e R s m args below meth c B.U B.locs B.cells B.slots ∧ Post ⟨T.setVm vm₁, locs, cells, slots⟩ (Value.ref b :: argsL).toArray v B ∧
      ∀ target, Steps p.tables e below (B.U.setTop { g with pc := g.pc + 3, stack := v.toList ++ rest }) target → Steps p.tables e below (T.setTop g) target) ∨
    (∃ (q : Addr) (vm₁ : Vm) (B : Pt), s.WarmedH vm₁ ∧ Stand p l e R s m args below meth c B.U B.locs B.cells B.slots ∧ PostX ⟨T.setVm vm₁, locs, cells, slots⟩ (Value.ref b :: argsL).toArray q B ∧
      Steps p.tables e below (T.setTop g) ((B.U.setTop { g with stack := rest }).pushFrame (.throwing q))) := by
  obtain ⟨mk, methM, hnamed, hmethM, hstM, habM⟩ := Cond.instanceMethod_spec hinst
  obtain ⟨m8, methM', cM, hn8, hmethM', -, -, -, -, -, -, hsigM⟩ := Cond.codeWith_spec hcode
  cases Option.some.inj (hn8.symm.trans hnamed)
  cases hmethM.symm.trans hmethM'
  obtain ⟨c2, r2, m2, q1, q2, q3, q4, kP, hkP, hkPi⟩ := Cond.selects_spec hsel
  cases hcls.symm.trans q1
  cases (State.methodFound?_of_named hnamed hy).symm.trans q2
  cases hnamed.symm.trans q3
  have hselP : selectMethod e.platform s.vm cellB.cls mk = .method mk := by rw [Launch.admits_selectMethod X.admits]; exact q4
  obtain ⟨vm₁, X₁, hstep₁⟩ := X.invokevirtual hexec hown hlink hnamed hmethM hstM hkP hkPi hy (a := b) (cell := cellB) hcell
    (fun z h => by rw [h] at hobj; cases hobj) hselP hmethM habM hkP hkPi (g := g) hg (argsL := argsL) (rest := rest) (hlen _ hsigM) hstack hdg
  rcases hK m meth c ⟨T.setVm vm₁, locs, cells, slots⟩ { g with stack := rest } (.invokevirtual index) mk (Value.ref b :: argsL).toArray X₁ hg hsize hdg hW (X₁.named hnamed) (hpre vm₁ X₁.warmed) with ⟨v, B, X', hpost, hsteps⟩ | ⟨q, B, X', hpost, hsteps⟩
  · exact Or.inl ⟨v, vm₁, B, X₁.warmed, X', hpost, fun target h => hstep₁ _ fun acts => by rw [doInvoke_state]; exact hsteps.trans h⟩
  · exact Or.inr ⟨q, vm₁, B, X₁.warmed, X', hpost, hstep₁ _ fun acts => by rw [doInvoke_state]; exact hsteps⟩
theorem vx_callSX (X : Stand p l e R s m args below meth c T locs cells slots) (hexec : p.tables.exec = Jvm.exec) {own : String} {index : Nat} {y : MethodName} {bytes : ByteArray} {maxL : Nat} {ret : Option FieldType} {hh : List (Nat × Nat × Nat × Nat)}
    (hown : s.vm.findClass own = some m.cls) (hlink : (Cond.methodLink own index y).before args s = true) (hstat : (Cond.static y).before args s = true) (hinit : (Cond.initialized y.cls).before args s = true)
    (hcode : (Cond.codeWith y bytes maxL ret hh).before args s = true) (hy : y.cls ≠ "java/lang/invoke/MethodHandle" ∧ y.cls ≠ "java/lang/invoke/VarHandle")
    {W9 : Nat} {Pre : Pt → Array Value → Prop} {Post : Pt → Array Value → Option Value → Pt → Prop} {PostX : Pt → Array Value → Addr → Pt → Prop} (hK : vx_Back l R p e below s args y 3 W9 Pre Post PostX)
    {g : JFrame} (hg : g.method = m) (hsize : g.locals.size = c.maxLocals) {argsL rest : List Value} (hlen : ∀ sig, parseMethodDescriptor y.desc = some sig → argsL.length = sig.parameters.length)
    (hstack : g.stack = argsL.reverse ++ rest) (hW : 2 * g.monitorRoom + (rest.map fun v => v.category).sum ≤ W9) (hdg : decode c.code g.pc = .ok (.invokestatic index, 3))
    (hpre : ∀ vm₁, s.WarmedH vm₁ → Pre ⟨T.setVm vm₁, locs, cells, slots⟩ argsL.toArray) :
    (∃ (v : Option Value) (vm₁ : Vm) (B : Pt), s.WarmedH vm₁ ∧ Stand p l e R s m args below meth c B.U B.locs B.cells B.slots ∧ Post ⟨T.setVm vm₁, locs, cells, slots⟩ argsL.toArray v B ∧
      ∀ target, Steps p.tables e below (B.U.setTop { g with pc := g.pc + 3, stack := v.toList ++ rest }) target → Steps p.tables e below (T.setTop g) target) ∨
    (∃ (q : Addr) (vm₁ : Vm) (B : Pt), s.WarmedH vm₁ ∧ Stand p l e R s m args below meth c B.U B.locs B.cells B.slots ∧ PostX ⟨T.setVm vm₁, locs, cells, slots⟩ argsL.toArray q B ∧
      Steps p.tables e below (T.setTop g) ((B.U.setTop { g with stack := rest }).pushFrame (.throwing q))) := by
  obtain ⟨mk, methM, cM, hnamed, hmethM, -, -, -, -, -, -, hsigM⟩ := Cond.codeWith_spec hcode
  have hstatic : methM.isStatic = true := Cond.static_spec hnamed hmethM hstat
  obtain ⟨kP, hkP, -⟩ := className_of_methodNamed hnamed
  have hinitP : kP.init = .initialized := Cond.initialized_spec (findClass_of_methodNamed hnamed) hkP hinit
  obtain ⟨vm₁, X₁, hstep₁⟩ := X.invokestatic hexec hown hlink hnamed hmethM hstatic hkP hinitP hy (g := g) hg (argsL := argsL) (rest := rest) (hlen _ hsigM) hstack hdg
  rcases hK m meth c ⟨T.setVm vm₁, locs, cells, slots⟩ { g with stack := rest } (.invokestatic index) mk argsL.toArray X₁ hg hsize hdg hW (X₁.named hnamed) (hpre vm₁ X₁.warmed) with ⟨v, B, X', hpost, hsteps⟩ | ⟨q, B, X', hpost, hsteps⟩
  · exact Or.inl ⟨v, vm₁, B, X₁.warmed, X', hpost, fun target h => hstep₁ _ fun acts => by rw [doInvoke_state]; exact hsteps.trans h⟩
  · exact Or.inr ⟨q, vm₁, B, X₁.warmed, X', hpost, hstep₁ _ fun acts => by rw [doInvoke_state]; exact hsteps⟩
theorem vx_callVW (X : Stand p l e R s m args below meth c T locs cells slots) (hexec : p.tables.exec = Jvm.exec) {own C : String} {index : Nat} {y : MethodName} {bytes : ByteArray} {maxL : Nat} {ret : Option FieldType} {hh : List (Nat × Nat × Nat × Nat)}
    (hown : s.vm.findClass own = some m.cls) (hlink : (Cond.methodLink own index y).before args s = true) (hinst : (Cond.instanceMethod y).before args s = true) (hsel : (Cond.selects C y y).before args s = true)
    (hcode : (Cond.codeWith y bytes maxL ret hh).before args s = true) (hy : y.cls ≠ "java/lang/invoke/MethodHandle" ∧ y.cls ≠ "java/lang/invoke/VarHandle")
    {W9 : Nat} {Pre : Pt → Array Value → Prop} {Post : Pt → Array Value → Option Value → Pt → Prop} (hK : Back l R p e below s args y 3 W9 Pre Post)
    {b : Addr} {cellB : Cell} (hcell : T.heap[b]? = some cellB) (hobj : cellB.vm.isStatics = false) (hcls : s.vm.findClass C = some cellB.cls)
    {g : JFrame} (hg : g.method = m) (hsize : g.locals.size = c.maxLocals) {argsL rest : List Value} (hlen : ∀ sig, parseMethodDescriptor y.desc = some sig → argsL.length = sig.parameters.length)
    (hstack : g.stack = argsL.reverse ++ .ref b :: rest) (hW : 2 * g.monitorRoom + (rest.map fun v => v.category).sum ≤ W9) (hdg : decode c.code g.pc = .ok (.invokevirtual index, 3))
    (hpre : ∀ vm₁, s.WarmedH vm₁ → Pre ⟨T.setVm vm₁, locs, cells, slots⟩ (Value.ref b :: argsL).toArray) :
    ∃ (v : Option Value) (vm₁ : Vm) (B : Pt), s.WarmedH vm₁ ∧ Stand p l e R s m args below meth c B.U B.locs B.cells B.slots ∧ Post ⟨T.setVm vm₁, locs, cells, slots⟩ (Value.ref b :: argsL).toArray v B ∧
      ∀ target, Steps p.tables e below (B.U.setTop { g with pc := g.pc + 3, stack := v.toList ++ rest }) target → Steps p.tables e below (T.setTop g) target := by
  obtain ⟨mk, methM, hnamed, hmethM, hstM, habM⟩ := Cond.instanceMethod_spec hinst
  obtain ⟨m8, methM', cM, hn8, hmethM', -, -, -, -, -, -, hsigM⟩ := Cond.codeWith_spec hcode
  cases Option.some.inj (hn8.symm.trans hnamed)
  cases hmethM.symm.trans hmethM'
  obtain ⟨c2, r2, m2, q1, q2, q3, q4, kP, hkP, hkPi⟩ := Cond.selects_spec hsel
  cases hcls.symm.trans q1
  cases (State.methodFound?_of_named hnamed hy).symm.trans q2
  cases hnamed.symm.trans q3
  have hselP : selectMethod e.platform s.vm cellB.cls mk = .method mk := by rw [Launch.admits_selectMethod X.admits]; exact q4
  obtain ⟨vm₁, X₁, hstep₁⟩ := X.invokevirtual hexec hown hlink hnamed hmethM hstM hkP hkPi hy (a := b) (cell := cellB) hcell
    (fun z h => by rw [h] at hobj; cases hobj) hselP hmethM habM hkP hkPi (g := g) hg (argsL := argsL) (rest := rest) (hlen _ hsigM) hstack hdg
  obtain ⟨v, B, X', hpost, hsteps⟩ := hK m meth c ⟨T.setVm vm₁, locs, cells, slots⟩ { g with stack := rest } (.invokevirtual index) mk (Value.ref b :: argsL).toArray X₁ hg hsize hdg hW (X₁.named hnamed) (hpre vm₁ X₁.warmed)
  exact ⟨v, vm₁, B, X₁.warmed, X', hpost, fun target h => hstep₁ _ fun acts => by rw [doInvoke_state]; exact hsteps.trans h⟩
abbrev vx_CVW (R : Room) (s : State) (args : Array Value) (own C : String) (index : Nat) (y : MethodName) (bytes : ByteArray) (maxL : Nat) (ret : Option FieldType) (hh : List (Nat × Nat × Nat × Nat)) (ws : List Cond) (rm : Room) (mc ms n : Nat) : Prop :=
  (rm.cells = mc ∧ rm.slots = ms ∧ rm.frames + 1 ≤ R.frames ∧ 8 + (maxL + 11) + rm.locals ≤ R.locals ∧ (∀ w ∈ ws, ∀ (a' : Array Value) (U : State), s.WarmedH U.vm → w.before a' U = true) ∧ Cond.codeWith y bytes maxL ret hh ∈ ws) ∧
  (Cond.codeWith y bytes maxL ret hh).before args s = true ∧ (Cond.initialized y.cls).before args s = true ∧ (y.cls ≠ "java/lang/invoke/MethodHandle" ∧ y.cls ≠ "java/lang/invoke/VarHandle") ∧
  (∀ sig, parseMethodDescriptor y.desc = some sig → n = sig.parameters.length) ∧ (Cond.methodLink own index y).before args s = true ∧ (Cond.instanceMethod y).before args s = true ∧ (Cond.selects C y y).before args s = true
theorem vx_cwVW {own C : String} {index maxL mc ms : Nat} {y : MethodName} {bytes : ByteArray} {ret : Option FieldType} {hh : List (Nat × Nat × Nat × Nat)} {Ts ws ws' : List Cond} {rm : Room} (n : Nat) (ht : ∀ w ∈ Ts, w.before args s = true) (hT : GoodIn Ts (wsV own index C y ws)) (hw : ws = Cond.codeWith y bytes maxL ret hh :: ws') (hrc : rm.cells = mc) (hrs : rm.slots = ms)
    (hd : y.cls = C ∧ y.cls ≠ "java/lang/invoke/MethodHandle" ∧ y.cls ≠ "java/lang/invoke/VarHandle" ∧ (parseMethodDescriptor y.desc).map (fun d => d.parameters.length) = some n) (hR : rm.frames + 1 ≤ R.frames ∧ 8 + (maxL + 11) + rm.locals ≤ R.locals) :
    vx_CVW R s args own C index y bytes maxL ret hh ws rm mc ms n := by
  obtain ⟨hC, hd⟩ := hd
  subst hC
  have ok : ∀ w ∈ wsV own index y.cls y ws, w.before args s = true := fun w h => ht w (hT w h).1
  have hG : GoodIn Ts ws := fun w h => hT w (by unfold wsV; exact List.mem_append_right _ h)
  have hc : Cond.codeWith y bytes maxL ret hh ∈ ws := by rw [hw]; exact List.mem_cons_self
  refine ⟨⟨hrc, hrs, hR.1, hR.2, pay_in ht hG, hc⟩, ht _ (hG _ hc).1, ok _ (by simp [wsV]), ⟨hd.1, hd.2.1⟩, fun sig h => ?_, ok _ (by simp [wsV]), ok _ (by simp [wsV]), ok _ (by simp [wsV])⟩
  have h2 := hd.2.2
  rw [h] at h2
  exact (Option.some.inj h2).symm
theorem vx_runVW {y : MethodName} {bytes cc : ByteArray} {maxL nL mc ms n index : Nat} {ret : Option FieldType} {hh : List (Nat × Nat × Nat × Nat)} {ws : List Cond} {rm : Room} {Pc : Array Value → State → Prop} {Qc : Array Value → State → Outcome → State → Prop} {free : Addr → Prop} {Ts : List Cond} {own C : String} {b : Addr} {As rest : List Value} {g : JFrame}
    (S : CallFix p m c cc nL s args Ts own) (hM : Met l y ws rm Pc Qc mc ms free) (cw : vx_CVW R s args own C index y bytes maxL ret hh ws rm mc ms n) (hp : PreV s H C b Pc As)
    (hg : g.method = m) (hn : As.length = n) (hsize : g.locals.size = nL) (hstack : g.stack = As.reverse ++ .ref b :: rest) (hW : 2 * g.monitorRoom + (rest.map fun v => v.category).sum ≤ 8) (hdg : decode cc g.pc = .ok (.invokevirtual index, 3)) (hf : cells + mc ≤ R.cells ∧ slots + ms ≤ R.slots) :
    va_Run p l e R s m args below meth c H locs cells slots mc ms g rest (Qc (Value.ref b :: As).toArray) free := by
  obtain ⟨⟨hrc, hrs, hfr, hlo, hws, hcw⟩, hcode, hini, hy, hlen, hl, hin, hse⟩ := cw
  have hK : Back l R p e below s args y 3 8 (PreOf R mc ms Pc) (PostOf Qc mc ms free) := va_backW (hh := hh) (bytes := bytes) (maxL := maxL) (ret := ret) hM hp.1 hrc hrs hfr hlo hws hcw (fun a' U hW => word_at hW (Or.inl (by first | rfl | simp [Cond.onTables, Cond.keeps, Cond.steady])) hini)
  obtain ⟨hx, hb, hml, ho, -⟩ := S
  obtain ⟨-, ⟨cellB, hcB, hoB, hclB⟩, hPc⟩ := hp
  intro T hT X
  obtain ⟨v, vm₁, ⟨U', l2, c2, s2⟩, hW₁, X', ⟨g', mk, t, L, e1, e2, hq, h1, hL, h2, h3⟩, st⟩ := vx_callVW X hx (C := C) (hh := hh) (bytes := bytes) (maxL := maxL) (ret := ret) ho hl hin hse hcode hy hK (by rw [hT]; exact hcB) hoB hclB hg (hsize.trans hml.symm) (argsL := As) (rest := rest) (fun sig h => hn.trans (hlen sig h)) hstack hW (by rw [hb]; exact hdg)
    (fun vm₁ hW₁ => ⟨hf.1, hf.2, hPc (T.setVm vm₁) hT hW₁⟩)
  dsimp only [Pt.U, Pt.locs, Pt.cells, Pt.slots] at X' e1 e2 h1 h2 h3 st
  subst h1; subst h2; subst h3
  exact ⟨v, (T.setVm vm₁).calling g' mk (Value.ref b :: As).toArray, t, U', L, hT, X', hL, e1, e2, hq, st⟩
section
variable {y : MethodName} {bytes cc : ByteArray} {maxL nL mc ms n index : Nat} {ret : Option FieldType} {ws : List Cond} {rm : Room} {Pc : Array Value → State → Prop} {Qc : Array Value → State → Outcome → State → Prop} {XC : String → State → State → Prop} {free : Addr → Prop} {Ts : List Cond} {own C : String} {b : Addr} {As rest : List Value} {g : JFrame}
theorem vx_runVX {hh : List (Nat × Nat × Nat × Nat)} (S : CallFix p m c cc nL s args Ts own) (hM : vx_Met l y ws rm Pc Qc XC mc ms free) (cw : vx_CVW R s args own C index y bytes maxL ret hh ws rm mc ms n) (hp : PreV s H C b Pc As)
    (hg : g.method = m) (hn : As.length = n) (hsize : g.locals.size = nL) (hstack : g.stack = As.reverse ++ .ref b :: rest) (hW : 2 * g.monitorRoom + (rest.map fun v => v.category).sum ≤ 8) (hdg : decode cc g.pc = .ok (.invokevirtual index, 3)) (hf : cells + mc ≤ R.cells ∧ slots + ms ≤ R.slots) :
    vx_Run p l e R s m args below meth c H locs cells slots mc ms g rest (Qc (Value.ref b :: As).toArray) XC free := by
  obtain ⟨⟨hrc, hrs, hfr, hlo, hws, hcw⟩, hcode, hini, hy, hlen, hl, hin, hse⟩ := cw
  have hK : vx_Back l R p e below s args y 3 8 (PreOf R mc ms Pc) (PostOf Qc mc ms free) (vx_Post XC mc ms free) := vx_backW (hh := hh) (bytes := bytes) (maxL := maxL) (ret := ret) hM hp.1 hrc hrs hfr hlo hws hcw (fun a' U hW => word_at hW (Or.inl (by first | rfl | simp [Cond.onTables, Cond.keeps, Cond.steady])) hini)
  obtain ⟨hx, hb, hml, ho, -⟩ := S
  obtain ⟨-, ⟨cellB, hcB, hoB, hclB⟩, hPc⟩ := hp
  intro T hT X
  rcases vx_callVX X hx (C := C) (hh := hh) (bytes := bytes) (maxL := maxL) (ret := ret) ho hl hin hse hcode hy hK (by rw [hT]; exact hcB) hoB hclB hg (hsize.trans hml.symm) (argsL := As) (rest := rest) (fun sig h => hn.trans (hlen sig h)) hstack hW (by rw [hb]; exact hdg)
    (fun vm₁ hW₁ => ⟨hf.1, hf.2, hPc (T.setVm vm₁) hT hW₁⟩) with ⟨v, vm₁, ⟨U', l2, c2, s2⟩, hW₁, X', ⟨g', mk, t, L, e1, e2, hq, h1, hL, h2, h3⟩, st⟩ | ⟨q, vm₁, ⟨U', l2, c2, s2⟩, hW₁, X', ⟨g', mk, t, L, E, ce, e1, e2, hq, hce, hcv, hcl, h1, hL, h2, h3⟩, st⟩
  · dsimp only [Pt.U, Pt.locs, Pt.cells, Pt.slots] at X' e1 e2 h1 h2 h3 st
    subst h1; subst h2; subst h3
    exact Or.inl ⟨v, (T.setVm vm₁).calling g' mk (Value.ref b :: As).toArray, t, U', L, hT, X', hL, e1, e2, hq, st⟩
  · dsimp only [Pt.U, Pt.locs, Pt.cells, Pt.slots] at X' e1 e2 h1 h2 h3 st hcl
    subst h1; subst h2; subst h3
    exact Or.inr ⟨q, (T.setVm vm₁).calling g' mk (Value.ref b :: As).toArray, t, U', L, E, ce, hT, X', hL, e1, e2, hq, hce, hcv, vx_cls hW₁ hcl, st⟩
theorem vx_runSX {hh : List (Nat × Nat × Nat × Nat)} (S : CallFix p m c cc nL s args Ts own) (hM : vx_Met l y ws rm Pc Qc XC mc ms free) (cw : vx_CSW R s args own index y bytes maxL ret hh ws rm mc ms n) (hp : PreS s H Pc As)
    (hg : g.method = m) (hn : As.length = n) (hsize : g.locals.size = nL) (hstack : g.stack = As.reverse ++ rest) (hW : 2 * g.monitorRoom + (rest.map fun v => v.category).sum ≤ 8) (hdg : decode cc g.pc = .ok (.invokestatic index, 3)) (hf : cells + mc ≤ R.cells ∧ slots + ms ≤ R.slots) :
    vx_Run p l e R s m args below meth c H locs cells slots mc ms g rest (Qc As.toArray) XC free := by
  obtain ⟨⟨hrc, hrs, hfr, hlo, hws, hcw⟩, hcode, hini, hy, hlen, hl, hstt⟩ := cw
  have hK : vx_Back l R p e below s args y 3 8 (PreOf R mc ms Pc) (PostOf Qc mc ms free) (vx_Post XC mc ms free) := vx_backW (hh := hh) (bytes := bytes) (maxL := maxL) (ret := ret) hM hp.1 hrc hrs hfr hlo hws hcw (fun a' U hW => word_at hW (Or.inl (by first | rfl | simp [Cond.onTables, Cond.keeps, Cond.steady])) hini)
  obtain ⟨hx, hb, hml, ho, -⟩ := S
  intro T hT X
  rcases vx_callSX X hx (hh := hh) (bytes := bytes) (maxL := maxL) (ret := ret) ho hl hstt hini hcode hy hK hg (hsize.trans hml.symm) (argsL := As) (rest := rest) (fun sig h => hn.trans (hlen sig h)) hstack hW (by rw [hb]; exact hdg)
    (fun vm₁ hW₁ => ⟨hf.1, hf.2, hp.2 (T.setVm vm₁) hT hW₁⟩) with ⟨v, vm₁, ⟨U', l2, c2, s2⟩, hW₁, X', ⟨g', mk, t, L, e1, e2, hq, h1, hL, h2, h3⟩, st⟩ | ⟨q, vm₁, ⟨U', l2, c2, s2⟩, hW₁, X', ⟨g', mk, t, L, E, ce, e1, e2, hq, hce, hcv, hcl, h1, hL, h2, h3⟩, st⟩
  · dsimp only [Pt.U, Pt.locs, Pt.cells, Pt.slots] at X' e1 e2 h1 h2 h3 st
    subst h1; subst h2; subst h3
    exact Or.inl ⟨v, (T.setVm vm₁).calling g' mk As.toArray, t, U', L, hT, X', hL, e1, e2, hq, st⟩
  · dsimp only [Pt.U, Pt.locs, Pt.cells, Pt.slots] at X' e1 e2 h1 h2 h3 st hcl
    subst h1; subst h2; subst h3
    exact Or.inr ⟨q, (T.setVm vm₁).calling g' mk As.toArray, t, U', L, E, ce, hT, X', hL, e1, e2, hq, hce, hcv, vx_cls hW₁ hcl, st⟩
end
end VXH
theorem vx_ofWH {l : Launch} {y : MethodName} {ws ws' : List Cond} {rm : Room} {Pc : Array Value → State → Prop} {Qc : Array Value → State → Outcome → State → Prop} {XC : String → State → State → Prop} {mc ms : Nat} {free : Addr → Prop} {cc : ByteArray} {maxL : Nat} {ret : Option FieldType} {hh : List (Nat × Nat × Nat × Nat)}
    (hy : plainName y.cls = true) (hw : ws = Cond.codeWith y cc maxL ret hh :: ws')
    (body : ∀ p e s m args below meth c s₁, BodyLoose p l y (headSpec ws rm) cc maxL ret e s m args below meth c s₁ → c.maxLocals = maxL → Pc args s →
      W p l e (headSpec ws rm).room s m args below meth c s.heap [] 0 0 (vx_MQ below Qc XC args s mc ms free) (entryFrame m args maxL)) : vx_Met l y ws rm Pc Qc XC mc ms free := by
  refine MetFree.of_bodyS (code := cc) (maxLocals := maxL) (ret := ret) hy ?_ ?_
  · intro args s m h hn
    obtain ⟨m9, meth, c, hn9, h1, h2, h3, h4, -, h5, h6, -⟩ := Cond.codeWith_spec (atoms_spec (ws := ws) h _ (by rw [hw]; exact List.mem_cons_self))
    cases hn.symm.trans hn9
    exact ⟨meth, c, h1, h2, h3, h4, h5, h6⟩
  · intro p e s m args below meth c s₁ B hml hP _
    have hh0 : s₁.heap = s.heap := by rw [B.state]; rfl
    obtain ⟨t, a1, o, b1, b2, b3⟩ := body p e s m args below meth c s₁ B hml hP s₁ hh0 (Stand.of_body B)
    exact ⟨t, o, a1, b1, b2, b3⟩
/-! ===== END ===== -/

def RX0 : String := "Campground$Bookings"
def TX0 : u_T := fun k => match k with
  | 0 => ("Campground$Bookings", "siteClass", "[I", true)
  | 1 => ("Campground$Bookings", "arrival", "[I", true)
  | 2 => ("Campground$Bookings", "departure", "[I", true)
  | 3 => ("Campground$Bookings", "cost", "[I", true)
  | 4 => ("Campground$Bookings", "state", "[I", true)
  | 5 => ("Campground$Bookings", "site", "[I", true)
  | _ => ("Campground$Bookings", "count", "I", false)
def tyX0 : Nat → FieldType := fun k => match k with
  | 0 => .array .int
  | 1 => .array .int
  | 2 => .array .int
  | 3 => .array .int
  | 4 => .array .int
  | 5 => .array .int
  | _ => .int
abbrev wsX00 : List Cond := u_ws RX0 TX0 7
theorem nmX0 : ∀ a, a < 7 → ∀ b, b < 7 → a ≠ b → (TX0 a).2.1 ≠ (TX0 b).2.1 := by decide +kernel
theorem tyX0_ok : ∀ k, k < 7 → parseFieldDescriptor (TX0 k).2.2.1 = some (tyX0 k) := by decide +kernel
abbrev cX0_init : ByteArray := prog_2_method_1_code
def yX0_init : MethodName := ⟨RX0, "<init>", "()V"⟩
abbrev cX0_isFull : ByteArray := prog_2_method_2_code
def yX0_isFull : MethodName := ⟨RX0, "isFull", "()Z"⟩
abbrev cX0_add : ByteArray := prog_2_method_3_code
def yX0_add : MethodName := ⟨RX0, "add", "(IIII)I"⟩
abbrev cX0_isActive : ByteArray := prog_2_method_4_code
def yX0_isActive : MethodName := ⟨RX0, "isActive", "(I)Z"⟩
abbrev cX0_isToArrive : ByteArray := prog_2_method_5_code
def yX0_isToArrive : MethodName := ⟨RX0, "isToArrive", "(II)Z"⟩
abbrev cX0_isToDepart : ByteArray := prog_2_method_6_code
def yX0_isToDepart : MethodName := ⟨RX0, "isToDepart", "(II)Z"⟩
abbrev cX0_takenOn : ByteArray := prog_2_method_7_code
def yX0_takenOn : MethodName := ⟨RX0, "takenOn", "(II)I"⟩
abbrev cX0_isSomebodyAt : ByteArray := prog_2_method_8_code
def yX0_isSomebodyAt : MethodName := ⟨RX0, "isSomebodyAt", "(I)Z"⟩
abbrev cX0_isDearer : ByteArray := prog_2_method_9_code
def yX0_isDearer : MethodName := ⟨RX0, "isDearer", "(II)Z"⟩
abbrev cX0_endNight : ByteArray := prog_2_method_10_code
def yX0_endNight : MethodName := ⟨RX0, "endNight", "(I)V"⟩
abbrev cX0_copyFrom : ByteArray := prog_2_method_11_code
def yX0_copyFrom : MethodName := ⟨RX0, "copyFrom", "(LCampground$Bookings;)V"⟩
def RX1 : String := "Campground$Camp"
def TX1 : u_T := fun k => match k with
  | 0 => ("Campground$Camp", "classes", "LCampground$Classes;", true)
  | 1 => ("Campground$Camp", "sites", "LCampground$Sites;", true)
  | 2 => ("Campground$Camp", "seasons", "LCampground$Seasons;", true)
  | 3 => ("Campground$Camp", "bookings", "LCampground$Bookings;", true)
  | 4 => ("Campground$Camp", "requests", "LCampground$Requests;", true)
  | _ => ("Campground$Camp", "today", "I", false)
def tyX1 : Nat → FieldType := fun k => match k with
  | 0 => .object "Campground$Classes"
  | 1 => .object "Campground$Sites"
  | 2 => .object "Campground$Seasons"
  | 3 => .object "Campground$Bookings"
  | 4 => .object "Campground$Requests"
  | _ => .int
abbrev wsX10 : List Cond := u_ws RX1 TX1 6
theorem nmX1 : ∀ a, a < 6 → ∀ b, b < 6 → a ≠ b → (TX1 a).2.1 ≠ (TX1 b).2.1 := by decide +kernel
theorem tyX1_ok : ∀ k, k < 6 → parseFieldDescriptor (TX1 k).2.2.1 = some (tyX1 k) := by decide +kernel
abbrev cX1_init : ByteArray := prog_3_method_1_code
def yX1_init : MethodName := ⟨RX1, "<init>", "()V"⟩
abbrev cX1_clear : ByteArray := prog_3_method_2_code
def yX1_clear : MethodName := ⟨RX1, "clear", "()V"⟩
abbrev cX1_copyFrom : ByteArray := prog_3_method_3_code
def yX1_copyFrom : MethodName := ⟨RX1, "copyFrom", "(LCampground$Camp;)V"⟩
abbrev cX1_capacityOn : ByteArray := prog_3_method_4_code
def yX1_capacityOn : MethodName := ⟨RX1, "capacityOn", "(II)I"⟩
abbrev cX1_releasedOn : ByteArray := prog_3_method_5_code
def yX1_releasedOn : MethodName := ⟨RX1, "releasedOn", "(II)I"⟩
abbrev cX1_takenInAll : ByteArray := prog_3_method_6_code
def yX1_takenInAll : MethodName := ⟨RX1, "takenInAll", "(III)I"⟩
abbrev cX1_capacityInAll : ByteArray := prog_3_method_7_code
def yX1_capacityInAll : MethodName := ⟨RX1, "capacityInAll", "(III)I"⟩
abbrev cX1_canSpare : ByteArray := prog_3_method_8_code
def yX1_canSpare : MethodName := ⟨RX1, "canSpare", "(II)Z"⟩
abbrev cX1_isVacant : ByteArray := prog_3_method_9_code
def yX1_isVacant : MethodName := ⟨RX1, "isVacant", "(I)Z"⟩
abbrev cX1_lowestVacantSite : ByteArray := prog_3_method_10_code
def yX1_lowestVacantSite : MethodName := ⟨RX1, "lowestVacantSite", "(I)I"⟩
abbrev cX1_addBooking : ByteArray := prog_3_method_11_code
def yX1_addBooking : MethodName := ⟨RX1, "addBooking", "(III)I"⟩
abbrev cX1_bookRequest : ByteArray := prog_3_method_12_code
def yX1_bookRequest : MethodName := ⟨RX1, "bookRequest", "(I)V"⟩
abbrev cX1_refundOfCancelling : ByteArray := prog_3_method_13_code
def yX1_refundOfCancelling : MethodName := ⟨RX1, "refundOfCancelling", "(I)I"⟩
abbrev cX1_refundOfDeparting : ByteArray := prog_3_method_14_code
def yX1_refundOfDeparting : MethodName := ⟨RX1, "refundOfDeparting", "(I)I"⟩
abbrev cX1_endToday : ByteArray := prog_3_method_15_code
def yX1_endToday : MethodName := ⟨RX1, "endToday", "()V"⟩
def RX2 : String := "Campground$Classes"
def TX2 : u_T := fun k => match k with
  | 0 => ("Campground$Classes", "window", "[I", true)
  | 1 => ("Campground$Classes", "shortWindow", "[I", true)
  | 2 => ("Campground$Classes", "quota", "[I", true)
  | _ => ("Campground$Classes", "count", "I", false)
def tyX2 : Nat → FieldType := fun k => match k with
  | 0 => .array .int
  | 1 => .array .int
  | 2 => .array .int
  | _ => .int
abbrev wsX20 : List Cond := u_ws RX2 TX2 4
theorem nmX2 : ∀ a, a < 4 → ∀ b, b < 4 → a ≠ b → (TX2 a).2.1 ≠ (TX2 b).2.1 := by decide +kernel
theorem tyX2_ok : ∀ k, k < 4 → parseFieldDescriptor (TX2 k).2.2.1 = some (tyX2 k) := by decide +kernel
abbrev cX2_init : ByteArray := prog_4_method_1_code
def yX2_init : MethodName := ⟨RX2, "<init>", "()V"⟩
abbrev cX2_add : ByteArray := prog_4_method_2_code
def yX2_add : MethodName := ⟨RX2, "add", "(III)I"⟩
abbrev cX2_limitAhead : ByteArray := prog_4_method_3_code
def yX2_limitAhead : MethodName := ⟨RX2, "limitAhead", "(II)I"⟩
abbrev cX2_windowOf : ByteArray := prog_4_method_4_code
def yX2_windowOf : MethodName := ⟨RX2, "windowOf", "(I)I"⟩
abbrev cX2_copyFrom : ByteArray := prog_4_method_5_code
def yX2_copyFrom : MethodName := ⟨RX2, "copyFrom", "(LCampground$Classes;)V"⟩
def RX3 : String := "Campground$Plan"
def TX3 : u_T := fun k => match k with
  | 0 => ("Campground$Plan", "camp", "LCampground$Camp;", true)
  | 1 => ("Campground$Plan", "site", "[I", true)
  | 2 => ("Campground$Plan", "busyUntil", "[I", true)
  | 3 => ("Campground$Plan", "nightsInGaps", "I", false)
  | _ => ("Campground$Plan", "orphans", "I", false)
def tyX3 : Nat → FieldType := fun k => match k with
  | 0 => .object "Campground$Camp"
  | 1 => .array .int
  | 2 => .array .int
  | 3 => .int
  | _ => .int
abbrev wsX30 : List Cond := u_ws RX3 TX3 5
theorem nmX3 : ∀ a, a < 5 → ∀ b, b < 5 → a ≠ b → (TX3 a).2.1 ≠ (TX3 b).2.1 := by decide +kernel
theorem tyX3_ok : ∀ k, k < 5 → parseFieldDescriptor (TX3 k).2.2.1 = some (tyX3 k) := by decide +kernel
abbrev cX3_init : ByteArray := prog_5_method_1_code
def yX3_init : MethodName := ⟨RX3, "<init>", "(LCampground$Camp;)V"⟩
abbrev cX3_make : ByteArray := prog_5_method_2_code
def yX3_make : MethodName := ⟨RX3, "make", "(II)V"⟩
abbrev cX3_placeStaying : ByteArray := prog_5_method_3_code
def yX3_placeStaying : MethodName := ⟨RX3, "placeStaying", "(I)V"⟩
abbrev cX3_nextToPlace : ByteArray := prog_5_method_4_code
def yX3_nextToPlace : MethodName := ⟨RX3, "nextToPlace", "(I)I"⟩
abbrev cX3_chooseSite : ByteArray := prog_5_method_5_code
def yX3_chooseSite : MethodName := ⟨RX3, "chooseSite", "(III)I"⟩
abbrev cX3_countGap : ByteArray := prog_5_method_6_code
def yX3_countGap : MethodName := ⟨RX3, "countGap", "(III)V"⟩
def RX4 : String := "Campground$Requests"
def TX4 : u_T := fun k => match k with
  | 0 => ("Campground$Requests", "siteClass", "[I", true)
  | 1 => ("Campground$Requests", "arrival", "[I", true)
  | 2 => ("Campground$Requests", "nights", "[I", true)
  | 3 => ("Campground$Requests", "state", "[I", true)
  | 4 => ("Campground$Requests", "booking", "[I", true)
  | _ => ("Campground$Requests", "count", "I", false)
def tyX4 : Nat → FieldType := fun k => match k with
  | 0 => .array .int
  | 1 => .array .int
  | 2 => .array .int
  | 3 => .array .int
  | 4 => .array .int
  | _ => .int
abbrev wsX40 : List Cond := u_ws RX4 TX4 6
theorem nmX4 : ∀ a, a < 6 → ∀ b, b < 6 → a ≠ b → (TX4 a).2.1 ≠ (TX4 b).2.1 := by decide +kernel
theorem tyX4_ok : ∀ k, k < 6 → parseFieldDescriptor (TX4 k).2.2.1 = some (tyX4 k) := by decide +kernel
abbrev cX4_init : ByteArray := prog_6_method_1_code
def yX4_init : MethodName := ⟨RX4, "<init>", "()V"⟩
abbrev cX4_add : ByteArray := prog_6_method_2_code
def yX4_add : MethodName := ⟨RX4, "add", "(III)I"⟩
abbrev cX4_isBetter : ByteArray := prog_6_method_3_code
def yX4_isBetter : MethodName := ⟨RX4, "isBetter", "(II)Z"⟩
abbrev cX4_expireBefore : ByteArray := prog_6_method_4_code
def yX4_expireBefore : MethodName := ⟨RX4, "expireBefore", "(I)V"⟩
abbrev cX4_copyFrom : ByteArray := prog_6_method_5_code
def yX4_copyFrom : MethodName := ⟨RX4, "copyFrom", "(LCampground$Requests;)V"⟩
def RX5 : String := "Campground$Seasons"
def TX5 : u_T := fun k => match k with
  | 0 => ("Campground$Seasons", "siteClass", "[I", true)
  | 1 => ("Campground$Seasons", "first", "[I", true)
  | 2 => ("Campground$Seasons", "last", "[I", true)
  | 3 => ("Campground$Seasons", "least", "[I", true)
  | 4 => ("Campground$Seasons", "charge", "[I", true)
  | _ => ("Campground$Seasons", "count", "I", false)
def tyX5 : Nat → FieldType := fun k => match k with
  | 0 => .array .int
  | 1 => .array .int
  | 2 => .array .int
  | 3 => .array .int
  | 4 => .array .int
  | _ => .int
abbrev wsX50 : List Cond := u_ws RX5 TX5 6
theorem nmX5 : ∀ a, a < 6 → ∀ b, b < 6 → a ≠ b → (TX5 a).2.1 ≠ (TX5 b).2.1 := by decide +kernel
theorem tyX5_ok : ∀ k, k < 6 → parseFieldDescriptor (TX5 k).2.2.1 = some (tyX5 k) := by decide +kernel
abbrev cX5_init : ByteArray := prog_7_method_1_code
def yX5_init : MethodName := ⟨RX5, "<init>", "()V"⟩
abbrev cX5_add : ByteArray := prog_7_method_2_code
def yX5_add : MethodName := ⟨RX5, "add", "(IIIII)I"⟩
abbrev cX5_latestWith : ByteArray := prog_7_method_3_code
def yX5_latestWith : MethodName := ⟨RX5, "latestWith", "(II)I"⟩
abbrev cX5_minimumOn : ByteArray := prog_7_method_4_code
def yX5_minimumOn : MethodName := ⟨RX5, "minimumOn", "(II)I"⟩
abbrev cX5_priceOn : ByteArray := prog_7_method_5_code
def yX5_priceOn : MethodName := ⟨RX5, "priceOn", "(II)I"⟩
abbrev cX5_priceOfNights : ByteArray := prog_7_method_6_code
def yX5_priceOfNights : MethodName := ⟨RX5, "priceOfNights", "(III)I"⟩
abbrev cX5_copyFrom : ByteArray := prog_7_method_7_code
def yX5_copyFrom : MethodName := ⟨RX5, "copyFrom", "(LCampground$Seasons;)V"⟩
def RX6 : String := "Campground$SetupReader"
def TX6 : u_T := fun k => match k with
  | 0 => ("Campground$SetupReader", "text", "[B", true)
  | 1 => ("Campground$SetupReader", "camp", "LCampground$Camp;", true)
  | 2 => ("Campground$SetupReader", "length", "I", false)
  | 3 => ("Campground$SetupReader", "kind", "I", false)
  | 4 => ("Campground$SetupReader", "start", "I", false)
  | 5 => ("Campground$SetupReader", "end", "I", false)
  | 6 => ("Campground$SetupReader", "value", "I", false)
  | 7 => ("Campground$SetupReader", "code", "I", false)
  | _ => ("Campground$SetupReader", "position", "I", false)
def tyX6 : Nat → FieldType := fun k => match k with
  | 0 => .array .byte
  | 1 => .object "Campground$Camp"
  | 2 => .int
  | 3 => .int
  | 4 => .int
  | 5 => .int
  | 6 => .int
  | 7 => .int
  | _ => .int
abbrev wsX60 : List Cond := u_ws RX6 TX6 9
theorem nmX6 : ∀ a, a < 9 → ∀ b, b < 9 → a ≠ b → (TX6 a).2.1 ≠ (TX6 b).2.1 := by decide +kernel
theorem tyX6_ok : ∀ k, k < 9 → parseFieldDescriptor (TX6 k).2.2.1 = some (tyX6 k) := by decide +kernel
abbrev cX6_init : ByteArray := prog_8_method_1_code
def yX6_init : MethodName := ⟨RX6, "<init>", "([BLCampground$Camp;)V"⟩
abbrev cX6_read : ByteArray := prog_8_method_2_code
def yX6_read : MethodName := ⟨RX6, "read", "(I)I"⟩
abbrev cX6_readStatement : ByteArray := prog_8_method_3_code
def yX6_readStatement : MethodName := ⟨RX6, "readStatement", "()Z"⟩
abbrev cX6_readClass : ByteArray := prog_8_method_4_code
def yX6_readClass : MethodName := ⟨RX6, "readClass", "()Z"⟩
abbrev cX6_readSites : ByteArray := prog_8_method_5_code
def yX6_readSites : MethodName := ⟨RX6, "readSites", "()Z"⟩
abbrev cX6_readSeason : ByteArray := prog_8_method_6_code
def yX6_readSeason : MethodName := ⟨RX6, "readSeason", "()Z"⟩
abbrev cX6_readDay : ByteArray := prog_8_method_7_code
def yX6_readDay : MethodName := ⟨RX6, "readDay", "()Z"⟩
abbrev cX6_readSemicolon : ByteArray := prog_8_method_8_code
def yX6_readSemicolon : MethodName := ⟨RX6, "readSemicolon", "()Z"⟩
abbrev cX6_readNumber : ByteArray := prog_8_method_9_code
def yX6_readNumber : MethodName := ⟨RX6, "readNumber", "(II)I"⟩
abbrev cX6_fail : ByteArray := prog_8_method_10_code
def yX6_fail : MethodName := ⟨RX6, "fail", "(I)Z"⟩
abbrev cX6_failAt : ByteArray := prog_8_method_11_code
def yX6_failAt : MethodName := ⟨RX6, "failAt", "(II)Z"⟩
abbrev cX6_isWord : ByteArray := prog_8_method_12_code
def yX6_isWord : MethodName := ⟨RX6, "isWord", "(Ljava/lang/String;)Z"⟩
abbrev cX6_step : ByteArray := prog_8_method_13_code
def yX6_step : MethodName := ⟨RX6, "step", "()V"⟩
abbrev cX6_isLetter : ByteArray := prog_8_method_14_code
def yX6_isLetter : MethodName := ⟨RX6, "isLetter", "(B)Z"⟩
abbrev cX6_isDigit : ByteArray := prog_8_method_15_code
def yX6_isDigit : MethodName := ⟨RX6, "isDigit", "(B)Z"⟩
def RX7 : String := "Campground$Sites"
def TX7 : u_T := fun k => match k with
  | 0 => ("Campground$Sites", "siteClass", "[I", true)
  | 1 => ("Campground$Sites", "closedUntil", "[I", true)
  | _ => ("Campground$Sites", "count", "I", false)
def tyX7 : Nat → FieldType := fun k => match k with
  | 0 => .array .int
  | 1 => .array .int
  | _ => .int
abbrev wsX70 : List Cond := u_ws RX7 TX7 3
theorem nmX7 : ∀ a, a < 3 → ∀ b, b < 3 → a ≠ b → (TX7 a).2.1 ≠ (TX7 b).2.1 := by decide +kernel
theorem tyX7_ok : ∀ k, k < 3 → parseFieldDescriptor (TX7 k).2.2.1 = some (tyX7 k) := by decide +kernel
abbrev cX7_init : ByteArray := prog_9_method_1_code
def yX7_init : MethodName := ⟨RX7, "<init>", "()V"⟩
abbrev cX7_add : ByteArray := prog_9_method_2_code
def yX7_add : MethodName := ⟨RX7, "add", "(I)I"⟩
abbrev cX7_isClosed : ByteArray := prog_9_method_3_code
def yX7_isClosed : MethodName := ⟨RX7, "isClosed", "(II)Z"⟩
abbrev cX7_countOpen : ByteArray := prog_9_method_4_code
def yX7_countOpen : MethodName := ⟨RX7, "countOpen", "(II)I"⟩
abbrev cX7_copyFrom : ByteArray := prog_9_method_5_code
def yX7_copyFrom : MethodName := ⟨RX7, "copyFrom", "(LCampground$Sites;)V"⟩
def RX8 : String := "Campground$StayJudge"
def TX8 : u_T := fun k => match k with
  | 0 => ("Campground$StayJudge", "camp", "LCampground$Camp;", true)
  | 1 => ("Campground$StayJudge", "known", "[I", true)
  | _ => ("Campground$StayJudge", "siteClass", "I", false)
def tyX8 : Nat → FieldType := fun k => match k with
  | 0 => .object "Campground$Camp"
  | 1 => .array .int
  | _ => .int
abbrev wsX80 : List Cond := u_ws RX8 TX8 3
theorem nmX8 : ∀ a, a < 3 → ∀ b, b < 3 → a ≠ b → (TX8 a).2.1 ≠ (TX8 b).2.1 := by decide +kernel
theorem tyX8_ok : ∀ k, k < 3 → parseFieldDescriptor (TX8 k).2.2.1 = some (tyX8 k) := by decide +kernel
abbrev cX8_init : ByteArray := prog_10_method_1_code
def yX8_init : MethodName := ⟨RX8, "<init>", "(LCampground$Camp;)V"⟩
abbrev cX8_turnTo : ByteArray := prog_10_method_2_code
def yX8_turnTo : MethodName := ⟨RX8, "turnTo", "(I)V"⟩
abbrev cX8_isFree : ByteArray := prog_10_method_3_code
def yX8_isFree : MethodName := ⟨RX8, "isFree", "(I)Z"⟩
abbrev cX8_leavesWindow : ByteArray := prog_10_method_4_code
def yX8_leavesWindow : MethodName := ⟨RX8, "leavesWindow", "(II)Z"⟩
abbrev cX8_obstacleToNights : ByteArray := prog_10_method_5_code
def yX8_obstacleToNights : MethodName := ⟨RX8, "obstacleToNights", "(II)I"⟩
abbrev cX8_obstacleToStay : ByteArray := prog_10_method_6_code
def yX8_obstacleToStay : MethodName := ⟨RX8, "obstacleToStay", "(II)I"⟩
def RX9 : String := "Campground"
def TX9 : u_T := fun k => match k with
  | 0 => ("Campground", "camp", "LCampground$Camp;", true)
  | 1 => ("Campground", "draft", "LCampground$Camp;", true)
  | 2 => ("Campground", "saved", "[LCampground$Camp;", true)
  | 3 => ("Campground", "judge", "LCampground$StayJudge;", true)
  | 4 => ("Campground", "plan", "LCampground$Plan;", true)
  | 5 => ("Campground", "text", "[B", true)
  | 6 => ("Campground", "reader", "LCampground$SetupReader;", true)
  | _ => ("Campground", "textLength", "I", false)
def tyX9 : Nat → FieldType := fun k => match k with
  | 0 => .object "Campground$Camp"
  | 1 => .object "Campground$Camp"
  | 2 => .array (.object "Campground$Camp")
  | 3 => .object "Campground$StayJudge"
  | 4 => .object "Campground$Plan"
  | 5 => .array .byte
  | 6 => .object "Campground$SetupReader"
  | _ => .int
abbrev wsX90 : List Cond := u_ws RX9 TX9 8
theorem nmX9 : ∀ a, a < 8 → ∀ b, b < 8 → a ≠ b → (TX9 a).2.1 ≠ (TX9 b).2.1 := by decide +kernel
theorem tyX9_ok : ∀ k, k < 8 → parseFieldDescriptor (TX9 k).2.2.1 = some (tyX9 k) := by decide +kernel
abbrev cX9_init : ByteArray := prog_1_method_1_code
def yX9_init : MethodName := ⟨RX9, "<init>", "()V"⟩
abbrev cX9_addClass : ByteArray := prog_1_method_2_code
def yX9_addClass : MethodName := ⟨RX9, "addClass", "(III)I"⟩
abbrev cX9_addSite : ByteArray := prog_1_method_3_code
def yX9_addSite : MethodName := ⟨RX9, "addSite", "(I)I"⟩
abbrev cX9_addSeason : ByteArray := prog_1_method_4_code
def yX9_addSeason : MethodName := ⟨RX9, "addSeason", "(IIIII)I"⟩
abbrev cX9_classCount : ByteArray := prog_1_method_5_code
def yX9_classCount : MethodName := ⟨RX9, "classCount", "()I"⟩
abbrev cX9_siteCount : ByteArray := prog_1_method_6_code
def yX9_siteCount : MethodName := ⟨RX9, "siteCount", "()I"⟩
abbrev cX9_classOf : ByteArray := prog_1_method_7_code
def yX9_classOf : MethodName := ⟨RX9, "classOf", "(I)I"⟩
abbrev cX9_minimum : ByteArray := prog_1_method_8_code
def yX9_minimum : MethodName := ⟨RX9, "minimum", "(II)I"⟩
abbrev cX9_price : ByteArray := prog_1_method_9_code
def yX9_price : MethodName := ⟨RX9, "price", "(II)I"⟩
abbrev cX9_capacity : ByteArray := prog_1_method_10_code
def yX9_capacity : MethodName := ⟨RX9, "capacity", "(II)I"⟩
abbrev cX9_released : ByteArray := prog_1_method_11_code
def yX9_released : MethodName := ⟨RX9, "released", "(II)I"⟩
abbrev cX9_taken : ByteArray := prog_1_method_12_code
def yX9_taken : MethodName := ⟨RX9, "taken", "(II)I"⟩
abbrev cX9_available : ByteArray := prog_1_method_13_code
def yX9_available : MethodName := ⟨RX9, "available", "(II)I"⟩
abbrev cX9_obstacle : ByteArray := prog_1_method_14_code
def yX9_obstacle : MethodName := ⟨RX9, "obstacle", "(III)I"⟩
abbrev cX9_longestStay : ByteArray := prog_1_method_15_code
def yX9_longestStay : MethodName := ⟨RX9, "longestStay", "(II)I"⟩
abbrev cX9_cheapestArrival : ByteArray := prog_1_method_16_code
def yX9_cheapestArrival : MethodName := ⟨RX9, "cheapestArrival", "(IIII)I"⟩
abbrev cX9_nextGap : ByteArray := prog_1_method_17_code
def yX9_nextGap : MethodName := ⟨RX9, "nextGap", "(II)I"⟩
abbrev cX9_book : ByteArray := prog_1_method_18_code
def yX9_book : MethodName := ⟨RX9, "book", "(III)I"⟩
abbrev cX9_bookingCount : ByteArray := prog_1_method_19_code
def yX9_bookingCount : MethodName := ⟨RX9, "bookingCount", "()I"⟩
abbrev cX9_bookingState : ByteArray := prog_1_method_20_code
def yX9_bookingState : MethodName := ⟨RX9, "bookingState", "(I)I"⟩
abbrev cX9_bookingClass : ByteArray := prog_1_method_21_code
def yX9_bookingClass : MethodName := ⟨RX9, "bookingClass", "(I)I"⟩
abbrev cX9_arrival : ByteArray := prog_1_method_22_code
def yX9_arrival : MethodName := ⟨RX9, "arrival", "(I)I"⟩
abbrev cX9_departure : ByteArray := prog_1_method_23_code
def yX9_departure : MethodName := ⟨RX9, "departure", "(I)I"⟩
abbrev cX9_cost : ByteArray := prog_1_method_24_code
def yX9_cost : MethodName := ⟨RX9, "cost", "(I)I"⟩
abbrev cX9_siteOf : ByteArray := prog_1_method_25_code
def yX9_siteOf : MethodName := ⟨RX9, "siteOf", "(I)I"⟩
abbrev cX9_cancel : ByteArray := prog_1_method_26_code
def yX9_cancel : MethodName := ⟨RX9, "cancel", "(I)I"⟩
abbrev cX9_vacantSite : ByteArray := prog_1_method_27_code
def yX9_vacantSite : MethodName := ⟨RX9, "vacantSite", "(I)I"⟩
abbrev cX9_checkIn : ByteArray := prog_1_method_28_code
def yX9_checkIn : MethodName := ⟨RX9, "checkIn", "(II)I"⟩
abbrev cX9_move : ByteArray := prog_1_method_29_code
def yX9_move : MethodName := ⟨RX9, "move", "(II)I"⟩
abbrev cX9_departEarly : ByteArray := prog_1_method_30_code
def yX9_departEarly : MethodName := ⟨RX9, "departEarly", "(I)I"⟩
abbrev cX9_extend : ByteArray := prog_1_method_31_code
def yX9_extend : MethodName := ⟨RX9, "extend", "(II)I"⟩
abbrev cX9_endDays : ByteArray := prog_1_method_32_code
def yX9_endDays : MethodName := ⟨RX9, "endDays", "(I)I"⟩
abbrev cX9_today : ByteArray := prog_1_method_33_code
def yX9_today : MethodName := ⟨RX9, "today", "()I"⟩
abbrev cX9_close : ByteArray := prog_1_method_34_code
def yX9_close : MethodName := ⟨RX9, "close", "(II)V"⟩
abbrev cX9_open : ByteArray := prog_1_method_35_code
def yX9_open : MethodName := ⟨RX9, "open", "(I)I"⟩
abbrev cX9_request : ByteArray := prog_1_method_36_code
def yX9_request : MethodName := ⟨RX9, "request", "(III)I"⟩
abbrev cX9_requestState : ByteArray := prog_1_method_37_code
def yX9_requestState : MethodName := ⟨RX9, "requestState", "(I)I"⟩
abbrev cX9_bookingOf : ByteArray := prog_1_method_38_code
def yX9_bookingOf : MethodName := ⟨RX9, "bookingOf", "(I)I"⟩
abbrev cX9_withdraw : ByteArray := prog_1_method_39_code
def yX9_withdraw : MethodName := ⟨RX9, "withdraw", "(I)V"⟩
abbrev cX9_fill : ByteArray := prog_1_method_40_code
def yX9_fill : MethodName := ⟨RX9, "fill", "(I)I"⟩
abbrev cX9_planSite : ByteArray := prog_1_method_41_code
def yX9_planSite : MethodName := ⟨RX9, "planSite", "(II)I"⟩
abbrev cX9_gapNights : ByteArray := prog_1_method_42_code
def yX9_gapNights : MethodName := ⟨RX9, "gapNights", "(II)I"⟩
abbrev cX9_orphanNights : ByteArray := prog_1_method_43_code
def yX9_orphanNights : MethodName := ⟨RX9, "orphanNights", "(II)I"⟩
abbrev cX9_occupancyNumerator : ByteArray := prog_1_method_44_code
def yX9_occupancyNumerator : MethodName := ⟨RX9, "occupancyNumerator", "(III)I"⟩
abbrev cX9_occupancyDenominator : ByteArray := prog_1_method_45_code
def yX9_occupancyDenominator : MethodName := ⟨RX9, "occupancyDenominator", "(III)I"⟩
abbrev cX9_expected : ByteArray := prog_1_method_46_code
def yX9_expected : MethodName := ⟨RX9, "expected", "(IIZ)I"⟩
abbrev cX9_dearestBooking : ByteArray := prog_1_method_47_code
def yX9_dearestBooking : MethodName := ⟨RX9, "dearestBooking", "(I)I"⟩
abbrev cX9_busiestNight : ByteArray := prog_1_method_48_code
def yX9_busiestNight : MethodName := ⟨RX9, "busiestNight", "(III)I"⟩
abbrev cX9_revenue : ByteArray := prog_1_method_49_code
def yX9_revenue : MethodName := ⟨RX9, "revenue", "()I"⟩
abbrev cX9_appendText : ByteArray := prog_1_method_50_code
def yX9_appendText : MethodName := ⟨RX9, "appendText", "(I)I"⟩
abbrev cX9_truncateText : ByteArray := prog_1_method_51_code
def yX9_truncateText : MethodName := ⟨RX9, "truncateText", "(I)I"⟩
abbrev cX9_load : ByteArray := prog_1_method_52_code
def yX9_load : MethodName := ⟨RX9, "load", "()I"⟩
abbrev cX9_errorCode : ByteArray := prog_1_method_53_code
def yX9_errorCode : MethodName := ⟨RX9, "errorCode", "()I"⟩
abbrev cX9_errorPosition : ByteArray := prog_1_method_54_code
def yX9_errorPosition : MethodName := ⟨RX9, "errorPosition", "()I"⟩
abbrev cX9_save : ByteArray := prog_1_method_55_code
def yX9_save : MethodName := ⟨RX9, "save", "(I)V"⟩
abbrev cX9_restore : ByteArray := prog_1_method_56_code
def yX9_restore : MethodName := ⟨RX9, "restore", "(I)V"⟩
abbrev cX9_checkClass : ByteArray := prog_1_method_57_code
def yX9_checkClass : MethodName := ⟨RX9, "checkClass", "(I)V"⟩
abbrev cX9_checkSite : ByteArray := prog_1_method_58_code
def yX9_checkSite : MethodName := ⟨RX9, "checkSite", "(I)V"⟩
abbrev cX9_checkBooking : ByteArray := prog_1_method_59_code
def yX9_checkBooking : MethodName := ⟨RX9, "checkBooking", "(I)V"⟩
abbrev cX9_checkRequest : ByteArray := prog_1_method_60_code
def yX9_checkRequest : MethodName := ⟨RX9, "checkRequest", "(I)V"⟩
abbrev cX9_checkSameClass : ByteArray := prog_1_method_61_code
def yX9_checkSameClass : MethodName := ⟨RX9, "checkSameClass", "(II)V"⟩
abbrev cX9_checkNights : ByteArray := prog_1_method_62_code
def yX9_checkNights : MethodName := ⟨RX9, "checkNights", "(II)V"⟩
abbrev cX9_checkRange : ByteArray := prog_1_method_63_code
def yX9_checkRange : MethodName := ⟨RX9, "checkRange", "(III)V"⟩
abbrev cX9_checkState : ByteArray := prog_1_method_64_code
def yX9_checkState : MethodName := ⟨RX9, "checkState", "(Z)V"⟩
abbrev cX9_bestRequest : ByteArray := prog_1_method_65_code
def yX9_bestRequest : MethodName := ⟨RX9, "bestRequest", "(I)I"⟩
abbrev cX9_commonDivisor : ByteArray := prog_1_method_66_code
def yX9_commonDivisor : MethodName := ⟨RX9, "commonDivisor", "(II)I"⟩
abbrev cX9_copyRow : ByteArray := prog_1_method_67_code
def yX9_copyRow : MethodName := ⟨RX9, "copyRow", "([I[I)V"⟩
def RX10 : String := "CampgroundModel"
def TX10 : u_T := fun k => match k with
  | 0 => ("CampgroundModel", "camp", "[I", true)
  | 1 => ("CampgroundModel", "backup", "[I", true)
  | 2 => ("CampgroundModel", "saved", "[I", true)
  | 3 => ("CampgroundModel", "isSaved", "[Z", true)
  | 4 => ("CampgroundModel", "thrown", "I", false)
  | 5 => ("CampgroundModel", "planned", "[I", true)
  | 6 => ("CampgroundModel", "leaving", "[I", true)
  | 7 => ("CampgroundModel", "gapSum", "I", false)
  | 8 => ("CampgroundModel", "orphanSum", "I", false)
  | 9 => ("CampgroundModel", "text", "[I", true)
  | 10 => ("CampgroundModel", "textLength", "I", false)
  | 11 => ("CampgroundModel", "position", "I", false)
  | 12 => ("CampgroundModel", "tokenStart", "I", false)
  | 13 => ("CampgroundModel", "token", "I", false)
  | 14 => ("CampgroundModel", "letters", "I", false)
  | 15 => ("CampgroundModel", "number", "I", false)
  | 16 => ("CampgroundModel", "errorCode", "I", false)
  | 17 => ("CampgroundModel", "errorPosition", "I", false)
  | _ => ("CampgroundModel", "word", "J", false)
def tyX10 : Nat → FieldType := fun k => match k with
  | 0 => .array .int
  | 1 => .array .int
  | 2 => .array .int
  | 3 => .array .boolean
  | 4 => .int
  | 5 => .array .int
  | 6 => .array .int
  | 7 => .int
  | 8 => .int
  | 9 => .array .int
  | 10 => .int
  | 11 => .int
  | 12 => .int
  | 13 => .int
  | 14 => .int
  | 15 => .int
  | 16 => .int
  | 17 => .int
  | _ => .long
abbrev wsX100 : List Cond := u_ws RX10 TX10 19
theorem nmX10 : ∀ a, a < 19 → ∀ b, b < 19 → a ≠ b → (TX10 a).2.1 ≠ (TX10 b).2.1 := by decide +kernel
theorem tyX10_ok : ∀ k, k < 19 → parseFieldDescriptor (TX10 k).2.2.1 = some (tyX10 k) := by decide +kernel
abbrev cX10_init : ByteArray := prog_12_method_1_code
def yX10_init : MethodName := ⟨RX10, "<init>", "()V"⟩
abbrev cX10_thrown : ByteArray := prog_12_method_2_code
def yX10_thrown : MethodName := ⟨RX10, "thrown", "()I"⟩
abbrev cX10_fail : ByteArray := prog_12_method_3_code
def yX10_fail : MethodName := ⟨RX10, "fail", "(I)I"⟩
abbrev cX10_isBetween : ByteArray := prog_12_method_4_code
def yX10_isBetween : MethodName := ⟨RX10, "isBetween", "(III)Z"⟩
abbrev cX10_isClass : ByteArray := prog_12_method_5_code
def yX10_isClass : MethodName := ⟨RX10, "isClass", "(I)Z"⟩
abbrev cX10_isSite : ByteArray := prog_12_method_6_code
def yX10_isSite : MethodName := ⟨RX10, "isSite", "(I)Z"⟩
abbrev cX10_isBooking : ByteArray := prog_12_method_7_code
def yX10_isBooking : MethodName := ⟨RX10, "isBooking", "(I)Z"⟩
abbrev cX10_isRequest : ByteArray := prog_12_method_8_code
def yX10_isRequest : MethodName := ⟨RX10, "isRequest", "(I)Z"⟩
abbrev cX10_isDay : ByteArray := prog_12_method_9_code
def yX10_isDay : MethodName := ⟨RX10, "isDay", "(I)Z"⟩
abbrev cX10_isStay : ByteArray := prog_12_method_10_code
def yX10_isStay : MethodName := ⟨RX10, "isStay", "(I)Z"⟩
abbrev cX10_siteClass : ByteArray := prog_12_method_11_code
def yX10_siteClass : MethodName := ⟨RX10, "siteClass", "(II)I"⟩
abbrev cX10_site : ByteArray := prog_12_method_12_code
def yX10_site : MethodName := ⟨RX10, "site", "(II)I"⟩
abbrev cX10_season : ByteArray := prog_12_method_13_code
def yX10_season : MethodName := ⟨RX10, "season", "(II)I"⟩
abbrev cX10_booking : ByteArray := prog_12_method_14_code
def yX10_booking : MethodName := ⟨RX10, "booking", "(II)I"⟩
abbrev cX10_setBooking : ByteArray := prog_12_method_15_code
def yX10_setBooking : MethodName := ⟨RX10, "setBooking", "(III)V"⟩
abbrev cX10_requestField : ByteArray := prog_12_method_16_code
def yX10_requestField : MethodName := ⟨RX10, "requestField", "(II)I"⟩
abbrev cX10_setRequest : ByteArray := prog_12_method_17_code
def yX10_setRequest : MethodName := ⟨RX10, "setRequest", "(III)V"⟩
abbrev cX10_copy : ByteArray := prog_12_method_18_code
def yX10_copy : MethodName := ⟨RX10, "copy", "([II[II)V"⟩
abbrev cX10_appendClass : ByteArray := prog_12_method_19_code
def yX10_appendClass : MethodName := ⟨RX10, "appendClass", "(III)I"⟩
abbrev cX10_addClass : ByteArray := prog_12_method_20_code
def yX10_addClass : MethodName := ⟨RX10, "addClass", "(III)I"⟩
abbrev cX10_appendSite : ByteArray := prog_12_method_21_code
def yX10_appendSite : MethodName := ⟨RX10, "appendSite", "(I)I"⟩
abbrev cX10_addSite : ByteArray := prog_12_method_22_code
def yX10_addSite : MethodName := ⟨RX10, "addSite", "(I)I"⟩
abbrev cX10_appendSeason : ByteArray := prog_12_method_23_code
def yX10_appendSeason : MethodName := ⟨RX10, "appendSeason", "(IIIII)I"⟩
abbrev cX10_addSeason : ByteArray := prog_12_method_24_code
def yX10_addSeason : MethodName := ⟨RX10, "addSeason", "(IIIII)I"⟩
abbrev cX10_classCount : ByteArray := prog_12_method_25_code
def yX10_classCount : MethodName := ⟨RX10, "classCount", "()I"⟩
abbrev cX10_siteCount : ByteArray := prog_12_method_26_code
def yX10_siteCount : MethodName := ⟨RX10, "siteCount", "()I"⟩
abbrev cX10_classOf : ByteArray := prog_12_method_27_code
def yX10_classOf : MethodName := ⟨RX10, "classOf", "(I)I"⟩
abbrev cX10_seasonOf : ByteArray := prog_12_method_28_code
def yX10_seasonOf : MethodName := ⟨RX10, "seasonOf", "(II)I"⟩
abbrev cX10_minimumOf : ByteArray := prog_12_method_29_code
def yX10_minimumOf : MethodName := ⟨RX10, "minimumOf", "(II)I"⟩
abbrev cX10_priceOf : ByteArray := prog_12_method_30_code
def yX10_priceOf : MethodName := ⟨RX10, "priceOf", "(II)I"⟩
abbrev cX10_pricesOf : ByteArray := prog_12_method_31_code
def yX10_pricesOf : MethodName := ⟨RX10, "pricesOf", "(III)I"⟩
abbrev cX10_minimum : ByteArray := prog_12_method_32_code
def yX10_minimum : MethodName := ⟨RX10, "minimum", "(II)I"⟩
abbrev cX10_price : ByteArray := prog_12_method_33_code
def yX10_price : MethodName := ⟨RX10, "price", "(II)I"⟩
abbrev cX10_isNight : ByteArray := prog_12_method_34_code
def yX10_isNight : MethodName := ⟨RX10, "isNight", "(I)Z"⟩
abbrev cX10_isOpenOn : ByteArray := prog_12_method_35_code
def yX10_isOpenOn : MethodName := ⟨RX10, "isOpenOn", "(II)Z"⟩
abbrev cX10_capacityOf : ByteArray := prog_12_method_36_code
def yX10_capacityOf : MethodName := ⟨RX10, "capacityOf", "(II)I"⟩
abbrev cX10_releasedOf : ByteArray := prog_12_method_37_code
def yX10_releasedOf : MethodName := ⟨RX10, "releasedOf", "(II)I"⟩
abbrev cX10_isActive : ByteArray := prog_12_method_38_code
def yX10_isActive : MethodName := ⟨RX10, "isActive", "(I)Z"⟩
abbrev cX10_takenOf : ByteArray := prog_12_method_39_code
def yX10_takenOf : MethodName := ⟨RX10, "takenOf", "(II)I"⟩
abbrev cX10_availableOf : ByteArray := prog_12_method_40_code
def yX10_availableOf : MethodName := ⟨RX10, "availableOf", "(II)I"⟩
abbrev cX10_capacity : ByteArray := prog_12_method_41_code
def yX10_capacity : MethodName := ⟨RX10, "capacity", "(II)I"⟩
abbrev cX10_released : ByteArray := prog_12_method_42_code
def yX10_released : MethodName := ⟨RX10, "released", "(II)I"⟩
abbrev cX10_taken : ByteArray := prog_12_method_43_code
def yX10_taken : MethodName := ⟨RX10, "taken", "(II)I"⟩
abbrev cX10_available : ByteArray := prog_12_method_44_code
def yX10_available : MethodName := ⟨RX10, "available", "(II)I"⟩
abbrev cX10_nightsObstacle : ByteArray := prog_12_method_45_code
def yX10_nightsObstacle : MethodName := ⟨RX10, "nightsObstacle", "(III)I"⟩
abbrev cX10_obstacleOf : ByteArray := prog_12_method_46_code
def yX10_obstacleOf : MethodName := ⟨RX10, "obstacleOf", "(III)I"⟩
abbrev cX10_obstacle : ByteArray := prog_12_method_47_code
def yX10_obstacle : MethodName := ⟨RX10, "obstacle", "(III)I"⟩
abbrev cX10_longestStay : ByteArray := prog_12_method_48_code
def yX10_longestStay : MethodName := ⟨RX10, "longestStay", "(II)I"⟩
abbrev cX10_cheapestArrival : ByteArray := prog_12_method_49_code
def yX10_cheapestArrival : MethodName := ⟨RX10, "cheapestArrival", "(IIII)I"⟩
abbrev cX10_nextGap : ByteArray := prog_12_method_50_code
def yX10_nextGap : MethodName := ⟨RX10, "nextGap", "(II)I"⟩
abbrev cX10_appendBooking : ByteArray := prog_12_method_51_code
def yX10_appendBooking : MethodName := ⟨RX10, "appendBooking", "(III)I"⟩
abbrev cX10_book : ByteArray := prog_12_method_52_code
def yX10_book : MethodName := ⟨RX10, "book", "(III)I"⟩
abbrev cX10_bookingCount : ByteArray := prog_12_method_53_code
def yX10_bookingCount : MethodName := ⟨RX10, "bookingCount", "()I"⟩
abbrev cX10_bookingField : ByteArray := prog_12_method_54_code
def yX10_bookingField : MethodName := ⟨RX10, "bookingField", "(II)I"⟩
abbrev cX10_bookingState : ByteArray := prog_12_method_55_code
def yX10_bookingState : MethodName := ⟨RX10, "bookingState", "(I)I"⟩
abbrev cX10_bookingClass : ByteArray := prog_12_method_56_code
def yX10_bookingClass : MethodName := ⟨RX10, "bookingClass", "(I)I"⟩
abbrev cX10_arrival : ByteArray := prog_12_method_57_code
def yX10_arrival : MethodName := ⟨RX10, "arrival", "(I)I"⟩
abbrev cX10_departure : ByteArray := prog_12_method_58_code
def yX10_departure : MethodName := ⟨RX10, "departure", "(I)I"⟩
abbrev cX10_cost : ByteArray := prog_12_method_59_code
def yX10_cost : MethodName := ⟨RX10, "cost", "(I)I"⟩
abbrev cX10_siteOf : ByteArray := prog_12_method_60_code
def yX10_siteOf : MethodName := ⟨RX10, "siteOf", "(I)I"⟩
abbrev cX10_cancel : ByteArray := prog_12_method_61_code
def yX10_cancel : MethodName := ⟨RX10, "cancel", "(I)I"⟩
abbrev cX10_isOccupied : ByteArray := prog_12_method_62_code
def yX10_isOccupied : MethodName := ⟨RX10, "isOccupied", "(I)Z"⟩
abbrev cX10_isVacant : ByteArray := prog_12_method_63_code
def yX10_isVacant : MethodName := ⟨RX10, "isVacant", "(I)Z"⟩
abbrev cX10_vacantSiteOf : ByteArray := prog_12_method_64_code
def yX10_vacantSiteOf : MethodName := ⟨RX10, "vacantSiteOf", "(I)I"⟩
abbrev cX10_vacantSite : ByteArray := prog_12_method_65_code
def yX10_vacantSite : MethodName := ⟨RX10, "vacantSite", "(I)I"⟩
abbrev cX10_checkIn : ByteArray := prog_12_method_66_code
def yX10_checkIn : MethodName := ⟨RX10, "checkIn", "(II)I"⟩
abbrev cX10_move : ByteArray := prog_12_method_67_code
def yX10_move : MethodName := ⟨RX10, "move", "(II)I"⟩
abbrev cX10_departEarly : ByteArray := prog_12_method_68_code
def yX10_departEarly : MethodName := ⟨RX10, "departEarly", "(I)I"⟩
abbrev cX10_extend : ByteArray := prog_12_method_69_code
def yX10_extend : MethodName := ⟨RX10, "extend", "(II)I"⟩
abbrev cX10_endDay : ByteArray := prog_12_method_70_code
def yX10_endDay : MethodName := ⟨RX10, "endDay", "()V"⟩
abbrev cX10_endDays : ByteArray := prog_12_method_71_code
def yX10_endDays : MethodName := ⟨RX10, "endDays", "(I)I"⟩
abbrev cX10_today : ByteArray := prog_12_method_72_code
def yX10_today : MethodName := ⟨RX10, "today", "()I"⟩
abbrev cX10_hasSpareSite : ByteArray := prog_12_method_73_code
def yX10_hasSpareSite : MethodName := ⟨RX10, "hasSpareSite", "(II)Z"⟩
abbrev cX10_close : ByteArray := prog_12_method_74_code
def yX10_close : MethodName := ⟨RX10, "close", "(II)V"⟩
abbrev cX10_open : ByteArray := prog_12_method_75_code
def yX10_open : MethodName := ⟨RX10, "open", "(I)I"⟩
abbrev cX10_appendRequest : ByteArray := prog_12_method_76_code
def yX10_appendRequest : MethodName := ⟨RX10, "appendRequest", "(III)I"⟩
abbrev cX10_request : ByteArray := prog_12_method_77_code
def yX10_request : MethodName := ⟨RX10, "request", "(III)I"⟩
abbrev cX10_requestState : ByteArray := prog_12_method_78_code
def yX10_requestState : MethodName := ⟨RX10, "requestState", "(I)I"⟩
abbrev cX10_bookingOf : ByteArray := prog_12_method_79_code
def yX10_bookingOf : MethodName := ⟨RX10, "bookingOf", "(I)I"⟩
abbrev cX10_withdraw : ByteArray := prog_12_method_80_code
def yX10_withdraw : MethodName := ⟨RX10, "withdraw", "(I)V"⟩
abbrev cX10_isAhead : ByteArray := prog_12_method_81_code
def yX10_isAhead : MethodName := ⟨RX10, "isAhead", "(II)Z"⟩
abbrev cX10_nextRequest : ByteArray := prog_12_method_82_code
def yX10_nextRequest : MethodName := ⟨RX10, "nextRequest", "(I)I"⟩
abbrev cX10_fill : ByteArray := prog_12_method_83_code
def yX10_fill : MethodName := ⟨RX10, "fill", "(I)I"⟩
abbrev cX10_place : ByteArray := prog_12_method_84_code
def yX10_place : MethodName := ⟨RX10, "place", "(II)V"⟩
abbrev cX10_freeSite : ByteArray := prog_12_method_85_code
def yX10_freeSite : MethodName := ⟨RX10, "freeSite", "(II)I"⟩
abbrev cX10_nextBooking : ByteArray := prog_12_method_86_code
def yX10_nextBooking : MethodName := ⟨RX10, "nextBooking", "(I)I"⟩
abbrev cX10_plan : ByteArray := prog_12_method_87_code
def yX10_plan : MethodName := ⟨RX10, "plan", "(II)V"⟩
abbrev cX10_planSite : ByteArray := prog_12_method_88_code
def yX10_planSite : MethodName := ⟨RX10, "planSite", "(II)I"⟩
abbrev cX10_wrongPlan : ByteArray := prog_12_method_89_code
def yX10_wrongPlan : MethodName := ⟨RX10, "wrongPlan", "(II)I"⟩
abbrev cX10_gapNights : ByteArray := prog_12_method_90_code
def yX10_gapNights : MethodName := ⟨RX10, "gapNights", "(II)I"⟩
abbrev cX10_orphanNights : ByteArray := prog_12_method_91_code
def yX10_orphanNights : MethodName := ⟨RX10, "orphanNights", "(II)I"⟩
abbrev cX10_commonDivisor : ByteArray := prog_12_method_92_code
def yX10_commonDivisor : MethodName := ⟨RX10, "commonDivisor", "(II)I"⟩
abbrev cX10_occupancy : ByteArray := prog_12_method_93_code
def yX10_occupancy : MethodName := ⟨RX10, "occupancy", "(IIIZ)I"⟩
abbrev cX10_occupancyNumerator : ByteArray := prog_12_method_94_code
def yX10_occupancyNumerator : MethodName := ⟨RX10, "occupancyNumerator", "(III)I"⟩
abbrev cX10_occupancyDenominator : ByteArray := prog_12_method_95_code
def yX10_occupancyDenominator : MethodName := ⟨RX10, "occupancyDenominator", "(III)I"⟩
abbrev cX10_expected : ByteArray := prog_12_method_96_code
def yX10_expected : MethodName := ⟨RX10, "expected", "(IIZ)I"⟩
abbrev cX10_nightsOf : ByteArray := prog_12_method_97_code
def yX10_nightsOf : MethodName := ⟨RX10, "nightsOf", "(I)J"⟩
abbrev cX10_dearestBooking : ByteArray := prog_12_method_98_code
def yX10_dearestBooking : MethodName := ⟨RX10, "dearestBooking", "(I)I"⟩
abbrev cX10_busiestNight : ByteArray := prog_12_method_99_code
def yX10_busiestNight : MethodName := ⟨RX10, "busiestNight", "(III)I"⟩
abbrev cX10_revenue : ByteArray := prog_12_method_100_code
def yX10_revenue : MethodName := ⟨RX10, "revenue", "()I"⟩
abbrev cX10_appendText : ByteArray := prog_12_method_101_code
def yX10_appendText : MethodName := ⟨RX10, "appendText", "(I)I"⟩
abbrev cX10_truncateText : ByteArray := prog_12_method_102_code
def yX10_truncateText : MethodName := ⟨RX10, "truncateText", "(I)I"⟩
abbrev cX10_byteAt : ByteArray := prog_12_method_103_code
def yX10_byteAt : MethodName := ⟨RX10, "byteAt", "(I)I"⟩
abbrev cX10_isLetter : ByteArray := prog_12_method_104_code
def yX10_isLetter : MethodName := ⟨RX10, "isLetter", "(I)Z"⟩
abbrev cX10_isDigit : ByteArray := prog_12_method_105_code
def yX10_isDigit : MethodName := ⟨RX10, "isDigit", "(I)Z"⟩
abbrev cX10_nextToken : ByteArray := prog_12_method_106_code
def yX10_nextToken : MethodName := ⟨RX10, "nextToken", "()V"⟩
abbrev cX10_isWord : ByteArray := prog_12_method_107_code
def yX10_isWord : MethodName := ⟨RX10, "isWord", "(Ljava/lang/String;)Z"⟩
abbrev cX10_require : ByteArray := prog_12_method_108_code
def yX10_require : MethodName := ⟨RX10, "require", "(ZI)V"⟩
abbrev cX10_advanceToken : ByteArray := prog_12_method_109_code
def yX10_advanceToken : MethodName := ⟨RX10, "advanceToken", "()V"⟩
abbrev cX10_parseNumber : ByteArray := prog_12_method_110_code
def yX10_parseNumber : MethodName := ⟨RX10, "parseNumber", "(II)I"⟩
abbrev cX10_parseClass : ByteArray := prog_12_method_111_code
def yX10_parseClass : MethodName := ⟨RX10, "parseClass", "()V"⟩
abbrev cX10_parseSites : ByteArray := prog_12_method_112_code
def yX10_parseSites : MethodName := ⟨RX10, "parseSites", "()V"⟩
abbrev cX10_parseSeason : ByteArray := prog_12_method_113_code
def yX10_parseSeason : MethodName := ⟨RX10, "parseSeason", "()V"⟩
abbrev cX10_parseStatement : ByteArray := prog_12_method_114_code
def yX10_parseStatement : MethodName := ⟨RX10, "parseStatement", "()V"⟩
abbrev cX10_load : ByteArray := prog_12_method_115_code
def yX10_load : MethodName := ⟨RX10, "load", "()I"⟩
abbrev cX10_errorCode : ByteArray := prog_12_method_116_code
def yX10_errorCode : MethodName := ⟨RX10, "errorCode", "()I"⟩
abbrev cX10_errorPosition : ByteArray := prog_12_method_117_code
def yX10_errorPosition : MethodName := ⟨RX10, "errorPosition", "()I"⟩
abbrev cX10_save : ByteArray := prog_12_method_118_code
def yX10_save : MethodName := ⟨RX10, "save", "(I)V"⟩
abbrev cX10_restore : ByteArray := prog_12_method_119_code
def yX10_restore : MethodName := ⟨RX10, "restore", "(I)V"⟩
def RJx145de : String := "java/io/Serializable"
def TJx145de : u_T := fun k => match k with
  | _ => ("", "", "", false)
def tyJx145de : Nat → FieldType := fun k => match k with
  | _ => .int
abbrev wsJx145de0 : List Cond := u_ws RJx145de TJx145de 0
theorem nmJx145de : ∀ a, a < 0 → ∀ b, b < 0 → a ≠ b → (TJx145de a).2.1 ≠ (TJx145de b).2.1 := by decide +kernel
theorem tyJx145de_ok : ∀ k, k < 0 → parseFieldDescriptor (TJx145de k).2.2.1 = some (tyJx145de k) := by decide +kernel
def RJx9f9b0 : String := "java/lang/CharSequence"
def TJx9f9b0 : u_T := fun k => match k with
  | _ => ("", "", "", false)
def tyJx9f9b0 : Nat → FieldType := fun k => match k with
  | _ => .int
abbrev wsJx9f9b00 : List Cond := u_ws RJx9f9b0 TJx9f9b0 0
theorem nmJx9f9b0 : ∀ a, a < 0 → ∀ b, b < 0 → a ≠ b → (TJx9f9b0 a).2.1 ≠ (TJx9f9b0 b).2.1 := by decide +kernel
theorem tyJx9f9b0_ok : ∀ k, k < 0 → parseFieldDescriptor (TJx9f9b0 k).2.2.1 = some (tyJx9f9b0 k) := by decide +kernel
def RJxb160c : String := "java/lang/Comparable"
def TJxb160c : u_T := fun k => match k with
  | _ => ("", "", "", false)
def tyJxb160c : Nat → FieldType := fun k => match k with
  | _ => .int
abbrev wsJxb160c0 : List Cond := u_ws RJxb160c TJxb160c 0
theorem nmJxb160c : ∀ a, a < 0 → ∀ b, b < 0 → a ≠ b → (TJxb160c a).2.1 ≠ (TJxb160c b).2.1 := by decide +kernel
theorem tyJxb160c_ok : ∀ k, k < 0 → parseFieldDescriptor (TJxb160c k).2.2.1 = some (tyJxb160c k) := by decide +kernel
def RJ9 : String := "java/lang/Math"
def TJ9 : u_T := fun k => match k with
  | _ => ("", "", "", false)
def tyJ9 : Nat → FieldType := fun k => match k with
  | _ => .int
abbrev wsJ90 : List Cond := u_ws RJ9 TJ9 0
theorem nmJ9 : ∀ a, a < 0 → ∀ b, b < 0 → a ≠ b → (TJ9 a).2.1 ≠ (TJ9 b).2.1 := by decide +kernel
theorem tyJ9_ok : ∀ k, k < 0 → parseFieldDescriptor (TJ9 k).2.2.1 = some (tyJ9 k) := by decide +kernel
abbrev cJ9_max_7cf53 : ByteArray := prog_17_method_65_code
def yJ9_max_7cf53 : MethodName := ⟨RJ9, "max", "(II)I"⟩
abbrev cJ9_min_7cf53 : ByteArray := prog_17_method_69_code
def yJ9_min_7cf53 : MethodName := ⟨RJ9, "min", "(II)I"⟩
def RJ0 : String := "java/lang/String"
def TJ0 : u_T := fun k => match k with
  | _ => ("", "", "", false)
def tyJ0 : Nat → FieldType := fun k => match k with
  | _ => .int
abbrev wsJ00 : List Cond := u_ws RJ0 TJ0 0
theorem nmJ0 : ∀ a, a < 0 → ∀ b, b < 0 → a ≠ b → (TJ0 a).2.1 ≠ (TJ0 b).2.1 := by decide +kernel
theorem tyJ0_ok : ∀ k, k < 0 → parseFieldDescriptor (TJ0 k).2.2.1 = some (tyJ0 k) := by decide +kernel
abbrev cJ0_length_8abf5 : ByteArray := prog_19_method_54_code
def yJ0_length_8abf5 : MethodName := ⟨RJ0, "length", "()I"⟩
abbrev cJ0_charAt_5068e : ByteArray := prog_19_method_56_code
def yJ0_charAt_5068e : MethodName := ⟨RJ0, "charAt", "(I)C"⟩
abbrev cJ0_coder_7d493 : ByteArray := prog_19_method_152_code
def yJ0_coder_7d493 : MethodName := ⟨RJ0, "coder", "()B"⟩
abbrev cJ0_isLatin1_aae02 : ByteArray := prog_19_method_154_code
def yJ0_isLatin1_aae02 : MethodName := ⟨RJ0, "isLatin1", "()Z"⟩
abbrev cJ0_checkIndex_df160 : ByteArray := prog_19_method_155_code
def yJ0_checkIndex_df160 : MethodName := ⟨RJ0, "checkIndex", "(II)V"⟩
def RJ1 : String := "java/lang/StringLatin1"
def TJ1 : u_T := fun k => match k with
  | _ => ("", "", "", false)
def tyJ1 : Nat → FieldType := fun k => match k with
  | _ => .int
abbrev wsJ10 : List Cond := u_ws RJ1 TJ1 0
theorem nmJ1 : ∀ a, a < 0 → ∀ b, b < 0 → a ≠ b → (TJ1 a).2.1 ≠ (TJ1 b).2.1 := by decide +kernel
theorem tyJ1_ok : ∀ k, k < 0 → parseFieldDescriptor (TJ1 k).2.2.1 = some (tyJ1 k) := by decide +kernel
abbrev cJ1_charAt_3b067 : ByteArray := prog_20_method_2_code
def yJ1_charAt_3b067 : MethodName := ⟨RJ1, "charAt", "([BI)C"⟩
def RJ2 : String := "java/lang/StringUTF16"
def TJ2 : u_T := fun k => match k with
  | _ => ("", "", "", false)
def tyJ2 : Nat → FieldType := fun k => match k with
  | _ => .int
abbrev wsJ20 : List Cond := u_ws RJ2 TJ2 0
theorem nmJ2 : ∀ a, a < 0 → ∀ b, b < 0 → a ≠ b → (TJ2 a).2.1 ≠ (TJ2 b).2.1 := by decide +kernel
theorem tyJ2_ok : ∀ k, k < 0 → parseFieldDescriptor (TJ2 k).2.2.1 = some (tyJ2 k) := by decide +kernel
abbrev cJ2_getChar_3b067 : ByteArray := prog_21_method_5_code
def yJ2_getChar_3b067 : MethodName := ⟨RJ2, "getChar", "([BI)C"⟩
abbrev cJ2_length_9d52b : ByteArray := prog_21_method_6_code
def yJ2_length_9d52b : MethodName := ⟨RJ2, "length", "([B)I"⟩
abbrev cJ2_charAt_3b067 : ByteArray := prog_21_method_83_code
def yJ2_charAt_3b067 : MethodName := ⟨RJ2, "charAt", "([BI)C"⟩
abbrev cJ2_checkIndex_2214a : ByteArray := prog_21_method_91_code
def yJ2_checkIndex_2214a : MethodName := ⟨RJ2, "checkIndex", "(I[B)V"⟩
def RJ10 : String := "java/lang/System"
def TJ10 : u_T := fun k => match k with
  | _ => ("", "", "", false)
def tyJ10 : Nat → FieldType := fun k => match k with
  | _ => .int
abbrev wsJ100 : List Cond := u_ws RJ10 TJ10 0
theorem nmJ10 : ∀ a, a < 0 → ∀ b, b < 0 → a ≠ b → (TJ10 a).2.1 ≠ (TJ10 b).2.1 := by decide +kernel
theorem tyJ10_ok : ∀ k, k < 0 → parseFieldDescriptor (TJ10 k).2.2.1 = some (tyJ10 k) := by decide +kernel
def RJxfd54e : String := "java/lang/constant/Constable"
def TJxfd54e : u_T := fun k => match k with
  | _ => ("", "", "", false)
def tyJxfd54e : Nat → FieldType := fun k => match k with
  | _ => .int
abbrev wsJxfd54e0 : List Cond := u_ws RJxfd54e TJxfd54e 0
theorem nmJxfd54e : ∀ a, a < 0 → ∀ b, b < 0 → a ≠ b → (TJxfd54e a).2.1 ≠ (TJxfd54e b).2.1 := by decide +kernel
theorem tyJxfd54e_ok : ∀ k, k < 0 → parseFieldDescriptor (TJxfd54e k).2.2.1 = some (tyJxfd54e k) := by decide +kernel
def RJx3cf43 : String := "java/lang/constant/ConstantDesc"
def TJx3cf43 : u_T := fun k => match k with
  | _ => ("", "", "", false)
def tyJx3cf43 : Nat → FieldType := fun k => match k with
  | _ => .int
abbrev wsJx3cf430 : List Cond := u_ws RJx3cf43 TJx3cf43 0
theorem nmJx3cf43 : ∀ a, a < 0 → ∀ b, b < 0 → a ≠ b → (TJx3cf43 a).2.1 ≠ (TJx3cf43 b).2.1 := by decide +kernel
theorem tyJx3cf43_ok : ∀ k, k < 0 → parseFieldDescriptor (TJx3cf43 k).2.2.1 = some (tyJx3cf43 k) := by decide +kernel
def RJ7 : String := "java/util/Arrays"
def TJ7 : u_T := fun k => match k with
  | _ => ("", "", "", false)
def tyJ7 : Nat → FieldType := fun k => match k with
  | _ => .int
abbrev wsJ70 : List Cond := u_ws RJ7 TJ7 0
theorem nmJ7 : ∀ a, a < 0 → ∀ b, b < 0 → a ≠ b → (TJ7 a).2.1 ≠ (TJ7 b).2.1 := by decide +kernel
theorem tyJ7_ok : ∀ k, k < 0 → parseFieldDescriptor (TJ7 k).2.2.1 = some (tyJ7 k) := by decide +kernel
abbrev cJ7_fill_53178 : ByteArray := prog_24_method_103_code
def yJ7_fill_53178 : MethodName := ⟨RJ7, "fill", "([II)V"⟩
def RJ3 : String := "jdk/internal/util/Preconditions"
def TJ3 : u_T := fun k => match k with
  | _ => ("", "", "", false)
def tyJ3 : Nat → FieldType := fun k => match k with
  | _ => .int
abbrev wsJ30 : List Cond := u_ws RJ3 TJ3 0
theorem nmJ3 : ∀ a, a < 0 → ∀ b, b < 0 → a ≠ b → (TJ3 a).2.1 ≠ (TJ3 b).2.1 := by decide +kernel
theorem tyJ3_ok : ∀ k, k < 0 → parseFieldDescriptor (TJ3 k).2.2.1 = some (tyJ3 k) := by decide +kernel
abbrev cJ3_checkIndex_8e157 : ByteArray := prog_25_method_11_code
def yJ3_checkIndex_8e157 : MethodName := ⟨RJ3, "checkIndex", "(IILjava/util/function/BiFunction;)I"⟩
def RL : String := "CampgroundLaw"
abbrev cL_addClass : ByteArray := method_3_code
def yL_addClass : MethodName := ⟨RL, "addClass", "(LCampground;III[J)I"⟩
abbrev cL_addSite : ByteArray := method_4_code
def yL_addSite : MethodName := ⟨RL, "addSite", "(LCampground;I[J)I"⟩
abbrev cL_addSeason : ByteArray := method_5_code
def yL_addSeason : MethodName := ⟨RL, "addSeason", "(LCampground;IIIII[J)I"⟩
abbrev cL_classOf : ByteArray := method_6_code
def yL_classOf : MethodName := ⟨RL, "classOf", "(LCampground;I[J)I"⟩
abbrev cL_minimum : ByteArray := method_7_code
def yL_minimum : MethodName := ⟨RL, "minimum", "(LCampground;II[J)I"⟩
abbrev cL_price : ByteArray := method_8_code
def yL_price : MethodName := ⟨RL, "price", "(LCampground;II[J)I"⟩
abbrev cL_capacity : ByteArray := method_9_code
def yL_capacity : MethodName := ⟨RL, "capacity", "(LCampground;II[J)I"⟩
abbrev cL_released : ByteArray := method_10_code
def yL_released : MethodName := ⟨RL, "released", "(LCampground;II[J)I"⟩
abbrev cL_taken : ByteArray := method_11_code
def yL_taken : MethodName := ⟨RL, "taken", "(LCampground;II[J)I"⟩
abbrev cL_available : ByteArray := method_12_code
def yL_available : MethodName := ⟨RL, "available", "(LCampground;II[J)I"⟩
abbrev cL_obstacle : ByteArray := method_13_code
def yL_obstacle : MethodName := ⟨RL, "obstacle", "(LCampground;III[J)I"⟩
abbrev cL_longestStay : ByteArray := method_14_code
def yL_longestStay : MethodName := ⟨RL, "longestStay", "(LCampground;II[J)I"⟩
abbrev cL_cheapestArrival : ByteArray := method_15_code
def yL_cheapestArrival : MethodName := ⟨RL, "cheapestArrival", "(LCampground;IIII[J)I"⟩
abbrev cL_nextGap : ByteArray := method_16_code
def yL_nextGap : MethodName := ⟨RL, "nextGap", "(LCampground;II[J)I"⟩
abbrev cL_book : ByteArray := method_17_code
def yL_book : MethodName := ⟨RL, "book", "(LCampground;III[J)I"⟩
abbrev cL_bookingState : ByteArray := method_18_code
def yL_bookingState : MethodName := ⟨RL, "bookingState", "(LCampground;I[J)I"⟩
abbrev cL_bookingClass : ByteArray := method_19_code
def yL_bookingClass : MethodName := ⟨RL, "bookingClass", "(LCampground;I[J)I"⟩
abbrev cL_arrival : ByteArray := method_20_code
def yL_arrival : MethodName := ⟨RL, "arrival", "(LCampground;I[J)I"⟩
abbrev cL_departure : ByteArray := method_21_code
def yL_departure : MethodName := ⟨RL, "departure", "(LCampground;I[J)I"⟩
abbrev cL_cost : ByteArray := method_22_code
def yL_cost : MethodName := ⟨RL, "cost", "(LCampground;I[J)I"⟩
abbrev cL_siteOf : ByteArray := method_23_code
def yL_siteOf : MethodName := ⟨RL, "siteOf", "(LCampground;I[J)I"⟩
abbrev cL_cancel : ByteArray := method_24_code
def yL_cancel : MethodName := ⟨RL, "cancel", "(LCampground;I[J)I"⟩
abbrev cL_vacantSite : ByteArray := method_25_code
def yL_vacantSite : MethodName := ⟨RL, "vacantSite", "(LCampground;I[J)I"⟩
abbrev cL_checkIn : ByteArray := method_26_code
def yL_checkIn : MethodName := ⟨RL, "checkIn", "(LCampground;II[J)I"⟩
abbrev cL_move : ByteArray := method_27_code
def yL_move : MethodName := ⟨RL, "move", "(LCampground;II[J)I"⟩
abbrev cL_departEarly : ByteArray := method_28_code
def yL_departEarly : MethodName := ⟨RL, "departEarly", "(LCampground;I[J)I"⟩
abbrev cL_extend : ByteArray := method_29_code
def yL_extend : MethodName := ⟨RL, "extend", "(LCampground;II[J)I"⟩
abbrev cL_endDays : ByteArray := method_30_code
def yL_endDays : MethodName := ⟨RL, "endDays", "(LCampground;I[J)I"⟩
abbrev cL_close : ByteArray := method_31_code
def yL_close : MethodName := ⟨RL, "close", "(LCampground;II)I"⟩
abbrev cL_open : ByteArray := method_32_code
def yL_open : MethodName := ⟨RL, "open", "(LCampground;I[J)I"⟩
abbrev cL_request : ByteArray := method_33_code
def yL_request : MethodName := ⟨RL, "request", "(LCampground;III[J)I"⟩
abbrev cL_requestState : ByteArray := method_34_code
def yL_requestState : MethodName := ⟨RL, "requestState", "(LCampground;I[J)I"⟩
abbrev cL_bookingOf : ByteArray := method_35_code
def yL_bookingOf : MethodName := ⟨RL, "bookingOf", "(LCampground;I[J)I"⟩
abbrev cL_withdraw : ByteArray := method_36_code
def yL_withdraw : MethodName := ⟨RL, "withdraw", "(LCampground;I)I"⟩
abbrev cL_fill : ByteArray := method_37_code
def yL_fill : MethodName := ⟨RL, "fill", "(LCampground;I[J)I"⟩
abbrev cL_planSite : ByteArray := method_38_code
def yL_planSite : MethodName := ⟨RL, "planSite", "(LCampground;II[J)I"⟩
abbrev cL_gapNights : ByteArray := method_39_code
def yL_gapNights : MethodName := ⟨RL, "gapNights", "(LCampground;II[J)I"⟩
abbrev cL_orphanNights : ByteArray := method_40_code
def yL_orphanNights : MethodName := ⟨RL, "orphanNights", "(LCampground;II[J)I"⟩
abbrev cL_occupancyNumerator : ByteArray := method_41_code
def yL_occupancyNumerator : MethodName := ⟨RL, "occupancyNumerator", "(LCampground;III[J)I"⟩
abbrev cL_occupancyDenominator : ByteArray := method_42_code
def yL_occupancyDenominator : MethodName := ⟨RL, "occupancyDenominator", "(LCampground;III[J)I"⟩
abbrev cL_expected : ByteArray := method_43_code
def yL_expected : MethodName := ⟨RL, "expected", "(LCampground;IIZ[J)I"⟩
abbrev cL_dearestBooking : ByteArray := method_44_code
def yL_dearestBooking : MethodName := ⟨RL, "dearestBooking", "(LCampground;I[J)I"⟩
abbrev cL_busiestNight : ByteArray := method_45_code
def yL_busiestNight : MethodName := ⟨RL, "busiestNight", "(LCampground;III[J)I"⟩
abbrev cL_appendText : ByteArray := method_46_code
def yL_appendText : MethodName := ⟨RL, "appendText", "(LCampground;I[J)I"⟩
abbrev cL_truncateText : ByteArray := method_47_code
def yL_truncateText : MethodName := ⟨RL, "truncateText", "(LCampground;I[J)I"⟩
abbrev cL_save : ByteArray := method_48_code
def yL_save : MethodName := ⟨RL, "save", "(LCampground;I)I"⟩
abbrev cL_restore : ByteArray := method_49_code
def yL_restore : MethodName := ⟨RL, "restore", "(LCampground;I)I"⟩
abbrev cL_law : ByteArray := code
def yL_law : MethodName := ⟨RL, "law", "([I)Z"⟩
abbrev vwCl : List vw_C := [(RX0, TX0, 7), (RX1, TX1, 6), (RX2, TX2, 4), (RX3, TX3, 5), (RX4, TX4, 6), (RX5, TX5, 6), (RX6, TX6, 9), (RX7, TX7, 3), (RX8, TX8, 3), (RX9, TX9, 8), (RX10, TX10, 19)]
end
section
/-! ===== THE ABSTRACT LAYER: a heap of numbered entries over the machine's heap; one judgement AW a place in a method's code ===== -/
/-- entries: an array (its kind, its length, its contents), an object (its class's place, its fields); references are numbers of entries -/
abbrev AE : Type := (Nat × vp_A) ⊕ (Nat × List Value)
def cv (ad : Nat → Nat) (v : Value) : Value := match v with
  | .ref i => .ref (ad i)
  | w => w
def cvA (ad : Nat → Nat) (a : vp_A) : vp_A := match a with
  | (n, .inr (.inr (.inr (.inr f)))) => (n, .inr (.inr (.inr (.inr (fun j => (f j).map ad)))))
  | x => x
def cE (ad : Nat → Nat) (kc : Nat → ClassId) (e : AE) : va_E := match e with
  | .inl (k, a) => .inl (kc k, cvA ad a)
  | .inr (ci, fs) => .inr (ci, fs.map (cv ad))
def cW (ad : Nat → Nat) (kc : Nat → ClassId) (h : Nat → AE) (n : Nat) : va_W := (List.range n).map (fun i => (ad i, cE ad kc (h i)))
def hset (h : Nat → AE) (i : Nat) (e : AE) : Nat → AE := fun j => if j = i then e else h j
theorem cW_get {ad : Nat → Nat} {kc : Nat → ClassId} {h : Nat → AE} {n i : Nat} (hi : i < n) : (cW ad kc h n)[i]? = some (ad i, cE ad kc (h i)) := by
  simp [cW, hi]
theorem cW_getE {ad : Nat → Nat} {kc : Nat → ClassId} {h : Nat → AE} {n i : Nat} {e : AE} {e' : va_E} (hi : i < n) (he : h i = e) (hc : cE ad kc e = e') : (cW ad kc h n)[i]? = some (ad i, e') := by
  rw [cW_get hi, he, hc]
theorem cW_mem {ad : Nat → Nat} {kc : Nat → ClassId} {h : Nat → AE} {n k : Nat} {q : Nat × va_E} (hq : (cW ad kc h n)[k]? = some q) : k < n ∧ q = (ad k, cE ad kc (h k)) := by
  have hk : k < n := by
    have h1 := (List.getElem?_eq_some_iff.mp hq).1
    simpa [cW] using h1
  rw [cW_get hk] at hq
  exact ⟨hk, (Option.some.inj hq).symm⟩
theorem cW_set {ad : Nat → Nat} {kc : Nat → ClassId} {h : Nat → AE} {n i : Nat} {e : AE} (hi : i < n) : (cW ad kc h n).set i (ad i, cE ad kc e) = cW ad kc (hset h i e) n := by
  apply List.ext_getElem?
  intro j
  rw [List.getElem?_set]
  by_cases hj : i = j
  · subst hj
    rw [if_pos rfl, cW_get hi]
    have hl : i < (cW ad kc h n).length := by simpa [cW] using hi
    rw [if_pos hl]
    simp [hset]
  · rw [if_neg hj]
    by_cases hn : j < n
    · rw [cW_get hn, cW_get hn]
      simp [hset, Ne.symm hj]
    · have h1 : (cW ad kc h n)[j]? = none := by simp [cW]; omega
      have h2 : (cW ad kc (hset h i e) n)[j]? = none := by simp [cW]; omega
      rw [h1, h2]
theorem cW_congr {ad : Nat → Nat} {kc : Nat → ClassId} {h h' : Nat → AE} {n : Nat} (e : ∀ i, i < n → h i = h' i) : cW ad kc h n = cW ad kc h' n := by
  apply List.map_congr_left
  intro i hi
  rw [e i (List.mem_range.mp hi)]
/-- the words of the tables that hold at every later state too -/
def pw : Cond → Bool
  | .fieldLinkNest .. => true
  | .methodLinkNest .. => true
  | .castable .. => true
  | .declares _ => true
  | w => goodWord w
def GW : List Cond := lw_tbl.filter pw
theorem gw_at {w : Cond} (i : Nat) (hm : lw_tbl[i]? = some w) (hp : pw w = true) : w ∈ GW := List.mem_filter.mpr ⟨List.mem_of_getElem? hm, hp⟩
theorem gw_in {w : Cond} (hm : w ∈ lw_tbl) (hp : pw w = true) : w ∈ GW := List.mem_filter.mpr ⟨hm, hp⟩
theorem gw_lays {C : String} {T : u_T} {N : Nat} (hin : ∀ w ∈ u_ws C T N, w ∈ lw_tbl) : ∀ w ∈ u_ws C T N, w ∈ GW := by
  intro w hw
  refine gw_in (hin w hw) ?_
  obtain ⟨k, -, rfl⟩ := List.mem_map.mp hw
  unfold u_lay
  split <;> rfl
theorem pw_warm {w : Cond} (hp : pw w = true) {a a' : Array Value} {s U : State} (hW : s.WarmedH U.vm) (h : w.before a s = true) : w.before a' U = true := by
  cases w with
  | fieldLinkNest a1 i b n d h1 => exact va_Nw.use rfl (va_Nw.warmF hW (va_Nw.of rfl h))
  | methodLinkNest a1 i x h1 => exact va_Nw.use rfl (va_Nw.warmM hW (va_Nw.of rfl h))
  | castable C T => exact va_Nw.use rfl (va_Nw.warmC hW (va_Nw.of rfl h))
  | declares x => exact va_Nw.use rfl (va_Nw.warmD hW (va_Nw.of rfl h))
  | _ => exact word_at hW (good_of_word hp) h
/-- the array kinds -/
def tysOf (kc : Nat → ClassId) : List (ClassId × FieldType) := [(kc 0, .int), (kc 1, .byte), (kc 2, .long), (kc 3, .boolean), (kc 4, .object "Campground$Camp")]
/-- the constants of the exceptions' texts -/
def STX : List (String × Nat × String) := [("Campground", 71, "there are 4 classes"), ("Campground", 91, "there are 16 sites"), ("Campground", 103, "there are 12 seasons"), ("Campground", 159, "an obstacle, or 60 bookings"), ("Campground", 213, "there is no day after 999"), ("Campground", 235, "there are 20 requests"), ("Campground", 282, "the text would be longer than 500 bytes"), ("Campground", 296, "nothing is saved there"), ("Campground", 300, "no such class"), ("Campground", 303, "no such site"), ("Campground", 305, "no such booking"), ("Campground", 307, "no such request"), ("Campground", 311, "the site has another class"), ("Campground", 314, "out of range"), ("Campground", 316, "not possible in this state")]
/-- the constants that texts are compared with: class, entry, text, which of the four -/
def STW : List (String × Nat × String × Nat) := [("Campground$SetupReader", 59, "class", 0), ("Campground$SetupReader", 71, "site", 1), ("Campground$SetupReader", 76, "season", 2), ("Campground$SetupReader", 81, "day", 3), ("CampgroundModel", 274, "class", 0), ("CampgroundModel", 283, "site", 1), ("CampgroundModel", 287, "season", 2), ("CampgroundModel", 291, "day", 3)]
def SBY : List (List Int32) := [[99, 108, 97, 115, 115], [115, 105, 116, 101], [115, 101, 97, 115, 111, 110], [100, 97, 121]]
/-- what holds all the way through, of what lies outside the entries -/
def EV (sa : Nat → Nat) (A : Nat → Prop) (U : State) (H : Heap) : Prop :=
  (∀ w ∈ GW, w.before #[] U = true) ∧ vx_Zq Bundle.tN "UNASSIGNED_STACK" Bundle.steD A U H ∧ vx_Zq Bundle.tN "SUPPRESSED_SENTINEL" Bundle.listD A U H ∧
  (∀ q ∈ STX, ∃ a, vk_R q.1 q.2.1 q.2.2 a U) ∧ (∀ q ∈ STW, vk_R q.1 q.2.1 q.2.2.1 (sa q.2.2.2) U) ∧
  vk_S 4 [5, 4, 6, 3] SBY sa (fun k => sa (10 + k)) A U H ∧ va_Z "java/lang/String" "COMPACT_STRINGS" "Z" (.int 1) A U H
theorem EV.step {sa : Nat → Nat} {A A' : Nat → Prop} {s U : State} {H : Heap} {locs : List Loc} (h : EV sa A s s.heap) (hS : va_S A s.heap H locs) (hU : U.heap = H) (hW : s.WarmedH U.vm) (hA : ∀ q, A' q → A q) : EV sa A' U U.heap := by
  obtain ⟨h1, h2, h3, h4, h5, h6, h7⟩ := h
  have hk : ∀ a : Nat, a < s.heap.size → ¬ A a → U.heap[a]? = s.heap[a]? := fun a h8 h9 => by rw [hU]; exact hS.2.1 a h8 h9
  refine ⟨fun w hw => pw_warm (List.mem_filter.mp hw).2 hW (h1 w hw), ((h2.kept hk).moved hW.alike).narrow hA, ((h3.kept hk).moved hW.alike).narrow hA, fun q hq => ?_, fun q hq => (h5 q hq).warm hW, ((h6.kept hk).moved hW.alike).narrow hA, ((h7.kept hk).moved hW.alike).narrow hA⟩
  obtain ⟨a, ha⟩ := h4 q hq
  exact ⟨a, ha.warm hW⟩
theorem EV.call {sa : Nat → Nat} {A : Nat → Prop} {U : State} {g : JFrame} {mk : MethodId} {a : Array Value} (h : EV sa A U U.heap) : EV sa A (U.calling g mk a) (U.calling g mk a).heap := by
  have hW : U.WarmedH (U.calling g mk a).vm := State.WarmedH.refl U
  exact EV.step (locs := []) h va_S.rf rfl hW (fun _ h => h)
/-- a method's fixed things: its class, its code, its locals, what it returns, its room, whether it makes an object -/
abbrev ATy : Type := String × ByteArray × Nat × Option FieldType × Room × Bool
/-- how a method ends: an answer or the name of what it throws; the entries then, how many -/
abbrev APost : Type := (Option Value ⊕ String) → (Nat → AE) → Nat → Prop
abbrev AQ : Type := List Frame → Array Value → State → (Nat → ClassId) → va_G → ((Nat → Nat) × Nat) → (Nat → Prop) → State → Prop
def FX (T : ATy) (p : Program) (l : Launch) (s : State) (m : MethodId) (args : Array Value) (meth : Method) (c : Code) (z : (Nat → Nat) × Nat) (A : Nat → Prop) : Prop :=
  p.tables.exec = Jvm.exec ∧ c.code = T.2.1 ∧ c.maxLocals = T.2.2.1 ∧ s.vm.findClass T.1 = some m.cls ∧ (∀ w ∈ GW, w.before args s = true) ∧ meth.locks = false ∧ meth.sig.returnType = T.2.2.2.1 ∧ l.stackTraces = false ∧ (∀ q, s.heap.size ≤ q → A q) ∧ EV (fun k => z.1 (900000 + k)) A s s.heap ∧ (T.2.2.2.2.2 = true → meth.name = "<init>")
def lvh (ls : Array Slot) (nL : Nat) (ad : Nat → Nat) (lo : List (Option Value)) : Prop := ls.size = nL ∧ lv_wf ls ∧ ∀ (i : Nat) (v : Value), lo[i]? = some (some v) → ls[i]? = some (.val (cv ad v))
def DY (T : ATy) (s : State) (H : Heap) (locs : List Loc) (ls : Array Slot) (ad : Nat → Nat) (kc : Nat → ClassId) (D : va_G) (z : (Nat → Nat) × Nat) (A : Nat → Prop) (lo : List (Option Value)) (h : Nat → AE) (n : Nat) : Prop :=
  va_K D vwCl (tysOf kc) s ∧ va_P D vwCl (cW ad kc h n) H ∧ va_D A (cW ad kc h n) ∧ va_S A s.heap H locs ∧ (∀ i, (i < z.2 ∨ n ≤ i) → ad i = z.1 i) ∧ (z.2 ≤ n ∧ n ≤ 900000) ∧ lvh ls T.2.2.1 ad lo
/-- THE JUDGEMENT: in the method T, at pc, with the locals lo, the stack st and the n entries h, the machine comes to Q; CX: what its code's table of handlers and the law's script say -/
def AW (T : ATy) (Q : AQ) (CX : Code → State → ((Nat → Nat) × Nat) → (Nat → Prop) → Prop) (pc : Nat) (lo : List (Option Value)) (st : List Value) (h : Nat → AE) (n ce sl : Nat) : Prop :=
  ∀ (p : Program) (l : Launch) (e : Env) (s : State) (m : MethodId) (args : Array Value) (below : List Frame) (meth : Method) (c : Code) (H : Heap) (locs : List Loc) (ls : Array Slot) (ad : Nat → Nat) (kc : Nat → ClassId) (D : va_G) (z : (Nat → Nat) × Nat) (A : Nat → Prop),
    FX T p l s m args meth c z A → CX c s z A → DY T s H locs ls ad kc D z A lo h n →
    W p l e T.2.2.2.2.1 s m args below meth c H locs ce sl (Q below args s kc D z A) (F0 m pc ls (st.map (cv ad)))
abbrev AC : Type := Code → State → ((Nat → Nat) × Nat) → (Nat → Prop) → Prop
/-- no handlers -/
def C0 : AC := fun c _ _ _ => ∀ x ∈ c.exceptionTable.toList, False
section AWrows
variable {T : ATy} {Q : AQ} {CX : AC} {pc : Nat} {lo lo' : List (Option Value)} {st : List Value} {h h' : Nat → AE} {n ce sl : Nat}
theorem AW.heap (e : ∀ i, i < n → h i = h' i) (k : AW T Q CX pc lo st h' n ce sl) : AW T Q CX pc lo st h n ce sl := by
  intro p l e1 s m args below meth c H locs ls ad kc D z A hF hC hD
  refine k p l e1 s m args below meth c H locs ls ad kc D z A hF hC ?_
  unfold DY at hD ⊢
  rw [← cW_congr e]
  exact hD
theorem AW.widen {ce' sl' : Nat} (h1 : ce ≤ ce') (h2 : sl ≤ sl') (k : AW T Q CX pc lo st h n ce' sl') : AW T Q CX pc lo st h n ce sl := by
  intro p l e1 s m args below meth c H locs ls ad kc D z A hF hC hD
  exact W.widen h1 h2 (k p l e1 s m args below meth c H locs ls ad kc D z A hF hC hD)
theorem aw_iconst {k : Int} {v : Int32} (hd : decode T.2.1 pc = .ok (.iconst k, 1)) (hv : Int32.ofInt k = v) (kk : AW T Q CX (pc + 1) lo (.int v :: st) h n ce sl) : AW T Q CX pc lo st h n ce sl := by
  intro p l e1 s m args below meth c H locs ls ad kc D z A hF hC hD
  exact lv_iconst hF.1 hF.2.1 hd hv (kk p l e1 s m args below meth c H locs ls ad kc D z A hF hC hD)
theorem aw_bipush {k : Int} {v : Int32} (hd : decode T.2.1 pc = .ok (.bipush k, 2)) (hv : (Int8.ofInt k).toInt32 = v) (kk : AW T Q CX (pc + 2) lo (.int v :: st) h n ce sl) : AW T Q CX pc lo st h n ce sl := by
  intro p l e1 s m args below meth c H locs ls ad kc D z A hF hC hD
  exact lv_bipush hF.1 hF.2.1 hd hv (kk p l e1 s m args below meth c H locs ls ad kc D z A hF hC hD)
theorem aw_sipush {k : Int} {v : Int32} (hd : decode T.2.1 pc = .ok (.sipush k, 3)) (hv : (Int16.ofInt k).toInt32 = v) (kk : AW T Q CX (pc + 3) lo (.int v :: st) h n ce sl) : AW T Q CX pc lo st h n ce sl := by
  intro p l e1 s m args below meth c H locs ls ad kc D z A hF hC hD
  exact lv_sipush hF.1 hF.2.1 hd hv (kk p l e1 s m args below meth c H locs ls ad kc D z A hF hC hD)
theorem aw_lconst {k : Fin 2} {v : Int64} (hd : decode T.2.1 pc = .ok (.lconst k, 1)) (hv : Int64.ofNat (k : Nat) = v) (kk : AW T Q CX (pc + 1) lo (.long v :: st) h n ce sl) : AW T Q CX pc lo st h n ce sl := by
  intro p l e1 s m args below meth c H locs ls ad kc D z A hF hC hD
  exact lv_lconst hF.1 hF.2.1 hd hv (kk p l e1 s m args below meth c H locs ls ad kc D z A hF hC hD)
theorem aw_ldc {index : Nat} {v : Int32} (hw : Cond.constant T.1 index v ∈ GW) (hd : decode T.2.1 pc = .ok (.ldc index, 2)) (kk : AW T Q CX (pc + 2) lo (.int v :: st) h n ce sl) : AW T Q CX pc lo st h n ce sl := by
  intro p l e1 s m args below meth c H locs ls ad kc D z A hF hC hD
  exact lv_ldc hF.1 hF.2.1 hF.2.2.2.1 (hF.2.2.2.2.1 _ hw) hd (kk p l e1 s m args below meth c H locs ls ad kc D z A hF hC hD)
theorem aw_ldc2 {index : Nat} {v : Int64} (hw : Cond.constantLong T.1 index v ∈ GW) (hd : decode T.2.1 pc = .ok (.ldc2_w index, 3)) (kk : AW T Q CX (pc + 3) lo (.long v :: st) h n ce sl) : AW T Q CX pc lo st h n ce sl := by
  intro p l e1 s m args below meth c H locs ls ad kc D z A hF hC hD
  exact lv_ldc2 hF.1 hF.2.1 hF.2.2.2.1 (hF.2.2.2.2.1 _ hw) hd (kk p l e1 s m args below meth c H locs ls ad kc D z A hF hC hD)
theorem aw_iload_n {k : Fin 4} {x : Int32} (hd : decode T.2.1 pc = .ok (.iload_n k, 1)) (hl : lo[(k : Nat)]? = some (some (.int x))) (kk : AW T Q CX (pc + 1) lo (.int x :: st) h n ce sl) : AW T Q CX pc lo st h n ce sl := by
  intro p l e1 s m args below meth c H locs ls ad kc D z A hF hC hD
  exact lv_iload_n hF.1 hF.2.1 hd rfl (hD.2.2.2.2.2.2.2.2 _ _ hl) (kk p l e1 s m args below meth c H locs ls ad kc D z A hF hC hD)
theorem aw_iload {k : Nat} {x : Int32} (hd : decode T.2.1 pc = .ok (.iload k, 2)) (hl : lo[k]? = some (some (.int x))) (kk : AW T Q CX (pc + 2) lo (.int x :: st) h n ce sl) : AW T Q CX pc lo st h n ce sl := by
  intro p l e1 s m args below meth c H locs ls ad kc D z A hF hC hD
  exact lv_iload hF.1 hF.2.1 hd (hD.2.2.2.2.2.2.2.2 _ _ hl) (kk p l e1 s m args below meth c H locs ls ad kc D z A hF hC hD)
theorem aw_lload_n {k : Fin 4} {x : Int64} (hd : decode T.2.1 pc = .ok (.lload_n k, 1)) (hl : lo[(k : Nat)]? = some (some (.long x))) (kk : AW T Q CX (pc + 1) lo (.long x :: st) h n ce sl) : AW T Q CX pc lo st h n ce sl := by
  intro p l e1 s m args below meth c H locs ls ad kc D z A hF hC hD
  exact lv_lload_n hF.1 hF.2.1 hd rfl (hD.2.2.2.2.2.2.2.2 _ _ hl) (kk p l e1 s m args below meth c H locs ls ad kc D z A hF hC hD)
theorem aw_lload {k : Nat} {x : Int64} (hd : decode T.2.1 pc = .ok (.lload k, 2)) (hl : lo[k]? = some (some (.long x))) (kk : AW T Q CX (pc + 2) lo (.long x :: st) h n ce sl) : AW T Q CX pc lo st h n ce sl := by
  intro p l e1 s m args below meth c H locs ls ad kc D z A hF hC hD
  exact lv_lload hF.1 hF.2.1 hd (hD.2.2.2.2.2.2.2.2 _ _ hl) (kk p l e1 s m args below meth c H locs ls ad kc D z A hF hC hD)
theorem aw_aload_n {k : Fin 4} {x : Nat} (hd : decode T.2.1 pc = .ok (.aload_n k, 1)) (hl : lo[(k : Nat)]? = some (some (.ref x))) (kk : AW T Q CX (pc + 1) lo (.ref x :: st) h n ce sl) : AW T Q CX pc lo st h n ce sl := by
  intro p l e1 s m args below meth c H locs ls ad kc D z A hF hC hD
  exact lv_aload_n hF.1 hF.2.1 hd rfl (hD.2.2.2.2.2.2.2.2 _ _ hl) (kk p l e1 s m args below meth c H locs ls ad kc D z A hF hC hD)
theorem aw_aload {k x : Nat} (hd : decode T.2.1 pc = .ok (.aload k, 2)) (hl : lo[k]? = some (some (.ref x))) (kk : AW T Q CX (pc + 2) lo (.ref x :: st) h n ce sl) : AW T Q CX pc lo st h n ce sl := by
  intro p l e1 s m args below meth c H locs ls ad kc D z A hF hC hD
  exact lv_aload hF.1 hF.2.1 hd (hD.2.2.2.2.2.2.2.2 _ _ hl) (kk p l e1 s m args below meth c H locs ls ad kc D z A hF hC hD)
theorem aw_aload_nN {k : Fin 4} (hd : decode T.2.1 pc = .ok (.aload_n k, 1)) (hl : lo[(k : Nat)]? = some (some .null)) (kk : AW T Q CX (pc + 1) lo (.null :: st) h n ce sl) : AW T Q CX pc lo st h n ce sl := by
  intro p l e1 s m args below meth c H locs ls ad kc D z A hF hC hD
  exact lv_aload_nN hF.1 hF.2.1 hd rfl (hD.2.2.2.2.2.2.2.2 _ _ hl) (kk p l e1 s m args below meth c H locs ls ad kc D z A hF hC hD)
theorem aw_iadd {x y : Int32} (hd : decode T.2.1 pc = .ok (.iadd, 1)) (kk : AW T Q CX (pc + 1) lo (.int (x + y) :: st) h n ce sl) : AW T Q CX pc lo (.int y :: .int x :: st) h n ce sl := by
  intro p l e1 s m args below meth c H locs ls ad kc D z A hF hC hD
  exact lv_iadd hF.1 hF.2.1 hd (kk p l e1 s m args below meth c H locs ls ad kc D z A hF hC hD)
theorem aw_isub {x y : Int32} (hd : decode T.2.1 pc = .ok (.isub, 1)) (kk : AW T Q CX (pc + 1) lo (.int (x - y) :: st) h n ce sl) : AW T Q CX pc lo (.int y :: .int x :: st) h n ce sl := by
  intro p l e1 s m args below meth c H locs ls ad kc D z A hF hC hD
  exact lv_isub hF.1 hF.2.1 hd (kk p l e1 s m args below meth c H locs ls ad kc D z A hF hC hD)
theorem aw_imul {x y : Int32} (hd : decode T.2.1 pc = .ok (.imul, 1)) (kk : AW T Q CX (pc + 1) lo (.int (x * y) :: st) h n ce sl) : AW T Q CX pc lo (.int y :: .int x :: st) h n ce sl := by
  intro p l e1 s m args below meth c H locs ls ad kc D z A hF hC hD
  exact lv_imul hF.1 hF.2.1 hd (kk p l e1 s m args below meth c H locs ls ad kc D z A hF hC hD)
theorem aw_idiv {x y : Int32} (hd : decode T.2.1 pc = .ok (.idiv, 1)) (hne : ¬ y = 0) (kk : AW T Q CX (pc + 1) lo (.int (x / y) :: st) h n ce sl) : AW T Q CX pc lo (.int y :: .int x :: st) h n ce sl := by
  intro p l e1 s m args below meth c H locs ls ad kc D z A hF hC hD
  exact lv_idiv hF.1 hF.2.1 hd hne (kk p l e1 s m args below meth c H locs ls ad kc D z A hF hC hD)
theorem aw_irem {x y : Int32} (hd : decode T.2.1 pc = .ok (.irem, 1)) (hne : ¬ y = 0) (kk : AW T Q CX (pc + 1) lo (.int (x - x / y * y) :: st) h n ce sl) : AW T Q CX pc lo (.int y :: .int x :: st) h n ce sl := by
  intro p l e1 s m args below meth c H locs ls ad kc D z A hF hC hD
  exact lv_irem hF.1 hF.2.1 hd hne (kk p l e1 s m args below meth c H locs ls ad kc D z A hF hC hD)
theorem aw_iand {x y : Int32} (hd : decode T.2.1 pc = .ok (.iand, 1)) (kk : AW T Q CX (pc + 1) lo (.int (x &&& y) :: st) h n ce sl) : AW T Q CX pc lo (.int y :: .int x :: st) h n ce sl := by
  intro p l e1 s m args below meth c H locs ls ad kc D z A hF hC hD
  exact lv_iand hF.1 hF.2.1 hd (kk p l e1 s m args below meth c H locs ls ad kc D z A hF hC hD)
theorem aw_ishr {x y : Int32} (hd : decode T.2.1 pc = .ok (.ishr, 1)) (kk : AW T Q CX (pc + 1) lo (.int (x >>> (y &&& 31)) :: st) h n ce sl) : AW T Q CX pc lo (.int y :: .int x :: st) h n ce sl := by
  intro p l e1 s m args below meth c H locs ls ad kc D z A hF hC hD
  exact lv_ishr hF.1 hF.2.1 hd (kk p l e1 s m args below meth c H locs ls ad kc D z A hF hC hD)
theorem aw_ladd {x y : Int64} (hd : decode T.2.1 pc = .ok (.ladd, 1)) (kk : AW T Q CX (pc + 1) lo (.long (x + y) :: st) h n ce sl) : AW T Q CX pc lo (.long y :: .long x :: st) h n ce sl := by
  intro p l e1 s m args below meth c H locs ls ad kc D z A hF hC hD
  exact lv_ladd hF.1 hF.2.1 hd (kk p l e1 s m args below meth c H locs ls ad kc D z A hF hC hD)
theorem aw_lsub {x y : Int64} (hd : decode T.2.1 pc = .ok (.lsub, 1)) (kk : AW T Q CX (pc + 1) lo (.long (x - y) :: st) h n ce sl) : AW T Q CX pc lo (.long y :: .long x :: st) h n ce sl := by
  intro p l e1 s m args below meth c H locs ls ad kc D z A hF hC hD
  exact lv_lsub hF.1 hF.2.1 hd (kk p l e1 s m args below meth c H locs ls ad kc D z A hF hC hD)
theorem aw_lmul {x y : Int64} (hd : decode T.2.1 pc = .ok (.lmul, 1)) (kk : AW T Q CX (pc + 1) lo (.long (x * y) :: st) h n ce sl) : AW T Q CX pc lo (.long y :: .long x :: st) h n ce sl := by
  intro p l e1 s m args below meth c H locs ls ad kc D z A hF hC hD
  exact lv_lmul hF.1 hF.2.1 hd (kk p l e1 s m args below meth c H locs ls ad kc D z A hF hC hD)
theorem aw_lcmp {x y : Int64} (hd : decode T.2.1 pc = .ok (.lcmp, 1)) (kk : AW T Q CX (pc + 1) lo (.int (lg_cmp x y) :: st) h n ce sl) : AW T Q CX pc lo (.long y :: .long x :: st) h n ce sl := by
  intro p l e1 s m args below meth c H locs ls ad kc D z A hF hC hD
  exact W.lcmp hF.1 hF.2.1 hd (kk p l e1 s m args below meth c H locs ls ad kc D z A hF hC hD)
theorem aw_i2l {x : Int32} (hd : decode T.2.1 pc = .ok (.i2l, 1)) (kk : AW T Q CX (pc + 1) lo (.long x.toInt64 :: st) h n ce sl) : AW T Q CX pc lo (.int x :: st) h n ce sl := by
  intro p l e1 s m args below meth c H locs ls ad kc D z A hF hC hD
  exact lv_i2l hF.1 hF.2.1 hd rfl (kk p l e1 s m args below meth c H locs ls ad kc D z A hF hC hD)
theorem aw_i2b {x : Int32} (hd : decode T.2.1 pc = .ok (.i2b, 1)) (kk : AW T Q CX (pc + 1) lo (.int x.toInt8.toInt32 :: st) h n ce sl) : AW T Q CX pc lo (.int x :: st) h n ce sl := by
  intro p l e1 s m args below meth c H locs ls ad kc D z A hF hC hD
  exact lv_i2b hF.1 hF.2.1 hd rfl (kk p l e1 s m args below meth c H locs ls ad kc D z A hF hC hD)
theorem cv_cat (ad : Nat → Nat) (v : Value) : (cv ad v).category = v.category := by cases v <;> rfl
theorem aw_dup {v : Value} (hd : decode T.2.1 pc = .ok (.dup, 1)) (hv : v.category = 1) (kk : AW T Q CX (pc + 1) lo (v :: v :: st) h n ce sl) : AW T Q CX pc lo (v :: st) h n ce sl := by
  intro p l e1 s m args below meth c H locs ls ad kc D z A hF hC hD
  exact lv_dup hF.1 hF.2.1 hd ((cv_cat ad v).trans hv) (kk p l e1 s m args below meth c H locs ls ad kc D z A hF hC hD)
theorem aw_pop {v : Value} (hd : decode T.2.1 pc = .ok (.pop, 1)) (hv : v.category = 1) (kk : AW T Q CX (pc + 1) lo st h n ce sl) : AW T Q CX pc lo (v :: st) h n ce sl := by
  intro p l e1 s m args below meth c H locs ls ad kc D z A hF hC hD
  exact lv_pop hF.1 hF.2.1 hd ((cv_cat ad v).trans hv) (kk p l e1 s m args below meth c H locs ls ad kc D z A hF hC hD)
theorem aw_dup_x1 {v w : Value} (hd : decode T.2.1 pc = .ok (.dup_x1, 1)) (hv : v.category = 1) (hw : w.category = 1) (kk : AW T Q CX (pc + 1) lo (v :: w :: v :: st) h n ce sl) : AW T Q CX pc lo (v :: w :: st) h n ce sl := by
  intro p l e1 s m args below meth c H locs ls ad kc D z A hF hC hD
  exact lv_dup_x1 hF.1 hF.2.1 hd ((cv_cat ad v).trans hv) ((cv_cat ad w).trans hw) (kk p l e1 s m args below meth c H locs ls ad kc D z A hF hC hD)
theorem aw_dup2 {v w : Value} (hd : decode T.2.1 pc = .ok (.dup2, 1)) (hv : v.category = 1) (hw : w.category = 1) (kk : AW T Q CX (pc + 1) lo (v :: w :: v :: w :: st) h n ce sl) : AW T Q CX pc lo (v :: w :: st) h n ce sl := by
  intro p l e1 s m args below meth c H locs ls ad kc D z A hF hC hD
  exact lv_dup2_11 hF.1 hF.2.1 hd ((cv_cat ad v).trans hv) ((cv_cat ad w).trans hw) (kk p l e1 s m args below meth c H locs ls ad kc D z A hF hC hD)
theorem aw_if_eq {x : Int32} {off : Int} (tgt : Nat) (hd : decode T.2.1 pc = .ok (.ifCond .eq off, 3)) (ht : (pc : Int) + off = (tgt : Int)) (kt : x = 0 → AW T Q CX tgt lo st h n ce sl) (kf : ¬ x = 0 → AW T Q CX (pc + 3) lo st h n ce sl) : AW T Q CX pc lo (.int x :: st) h n ce sl := by
  intro p l e1 s m args below meth c H locs ls ad kc D z A hF hC hD
  exact lv_if_eq hF.1 hF.2.1 hd ht (fun q => kt q p l e1 s m args below meth c H locs ls ad kc D z A hF hC hD) (fun q => kf q p l e1 s m args below meth c H locs ls ad kc D z A hF hC hD)
theorem aw_icmp_eq {x y : Int32} {off : Int} (tgt : Nat) (hd : decode T.2.1 pc = .ok (.if_icmp .eq off, 3)) (ht : (pc : Int) + off = (tgt : Int)) (kt : x = y → AW T Q CX tgt lo st h n ce sl) (kf : ¬ x = y → AW T Q CX (pc + 3) lo st h n ce sl) : AW T Q CX pc lo (.int y :: .int x :: st) h n ce sl := by
  intro p l e1 s m args below meth c H locs ls ad kc D z A hF hC hD
  exact lv_icmp_eq hF.1 hF.2.1 hd ht (fun q => kt q p l e1 s m args below meth c H locs ls ad kc D z A hF hC hD) (fun q => kf q p l e1 s m args below meth c H locs ls ad kc D z A hF hC hD)
theorem aw_if_ne {x : Int32} {off : Int} (tgt : Nat) (hd : decode T.2.1 pc = .ok (.ifCond .ne off, 3)) (ht : (pc : Int) + off = (tgt : Int)) (kt : ¬ x = 0 → AW T Q CX tgt lo st h n ce sl) (kf : x = 0 → AW T Q CX (pc + 3) lo st h n ce sl) : AW T Q CX pc lo (.int x :: st) h n ce sl := by
  intro p l e1 s m args below meth c H locs ls ad kc D z A hF hC hD
  exact lv_if_ne hF.1 hF.2.1 hd ht (fun q => kt q p l e1 s m args below meth c H locs ls ad kc D z A hF hC hD) (fun q => kf q p l e1 s m args below meth c H locs ls ad kc D z A hF hC hD)
theorem aw_icmp_ne {x y : Int32} {off : Int} (tgt : Nat) (hd : decode T.2.1 pc = .ok (.if_icmp .ne off, 3)) (ht : (pc : Int) + off = (tgt : Int)) (kt : ¬ x = y → AW T Q CX tgt lo st h n ce sl) (kf : x = y → AW T Q CX (pc + 3) lo st h n ce sl) : AW T Q CX pc lo (.int y :: .int x :: st) h n ce sl := by
  intro p l e1 s m args below meth c H locs ls ad kc D z A hF hC hD
  exact lv_icmp_ne hF.1 hF.2.1 hd ht (fun q => kt q p l e1 s m args below meth c H locs ls ad kc D z A hF hC hD) (fun q => kf q p l e1 s m args below meth c H locs ls ad kc D z A hF hC hD)
theorem aw_if_lt {x : Int32} {off : Int} (tgt : Nat) (hd : decode T.2.1 pc = .ok (.ifCond .lt off, 3)) (ht : (pc : Int) + off = (tgt : Int)) (kt : x < 0 → AW T Q CX tgt lo st h n ce sl) (kf : ¬ x < 0 → AW T Q CX (pc + 3) lo st h n ce sl) : AW T Q CX pc lo (.int x :: st) h n ce sl := by
  intro p l e1 s m args below meth c H locs ls ad kc D z A hF hC hD
  exact lv_if_lt hF.1 hF.2.1 hd ht (fun q => kt q p l e1 s m args below meth c H locs ls ad kc D z A hF hC hD) (fun q => kf q p l e1 s m args below meth c H locs ls ad kc D z A hF hC hD)
theorem aw_icmp_lt {x y : Int32} {off : Int} (tgt : Nat) (hd : decode T.2.1 pc = .ok (.if_icmp .lt off, 3)) (ht : (pc : Int) + off = (tgt : Int)) (kt : x < y → AW T Q CX tgt lo st h n ce sl) (kf : ¬ x < y → AW T Q CX (pc + 3) lo st h n ce sl) : AW T Q CX pc lo (.int y :: .int x :: st) h n ce sl := by
  intro p l e1 s m args below meth c H locs ls ad kc D z A hF hC hD
  exact lv_icmp_lt hF.1 hF.2.1 hd ht (fun q => kt q p l e1 s m args below meth c H locs ls ad kc D z A hF hC hD) (fun q => kf q p l e1 s m args below meth c H locs ls ad kc D z A hF hC hD)
theorem aw_if_ge {x : Int32} {off : Int} (tgt : Nat) (hd : decode T.2.1 pc = .ok (.ifCond .ge off, 3)) (ht : (pc : Int) + off = (tgt : Int)) (kt : 0 ≤ x → AW T Q CX tgt lo st h n ce sl) (kf : ¬ 0 ≤ x → AW T Q CX (pc + 3) lo st h n ce sl) : AW T Q CX pc lo (.int x :: st) h n ce sl := by
  intro p l e1 s m args below meth c H locs ls ad kc D z A hF hC hD
  exact lv_if_ge hF.1 hF.2.1 hd ht (fun q => kt q p l e1 s m args below meth c H locs ls ad kc D z A hF hC hD) (fun q => kf q p l e1 s m args below meth c H locs ls ad kc D z A hF hC hD)
theorem aw_icmp_ge {x y : Int32} {off : Int} (tgt : Nat) (hd : decode T.2.1 pc = .ok (.if_icmp .ge off, 3)) (ht : (pc : Int) + off = (tgt : Int)) (kt : y ≤ x → AW T Q CX tgt lo st h n ce sl) (kf : ¬ y ≤ x → AW T Q CX (pc + 3) lo st h n ce sl) : AW T Q CX pc lo (.int y :: .int x :: st) h n ce sl := by
  intro p l e1 s m args below meth c H locs ls ad kc D z A hF hC hD
  exact lv_icmp_ge hF.1 hF.2.1 hd ht (fun q => kt q p l e1 s m args below meth c H locs ls ad kc D z A hF hC hD) (fun q => kf q p l e1 s m args below meth c H locs ls ad kc D z A hF hC hD)
theorem aw_if_gt {x : Int32} {off : Int} (tgt : Nat) (hd : decode T.2.1 pc = .ok (.ifCond .gt off, 3)) (ht : (pc : Int) + off = (tgt : Int)) (kt : 0 < x → AW T Q CX tgt lo st h n ce sl) (kf : ¬ 0 < x → AW T Q CX (pc + 3) lo st h n ce sl) : AW T Q CX pc lo (.int x :: st) h n ce sl := by
  intro p l e1 s m args below meth c H locs ls ad kc D z A hF hC hD
  exact lv_if_gt hF.1 hF.2.1 hd ht (fun q => kt q p l e1 s m args below meth c H locs ls ad kc D z A hF hC hD) (fun q => kf q p l e1 s m args below meth c H locs ls ad kc D z A hF hC hD)
theorem aw_icmp_gt {x y : Int32} {off : Int} (tgt : Nat) (hd : decode T.2.1 pc = .ok (.if_icmp .gt off, 3)) (ht : (pc : Int) + off = (tgt : Int)) (kt : y < x → AW T Q CX tgt lo st h n ce sl) (kf : ¬ y < x → AW T Q CX (pc + 3) lo st h n ce sl) : AW T Q CX pc lo (.int y :: .int x :: st) h n ce sl := by
  intro p l e1 s m args below meth c H locs ls ad kc D z A hF hC hD
  exact lv_icmp_gt hF.1 hF.2.1 hd ht (fun q => kt q p l e1 s m args below meth c H locs ls ad kc D z A hF hC hD) (fun q => kf q p l e1 s m args below meth c H locs ls ad kc D z A hF hC hD)
theorem aw_if_le {x : Int32} {off : Int} (tgt : Nat) (hd : decode T.2.1 pc = .ok (.ifCond .le off, 3)) (ht : (pc : Int) + off = (tgt : Int)) (kt : x ≤ 0 → AW T Q CX tgt lo st h n ce sl) (kf : ¬ x ≤ 0 → AW T Q CX (pc + 3) lo st h n ce sl) : AW T Q CX pc lo (.int x :: st) h n ce sl := by
  intro p l e1 s m args below meth c H locs ls ad kc D z A hF hC hD
  exact lv_if_le hF.1 hF.2.1 hd ht (fun q => kt q p l e1 s m args below meth c H locs ls ad kc D z A hF hC hD) (fun q => kf q p l e1 s m args below meth c H locs ls ad kc D z A hF hC hD)
theorem aw_icmp_le {x y : Int32} {off : Int} (tgt : Nat) (hd : decode T.2.1 pc = .ok (.if_icmp .le off, 3)) (ht : (pc : Int) + off = (tgt : Int)) (kt : x ≤ y → AW T Q CX tgt lo st h n ce sl) (kf : ¬ x ≤ y → AW T Q CX (pc + 3) lo st h n ce sl) : AW T Q CX pc lo (.int y :: .int x :: st) h n ce sl := by
  intro p l e1 s m args below meth c H locs ls ad kc D z A hF hC hD
  exact lv_icmp_le hF.1 hF.2.1 hd ht (fun q => kt q p l e1 s m args below meth c H locs ls ad kc D z A hF hC hD) (fun q => kf q p l e1 s m args below meth c H locs ls ad kc D z A hF hC hD)
theorem aw_goto {off : Int} (tgt : Nat) (hd : decode T.2.1 pc = .ok (.goto off, 3)) (ht : (pc : Int) + off = (tgt : Int)) (kk : AW T Q CX tgt lo st h n ce sl) : AW T Q CX pc lo st h n ce sl := by
  intro p l e1 s m args below meth c H locs ls ad kc D z A hF hC hD
  exact lv_goto hF.1 hF.2.1 hd ht (kk p l e1 s m args below meth c H locs ls ad kc D z A hF hC hD)
theorem aw_ifnonnull {x : Nat} {off : Int} (tgt : Nat) (hd : decode T.2.1 pc = .ok (.ifnonnull off, 3)) (ht : (pc : Int) + off = (tgt : Int)) (kk : AW T Q CX tgt lo st h n ce sl) : AW T Q CX pc lo (.ref x :: st) h n ce sl := by
  intro p l e1 s m args below meth c H locs ls ad kc D z A hF hC hD
  exact lv_ifnonnull hF.1 hF.2.1 hd ht (kk p l e1 s m args below meth c H locs ls ad kc D z A hF hC hD)
theorem aw_ifnonnullN {off : Int} (hd : decode T.2.1 pc = .ok (.ifnonnull off, 3)) (kk : AW T Q CX (pc + 3) lo st h n ce sl) : AW T Q CX pc lo (.null :: st) h n ce sl := by
  intro p l e1 s m args below meth c H locs ls ad kc D z A hF hC hD
  exact lv_ifnonnullN hF.1 hF.2.1 hd (kk p l e1 s m args below meth c H locs ls ad kc D z A hF hC hD)
def dropL (o : Option Value) : Option Value := match o with
  | some (.long _) => none
  | some (.double _) => none
  | x => x
/-- a store of one word at i -/
def stL : List (Option Value) → Nat → Value → List (Option Value)
  | [], _, _ => []
  | _ :: l, 0, v => some v :: l
  | o :: l, 1, v => dropL o :: stL l 0 v
  | o :: l, i + 2, v => o :: stL l (i + 1) v
/-- a store of two words at i -/
def stM : List (Option Value) → Nat → Value → List (Option Value)
  | [], _, _ => []
  | [_], 0, v => [some v]
  | _ :: _ :: l, 0, v => some v :: none :: l
  | o :: l, 1, v => dropL o :: stM l 0 v
  | o :: l, i + 2, v => o :: stM l (i + 1) v
theorem dropL_some {o : Option Value} {w : Value} (h : dropL o = some w) : o = some w ∧ w.category = 1 := by
  cases o with
  | none => simp [dropL] at h
  | some v => cases v <;> simp [dropL] at h <;> subst h <;> exact ⟨rfl, rfl⟩
theorem stL_get : ∀ (lo : List (Option Value)) (i : Nat) (v : Value) (j : Nat) (w : Value), (stL lo i v)[j]? = some (some w) → (j = i ∧ w = v) ∨ (j ≠ i ∧ lo[j]? = some (some w) ∧ (j + 1 = i → w.category = 1))
  | [], i, v, j, w, h => by simp [stL] at h
  | o :: l, 0, v, j, w, h => by
    cases j with
    | zero => simp [stL] at h; exact Or.inl ⟨rfl, h.symm⟩
    | succ j => simp [stL] at h; exact Or.inr ⟨by omega, by simpa using h, by omega⟩
  | o :: l, 1, v, j, w, h => by
    cases j with
    | zero =>
      simp [stL] at h
      obtain ⟨h1, h2⟩ := dropL_some h
      exact Or.inr ⟨by omega, by simp [h1], fun _ => h2⟩
    | succ j =>
      have h1 : (stL l 0 v)[j]? = some (some w) := by simpa [stL] using h
      rcases stL_get l 0 v j w h1 with ⟨a, b⟩ | ⟨a, b, c⟩
      · exact Or.inl ⟨by omega, b⟩
      · exact Or.inr ⟨by omega, by simpa using b, fun q => c (by omega)⟩
  | o :: l, i + 2, v, j, w, h => by
    cases j with
    | zero =>
      simp [stL] at h
      exact Or.inr ⟨by omega, by simp [h], by omega⟩
    | succ j =>
      have h1 : (stL l (i + 1) v)[j]? = some (some w) := by simpa [stL] using h
      rcases stL_get l (i + 1) v j w h1 with ⟨a, b⟩ | ⟨a, b, c⟩
      · exact Or.inl ⟨by omega, b⟩
      · exact Or.inr ⟨by omega, by simpa using b, fun q => c (by omega)⟩
theorem stM_get : ∀ (lo : List (Option Value)) (i : Nat) (v : Value) (j : Nat) (w : Value), (stM lo i v)[j]? = some (some w) → (j = i ∧ w = v) ∨ (j ≠ i ∧ j ≠ i + 1 ∧ lo[j]? = some (some w) ∧ (j + 1 = i → w.category = 1))
  | [], i, v, j, w, h => by simp [stM] at h
  | [o], 0, v, j, w, h => by
    cases j with
    | zero => simp [stM] at h; exact Or.inl ⟨rfl, h.symm⟩
    | succ j => simp [stM] at h
  | o :: o2 :: l, 0, v, j, w, h => by
    cases j with
    | zero => simp [stM] at h; exact Or.inl ⟨rfl, h.symm⟩
    | succ j =>
      cases j with
      | zero => simp [stM] at h
      | succ j => simp [stM] at h; exact Or.inr ⟨by omega, by omega, by simpa using h, by omega⟩
  | o :: l, 1, v, j, w, h => by
    cases j with
    | zero =>
      simp [stM] at h
      obtain ⟨h1, h2⟩ := dropL_some h
      exact Or.inr ⟨by omega, by omega, by simp [h1], fun _ => h2⟩
    | succ j =>
      have h1 : (stM l 0 v)[j]? = some (some w) := by simpa [stM] using h
      rcases stM_get l 0 v j w h1 with ⟨a, b⟩ | ⟨a, b, c, d⟩
      · exact Or.inl ⟨by omega, b⟩
      · exact Or.inr ⟨by omega, by omega, by simpa using c, fun q => d (by omega)⟩
  | o :: l, i + 2, v, j, w, h => by
    cases j with
    | zero =>
      simp [stM] at h
      exact Or.inr ⟨by omega, by omega, by simp [h], by omega⟩
    | succ j =>
      have h1 : (stM l (i + 1) v)[j]? = some (some w) := by simpa [stM] using h
      rcases stM_get l (i + 1) v j w h1 with ⟨a, b⟩ | ⟨a, b, c, d⟩
      · exact Or.inl ⟨by omega, b⟩
      · exact Or.inr ⟨by omega, by omega, by simpa using c, fun q => d (by omega)⟩
/-- the known locals as a list of pairs -/
def prs (ad : Nat → Nat) (lo : List (Option Value)) : List (Nat × Value) := (List.range lo.length).filterMap (fun i => match lo[i]? with
  | some (some v) => some (i, cv ad v)
  | _ => none)
theorem prs_mem {ad : Nat → Nat} {lo : List (Option Value)} {i : Nat} {v : Value} (h : lo[i]? = some (some v)) : (i, cv ad v) ∈ prs ad lo := by
  refine List.mem_filterMap.mpr ⟨i, List.mem_range.mpr (List.getElem?_eq_some_iff.mp h).1, ?_⟩
  rw [h]
theorem prs_of {ad : Nat → Nat} {lo : List (Option Value)} {q : Nat × Value} (h : q ∈ prs ad lo) : ∃ v, lo[q.1]? = some (some v) ∧ q.2 = cv ad v := by
  obtain ⟨i, -, hi⟩ := List.mem_filterMap.mp h
  cases hl : lo[i]? with
  | none => rw [hl] at hi; simp at hi
  | some o => cases o with
    | none => rw [hl] at hi; simp at hi
    | some v => rw [hl] at hi; simp at hi; subst hi; exact ⟨v, hl, rfl⟩
theorem lvh_has {ls : Array Slot} {nL : Nat} {ad : Nat → Nat} {lo : List (Option Value)} (h : lvh ls nL ad lo) : lv_has ls nL (prs ad lo) := ⟨h.1, h.2.1, fun q hq => by
  obtain ⟨v, h1, h2⟩ := prs_of hq
  rw [h2]
  exact h.2.2 _ _ h1⟩
theorem lvh_st {ls' : Array Slot} {nL : Nat} {ad : Nat → Nat} {lo lo' : List (Option Value)} {i : Nat} {v : Value} (hl : stL lo i v = lo')
    (h : lv_has ls' nL ((i, cv ad v) :: (prs ad lo).filter (fun q => !(q.1 == i) && !(q.1 + 1 == i && q.2.category == 2)))) : lvh ls' nL ad lo' := by
  refine ⟨h.1, h.2.1, fun j w hj => ?_⟩
  rw [← hl] at hj
  rcases stL_get lo i v j w hj with ⟨a, b⟩ | ⟨a, b, c⟩
  · subst a; subst b
    exact h.2.2 (j, cv ad w) List.mem_cons_self
  · refine h.2.2 (j, cv ad w) (List.mem_cons_of_mem _ (List.mem_filter.mpr ⟨prs_mem b, ?_⟩))
    by_cases e : j + 1 = i
    · have hc := c e
      simp [a, cv_cat, hc]
    · simp [a, e]
theorem lvh_sm {ls' : Array Slot} {nL : Nat} {ad : Nat → Nat} {lo lo' : List (Option Value)} {i : Nat} {v : Value} (hl : stM lo i v = lo')
    (h : lv_has ls' nL ((i, cv ad v) :: (prs ad lo).filter (fun q => !(q.1 == i) && (!(q.1 == i + 1) && !(q.1 + 1 == i && q.2.category == 2))))) : lvh ls' nL ad lo' := by
  refine ⟨h.1, h.2.1, fun j w hj => ?_⟩
  rw [← hl] at hj
  rcases stM_get lo i v j w hj with ⟨a, b⟩ | ⟨a, b, c, d⟩
  · subst a; subst b
    exact h.2.2 (j, cv ad w) List.mem_cons_self
  · refine h.2.2 (j, cv ad w) (List.mem_cons_of_mem _ (List.mem_filter.mpr ⟨prs_mem c, ?_⟩))
    by_cases e : j + 1 = i
    · have hc := d e
      simp [a, b, cv_cat, hc]
    · simp [a, b, e]
theorem dy_lo {s : State} {H : Heap} {locs : List Loc} {ls ls' : Array Slot} {ad : Nat → Nat} {kc : Nat → ClassId} {D : va_G} {z : (Nat → Nat) × Nat} {A : Nat → Prop} (hD : DY T s H locs ls ad kc D z A lo h n) (hl : lvh ls' T.2.2.1 ad lo') : DY T s H locs ls' ad kc D z A lo' h n := ⟨hD.1, hD.2.1, hD.2.2.1, hD.2.2.2.1, hD.2.2.2.2.1, hD.2.2.2.2.2.1, hl⟩
theorem aw_lo (e : ∀ (i : Nat) (v : Value), lo'[i]? = some (some v) → lo[i]? = some (some v)) (k : AW T Q CX pc lo' st h n ce sl) : AW T Q CX pc lo st h n ce sl := by
  intro p l e1 s m args below meth c H locs ls ad kc D z A hF hC hD
  exact k p l e1 s m args below meth c H locs ls ad kc D z A hF hC (dy_lo hD ⟨hD.2.2.2.2.2.2.1, hD.2.2.2.2.2.2.2.1, fun i v hi => hD.2.2.2.2.2.2.2.2 i v (e i v hi)⟩)
theorem aw_istore_n {k : Fin 4} {x : Int32} (hd : decode T.2.1 pc = .ok (.istore_n k, 1)) (hn : (k : Nat) < T.2.2.1) (hl : stL lo (k : Nat) (.int x) = lo') (kk : AW T Q CX (pc + 1) lo' st h n ce sl) : AW T Q CX pc lo (.int x :: st) h n ce sl := by
  intro p l e1 s m args below meth c H locs ls ad kc D z A hF hC hD
  exact lv_istore_n hF.1 hF.2.1 hd rfl (lvh_has hD.2.2.2.2.2.2) hn rfl (fun ls' hls => kk p l e1 s m args below meth c H locs ls' ad kc D z A hF hC (dy_lo hD (lvh_st hl hls)))
theorem aw_istore {k : Nat} {x : Int32} (hd : decode T.2.1 pc = .ok (.istore k, 2)) (hn : k < T.2.2.1) (hl : stL lo k (.int x) = lo') (kk : AW T Q CX (pc + 2) lo' st h n ce sl) : AW T Q CX pc lo (.int x :: st) h n ce sl := by
  intro p l e1 s m args below meth c H locs ls ad kc D z A hF hC hD
  exact lv_istore hF.1 hF.2.1 hd (lvh_has hD.2.2.2.2.2.2) hn rfl (fun ls' hls => kk p l e1 s m args below meth c H locs ls' ad kc D z A hF hC (dy_lo hD (lvh_st hl hls)))
theorem aw_astore_n {k : Fin 4} {x : Nat} (hd : decode T.2.1 pc = .ok (.astore_n k, 1)) (hn : (k : Nat) < T.2.2.1) (hl : stL lo (k : Nat) (.ref x) = lo') (kk : AW T Q CX (pc + 1) lo' st h n ce sl) : AW T Q CX pc lo (.ref x :: st) h n ce sl := by
  intro p l e1 s m args below meth c H locs ls ad kc D z A hF hC hD
  exact lv_astore_n hF.1 hF.2.1 hd rfl (lvh_has hD.2.2.2.2.2.2) hn rfl (fun ls' hls => kk p l e1 s m args below meth c H locs ls' ad kc D z A hF hC (dy_lo hD (lvh_st hl hls)))
theorem aw_astore {k x : Nat} (hd : decode T.2.1 pc = .ok (.astore k, 2)) (hn : k < T.2.2.1) (hl : stL lo k (.ref x) = lo') (kk : AW T Q CX (pc + 2) lo' st h n ce sl) : AW T Q CX pc lo (.ref x :: st) h n ce sl := by
  intro p l e1 s m args below meth c H locs ls ad kc D z A hF hC hD
  exact lv_astore hF.1 hF.2.1 hd (lvh_has hD.2.2.2.2.2.2) hn rfl (fun ls' hls => kk p l e1 s m args below meth c H locs ls' ad kc D z A hF hC (dy_lo hD (lvh_st hl hls)))
theorem aw_astore_nN {k : Fin 4} (hd : decode T.2.1 pc = .ok (.astore_n k, 1)) (hn : (k : Nat) < T.2.2.1) (hl : stL lo (k : Nat) .null = lo') (kk : AW T Q CX (pc + 1) lo' st h n ce sl) : AW T Q CX pc lo (.null :: st) h n ce sl := by
  intro p l e1 s m args below meth c H locs ls ad kc D z A hF hC hD
  exact lv_astore_nN hF.1 hF.2.1 hd rfl (lvh_has hD.2.2.2.2.2.2) hn rfl (fun ls' hls => kk p l e1 s m args below meth c H locs ls' ad kc D z A hF hC (dy_lo hD (lvh_st hl hls)))
theorem aw_lstore_n {k : Fin 4} {x : Int64} (hd : decode T.2.1 pc = .ok (.lstore_n k, 1)) (hn : (k : Nat) + 1 < T.2.2.1) (hl : stM lo (k : Nat) (.long x) = lo') (kk : AW T Q CX (pc + 1) lo' st h n ce sl) : AW T Q CX pc lo (.long x :: st) h n ce sl := by
  intro p l e1 s m args below meth c H locs ls ad kc D z A hF hC hD
  exact lv_lstore_n hF.1 hF.2.1 hd rfl (lvh_has hD.2.2.2.2.2.2) hn rfl (fun ls' hls => kk p l e1 s m args below meth c H locs ls' ad kc D z A hF hC (dy_lo hD (lvh_sm hl hls)))
theorem aw_lstore {k : Nat} {x : Int64} (hd : decode T.2.1 pc = .ok (.lstore k, 2)) (hn : k + 1 < T.2.2.1) (hl : stM lo k (.long x) = lo') (kk : AW T Q CX (pc + 2) lo' st h n ce sl) : AW T Q CX pc lo (.long x :: st) h n ce sl := by
  intro p l e1 s m args below meth c H locs ls ad kc D z A hF hC hD
  exact lv_lstore hF.1 hF.2.1 hd (lvh_has hD.2.2.2.2.2.2) hn rfl (fun ls' hls => kk p l e1 s m args below meth c H locs ls' ad kc D z A hF hC (dy_lo hD (lvh_sm hl hls)))
theorem aw_iinc {i : Nat} {d : Int} {x : Int32} (hd : decode T.2.1 pc = .ok (.iinc i d, 3)) (hx : lo[i]? = some (some (.int x))) (hn : i < T.2.2.1) (hl : stL lo i (.int (x + Int32.ofInt d)) = lo') (kk : AW T Q CX (pc + 3) lo' st h n ce sl) : AW T Q CX pc lo st h n ce sl := by
  intro p l e1 s m args below meth c H locs ls ad kc D z A hF hC hD
  obtain ⟨k, hk⟩ := List.getElem?_of_mem (prs_mem (ad := ad) hx)
  exact lv_iinc (k := k) hF.1 hF.2.1 hd (lvh_has hD.2.2.2.2.2.2) hk rfl hn rfl (fun ls' hls => kk p l e1 s m args below meth c H locs ls' ad kc D z A hF hC (dy_lo hD (lvh_st hl hls)))
/-- a field by the place k of its class ci, as the class own reaches it at its entry index -/
def FL (own : String) (index ci k : Nat) : Prop := ∃ (C : String) (TT : u_T) (N : Nat), vwCl[ci]? = some (C, TT, N) ∧ k < N ∧ (∀ w ∈ u_ws C TT N, w ∈ GW) ∧ (Cond.fieldLink own index (TT k).1 (TT k).2.1 (TT k).2.2.1 ∈ GW ∨ ∃ host, Cond.fieldLinkNest own index (TT k).1 (TT k).2.1 (TT k).2.2.1 host ∈ GW)
/-- a field that own may write -/
def FP (own : String) (index ci k : Nat) (ty : FieldType) (ini : Bool) : Prop := ∃ (C : String) (TT : u_T) (N : Nat) (ty0 : Nat → FieldType), vwCl[ci]? = some (C, TT, N) ∧ k < N ∧ (∀ w ∈ u_ws C TT N, w ∈ GW) ∧
  (∀ k, k < N → parseFieldDescriptor (TT k).2.2.1 = some (ty0 k)) ∧ (∀ a, a < N → ∀ b, b < N → a ≠ b → (TT a).2.1 ≠ (TT b).2.1) ∧ parseFieldDescriptor (TT k).2.2.1 = some ty ∧
  ((Cond.fieldLink own index (TT k).1 (TT k).2.1 (TT k).2.2.1 ∈ GW ∧ (TT k).2.2.2 = false) ∨ ((∃ host, Cond.fieldLinkNest own index (TT k).1 (TT k).2.1 (TT k).2.2.1 host ∈ GW) ∧ (TT k).2.2.2 = false) ∨ (Cond.fieldLink own index (TT k).1 (TT k).2.1 (TT k).2.2.1 ∈ GW ∧ (TT k).2.2.2 = true ∧ ini = true ∧ (TT k).1 = own))
theorem aw_get {i ci index k : Nat} {fs : List Value} {v : Value} (hL : FL T.1 index ci k) (hd : decode T.2.1 pc = .ok (.getfield index, 3)) (he : h i = .inr (ci, fs)) (hi : i < n) (hv : fs[k]? = some v) (kk : AW T Q CX (pc + 3) lo (v :: st) h n ce sl) : AW T Q CX pc lo (.ref i :: st) h n ce sl := by
  intro p l e1 s m args below meth c H locs ls ad kc D z A hF hC hD
  obtain ⟨C, TT, N, hc, hk, hin, hw | ⟨host, hw⟩⟩ := hL
  · exact va_get (D := D) (cl := vwCl) (tys := tysOf kc) (ws := cW ad kc h n) (v := cv ad v) hF.1 hF.2.1 hF.2.2.2.2.1 hin hF.2.2.2.1 hD.1 hD.2.1 i (cW_getE hi he rfl) hc k hk (hF.2.2.2.2.1 _ hw) (fun _ h9 => h9) (by rw [List.getElem?_map, hv]; rfl) hd (kk p l e1 s m args below meth c H locs ls ad kc D z A hF hC hD)
  · exact va_getN (D := D) (cl := vwCl) (tys := tysOf kc) (ws := cW ad kc h n) (v := cv ad v) hF.1 hF.2.1 hF.2.2.2.2.1 hin hF.2.2.2.1 hD.1 hD.2.1 i (cW_getE hi he rfl) hc k hk (hF.2.2.2.2.1 _ hw) (fun _ h9 => h9) (by rw [List.getElem?_map, hv]; rfl) hd (kk p l e1 s m args below meth c H locs ls ad kc D z A hF hC hD)
theorem DY.put {s : State} {H H1 : Heap} {locs locs1 : List Loc} {ls : Array Slot} {ad : Nat → Nat} {kc : Nat → ClassId} {D : va_G} {z : (Nat → Nat) × Nat} {A : Nat → Prop} {i : Nat} {e : AE} {e' : va_E} (hD : DY T s H locs ls ad kc D z A lo h n) (hi : i < n) (hh : hset h i e = h') (he : cE ad kc e = e') (hP1 : va_P D vwCl ((cW ad kc h n).set i (ad i, e')) H1) (hD1 : va_D A ((cW ad kc h n).set i (ad i, e'))) (hS1 : va_S A s.heap H1 locs1) : DY T s H1 locs1 ls ad kc D z A lo h' n := by
  subst he
  rw [cW_set hi, hh] at hP1 hD1
  exact ⟨hD.1, hP1, hD1, hS1, hD.2.2.2.2.1, hD.2.2.2.2.2.1, hD.2.2.2.2.2.2⟩
theorem aw_put {i ci index k : Nat} {ty : FieldType} {fs : List Value} {v : Value} (hL : FP T.1 index ci k ty T.2.2.2.2.2) (hd : decode T.2.1 pc = .ok (.putfield index, 3)) (he : h i = .inr (ci, fs)) (hi : i < n) (hl : k < fs.length) (hty : ∀ ad : Nat → Nat, narrow ty (cv ad v) = cv ad v ∧ fits ty (cv ad v) = true) (hh : hset h i (.inr (ci, fs.set k v)) = h') (kk : AW T Q CX (pc + 3) lo st h' n ce sl) : AW T Q CX pc lo (v :: .ref i :: st) h n ce sl := by
  intro p l e1 s m args below meth c H locs ls ad kc D z A hF hC hD
  obtain ⟨C, TT, N, ty0, hc, hk, hin, h0, hnm, hpd, ⟨hw, hf⟩ | ⟨⟨host, hw⟩, hf⟩ | ⟨hw, hf, hini, hdec⟩⟩ := hL
  · exact va_put (D := D) (cl := vwCl) (tys := tysOf kc) (ws := cW ad kc h n) (v := cv ad v) hF.1 hF.2.1 hF.2.2.2.2.1 hin ty0 h0 hnm hF.2.2.2.1 hD.1 hD.2.1 hD.2.2.1 hD.2.2.2.1 i (cW_getE hi he rfl) hc k hk (hF.2.2.2.2.1 _ hw) (fun _ h9 => h9) hf hpd (hty ad).1 (hty ad).2 (by rw [List.length_map]; exact hl) hd
      (fun H1 locs1 hP1 hD1 hS1 => kk p l e1 s m args below meth c H1 locs1 ls ad kc D z A hF hC (hD.put hi hh (by simp [cE, List.map_set]) hP1 hD1 hS1))
  · exact va_putN (D := D) (cl := vwCl) (tys := tysOf kc) (ws := cW ad kc h n) (v := cv ad v) hF.1 hF.2.1 hF.2.2.2.2.1 hin ty0 h0 hnm hF.2.2.2.1 hD.1 hD.2.1 hD.2.2.1 hD.2.2.2.1 i (cW_getE hi he rfl) hc k hk (hF.2.2.2.2.1 _ hw) (fun _ h9 => h9) hf hpd (hty ad).1 (hty ad).2 (by rw [List.length_map]; exact hl) hd
      (fun H1 locs1 hP1 hD1 hS1 => kk p l e1 s m args below meth c H1 locs1 ls ad kc D z A hF hC (hD.put hi hh (by simp [cE, List.map_set]) hP1 hD1 hS1))
  · exact va_putF (D := D) (cl := vwCl) (tys := tysOf kc) (ws := cW ad kc h n) (v := cv ad v) hF.1 hF.2.1 hF.2.2.2.2.1 hin ty0 h0 hnm hF.2.2.2.1 hD.1 hD.2.1 hD.2.2.1 hD.2.2.2.1 i (cW_getE hi he rfl) hc k hk (hF.2.2.2.2.1 _ hw) (fun _ h9 => h9) hf (hF.2.2.2.2.2.2.2.2.2.2 hini) hdec hpd (hty ad).1 (hty ad).2 (by rw [List.length_map]; exact hl) hd
      (fun H1 locs1 hP1 hD1 hS1 => kk p l e1 s m args below meth c H1 locs1 ls ad kc D z A hF hC (hD.put hi hh (by simp [cE, List.map_set]) hP1 hD1 hS1))
theorem aw_iald {i len : Nat} {f : Nat → Int32} {j : Int32} (hd : decode T.2.1 pc = .ok (.iaload, 1)) (he : h i = .inl (0, len, .inl f)) (hi : i < n) (hj : vp_in j len) (kk : AW T Q CX (pc + 1) lo (.int (f j.toNatClampNeg) :: st) h n ce sl) : AW T Q CX pc lo (.int j :: .ref i :: st) h n ce sl := by
  intro p l e1 s m args below meth c H locs ls ad kc D z A hF hC hD
  exact va_iald hF.1 hF.2.1 hD.1 hD.2.1 i 0 (cW_getE hi he rfl) rfl hj hd (kk p l e1 s m args below meth c H locs ls ad kc D z A hF hC hD)
theorem aw_bald {i len : Nat} {f : Nat → Int32} {j : Int32} (hd : decode T.2.1 pc = .ok (.baload, 1)) (he : h i = .inl (1, len, .inl f)) (hi : i < n) (hj : vp_in j len) (kk : AW T Q CX (pc + 1) lo (.int (f j.toNatClampNeg) :: st) h n ce sl) : AW T Q CX pc lo (.int j :: .ref i :: st) h n ce sl := by
  intro p l e1 s m args below meth c H locs ls ad kc D z A hF hC hD
  exact va_bald hF.1 hF.2.1 hD.1 hD.2.1 i 1 (cW_getE hi he rfl) rfl hj hd (kk p l e1 s m args below meth c H locs ls ad kc D z A hF hC hD)
theorem aw_zald {i len : Nat} {f : Nat → Int32} {j : Int32} (hd : decode T.2.1 pc = .ok (.baload, 1)) (he : h i = .inl (3, len, .inl f)) (hi : i < n) (hj : vp_in j len) (kk : AW T Q CX (pc + 1) lo (.int (f j.toNatClampNeg) :: st) h n ce sl) : AW T Q CX pc lo (.int j :: .ref i :: st) h n ce sl := by
  intro p l e1 s m args below meth c H locs ls ad kc D z A hF hC hD
  exact va_zald hF.1 hF.2.1 hD.1 hD.2.1 i 3 (cW_getE hi he rfl) rfl hj hd (kk p l e1 s m args below meth c H locs ls ad kc D z A hF hC hD)
theorem aw_lald {i len : Nat} {f : Nat → Int64} {j : Int32} (hd : decode T.2.1 pc = .ok (.laload, 1)) (he : h i = .inl (2, len, .inr (.inl f))) (hi : i < n) (hj : vp_in j len) (kk : AW T Q CX (pc + 1) lo (.long (f j.toNatClampNeg) :: st) h n ce sl) : AW T Q CX pc lo (.int j :: .ref i :: st) h n ce sl := by
  intro p l e1 s m args below meth c H locs ls ad kc D z A hF hC hD
  exact va_lald hF.1 hF.2.1 hD.1 hD.2.1 i 2 (cW_getE hi he rfl) rfl hj hd (kk p l e1 s m args below meth c H locs ls ad kc D z A hF hC hD)
theorem cv_rf (ad : Nat → Nat) (r : Option Nat) : cv ad (va_rf r) = va_rf (r.map ad) := by cases r <;> rfl
theorem aw_aald {i len : Nat} {f : Nat → Option Nat} {j : Int32} (hd : decode T.2.1 pc = .ok (.aaload, 1)) (he : h i = .inl (4, len, .inr (.inr (.inr (.inr f))))) (hi : i < n) (hj : vp_in j len) (kk : AW T Q CX (pc + 1) lo (va_rf (f j.toNatClampNeg) :: st) h n ce sl) : AW T Q CX pc lo (.int j :: .ref i :: st) h n ce sl := by
  intro p l e1 s m args below meth c H locs ls ad kc D z A hF hC hD
  have k1 := kk p l e1 s m args below meth c H locs ls ad kc D z A hF hC hD
  rw [List.map_cons, cv_rf] at k1
  exact va_aldq hF.1 hF.2.1 hD.1 hD.2.1 i 4 (cW_getE hi he rfl) rfl hj hd k1
theorem aw_alen {i len k : Nat} {x : (Nat → Int32) ⊕ (Nat → Int64) ⊕ (Nat → UInt32) ⊕ (Nat → UInt64) ⊕ (Nat → Option Nat)} {v : Int32} (hd : decode T.2.1 pc = .ok (.arraylength, 1)) (he : h i = .inl (k, len, x)) (hi : i < n) (hk : k < 5) (hv : Int32.ofNat len = v) (kk : AW T Q CX (pc + 1) lo (.int v :: st) h n ce sl) : AW T Q CX pc lo (.ref i :: st) h n ce sl := by
  intro p l e1 s m args below meth c H locs ls ad kc D z A hF hC hD
  have h1 : ∃ y, cvA ad (len, x) = (len, y) := by
    rcases x with f | f | f | f | f <;> exact ⟨_, rfl⟩
  obtain ⟨y, hy⟩ := h1
  have h2 : ∃ ty, (tysOf kc)[k]? = some (kc k, ty) := by
    rcases (show k = 0 ∨ k = 1 ∨ k = 2 ∨ k = 3 ∨ k = 4 by omega) with rfl | rfl | rfl | rfl | rfl <;> exact ⟨_, rfl⟩
  obtain ⟨ty, h2⟩ := h2
  exact va_alen hF.1 hF.2.1 hD.1 hD.2.1 i k (x := (len, y)) (cW_getE hi he (by simp [cE, hy])) h2 hv hd (kk p l e1 s m args below meth c H locs ls ad kc D z A hF hC hD)
theorem aw_iast {i len : Nat} {f : Nat → Int32} {j x : Int32} (hd : decode T.2.1 pc = .ok (.iastore, 1)) (he : h i = .inl (0, len, .inl f)) (hi : i < n) (hj : vp_in j len) (hh : hset h i (.inl (0, len, .inl (upd f j.toNatClampNeg x))) = h') (kk : AW T Q CX (pc + 1) lo st h' n ce sl) : AW T Q CX pc lo (.int x :: .int j :: .ref i :: st) h n ce sl := by
  intro p l e1 s m args below meth c H locs ls ad kc D z A hF hC hD
  exact va_iast hF.1 hF.2.1 hD.1 hD.2.1 hD.2.2.1 hD.2.2.2.1 i 0 (cW_getE hi he rfl) rfl hj hd (fun H1 locs1 hP1 hD1 hS1 => kk p l e1 s m args below meth c H1 locs1 ls ad kc D z A hF hC (hD.put hi hh rfl hP1 hD1 hS1))
theorem aw_bast {i len : Nat} {f : Nat → Int32} {j x : Int32} (hd : decode T.2.1 pc = .ok (.bastore, 1)) (he : h i = .inl (1, len, .inl f)) (hi : i < n) (hj : vp_in j len) (hh : hset h i (.inl (1, len, .inl (upd f j.toNatClampNeg (vp_nar .byte x)))) = h') (kk : AW T Q CX (pc + 1) lo st h' n ce sl) : AW T Q CX pc lo (.int x :: .int j :: .ref i :: st) h n ce sl := by
  intro p l e1 s m args below meth c H locs ls ad kc D z A hF hC hD
  exact va_bast hF.1 hF.2.1 hD.1 hD.2.1 hD.2.2.1 hD.2.2.2.1 i 1 (cW_getE hi he rfl) rfl hj hd (fun H1 locs1 hP1 hD1 hS1 => kk p l e1 s m args below meth c H1 locs1 ls ad kc D z A hF hC (hD.put hi hh rfl hP1 hD1 hS1))
theorem aw_zast {i len : Nat} {f : Nat → Int32} {j x : Int32} (hd : decode T.2.1 pc = .ok (.bastore, 1)) (he : h i = .inl (3, len, .inl f)) (hi : i < n) (hj : vp_in j len) (hh : hset h i (.inl (3, len, .inl (upd f j.toNatClampNeg (vp_nar .boolean x)))) = h') (kk : AW T Q CX (pc + 1) lo st h' n ce sl) : AW T Q CX pc lo (.int x :: .int j :: .ref i :: st) h n ce sl := by
  intro p l e1 s m args below meth c H locs ls ad kc D z A hF hC hD
  exact va_zast hF.1 hF.2.1 hD.1 hD.2.1 hD.2.2.1 hD.2.2.2.1 i 3 (cW_getE hi he rfl) rfl hj hd (fun H1 locs1 hP1 hD1 hS1 => kk p l e1 s m args below meth c H1 locs1 ls ad kc D z A hF hC (hD.put hi hh rfl hP1 hD1 hS1))
theorem aw_last {i len : Nat} {f : Nat → Int64} {j : Int32} {x : Int64} (hd : decode T.2.1 pc = .ok (.lastore, 1)) (he : h i = .inl (2, len, .inr (.inl f))) (hi : i < n) (hj : vp_in j len) (hh : hset h i (.inl (2, len, .inr (.inl (vp_updL f j.toNatClampNeg x)))) = h') (kk : AW T Q CX (pc + 1) lo st h' n ce sl) : AW T Q CX pc lo (.long x :: .int j :: .ref i :: st) h n ce sl := by
  intro p l e1 s m args below meth c H locs ls ad kc D z A hF hC hD
  exact va_last hF.1 hF.2.1 hD.1 hD.2.1 hD.2.2.1 hD.2.2.2.1 i 2 (cW_getE hi he rfl) rfl hj hd (fun H1 locs1 hP1 hD1 hS1 => kk p l e1 s m args below meth c H1 locs1 ls ad kc D z A hF hC (hD.put hi hh rfl hP1 hD1 hS1))
/-- the n entries h stand in t's heap -/
def AWd (kc : Nat → ClassId) (D : va_G) (z : (Nat → Nat) × Nat) (A : Nat → Prop) (ad : Nat → Nat) (h : Nat → AE) (n : Nat) (t : State) : Prop :=
  va_P D vwCl (cW ad kc h n) t.heap ∧ va_K D vwCl (tysOf kc) t ∧ va_D A (cW ad kc h n) ∧ (∀ i, (i < z.2 ∨ n ≤ i) → ad i = z.1 i) ∧ (z.2 ≤ n ∧ n ≤ 900000)
def AQc (Po : APost) (kc : Nat → ClassId) (D : va_G) (z : (Nat → Nat) × Nat) (A : Nat → Prop) : Array Value → State → Outcome → State → Prop := fun _ s o t =>
  (∃ (v : Option Value) (h : Nat → AE) (n : Nat) (ad : Nat → Nat), o = .returned (v.map (cv ad)) ∧ Po (.inl v) h n ∧ AWd kc D z A ad h n t) ∧ va_F A s t
def AXc (Po : APost) (kc : Nat → ClassId) (D : va_G) (z : (Nat → Nat) × Nat) (A : Nat → Prop) : String → State → State → Prop := fun E s t =>
  (∃ (h : Nat → AE) (n : Nat) (ad : Nat → Nat), Po (.inr E) h n ∧ AWd kc D z A ad h n t) ∧ va_F A s t
/-- a method's own end -/
def AQm (T : ATy) (Po : APost) : AQ := fun below args s kc D z A => vx_MQ below (AQc Po kc D z A) (AXc Po kc D z A) args s T.2.2.2.2.1.cells T.2.2.2.2.1.slots A
/-- what a call asks of its start -/
def APc (av : List Value) (h : Nat → AE) (n : Nat) (ad : Nat → Nat) (kc : Nat → ClassId) (D : va_G) (sz : Nat) : Array Value → State → Prop :=
  va_Pc (av.map (cv ad)) (fun U => U.heap.size = sz ∧ n ≤ 900000 ∧ va_K D vwCl (tysOf kc) U ∧ va_P D vwCl (cW ad kc h n) U.heap ∧ va_D (fun _ => True) (cW ad kc h n) ∧ EV (fun k => ad (900000 + k)) (va_A (cW ad kc h n) sz) U U.heap)
/-- a method's CONTRACT: called with av over the n entries h it ends as Po says -/
def AMet (T : ATy) (y : MethodName) (ws : List Cond) (av : List Value) (h : Nat → AE) (n : Nat) (Po : APost) : Prop :=
  ∀ (l : Launch), l.stackTraces = false → ∀ (ad : Nat → Nat) (kc : Nat → ClassId) (D : va_G) (sz : Nat),
    vx_Met l y ws T.2.2.2.2.1 (APc av h n ad kc D sz) (AQc Po kc D (ad, n) (va_A (cW ad kc h n) sz)) (AXc Po kc D (ad, n) (va_A (cW ad kc h n) sz)) T.2.2.2.2.1.cells T.2.2.2.2.1.slots (va_A (cW ad kc h n) sz)
theorem AMet.mono {y : MethodName} {ws : List Cond} {av : List Value} {Po Po' : APost} (hp : ∀ o h n, Po o h n → Po' o h n) (hM : AMet T y ws av h n Po) : AMet T y ws av h n Po' := by
  intro l hl ad kc D sz p e h1 h2 h3 s m args below h4 h5 h6 h7
  obtain ⟨k, o, a1, a2, a3, a4⟩ := hM l hl ad kc D sz p e h1 h2 h3 s m args below h4 h5 h6 h7
  refine ⟨k, o, a1, a2, a3, ?_⟩
  rcases a4 with ⟨⟨⟨v, h', n', ad', b1, b2, b3⟩, b4⟩, b5⟩ | ⟨q, b1, E, ce, L, ⟨⟨h', n', ad', b2, b3⟩, b4⟩, b5⟩
  · exact Or.inl ⟨⟨⟨v, h', n', ad', b1, hp _ _ _ b2, b3⟩, b4⟩, b5⟩
  · exact Or.inr ⟨q, b1, E, ce, L, ⟨⟨h', n', ad', hp _ _ _ b2, b3⟩, b4⟩, b5⟩
theorem dy_awd {s t : State} {H : Heap} {locs : List Loc} {ls : Array Slot} {ad : Nat → Nat} {kc : Nat → ClassId} {D : va_G} {z : (Nat → Nat) × Nat} {A : Nat → Prop} (hD : DY T s H locs ls ad kc D z A lo h n) (ht : t.heap = H) (hv : s.vm.Alike t.vm) : AWd kc D z A ad h n t :=
  ⟨by rw [ht]; exact hD.2.1, va_K.moved hv hD.1, hD.2.2.1, hD.2.2.2.2.1, hD.2.2.2.2.2.1⟩
theorem aw_iret {Po : APost} {v : Int32} (hr : T.2.2.2.1 = some .int) (hd : decode T.2.1 pc = .ok (.ireturn, 1)) (hce : ce ≤ T.2.2.2.2.1.cells) (hsl : sl ≤ T.2.2.2.2.1.slots) (hp : Po (.inl (some (.int v))) h n) : AW T (AQm T Po) CX pc lo [.int v] h n ce sl := by
  intro p l e1 s m args below meth c H locs ls ad kc D z A hF hC hD
  refine W.widen hce hsl (vx_ret (W.iret hF.1 hF.2.1 (hF.2.2.2.2.2.2.1.trans hr) (fun t ht hW => ?_) hD.2.2.2.1.2.2 hd (hlocks := hF.2.2.2.2.2.1)))
  exact ⟨⟨some (.int v), h, n, ad, rfl, hp, dy_awd hD ht hW.alike⟩, hD.2.2.2.1.F ht⟩
theorem aw_zret {Po : APost} {v : Int32} (hr : T.2.2.2.1 = some .boolean) (hd : decode T.2.1 pc = .ok (.ireturn, 1)) (hn : narrow .boolean (.int v) = .int v) (hce : ce ≤ T.2.2.2.2.1.cells) (hsl : sl ≤ T.2.2.2.2.1.slots) (hp : Po (.inl (some (.int v))) h n) : AW T (AQm T Po) CX pc lo [.int v] h n ce sl := by
  intro p l e1 s m args below meth c H locs ls ad kc D z A hF hC hD
  refine W.widen hce hsl (vx_ret (W.zret hF.1 hF.2.1 (hF.2.2.2.2.2.2.1.trans hr) hn (fun t ht hW => ?_) hD.2.2.2.1.2.2 hd (hlocks := hF.2.2.2.2.2.1)))
  exact ⟨⟨some (.int v), h, n, ad, rfl, hp, dy_awd hD ht hW.alike⟩, hD.2.2.2.1.F ht⟩
theorem aw_lret {Po : APost} {v : Int64} (hr : T.2.2.2.1 = some .long) (hd : decode T.2.1 pc = .ok (.lreturn, 1)) (hce : ce ≤ T.2.2.2.2.1.cells) (hsl : sl ≤ T.2.2.2.2.1.slots) (hp : Po (.inl (some (.long v))) h n) : AW T (AQm T Po) CX pc lo [.long v] h n ce sl := by
  intro p l e1 s m args below meth c H locs ls ad kc D z A hF hC hD
  refine W.widen hce hsl (vx_ret (W.lret hF.1 hF.2.1 (hF.2.2.2.2.2.2.1.trans hr) (fun t ht hW => ?_) hD.2.2.2.1.2.2 hd (hlocks := hF.2.2.2.2.2.1)))
  exact ⟨⟨some (.long v), h, n, ad, rfl, hp, dy_awd hD ht hW.alike⟩, hD.2.2.2.1.F ht⟩
theorem aw_vret {Po : APost} (hr : T.2.2.2.1 = none) (hd : decode T.2.1 pc = .ok (.return_, 1)) (hce : ce ≤ T.2.2.2.2.1.cells) (hsl : sl ≤ T.2.2.2.2.1.slots) (hp : Po (.inl none) h n) : AW T (AQm T Po) CX pc lo [] h n ce sl := by
  intro p l e1 s m args below meth c H locs ls ad kc D z A hF hC hD
  refine W.widen hce hsl (vx_ret (W.vret hF.1 hF.2.1 (hF.2.2.2.2.2.2.1.trans hr) (fun t ht hW => ?_) hD.2.2.2.1.2.2 hd (hlocks := hF.2.2.2.2.2.1)))
  exact ⟨⟨none, h, n, ad, rfl, hp, dy_awd hD ht hW.alike⟩, hD.2.2.2.1.F ht⟩
theorem args_mem : ∀ (vs : List Value) (k i : Nat) (v : Value), (∀ w ∈ vs, w.category = 1) → vs[i]? = some v → (k + i, v) ∈ lv_args k vs
  | [], k, i, v, _, h => by simp at h
  | w :: vs, k, i, v, hc, h => by
    have h1 : ¬ w.category = 2 := by rw [hc w List.mem_cons_self]; decide
    rw [lv_args, if_neg h1]
    cases i with
    | zero => simp at h; subst h; exact List.mem_cons_self
    | succ i =>
      refine List.mem_cons_of_mem _ ?_
      have := args_mem vs (k + 1) i v (fun w hw => hc w (List.mem_cons_of_mem _ hw)) (by simpa using h)
      rw [show k + (i + 1) = k + 1 + i by omega]
      exact this
theorem sl_len : ∀ (vs : List Value), (∀ w ∈ vs, w.category = 1) → (lg_sl vs).length = vs.length
  | [], _ => rfl
  | w :: vs, hc => by
    have h1 : ¬ w.category = 2 := by rw [hc w List.mem_cons_self]; decide
    have h2 := sl_len vs (fun w hw => hc w (List.mem_cons_of_mem _ hw))
    unfold lg_sl at h2 ⊢
    simp only [List.flatMap_cons, List.length_append, List.length_cons, h1, if_false]
    rw [h2]
    simp [Nat.add_comm]
theorem amet_of {y : MethodName} {av : List Value} {Po : APost} (hy : plainName y.cls = true) (hyn : y.cls = T.1) (hini : T.2.2.2.2.2 = true → y.name = "<init>") (hlen : av.length ≤ T.2.2.1) (hcat : ∀ v ∈ av, v.category = 1) (hlo : av.map some ++ List.replicate (T.2.2.1 - av.length) none = lo)
    (body : AW T (AQm T Po) C0 0 lo [] h n 0 0) : AMet T y [Cond.code y T.2.1 T.2.2.1 T.2.2.2.1] av h n Po := by
  intro l hl ad kc D sz
  refine vx_ofW (cc := T.2.1) (maxL := T.2.2.1) (ret := T.2.2.2.1) (ws' := []) hy rfl ?_
  intro p e s m args below meth c s₁ B hml hX hv
  obtain ⟨rfl, hsz, hn9, hK, hP, hD0, hE⟩ := hv
  subst hsz
  have hcat' : ∀ w ∈ av.map (cv ad), w.category = 1 := fun w hw => by
    obtain ⟨v, h1, rfl⟩ := List.mem_map.mp hw
    rw [cv_cat]; exact hcat v h1
  have hl0 := lv_entry (av.map (cv ad)) (n := T.2.2.1) (by rw [sl_len _ hcat', List.length_map]; exact hlen)
  rw [lg_entry_eq]
  refine body p l e s m _ below meth c s.heap [] _ ad kc D (ad, n) (va_A (cW ad kc h n) s.heap.size) ?_ hX ?_
  · have hown : s.vm.findClass y.cls = some m.cls := findClass_of_methodNamed B.named
    refine ⟨B.exec, B.bytes, hml, by rw [← hyn]; exact hown, fun w hw => pw_warm (List.mem_filter.mp hw).2 (State.WarmedH.refl s) (hE.1 w hw), B.notSynchronized, B.returns, hl, fun q hq => Or.inr hq, hE, fun hi => ?_⟩
    rw [(name_of_methodNamed B.named B.method).1]
    exact hini hi
  · refine ⟨hK, hP, hD0.self, va_S.rf, fun _ _ => rfl, ⟨Nat.le_refl _, hn9⟩, ⟨hl0.1, hl0.2.1, fun i v hi => ?_⟩⟩
    subst hlo
    have hi2 : av[i]? = some v := by
      rw [List.getElem?_append] at hi
      split at hi
      · rw [List.getElem?_map] at hi
        cases ha : av[i]? with
        | none => rw [ha] at hi; simp at hi
        | some w => rw [ha] at hi; simp at hi; rw [hi]
      · rw [List.getElem?_replicate] at hi
        split at hi <;> simp at hi
    have := args_mem (av.map (cv ad)) 0 i (cv ad v) hcat' (by rw [List.getElem?_map, hi2]; rfl)
    rw [Nat.zero_add] at this
    exact hl0.2.2 _ this

theorem met_of_vx {l : Launch} {y : MethodName} {ws : List Cond} {rm : Room} {Pc : Array Value → State → Prop} {Qc : Array Value → State → Outcome → State → Prop} {XC : String → State → State → Prop} {mc ms : Nat} {free : Addr → Prop} (hM : vx_Met l y ws rm Pc Qc XC mc ms free) (hX : ∀ E s t, ¬ XC E s t) : Met l y ws rm Pc Qc mc ms free := by
  intro p e h1 h2 h3 s m args below h4 h5 h6 h7
  obtain ⟨k, o, a1, a2, a3, a4⟩ := hM p e h1 h2 h3 s m args below h4 h5 h6 h7
  refine ⟨k, o, a1, a2, a3, ?_⟩
  rcases a4 with a4 | ⟨q, b1, E, ce, L, b2, -⟩
  · exact a4
  · exact absurd b2 (hX _ _ _)
theorem run_of_va {p : Program} {l : Launch} {e : Env} {R : Room} {s : State} {m : MethodId} {args : Array Value} {below : List Frame} {meth : Method} {c : Code} {H : Heap} {locs : List Loc} {cells slots mc ms : Nat} {g : JFrame} {rest : List Value} {Qa : State → Outcome → State → Prop} {XC : String → State → State → Prop} {free : Addr → Prop}
    (hr : va_Run p l e R s m args below meth c H locs cells slots mc ms g rest Qa free) : vx_Run p l e R s m args below meth c H locs cells slots mc ms g rest Qa XC free := by
  intro T hT X
  exact Or.inl (hr T hT X)
/-- behind a call -/
theorem aw_run {Po : APost} {p : Program} {l : Launch} {e0 : Env} {s : State} {m : MethodId} {args : Array Value} {below : List Frame} {meth : Method} {c : Code} {H : Heap} {locs : List Loc} {ls : Array Slot} {ad : Nat → Nat} {kc : Nat → ClassId} {D : va_G} {z : (Nat → Nat) × Nat} {A : Nat → Prop} {mc ms : Nat} {sk : List Value} {a : Array Value}
    (hF : FX T p l s m args meth c z A) (hC : CX c s z A) (hD : DY T s H locs ls ad kc D z A lo h n)
    (hr : vx_Run p l e0 T.2.2.2.2.1 s m args below meth c H locs ce sl mc ms (F0 m pc ls sk) (st.map (cv ad)) (AQc Po kc D (ad, n) (va_A (cW ad kc h n) H.size) a) (AXc Po kc D (ad, n) (va_A (cW ad kc h n) H.size)) (va_A (cW ad kc h n) H.size))
    (hna : ∀ o h' n', Po o h' n' → n' = n)
    (kx : ∀ (E : String) (h' : Nat → AE) (H1 : Heap) (locs1 : List Loc) (q : Addr) (cl : Cell), Po (.inr E) h' n → DY T s H1 locs1 ls ad kc D z A lo h' n → H1[q]? = some cl → cl.vm = .none → s.vm.findClass E = some cl.cls → vx_W p l e0 T.2.2.2.2.1 s m args below meth c H1 locs1 (ce + mc) (sl + ms) (Q below args s kc D z A) (F0 m pc ls (st.map (cv ad))) q)
    (kk : ∀ (v : Option Value) (h' : Nat → AE), Po (.inl v) h' n → AW T Q CX (pc + 3) lo (v.toList ++ st) h' n (ce + mc) (sl + ms)) : W p l e0 T.2.2.2.2.1 s m args below meth c H locs ce sl (Q below args s kc D z A) (F0 m pc ls sk) := by
  intro T0 hT X
  have hA : ∀ q, va_A (cW ad kc h n) H.size q → A q := by
    intro q hq
    rcases hq with ⟨k, e, hk⟩ | hq
    · exact hD.2.2.1.2 k _ hk
    · exact hF.2.2.2.2.2.2.2.2.1 q (Nat.le_trans hD.2.2.2.1.1 hq)
  have hdy : ∀ (h' : Nat → AE) (ad' : Nat → Nat) (t T' : State) (L : List Loc), T'.heap = t.heap → s.vm.Alike t.vm → va_S A s.heap T'.heap (locs ++ L) → AWd kc D (ad, n) (va_A (cW ad kc h n) H.size) ad' h' n t → ad' = ad ∧ DY T s T'.heap (locs ++ L) ls ad kc D z A lo h' n := by
    intro h' ad' t T' L e1 hv k3 hw
    have had : ad' = ad := by
      funext i
      rcases Nat.lt_or_ge i n with q | q
      · exact hw.2.2.2.1 i (Or.inl q)
      · exact hw.2.2.2.1 i (Or.inr q)
    subst had
    exact ⟨rfl, hD.1, by rw [e1]; exact hw.1, hw.2.2.1.weaken (fun _ q _ hq => hA q.1 hq), k3, hD.2.2.2.2.1, hD.2.2.2.2.2.1, hD.2.2.2.2.2.2⟩
  rcases hr T0 hT X with ⟨v0, st₀, t, T', L, h0, X', hL, e1, e2, ⟨⟨v, h', n', ad', hv, hp, hw⟩, hFr⟩, st1⟩ | ⟨q, st₀, t, T', L, E, cl, h0, X', hL, e1, e2, ⟨⟨h', n', ad', hp, hw⟩, hFr⟩, hce, hcv, hcl, st1⟩
  · obtain rfl := hna _ _ _ hp
    obtain ⟨k1, k2, k3⟩ := vx_keep h0 e1 hD.2.2.2.1 (fun q _ hq => hA q hq) hA hL hFr
    obtain ⟨rfl, hdy1⟩ := hdy h' ad' t T' L e1 (by rw [← e2]; exact X'.warmed.alike) k3 hw
    have hv' : v0 = v.map (cv ad') := by cases hv; rfl
    subst hv'
    obtain ⟨t2, a1, b1⟩ := kk v h' hp p l e0 s m args below meth c T'.heap (locs ++ L) ls ad' kc D z A hF hC hdy1 T' rfl X'
    refine ⟨t2, st1 t2 ?_, b1⟩
    have e3 : (v.toList ++ st).map (cv ad') = (v.map (cv ad')).toList ++ st.map (cv ad') := by cases v <;> simp
    rw [e3] at a1
    exact a1
  · obtain rfl := hna _ _ _ hp
    obtain ⟨k1, k2, k3⟩ := vx_keep h0 e1 hD.2.2.2.1 (fun q _ hq => hA q hq) hA hL hFr
    obtain ⟨rfl, hdy1⟩ := hdy h' ad' t T' L e1 (by rw [← e2]; exact X'.warmed.alike) k3 hw
    obtain ⟨t2, a1, b1⟩ := kx E h' T'.heap (locs ++ L) q cl hp hdy1 (by rw [e1]; exact hce) hcv hcl T' rfl X'
    exact ⟨t2, st1.trans a1, b1⟩
/-- a method that can be called: its code, its class, how many arguments -/
def KO (y : MethodName) (cc : ByteArray) (maxL : Nat) (ret : Option FieldType) (na : Nat) : Prop := Cond.code y cc maxL ret ∈ GW ∧ Cond.initialized y.cls ∈ GW ∧ (y.cls ≠ "java/lang/invoke/MethodHandle" ∧ y.cls ≠ "java/lang/invoke/VarHandle" ∧ (parseMethodDescriptor y.desc).map (fun d => d.parameters.length) = some na)
/-- .. and how own links it -/
def KL (own : String) (index : Nat) (y : MethodName) : Prop := Cond.methodLink own index y ∈ GW ∨ ∃ host, Cond.methodLinkNest own index y host ∈ GW
def KV (own : String) (index : Nat) (y : MethodName) : Prop := KL own index y ∧ Cond.instanceMethod y ∈ GW ∧ Cond.selects y.cls y y ∈ GW
def KS (own : String) (index : Nat) (y : MethodName) : Prop := KL own index y ∧ Cond.static y ∈ GW
def KI (own : String) (index : Nat) (y : MethodName) : Prop := KL own index y ∧ y.name = "<init>" ∧ Cond.instanceMethod y ∈ GW
theorem ko_good {y : MethodName} {cc : ByteArray} {maxL na : Nat} {ret : Option FieldType} (hk : KO y cc maxL ret na) : GoodIn GW [Cond.code y cc maxL ret] := by
  intro w hw
  rw [List.mem_singleton] at hw
  subst hw
  exact ⟨hk.1, good_of_word (show goodWord _ = true from (List.mem_filter.mp hk.1).2)⟩
theorem apc_blind {av : List Value} {ad : Nat → Nat} {kc : Nat → ClassId} {D : va_G} {sz : Nat} : FrameBlind (APc av h n ad kc D sz) := by
  intro a U g mk hp
  obtain ⟨h1, h2, h9, h3, h4, h5, h6⟩ := hp
  exact ⟨h1, h2, h9, va_K.moved (u := U) (U := U.calling g mk a) (Vm.Alike.refl U.vm) h3, h4, h5, EV.call h6⟩
theorem apc_at {av : List Value} {p : Program} {l : Launch} {s : State} {m : MethodId} {args : Array Value} {meth : Method} {c : Code} {H : Heap} {locs : List Loc} {ls : Array Slot} {ad : Nat → Nat} {kc : Nat → ClassId} {D : va_G} {z : (Nat → Nat) × Nat} {A : Nat → Prop} (hF : FX T p l s m args meth c z A) (hD : DY T s H locs ls ad kc D z A lo h n) :
    ∀ U : State, U.heap = H → s.WarmedH U.vm → APc av h n ad kc D H.size (av.map (cv ad)).toArray U := by
  intro U hU hW
  have hA : ∀ q, va_A (cW ad kc h n) H.size q → A q := by
    intro q hq
    rcases hq with ⟨k, e, hk⟩ | hq
    · exact hD.2.2.1.2 k _ hk
    · exact hF.2.2.2.2.2.2.2.2.1 q (Nat.le_trans hD.2.2.2.1.1 hq)
  have hsa : (fun k => ad (900000 + k)) = (fun k => z.1 (900000 + k)) := by
    funext k
    exact hD.2.2.2.2.1 _ (Or.inr (Nat.le_trans hD.2.2.2.2.2.1.2 (Nat.le_add_right _ _)))
  refine ⟨rfl, by rw [hU], hD.2.2.2.2.2.1.2, va_K.moved hW.alike hD.1, by rw [hU]; exact hD.2.1, hD.2.2.1.weaken (fun _ _ _ _ => trivial), ?_⟩
  rw [hsa]
  exact EV.step hF.2.2.2.2.2.2.2.2.2.1 hD.2.2.2.1 hU hW hA
theorem sum_cat (ad : Nat → Nat) (st : List Value) : ((st.map (cv ad)).map fun v => v.category).sum = (st.map fun v => v.category).sum := by
  rw [List.map_map]
  congr 1
  apply List.map_congr_left
  intro v _
  exact cv_cat ad v
/-- room for a call -/
abbrev RmOk (T Tc : ATy) (ce sl : Nat) : Prop := Tc.2.2.2.2.1.frames + 1 ≤ T.2.2.2.2.1.frames ∧ 8 + (Tc.2.2.1 + 11) + Tc.2.2.2.2.1.locals ≤ T.2.2.2.2.1.locals ∧ ce + Tc.2.2.2.2.1.cells ≤ T.2.2.2.2.1.cells ∧ sl + Tc.2.2.2.2.1.slots ≤ T.2.2.2.2.1.slots
section Crows
variable {Tc : ATy} {y : MethodName} {Po Po' : APost} {index : Nat} {sk as : List Value} {i ci na : Nat} {fs : List Value} {r : vw_C}
theorem aw_callV (hL : KV T.1 index y) (hK : KO y Tc.2.1 Tc.2.2.1 Tc.2.2.2.1 na) (hM : AMet Tc y [Cond.code y Tc.2.1 Tc.2.2.1 Tc.2.2.2.1] (.ref i :: as) h n Po) (hd : decode T.2.1 pc = .ok (.invokevirtual index, 3)) (he : h i = .inr (ci, fs)) (hi : i < n) (hcl : vwCl[ci]? = some r) (hr1 : r.1 = y.cls) (hst : sk = as.reverse ++ .ref i :: st) (hna9 : as.length = na) (hw : (st.map fun v => v.category).sum ≤ 8) (hR : RmOk T Tc ce sl)
    (hnx : ∀ E h' n', ¬ Po (.inr E) h' n') (hna : ∀ o h' n', Po o h' n' → n' = n) (kk : ∀ (v : Option Value) (h' : Nat → AE), Po (.inl v) h' n → AW T Q CX (pc + 3) lo (v.toList ++ st) h' n (ce + Tc.2.2.2.2.1.cells) (sl + Tc.2.2.2.2.1.slots)) : AW T Q CX pc lo sk h n ce sl := by
  intro p l e1 s m args below meth c H locs ls ad kc D z A hF hC hD
  have hM1 := met_of_vx (hM l hF.2.2.2.2.2.2.2.1 ad kc D H.size) (fun E s t hx => by obtain ⟨⟨h', n', ad', hp, -⟩, -⟩ := hx; exact hnx _ _ _ hp)
  have hrec := va_recv hD.1 hD.2.1 hcl (cW_getE (ad := ad) (kc := kc) hi he rfl)
  rw [hr1] at hrec
  subst hst
  refine aw_run (a := (Value.ref (ad i) :: as.map (cv ad)).toArray) (mc := Tc.2.2.2.2.1.cells) (ms := Tc.2.2.2.2.1.slots) hF hC hD ?_ hna (fun E h' H1 locs1 q cl hp => absurd hp (hnx _ _ _)) kk
  refine run_of_va ?_
  obtain ⟨hL | ⟨host, hL⟩, hins, hsel⟩ := hL
  · exact va_runV (bytes := Tc.2.1) (maxL := Tc.2.2.1) (ret := Tc.2.2.2.1) (n := na) (C := y.cls) (b := ad i) (As := as.map (cv ad)) (own := T.1) (Ts := GW) (nL := T.2.2.1) ⟨hF.1, hF.2.1, hF.2.2.1, hF.2.2.2.1, hF.2.2.2.2.1⟩ hM1
      ⟨callB_of (ws' := []) na hF.2.2.2.2.1 (ko_good hK) rfl rfl rfl (hF.2.2.2.2.1 _ hK.2.1) (hF.2.2.2.2.1 _ hL) hK.2.2 ⟨hR.1, hR.2.1⟩, hF.2.2.2.2.1 _ hins, hF.2.2.2.2.1 _ hsel⟩
      ⟨apc_blind, hrec, apc_at (av := .ref i :: as) hF hD⟩ rfl (by rw [List.length_map]; exact hna9) hD.2.2.2.2.2.2.1 (by simp [List.map_append, List.map_reverse, cv]) (lv_room (by rw [sum_cat]; exact hw)) hd ⟨hR.2.2.1, hR.2.2.2⟩
  · exact va_runVN (bytes := Tc.2.1) (maxL := Tc.2.2.1) (ret := Tc.2.2.2.1) (n := na) (C := y.cls) (b := ad i) (As := as.map (cv ad)) (own := T.1) (Ts := GW) (nL := T.2.2.1) ⟨hF.1, hF.2.1, hF.2.2.1, hF.2.2.2.1, hF.2.2.2.2.1⟩ hM1
      ⟨va_cnB (ws' := []) na hF.2.2.2.2.1 (ko_good hK) rfl rfl rfl (va_Nw.of rfl (hF.2.2.2.2.1 _ hL)) (hF.2.2.2.2.1 _ hK.2.1) hK.2.2 ⟨hR.1, hR.2.1⟩, hF.2.2.2.2.1 _ hins, hF.2.2.2.2.1 _ hsel⟩
      ⟨apc_blind, hrec, apc_at (av := .ref i :: as) hF hD⟩ rfl (by rw [List.length_map]; exact hna9) hD.2.2.2.2.2.2.1 (by simp [List.map_append, List.map_reverse, cv]) (lv_room (by rw [sum_cat]; exact hw)) hd ⟨hR.2.2.1, hR.2.2.2⟩
theorem aw_callS (hL : KS T.1 index y) (hK : KO y Tc.2.1 Tc.2.2.1 Tc.2.2.2.1 na) (hM : AMet Tc y [Cond.code y Tc.2.1 Tc.2.2.1 Tc.2.2.2.1] as h n Po) (hd : decode T.2.1 pc = .ok (.invokestatic index, 3)) (hst : sk = as.reverse ++ st) (hna9 : as.length = na) (hw : (st.map fun v => v.category).sum ≤ 8) (hR : RmOk T Tc ce sl)
    (hnx : ∀ E h' n', ¬ Po (.inr E) h' n') (hna : ∀ o h' n', Po o h' n' → n' = n) (kk : ∀ (v : Option Value) (h' : Nat → AE), Po (.inl v) h' n → AW T Q CX (pc + 3) lo (v.toList ++ st) h' n (ce + Tc.2.2.2.2.1.cells) (sl + Tc.2.2.2.2.1.slots)) : AW T Q CX pc lo sk h n ce sl := by
  intro p l e1 s m args below meth c H locs ls ad kc D z A hF hC hD
  have hM1 := met_of_vx (hM l hF.2.2.2.2.2.2.2.1 ad kc D H.size) (fun E s t hx => by obtain ⟨⟨h', n', ad', hp, -⟩, -⟩ := hx; exact hnx _ _ _ hp)
  subst hst
  refine aw_run (a := (as.map (cv ad)).toArray) (mc := Tc.2.2.2.2.1.cells) (ms := Tc.2.2.2.2.1.slots) hF hC hD ?_ hna (fun E h' H1 locs1 q cl hp => absurd hp (hnx _ _ _)) kk
  refine run_of_va ?_
  obtain ⟨hL | ⟨host, hL⟩, hsta⟩ := hL
  · exact va_runS (bytes := Tc.2.1) (maxL := Tc.2.2.1) (ret := Tc.2.2.2.1) (n := na) (As := as.map (cv ad)) (own := T.1) (Ts := GW) (nL := T.2.2.1) ⟨hF.1, hF.2.1, hF.2.2.1, hF.2.2.2.1, hF.2.2.2.2.1⟩ hM1
      ⟨callB_of (ws' := []) na hF.2.2.2.2.1 (ko_good hK) rfl rfl rfl (hF.2.2.2.2.1 _ hK.2.1) (hF.2.2.2.2.1 _ hL) hK.2.2 ⟨hR.1, hR.2.1⟩, hF.2.2.2.2.1 _ hsta⟩
      ⟨apc_blind, apc_at (av := as) hF hD⟩ rfl (by rw [List.length_map]; exact hna9) hD.2.2.2.2.2.2.1 (by simp [List.map_append, List.map_reverse]) (lv_room (by rw [sum_cat]; exact hw)) hd ⟨hR.2.2.1, hR.2.2.2⟩
  · exact va_runSN (bytes := Tc.2.1) (maxL := Tc.2.2.1) (ret := Tc.2.2.2.1) (n := na) (As := as.map (cv ad)) (own := T.1) (Ts := GW) (nL := T.2.2.1) ⟨hF.1, hF.2.1, hF.2.2.1, hF.2.2.2.1, hF.2.2.2.2.1⟩ hM1
      ⟨va_cnB (ws' := []) na hF.2.2.2.2.1 (ko_good hK) rfl rfl rfl (va_Nw.of rfl (hF.2.2.2.2.1 _ hL)) (hF.2.2.2.2.1 _ hK.2.1) hK.2.2 ⟨hR.1, hR.2.1⟩, hF.2.2.2.2.1 _ hsta, trivial⟩
      ⟨apc_blind, apc_at (av := as) hF hD⟩ rfl (by rw [List.length_map]; exact hna9) hD.2.2.2.2.2.2.1 (by simp [List.map_append, List.map_reverse]) (lv_room (by rw [sum_cat]; exact hw)) hd ⟨hR.2.2.1, hR.2.2.2⟩
/-- a call that may throw, in a method without handlers -/
theorem aw_xcallV (hL : Cond.methodLink T.1 index y ∈ GW) (hins : Cond.instanceMethod y ∈ GW) (hsel : Cond.selects y.cls y y ∈ GW) (hK : KO y Tc.2.1 Tc.2.2.1 Tc.2.2.2.1 na) (hM : AMet Tc y [Cond.code y Tc.2.1 Tc.2.2.1 Tc.2.2.2.1] (.ref i :: as) h n Po) (hd : decode T.2.1 pc = .ok (.invokevirtual index, 3)) (he : h i = .inr (ci, fs)) (hi : i < n) (hcl : vwCl[ci]? = some r) (hr1 : r.1 = y.cls) (hst : sk = as.reverse ++ .ref i :: st) (hna9 : as.length = na) (hw : (st.map fun v => v.category).sum ≤ 8) (hR : RmOk T Tc ce sl)
    (hna : ∀ o h' n', Po o h' n' → n' = n) (kx : ∀ E h', Po (.inr E) h' n → Po' (.inr E) h' n) (kk : ∀ (v : Option Value) (h' : Nat → AE), Po (.inl v) h' n → AW T (AQm T Po') C0 (pc + 3) lo (v.toList ++ st) h' n (ce + Tc.2.2.2.2.1.cells) (sl + Tc.2.2.2.2.1.slots)) : AW T (AQm T Po') C0 pc lo sk h n ce sl := by
  intro p l e1 s m args below meth c H locs ls ad kc D z A hF hC hD
  have hM1 := hM l hF.2.2.2.2.2.2.2.1 ad kc D H.size
  have hrec := va_recv hD.1 hD.2.1 hcl (cW_getE (ad := ad) (kc := kc) hi he rfl)
  rw [hr1] at hrec
  subst hst
  refine aw_run (a := (Value.ref (ad i) :: as.map (cv ad)).toArray) (mc := Tc.2.2.2.2.1.cells) (ms := Tc.2.2.2.2.1.slots) hF hC hD ?_ hna ?_ kk
  · exact vx_runV (bytes := Tc.2.1) (maxL := Tc.2.2.1) (ret := Tc.2.2.2.1) (n := na) (C := y.cls) (b := ad i) (As := as.map (cv ad)) (own := T.1) (Ts := GW) (nL := T.2.2.1) ⟨hF.1, hF.2.1, hF.2.2.1, hF.2.2.2.1, hF.2.2.2.2.1⟩ hM1
      ⟨callB_of (ws' := []) na hF.2.2.2.2.1 (ko_good hK) rfl rfl rfl (hF.2.2.2.2.1 _ hK.2.1) (hF.2.2.2.2.1 _ hL) hK.2.2 ⟨hR.1, hR.2.1⟩, hF.2.2.2.2.1 _ hins, hF.2.2.2.2.1 _ hsel⟩
      ⟨apc_blind, hrec, apc_at (av := .ref i :: as) hF hD⟩ rfl (by rw [List.length_map]; exact hna9) hD.2.2.2.2.2.2.1 (by simp [List.map_append, List.map_reverse, cv]) (lv_room (by rw [sum_cat]; exact hw)) hd ⟨hR.2.2.1, hR.2.2.2⟩
  · intro E h' H1 locs1 q cl hp hD1 h1 h2 h3
    exact vx_out (fun x hx => (hC x hx).elim) hF.2.2.2.2.2.1 h1 h2 h3 (fun t ht hv => ⟨⟨h', n, ad, kx E h' hp, dy_awd hD1 ht hv⟩, hD1.2.2.2.1.F ht⟩) hD1.2.2.2.1.2.2 hR.2.2.1 hR.2.2.2
theorem aw_xcallS (hL : Cond.methodLink T.1 index y ∈ GW) (hsta : Cond.static y ∈ GW) (hK : KO y Tc.2.1 Tc.2.2.1 Tc.2.2.2.1 na) (hM : AMet Tc y [Cond.code y Tc.2.1 Tc.2.2.1 Tc.2.2.2.1] as h n Po) (hd : decode T.2.1 pc = .ok (.invokestatic index, 3)) (hst : sk = as.reverse ++ st) (hna9 : as.length = na) (hw : (st.map fun v => v.category).sum ≤ 8) (hR : RmOk T Tc ce sl)
    (hna : ∀ o h' n', Po o h' n' → n' = n) (kx : ∀ E h', Po (.inr E) h' n → Po' (.inr E) h' n) (kk : ∀ (v : Option Value) (h' : Nat → AE), Po (.inl v) h' n → AW T (AQm T Po') C0 (pc + 3) lo (v.toList ++ st) h' n (ce + Tc.2.2.2.2.1.cells) (sl + Tc.2.2.2.2.1.slots)) : AW T (AQm T Po') C0 pc lo sk h n ce sl := by
  intro p l e1 s m args below meth c H locs ls ad kc D z A hF hC hD
  have hM1 := hM l hF.2.2.2.2.2.2.2.1 ad kc D H.size
  subst hst
  refine aw_run (a := (as.map (cv ad)).toArray) (mc := Tc.2.2.2.2.1.cells) (ms := Tc.2.2.2.2.1.slots) hF hC hD ?_ hna ?_ kk
  · exact vx_runS (bytes := Tc.2.1) (maxL := Tc.2.2.1) (ret := Tc.2.2.2.1) (n := na) (As := as.map (cv ad)) (own := T.1) (Ts := GW) (nL := T.2.2.1) ⟨hF.1, hF.2.1, hF.2.2.1, hF.2.2.2.1, hF.2.2.2.2.1⟩ hM1
      ⟨callB_of (ws' := []) na hF.2.2.2.2.1 (ko_good hK) rfl rfl rfl (hF.2.2.2.2.1 _ hK.2.1) (hF.2.2.2.2.1 _ hL) hK.2.2 ⟨hR.1, hR.2.1⟩, hF.2.2.2.2.1 _ hsta⟩
      ⟨apc_blind, apc_at (av := as) hF hD⟩ rfl (by rw [List.length_map]; exact hna9) hD.2.2.2.2.2.2.1 (by simp [List.map_append, List.map_reverse]) (lv_room (by rw [sum_cat]; exact hw)) hd ⟨hR.2.2.1, hR.2.2.2⟩
  · intro E h' H1 locs1 q cl hp hD1 h1 h2 h3
    exact vx_out (fun x hx => (hC x hx).elim) hF.2.2.2.2.2.1 h1 h2 h3 (fun t ht hv => ⟨⟨h', n, ad, kx E h' hp, dy_awd hD1 ht hv⟩, hD1.2.2.2.1.F ht⟩) hD1.2.2.2.1.2.2 hR.2.2.1 hR.2.2.2
end Crows
theorem va_P_same {D : va_G} {ws : va_W} {H H1 : Heap} (hP : va_P D vwCl ws H) (hk : ∀ q : Nat, q < H.size → H1[q]? = H[q]?) : va_P D vwCl ws H1 := fun k q hq => (hP k q hq).kept (hk q.1 (vx_lt hP hq))
/-- all that a throw of cls asks of the tables -/
def TX (own : String) (ik is ic : Nat) (cls text : String) (names : List String) : Prop := Bundle.fit cls = true ∧ (∀ n ∈ names, Bundle.fit n = true) ∧ Cond.classLink own ik cls ∈ GW ∧ Cond.initialized cls ∈ GW ∧ (own, is, text) ∈ STX ∧ (∀ w ∈ vx_atS own ic cls names, w ∈ GW) ∧ (∀ w ∈ Cond.classLink own ik cls :: Cond.initialized cls :: vx_atS own ic cls names, vx_ot w = true)
theorem aw_throwS {Po : APost} {ik is ic : Nat} {cls text : String} {names : List String} (hX : TX T.1 ik is ic cls text names)
    (d0 : decode T.2.1 pc = .ok (.new ik, 3)) (d3 : decode T.2.1 (pc + 3) = .ok (.dup, 1)) (d4 : decode T.2.1 (pc + 4) = .ok (.ldc is, 2)) (d6 : decode T.2.1 (pc + 6) = .ok (.invokespecial ic, 3)) (d9 : decode T.2.1 (pc + 9) = .ok (.athrow, 1))
    (hR : names.length + 3 < T.2.2.2.2.1.frames ∧ (st.map fun v => v.category).sum + (13 * (names.length + 1) + 43) ≤ T.2.2.2.2.1.locals ∧ ce + 1 ≤ T.2.2.2.2.1.cells ∧ sl + 6 ≤ T.2.2.2.2.1.slots) (hp : Po (.inr cls) h n) : AW T (AQm T Po) C0 pc lo st h n ce sl := by
  intro p l e1 s m args below meth c H locs ls ad kc D z A hF hC hD
  obtain ⟨h1, h2, h3, h4, h5, h6, h7⟩ := hX
  obtain ⟨sa, hsa⟩ := hF.2.2.2.2.2.2.2.2.2.1.2.2.2.1 _ h5
  exact vx_throwS (A := A) hF.1 hF.2.1 hF.2.2.2.2.2.2.2.1 hF.2.2.2.1 h1 h2 (hF.2.2.2.2.1 _ h3) (hF.2.2.2.2.1 _ h4) hsa (fun w hw => hF.2.2.2.2.1 _ (h6 w hw)) h7 hF.2.2.2.2.2.2.2.2.2.1.2.1 hF.2.2.2.2.2.2.2.2.2.1.2.2.1 hD.2.2.2.1 (hD.2.2.2.2.2.2.1.trans hF.2.2.1.symm) d0 d3 d4 d6 d9 (fun x hx => (hC x hx).elim) hR.1 (by rw [sum_cat]; exact hR.2.1) hR.2.2.1 hR.2.2.2 hF.2.2.2.2.2.1
    (fun t hv hz hk => ⟨⟨h, n, ad, hp, va_P_same hD.2.1 hk, va_K.moved hv hD.1, hD.2.2.1, hD.2.2.2.2.1, hD.2.2.2.2.2.1⟩, ⟨Nat.le_trans hD.2.2.2.1.1 hz, fun q hq hA => by rw [hk q (Nat.lt_of_lt_of_le hq hD.2.2.2.1.1)]; exact hD.2.2.2.1.2.1 q hq hA⟩⟩) hD.2.2.2.1.2.2 hR.2.2.1 hR.2.2.2
theorem aw_throwSW {Po : APost} {ik is ic : Nat} {cls text : String} {names : List String} (hX : TX T.1 ik is ic cls text names)
    (d0 : decode T.2.1 pc = .ok (.new ik, 3)) (d3 : decode T.2.1 (pc + 3) = .ok (.dup, 1)) (d4 : decode T.2.1 (pc + 4) = .ok (.ldc_w is, 3)) (d6 : decode T.2.1 (pc + 7) = .ok (.invokespecial ic, 3)) (d9 : decode T.2.1 (pc + 10) = .ok (.athrow, 1))
    (hR : names.length + 3 < T.2.2.2.2.1.frames ∧ (st.map fun v => v.category).sum + (13 * (names.length + 1) + 43) ≤ T.2.2.2.2.1.locals ∧ ce + 1 ≤ T.2.2.2.2.1.cells ∧ sl + 6 ≤ T.2.2.2.2.1.slots) (hp : Po (.inr cls) h n) : AW T (AQm T Po) C0 pc lo st h n ce sl := by
  intro p l e1 s m args below meth c H locs ls ad kc D z A hF hC hD
  obtain ⟨h1, h2, h3, h4, h5, h6, h7⟩ := hX
  obtain ⟨sa, hsa⟩ := hF.2.2.2.2.2.2.2.2.2.1.2.2.2.1 _ h5
  exact vx_throwSW (A := A) hF.1 hF.2.1 hF.2.2.2.2.2.2.2.1 hF.2.2.2.1 h1 h2 (hF.2.2.2.2.1 _ h3) (hF.2.2.2.2.1 _ h4) hsa (fun w hw => hF.2.2.2.2.1 _ (h6 w hw)) h7 hF.2.2.2.2.2.2.2.2.2.1.2.1 hF.2.2.2.2.2.2.2.2.2.1.2.2.1 hD.2.2.2.1 (hD.2.2.2.2.2.2.1.trans hF.2.2.1.symm) d0 d3 d4 d6 d9 (fun x hx => (hC x hx).elim) hR.1 (by rw [sum_cat]; exact hR.2.1) hR.2.2.1 hR.2.2.2 hF.2.2.2.2.2.1
    (fun t hv hz hk => ⟨⟨h, n, ad, hp, va_P_same hD.2.1 hk, va_K.moved hv hD.1, hD.2.2.1, hD.2.2.2.2.1, hD.2.2.2.2.2.1⟩, ⟨Nat.le_trans hD.2.2.2.1.1 hz, fun q hq hA => by rw [hk q (Nat.lt_of_lt_of_le hq hD.2.2.2.1.1)]; exact hD.2.2.2.1.2.1 q hq hA⟩⟩) hD.2.2.2.1.2.2 hR.2.2.1 hR.2.2.2
def KMin (own : String) (index : Nat) : Prop := Cond.methodLink own index Lib.Math.min.name ∈ GW ∧ Cond.static Lib.Math.min.name ∈ GW ∧ Cond.initialized "java/lang/Math" ∈ GW ∧ Cond.code Lib.Math.min.name Lib.Math.min.code 2 (some .int) ∈ GW
def KMax (own : String) (index : Nat) : Prop := Cond.methodLink own index Lib.Math.max.name ∈ GW ∧ Cond.static Lib.Math.max.name ∈ GW ∧ Cond.initialized "java/lang/Math" ∈ GW ∧ Cond.code Lib.Math.max.name Lib.Math.max.code 2 (some .int) ∈ GW
theorem aw_mmin {index : Nat} {x y : Int32} (hK : KMin T.1 index) (hd : decode T.2.1 pc = .ok (.invokestatic index, 3)) (hR : 1 ≤ T.2.2.2.2.1.frames ∧ (st.map fun v => v.category).sum + 13 ≤ T.2.2.2.2.1.locals ∧ ce ≤ T.2.2.2.2.1.cells ∧ sl ≤ T.2.2.2.2.1.slots) (kk : AW T Q CX (pc + 3) lo (.int (if y < x then y else x) :: st) h n ce sl) : AW T Q CX pc lo (.int y :: .int x :: st) h n ce sl := by
  intro p l e1 s m args below meth c H locs ls ad kc D z A hF hC hD
  exact va_mmin hF.1 hF.2.1 (hF.2.2.1.trans hD.2.2.2.2.2.2.1.symm) hF.2.2.2.1 (hF.2.2.2.2.1 _ hK.1) (hF.2.2.2.2.1 _ hK.2.1) (hF.2.2.2.2.1 _ hK.2.2.1) (hF.2.2.2.2.1 _ hK.2.2.2) hR.1 (by rw [sum_cat]; exact hR.2.1) hR.2.2.1 hR.2.2.2 hd (kk p l e1 s m args below meth c H locs ls ad kc D z A hF hC hD)
theorem aw_mmax {index : Nat} {x y : Int32} (hK : KMax T.1 index) (hd : decode T.2.1 pc = .ok (.invokestatic index, 3)) (hR : 1 ≤ T.2.2.2.2.1.frames ∧ (st.map fun v => v.category).sum + 13 ≤ T.2.2.2.2.1.locals ∧ ce ≤ T.2.2.2.2.1.cells ∧ sl ≤ T.2.2.2.2.1.slots) (kk : AW T Q CX (pc + 3) lo (.int (if x < y then y else x) :: st) h n ce sl) : AW T Q CX pc lo (.int y :: .int x :: st) h n ce sl := by
  intro p l e1 s m args below meth c H locs ls ad kc D z A hF hC hD
  exact va_mmax hF.1 hF.2.1 (hF.2.2.1.trans hD.2.2.2.2.2.2.1.symm) hF.2.2.2.1 (hF.2.2.2.2.1 _ hK.1) (hF.2.2.2.2.1 _ hK.2.1) (hF.2.2.2.2.1 _ hK.2.2.1) (hF.2.2.2.2.1 _ hK.2.2.2) hR.1 (by rw [sum_cat]; exact hR.2.1) hR.2.2.1 hR.2.2.2 hd (kk p l e1 s m args below meth c H locs ls ad kc D z A hF hC hD)
def KCp (own : String) (index : Nat) : Prop := Cond.methodLink own index arraycopyName ∈ GW ∧ Cond.native arraycopyName ∈ GW ∧ Cond.static arraycopyName ∈ GW ∧ Cond.initialized "java/lang/System" ∈ GW
theorem aw_copy {index i0 i1 n0 n1 : Nat} {f g : Nat → Int32} {sp dp k : Int32} (hK : KCp T.1 index) (hd : decode T.2.1 pc = .ok (.invokestatic index, 3)) (he0 : h i0 = .inl (0, n0, .inl f)) (he1 : h i1 = .inl (0, n1, .inl g)) (hi0 : i0 < n) (hi1 : i1 < n) (h1 : ¬ sp < 0) (h2 : ¬ dp < 0) (h3 : ¬ k < 0) (h4 : sp.toNatClampNeg + k.toNatClampNeg ≤ n0) (h5 : dp.toNatClampNeg + k.toNatClampNeg ≤ n1)
    (hR : 1 ≤ T.2.2.2.2.1.frames ∧ (st.map fun v => v.category).sum + (nativeFrameWords "java/lang/System" "arraycopy" 5 + 11) ≤ T.2.2.2.2.1.locals) (hh : hset h i1 (.inl (0, n1, .inl (va_cpy f g sp.toNatClampNeg dp.toNatClampNeg k.toNatClampNeg))) = h') (kk : AW T Q CX (pc + 3) lo st h' n ce sl) : AW T Q CX pc lo (.int k :: .int dp :: .ref i1 :: .int sp :: .ref i0 :: st) h n ce sl := by
  intro p l e1 s m args below meth c H locs ls ad kc D z A hF hC hD
  exact va_copyi hF.1 hF.2.1 (hF.2.2.1.trans hD.2.2.2.2.2.2.1.symm) hF.2.2.2.1 (hF.2.2.2.2.1 _ hK.1) (hF.2.2.2.2.1 _ hK.2.1) (hF.2.2.2.2.1 _ hK.2.2.1) (hF.2.2.2.2.1 _ hK.2.2.2) hD.1 hD.2.1 hD.2.2.1 hD.2.2.2.1 i0 i1 0 0 (cW_getE hi0 he0 rfl) (cW_getE hi1 he1 rfl) rfl rfl rfl h1 h2 h3 h4 h5 (fun _ _ => rfl) hR.1 (by rw [sum_cat]; exact hR.2) hd
    (fun H1 locs1 hP1 hD1 hS1 => kk p l e1 s m args below meth c H1 locs1 ls ad kc D z A hF hC (hD.put hi1 hh rfl hP1 hD1 hS1))
end AWrows
theorem tx_try : ∀ w ∈ vx_atS RX9 73 "java/lang/IllegalStateException" ["java/lang/RuntimeException", "java/lang/Exception"], w ∈ GW := by decide +kernel
theorem tx_try2 : ∀ w ∈ vx_atS RX9 73 "java/lang/IllegalStateException" ["java/lang/RuntimeException", "java/lang/Exception"], vx_ot w = true := by decide +kernel
end
