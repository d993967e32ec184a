-- ===== PART A: goes FIRST, ahead of the names: the tables' words, and 'selects' of the private methods out of them =====
/-- a private method of a class that the tables say can be made, by its rows of tables_1 -/
def lw_okq (q : MethodName × Nat) : Prop := (q.1.cls ≠ "java/lang/invoke/MethodHandle" ∧ q.1.cls ≠ "java/lang/invoke/VarHandle") ∧ Cond.instantiable q.1.cls q.2 ∈ tables_1 ∧ Cond.privateMethod q.1 ∈ tables_1 ∧ Cond.instanceMethod q.1 ∈ tables_1
theorem lw_p0 : lw_okq (⟨"RingNames$Text", "next", "()I"⟩, 6) := ⟨⟨by decide +kernel, by decide +kernel⟩, List.mem_of_getElem? (i := 20) (by decide +kernel), List.mem_of_getElem? (i := 213) (by decide +kernel), List.mem_of_getElem? (i := 214) (by decide +kernel)⟩
theorem lw_p1 : lw_okq (⟨"RingNames$Text", "nextNumber", "()I"⟩, 6) := ⟨⟨by decide +kernel, by decide +kernel⟩, List.mem_of_getElem? (i := 20) (by decide +kernel), List.mem_of_getElem? (i := 223) (by decide +kernel), List.mem_of_getElem? (i := 224) (by decide +kernel)⟩
theorem lw_p2 : lw_okq (⟨"RingNames$Text", "readSailor", "(LRingNames$Crew;)Z"⟩, 6) := ⟨⟨by decide +kernel, by decide +kernel⟩, List.mem_of_getElem? (i := 20) (by decide +kernel), List.mem_of_getElem? (i := 230) (by decide +kernel), List.mem_of_getElem? (i := 231) (by decide +kernel)⟩
theorem lw_p3 : lw_okq (⟨"RingNames$Text", "numberFrom", "(II)I"⟩, 6) := ⟨⟨by decide +kernel, by decide +kernel⟩, List.mem_of_getElem? (i := 20) (by decide +kernel), List.mem_of_getElem? (i := 234) (by decide +kernel), List.mem_of_getElem? (i := 235) (by decide +kernel)⟩
theorem lw_p4 : lw_okq (⟨"RingNames$Text", "itemEnds", "()Z"⟩, 6) := ⟨⟨by decide +kernel, by decide +kernel⟩, List.mem_of_getElem? (i := 20) (by decide +kernel), List.mem_of_getElem? (i := 243) (by decide +kernel), List.mem_of_getElem? (i := 244) (by decide +kernel)⟩
theorem lw_p5 : lw_okq (⟨"RingNames$Text", "readDip", "(LRingNames$Crew;)Z"⟩, 6) := ⟨⟨by decide +kernel, by decide +kernel⟩, List.mem_of_getElem? (i := 20) (by decide +kernel), List.mem_of_getElem? (i := 247) (by decide +kernel), List.mem_of_getElem? (i := 248) (by decide +kernel)⟩
theorem lw_p6 : lw_okq (⟨"RingNames$Text", "readSeats", "(LRingNames$Crew;)Z"⟩, 6) := ⟨⟨by decide +kernel, by decide +kernel⟩, List.mem_of_getElem? (i := 20) (by decide +kernel), List.mem_of_getElem? (i := 251) (by decide +kernel), List.mem_of_getElem? (i := 252) (by decide +kernel)⟩
theorem lw_p7 : lw_okq (⟨"RingNames", "isSailor", "(I)Z"⟩, 10) := ⟨⟨by decide +kernel, by decide +kernel⟩, List.mem_of_getElem? (i := 12) (by decide +kernel), List.mem_of_getElem? (i := 274) (by decide +kernel), List.mem_of_getElem? (i := 275) (by decide +kernel)⟩
theorem lw_p8 : lw_okq (⟨"RingNames", "wouldSign", "(I)Z"⟩, 10) := ⟨⟨by decide +kernel, by decide +kernel⟩, List.mem_of_getElem? (i := 12) (by decide +kernel), List.mem_of_getElem? (i := 295) (by decide +kernel), List.mem_of_getElem? (i := 296) (by decide +kernel)⟩
theorem lw_p9 : lw_okq (⟨"RingNames", "isSeat", "(I)Z"⟩, 10) := ⟨⟨by decide +kernel, by decide +kernel⟩, List.mem_of_getElem? (i := 12) (by decide +kernel), List.mem_of_getElem? (i := 318) (by decide +kernel), List.mem_of_getElem? (i := 319) (by decide +kernel)⟩
theorem lw_p10 : lw_okq (⟨"RingNames", "thoseWhoWould", "()I"⟩, 10) := ⟨⟨by decide +kernel, by decide +kernel⟩, List.mem_of_getElem? (i := 12) (by decide +kernel), List.mem_of_getElem? (i := 330) (by decide +kernel), List.mem_of_getElem? (i := 331) (by decide +kernel)⟩
theorem lw_p11 : lw_okq (⟨"RingNames$Past", "slotAt", "(I)LRingNames$Moment;"⟩, 3) := ⟨⟨by decide +kernel, by decide +kernel⟩, List.mem_of_getElem? (i := 109) (by decide +kernel), List.mem_of_getElem? (i := 342) (by decide +kernel), List.mem_of_getElem? (i := 343) (by decide +kernel)⟩
theorem lw_p12 : lw_okq (⟨"RingNames$Orders", "add", "(I)V"⟩, 6) := ⟨⟨by decide +kernel, by decide +kernel⟩, List.mem_of_getElem? (i := 129) (by decide +kernel), List.mem_of_getElem? (i := 406) (by decide +kernel), List.mem_of_getElem? (i := 407) (by decide +kernel)⟩
theorem lw_p13 : lw_okq (⟨"RingNames", "isThere", "(I)Z"⟩, 10) := ⟨⟨by decide +kernel, by decide +kernel⟩, List.mem_of_getElem? (i := 12) (by decide +kernel), List.mem_of_getElem? (i := 429) (by decide +kernel), List.mem_of_getElem? (i := 430) (by decide +kernel)⟩
theorem lw_p14 : lw_okq (⟨"RingNames$Orders", "aheadOf", "(II)I"⟩, 6) := ⟨⟨by decide +kernel, by decide +kernel⟩, List.mem_of_getElem? (i := 129) (by decide +kernel), List.mem_of_getElem? (i := 437) (by decide +kernel), List.mem_of_getElem? (i := 438) (by decide +kernel)⟩
theorem lw_p15 : lw_okq (⟨"RingNames$Orders", "tellWhoWasFirst", "(I)Z"⟩, 6) := ⟨⟨by decide +kernel, by decide +kernel⟩, List.mem_of_getElem? (i := 129) (by decide +kernel), List.mem_of_getElem? (i := 474) (by decide +kernel), List.mem_of_getElem? (i := 475) (by decide +kernel)⟩
def lw_privs_1 : List (MethodName × Nat) := [(⟨"RingNames$Text", "next", "()I"⟩, 6), (⟨"RingNames$Text", "nextNumber", "()I"⟩, 6), (⟨"RingNames$Text", "readSailor", "(LRingNames$Crew;)Z"⟩, 6), (⟨"RingNames$Text", "numberFrom", "(II)I"⟩, 6), (⟨"RingNames$Text", "itemEnds", "()Z"⟩, 6), (⟨"RingNames$Text", "readDip", "(LRingNames$Crew;)Z"⟩, 6), (⟨"RingNames$Text", "readSeats", "(LRingNames$Crew;)Z"⟩, 6), (⟨"RingNames", "isSailor", "(I)Z"⟩, 10), (⟨"RingNames", "wouldSign", "(I)Z"⟩, 10), (⟨"RingNames", "isSeat", "(I)Z"⟩, 10), (⟨"RingNames", "thoseWhoWould", "()I"⟩, 10), (⟨"RingNames$Past", "slotAt", "(I)LRingNames$Moment;"⟩, 3), (⟨"RingNames$Orders", "add", "(I)V"⟩, 6), (⟨"RingNames", "isThere", "(I)Z"⟩, 10), (⟨"RingNames$Orders", "aheadOf", "(II)I"⟩, 6), (⟨"RingNames$Orders", "tellWhoWasFirst", "(I)Z"⟩, 6)]
theorem lw_r1 : ∀ q ∈ lw_privs_1, lw_okq q := List.forall_mem_cons.mpr ⟨lw_p0, List.forall_mem_cons.mpr ⟨lw_p1, List.forall_mem_cons.mpr ⟨lw_p2, List.forall_mem_cons.mpr ⟨lw_p3, List.forall_mem_cons.mpr ⟨lw_p4, List.forall_mem_cons.mpr ⟨lw_p5, List.forall_mem_cons.mpr ⟨lw_p6, List.forall_mem_cons.mpr ⟨lw_p7, List.forall_mem_cons.mpr ⟨lw_p8, List.forall_mem_cons.mpr ⟨lw_p9, List.forall_mem_cons.mpr ⟨lw_p10, List.forall_mem_cons.mpr ⟨lw_p11, List.forall_mem_cons.mpr ⟨lw_p12, List.forall_mem_cons.mpr ⟨lw_p13, List.forall_mem_cons.mpr ⟨lw_p14, List.forall_mem_cons.mpr ⟨lw_p15, fun _ h => absurd h List.not_mem_nil⟩⟩⟩⟩⟩⟩⟩⟩⟩⟩⟩⟩⟩⟩⟩⟩
theorem lw_p16 : lw_okq (⟨"RingNames$Orders", "rankOfPlaces", "(II)I"⟩, 6) := ⟨⟨by decide +kernel, by decide +kernel⟩, List.mem_of_getElem? (i := 129) (by decide +kernel), List.mem_of_getElem? (i := 478) (by decide +kernel), List.mem_of_getElem? (i := 479) (by decide +kernel)⟩
theorem lw_p17 : lw_okq (⟨"RingNames$Crew", "isClique", "(I)Z"⟩, 6) := ⟨⟨by decide +kernel, by decide +kernel⟩, List.mem_of_getElem? (i := 47) (by decide +kernel), List.mem_of_getElem? (i := 514) (by decide +kernel), List.mem_of_getElem? (i := 515) (by decide +kernel)⟩
theorem lw_p18 : lw_okq (⟨"RingNames", "asSailor", "(I)I"⟩, 10) := ⟨⟨by decide +kernel, by decide +kernel⟩, List.mem_of_getElem? (i := 12) (by decide +kernel), List.mem_of_getElem? (i := 524) (by decide +kernel), List.mem_of_getElem? (i := 525) (by decide +kernel)⟩
theorem lw_p19 : lw_okq (⟨"RingNames", "asCook", "(I)I"⟩, 10) := ⟨⟨by decide +kernel, by decide +kernel⟩, List.mem_of_getElem? (i := 12) (by decide +kernel), List.mem_of_getElem? (i := 528) (by decide +kernel), List.mem_of_getElem? (i := 529) (by decide +kernel)⟩
theorem lw_p20 : lw_okq (⟨"RingNames", "asMate", "(I)I"⟩, 10) := ⟨⟨by decide +kernel, by decide +kernel⟩, List.mem_of_getElem? (i := 12) (by decide +kernel), List.mem_of_getElem? (i := 538) (by decide +kernel), List.mem_of_getElem? (i := 539) (by decide +kernel)⟩
theorem lw_p21 : lw_okq (⟨"RingNames", "asBosun", "(I)I"⟩, 10) := ⟨⟨by decide +kernel, by decide +kernel⟩, List.mem_of_getElem? (i := 12) (by decide +kernel), List.mem_of_getElem? (i := 543) (by decide +kernel), List.mem_of_getElem? (i := 544) (by decide +kernel)⟩
theorem lw_p22 : lw_okq (⟨"RingNames", "asGunner", "(I)I"⟩, 10) := ⟨⟨by decide +kernel, by decide +kernel⟩, List.mem_of_getElem? (i := 12) (by decide +kernel), List.mem_of_getElem? (i := 548) (by decide +kernel), List.mem_of_getElem? (i := 549) (by decide +kernel)⟩
theorem lw_p23 : lw_okq (⟨"RingNames", "asBoy", "(I)I"⟩, 10) := ⟨⟨by decide +kernel, by decide +kernel⟩, List.mem_of_getElem? (i := 12) (by decide +kernel), List.mem_of_getElem? (i := 553) (by decide +kernel), List.mem_of_getElem? (i := 554) (by decide +kernel)⟩
theorem lw_p24 : lw_okq (⟨"RingNames", "imageAt", "(I)LRingNames$Moment;"⟩, 10) := ⟨⟨by decide +kernel, by decide +kernel⟩, List.mem_of_getElem? (i := 12) (by decide +kernel), List.mem_of_getElem? (i := 562) (by decide +kernel), List.mem_of_getElem? (i := 563) (by decide +kernel)⟩
theorem lw_p25 : lw_okq (⟨"RingNamesModel", "reads", "()Z"⟩, 19) := ⟨⟨by decide +kernel, by decide +kernel⟩, List.mem_of_getElem? (i := 579) (by decide +kernel), List.mem_of_getElem? (i := 586) (by decide +kernel), List.mem_of_getElem? (i := 587) (by decide +kernel)⟩
theorem lw_p26 : lw_okq (⟨"RingNamesModel", "token", "()V"⟩, 19) := ⟨⟨by decide +kernel, by decide +kernel⟩, List.mem_of_getElem? (i := 579) (by decide +kernel), List.mem_of_getElem? (i := 590) (by decide +kernel), List.mem_of_getElem? (i := 591) (by decide +kernel)⟩
theorem lw_p27 : lw_okq (⟨"RingNamesModel", "letterAt", "(I)I"⟩, 19) := ⟨⟨by decide +kernel, by decide +kernel⟩, List.mem_of_getElem? (i := 579) (by decide +kernel), List.mem_of_getElem? (i := 594) (by decide +kernel), List.mem_of_getElem? (i := 595) (by decide +kernel)⟩
theorem lw_p28 : lw_okq (⟨"RingNamesModel", "readsItem", "()Z"⟩, 19) := ⟨⟨by decide +kernel, by decide +kernel⟩, List.mem_of_getElem? (i := 579) (by decide +kernel), List.mem_of_getElem? (i := 604) (by decide +kernel), List.mem_of_getElem? (i := 605) (by decide +kernel)⟩
theorem lw_p29 : lw_okq (⟨"RingNamesModel", "number", "(III)Z"⟩, 19) := ⟨⟨by decide +kernel, by decide +kernel⟩, List.mem_of_getElem? (i := 579) (by decide +kernel), List.mem_of_getElem? (i := 608) (by decide +kernel), List.mem_of_getElem? (i := 609) (by decide +kernel)⟩
theorem lw_p30 : lw_okq (⟨"RingNamesModel", "once", "(III)Z"⟩, 19) := ⟨⟨by decide +kernel, by decide +kernel⟩, List.mem_of_getElem? (i := 579) (by decide +kernel), List.mem_of_getElem? (i := 612) (by decide +kernel), List.mem_of_getElem? (i := 613) (by decide +kernel)⟩
theorem lw_p31 : lw_okq (⟨"RingNamesModel", "tells", "()V"⟩, 19) := ⟨⟨by decide +kernel, by decide +kernel⟩, List.mem_of_getElem? (i := 579) (by decide +kernel), List.mem_of_getElem? (i := 616) (by decide +kernel), List.mem_of_getElem? (i := 617) (by decide +kernel)⟩
def lw_privs_2 : List (MethodName × Nat) := [(⟨"RingNames$Orders", "rankOfPlaces", "(II)I"⟩, 6), (⟨"RingNames$Crew", "isClique", "(I)Z"⟩, 6), (⟨"RingNames", "asSailor", "(I)I"⟩, 10), (⟨"RingNames", "asCook", "(I)I"⟩, 10), (⟨"RingNames", "asMate", "(I)I"⟩, 10), (⟨"RingNames", "asBosun", "(I)I"⟩, 10), (⟨"RingNames", "asGunner", "(I)I"⟩, 10), (⟨"RingNames", "asBoy", "(I)I"⟩, 10), (⟨"RingNames", "imageAt", "(I)LRingNames$Moment;"⟩, 10), (⟨"RingNamesModel", "reads", "()Z"⟩, 19), (⟨"RingNamesModel", "token", "()V"⟩, 19), (⟨"RingNamesModel", "letterAt", "(I)I"⟩, 19), (⟨"RingNamesModel", "readsItem", "()Z"⟩, 19), (⟨"RingNamesModel", "number", "(III)Z"⟩, 19), (⟨"RingNamesModel", "once", "(III)Z"⟩, 19), (⟨"RingNamesModel", "tells", "()V"⟩, 19)]
theorem lw_r2 : ∀ q ∈ lw_privs_2, lw_okq q := List.forall_mem_cons.mpr ⟨lw_p16, List.forall_mem_cons.mpr ⟨lw_p17, List.forall_mem_cons.mpr ⟨lw_p18, List.forall_mem_cons.mpr ⟨lw_p19, List.forall_mem_cons.mpr ⟨lw_p20, List.forall_mem_cons.mpr ⟨lw_p21, List.forall_mem_cons.mpr ⟨lw_p22, List.forall_mem_cons.mpr ⟨lw_p23, List.forall_mem_cons.mpr ⟨lw_p24, List.forall_mem_cons.mpr ⟨lw_p25, List.forall_mem_cons.mpr ⟨lw_p26, List.forall_mem_cons.mpr ⟨lw_p27, List.forall_mem_cons.mpr ⟨lw_p28, List.forall_mem_cons.mpr ⟨lw_p29, List.forall_mem_cons.mpr ⟨lw_p30, List.forall_mem_cons.mpr ⟨lw_p31, fun _ h => absurd h List.not_mem_nil⟩⟩⟩⟩⟩⟩⟩⟩⟩⟩⟩⟩⟩⟩⟩⟩
theorem lw_p32 : lw_okq (⟨"RingNamesModel", "isSailor", "(I)Z"⟩, 19) := ⟨⟨by decide +kernel, by decide +kernel⟩, List.mem_of_getElem? (i := 579) (by decide +kernel), List.mem_of_getElem? (i := 695) (by decide +kernel), List.mem_of_getElem? (i := 696) (by decide +kernel)⟩
theorem lw_p33 : lw_okq (⟨"RingNamesModel", "seatOf", "(I)I"⟩, 19) := ⟨⟨by decide +kernel, by decide +kernel⟩, List.mem_of_getElem? (i := 579) (by decide +kernel), List.mem_of_getElem? (i := 699) (by decide +kernel), List.mem_of_getElem? (i := 700) (by decide +kernel)⟩
theorem lw_p34 : lw_okq (⟨"RingNamesModel", "wouldNow", "(I)Z"⟩, 19) := ⟨⟨by decide +kernel, by decide +kernel⟩, List.mem_of_getElem? (i := 579) (by decide +kernel), List.mem_of_getElem? (i := 703) (by decide +kernel), List.mem_of_getElem? (i := 704) (by decide +kernel)⟩
theorem lw_p35 : lw_okq (⟨"RingNamesModel", "would", "(II)Z"⟩, 19) := ⟨⟨by decide +kernel, by decide +kernel⟩, List.mem_of_getElem? (i := 579) (by decide +kernel), List.mem_of_getElem? (i := 707) (by decide +kernel), List.mem_of_getElem? (i := 708) (by decide +kernel)⟩
theorem lw_p36 : lw_okq (⟨"RingNamesModel", "isSeat", "(I)Z"⟩, 19) := ⟨⟨by decide +kernel, by decide +kernel⟩, List.mem_of_getElem? (i := 579) (by decide +kernel), List.mem_of_getElem? (i := 718) (by decide +kernel), List.mem_of_getElem? (i := 719) (by decide +kernel)⟩
theorem lw_p37 : lw_okq (⟨"RingNamesModel", "there", "()I"⟩, 19) := ⟨⟨by decide +kernel, by decide +kernel⟩, List.mem_of_getElem? (i := 579) (by decide +kernel), List.mem_of_getElem? (i := 726) (by decide +kernel), List.mem_of_getElem? (i := 727) (by decide +kernel)⟩
theorem lw_p38 : lw_okq (⟨"RingNamesModel", "keeps", "()V"⟩, 19) := ⟨⟨by decide +kernel, by decide +kernel⟩, List.mem_of_getElem? (i := 579) (by decide +kernel), List.mem_of_getElem? (i := 734) (by decide +kernel), List.mem_of_getElem? (i := 735) (by decide +kernel)⟩
theorem lw_p39 : lw_okq (⟨"RingNamesModel", "closed", "(I)I"⟩, 19) := ⟨⟨by decide +kernel, by decide +kernel⟩, List.mem_of_getElem? (i := 579) (by decide +kernel), List.mem_of_getElem? (i := 754) (by decide +kernel), List.mem_of_getElem? (i := 755) (by decide +kernel)⟩
theorem lw_p40 : lw_okq (⟨"RingNamesModel", "lays", "(I)V"⟩, 19) := ⟨⟨by decide +kernel, by decide +kernel⟩, List.mem_of_getElem? (i := 579) (by decide +kernel), List.mem_of_getElem? (i := 766) (by decide +kernel), List.mem_of_getElem? (i := 767) (by decide +kernel)⟩
theorem lw_p41 : lw_okq (⟨"RingNamesModel", "inkOf", "(I)I"⟩, 19) := ⟨⟨by decide +kernel, by decide +kernel⟩, List.mem_of_getElem? (i := 579) (by decide +kernel), List.mem_of_getElem? (i := 770) (by decide +kernel), List.mem_of_getElem? (i := 771) (by decide +kernel)⟩
theorem lw_p42 : lw_okq (⟨"RingNamesModel", "firsts", "(I)I"⟩, 19) := ⟨⟨by decide +kernel, by decide +kernel⟩, List.mem_of_getElem? (i := 579) (by decide +kernel), List.mem_of_getElem? (i := 778) (by decide +kernel), List.mem_of_getElem? (i := 779) (by decide +kernel)⟩
theorem lw_p43 : lw_okq (⟨"RingNamesModel", "isThere", "(I)Z"⟩, 19) := ⟨⟨by decide +kernel, by decide +kernel⟩, List.mem_of_getElem? (i := 579) (by decide +kernel), List.mem_of_getElem? (i := 789) (by decide +kernel), List.mem_of_getElem? (i := 790) (by decide +kernel)⟩
theorem lw_p44 : lw_okq (⟨"RingNamesModel", "leads", "(I)I"⟩, 19) := ⟨⟨by decide +kernel, by decide +kernel⟩, List.mem_of_getElem? (i := 579) (by decide +kernel), List.mem_of_getElem? (i := 800) (by decide +kernel), List.mem_of_getElem? (i := 801) (by decide +kernel)⟩
theorem lw_p45 : lw_okq (⟨"RingNamesModel", "isKnown", "(II)Z"⟩, 19) := ⟨⟨by decide +kernel, by decide +kernel⟩, List.mem_of_getElem? (i := 579) (by decide +kernel), List.mem_of_getElem? (i := 811) (by decide +kernel), List.mem_of_getElem? (i := 812) (by decide +kernel)⟩
def lw_privs_3 : List (MethodName × Nat) := [(⟨"RingNamesModel", "isSailor", "(I)Z"⟩, 19), (⟨"RingNamesModel", "seatOf", "(I)I"⟩, 19), (⟨"RingNamesModel", "wouldNow", "(I)Z"⟩, 19), (⟨"RingNamesModel", "would", "(II)Z"⟩, 19), (⟨"RingNamesModel", "isSeat", "(I)Z"⟩, 19), (⟨"RingNamesModel", "there", "()I"⟩, 19), (⟨"RingNamesModel", "keeps", "()V"⟩, 19), (⟨"RingNamesModel", "closed", "(I)I"⟩, 19), (⟨"RingNamesModel", "lays", "(I)V"⟩, 19), (⟨"RingNamesModel", "inkOf", "(I)I"⟩, 19), (⟨"RingNamesModel", "firsts", "(I)I"⟩, 19), (⟨"RingNamesModel", "isThere", "(I)Z"⟩, 19), (⟨"RingNamesModel", "leads", "(I)I"⟩, 19), (⟨"RingNamesModel", "isKnown", "(II)Z"⟩, 19)]
theorem lw_r3 : ∀ q ∈ lw_privs_3, lw_okq q := List.forall_mem_cons.mpr ⟨lw_p32, List.forall_mem_cons.mpr ⟨lw_p33, List.forall_mem_cons.mpr ⟨lw_p34, List.forall_mem_cons.mpr ⟨lw_p35, List.forall_mem_cons.mpr ⟨lw_p36, List.forall_mem_cons.mpr ⟨lw_p37, List.forall_mem_cons.mpr ⟨lw_p38, List.forall_mem_cons.mpr ⟨lw_p39, List.forall_mem_cons.mpr ⟨lw_p40, List.forall_mem_cons.mpr ⟨lw_p41, List.forall_mem_cons.mpr ⟨lw_p42, List.forall_mem_cons.mpr ⟨lw_p43, List.forall_mem_cons.mpr ⟨lw_p44, List.forall_mem_cons.mpr ⟨lw_p45, fun _ h => absurd h List.not_mem_nil⟩⟩⟩⟩⟩⟩⟩⟩⟩⟩⟩⟩⟩⟩
def lw_privs : List (MethodName × Nat) := lw_privs_1 ++ (lw_privs_2 ++ (lw_privs_3))
def lw_tbl : List Cond := k2_sels lw_privs ++ tables_1
theorem lw_privs_ok : ∀ q ∈ lw_privs, lw_okq q := by
  show ∀ q ∈ lw_privs_1 ++ (lw_privs_2 ++ (lw_privs_3)), lw_okq q
  exact List.forall_mem_append.mpr ⟨lw_r1, List.forall_mem_append.mpr ⟨lw_r2, lw_r3⟩⟩
def RX0 : String := "RingNames$Crew"
def TX0 : u_T := fun k => match k with
  | 0 => ("RingNames$Crew", "watch", "[I", true)
  | 1 => ("RingNames$Crew", "courage", "[I", true)
  | 2 => ("RingNames$Crew", "trust", "[I", true)
  | 3 => ("RingNames$Crew", "size", "I", false)
  | 4 => ("RingNames$Crew", "dip", "I", false)
  | _ => ("RingNames$Crew", "seats", "I", false)
def tyX0 : Nat → FieldType := fun k => match k with
  | 0 => .array .int
  | 1 => .array .int
  | 2 => .array .int
  | 3 => .int
  | 4 => .int
  | _ => .int
abbrev wsX00 : List Cond := u_ws RX0 TX0 6
theorem nmX0 : ∀ a, a < 6 → ∀ b, b < 6 → a ≠ b → (TX0 a).2.1 ≠ (TX0 b).2.1 := by decide +kernel
theorem tyX0_ok : ∀ k, k < 6 → parseFieldDescriptor (TX0 k).2.2.1 = some (tyX0 k) := by decide +kernel
abbrev cX0_init : ByteArray := prog_2_method_1_code
def yX0_init : MethodName := ⟨RX0, "<init>", "()V"⟩
abbrev cX0_restart : ByteArray := prog_2_method_2_code
def yX0_restart : MethodName := ⟨RX0, "restart", "()V"⟩
abbrev cX0_enlist : ByteArray := prog_2_method_3_code
def yX0_enlist : MethodName := ⟨RX0, "enlist", "(III)V"⟩
abbrev cX0_become : ByteArray := prog_2_method_4_code
def yX0_become : MethodName := ⟨RX0, "become", "(LRingNames$Crew;)V"⟩
abbrev cX0_all : ByteArray := prog_2_method_5_code
def yX0_all : MethodName := ⟨RX0, "all", "()I"⟩
abbrev cX0_trusted : ByteArray := prog_2_method_6_code
def yX0_trusted : MethodName := ⟨RX0, "trusted", "(I)I"⟩
abbrev cX0_isOnDeck : ByteArray := prog_2_method_7_code
def yX0_isOnDeck : MethodName := ⟨RX0, "isOnDeck", "(II)Z"⟩
abbrev cX0_dares : ByteArray := prog_2_method_8_code
def yX0_dares : MethodName := ⟨RX0, "dares", "(II)Z"⟩
abbrev cX0_inkBehind : ByteArray := prog_2_method_9_code
def yX0_inkBehind : MethodName := ⟨RX0, "inkBehind", "(I)I"⟩
abbrev cX0_signedInTheEnd : ByteArray := prog_2_method_10_code
def yX0_signedInTheEnd : MethodName := ⟨RX0, "signedInTheEnd", "(I)I"⟩
abbrev cX0_largestClique : ByteArray := prog_2_method_11_code
def yX0_largestClique : MethodName := ⟨RX0, "largestClique", "()I"⟩
abbrev cX0_isClique : ByteArray := prog_2_method_12_code
def yX0_isClique : MethodName := ⟨RX0, "isClique", "(I)Z"⟩
def RX1 : String := "RingNames$Moment"
def TX1 : u_T := fun k => match k with
  | 0 => ("RingNames$Moment", "who", "[I", true)
  | 1 => ("RingNames$Moment", "ink", "[I", true)
  | 2 => ("RingNames$Moment", "hour", "I", false)
  | _ => ("RingNames$Moment", "signed", "I", false)
def tyX1 : Nat → FieldType := fun k => match k with
  | 0 => .array .int
  | 1 => .array .int
  | 2 => .int
  | _ => .int
abbrev wsX10 : List Cond := u_ws RX1 TX1 4
theorem nmX1 : ∀ a, a < 4 → ∀ b, b < 4 → a ≠ b → (TX1 a).2.1 ≠ (TX1 b).2.1 := by decide +kernel
theorem tyX1_ok : ∀ k, k < 4 → parseFieldDescriptor (TX1 k).2.2.1 = some (tyX1 k) := by decide +kernel
abbrev cX1_init : ByteArray := prog_3_method_1_code
def yX1_init : MethodName := ⟨RX1, "<init>", "()V"⟩
abbrev cX1_restart : ByteArray := prog_3_method_2_code
def yX1_restart : MethodName := ⟨RX1, "restart", "()V"⟩
abbrev cX1_become : ByteArray := prog_3_method_3_code
def yX1_become : MethodName := ⟨RX1, "become", "(LRingNames$Moment;)V"⟩
abbrev cX1_write : ByteArray := prog_3_method_4_code
def yX1_write : MethodName := ⟨RX1, "write", "(III)V"⟩
abbrev cX1_there : ByteArray := prog_3_method_5_code
def yX1_there : MethodName := ⟨RX1, "there", "()I"⟩
abbrev cX1_seatOf : ByteArray := prog_3_method_6_code
def yX1_seatOf : MethodName := ⟨RX1, "seatOf", "(I)I"⟩
abbrev cX1_inkOf : ByteArray := prog_3_method_7_code
def yX1_inkOf : MethodName := ⟨RX1, "inkOf", "(I)I"⟩
def RX2 : String := "RingNames$Orders"
def TX2 : u_T := fun k => match k with
  | 0 => ("RingNames$Orders", "list", "[I", true)
  | 1 => ("RingNames$Orders", "marks", "[I", true)
  | 2 => ("RingNames$Orders", "ink", "[I", true)
  | 3 => ("RingNames$Orders", "size", "I", false)
  | 4 => ("RingNames$Orders", "there", "I", false)
  | _ => ("RingNames$Orders", "hour", "I", false)
def tyX2 : Nat → FieldType := fun k => match k with
  | 0 => .array .int
  | 1 => .array .int
  | 2 => .array .int
  | 3 => .int
  | 4 => .int
  | _ => .int
abbrev wsX20 : List Cond := u_ws RX2 TX2 6
theorem nmX2 : ∀ a, a < 6 → ∀ b, b < 6 → a ≠ b → (TX2 a).2.1 ≠ (TX2 b).2.1 := by decide +kernel
theorem tyX2_ok : ∀ k, k < 6 → parseFieldDescriptor (TX2 k).2.2.1 = some (tyX2 k) := by decide +kernel
abbrev cX2_init : ByteArray := prog_4_method_1_code
def yX2_init : MethodName := ⟨RX2, "<init>", "()V"⟩
abbrev cX2_find : ByteArray := prog_4_method_2_code
def yX2_find : MethodName := ⟨RX2, "find", "(LRingNames$Crew;LRingNames$Moment;I)V"⟩
abbrev cX2_extend : ByteArray := prog_4_method_3_code
def yX2_extend : MethodName := ⟨RX2, "extend", "(LRingNames$Orders;LRingNames$Crew;IIII)V"⟩
abbrev cX2_add : ByteArray := prog_4_method_4_code
def yX2_add : MethodName := ⟨RX2, "add", "(I)V"⟩
abbrev cX2_placeOf : ByteArray := prog_4_method_5_code
def yX2_placeOf : MethodName := ⟨RX2, "placeOf", "(II)I"⟩
abbrev cX2_firstOf : ByteArray := prog_4_method_6_code
def yX2_firstOf : MethodName := ⟨RX2, "firstOf", "(I)I"⟩
abbrev cX2_firsts : ByteArray := prog_4_method_7_code
def yX2_firsts : MethodName := ⟨RX2, "firsts", "()I"⟩
abbrev cX2_timesFirst : ByteArray := prog_4_method_8_code
def yX2_timesFirst : MethodName := ⟨RX2, "timesFirst", "(I)I"⟩
abbrev cX2_likeliestFirst : ByteArray := prog_4_method_9_code
def yX2_likeliestFirst : MethodName := ⟨RX2, "likeliestFirst", "()I"⟩
abbrev cX2_alwaysAheadOf : ByteArray := prog_4_method_10_code
def yX2_alwaysAheadOf : MethodName := ⟨RX2, "alwaysAheadOf", "(I)I"⟩
abbrev cX2_aheadOf : ByteArray := prog_4_method_11_code
def yX2_aheadOf : MethodName := ⟨RX2, "aheadOf", "(II)I"⟩
abbrev cX2_fewestToAsk : ByteArray := prog_4_method_12_code
def yX2_fewestToAsk : MethodName := ⟨RX2, "fewestToAsk", "()I"⟩
abbrev cX2_tellWhoWasFirst : ByteArray := prog_4_method_13_code
def yX2_tellWhoWasFirst : MethodName := ⟨RX2, "tellWhoWasFirst", "(I)Z"⟩
abbrev cX2_rankOfPlaces : ByteArray := prog_4_method_14_code
def yX2_rankOfPlaces : MethodName := ⟨RX2, "rankOfPlaces", "(II)I"⟩
def RX3 : String := "RingNames$Past"
def TX3 : u_T := fun k => match k with
  | 0 => ("RingNames$Past", "moments", "[LRingNames$Moment;", true)
  | 1 => ("RingNames$Past", "next", "I", false)
  | _ => ("RingNames$Past", "size", "I", false)
def tyX3 : Nat → FieldType := fun k => match k with
  | 0 => .array (.object "RingNames$Moment")
  | 1 => .int
  | _ => .int
abbrev wsX30 : List Cond := u_ws RX3 TX3 3
theorem nmX3 : ∀ a, a < 3 → ∀ b, b < 3 → a ≠ b → (TX3 a).2.1 ≠ (TX3 b).2.1 := by decide +kernel
theorem tyX3_ok : ∀ k, k < 3 → parseFieldDescriptor (TX3 k).2.2.1 = some (tyX3 k) := by decide +kernel
abbrev cX3_init : ByteArray := prog_5_method_1_code
def yX3_init : MethodName := ⟨RX3, "<init>", "()V"⟩
abbrev cX3_remember : ByteArray := prog_5_method_2_code
def yX3_remember : MethodName := ⟨RX3, "remember", "(LRingNames$Moment;)V"⟩
abbrev cX3_giveBack : ByteArray := prog_5_method_3_code
def yX3_giveBack : MethodName := ⟨RX3, "giveBack", "(LRingNames$Moment;)Z"⟩
abbrev cX3_forget : ByteArray := prog_5_method_4_code
def yX3_forget : MethodName := ⟨RX3, "forget", "()V"⟩
abbrev cX3_slotAt : ByteArray := prog_5_method_5_code
def yX3_slotAt : MethodName := ⟨RX3, "slotAt", "(I)LRingNames$Moment;"⟩
def RX4 : String := "RingNames$Text"
def TX4 : u_T := fun k => match k with
  | 0 => ("RingNames$Text", "letters", "[I", true)
  | 1 => ("RingNames$Text", "length", "I", false)
  | 2 => ("RingNames$Text", "place", "I", false)
  | 3 => ("RingNames$Text", "tokenStart", "I", false)
  | 4 => ("RingNames$Text", "dipTold", "Z", false)
  | _ => ("RingNames$Text", "seatsTold", "Z", false)
def tyX4 : Nat → FieldType := fun k => match k with
  | 0 => .array .int
  | 1 => .int
  | 2 => .int
  | 3 => .int
  | 4 => .boolean
  | _ => .boolean
abbrev wsX40 : List Cond := u_ws RX4 TX4 6
theorem nmX4 : ∀ a, a < 6 → ∀ b, b < 6 → a ≠ b → (TX4 a).2.1 ≠ (TX4 b).2.1 := by decide +kernel
theorem tyX4_ok : ∀ k, k < 6 → parseFieldDescriptor (TX4 k).2.2.1 = some (tyX4 k) := by decide +kernel
abbrev cX4_init : ByteArray := prog_6_method_1_code
def yX4_init : MethodName := ⟨RX4, "<init>", "()V"⟩
abbrev cX4_append : ByteArray := prog_6_method_2_code
def yX4_append : MethodName := ⟨RX4, "append", "(I)Z"⟩
abbrev cX4_readInto : ByteArray := prog_6_method_3_code
def yX4_readInto : MethodName := ⟨RX4, "readInto", "(LRingNames$Crew;)I"⟩
abbrev cX4_readSailor : ByteArray := prog_6_method_4_code
def yX4_readSailor : MethodName := ⟨RX4, "readSailor", "(LRingNames$Crew;)Z"⟩
abbrev cX4_readDip : ByteArray := prog_6_method_5_code
def yX4_readDip : MethodName := ⟨RX4, "readDip", "(LRingNames$Crew;)Z"⟩
abbrev cX4_readSeats : ByteArray := prog_6_method_6_code
def yX4_readSeats : MethodName := ⟨RX4, "readSeats", "(LRingNames$Crew;)Z"⟩
abbrev cX4_itemEnds : ByteArray := prog_6_method_7_code
def yX4_itemEnds : MethodName := ⟨RX4, "itemEnds", "()Z"⟩
abbrev cX4_numberFrom : ByteArray := prog_6_method_8_code
def yX4_numberFrom : MethodName := ⟨RX4, "numberFrom", "(II)I"⟩
abbrev cX4_next : ByteArray := prog_6_method_9_code
def yX4_next : MethodName := ⟨RX4, "next", "()I"⟩
abbrev cX4_nextNumber : ByteArray := prog_6_method_10_code
def yX4_nextNumber : MethodName := ⟨RX4, "nextNumber", "()I"⟩
abbrev cX4_isDigit : ByteArray := prog_6_method_11_code
def yX4_isDigit : MethodName := ⟨RX4, "isDigit", "(I)Z"⟩
def RX5 : String := "RingNames"
def TX5 : u_T := fun k => match k with
  | 0 => ("RingNames", "text", "LRingNames$Text;", true)
  | 1 => ("RingNames", "crew", "LRingNames$Crew;", true)
  | 2 => ("RingNames", "told", "LRingNames$Crew;", true)
  | 3 => ("RingNames", "present", "LRingNames$Moment;", true)
  | 4 => ("RingNames", "past", "LRingNames$Past;", true)
  | 5 => ("RingNames", "image0", "LRingNames$Moment;", true)
  | 6 => ("RingNames", "image1", "LRingNames$Moment;", true)
  | 7 => ("RingNames", "keptImages", "I", false)
  | 8 => ("RingNames", "found", "LRingNames$Orders;", true)
  | _ => ("RingNames", "steps", "J", false)
def tyX5 : Nat → FieldType := fun k => match k with
  | 0 => .object "RingNames$Text"
  | 1 => .object "RingNames$Crew"
  | 2 => .object "RingNames$Crew"
  | 3 => .object "RingNames$Moment"
  | 4 => .object "RingNames$Past"
  | 5 => .object "RingNames$Moment"
  | 6 => .object "RingNames$Moment"
  | 7 => .int
  | 8 => .object "RingNames$Orders"
  | _ => .long
abbrev wsX50 : List Cond := u_ws RX5 TX5 10
theorem nmX5 : ∀ a, a < 10 → ∀ b, b < 10 → a ≠ b → (TX5 a).2.1 ≠ (TX5 b).2.1 := by decide +kernel
theorem tyX5_ok : ∀ k, k < 10 → parseFieldDescriptor (TX5 k).2.2.1 = some (tyX5 k) := by decide +kernel
abbrev cX5_init : ByteArray := prog_1_method_1_code
def yX5_init : MethodName := ⟨RX5, "<init>", "()V"⟩
abbrev cX5_type : ByteArray := prog_1_method_2_code
def yX5_type : MethodName := ⟨RX5, "type", "(I)I"⟩
abbrev cX5_clear : ByteArray := prog_1_method_3_code
def yX5_clear : MethodName := ⟨RX5, "clear", "()I"⟩
abbrev cX5_crew : ByteArray := prog_1_method_4_code
def yX5_crew : MethodName := ⟨RX5, "crew", "()I"⟩
abbrev cX5_sailor : ByteArray := prog_1_method_5_code
def yX5_sailor : MethodName := ⟨RX5, "sailor", "(II)I"⟩
abbrev cX5_seat : ByteArray := prog_1_method_6_code
def yX5_seat : MethodName := ⟨RX5, "seat", "(II)I"⟩
abbrev cX5_now : ByteArray := prog_1_method_7_code
def yX5_now : MethodName := ⟨RX5, "now", "(I)I"⟩
abbrev cX5_signs : ByteArray := prog_1_method_8_code
def yX5_signs : MethodName := ⟨RX5, "signs", "(II)I"⟩
abbrev cX5_hour : ByteArray := prog_1_method_9_code
def yX5_hour : MethodName := ⟨RX5, "hour", "()I"⟩
abbrev cX5_scrape : ByteArray := prog_1_method_10_code
def yX5_scrape : MethodName := ⟨RX5, "scrape", "(I)I"⟩
abbrev cX5_undo : ByteArray := prog_1_method_11_code
def yX5_undo : MethodName := ⟨RX5, "undo", "()I"⟩
abbrev cX5_will : ByteArray := prog_1_method_12_code
def yX5_will : MethodName := ⟨RX5, "will", "()I"⟩
abbrev cX5_begin : ByteArray := prog_1_method_13_code
def yX5_begin : MethodName := ⟨RX5, "begin", "()I"⟩
abbrev cX5_orders : ByteArray := prog_1_method_14_code
def yX5_orders : MethodName := ⟨RX5, "orders", "()I"⟩
abbrev cX5_first : ByteArray := prog_1_method_15_code
def yX5_first : MethodName := ⟨RX5, "first", "()I"⟩
abbrev cX5_sure : ByteArray := prog_1_method_16_code
def yX5_sure : MethodName := ⟨RX5, "sure", "(I)I"⟩
abbrev cX5_chance : ByteArray := prog_1_method_17_code
def yX5_chance : MethodName := ⟨RX5, "chance", "(II)I"⟩
abbrev cX5_ask : ByteArray := prog_1_method_18_code
def yX5_ask : MethodName := ⟨RX5, "ask", "()I"⟩
abbrev cX5_hang : ByteArray := prog_1_method_19_code
def yX5_hang : MethodName := ⟨RX5, "hang", "()I"⟩
abbrev cX5_shift : ByteArray := prog_1_method_20_code
def yX5_shift : MethodName := ⟨RX5, "shift", "(I)I"⟩
abbrev cX5_odds : ByteArray := prog_1_method_21_code
def yX5_odds : MethodName := ⟨RX5, "odds", "(III)I"⟩
abbrev cX5_bold : ByteArray := prog_1_method_22_code
def yX5_bold : MethodName := ⟨RX5, "bold", "(I)I"⟩
abbrev cX5_clique : ByteArray := prog_1_method_23_code
def yX5_clique : MethodName := ⟨RX5, "clique", "(I)I"⟩
abbrev cX5_rate : ByteArray := prog_1_method_24_code
def yX5_rate : MethodName := ⟨RX5, "rate", "(II)I"⟩
abbrev cX5_keep : ByteArray := prog_1_method_25_code
def yX5_keep : MethodName := ⟨RX5, "keep", "(I)I"⟩
abbrev cX5_back : ByteArray := prog_1_method_26_code
def yX5_back : MethodName := ⟨RX5, "back", "(I)I"⟩
abbrev cX5_count : ByteArray := prog_1_method_27_code
def yX5_count : MethodName := ⟨RX5, "count", "(I)I"⟩
abbrev cX5_trace : ByteArray := prog_1_method_28_code
def yX5_trace : MethodName := ⟨RX5, "trace", "()J"⟩
abbrev cX5_isSailor : ByteArray := prog_1_method_29_code
def yX5_isSailor : MethodName := ⟨RX5, "isSailor", "(I)Z"⟩
abbrev cX5_isSeat : ByteArray := prog_1_method_30_code
def yX5_isSeat : MethodName := ⟨RX5, "isSeat", "(I)Z"⟩
abbrev cX5_isThere : ByteArray := prog_1_method_31_code
def yX5_isThere : MethodName := ⟨RX5, "isThere", "(I)Z"⟩
abbrev cX5_isPart : ByteArray := prog_1_method_32_code
def yX5_isPart : MethodName := ⟨RX5, "isPart", "(I)Z"⟩
abbrev cX5_wouldSign : ByteArray := prog_1_method_33_code
def yX5_wouldSign : MethodName := ⟨RX5, "wouldSign", "(I)Z"⟩
abbrev cX5_thoseWhoWould : ByteArray := prog_1_method_34_code
def yX5_thoseWhoWould : MethodName := ⟨RX5, "thoseWhoWould", "()I"⟩
abbrev cX5_imageAt : ByteArray := prog_1_method_35_code
def yX5_imageAt : MethodName := ⟨RX5, "imageAt", "(I)LRingNames$Moment;"⟩
abbrev cX5_asSailor : ByteArray := prog_1_method_36_code
def yX5_asSailor : MethodName := ⟨RX5, "asSailor", "(I)I"⟩
abbrev cX5_asCook : ByteArray := prog_1_method_37_code
def yX5_asCook : MethodName := ⟨RX5, "asCook", "(I)I"⟩
abbrev cX5_asMate : ByteArray := prog_1_method_38_code
def yX5_asMate : MethodName := ⟨RX5, "asMate", "(I)I"⟩
abbrev cX5_asBosun : ByteArray := prog_1_method_39_code
def yX5_asBosun : MethodName := ⟨RX5, "asBosun", "(I)I"⟩
abbrev cX5_asGunner : ByteArray := prog_1_method_40_code
def yX5_asGunner : MethodName := ⟨RX5, "asGunner", "(I)I"⟩
abbrev cX5_asBoy : ByteArray := prog_1_method_41_code
def yX5_asBoy : MethodName := ⟨RX5, "asBoy", "(I)I"⟩
abbrev cX5_has : ByteArray := prog_1_method_42_code
def yX5_has : MethodName := ⟨RX5, "has", "(II)Z"⟩
abbrev cX5_at : ByteArray := prog_1_method_43_code
def yX5_at : MethodName := ⟨RX5, "at", "([II)I"⟩
abbrev cX5_put : ByteArray := prog_1_method_44_code
def yX5_put : MethodName := ⟨RX5, "put", "([III)V"⟩
abbrev cX5_power : ByteArray := prog_1_method_45_code
def yX5_power : MethodName := ⟨RX5, "power", "(II)I"⟩
abbrev cX5_inLeastTerms : ByteArray := prog_1_method_46_code
def yX5_inLeastTerms : MethodName := ⟨RX5, "inLeastTerms", "(III)I"⟩
abbrev cX5_commonDivisor : ByteArray := prog_1_method_47_code
def yX5_commonDivisor : MethodName := ⟨RX5, "commonDivisor", "(II)I"⟩
def RX6 : String := "RingNamesModel"
def TX6 : u_T := fun k => match k with
  | 0 => ("RingNamesModel", "trace", "J", false)
  | 1 => ("RingNamesModel", "text", "[I", true)
  | 2 => ("RingNamesModel", "typed", "I", false)
  | 3 => ("RingNamesModel", "told", "[I", true)
  | 4 => ("RingNamesModel", "draft", "[I", true)
  | 5 => ("RingNamesModel", "s", "[I", true)
  | 6 => ("RingNamesModel", "past", "[I", true)
  | 7 => ("RingNamesModel", "known", "I", false)
  | 8 => ("RingNamesModel", "images", "[I", true)
  | 9 => ("RingNamesModel", "kept", "[Z", true)
  | 10 => ("RingNamesModel", "at", "I", false)
  | 11 => ("RingNamesModel", "sort", "I", false)
  | 12 => ("RingNamesModel", "start", "I", false)
  | 13 => ("RingNamesModel", "value", "I", false)
  | 14 => ("RingNamesModel", "rows", "[I", true)
  | 15 => ("RingNamesModel", "many", "I", false)
  | 16 => ("RingNamesModel", "tried", "[I", true)
  | 17 => ("RingNamesModel", "hourOf", "[I", true)
  | _ => ("RingNamesModel", "leaders", "[I", true)
def tyX6 : Nat → FieldType := fun k => match k with
  | 0 => .long
  | 1 => .array .int
  | 2 => .int
  | 3 => .array .int
  | 4 => .array .int
  | 5 => .array .int
  | 6 => .array .int
  | 7 => .int
  | 8 => .array .int
  | 9 => .array .boolean
  | 10 => .int
  | 11 => .int
  | 12 => .int
  | 13 => .int
  | 14 => .array .int
  | 15 => .int
  | 16 => .array .int
  | 17 => .array .int
  | _ => .array .int
abbrev wsX60 : List Cond := u_ws RX6 TX6 19
theorem nmX6 : ∀ a, a < 19 → ∀ b, b < 19 → a ≠ b → (TX6 a).2.1 ≠ (TX6 b).2.1 := by decide +kernel
theorem tyX6_ok : ∀ k, k < 19 → parseFieldDescriptor (TX6 k).2.2.1 = some (tyX6 k) := by decide +kernel
abbrev cX6_init : ByteArray := prog_8_method_1_code
def yX6_init : MethodName := ⟨RX6, "<init>", "()V"⟩
abbrev cX6_in : ByteArray := prog_8_method_3_code
def yX6_in : MethodName := ⟨RX6, "in", "(III)Z"⟩
abbrev cX6_isSailor : ByteArray := prog_8_method_4_code
def yX6_isSailor : MethodName := ⟨RX6, "isSailor", "(I)Z"⟩
abbrev cX6_isSeat : ByteArray := prog_8_method_5_code
def yX6_isSeat : MethodName := ⟨RX6, "isSeat", "(I)Z"⟩
abbrev cX6_ones : ByteArray := prog_8_method_6_code
def yX6_ones : MethodName := ⟨RX6, "ones", "(I)I"⟩
abbrev cX6_type : ByteArray := prog_8_method_7_code
def yX6_type : MethodName := ⟨RX6, "type", "(I)I"⟩
abbrev cX6_clear : ByteArray := prog_8_method_8_code
def yX6_clear : MethodName := ⟨RX6, "clear", "()I"⟩
abbrev cX6_letterAt : ByteArray := prog_8_method_9_code
def yX6_letterAt : MethodName := ⟨RX6, "letterAt", "(I)I"⟩
abbrev cX6_isDigit : ByteArray := prog_8_method_10_code
def yX6_isDigit : MethodName := ⟨RX6, "isDigit", "(I)Z"⟩
abbrev cX6_token : ByteArray := prog_8_method_11_code
def yX6_token : MethodName := ⟨RX6, "token", "()V"⟩
abbrev cX6_number : ByteArray := prog_8_method_12_code
def yX6_number : MethodName := ⟨RX6, "number", "(III)Z"⟩
abbrev cX6_once : ByteArray := prog_8_method_13_code
def yX6_once : MethodName := ⟨RX6, "once", "(III)Z"⟩
abbrev cX6_readsItem : ByteArray := prog_8_method_14_code
def yX6_readsItem : MethodName := ⟨RX6, "readsItem", "()Z"⟩
abbrev cX6_reads : ByteArray := prog_8_method_15_code
def yX6_reads : MethodName := ⟨RX6, "reads", "()Z"⟩
abbrev cX6_tells : ByteArray := prog_8_method_16_code
def yX6_tells : MethodName := ⟨RX6, "tells", "()V"⟩
abbrev cX6_crew : ByteArray := prog_8_method_17_code
def yX6_crew : MethodName := ⟨RX6, "crew", "()I"⟩
abbrev cX6_seatOf : ByteArray := prog_8_method_18_code
def yX6_seatOf : MethodName := ⟨RX6, "seatOf", "(I)I"⟩
abbrev cX6_would : ByteArray := prog_8_method_19_code
def yX6_would : MethodName := ⟨RX6, "would", "(II)Z"⟩
abbrev cX6_wouldNow : ByteArray := prog_8_method_20_code
def yX6_wouldNow : MethodName := ⟨RX6, "wouldNow", "(I)Z"⟩
abbrev cX6_sailor : ByteArray := prog_8_method_21_code
def yX6_sailor : MethodName := ⟨RX6, "sailor", "(II)I"⟩
abbrev cX6_seat : ByteArray := prog_8_method_22_code
def yX6_seat : MethodName := ⟨RX6, "seat", "(II)I"⟩
abbrev cX6_there : ByteArray := prog_8_method_23_code
def yX6_there : MethodName := ⟨RX6, "there", "()I"⟩
abbrev cX6_now : ByteArray := prog_8_method_24_code
def yX6_now : MethodName := ⟨RX6, "now", "(I)I"⟩
abbrev cX6_keeps : ByteArray := prog_8_method_25_code
def yX6_keeps : MethodName := ⟨RX6, "keeps", "()V"⟩
abbrev cX6_signs : ByteArray := prog_8_method_26_code
def yX6_signs : MethodName := ⟨RX6, "signs", "(II)I"⟩
abbrev cX6_hour : ByteArray := prog_8_method_27_code
def yX6_hour : MethodName := ⟨RX6, "hour", "()I"⟩
abbrev cX6_scrape : ByteArray := prog_8_method_28_code
def yX6_scrape : MethodName := ⟨RX6, "scrape", "(I)I"⟩
abbrev cX6_undo : ByteArray := prog_8_method_29_code
def yX6_undo : MethodName := ⟨RX6, "undo", "()I"⟩
abbrev cX6_closed : ByteArray := prog_8_method_30_code
def yX6_closed : MethodName := ⟨RX6, "closed", "(I)I"⟩
abbrev cX6_will : ByteArray := prog_8_method_31_code
def yX6_will : MethodName := ⟨RX6, "will", "()I"⟩
abbrev cX6_begin : ByteArray := prog_8_method_32_code
def yX6_begin : MethodName := ⟨RX6, "begin", "()I"⟩
abbrev cX6_inkOf : ByteArray := prog_8_method_33_code
def yX6_inkOf : MethodName := ⟨RX6, "inkOf", "(I)I"⟩
abbrev cX6_lays : ByteArray := prog_8_method_34_code
def yX6_lays : MethodName := ⟨RX6, "lays", "(I)V"⟩
abbrev cX6_of : ByteArray := prog_8_method_35_code
def yX6_of : MethodName := ⟨RX6, "of", "(II)I"⟩
abbrev cX6_placeIn : ByteArray := prog_8_method_36_code
def yX6_placeIn : MethodName := ⟨RX6, "placeIn", "(III)I"⟩
abbrev cX6_orders : ByteArray := prog_8_method_37_code
def yX6_orders : MethodName := ⟨RX6, "orders", "()I"⟩
abbrev cX6_firsts : ByteArray := prog_8_method_38_code
def yX6_firsts : MethodName := ⟨RX6, "firsts", "(I)I"⟩
abbrev cX6_first : ByteArray := prog_8_method_39_code
def yX6_first : MethodName := ⟨RX6, "first", "()I"⟩
abbrev cX6_isThere : ByteArray := prog_8_method_40_code
def yX6_isThere : MethodName := ⟨RX6, "isThere", "(I)Z"⟩
abbrev cX6_sure : ByteArray := prog_8_method_41_code
def yX6_sure : MethodName := ⟨RX6, "sure", "(I)I"⟩
abbrev cX6_leads : ByteArray := prog_8_method_42_code
def yX6_leads : MethodName := ⟨RX6, "leads", "(I)I"⟩
abbrev cX6_common : ByteArray := prog_8_method_43_code
def yX6_common : MethodName := ⟨RX6, "common", "(II)I"⟩
abbrev cX6_chance : ByteArray := prog_8_method_44_code
def yX6_chance : MethodName := ⟨RX6, "chance", "(II)I"⟩
abbrev cX6_isKnown : ByteArray := prog_8_method_45_code
def yX6_isKnown : MethodName := ⟨RX6, "isKnown", "(II)Z"⟩
abbrev cX6_ask : ByteArray := prog_8_method_46_code
def yX6_ask : MethodName := ⟨RX6, "ask", "()I"⟩
abbrev cX6_hang : ByteArray := prog_8_method_47_code
def yX6_hang : MethodName := ⟨RX6, "hang", "()I"⟩
abbrev cX6_shift : ByteArray := prog_8_method_48_code
def yX6_shift : MethodName := ⟨RX6, "shift", "(I)I"⟩
abbrev cX6_odds : ByteArray := prog_8_method_49_code
def yX6_odds : MethodName := ⟨RX6, "odds", "(III)I"⟩
abbrev cX6_bold : ByteArray := prog_8_method_50_code
def yX6_bold : MethodName := ⟨RX6, "bold", "(I)I"⟩
abbrev cX6_clique : ByteArray := prog_8_method_51_code
def yX6_clique : MethodName := ⟨RX6, "clique", "(I)I"⟩
abbrev cX6_rate : ByteArray := prog_8_method_52_code
def yX6_rate : MethodName := ⟨RX6, "rate", "(II)I"⟩
abbrev cX6_keep : ByteArray := prog_8_method_53_code
def yX6_keep : MethodName := ⟨RX6, "keep", "(I)I"⟩
abbrev cX6_back : ByteArray := prog_8_method_54_code
def yX6_back : MethodName := ⟨RX6, "back", "(I)I"⟩
abbrev cX6_count : ByteArray := prog_8_method_55_code
def yX6_count : MethodName := ⟨RX6, "count", "(I)I"⟩
abbrev cX6_trace : ByteArray := prog_8_method_56_code
def yX6_trace : MethodName := ⟨RX6, "trace", "()J"⟩
def RJ6 : String := "java/lang/Integer"
abbrev cJ6_bitCount_0f7a4 : ByteArray := prog_9_method_49_code
def yJ6_bitCount_0f7a4 : MethodName := ⟨RJ6, "bitCount", "(I)I"⟩
def RJ9 : String := "java/lang/Math"
abbrev cJ9_max_7cf53 : ByteArray := prog_10_method_65_code
def yJ9_max_7cf53 : MethodName := ⟨RJ9, "max", "(II)I"⟩
abbrev cJ9_min_7cf53 : ByteArray := prog_10_method_69_code
def yJ9_min_7cf53 : MethodName := ⟨RJ9, "min", "(II)I"⟩
def RJ7 : String := "java/util/Arrays"
abbrev cJ7_fill_53178 : ByteArray := prog_11_method_103_code
def yJ7_fill_53178 : MethodName := ⟨RJ7, "fill", "([II)V"⟩
def RL : String := "RingNamesLaw"
abbrev cL_law : ByteArray := code
abbrev vwCl : List vw_C := [(RX0, TX0, 6), (RX1, TX1, 4), (RX2, TX2, 6), (RX3, TX3, 3), (RX4, TX4, 6), (RX5, TX5, 10), (RX6, TX6, 19)]
