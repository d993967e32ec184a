section
-- ===== PART A: goes FIRST, ahead of the names: the tables' words, and 'selects' of the private methods out of them =====
/-- a private method of a class that the tables say can be made, by its rows of tables_1 -/
def lw_okq (q : MethodName × Nat) : Prop := (q.1.cls ≠ "java/lang/invoke/MethodHandle" ∧ q.1.cls ≠ "java/lang/invoke/VarHandle") ∧ Cond.instantiable q.1.cls q.2 ∈ tables_1 ∧ Cond.privateMethod q.1 ∈ tables_1 ∧ Cond.instanceMethod q.1 ∈ tables_1
theorem lw_p0 : lw_okq (⟨"RingNames$Text", "next", "()I"⟩, 6) := ⟨⟨by decide +kernel, by decide +kernel⟩, List.mem_of_getElem? (i := 20) (by decide +kernel), List.mem_of_getElem? (i := 213) (by decide +kernel), List.mem_of_getElem? (i := 214) (by decide +kernel)⟩
theorem lw_p1 : lw_okq (⟨"RingNames$Text", "nextNumber", "()I"⟩, 6) := ⟨⟨by decide +kernel, by decide +kernel⟩, List.mem_of_getElem? (i := 20) (by decide +kernel), List.mem_of_getElem? (i := 223) (by decide +kernel), List.mem_of_getElem? (i := 224) (by decide +kernel)⟩
theorem lw_p2 : lw_okq (⟨"RingNames$Text", "readSailor", "(LRingNames$Crew;)Z"⟩, 6) := ⟨⟨by decide +kernel, by decide +kernel⟩, List.mem_of_getElem? (i := 20) (by decide +kernel), List.mem_of_getElem? (i := 230) (by decide +kernel), List.mem_of_getElem? (i := 231) (by decide +kernel)⟩
theorem lw_p3 : lw_okq (⟨"RingNames$Text", "numberFrom", "(II)I"⟩, 6) := ⟨⟨by decide +kernel, by decide +kernel⟩, List.mem_of_getElem? (i := 20) (by decide +kernel), List.mem_of_getElem? (i := 234) (by decide +kernel), List.mem_of_getElem? (i := 235) (by decide +kernel)⟩
theorem lw_p4 : lw_okq (⟨"RingNames$Text", "itemEnds", "()Z"⟩, 6) := ⟨⟨by decide +kernel, by decide +kernel⟩, List.mem_of_getElem? (i := 20) (by decide +kernel), List.mem_of_getElem? (i := 243) (by decide +kernel), List.mem_of_getElem? (i := 244) (by decide +kernel)⟩
theorem lw_p5 : lw_okq (⟨"RingNames$Text", "readDip", "(LRingNames$Crew;)Z"⟩, 6) := ⟨⟨by decide +kernel, by decide +kernel⟩, List.mem_of_getElem? (i := 20) (by decide +kernel), List.mem_of_getElem? (i := 247) (by decide +kernel), List.mem_of_getElem? (i := 248) (by decide +kernel)⟩
theorem lw_p6 : lw_okq (⟨"RingNames$Text", "readSeats", "(LRingNames$Crew;)Z"⟩, 6) := ⟨⟨by decide +kernel, by decide +kernel⟩, List.mem_of_getElem? (i := 20) (by decide +kernel), List.mem_of_getElem? (i := 251) (by decide +kernel), List.mem_of_getElem? (i := 252) (by decide +kernel)⟩
theorem lw_p7 : lw_okq (⟨"RingNames", "isSailor", "(I)Z"⟩, 10) := ⟨⟨by decide +kernel, by decide +kernel⟩, List.mem_of_getElem? (i := 12) (by decide +kernel), List.mem_of_getElem? (i := 274) (by decide +kernel), List.mem_of_getElem? (i := 275) (by decide +kernel)⟩
theorem lw_p8 : lw_okq (⟨"RingNames", "wouldSign", "(I)Z"⟩, 10) := ⟨⟨by decide +kernel, by decide +kernel⟩, List.mem_of_getElem? (i := 12) (by decide +kernel), List.mem_of_getElem? (i := 295) (by decide +kernel), List.mem_of_getElem? (i := 296) (by decide +kernel)⟩
theorem lw_p9 : lw_okq (⟨"RingNames", "isSeat", "(I)Z"⟩, 10) := ⟨⟨by decide +kernel, by decide +kernel⟩, List.mem_of_getElem? (i := 12) (by decide +kernel), List.mem_of_getElem? (i := 318) (by decide +kernel), List.mem_of_getElem? (i := 319) (by decide +kernel)⟩
theorem lw_p10 : lw_okq (⟨"RingNames", "thoseWhoWould", "()I"⟩, 10) := ⟨⟨by decide +kernel, by decide +kernel⟩, List.mem_of_getElem? (i := 12) (by decide +kernel), List.mem_of_getElem? (i := 330) (by decide +kernel), List.mem_of_getElem? (i := 331) (by decide +kernel)⟩
theorem lw_p11 : lw_okq (⟨"RingNames$Past", "slotAt", "(I)LRingNames$Moment;"⟩, 3) := ⟨⟨by decide +kernel, by decide +kernel⟩, List.mem_of_getElem? (i := 109) (by decide +kernel), List.mem_of_getElem? (i := 342) (by decide +kernel), List.mem_of_getElem? (i := 343) (by decide +kernel)⟩
theorem lw_p12 : lw_okq (⟨"RingNames$Orders", "add", "(I)V"⟩, 6) := ⟨⟨by decide +kernel, by decide +kernel⟩, List.mem_of_getElem? (i := 129) (by decide +kernel), List.mem_of_getElem? (i := 406) (by decide +kernel), List.mem_of_getElem? (i := 407) (by decide +kernel)⟩
theorem lw_p13 : lw_okq (⟨"RingNames", "isThere", "(I)Z"⟩, 10) := ⟨⟨by decide +kernel, by decide +kernel⟩, List.mem_of_getElem? (i := 12) (by decide +kernel), List.mem_of_getElem? (i := 429) (by decide +kernel), List.mem_of_getElem? (i := 430) (by decide +kernel)⟩
theorem lw_p14 : lw_okq (⟨"RingNames$Orders", "aheadOf", "(II)I"⟩, 6) := ⟨⟨by decide +kernel, by decide +kernel⟩, List.mem_of_getElem? (i := 129) (by decide +kernel), List.mem_of_getElem? (i := 437) (by decide +kernel), List.mem_of_getElem? (i := 438) (by decide +kernel)⟩
theorem lw_p15 : lw_okq (⟨"RingNames$Orders", "tellWhoWasFirst", "(I)Z"⟩, 6) := ⟨⟨by decide +kernel, by decide +kernel⟩, List.mem_of_getElem? (i := 129) (by decide +kernel), List.mem_of_getElem? (i := 474) (by decide +kernel), List.mem_of_getElem? (i := 475) (by decide +kernel)⟩
def lw_privs_1 : List (MethodName × Nat) := [(⟨"RingNames$Text", "next", "()I"⟩, 6), (⟨"RingNames$Text", "nextNumber", "()I"⟩, 6), (⟨"RingNames$Text", "readSailor", "(LRingNames$Crew;)Z"⟩, 6), (⟨"RingNames$Text", "numberFrom", "(II)I"⟩, 6), (⟨"RingNames$Text", "itemEnds", "()Z"⟩, 6), (⟨"RingNames$Text", "readDip", "(LRingNames$Crew;)Z"⟩, 6), (⟨"RingNames$Text", "readSeats", "(LRingNames$Crew;)Z"⟩, 6), (⟨"RingNames", "isSailor", "(I)Z"⟩, 10), (⟨"RingNames", "wouldSign", "(I)Z"⟩, 10), (⟨"RingNames", "isSeat", "(I)Z"⟩, 10), (⟨"RingNames", "thoseWhoWould", "()I"⟩, 10), (⟨"RingNames$Past", "slotAt", "(I)LRingNames$Moment;"⟩, 3), (⟨"RingNames$Orders", "add", "(I)V"⟩, 6), (⟨"RingNames", "isThere", "(I)Z"⟩, 10), (⟨"RingNames$Orders", "aheadOf", "(II)I"⟩, 6), (⟨"RingNames$Orders", "tellWhoWasFirst", "(I)Z"⟩, 6)]
theorem lw_r1 : ∀ q ∈ lw_privs_1, lw_okq q := List.forall_mem_cons.mpr ⟨lw_p0, List.forall_mem_cons.mpr ⟨lw_p1, List.forall_mem_cons.mpr ⟨lw_p2, List.forall_mem_cons.mpr ⟨lw_p3, List.forall_mem_cons.mpr ⟨lw_p4, List.forall_mem_cons.mpr ⟨lw_p5, List.forall_mem_cons.mpr ⟨lw_p6, List.forall_mem_cons.mpr ⟨lw_p7, List.forall_mem_cons.mpr ⟨lw_p8, List.forall_mem_cons.mpr ⟨lw_p9, List.forall_mem_cons.mpr ⟨lw_p10, List.forall_mem_cons.mpr ⟨lw_p11, List.forall_mem_cons.mpr ⟨lw_p12, List.forall_mem_cons.mpr ⟨lw_p13, List.forall_mem_cons.mpr ⟨lw_p14, List.forall_mem_cons.mpr ⟨lw_p15, fun _ h => absurd h List.not_mem_nil⟩⟩⟩⟩⟩⟩⟩⟩⟩⟩⟩⟩⟩⟩⟩⟩
theorem lw_p16 : lw_okq (⟨"RingNames$Orders", "rankOfPlaces", "(II)I"⟩, 6) := ⟨⟨by decide +kernel, by decide +kernel⟩, List.mem_of_getElem? (i := 129) (by decide +kernel), List.mem_of_getElem? (i := 478) (by decide +kernel), List.mem_of_getElem? (i := 479) (by decide +kernel)⟩
theorem lw_p17 : lw_okq (⟨"RingNames$Crew", "isClique", "(I)Z"⟩, 6) := ⟨⟨by decide +kernel, by decide +kernel⟩, List.mem_of_getElem? (i := 47) (by decide +kernel), List.mem_of_getElem? (i := 514) (by decide +kernel), List.mem_of_getElem? (i := 515) (by decide +kernel)⟩
theorem lw_p18 : lw_okq (⟨"RingNames", "asSailor", "(I)I"⟩, 10) := ⟨⟨by decide +kernel, by decide +kernel⟩, List.mem_of_getElem? (i := 12) (by decide +kernel), List.mem_of_getElem? (i := 524) (by decide +kernel), List.mem_of_getElem? (i := 525) (by decide +kernel)⟩
theorem lw_p19 : lw_okq (⟨"RingNames", "asCook", "(I)I"⟩, 10) := ⟨⟨by decide +kernel, by decide +kernel⟩, List.mem_of_getElem? (i := 12) (by decide +kernel), List.mem_of_getElem? (i := 528) (by decide +kernel), List.mem_of_getElem? (i := 529) (by decide +kernel)⟩
theorem lw_p20 : lw_okq (⟨"RingNames", "asMate", "(I)I"⟩, 10) := ⟨⟨by decide +kernel, by decide +kernel⟩, List.mem_of_getElem? (i := 12) (by decide +kernel), List.mem_of_getElem? (i := 538) (by decide +kernel), List.mem_of_getElem? (i := 539) (by decide +kernel)⟩
theorem lw_p21 : lw_okq (⟨"RingNames", "asBosun", "(I)I"⟩, 10) := ⟨⟨by decide +kernel, by decide +kernel⟩, List.mem_of_getElem? (i := 12) (by decide +kernel), List.mem_of_getElem? (i := 543) (by decide +kernel), List.mem_of_getElem? (i := 544) (by decide +kernel)⟩
theorem lw_p22 : lw_okq (⟨"RingNames", "asGunner", "(I)I"⟩, 10) := ⟨⟨by decide +kernel, by decide +kernel⟩, List.mem_of_getElem? (i := 12) (by decide +kernel), List.mem_of_getElem? (i := 548) (by decide +kernel), List.mem_of_getElem? (i := 549) (by decide +kernel)⟩
theorem lw_p23 : lw_okq (⟨"RingNames", "asBoy", "(I)I"⟩, 10) := ⟨⟨by decide +kernel, by decide +kernel⟩, List.mem_of_getElem? (i := 12) (by decide +kernel), List.mem_of_getElem? (i := 553) (by decide +kernel), List.mem_of_getElem? (i := 554) (by decide +kernel)⟩
theorem lw_p24 : lw_okq (⟨"RingNames", "imageAt", "(I)LRingNames$Moment;"⟩, 10) := ⟨⟨by decide +kernel, by decide +kernel⟩, List.mem_of_getElem? (i := 12) (by decide +kernel), List.mem_of_getElem? (i := 562) (by decide +kernel), List.mem_of_getElem? (i := 563) (by decide +kernel)⟩
theorem lw_p25 : lw_okq (⟨"RingNamesModel", "reads", "()Z"⟩, 19) := ⟨⟨by decide +kernel, by decide +kernel⟩, List.mem_of_getElem? (i := 579) (by decide +kernel), List.mem_of_getElem? (i := 586) (by decide +kernel), List.mem_of_getElem? (i := 587) (by decide +kernel)⟩
theorem lw_p26 : lw_okq (⟨"RingNamesModel", "token", "()V"⟩, 19) := ⟨⟨by decide +kernel, by decide +kernel⟩, List.mem_of_getElem? (i := 579) (by decide +kernel), List.mem_of_getElem? (i := 590) (by decide +kernel), List.mem_of_getElem? (i := 591) (by decide +kernel)⟩
theorem lw_p27 : lw_okq (⟨"RingNamesModel", "letterAt", "(I)I"⟩, 19) := ⟨⟨by decide +kernel, by decide +kernel⟩, List.mem_of_getElem? (i := 579) (by decide +kernel), List.mem_of_getElem? (i := 594) (by decide +kernel), List.mem_of_getElem? (i := 595) (by decide +kernel)⟩
theorem lw_p28 : lw_okq (⟨"RingNamesModel", "readsItem", "()Z"⟩, 19) := ⟨⟨by decide +kernel, by decide +kernel⟩, List.mem_of_getElem? (i := 579) (by decide +kernel), List.mem_of_getElem? (i := 604) (by decide +kernel), List.mem_of_getElem? (i := 605) (by decide +kernel)⟩
theorem lw_p29 : lw_okq (⟨"RingNamesModel", "number", "(III)Z"⟩, 19) := ⟨⟨by decide +kernel, by decide +kernel⟩, List.mem_of_getElem? (i := 579) (by decide +kernel), List.mem_of_getElem? (i := 608) (by decide +kernel), List.mem_of_getElem? (i := 609) (by decide +kernel)⟩
theorem lw_p30 : lw_okq (⟨"RingNamesModel", "once", "(III)Z"⟩, 19) := ⟨⟨by decide +kernel, by decide +kernel⟩, List.mem_of_getElem? (i := 579) (by decide +kernel), List.mem_of_getElem? (i := 612) (by decide +kernel), List.mem_of_getElem? (i := 613) (by decide +kernel)⟩
theorem lw_p31 : lw_okq (⟨"RingNamesModel", "tells", "()V"⟩, 19) := ⟨⟨by decide +kernel, by decide +kernel⟩, List.mem_of_getElem? (i := 579) (by decide +kernel), List.mem_of_getElem? (i := 616) (by decide +kernel), List.mem_of_getElem? (i := 617) (by decide +kernel)⟩
def lw_privs_2 : List (MethodName × Nat) := [(⟨"RingNames$Orders", "rankOfPlaces", "(II)I"⟩, 6), (⟨"RingNames$Crew", "isClique", "(I)Z"⟩, 6), (⟨"RingNames", "asSailor", "(I)I"⟩, 10), (⟨"RingNames", "asCook", "(I)I"⟩, 10), (⟨"RingNames", "asMate", "(I)I"⟩, 10), (⟨"RingNames", "asBosun", "(I)I"⟩, 10), (⟨"RingNames", "asGunner", "(I)I"⟩, 10), (⟨"RingNames", "asBoy", "(I)I"⟩, 10), (⟨"RingNames", "imageAt", "(I)LRingNames$Moment;"⟩, 10), (⟨"RingNamesModel", "reads", "()Z"⟩, 19), (⟨"RingNamesModel", "token", "()V"⟩, 19), (⟨"RingNamesModel", "letterAt", "(I)I"⟩, 19), (⟨"RingNamesModel", "readsItem", "()Z"⟩, 19), (⟨"RingNamesModel", "number", "(III)Z"⟩, 19), (⟨"RingNamesModel", "once", "(III)Z"⟩, 19), (⟨"RingNamesModel", "tells", "()V"⟩, 19)]
theorem lw_r2 : ∀ q ∈ lw_privs_2, lw_okq q := List.forall_mem_cons.mpr ⟨lw_p16, List.forall_mem_cons.mpr ⟨lw_p17, List.forall_mem_cons.mpr ⟨lw_p18, List.forall_mem_cons.mpr ⟨lw_p19, List.forall_mem_cons.mpr ⟨lw_p20, List.forall_mem_cons.mpr ⟨lw_p21, List.forall_mem_cons.mpr ⟨lw_p22, List.forall_mem_cons.mpr ⟨lw_p23, List.forall_mem_cons.mpr ⟨lw_p24, List.forall_mem_cons.mpr ⟨lw_p25, List.forall_mem_cons.mpr ⟨lw_p26, List.forall_mem_cons.mpr ⟨lw_p27, List.forall_mem_cons.mpr ⟨lw_p28, List.forall_mem_cons.mpr ⟨lw_p29, List.forall_mem_cons.mpr ⟨lw_p30, List.forall_mem_cons.mpr ⟨lw_p31, fun _ h => absurd h List.not_mem_nil⟩⟩⟩⟩⟩⟩⟩⟩⟩⟩⟩⟩⟩⟩⟩⟩
theorem lw_p32 : lw_okq (⟨"RingNamesModel", "isSailor", "(I)Z"⟩, 19) := ⟨⟨by decide +kernel, by decide +kernel⟩, List.mem_of_getElem? (i := 579) (by decide +kernel), List.mem_of_getElem? (i := 695) (by decide +kernel), List.mem_of_getElem? (i := 696) (by decide +kernel)⟩
theorem lw_p33 : lw_okq (⟨"RingNamesModel", "seatOf", "(I)I"⟩, 19) := ⟨⟨by decide +kernel, by decide +kernel⟩, List.mem_of_getElem? (i := 579) (by decide +kernel), List.mem_of_getElem? (i := 699) (by decide +kernel), List.mem_of_getElem? (i := 700) (by decide +kernel)⟩
theorem lw_p34 : lw_okq (⟨"RingNamesModel", "wouldNow", "(I)Z"⟩, 19) := ⟨⟨by decide +kernel, by decide +kernel⟩, List.mem_of_getElem? (i := 579) (by decide +kernel), List.mem_of_getElem? (i := 703) (by decide +kernel), List.mem_of_getElem? (i := 704) (by decide +kernel)⟩
theorem lw_p35 : lw_okq (⟨"RingNamesModel", "would", "(II)Z"⟩, 19) := ⟨⟨by decide +kernel, by decide +kernel⟩, List.mem_of_getElem? (i := 579) (by decide +kernel), List.mem_of_getElem? (i := 707) (by decide +kernel), List.mem_of_getElem? (i := 708) (by decide +kernel)⟩
theorem lw_p36 : lw_okq (⟨"RingNamesModel", "isSeat", "(I)Z"⟩, 19) := ⟨⟨by decide +kernel, by decide +kernel⟩, List.mem_of_getElem? (i := 579) (by decide +kernel), List.mem_of_getElem? (i := 718) (by decide +kernel), List.mem_of_getElem? (i := 719) (by decide +kernel)⟩
theorem lw_p37 : lw_okq (⟨"RingNamesModel", "there", "()I"⟩, 19) := ⟨⟨by decide +kernel, by decide +kernel⟩, List.mem_of_getElem? (i := 579) (by decide +kernel), List.mem_of_getElem? (i := 726) (by decide +kernel), List.mem_of_getElem? (i := 727) (by decide +kernel)⟩
theorem lw_p38 : lw_okq (⟨"RingNamesModel", "keeps", "()V"⟩, 19) := ⟨⟨by decide +kernel, by decide +kernel⟩, List.mem_of_getElem? (i := 579) (by decide +kernel), List.mem_of_getElem? (i := 734) (by decide +kernel), List.mem_of_getElem? (i := 735) (by decide +kernel)⟩
theorem lw_p39 : lw_okq (⟨"RingNamesModel", "closed", "(I)I"⟩, 19) := ⟨⟨by decide +kernel, by decide +kernel⟩, List.mem_of_getElem? (i := 579) (by decide +kernel), List.mem_of_getElem? (i := 754) (by decide +kernel), List.mem_of_getElem? (i := 755) (by decide +kernel)⟩
theorem lw_p40 : lw_okq (⟨"RingNamesModel", "lays", "(I)V"⟩, 19) := ⟨⟨by decide +kernel, by decide +kernel⟩, List.mem_of_getElem? (i := 579) (by decide +kernel), List.mem_of_getElem? (i := 766) (by decide +kernel), List.mem_of_getElem? (i := 767) (by decide +kernel)⟩
theorem lw_p41 : lw_okq (⟨"RingNamesModel", "inkOf", "(I)I"⟩, 19) := ⟨⟨by decide +kernel, by decide +kernel⟩, List.mem_of_getElem? (i := 579) (by decide +kernel), List.mem_of_getElem? (i := 770) (by decide +kernel), List.mem_of_getElem? (i := 771) (by decide +kernel)⟩
theorem lw_p42 : lw_okq (⟨"RingNamesModel", "firsts", "(I)I"⟩, 19) := ⟨⟨by decide +kernel, by decide +kernel⟩, List.mem_of_getElem? (i := 579) (by decide +kernel), List.mem_of_getElem? (i := 778) (by decide +kernel), List.mem_of_getElem? (i := 779) (by decide +kernel)⟩
theorem lw_p43 : lw_okq (⟨"RingNamesModel", "isThere", "(I)Z"⟩, 19) := ⟨⟨by decide +kernel, by decide +kernel⟩, List.mem_of_getElem? (i := 579) (by decide +kernel), List.mem_of_getElem? (i := 789) (by decide +kernel), List.mem_of_getElem? (i := 790) (by decide +kernel)⟩
theorem lw_p44 : lw_okq (⟨"RingNamesModel", "leads", "(I)I"⟩, 19) := ⟨⟨by decide +kernel, by decide +kernel⟩, List.mem_of_getElem? (i := 579) (by decide +kernel), List.mem_of_getElem? (i := 800) (by decide +kernel), List.mem_of_getElem? (i := 801) (by decide +kernel)⟩
theorem lw_p45 : lw_okq (⟨"RingNamesModel", "isKnown", "(II)Z"⟩, 19) := ⟨⟨by decide +kernel, by decide +kernel⟩, List.mem_of_getElem? (i := 579) (by decide +kernel), List.mem_of_getElem? (i := 811) (by decide +kernel), List.mem_of_getElem? (i := 812) (by decide +kernel)⟩
def lw_privs_3 : List (MethodName × Nat) := [(⟨"RingNamesModel", "isSailor", "(I)Z"⟩, 19), (⟨"RingNamesModel", "seatOf", "(I)I"⟩, 19), (⟨"RingNamesModel", "wouldNow", "(I)Z"⟩, 19), (⟨"RingNamesModel", "would", "(II)Z"⟩, 19), (⟨"RingNamesModel", "isSeat", "(I)Z"⟩, 19), (⟨"RingNamesModel", "there", "()I"⟩, 19), (⟨"RingNamesModel", "keeps", "()V"⟩, 19), (⟨"RingNamesModel", "closed", "(I)I"⟩, 19), (⟨"RingNamesModel", "lays", "(I)V"⟩, 19), (⟨"RingNamesModel", "inkOf", "(I)I"⟩, 19), (⟨"RingNamesModel", "firsts", "(I)I"⟩, 19), (⟨"RingNamesModel", "isThere", "(I)Z"⟩, 19), (⟨"RingNamesModel", "leads", "(I)I"⟩, 19), (⟨"RingNamesModel", "isKnown", "(II)Z"⟩, 19)]
theorem lw_r3 : ∀ q ∈ lw_privs_3, lw_okq q := List.forall_mem_cons.mpr ⟨lw_p32, List.forall_mem_cons.mpr ⟨lw_p33, List.forall_mem_cons.mpr ⟨lw_p34, List.forall_mem_cons.mpr ⟨lw_p35, List.forall_mem_cons.mpr ⟨lw_p36, List.forall_mem_cons.mpr ⟨lw_p37, List.forall_mem_cons.mpr ⟨lw_p38, List.forall_mem_cons.mpr ⟨lw_p39, List.forall_mem_cons.mpr ⟨lw_p40, List.forall_mem_cons.mpr ⟨lw_p41, List.forall_mem_cons.mpr ⟨lw_p42, List.forall_mem_cons.mpr ⟨lw_p43, List.forall_mem_cons.mpr ⟨lw_p44, List.forall_mem_cons.mpr ⟨lw_p45, fun _ h => absurd h List.not_mem_nil⟩⟩⟩⟩⟩⟩⟩⟩⟩⟩⟩⟩⟩⟩
def lw_privs : List (MethodName × Nat) := lw_privs_1 ++ (lw_privs_2 ++ (lw_privs_3))
def lw_tbl : List Cond := k2_sels lw_privs ++ tables_1
theorem lw_privs_ok : ∀ q ∈ lw_privs, lw_okq q := by
  show ∀ q ∈ lw_privs_1 ++ (lw_privs_2 ++ (lw_privs_3)), lw_okq q
  exact List.forall_mem_append.mpr ⟨lw_r1, List.forall_mem_append.mpr ⟨lw_r2, lw_r3⟩⟩
def RX0 : String := "RingNames$Crew"
def TX0 : u_T := fun k => match k with
  | 0 => ("RingNames$Crew", "watch", "[I", true)
  | 1 => ("RingNames$Crew", "courage", "[I", true)
  | 2 => ("RingNames$Crew", "trust", "[I", true)
  | 3 => ("RingNames$Crew", "size", "I", false)
  | 4 => ("RingNames$Crew", "dip", "I", false)
  | _ => ("RingNames$Crew", "seats", "I", false)
def tyX0 : Nat → FieldType := fun k => match k with
  | 0 => .array .int
  | 1 => .array .int
  | 2 => .array .int
  | 3 => .int
  | 4 => .int
  | _ => .int
abbrev wsX00 : List Cond := u_ws RX0 TX0 6
theorem nmX0 : ∀ a, a < 6 → ∀ b, b < 6 → a ≠ b → (TX0 a).2.1 ≠ (TX0 b).2.1 := by decide +kernel
theorem tyX0_ok : ∀ k, k < 6 → parseFieldDescriptor (TX0 k).2.2.1 = some (tyX0 k) := by decide +kernel
abbrev cX0_init : ByteArray := prog_2_method_1_code
def yX0_init : MethodName := ⟨RX0, "<init>", "()V"⟩
abbrev cX0_restart : ByteArray := prog_2_method_2_code
def yX0_restart : MethodName := ⟨RX0, "restart", "()V"⟩
abbrev cX0_enlist : ByteArray := prog_2_method_3_code
def yX0_enlist : MethodName := ⟨RX0, "enlist", "(III)V"⟩
abbrev cX0_become : ByteArray := prog_2_method_4_code
def yX0_become : MethodName := ⟨RX0, "become", "(LRingNames$Crew;)V"⟩
abbrev cX0_all : ByteArray := prog_2_method_5_code
def yX0_all : MethodName := ⟨RX0, "all", "()I"⟩
abbrev cX0_trusted : ByteArray := prog_2_method_6_code
def yX0_trusted : MethodName := ⟨RX0, "trusted", "(I)I"⟩
abbrev cX0_isOnDeck : ByteArray := prog_2_method_7_code
def yX0_isOnDeck : MethodName := ⟨RX0, "isOnDeck", "(II)Z"⟩
abbrev cX0_dares : ByteArray := prog_2_method_8_code
def yX0_dares : MethodName := ⟨RX0, "dares", "(II)Z"⟩
abbrev cX0_inkBehind : ByteArray := prog_2_method_9_code
def yX0_inkBehind : MethodName := ⟨RX0, "inkBehind", "(I)I"⟩
abbrev cX0_signedInTheEnd : ByteArray := prog_2_method_10_code
def yX0_signedInTheEnd : MethodName := ⟨RX0, "signedInTheEnd", "(I)I"⟩
abbrev cX0_largestClique : ByteArray := prog_2_method_11_code
def yX0_largestClique : MethodName := ⟨RX0, "largestClique", "()I"⟩
abbrev cX0_isClique : ByteArray := prog_2_method_12_code
def yX0_isClique : MethodName := ⟨RX0, "isClique", "(I)Z"⟩
def RX1 : String := "RingNames$Moment"
def TX1 : u_T := fun k => match k with
  | 0 => ("RingNames$Moment", "who", "[I", true)
  | 1 => ("RingNames$Moment", "ink", "[I", true)
  | 2 => ("RingNames$Moment", "hour", "I", false)
  | _ => ("RingNames$Moment", "signed", "I", false)
def tyX1 : Nat → FieldType := fun k => match k with
  | 0 => .array .int
  | 1 => .array .int
  | 2 => .int
  | _ => .int
abbrev wsX10 : List Cond := u_ws RX1 TX1 4
theorem nmX1 : ∀ a, a < 4 → ∀ b, b < 4 → a ≠ b → (TX1 a).2.1 ≠ (TX1 b).2.1 := by decide +kernel
theorem tyX1_ok : ∀ k, k < 4 → parseFieldDescriptor (TX1 k).2.2.1 = some (tyX1 k) := by decide +kernel
abbrev cX1_init : ByteArray := prog_3_method_1_code
def yX1_init : MethodName := ⟨RX1, "<init>", "()V"⟩
abbrev cX1_restart : ByteArray := prog_3_method_2_code
def yX1_restart : MethodName := ⟨RX1, "restart", "()V"⟩
abbrev cX1_become : ByteArray := prog_3_method_3_code
def yX1_become : MethodName := ⟨RX1, "become", "(LRingNames$Moment;)V"⟩
abbrev cX1_write : ByteArray := prog_3_method_4_code
def yX1_write : MethodName := ⟨RX1, "write", "(III)V"⟩
abbrev cX1_there : ByteArray := prog_3_method_5_code
def yX1_there : MethodName := ⟨RX1, "there", "()I"⟩
abbrev cX1_seatOf : ByteArray := prog_3_method_6_code
def yX1_seatOf : MethodName := ⟨RX1, "seatOf", "(I)I"⟩
abbrev cX1_inkOf : ByteArray := prog_3_method_7_code
def yX1_inkOf : MethodName := ⟨RX1, "inkOf", "(I)I"⟩
def RX2 : String := "RingNames$Orders"
def TX2 : u_T := fun k => match k with
  | 0 => ("RingNames$Orders", "list", "[I", true)
  | 1 => ("RingNames$Orders", "marks", "[I", true)
  | 2 => ("RingNames$Orders", "ink", "[I", true)
  | 3 => ("RingNames$Orders", "size", "I", false)
  | 4 => ("RingNames$Orders", "there", "I", false)
  | _ => ("RingNames$Orders", "hour", "I", false)
def tyX2 : Nat → FieldType := fun k => match k with
  | 0 => .array .int
  | 1 => .array .int
  | 2 => .array .int
  | 3 => .int
  | 4 => .int
  | _ => .int
abbrev wsX20 : List Cond := u_ws RX2 TX2 6
theorem nmX2 : ∀ a, a < 6 → ∀ b, b < 6 → a ≠ b → (TX2 a).2.1 ≠ (TX2 b).2.1 := by decide +kernel
theorem tyX2_ok : ∀ k, k < 6 → parseFieldDescriptor (TX2 k).2.2.1 = some (tyX2 k) := by decide +kernel
abbrev cX2_init : ByteArray := prog_4_method_1_code
def yX2_init : MethodName := ⟨RX2, "<init>", "()V"⟩
abbrev cX2_find : ByteArray := prog_4_method_2_code
def yX2_find : MethodName := ⟨RX2, "find", "(LRingNames$Crew;LRingNames$Moment;I)V"⟩
abbrev cX2_extend : ByteArray := prog_4_method_3_code
def yX2_extend : MethodName := ⟨RX2, "extend", "(LRingNames$Orders;LRingNames$Crew;IIII)V"⟩
abbrev cX2_add : ByteArray := prog_4_method_4_code
def yX2_add : MethodName := ⟨RX2, "add", "(I)V"⟩
abbrev cX2_placeOf : ByteArray := prog_4_method_5_code
def yX2_placeOf : MethodName := ⟨RX2, "placeOf", "(II)I"⟩
abbrev cX2_firstOf : ByteArray := prog_4_method_6_code
def yX2_firstOf : MethodName := ⟨RX2, "firstOf", "(I)I"⟩
abbrev cX2_firsts : ByteArray := prog_4_method_7_code
def yX2_firsts : MethodName := ⟨RX2, "firsts", "()I"⟩
abbrev cX2_timesFirst : ByteArray := prog_4_method_8_code
def yX2_timesFirst : MethodName := ⟨RX2, "timesFirst", "(I)I"⟩
abbrev cX2_likeliestFirst : ByteArray := prog_4_method_9_code
def yX2_likeliestFirst : MethodName := ⟨RX2, "likeliestFirst", "()I"⟩
abbrev cX2_alwaysAheadOf : ByteArray := prog_4_method_10_code
def yX2_alwaysAheadOf : MethodName := ⟨RX2, "alwaysAheadOf", "(I)I"⟩
abbrev cX2_aheadOf : ByteArray := prog_4_method_11_code
def yX2_aheadOf : MethodName := ⟨RX2, "aheadOf", "(II)I"⟩
abbrev cX2_fewestToAsk : ByteArray := prog_4_method_12_code
def yX2_fewestToAsk : MethodName := ⟨RX2, "fewestToAsk", "()I"⟩
abbrev cX2_tellWhoWasFirst : ByteArray := prog_4_method_13_code
def yX2_tellWhoWasFirst : MethodName := ⟨RX2, "tellWhoWasFirst", "(I)Z"⟩
abbrev cX2_rankOfPlaces : ByteArray := prog_4_method_14_code
def yX2_rankOfPlaces : MethodName := ⟨RX2, "rankOfPlaces", "(II)I"⟩
def RX3 : String := "RingNames$Past"
def TX3 : u_T := fun k => match k with
  | 0 => ("RingNames$Past", "moments", "[LRingNames$Moment;", true)
  | 1 => ("RingNames$Past", "next", "I", false)
  | _ => ("RingNames$Past", "size", "I", false)
def tyX3 : Nat → FieldType := fun k => match k with
  | 0 => .array (.object "RingNames$Moment")
  | 1 => .int
  | _ => .int
abbrev wsX30 : List Cond := u_ws RX3 TX3 3
theorem nmX3 : ∀ a, a < 3 → ∀ b, b < 3 → a ≠ b → (TX3 a).2.1 ≠ (TX3 b).2.1 := by decide +kernel
theorem tyX3_ok : ∀ k, k < 3 → parseFieldDescriptor (TX3 k).2.2.1 = some (tyX3 k) := by decide +kernel
abbrev cX3_init : ByteArray := prog_5_method_1_code
def yX3_init : MethodName := ⟨RX3, "<init>", "()V"⟩
abbrev cX3_remember : ByteArray := prog_5_method_2_code
def yX3_remember : MethodName := ⟨RX3, "remember", "(LRingNames$Moment;)V"⟩
abbrev cX3_giveBack : ByteArray := prog_5_method_3_code
def yX3_giveBack : MethodName := ⟨RX3, "giveBack", "(LRingNames$Moment;)Z"⟩
abbrev cX3_forget : ByteArray := prog_5_method_4_code
def yX3_forget : MethodName := ⟨RX3, "forget", "()V"⟩
abbrev cX3_slotAt : ByteArray := prog_5_method_5_code
def yX3_slotAt : MethodName := ⟨RX3, "slotAt", "(I)LRingNames$Moment;"⟩
def RX4 : String := "RingNames$Text"
def TX4 : u_T := fun k => match k with
  | 0 => ("RingNames$Text", "letters", "[I", true)
  | 1 => ("RingNames$Text", "length", "I", false)
  | 2 => ("RingNames$Text", "place", "I", false)
  | 3 => ("RingNames$Text", "tokenStart", "I", false)
  | 4 => ("RingNames$Text", "dipTold", "Z", false)
  | _ => ("RingNames$Text", "seatsTold", "Z", false)
def tyX4 : Nat → FieldType := fun k => match k with
  | 0 => .array .int
  | 1 => .int
  | 2 => .int
  | 3 => .int
  | 4 => .boolean
  | _ => .boolean
abbrev wsX40 : List Cond := u_ws RX4 TX4 6
theorem nmX4 : ∀ a, a < 6 → ∀ b, b < 6 → a ≠ b → (TX4 a).2.1 ≠ (TX4 b).2.1 := by decide +kernel
theorem tyX4_ok : ∀ k, k < 6 → parseFieldDescriptor (TX4 k).2.2.1 = some (tyX4 k) := by decide +kernel
abbrev cX4_init : ByteArray := prog_6_method_1_code
def yX4_init : MethodName := ⟨RX4, "<init>", "()V"⟩
abbrev cX4_append : ByteArray := prog_6_method_2_code
def yX4_append : MethodName := ⟨RX4, "append", "(I)Z"⟩
abbrev cX4_readInto : ByteArray := prog_6_method_3_code
def yX4_readInto : MethodName := ⟨RX4, "readInto", "(LRingNames$Crew;)I"⟩
abbrev cX4_readSailor : ByteArray := prog_6_method_4_code
def yX4_readSailor : MethodName := ⟨RX4, "readSailor", "(LRingNames$Crew;)Z"⟩
abbrev cX4_readDip : ByteArray := prog_6_method_5_code
def yX4_readDip : MethodName := ⟨RX4, "readDip", "(LRingNames$Crew;)Z"⟩
abbrev cX4_readSeats : ByteArray := prog_6_method_6_code
def yX4_readSeats : MethodName := ⟨RX4, "readSeats", "(LRingNames$Crew;)Z"⟩
abbrev cX4_itemEnds : ByteArray := prog_6_method_7_code
def yX4_itemEnds : MethodName := ⟨RX4, "itemEnds", "()Z"⟩
abbrev cX4_numberFrom : ByteArray := prog_6_method_8_code
def yX4_numberFrom : MethodName := ⟨RX4, "numberFrom", "(II)I"⟩
abbrev cX4_next : ByteArray := prog_6_method_9_code
def yX4_next : MethodName := ⟨RX4, "next", "()I"⟩
abbrev cX4_nextNumber : ByteArray := prog_6_method_10_code
def yX4_nextNumber : MethodName := ⟨RX4, "nextNumber", "()I"⟩
abbrev cX4_isDigit : ByteArray := prog_6_method_11_code
def yX4_isDigit : MethodName := ⟨RX4, "isDigit", "(I)Z"⟩
def RX5 : String := "RingNames"
def TX5 : u_T := fun k => match k with
  | 0 => ("RingNames", "text", "LRingNames$Text;", true)
  | 1 => ("RingNames", "crew", "LRingNames$Crew;", true)
  | 2 => ("RingNames", "told", "LRingNames$Crew;", true)
  | 3 => ("RingNames", "present", "LRingNames$Moment;", true)
  | 4 => ("RingNames", "past", "LRingNames$Past;", true)
  | 5 => ("RingNames", "image0", "LRingNames$Moment;", true)
  | 6 => ("RingNames", "image1", "LRingNames$Moment;", true)
  | 7 => ("RingNames", "keptImages", "I", false)
  | 8 => ("RingNames", "found", "LRingNames$Orders;", true)
  | _ => ("RingNames", "steps", "J", false)
def tyX5 : Nat → FieldType := fun k => match k with
  | 0 => .object "RingNames$Text"
  | 1 => .object "RingNames$Crew"
  | 2 => .object "RingNames$Crew"
  | 3 => .object "RingNames$Moment"
  | 4 => .object "RingNames$Past"
  | 5 => .object "RingNames$Moment"
  | 6 => .object "RingNames$Moment"
  | 7 => .int
  | 8 => .object "RingNames$Orders"
  | _ => .long
abbrev wsX50 : List Cond := u_ws RX5 TX5 10
theorem nmX5 : ∀ a, a < 10 → ∀ b, b < 10 → a ≠ b → (TX5 a).2.1 ≠ (TX5 b).2.1 := by decide +kernel
theorem tyX5_ok : ∀ k, k < 10 → parseFieldDescriptor (TX5 k).2.2.1 = some (tyX5 k) := by decide +kernel
abbrev cX5_init : ByteArray := prog_1_method_1_code
def yX5_init : MethodName := ⟨RX5, "<init>", "()V"⟩
abbrev cX5_type : ByteArray := prog_1_method_2_code
def yX5_type : MethodName := ⟨RX5, "type", "(I)I"⟩
abbrev cX5_clear : ByteArray := prog_1_method_3_code
def yX5_clear : MethodName := ⟨RX5, "clear", "()I"⟩
abbrev cX5_crew : ByteArray := prog_1_method_4_code
def yX5_crew : MethodName := ⟨RX5, "crew", "()I"⟩
abbrev cX5_sailor : ByteArray := prog_1_method_5_code
def yX5_sailor : MethodName := ⟨RX5, "sailor", "(II)I"⟩
abbrev cX5_seat : ByteArray := prog_1_method_6_code
def yX5_seat : MethodName := ⟨RX5, "seat", "(II)I"⟩
abbrev cX5_now : ByteArray := prog_1_method_7_code
def yX5_now : MethodName := ⟨RX5, "now", "(I)I"⟩
abbrev cX5_signs : ByteArray := prog_1_method_8_code
def yX5_signs : MethodName := ⟨RX5, "signs", "(II)I"⟩
abbrev cX5_hour : ByteArray := prog_1_method_9_code
def yX5_hour : MethodName := ⟨RX5, "hour", "()I"⟩
abbrev cX5_scrape : ByteArray := prog_1_method_10_code
def yX5_scrape : MethodName := ⟨RX5, "scrape", "(I)I"⟩
abbrev cX5_undo : ByteArray := prog_1_method_11_code
def yX5_undo : MethodName := ⟨RX5, "undo", "()I"⟩
abbrev cX5_will : ByteArray := prog_1_method_12_code
def yX5_will : MethodName := ⟨RX5, "will", "()I"⟩
abbrev cX5_begin : ByteArray := prog_1_method_13_code
def yX5_begin : MethodName := ⟨RX5, "begin", "()I"⟩
abbrev cX5_orders : ByteArray := prog_1_method_14_code
def yX5_orders : MethodName := ⟨RX5, "orders", "()I"⟩
abbrev cX5_first : ByteArray := prog_1_method_15_code
def yX5_first : MethodName := ⟨RX5, "first", "()I"⟩
abbrev cX5_sure : ByteArray := prog_1_method_16_code
def yX5_sure : MethodName := ⟨RX5, "sure", "(I)I"⟩
abbrev cX5_chance : ByteArray := prog_1_method_17_code
def yX5_chance : MethodName := ⟨RX5, "chance", "(II)I"⟩
abbrev cX5_ask : ByteArray := prog_1_method_18_code
def yX5_ask : MethodName := ⟨RX5, "ask", "()I"⟩
abbrev cX5_hang : ByteArray := prog_1_method_19_code
def yX5_hang : MethodName := ⟨RX5, "hang", "()I"⟩
abbrev cX5_shift : ByteArray := prog_1_method_20_code
def yX5_shift : MethodName := ⟨RX5, "shift", "(I)I"⟩
abbrev cX5_odds : ByteArray := prog_1_method_21_code
def yX5_odds : MethodName := ⟨RX5, "odds", "(III)I"⟩
abbrev cX5_bold : ByteArray := prog_1_method_22_code
def yX5_bold : MethodName := ⟨RX5, "bold", "(I)I"⟩
abbrev cX5_clique : ByteArray := prog_1_method_23_code
def yX5_clique : MethodName := ⟨RX5, "clique", "(I)I"⟩
abbrev cX5_rate : ByteArray := prog_1_method_24_code
def yX5_rate : MethodName := ⟨RX5, "rate", "(II)I"⟩
abbrev cX5_keep : ByteArray := prog_1_method_25_code
def yX5_keep : MethodName := ⟨RX5, "keep", "(I)I"⟩
abbrev cX5_back : ByteArray := prog_1_method_26_code
def yX5_back : MethodName := ⟨RX5, "back", "(I)I"⟩
abbrev cX5_count : ByteArray := prog_1_method_27_code
def yX5_count : MethodName := ⟨RX5, "count", "(I)I"⟩
abbrev cX5_trace : ByteArray := prog_1_method_28_code
def yX5_trace : MethodName := ⟨RX5, "trace", "()J"⟩
abbrev cX5_isSailor : ByteArray := prog_1_method_29_code
def yX5_isSailor : MethodName := ⟨RX5, "isSailor", "(I)Z"⟩
abbrev cX5_isSeat : ByteArray := prog_1_method_30_code
def yX5_isSeat : MethodName := ⟨RX5, "isSeat", "(I)Z"⟩
abbrev cX5_isThere : ByteArray := prog_1_method_31_code
def yX5_isThere : MethodName := ⟨RX5, "isThere", "(I)Z"⟩
abbrev cX5_isPart : ByteArray := prog_1_method_32_code
def yX5_isPart : MethodName := ⟨RX5, "isPart", "(I)Z"⟩
abbrev cX5_wouldSign : ByteArray := prog_1_method_33_code
def yX5_wouldSign : MethodName := ⟨RX5, "wouldSign", "(I)Z"⟩
abbrev cX5_thoseWhoWould : ByteArray := prog_1_method_34_code
def yX5_thoseWhoWould : MethodName := ⟨RX5, "thoseWhoWould", "()I"⟩
abbrev cX5_imageAt : ByteArray := prog_1_method_35_code
def yX5_imageAt : MethodName := ⟨RX5, "imageAt", "(I)LRingNames$Moment;"⟩
abbrev cX5_asSailor : ByteArray := prog_1_method_36_code
def yX5_asSailor : MethodName := ⟨RX5, "asSailor", "(I)I"⟩
abbrev cX5_asCook : ByteArray := prog_1_method_37_code
def yX5_asCook : MethodName := ⟨RX5, "asCook", "(I)I"⟩
abbrev cX5_asMate : ByteArray := prog_1_method_38_code
def yX5_asMate : MethodName := ⟨RX5, "asMate", "(I)I"⟩
abbrev cX5_asBosun : ByteArray := prog_1_method_39_code
def yX5_asBosun : MethodName := ⟨RX5, "asBosun", "(I)I"⟩
abbrev cX5_asGunner : ByteArray := prog_1_method_40_code
def yX5_asGunner : MethodName := ⟨RX5, "asGunner", "(I)I"⟩
abbrev cX5_asBoy : ByteArray := prog_1_method_41_code
def yX5_asBoy : MethodName := ⟨RX5, "asBoy", "(I)I"⟩
abbrev cX5_has : ByteArray := prog_1_method_42_code
def yX5_has : MethodName := ⟨RX5, "has", "(II)Z"⟩
abbrev cX5_at : ByteArray := prog_1_method_43_code
def yX5_at : MethodName := ⟨RX5, "at", "([II)I"⟩
abbrev cX5_put : ByteArray := prog_1_method_44_code
def yX5_put : MethodName := ⟨RX5, "put", "([III)V"⟩
abbrev cX5_power : ByteArray := prog_1_method_45_code
def yX5_power : MethodName := ⟨RX5, "power", "(II)I"⟩
abbrev cX5_inLeastTerms : ByteArray := prog_1_method_46_code
def yX5_inLeastTerms : MethodName := ⟨RX5, "inLeastTerms", "(III)I"⟩
abbrev cX5_commonDivisor : ByteArray := prog_1_method_47_code
def yX5_commonDivisor : MethodName := ⟨RX5, "commonDivisor", "(II)I"⟩
def RX6 : String := "RingNamesModel"
def TX6 : u_T := fun k => match k with
  | 0 => ("RingNamesModel", "trace", "J", false)
  | 1 => ("RingNamesModel", "text", "[I", true)
  | 2 => ("RingNamesModel", "typed", "I", false)
  | 3 => ("RingNamesModel", "told", "[I", true)
  | 4 => ("RingNamesModel", "draft", "[I", true)
  | 5 => ("RingNamesModel", "s", "[I", true)
  | 6 => ("RingNamesModel", "past", "[I", true)
  | 7 => ("RingNamesModel", "known", "I", false)
  | 8 => ("RingNamesModel", "images", "[I", true)
  | 9 => ("RingNamesModel", "kept", "[Z", true)
  | 10 => ("RingNamesModel", "at", "I", false)
  | 11 => ("RingNamesModel", "sort", "I", false)
  | 12 => ("RingNamesModel", "start", "I", false)
  | 13 => ("RingNamesModel", "value", "I", false)
  | 14 => ("RingNamesModel", "rows", "[I", true)
  | 15 => ("RingNamesModel", "many", "I", false)
  | 16 => ("RingNamesModel", "tried", "[I", true)
  | 17 => ("RingNamesModel", "hourOf", "[I", true)
  | _ => ("RingNamesModel", "leaders", "[I", true)
def tyX6 : Nat → FieldType := fun k => match k with
  | 0 => .long
  | 1 => .array .int
  | 2 => .int
  | 3 => .array .int
  | 4 => .array .int
  | 5 => .array .int
  | 6 => .array .int
  | 7 => .int
  | 8 => .array .int
  | 9 => .array .boolean
  | 10 => .int
  | 11 => .int
  | 12 => .int
  | 13 => .int
  | 14 => .array .int
  | 15 => .int
  | 16 => .array .int
  | 17 => .array .int
  | _ => .array .int
abbrev wsX60 : List Cond := u_ws RX6 TX6 19
theorem nmX6 : ∀ a, a < 19 → ∀ b, b < 19 → a ≠ b → (TX6 a).2.1 ≠ (TX6 b).2.1 := by decide +kernel
theorem tyX6_ok : ∀ k, k < 19 → parseFieldDescriptor (TX6 k).2.2.1 = some (tyX6 k) := by decide +kernel
abbrev cX6_init : ByteArray := prog_8_method_1_code
def yX6_init : MethodName := ⟨RX6, "<init>", "()V"⟩
abbrev cX6_in : ByteArray := prog_8_method_3_code
def yX6_in : MethodName := ⟨RX6, "in", "(III)Z"⟩
abbrev cX6_isSailor : ByteArray := prog_8_method_4_code
def yX6_isSailor : MethodName := ⟨RX6, "isSailor", "(I)Z"⟩
abbrev cX6_isSeat : ByteArray := prog_8_method_5_code
def yX6_isSeat : MethodName := ⟨RX6, "isSeat", "(I)Z"⟩
abbrev cX6_ones : ByteArray := prog_8_method_6_code
def yX6_ones : MethodName := ⟨RX6, "ones", "(I)I"⟩
abbrev cX6_type : ByteArray := prog_8_method_7_code
def yX6_type : MethodName := ⟨RX6, "type", "(I)I"⟩
abbrev cX6_clear : ByteArray := prog_8_method_8_code
def yX6_clear : MethodName := ⟨RX6, "clear", "()I"⟩
abbrev cX6_letterAt : ByteArray := prog_8_method_9_code
def yX6_letterAt : MethodName := ⟨RX6, "letterAt", "(I)I"⟩
abbrev cX6_isDigit : ByteArray := prog_8_method_10_code
def yX6_isDigit : MethodName := ⟨RX6, "isDigit", "(I)Z"⟩
abbrev cX6_token : ByteArray := prog_8_method_11_code
def yX6_token : MethodName := ⟨RX6, "token", "()V"⟩
abbrev cX6_number : ByteArray := prog_8_method_12_code
def yX6_number : MethodName := ⟨RX6, "number", "(III)Z"⟩
abbrev cX6_once : ByteArray := prog_8_method_13_code
def yX6_once : MethodName := ⟨RX6, "once", "(III)Z"⟩
abbrev cX6_readsItem : ByteArray := prog_8_method_14_code
def yX6_readsItem : MethodName := ⟨RX6, "readsItem", "()Z"⟩
abbrev cX6_reads : ByteArray := prog_8_method_15_code
def yX6_reads : MethodName := ⟨RX6, "reads", "()Z"⟩
abbrev cX6_tells : ByteArray := prog_8_method_16_code
def yX6_tells : MethodName := ⟨RX6, "tells", "()V"⟩
abbrev cX6_crew : ByteArray := prog_8_method_17_code
def yX6_crew : MethodName := ⟨RX6, "crew", "()I"⟩
abbrev cX6_seatOf : ByteArray := prog_8_method_18_code
def yX6_seatOf : MethodName := ⟨RX6, "seatOf", "(I)I"⟩
abbrev cX6_would : ByteArray := prog_8_method_19_code
def yX6_would : MethodName := ⟨RX6, "would", "(II)Z"⟩
abbrev cX6_wouldNow : ByteArray := prog_8_method_20_code
def yX6_wouldNow : MethodName := ⟨RX6, "wouldNow", "(I)Z"⟩
abbrev cX6_sailor : ByteArray := prog_8_method_21_code
def yX6_sailor : MethodName := ⟨RX6, "sailor", "(II)I"⟩
abbrev cX6_seat : ByteArray := prog_8_method_22_code
def yX6_seat : MethodName := ⟨RX6, "seat", "(II)I"⟩
abbrev cX6_there : ByteArray := prog_8_method_23_code
def yX6_there : MethodName := ⟨RX6, "there", "()I"⟩
abbrev cX6_now : ByteArray := prog_8_method_24_code
def yX6_now : MethodName := ⟨RX6, "now", "(I)I"⟩
abbrev cX6_keeps : ByteArray := prog_8_method_25_code
def yX6_keeps : MethodName := ⟨RX6, "keeps", "()V"⟩
abbrev cX6_signs : ByteArray := prog_8_method_26_code
def yX6_signs : MethodName := ⟨RX6, "signs", "(II)I"⟩
abbrev cX6_hour : ByteArray := prog_8_method_27_code
def yX6_hour : MethodName := ⟨RX6, "hour", "()I"⟩
abbrev cX6_scrape : ByteArray := prog_8_method_28_code
def yX6_scrape : MethodName := ⟨RX6, "scrape", "(I)I"⟩
abbrev cX6_undo : ByteArray := prog_8_method_29_code
def yX6_undo : MethodName := ⟨RX6, "undo", "()I"⟩
abbrev cX6_closed : ByteArray := prog_8_method_30_code
def yX6_closed : MethodName := ⟨RX6, "closed", "(I)I"⟩
abbrev cX6_will : ByteArray := prog_8_method_31_code
def yX6_will : MethodName := ⟨RX6, "will", "()I"⟩
abbrev cX6_begin : ByteArray := prog_8_method_32_code
def yX6_begin : MethodName := ⟨RX6, "begin", "()I"⟩
abbrev cX6_inkOf : ByteArray := prog_8_method_33_code
def yX6_inkOf : MethodName := ⟨RX6, "inkOf", "(I)I"⟩
abbrev cX6_lays : ByteArray := prog_8_method_34_code
def yX6_lays : MethodName := ⟨RX6, "lays", "(I)V"⟩
abbrev cX6_of : ByteArray := prog_8_method_35_code
def yX6_of : MethodName := ⟨RX6, "of", "(II)I"⟩
abbrev cX6_placeIn : ByteArray := prog_8_method_36_code
def yX6_placeIn : MethodName := ⟨RX6, "placeIn", "(III)I"⟩
abbrev cX6_orders : ByteArray := prog_8_method_37_code
def yX6_orders : MethodName := ⟨RX6, "orders", "()I"⟩
abbrev cX6_firsts : ByteArray := prog_8_method_38_code
def yX6_firsts : MethodName := ⟨RX6, "firsts", "(I)I"⟩
abbrev cX6_first : ByteArray := prog_8_method_39_code
def yX6_first : MethodName := ⟨RX6, "first", "()I"⟩
abbrev cX6_isThere : ByteArray := prog_8_method_40_code
def yX6_isThere : MethodName := ⟨RX6, "isThere", "(I)Z"⟩
abbrev cX6_sure : ByteArray := prog_8_method_41_code
def yX6_sure : MethodName := ⟨RX6, "sure", "(I)I"⟩
abbrev cX6_leads : ByteArray := prog_8_method_42_code
def yX6_leads : MethodName := ⟨RX6, "leads", "(I)I"⟩
abbrev cX6_common : ByteArray := prog_8_method_43_code
def yX6_common : MethodName := ⟨RX6, "common", "(II)I"⟩
abbrev cX6_chance : ByteArray := prog_8_method_44_code
def yX6_chance : MethodName := ⟨RX6, "chance", "(II)I"⟩
abbrev cX6_isKnown : ByteArray := prog_8_method_45_code
def yX6_isKnown : MethodName := ⟨RX6, "isKnown", "(II)Z"⟩
abbrev cX6_ask : ByteArray := prog_8_method_46_code
def yX6_ask : MethodName := ⟨RX6, "ask", "()I"⟩
abbrev cX6_hang : ByteArray := prog_8_method_47_code
def yX6_hang : MethodName := ⟨RX6, "hang", "()I"⟩
abbrev cX6_shift : ByteArray := prog_8_method_48_code
def yX6_shift : MethodName := ⟨RX6, "shift", "(I)I"⟩
abbrev cX6_odds : ByteArray := prog_8_method_49_code
def yX6_odds : MethodName := ⟨RX6, "odds", "(III)I"⟩
abbrev cX6_bold : ByteArray := prog_8_method_50_code
def yX6_bold : MethodName := ⟨RX6, "bold", "(I)I"⟩
abbrev cX6_clique : ByteArray := prog_8_method_51_code
def yX6_clique : MethodName := ⟨RX6, "clique", "(I)I"⟩
abbrev cX6_rate : ByteArray := prog_8_method_52_code
def yX6_rate : MethodName := ⟨RX6, "rate", "(II)I"⟩
abbrev cX6_keep : ByteArray := prog_8_method_53_code
def yX6_keep : MethodName := ⟨RX6, "keep", "(I)I"⟩
abbrev cX6_back : ByteArray := prog_8_method_54_code
def yX6_back : MethodName := ⟨RX6, "back", "(I)I"⟩
abbrev cX6_count : ByteArray := prog_8_method_55_code
def yX6_count : MethodName := ⟨RX6, "count", "(I)I"⟩
abbrev cX6_trace : ByteArray := prog_8_method_56_code
def yX6_trace : MethodName := ⟨RX6, "trace", "()J"⟩
def RJ6 : String := "java/lang/Integer"
abbrev cJ6_bitCount_0f7a4 : ByteArray := prog_9_method_49_code
def yJ6_bitCount_0f7a4 : MethodName := ⟨RJ6, "bitCount", "(I)I"⟩
def RJ9 : String := "java/lang/Math"
abbrev cJ9_max_7cf53 : ByteArray := prog_10_method_65_code
def yJ9_max_7cf53 : MethodName := ⟨RJ9, "max", "(II)I"⟩
abbrev cJ9_min_7cf53 : ByteArray := prog_10_method_69_code
def yJ9_min_7cf53 : MethodName := ⟨RJ9, "min", "(II)I"⟩
def RJ7 : String := "java/util/Arrays"
abbrev cJ7_fill_53178 : ByteArray := prog_11_method_103_code
def yJ7_fill_53178 : MethodName := ⟨RJ7, "fill", "([II)V"⟩
def RL : String := "RingNamesLaw"
abbrev cL_law : ByteArray := code
abbrev vwCl : List vw_C := [(RX0, TX0, 6), (RX1, TX1, 4), (RX2, TX2, 6), (RX3, TX3, 3), (RX4, TX4, 6), (RX5, TX5, 10), (RX6, TX6, 19)]
end
section
theorem dX0_init_0 : decode cX0_init 0 = .ok (.aload_n 0, 1) := by decide +kernel
theorem dX0_init_1 : decode cX0_init 1 = .ok (.invokespecial 3, 3) := by decide +kernel
theorem dX0_init_4 : decode cX0_init 4 = .ok (.aload_n 0, 1) := by decide +kernel
theorem dX0_init_5 : decode cX0_init 5 = .ok (.bipush 7, 2) := by decide +kernel
theorem dX0_init_7 : decode cX0_init 7 = .ok (.newarray .int, 2) := by decide +kernel
theorem dX0_init_9 : decode cX0_init 9 = .ok (.putfield 9, 3) := by decide +kernel
theorem dX0_init_12 : decode cX0_init 12 = .ok (.aload_n 0, 1) := by decide +kernel
theorem dX0_init_13 : decode cX0_init 13 = .ok (.bipush 7, 2) := by decide +kernel
theorem dX0_init_15 : decode cX0_init 15 = .ok (.newarray .int, 2) := by decide +kernel
theorem dX0_init_17 : decode cX0_init 17 = .ok (.putfield 15, 3) := by decide +kernel
theorem dX0_init_20 : decode cX0_init 20 = .ok (.aload_n 0, 1) := by decide +kernel
theorem dX0_init_21 : decode cX0_init 21 = .ok (.bipush 7, 2) := by decide +kernel
theorem dX0_init_23 : decode cX0_init 23 = .ok (.newarray .int, 2) := by decide +kernel
theorem dX0_init_25 : decode cX0_init 25 = .ok (.putfield 18, 3) := by decide +kernel
theorem dX0_init_28 : decode cX0_init 28 = .ok (.aload_n 0, 1) := by decide +kernel
theorem dX0_init_29 : decode cX0_init 29 = .ok (.iconst 3, 1) := by decide +kernel
theorem dX0_init_30 : decode cX0_init 30 = .ok (.putfield 21, 3) := by decide +kernel
theorem dX0_init_33 : decode cX0_init 33 = .ok (.aload_n 0, 1) := by decide +kernel
theorem dX0_init_34 : decode cX0_init 34 = .ok (.bipush 8, 2) := by decide +kernel
theorem dX0_init_36 : decode cX0_init 36 = .ok (.putfield 25, 3) := by decide +kernel
theorem dX0_init_39 : decode cX0_init 39 = .ok (.return_, 1) := by decide +kernel
theorem dX0_restart_0 : decode cX0_restart 0 = .ok (.aload_n 0, 1) := by decide +kernel
theorem dX0_restart_1 : decode cX0_restart 1 = .ok (.iconst 0, 1) := by decide +kernel
theorem dX0_restart_2 : decode cX0_restart 2 = .ok (.putfield 28, 3) := by decide +kernel
theorem dX0_restart_5 : decode cX0_restart 5 = .ok (.aload_n 0, 1) := by decide +kernel
theorem dX0_restart_6 : decode cX0_restart 6 = .ok (.iconst 3, 1) := by decide +kernel
theorem dX0_restart_7 : decode cX0_restart 7 = .ok (.putfield 21, 3) := by decide +kernel
theorem dX0_restart_10 : decode cX0_restart 10 = .ok (.aload_n 0, 1) := by decide +kernel
theorem dX0_restart_11 : decode cX0_restart 11 = .ok (.bipush 8, 2) := by decide +kernel
theorem dX0_restart_13 : decode cX0_restart 13 = .ok (.putfield 25, 3) := by decide +kernel
theorem dX0_restart_16 : decode cX0_restart 16 = .ok (.return_, 1) := by decide +kernel
theorem dX0_enlist_0 : decode cX0_enlist 0 = .ok (.aload_n 0, 1) := by decide +kernel
theorem dX0_enlist_1 : decode cX0_enlist 1 = .ok (.getfield 9, 3) := by decide +kernel
theorem dX0_enlist_4 : decode cX0_enlist 4 = .ok (.aload_n 0, 1) := by decide +kernel
theorem dX0_enlist_5 : decode cX0_enlist 5 = .ok (.getfield 28, 3) := by decide +kernel
theorem dX0_enlist_8 : decode cX0_enlist 8 = .ok (.iload_n 1, 1) := by decide +kernel
theorem dX0_enlist_9 : decode cX0_enlist 9 = .ok (.invokestatic 31, 3) := by decide +kernel
theorem dX0_enlist_12 : decode cX0_enlist 12 = .ok (.aload_n 0, 1) := by decide +kernel
theorem dX0_enlist_13 : decode cX0_enlist 13 = .ok (.getfield 15, 3) := by decide +kernel
theorem dX0_enlist_16 : decode cX0_enlist 16 = .ok (.aload_n 0, 1) := by decide +kernel
theorem dX0_enlist_17 : decode cX0_enlist 17 = .ok (.getfield 28, 3) := by decide +kernel
theorem dX0_enlist_20 : decode cX0_enlist 20 = .ok (.iload_n 2, 1) := by decide +kernel
theorem dX0_enlist_21 : decode cX0_enlist 21 = .ok (.invokestatic 31, 3) := by decide +kernel
theorem dX0_enlist_24 : decode cX0_enlist 24 = .ok (.aload_n 0, 1) := by decide +kernel
theorem dX0_enlist_25 : decode cX0_enlist 25 = .ok (.getfield 18, 3) := by decide +kernel
theorem dX0_enlist_28 : decode cX0_enlist 28 = .ok (.aload_n 0, 1) := by decide +kernel
theorem dX0_enlist_29 : decode cX0_enlist 29 = .ok (.getfield 28, 3) := by decide +kernel
theorem dX0_enlist_32 : decode cX0_enlist 32 = .ok (.iload_n 3, 1) := by decide +kernel
theorem dX0_enlist_33 : decode cX0_enlist 33 = .ok (.invokestatic 31, 3) := by decide +kernel
theorem dX0_enlist_36 : decode cX0_enlist 36 = .ok (.aload_n 0, 1) := by decide +kernel
theorem dX0_enlist_37 : decode cX0_enlist 37 = .ok (.dup, 1) := by decide +kernel
theorem dX0_enlist_38 : decode cX0_enlist 38 = .ok (.getfield 28, 3) := by decide +kernel
theorem dX0_enlist_41 : decode cX0_enlist 41 = .ok (.iconst 1, 1) := by decide +kernel
theorem dX0_enlist_42 : decode cX0_enlist 42 = .ok (.iadd, 1) := by decide +kernel
theorem dX0_enlist_43 : decode cX0_enlist 43 = .ok (.putfield 28, 3) := by decide +kernel
theorem dX0_enlist_46 : decode cX0_enlist 46 = .ok (.return_, 1) := by decide +kernel
theorem dX0_become_0 : decode cX0_become 0 = .ok (.aload_n 0, 1) := by decide +kernel
theorem dX0_become_1 : decode cX0_become 1 = .ok (.invokevirtual 35, 3) := by decide +kernel
theorem dX0_become_4 : decode cX0_become 4 = .ok (.iconst 0, 1) := by decide +kernel
theorem dX0_become_5 : decode cX0_become 5 = .ok (.istore_n 2, 1) := by decide +kernel
theorem dX0_become_6 : decode cX0_become 6 = .ok (.iload_n 2, 1) := by decide +kernel
theorem dX0_become_7 : decode cX0_become 7 = .ok (.aload_n 1, 1) := by decide +kernel
theorem dX0_become_8 : decode cX0_become 8 = .ok (.getfield 28, 3) := by decide +kernel
theorem dX0_become_11 : decode cX0_become 11 = .ok (.if_icmp .ge 37, 3) := by decide +kernel
theorem dX0_become_14 : decode cX0_become 14 = .ok (.aload_n 0, 1) := by decide +kernel
theorem dX0_become_15 : decode cX0_become 15 = .ok (.aload_n 1, 1) := by decide +kernel
theorem dX0_become_16 : decode cX0_become 16 = .ok (.getfield 9, 3) := by decide +kernel
theorem dX0_become_19 : decode cX0_become 19 = .ok (.iload_n 2, 1) := by decide +kernel
theorem dX0_become_20 : decode cX0_become 20 = .ok (.invokestatic 38, 3) := by decide +kernel
theorem dX0_become_23 : decode cX0_become 23 = .ok (.aload_n 1, 1) := by decide +kernel
theorem dX0_become_24 : decode cX0_become 24 = .ok (.getfield 15, 3) := by decide +kernel
theorem dX0_become_27 : decode cX0_become 27 = .ok (.iload_n 2, 1) := by decide +kernel
theorem dX0_become_28 : decode cX0_become 28 = .ok (.invokestatic 38, 3) := by decide +kernel
theorem dX0_become_31 : decode cX0_become 31 = .ok (.aload_n 1, 1) := by decide +kernel
theorem dX0_become_32 : decode cX0_become 32 = .ok (.getfield 18, 3) := by decide +kernel
theorem dX0_become_35 : decode cX0_become 35 = .ok (.iload_n 2, 1) := by decide +kernel
theorem dX0_become_36 : decode cX0_become 36 = .ok (.invokestatic 38, 3) := by decide +kernel
theorem dX0_become_39 : decode cX0_become 39 = .ok (.invokevirtual 42, 3) := by decide +kernel
theorem dX0_become_42 : decode cX0_become 42 = .ok (.iinc 2 1, 3) := by decide +kernel
theorem dX0_become_45 : decode cX0_become 45 = .ok (.goto (-39), 3) := by decide +kernel
theorem dX0_become_48 : decode cX0_become 48 = .ok (.aload_n 0, 1) := by decide +kernel
theorem dX0_become_49 : decode cX0_become 49 = .ok (.aload_n 1, 1) := by decide +kernel
theorem dX0_become_50 : decode cX0_become 50 = .ok (.getfield 21, 3) := by decide +kernel
theorem dX0_become_53 : decode cX0_become 53 = .ok (.putfield 21, 3) := by decide +kernel
theorem dX0_become_56 : decode cX0_become 56 = .ok (.aload_n 0, 1) := by decide +kernel
theorem dX0_become_57 : decode cX0_become 57 = .ok (.aload_n 1, 1) := by decide +kernel
theorem dX0_become_58 : decode cX0_become 58 = .ok (.getfield 25, 3) := by decide +kernel
theorem dX0_become_61 : decode cX0_become 61 = .ok (.putfield 25, 3) := by decide +kernel
theorem dX0_become_64 : decode cX0_become 64 = .ok (.return_, 1) := by decide +kernel
theorem dX0_all_0 : decode cX0_all 0 = .ok (.iconst 1, 1) := by decide +kernel
theorem dX0_all_1 : decode cX0_all 1 = .ok (.aload_n 0, 1) := by decide +kernel
theorem dX0_all_2 : decode cX0_all 2 = .ok (.getfield 28, 3) := by decide +kernel
theorem dX0_all_5 : decode cX0_all 5 = .ok (.ishl, 1) := by decide +kernel
theorem dX0_all_6 : decode cX0_all 6 = .ok (.iconst 1, 1) := by decide +kernel
theorem dX0_all_7 : decode cX0_all 7 = .ok (.isub, 1) := by decide +kernel
theorem dX0_all_8 : decode cX0_all 8 = .ok (.ireturn, 1) := by decide +kernel
theorem dX0_trusted_0 : decode cX0_trusted 0 = .ok (.aload_n 0, 1) := by decide +kernel
theorem dX0_trusted_1 : decode cX0_trusted 1 = .ok (.getfield 18, 3) := by decide +kernel
theorem dX0_trusted_4 : decode cX0_trusted 4 = .ok (.iload_n 1, 1) := by decide +kernel
theorem dX0_trusted_5 : decode cX0_trusted 5 = .ok (.invokestatic 38, 3) := by decide +kernel
theorem dX0_trusted_8 : decode cX0_trusted 8 = .ok (.aload_n 0, 1) := by decide +kernel
theorem dX0_trusted_9 : decode cX0_trusted 9 = .ok (.invokevirtual 46, 3) := by decide +kernel
theorem dX0_trusted_12 : decode cX0_trusted 12 = .ok (.iand, 1) := by decide +kernel
theorem dX0_trusted_13 : decode cX0_trusted 13 = .ok (.iconst 1, 1) := by decide +kernel
theorem dX0_trusted_14 : decode cX0_trusted 14 = .ok (.iload_n 1, 1) := by decide +kernel
theorem dX0_trusted_15 : decode cX0_trusted 15 = .ok (.ishl, 1) := by decide +kernel
theorem dX0_trusted_16 : decode cX0_trusted 16 = .ok (.iconst (-1), 1) := by decide +kernel
theorem dX0_trusted_17 : decode cX0_trusted 17 = .ok (.ixor, 1) := by decide +kernel
theorem dX0_trusted_18 : decode cX0_trusted 18 = .ok (.iand, 1) := by decide +kernel
theorem dX0_trusted_19 : decode cX0_trusted 19 = .ok (.ireturn, 1) := by decide +kernel
theorem dX0_isOnDeck_0 : decode cX0_isOnDeck 0 = .ok (.iload_n 2, 1) := by decide +kernel
theorem dX0_isOnDeck_1 : decode cX0_isOnDeck 1 = .ok (.iconst 3, 1) := by decide +kernel
theorem dX0_isOnDeck_2 : decode cX0_isOnDeck 2 = .ok (.irem, 1) := by decide +kernel
theorem dX0_isOnDeck_3 : decode cX0_isOnDeck 3 = .ok (.aload_n 0, 1) := by decide +kernel
theorem dX0_isOnDeck_4 : decode cX0_isOnDeck 4 = .ok (.getfield 9, 3) := by decide +kernel
theorem dX0_isOnDeck_7 : decode cX0_isOnDeck 7 = .ok (.iload_n 1, 1) := by decide +kernel
theorem dX0_isOnDeck_8 : decode cX0_isOnDeck 8 = .ok (.invokestatic 38, 3) := by decide +kernel
theorem dX0_isOnDeck_11 : decode cX0_isOnDeck 11 = .ok (.if_icmp .ne 7, 3) := by decide +kernel
theorem dX0_isOnDeck_14 : decode cX0_isOnDeck 14 = .ok (.iconst 1, 1) := by decide +kernel
theorem dX0_isOnDeck_15 : decode cX0_isOnDeck 15 = .ok (.goto 4, 3) := by decide +kernel
theorem dX0_isOnDeck_18 : decode cX0_isOnDeck 18 = .ok (.iconst 0, 1) := by decide +kernel
theorem dX0_isOnDeck_19 : decode cX0_isOnDeck 19 = .ok (.ireturn, 1) := by decide +kernel
theorem dX0_dares_0 : decode cX0_dares 0 = .ok (.aload_n 0, 1) := by decide +kernel
theorem dX0_dares_1 : decode cX0_dares 1 = .ok (.getfield 15, 3) := by decide +kernel
theorem dX0_dares_4 : decode cX0_dares 4 = .ok (.iload_n 1, 1) := by decide +kernel
theorem dX0_dares_5 : decode cX0_dares 5 = .ok (.invokestatic 38, 3) := by decide +kernel
theorem dX0_dares_8 : decode cX0_dares 8 = .ok (.istore_n 3, 1) := by decide +kernel
theorem dX0_dares_9 : decode cX0_dares 9 = .ok (.iload_n 2, 1) := by decide +kernel
theorem dX0_dares_10 : decode cX0_dares 10 = .ok (.invokestatic 50, 3) := by decide +kernel
theorem dX0_dares_13 : decode cX0_dares 13 = .ok (.iload_n 3, 1) := by decide +kernel
theorem dX0_dares_14 : decode cX0_dares 14 = .ok (.if_icmp .lt 21, 3) := by decide +kernel
theorem dX0_dares_17 : decode cX0_dares 17 = .ok (.iload_n 3, 1) := by decide +kernel
theorem dX0_dares_18 : decode cX0_dares 18 = .ok (.ifCond .eq 13, 3) := by decide +kernel
theorem dX0_dares_21 : decode cX0_dares 21 = .ok (.aload_n 0, 1) := by decide +kernel
theorem dX0_dares_22 : decode cX0_dares 22 = .ok (.iload_n 1, 1) := by decide +kernel
theorem dX0_dares_23 : decode cX0_dares 23 = .ok (.invokevirtual 56, 3) := by decide +kernel
theorem dX0_dares_26 : decode cX0_dares 26 = .ok (.iload_n 2, 1) := by decide +kernel
theorem dX0_dares_27 : decode cX0_dares 27 = .ok (.iand, 1) := by decide +kernel
theorem dX0_dares_28 : decode cX0_dares 28 = .ok (.ifCond .eq 7, 3) := by decide +kernel
theorem dX0_dares_31 : decode cX0_dares 31 = .ok (.iconst 1, 1) := by decide +kernel
theorem dX0_dares_32 : decode cX0_dares 32 = .ok (.goto 4, 3) := by decide +kernel
theorem dX0_dares_35 : decode cX0_dares 35 = .ok (.iconst 0, 1) := by decide +kernel
theorem dX0_dares_36 : decode cX0_dares 36 = .ok (.ireturn, 1) := by decide +kernel
theorem dX0_inkBehind_0 : decode cX0_inkBehind 0 = .ok (.aload_n 0, 1) := by decide +kernel
theorem dX0_inkBehind_1 : decode cX0_inkBehind 1 = .ok (.getfield 21, 3) := by decide +kernel
theorem dX0_inkBehind_4 : decode cX0_inkBehind 4 = .ok (.ifCond .le 17, 3) := by decide +kernel
theorem dX0_inkBehind_7 : decode cX0_inkBehind 7 = .ok (.aload_n 0, 1) := by decide +kernel
theorem dX0_inkBehind_8 : decode cX0_inkBehind 8 = .ok (.getfield 21, 3) := by decide +kernel
theorem dX0_inkBehind_11 : decode cX0_inkBehind 11 = .ok (.iload_n 1, 1) := by decide +kernel
theorem dX0_inkBehind_12 : decode cX0_inkBehind 12 = .ok (.aload_n 0, 1) := by decide +kernel
theorem dX0_inkBehind_13 : decode cX0_inkBehind 13 = .ok (.getfield 21, 3) := by decide +kernel
theorem dX0_inkBehind_16 : decode cX0_inkBehind 16 = .ok (.irem, 1) := by decide +kernel
theorem dX0_inkBehind_17 : decode cX0_inkBehind 17 = .ok (.isub, 1) := by decide +kernel
theorem dX0_inkBehind_18 : decode cX0_inkBehind 18 = .ok (.goto 4, 3) := by decide +kernel
theorem dX0_inkBehind_21 : decode cX0_inkBehind 21 = .ok (.iconst 0, 1) := by decide +kernel
theorem dX0_inkBehind_22 : decode cX0_inkBehind 22 = .ok (.ireturn, 1) := by decide +kernel
theorem dX0_signedInTheEnd_0 : decode cX0_signedInTheEnd 0 = .ok (.iload_n 1, 1) := by decide +kernel
theorem dX0_signedInTheEnd_1 : decode cX0_signedInTheEnd 1 = .ok (.istore_n 2, 1) := by decide +kernel
theorem dX0_signedInTheEnd_2 : decode cX0_signedInTheEnd 2 = .ok (.iconst 0, 1) := by decide +kernel
theorem dX0_signedInTheEnd_3 : decode cX0_signedInTheEnd 3 = .ok (.istore_n 3, 1) := by decide +kernel
theorem dX0_signedInTheEnd_4 : decode cX0_signedInTheEnd 4 = .ok (.iload_n 3, 1) := by decide +kernel
theorem dX0_signedInTheEnd_5 : decode cX0_signedInTheEnd 5 = .ok (.bipush 7, 2) := by decide +kernel
theorem dX0_signedInTheEnd_7 : decode cX0_signedInTheEnd 7 = .ok (.if_icmp .ge 44, 3) := by decide +kernel
theorem dX0_signedInTheEnd_10 : decode cX0_signedInTheEnd 10 = .ok (.iconst 0, 1) := by decide +kernel
theorem dX0_signedInTheEnd_11 : decode cX0_signedInTheEnd 11 = .ok (.istore 4, 2) := by decide +kernel
theorem dX0_signedInTheEnd_13 : decode cX0_signedInTheEnd 13 = .ok (.iload 4, 2) := by decide +kernel
theorem dX0_signedInTheEnd_15 : decode cX0_signedInTheEnd 15 = .ok (.aload_n 0, 1) := by decide +kernel
theorem dX0_signedInTheEnd_16 : decode cX0_signedInTheEnd 16 = .ok (.getfield 28, 3) := by decide +kernel
theorem dX0_signedInTheEnd_19 : decode cX0_signedInTheEnd 19 = .ok (.if_icmp .ge 26, 3) := by decide +kernel
theorem dX0_signedInTheEnd_22 : decode cX0_signedInTheEnd 22 = .ok (.aload_n 0, 1) := by decide +kernel
theorem dX0_signedInTheEnd_23 : decode cX0_signedInTheEnd 23 = .ok (.iload 4, 2) := by decide +kernel
theorem dX0_signedInTheEnd_25 : decode cX0_signedInTheEnd 25 = .ok (.iload_n 2, 1) := by decide +kernel
theorem dX0_signedInTheEnd_26 : decode cX0_signedInTheEnd 26 = .ok (.invokevirtual 59, 3) := by decide +kernel
theorem dX0_signedInTheEnd_29 : decode cX0_signedInTheEnd 29 = .ok (.ifCond .eq 10, 3) := by decide +kernel
theorem dX0_signedInTheEnd_32 : decode cX0_signedInTheEnd 32 = .ok (.iload_n 2, 1) := by decide +kernel
theorem dX0_signedInTheEnd_33 : decode cX0_signedInTheEnd 33 = .ok (.iconst 1, 1) := by decide +kernel
theorem dX0_signedInTheEnd_34 : decode cX0_signedInTheEnd 34 = .ok (.iload 4, 2) := by decide +kernel
theorem dX0_signedInTheEnd_36 : decode cX0_signedInTheEnd 36 = .ok (.ishl, 1) := by decide +kernel
theorem dX0_signedInTheEnd_37 : decode cX0_signedInTheEnd 37 = .ok (.ior, 1) := by decide +kernel
theorem dX0_signedInTheEnd_38 : decode cX0_signedInTheEnd 38 = .ok (.istore_n 2, 1) := by decide +kernel
theorem dX0_signedInTheEnd_39 : decode cX0_signedInTheEnd 39 = .ok (.iinc 4 1, 3) := by decide +kernel
theorem dX0_signedInTheEnd_42 : decode cX0_signedInTheEnd 42 = .ok (.goto (-29), 3) := by decide +kernel
theorem dX0_signedInTheEnd_45 : decode cX0_signedInTheEnd 45 = .ok (.iinc 3 1, 3) := by decide +kernel
theorem dX0_signedInTheEnd_48 : decode cX0_signedInTheEnd 48 = .ok (.goto (-44), 3) := by decide +kernel
theorem dX0_signedInTheEnd_51 : decode cX0_signedInTheEnd 51 = .ok (.iload_n 2, 1) := by decide +kernel
theorem dX0_signedInTheEnd_52 : decode cX0_signedInTheEnd 52 = .ok (.ireturn, 1) := by decide +kernel
theorem dX0_largestClique_0 : decode cX0_largestClique 0 = .ok (.iconst 0, 1) := by decide +kernel
theorem dX0_largestClique_1 : decode cX0_largestClique 1 = .ok (.istore_n 1, 1) := by decide +kernel
theorem dX0_largestClique_2 : decode cX0_largestClique 2 = .ok (.iconst 0, 1) := by decide +kernel
theorem dX0_largestClique_3 : decode cX0_largestClique 3 = .ok (.istore_n 2, 1) := by decide +kernel
theorem dX0_largestClique_4 : decode cX0_largestClique 4 = .ok (.iload_n 2, 1) := by decide +kernel
theorem dX0_largestClique_5 : decode cX0_largestClique 5 = .ok (.aload_n 0, 1) := by decide +kernel
theorem dX0_largestClique_6 : decode cX0_largestClique 6 = .ok (.invokevirtual 46, 3) := by decide +kernel
theorem dX0_largestClique_9 : decode cX0_largestClique 9 = .ok (.if_icmp .gt 30, 3) := by decide +kernel
theorem dX0_largestClique_12 : decode cX0_largestClique 12 = .ok (.iload_n 2, 1) := by decide +kernel
theorem dX0_largestClique_13 : decode cX0_largestClique 13 = .ok (.invokestatic 50, 3) := by decide +kernel
theorem dX0_largestClique_16 : decode cX0_largestClique 16 = .ok (.iload_n 1, 1) := by decide +kernel
theorem dX0_largestClique_17 : decode cX0_largestClique 17 = .ok (.invokestatic 50, 3) := by decide +kernel
theorem dX0_largestClique_20 : decode cX0_largestClique 20 = .ok (.if_icmp .le 13, 3) := by decide +kernel
theorem dX0_largestClique_23 : decode cX0_largestClique 23 = .ok (.aload_n 0, 1) := by decide +kernel
theorem dX0_largestClique_24 : decode cX0_largestClique 24 = .ok (.iload_n 2, 1) := by decide +kernel
theorem dX0_largestClique_25 : decode cX0_largestClique 25 = .ok (.invokevirtual 63, 3) := by decide +kernel
theorem dX0_largestClique_28 : decode cX0_largestClique 28 = .ok (.ifCond .eq 5, 3) := by decide +kernel
theorem dX0_largestClique_31 : decode cX0_largestClique 31 = .ok (.iload_n 2, 1) := by decide +kernel
theorem dX0_largestClique_32 : decode cX0_largestClique 32 = .ok (.istore_n 1, 1) := by decide +kernel
theorem dX0_largestClique_33 : decode cX0_largestClique 33 = .ok (.iinc 2 1, 3) := by decide +kernel
theorem dX0_largestClique_36 : decode cX0_largestClique 36 = .ok (.goto (-32), 3) := by decide +kernel
theorem dX0_largestClique_39 : decode cX0_largestClique 39 = .ok (.iload_n 1, 1) := by decide +kernel
theorem dX0_largestClique_40 : decode cX0_largestClique 40 = .ok (.ireturn, 1) := by decide +kernel
theorem dX0_isClique_0 : decode cX0_isClique 0 = .ok (.iconst 0, 1) := by decide +kernel
theorem dX0_isClique_1 : decode cX0_isClique 1 = .ok (.istore_n 2, 1) := by decide +kernel
theorem dX0_isClique_2 : decode cX0_isClique 2 = .ok (.iload_n 2, 1) := by decide +kernel
theorem dX0_isClique_3 : decode cX0_isClique 3 = .ok (.aload_n 0, 1) := by decide +kernel
theorem dX0_isClique_4 : decode cX0_isClique 4 = .ok (.getfield 28, 3) := by decide +kernel
theorem dX0_isClique_7 : decode cX0_isClique 7 = .ok (.if_icmp .ge 37, 3) := by decide +kernel
theorem dX0_isClique_10 : decode cX0_isClique 10 = .ok (.iload_n 1, 1) := by decide +kernel
theorem dX0_isClique_11 : decode cX0_isClique 11 = .ok (.iload_n 2, 1) := by decide +kernel
theorem dX0_isClique_12 : decode cX0_isClique 12 = .ok (.invokestatic 67, 3) := by decide +kernel
theorem dX0_isClique_15 : decode cX0_isClique 15 = .ok (.ifCond .eq 23, 3) := by decide +kernel
theorem dX0_isClique_18 : decode cX0_isClique 18 = .ok (.iload_n 1, 1) := by decide +kernel
theorem dX0_isClique_19 : decode cX0_isClique 19 = .ok (.iconst 1, 1) := by decide +kernel
theorem dX0_isClique_20 : decode cX0_isClique 20 = .ok (.iload_n 2, 1) := by decide +kernel
theorem dX0_isClique_21 : decode cX0_isClique 21 = .ok (.ishl, 1) := by decide +kernel
theorem dX0_isClique_22 : decode cX0_isClique 22 = .ok (.iconst (-1), 1) := by decide +kernel
theorem dX0_isClique_23 : decode cX0_isClique 23 = .ok (.ixor, 1) := by decide +kernel
theorem dX0_isClique_24 : decode cX0_isClique 24 = .ok (.iand, 1) := by decide +kernel
theorem dX0_isClique_25 : decode cX0_isClique 25 = .ok (.aload_n 0, 1) := by decide +kernel
theorem dX0_isClique_26 : decode cX0_isClique 26 = .ok (.iload_n 2, 1) := by decide +kernel
theorem dX0_isClique_27 : decode cX0_isClique 27 = .ok (.invokevirtual 56, 3) := by decide +kernel
theorem dX0_isClique_30 : decode cX0_isClique 30 = .ok (.iconst (-1), 1) := by decide +kernel
theorem dX0_isClique_31 : decode cX0_isClique 31 = .ok (.ixor, 1) := by decide +kernel
theorem dX0_isClique_32 : decode cX0_isClique 32 = .ok (.iand, 1) := by decide +kernel
theorem dX0_isClique_33 : decode cX0_isClique 33 = .ok (.ifCond .eq 5, 3) := by decide +kernel
theorem dX0_isClique_36 : decode cX0_isClique 36 = .ok (.iconst 0, 1) := by decide +kernel
theorem dX0_isClique_37 : decode cX0_isClique 37 = .ok (.ireturn, 1) := by decide +kernel
theorem dX0_isClique_38 : decode cX0_isClique 38 = .ok (.iinc 2 1, 3) := by decide +kernel
theorem dX0_isClique_41 : decode cX0_isClique 41 = .ok (.goto (-39), 3) := by decide +kernel
theorem dX0_isClique_44 : decode cX0_isClique 44 = .ok (.iconst 1, 1) := by decide +kernel
theorem dX0_isClique_45 : decode cX0_isClique 45 = .ok (.ireturn, 1) := by decide +kernel
theorem dX1_init_0 : decode cX1_init 0 = .ok (.aload_n 0, 1) := by decide +kernel
theorem dX1_init_1 : decode cX1_init 1 = .ok (.invokespecial 3, 3) := by decide +kernel
theorem dX1_init_4 : decode cX1_init 4 = .ok (.aload_n 0, 1) := by decide +kernel
theorem dX1_init_5 : decode cX1_init 5 = .ok (.bipush 8, 2) := by decide +kernel
theorem dX1_init_7 : decode cX1_init 7 = .ok (.newarray .int, 2) := by decide +kernel
theorem dX1_init_9 : decode cX1_init 9 = .ok (.putfield 9, 3) := by decide +kernel
theorem dX1_init_12 : decode cX1_init 12 = .ok (.aload_n 0, 1) := by decide +kernel
theorem dX1_init_13 : decode cX1_init 13 = .ok (.bipush 8, 2) := by decide +kernel
theorem dX1_init_15 : decode cX1_init 15 = .ok (.newarray .int, 2) := by decide +kernel
theorem dX1_init_17 : decode cX1_init 17 = .ok (.putfield 15, 3) := by decide +kernel
theorem dX1_init_20 : decode cX1_init 20 = .ok (.aload_n 0, 1) := by decide +kernel
theorem dX1_init_21 : decode cX1_init 21 = .ok (.getfield 9, 3) := by decide +kernel
theorem dX1_init_24 : decode cX1_init 24 = .ok (.bipush (-9), 2) := by decide +kernel
theorem dX1_init_26 : decode cX1_init 26 = .ok (.invokestatic 18, 3) := by decide +kernel
theorem dX1_init_29 : decode cX1_init 29 = .ok (.return_, 1) := by decide +kernel
theorem dX1_restart_0 : decode cX1_restart 0 = .ok (.aload_n 0, 1) := by decide +kernel
theorem dX1_restart_1 : decode cX1_restart 1 = .ok (.getfield 9, 3) := by decide +kernel
theorem dX1_restart_4 : decode cX1_restart 4 = .ok (.bipush (-9), 2) := by decide +kernel
theorem dX1_restart_6 : decode cX1_restart 6 = .ok (.invokestatic 18, 3) := by decide +kernel
theorem dX1_restart_9 : decode cX1_restart 9 = .ok (.aload_n 0, 1) := by decide +kernel
theorem dX1_restart_10 : decode cX1_restart 10 = .ok (.getfield 15, 3) := by decide +kernel
theorem dX1_restart_13 : decode cX1_restart 13 = .ok (.iconst 0, 1) := by decide +kernel
theorem dX1_restart_14 : decode cX1_restart 14 = .ok (.invokestatic 18, 3) := by decide +kernel
theorem dX1_restart_17 : decode cX1_restart 17 = .ok (.aload_n 0, 1) := by decide +kernel
theorem dX1_restart_18 : decode cX1_restart 18 = .ok (.iconst 0, 1) := by decide +kernel
theorem dX1_restart_19 : decode cX1_restart 19 = .ok (.putfield 24, 3) := by decide +kernel
theorem dX1_restart_22 : decode cX1_restart 22 = .ok (.aload_n 0, 1) := by decide +kernel
theorem dX1_restart_23 : decode cX1_restart 23 = .ok (.iconst 0, 1) := by decide +kernel
theorem dX1_restart_24 : decode cX1_restart 24 = .ok (.putfield 28, 3) := by decide +kernel
theorem dX1_restart_27 : decode cX1_restart 27 = .ok (.return_, 1) := by decide +kernel
theorem dX1_become_0 : decode cX1_become 0 = .ok (.iconst 0, 1) := by decide +kernel
theorem dX1_become_1 : decode cX1_become 1 = .ok (.istore_n 2, 1) := by decide +kernel
theorem dX1_become_2 : decode cX1_become 2 = .ok (.iload_n 2, 1) := by decide +kernel
theorem dX1_become_3 : decode cX1_become 3 = .ok (.bipush 8, 2) := by decide +kernel
theorem dX1_become_5 : decode cX1_become 5 = .ok (.if_icmp .ge 30, 3) := by decide +kernel
theorem dX1_become_8 : decode cX1_become 8 = .ok (.aload_n 0, 1) := by decide +kernel
theorem dX1_become_9 : decode cX1_become 9 = .ok (.iload_n 2, 1) := by decide +kernel
theorem dX1_become_10 : decode cX1_become 10 = .ok (.aload_n 1, 1) := by decide +kernel
theorem dX1_become_11 : decode cX1_become 11 = .ok (.getfield 9, 3) := by decide +kernel
theorem dX1_become_14 : decode cX1_become 14 = .ok (.iload_n 2, 1) := by decide +kernel
theorem dX1_become_15 : decode cX1_become 15 = .ok (.invokestatic 31, 3) := by decide +kernel
theorem dX1_become_18 : decode cX1_become 18 = .ok (.aload_n 1, 1) := by decide +kernel
theorem dX1_become_19 : decode cX1_become 19 = .ok (.getfield 15, 3) := by decide +kernel
theorem dX1_become_22 : decode cX1_become 22 = .ok (.iload_n 2, 1) := by decide +kernel
theorem dX1_become_23 : decode cX1_become 23 = .ok (.invokestatic 31, 3) := by decide +kernel
theorem dX1_become_26 : decode cX1_become 26 = .ok (.invokevirtual 35, 3) := by decide +kernel
theorem dX1_become_29 : decode cX1_become 29 = .ok (.iinc 2 1, 3) := by decide +kernel
theorem dX1_become_32 : decode cX1_become 32 = .ok (.goto (-30), 3) := by decide +kernel
theorem dX1_become_35 : decode cX1_become 35 = .ok (.aload_n 0, 1) := by decide +kernel
theorem dX1_become_36 : decode cX1_become 36 = .ok (.aload_n 1, 1) := by decide +kernel
theorem dX1_become_37 : decode cX1_become 37 = .ok (.getfield 24, 3) := by decide +kernel
theorem dX1_become_40 : decode cX1_become 40 = .ok (.putfield 24, 3) := by decide +kernel
theorem dX1_become_43 : decode cX1_become 43 = .ok (.aload_n 0, 1) := by decide +kernel
theorem dX1_become_44 : decode cX1_become 44 = .ok (.aload_n 1, 1) := by decide +kernel
theorem dX1_become_45 : decode cX1_become 45 = .ok (.getfield 28, 3) := by decide +kernel
theorem dX1_become_48 : decode cX1_become 48 = .ok (.putfield 28, 3) := by decide +kernel
theorem dX1_become_51 : decode cX1_become 51 = .ok (.return_, 1) := by decide +kernel
theorem dX1_write_0 : decode cX1_write 0 = .ok (.aload_n 0, 1) := by decide +kernel
theorem dX1_write_1 : decode cX1_write 1 = .ok (.getfield 9, 3) := by decide +kernel
theorem dX1_write_4 : decode cX1_write 4 = .ok (.iload_n 1, 1) := by decide +kernel
theorem dX1_write_5 : decode cX1_write 5 = .ok (.iload_n 2, 1) := by decide +kernel
theorem dX1_write_6 : decode cX1_write 6 = .ok (.invokestatic 39, 3) := by decide +kernel
theorem dX1_write_9 : decode cX1_write 9 = .ok (.aload_n 0, 1) := by decide +kernel
theorem dX1_write_10 : decode cX1_write 10 = .ok (.getfield 15, 3) := by decide +kernel
theorem dX1_write_13 : decode cX1_write 13 = .ok (.iload_n 1, 1) := by decide +kernel
theorem dX1_write_14 : decode cX1_write 14 = .ok (.iload_n 3, 1) := by decide +kernel
theorem dX1_write_15 : decode cX1_write 15 = .ok (.invokestatic 39, 3) := by decide +kernel
theorem dX1_write_18 : decode cX1_write 18 = .ok (.return_, 1) := by decide +kernel
theorem dX1_there_0 : decode cX1_there 0 = .ok (.iconst 0, 1) := by decide +kernel
theorem dX1_there_1 : decode cX1_there 1 = .ok (.istore_n 1, 1) := by decide +kernel
theorem dX1_there_2 : decode cX1_there 2 = .ok (.iconst 0, 1) := by decide +kernel
theorem dX1_there_3 : decode cX1_there 3 = .ok (.istore_n 2, 1) := by decide +kernel
theorem dX1_there_4 : decode cX1_there 4 = .ok (.iload_n 2, 1) := by decide +kernel
theorem dX1_there_5 : decode cX1_there 5 = .ok (.bipush 8, 2) := by decide +kernel
theorem dX1_there_7 : decode cX1_there 7 = .ok (.if_icmp .ge 30, 3) := by decide +kernel
theorem dX1_there_10 : decode cX1_there 10 = .ok (.aload_n 0, 1) := by decide +kernel
theorem dX1_there_11 : decode cX1_there 11 = .ok (.getfield 9, 3) := by decide +kernel
theorem dX1_there_14 : decode cX1_there 14 = .ok (.iload_n 2, 1) := by decide +kernel
theorem dX1_there_15 : decode cX1_there 15 = .ok (.invokestatic 31, 3) := by decide +kernel
theorem dX1_there_18 : decode cX1_there 18 = .ok (.istore_n 3, 1) := by decide +kernel
theorem dX1_there_19 : decode cX1_there 19 = .ok (.iload_n 3, 1) := by decide +kernel
theorem dX1_there_20 : decode cX1_there 20 = .ok (.bipush (-9), 2) := by decide +kernel
theorem dX1_there_22 : decode cX1_there 22 = .ok (.if_icmp .eq 9, 3) := by decide +kernel
theorem dX1_there_25 : decode cX1_there 25 = .ok (.iload_n 1, 1) := by decide +kernel
theorem dX1_there_26 : decode cX1_there 26 = .ok (.iconst 1, 1) := by decide +kernel
theorem dX1_there_27 : decode cX1_there 27 = .ok (.iload_n 3, 1) := by decide +kernel
theorem dX1_there_28 : decode cX1_there 28 = .ok (.ishl, 1) := by decide +kernel
theorem dX1_there_29 : decode cX1_there 29 = .ok (.ior, 1) := by decide +kernel
theorem dX1_there_30 : decode cX1_there 30 = .ok (.istore_n 1, 1) := by decide +kernel
theorem dX1_there_31 : decode cX1_there 31 = .ok (.iinc 2 1, 3) := by decide +kernel
theorem dX1_there_34 : decode cX1_there 34 = .ok (.goto (-30), 3) := by decide +kernel
theorem dX1_there_37 : decode cX1_there 37 = .ok (.iload_n 1, 1) := by decide +kernel
theorem dX1_there_38 : decode cX1_there 38 = .ok (.ireturn, 1) := by decide +kernel
theorem dX1_seatOf_0 : decode cX1_seatOf 0 = .ok (.iconst 0, 1) := by decide +kernel
theorem dX1_seatOf_1 : decode cX1_seatOf 1 = .ok (.istore_n 2, 1) := by decide +kernel
theorem dX1_seatOf_2 : decode cX1_seatOf 2 = .ok (.iload_n 2, 1) := by decide +kernel
theorem dX1_seatOf_3 : decode cX1_seatOf 3 = .ok (.bipush 8, 2) := by decide +kernel
theorem dX1_seatOf_5 : decode cX1_seatOf 5 = .ok (.if_icmp .ge 23, 3) := by decide +kernel
theorem dX1_seatOf_8 : decode cX1_seatOf 8 = .ok (.aload_n 0, 1) := by decide +kernel
theorem dX1_seatOf_9 : decode cX1_seatOf 9 = .ok (.getfield 9, 3) := by decide +kernel
theorem dX1_seatOf_12 : decode cX1_seatOf 12 = .ok (.iload_n 2, 1) := by decide +kernel
theorem dX1_seatOf_13 : decode cX1_seatOf 13 = .ok (.invokestatic 31, 3) := by decide +kernel
theorem dX1_seatOf_16 : decode cX1_seatOf 16 = .ok (.iload_n 1, 1) := by decide +kernel
theorem dX1_seatOf_17 : decode cX1_seatOf 17 = .ok (.if_icmp .ne 5, 3) := by decide +kernel
theorem dX1_seatOf_20 : decode cX1_seatOf 20 = .ok (.iload_n 2, 1) := by decide +kernel
theorem dX1_seatOf_21 : decode cX1_seatOf 21 = .ok (.ireturn, 1) := by decide +kernel
theorem dX1_seatOf_22 : decode cX1_seatOf 22 = .ok (.iinc 2 1, 3) := by decide +kernel
theorem dX1_seatOf_25 : decode cX1_seatOf 25 = .ok (.goto (-23), 3) := by decide +kernel
theorem dX1_seatOf_28 : decode cX1_seatOf 28 = .ok (.bipush (-9), 2) := by decide +kernel
theorem dX1_seatOf_30 : decode cX1_seatOf 30 = .ok (.ireturn, 1) := by decide +kernel
theorem dX1_inkOf_0 : decode cX1_inkOf 0 = .ok (.aload_n 0, 1) := by decide +kernel
theorem dX1_inkOf_1 : decode cX1_inkOf 1 = .ok (.iload_n 1, 1) := by decide +kernel
theorem dX1_inkOf_2 : decode cX1_inkOf 2 = .ok (.invokevirtual 43, 3) := by decide +kernel
theorem dX1_inkOf_5 : decode cX1_inkOf 5 = .ok (.istore_n 2, 1) := by decide +kernel
theorem dX1_inkOf_6 : decode cX1_inkOf 6 = .ok (.iload_n 2, 1) := by decide +kernel
theorem dX1_inkOf_7 : decode cX1_inkOf 7 = .ok (.bipush (-9), 2) := by decide +kernel
theorem dX1_inkOf_9 : decode cX1_inkOf 9 = .ok (.if_icmp .ne 7, 3) := by decide +kernel
theorem dX1_inkOf_12 : decode cX1_inkOf 12 = .ok (.iconst 0, 1) := by decide +kernel
theorem dX1_inkOf_13 : decode cX1_inkOf 13 = .ok (.goto 11, 3) := by decide +kernel
theorem dX1_inkOf_16 : decode cX1_inkOf 16 = .ok (.aload_n 0, 1) := by decide +kernel
theorem dX1_inkOf_17 : decode cX1_inkOf 17 = .ok (.getfield 15, 3) := by decide +kernel
theorem dX1_inkOf_20 : decode cX1_inkOf 20 = .ok (.iload_n 2, 1) := by decide +kernel
theorem dX1_inkOf_21 : decode cX1_inkOf 21 = .ok (.invokestatic 31, 3) := by decide +kernel
theorem dX1_inkOf_24 : decode cX1_inkOf 24 = .ok (.ireturn, 1) := by decide +kernel
theorem dX2_init_0 : decode cX2_init 0 = .ok (.aload_n 0, 1) := by decide +kernel
theorem dX2_init_1 : decode cX2_init 1 = .ok (.invokespecial 5, 3) := by decide +kernel
theorem dX2_init_4 : decode cX2_init 4 = .ok (.aload_n 0, 1) := by decide +kernel
theorem dX2_init_5 : decode cX2_init 5 = .ok (.sipush 5040, 3) := by decide +kernel
theorem dX2_init_8 : decode cX2_init 8 = .ok (.newarray .int, 2) := by decide +kernel
theorem dX2_init_10 : decode cX2_init 10 = .ok (.putfield 11, 3) := by decide +kernel
theorem dX2_init_13 : decode cX2_init 13 = .ok (.aload_n 0, 1) := by decide +kernel
theorem dX2_init_14 : decode cX2_init 14 = .ok (.sipush 5040, 3) := by decide +kernel
theorem dX2_init_17 : decode cX2_init 17 = .ok (.newarray .int, 2) := by decide +kernel
theorem dX2_init_19 : decode cX2_init 19 = .ok (.putfield 15, 3) := by decide +kernel
theorem dX2_init_22 : decode cX2_init 22 = .ok (.aload_n 0, 1) := by decide +kernel
theorem dX2_init_23 : decode cX2_init 23 = .ok (.bipush 7, 2) := by decide +kernel
theorem dX2_init_25 : decode cX2_init 25 = .ok (.newarray .int, 2) := by decide +kernel
theorem dX2_init_27 : decode cX2_init 27 = .ok (.putfield 18, 3) := by decide +kernel
theorem dX2_init_30 : decode cX2_init 30 = .ok (.return_, 1) := by decide +kernel
theorem dX2_find_0 : decode cX2_find 0 = .ok (.aload_n 0, 1) := by decide +kernel
theorem dX2_find_1 : decode cX2_find 1 = .ok (.iconst 0, 1) := by decide +kernel
theorem dX2_find_2 : decode cX2_find 2 = .ok (.putfield 21, 3) := by decide +kernel
theorem dX2_find_5 : decode cX2_find 5 = .ok (.aload_n 0, 1) := by decide +kernel
theorem dX2_find_6 : decode cX2_find 6 = .ok (.iconst 0, 1) := by decide +kernel
theorem dX2_find_7 : decode cX2_find 7 = .ok (.putfield 25, 3) := by decide +kernel
theorem dX2_find_10 : decode cX2_find 10 = .ok (.aload_n 0, 1) := by decide +kernel
theorem dX2_find_11 : decode cX2_find 11 = .ok (.aload_n 2, 1) := by decide +kernel
theorem dX2_find_12 : decode cX2_find 12 = .ok (.getfield 28, 3) := by decide +kernel
theorem dX2_find_15 : decode cX2_find 15 = .ok (.putfield 33, 3) := by decide +kernel
theorem dX2_find_18 : decode cX2_find 18 = .ok (.iconst 0, 1) := by decide +kernel
theorem dX2_find_19 : decode cX2_find 19 = .ok (.istore 4, 2) := by decide +kernel
theorem dX2_find_21 : decode cX2_find 21 = .ok (.iload 4, 2) := by decide +kernel
theorem dX2_find_23 : decode cX2_find 23 = .ok (.bipush 8, 2) := by decide +kernel
theorem dX2_find_25 : decode cX2_find 25 = .ok (.if_icmp .ge 64, 3) := by decide +kernel
theorem dX2_find_28 : decode cX2_find 28 = .ok (.aload_n 2, 1) := by decide +kernel
theorem dX2_find_29 : decode cX2_find 29 = .ok (.getfield 34, 3) := by decide +kernel
theorem dX2_find_32 : decode cX2_find 32 = .ok (.iload 4, 2) := by decide +kernel
theorem dX2_find_34 : decode cX2_find 34 = .ok (.invokestatic 37, 3) := by decide +kernel
theorem dX2_find_37 : decode cX2_find 37 = .ok (.istore 5, 2) := by decide +kernel
theorem dX2_find_39 : decode cX2_find 39 = .ok (.iload 5, 2) := by decide +kernel
theorem dX2_find_41 : decode cX2_find 41 = .ok (.bipush (-9), 2) := by decide +kernel
theorem dX2_find_43 : decode cX2_find 43 = .ok (.if_icmp .eq 40, 3) := by decide +kernel
theorem dX2_find_46 : decode cX2_find 46 = .ok (.iload 4, 2) := by decide +kernel
theorem dX2_find_48 : decode cX2_find 48 = .ok (.iload_n 3, 1) := by decide +kernel
theorem dX2_find_49 : decode cX2_find 49 = .ok (.if_icmp .eq 34, 3) := by decide +kernel
theorem dX2_find_52 : decode cX2_find 52 = .ok (.aload_n 0, 1) := by decide +kernel
theorem dX2_find_53 : decode cX2_find 53 = .ok (.dup, 1) := by decide +kernel
theorem dX2_find_54 : decode cX2_find 54 = .ok (.getfield 25, 3) := by decide +kernel
theorem dX2_find_57 : decode cX2_find 57 = .ok (.iconst 1, 1) := by decide +kernel
theorem dX2_find_58 : decode cX2_find 58 = .ok (.iload 5, 2) := by decide +kernel
theorem dX2_find_60 : decode cX2_find 60 = .ok (.ishl, 1) := by decide +kernel
theorem dX2_find_61 : decode cX2_find 61 = .ok (.ior, 1) := by decide +kernel
theorem dX2_find_62 : decode cX2_find 62 = .ok (.putfield 25, 3) := by decide +kernel
theorem dX2_find_65 : decode cX2_find 65 = .ok (.aload_n 0, 1) := by decide +kernel
theorem dX2_find_66 : decode cX2_find 66 = .ok (.getfield 18, 3) := by decide +kernel
theorem dX2_find_69 : decode cX2_find 69 = .ok (.iload 5, 2) := by decide +kernel
theorem dX2_find_71 : decode cX2_find 71 = .ok (.aload_n 2, 1) := by decide +kernel
theorem dX2_find_72 : decode cX2_find 72 = .ok (.getfield 41, 3) := by decide +kernel
theorem dX2_find_75 : decode cX2_find 75 = .ok (.iload 4, 2) := by decide +kernel
theorem dX2_find_77 : decode cX2_find 77 = .ok (.invokestatic 37, 3) := by decide +kernel
theorem dX2_find_80 : decode cX2_find 80 = .ok (.invokestatic 42, 3) := by decide +kernel
theorem dX2_find_83 : decode cX2_find 83 = .ok (.iinc 4 1, 3) := by decide +kernel
theorem dX2_find_86 : decode cX2_find 86 = .ok (.goto (-65), 3) := by decide +kernel
theorem dX2_find_89 : decode cX2_find 89 = .ok (.aload_n 0, 1) := by decide +kernel
theorem dX2_find_90 : decode cX2_find 90 = .ok (.aload_n 1, 1) := by decide +kernel
theorem dX2_find_91 : decode cX2_find 91 = .ok (.iconst 0, 1) := by decide +kernel
theorem dX2_find_92 : decode cX2_find 92 = .ok (.iconst 0, 1) := by decide +kernel
theorem dX2_find_93 : decode cX2_find 93 = .ok (.iconst 0, 1) := by decide +kernel
theorem dX2_find_94 : decode cX2_find 94 = .ok (.ldc 46, 2) := by decide +kernel
theorem dX2_find_96 : decode cX2_find 96 = .ok (.invokestatic 47, 3) := by decide +kernel
theorem dX2_find_99 : decode cX2_find 99 = .ok (.return_, 1) := by decide +kernel
theorem dX2_extend_0 : decode cX2_extend 0 = .ok (.iload_n 3, 1) := by decide +kernel
theorem dX2_extend_1 : decode cX2_extend 1 = .ok (.aload_n 0, 1) := by decide +kernel
theorem dX2_extend_2 : decode cX2_extend 2 = .ok (.getfield 25, 3) := by decide +kernel
theorem dX2_extend_5 : decode cX2_extend 5 = .ok (.if_icmp .ne 10, 3) := by decide +kernel
theorem dX2_extend_8 : decode cX2_extend 8 = .ok (.aload_n 0, 1) := by decide +kernel
theorem dX2_extend_9 : decode cX2_extend 9 = .ok (.iload 5, 2) := by decide +kernel
theorem dX2_extend_11 : decode cX2_extend 11 = .ok (.invokevirtual 51, 3) := by decide +kernel
theorem dX2_extend_14 : decode cX2_extend 14 = .ok (.return_, 1) := by decide +kernel
theorem dX2_extend_15 : decode cX2_extend 15 = .ok (.iload_n 2, 1) := by decide +kernel
theorem dX2_extend_16 : decode cX2_extend 16 = .ok (.bipush 7, 2) := by decide +kernel
theorem dX2_extend_18 : decode cX2_extend 18 = .ok (.if_icmp .lt 4, 3) := by decide +kernel
theorem dX2_extend_21 : decode cX2_extend 21 = .ok (.return_, 1) := by decide +kernel
theorem dX2_extend_22 : decode cX2_extend 22 = .ok (.aload_n 1, 1) := by decide +kernel
theorem dX2_extend_23 : decode cX2_extend 23 = .ok (.iload_n 2, 1) := by decide +kernel
theorem dX2_extend_24 : decode cX2_extend 24 = .ok (.invokevirtual 55, 3) := by decide +kernel
theorem dX2_extend_27 : decode cX2_extend 27 = .ok (.istore 6, 2) := by decide +kernel
theorem dX2_extend_29 : decode cX2_extend 29 = .ok (.iconst 0, 1) := by decide +kernel
theorem dX2_extend_30 : decode cX2_extend 30 = .ok (.istore 7, 2) := by decide +kernel
theorem dX2_extend_32 : decode cX2_extend 32 = .ok (.iload 7, 2) := by decide +kernel
theorem dX2_extend_34 : decode cX2_extend 34 = .ok (.bipush 7, 2) := by decide +kernel
theorem dX2_extend_36 : decode cX2_extend 36 = .ok (.if_icmp .ge 123, 3) := by decide +kernel
theorem dX2_extend_39 : decode cX2_extend 39 = .ok (.aload_n 0, 1) := by decide +kernel
theorem dX2_extend_40 : decode cX2_extend 40 = .ok (.getfield 25, 3) := by decide +kernel
theorem dX2_extend_43 : decode cX2_extend 43 = .ok (.iload_n 3, 1) := by decide +kernel
theorem dX2_extend_44 : decode cX2_extend 44 = .ok (.iconst (-1), 1) := by decide +kernel
theorem dX2_extend_45 : decode cX2_extend 45 = .ok (.ixor, 1) := by decide +kernel
theorem dX2_extend_46 : decode cX2_extend 46 = .ok (.iand, 1) := by decide +kernel
theorem dX2_extend_47 : decode cX2_extend 47 = .ok (.iload 7, 2) := by decide +kernel
theorem dX2_extend_49 : decode cX2_extend 49 = .ok (.invokestatic 61, 3) := by decide +kernel
theorem dX2_extend_52 : decode cX2_extend 52 = .ok (.ifCond .eq 101, 3) := by decide +kernel
theorem dX2_extend_55 : decode cX2_extend 55 = .ok (.aload_n 0, 1) := by decide +kernel
theorem dX2_extend_56 : decode cX2_extend 56 = .ok (.getfield 18, 3) := by decide +kernel
theorem dX2_extend_59 : decode cX2_extend 59 = .ok (.iload 7, 2) := by decide +kernel
theorem dX2_extend_61 : decode cX2_extend 61 = .ok (.invokestatic 37, 3) := by decide +kernel
theorem dX2_extend_64 : decode cX2_extend 64 = .ok (.iload 6, 2) := by decide +kernel
theorem dX2_extend_66 : decode cX2_extend 66 = .ok (.if_icmp .ne 87, 3) := by decide +kernel
theorem dX2_extend_69 : decode cX2_extend 69 = .ok (.aload_n 1, 1) := by decide +kernel
theorem dX2_extend_70 : decode cX2_extend 70 = .ok (.iload 7, 2) := by decide +kernel
theorem dX2_extend_72 : decode cX2_extend 72 = .ok (.iload_n 3, 1) := by decide +kernel
theorem dX2_extend_73 : decode cX2_extend 73 = .ok (.invokevirtual 65, 3) := by decide +kernel
theorem dX2_extend_76 : decode cX2_extend 76 = .ok (.ifCond .eq 77, 3) := by decide +kernel
theorem dX2_extend_79 : decode cX2_extend 79 = .ok (.aload_n 1, 1) := by decide +kernel
theorem dX2_extend_80 : decode cX2_extend 80 = .ok (.iload 7, 2) := by decide +kernel
theorem dX2_extend_82 : decode cX2_extend 82 = .ok (.iload 4, 2) := by decide +kernel
theorem dX2_extend_84 : decode cX2_extend 84 = .ok (.invokevirtual 68, 3) := by decide +kernel
theorem dX2_extend_87 : decode cX2_extend 87 = .ok (.ifCond .eq 10, 3) := by decide +kernel
theorem dX2_extend_90 : decode cX2_extend 90 = .ok (.iload 4, 2) := by decide +kernel
theorem dX2_extend_92 : decode cX2_extend 92 = .ok (.iconst 1, 1) := by decide +kernel
theorem dX2_extend_93 : decode cX2_extend 93 = .ok (.iadd, 1) := by decide +kernel
theorem dX2_extend_94 : decode cX2_extend 94 = .ok (.goto 5, 3) := by decide +kernel
theorem dX2_extend_97 : decode cX2_extend 97 = .ok (.iload 4, 2) := by decide +kernel
theorem dX2_extend_99 : decode cX2_extend 99 = .ok (.istore 8, 2) := by decide +kernel
theorem dX2_extend_101 : decode cX2_extend 101 = .ok (.iload_n 2, 1) := by decide +kernel
theorem dX2_extend_102 : decode cX2_extend 102 = .ok (.ifCond .ne 11, 3) := by decide +kernel
theorem dX2_extend_105 : decode cX2_extend 105 = .ok (.iload 7, 2) := by decide +kernel
theorem dX2_extend_107 : decode cX2_extend 107 = .ok (.bipush 21, 2) := by decide +kernel
theorem dX2_extend_109 : decode cX2_extend 109 = .ok (.ishl, 1) := by decide +kernel
theorem dX2_extend_110 : decode cX2_extend 110 = .ok (.goto 12, 3) := by decide +kernel
theorem dX2_extend_113 : decode cX2_extend 113 = .ok (.iload 5, 2) := by decide +kernel
theorem dX2_extend_115 : decode cX2_extend 115 = .ok (.iload_n 2, 1) := by decide +kernel
theorem dX2_extend_116 : decode cX2_extend 116 = .ok (.iconst 3, 1) := by decide +kernel
theorem dX2_extend_117 : decode cX2_extend 117 = .ok (.iload 7, 2) := by decide +kernel
theorem dX2_extend_119 : decode cX2_extend 119 = .ok (.imul, 1) := by decide +kernel
theorem dX2_extend_120 : decode cX2_extend 120 = .ok (.ishl, 1) := by decide +kernel
theorem dX2_extend_121 : decode cX2_extend 121 = .ok (.ior, 1) := by decide +kernel
theorem dX2_extend_122 : decode cX2_extend 122 = .ok (.istore 9, 2) := by decide +kernel
theorem dX2_extend_124 : decode cX2_extend 124 = .ok (.iload 8, 2) := by decide +kernel
theorem dX2_extend_126 : decode cX2_extend 126 = .ok (.aload_n 0, 1) := by decide +kernel
theorem dX2_extend_127 : decode cX2_extend 127 = .ok (.getfield 33, 3) := by decide +kernel
theorem dX2_extend_130 : decode cX2_extend 130 = .ok (.if_icmp .ge 23, 3) := by decide +kernel
theorem dX2_extend_133 : decode cX2_extend 133 = .ok (.aload_n 0, 1) := by decide +kernel
theorem dX2_extend_134 : decode cX2_extend 134 = .ok (.aload_n 1, 1) := by decide +kernel
theorem dX2_extend_135 : decode cX2_extend 135 = .ok (.iload_n 2, 1) := by decide +kernel
theorem dX2_extend_136 : decode cX2_extend 136 = .ok (.iconst 1, 1) := by decide +kernel
theorem dX2_extend_137 : decode cX2_extend 137 = .ok (.iadd, 1) := by decide +kernel
theorem dX2_extend_138 : decode cX2_extend 138 = .ok (.iload_n 3, 1) := by decide +kernel
theorem dX2_extend_139 : decode cX2_extend 139 = .ok (.iconst 1, 1) := by decide +kernel
theorem dX2_extend_140 : decode cX2_extend 140 = .ok (.iload 7, 2) := by decide +kernel
theorem dX2_extend_142 : decode cX2_extend 142 = .ok (.ishl, 1) := by decide +kernel
theorem dX2_extend_143 : decode cX2_extend 143 = .ok (.ior, 1) := by decide +kernel
theorem dX2_extend_144 : decode cX2_extend 144 = .ok (.iload 8, 2) := by decide +kernel
theorem dX2_extend_146 : decode cX2_extend 146 = .ok (.iconst 1, 1) := by decide +kernel
theorem dX2_extend_147 : decode cX2_extend 147 = .ok (.iadd, 1) := by decide +kernel
theorem dX2_extend_148 : decode cX2_extend 148 = .ok (.iload 9, 2) := by decide +kernel
theorem dX2_extend_150 : decode cX2_extend 150 = .ok (.invokestatic 47, 3) := by decide +kernel
theorem dX2_extend_153 : decode cX2_extend 153 = .ok (.iinc 7 1, 3) := by decide +kernel
theorem dX2_extend_156 : decode cX2_extend 156 = .ok (.goto (-124), 3) := by decide +kernel
theorem dX2_extend_159 : decode cX2_extend 159 = .ok (.return_, 1) := by decide +kernel
theorem dX2_add_0 : decode cX2_add 0 = .ok (.aload_n 0, 1) := by decide +kernel
theorem dX2_add_1 : decode cX2_add 1 = .ok (.getfield 21, 3) := by decide +kernel
theorem dX2_add_4 : decode cX2_add 4 = .ok (.sipush 5040, 3) := by decide +kernel
theorem dX2_add_7 : decode cX2_add 7 = .ok (.if_icmp .ge 25, 3) := by decide +kernel
theorem dX2_add_10 : decode cX2_add 10 = .ok (.aload_n 0, 1) := by decide +kernel
theorem dX2_add_11 : decode cX2_add 11 = .ok (.getfield 11, 3) := by decide +kernel
theorem dX2_add_14 : decode cX2_add 14 = .ok (.aload_n 0, 1) := by decide +kernel
theorem dX2_add_15 : decode cX2_add 15 = .ok (.getfield 21, 3) := by decide +kernel
theorem dX2_add_18 : decode cX2_add 18 = .ok (.iload_n 1, 1) := by decide +kernel
theorem dX2_add_19 : decode cX2_add 19 = .ok (.invokestatic 42, 3) := by decide +kernel
theorem dX2_add_22 : decode cX2_add 22 = .ok (.aload_n 0, 1) := by decide +kernel
theorem dX2_add_23 : decode cX2_add 23 = .ok (.dup, 1) := by decide +kernel
theorem dX2_add_24 : decode cX2_add 24 = .ok (.getfield 21, 3) := by decide +kernel
theorem dX2_add_27 : decode cX2_add 27 = .ok (.iconst 1, 1) := by decide +kernel
theorem dX2_add_28 : decode cX2_add 28 = .ok (.iadd, 1) := by decide +kernel
theorem dX2_add_29 : decode cX2_add 29 = .ok (.putfield 21, 3) := by decide +kernel
theorem dX2_add_32 : decode cX2_add 32 = .ok (.return_, 1) := by decide +kernel
theorem dX2_placeOf_0 : decode cX2_placeOf 0 = .ok (.iload_n 0, 1) := by decide +kernel
theorem dX2_placeOf_1 : decode cX2_placeOf 1 = .ok (.iconst 3, 1) := by decide +kernel
theorem dX2_placeOf_2 : decode cX2_placeOf 2 = .ok (.iload_n 1, 1) := by decide +kernel
theorem dX2_placeOf_3 : decode cX2_placeOf 3 = .ok (.imul, 1) := by decide +kernel
theorem dX2_placeOf_4 : decode cX2_placeOf 4 = .ok (.iushr, 1) := by decide +kernel
theorem dX2_placeOf_5 : decode cX2_placeOf 5 = .ok (.bipush 7, 2) := by decide +kernel
theorem dX2_placeOf_7 : decode cX2_placeOf 7 = .ok (.iand, 1) := by decide +kernel
theorem dX2_placeOf_8 : decode cX2_placeOf 8 = .ok (.ireturn, 1) := by decide +kernel
theorem dX2_firstOf_0 : decode cX2_firstOf 0 = .ok (.iload_n 0, 1) := by decide +kernel
theorem dX2_firstOf_1 : decode cX2_firstOf 1 = .ok (.bipush 21, 2) := by decide +kernel
theorem dX2_firstOf_3 : decode cX2_firstOf 3 = .ok (.iushr, 1) := by decide +kernel
theorem dX2_firstOf_4 : decode cX2_firstOf 4 = .ok (.ireturn, 1) := by decide +kernel
theorem dX2_firsts_0 : decode cX2_firsts 0 = .ok (.iconst 0, 1) := by decide +kernel
theorem dX2_firsts_1 : decode cX2_firsts 1 = .ok (.istore_n 1, 1) := by decide +kernel
theorem dX2_firsts_2 : decode cX2_firsts 2 = .ok (.iconst 0, 1) := by decide +kernel
theorem dX2_firsts_3 : decode cX2_firsts 3 = .ok (.istore_n 2, 1) := by decide +kernel
theorem dX2_firsts_4 : decode cX2_firsts 4 = .ok (.iload_n 2, 1) := by decide +kernel
theorem dX2_firsts_5 : decode cX2_firsts 5 = .ok (.aload_n 0, 1) := by decide +kernel
theorem dX2_firsts_6 : decode cX2_firsts 6 = .ok (.getfield 21, 3) := by decide +kernel
theorem dX2_firsts_9 : decode cX2_firsts 9 = .ok (.if_icmp .ge 25, 3) := by decide +kernel
theorem dX2_firsts_12 : decode cX2_firsts 12 = .ok (.iload_n 1, 1) := by decide +kernel
theorem dX2_firsts_13 : decode cX2_firsts 13 = .ok (.iconst 1, 1) := by decide +kernel
theorem dX2_firsts_14 : decode cX2_firsts 14 = .ok (.aload_n 0, 1) := by decide +kernel
theorem dX2_firsts_15 : decode cX2_firsts 15 = .ok (.getfield 11, 3) := by decide +kernel
theorem dX2_firsts_18 : decode cX2_firsts 18 = .ok (.iload_n 2, 1) := by decide +kernel
theorem dX2_firsts_19 : decode cX2_firsts 19 = .ok (.invokestatic 37, 3) := by decide +kernel
theorem dX2_firsts_22 : decode cX2_firsts 22 = .ok (.invokestatic 71, 3) := by decide +kernel
theorem dX2_firsts_25 : decode cX2_firsts 25 = .ok (.ishl, 1) := by decide +kernel
theorem dX2_firsts_26 : decode cX2_firsts 26 = .ok (.ior, 1) := by decide +kernel
theorem dX2_firsts_27 : decode cX2_firsts 27 = .ok (.istore_n 1, 1) := by decide +kernel
theorem dX2_firsts_28 : decode cX2_firsts 28 = .ok (.iinc 2 1, 3) := by decide +kernel
theorem dX2_firsts_31 : decode cX2_firsts 31 = .ok (.goto (-27), 3) := by decide +kernel
theorem dX2_firsts_34 : decode cX2_firsts 34 = .ok (.iload_n 1, 1) := by decide +kernel
theorem dX2_firsts_35 : decode cX2_firsts 35 = .ok (.aload_n 0, 1) := by decide +kernel
theorem dX2_firsts_36 : decode cX2_firsts 36 = .ok (.getfield 25, 3) := by decide +kernel
theorem dX2_firsts_39 : decode cX2_firsts 39 = .ok (.iand, 1) := by decide +kernel
theorem dX2_firsts_40 : decode cX2_firsts 40 = .ok (.ireturn, 1) := by decide +kernel
theorem dX2_timesFirst_0 : decode cX2_timesFirst 0 = .ok (.iconst 0, 1) := by decide +kernel
theorem dX2_timesFirst_1 : decode cX2_timesFirst 1 = .ok (.istore_n 2, 1) := by decide +kernel
theorem dX2_timesFirst_2 : decode cX2_timesFirst 2 = .ok (.iconst 0, 1) := by decide +kernel
theorem dX2_timesFirst_3 : decode cX2_timesFirst 3 = .ok (.istore_n 3, 1) := by decide +kernel
theorem dX2_timesFirst_4 : decode cX2_timesFirst 4 = .ok (.iload_n 3, 1) := by decide +kernel
theorem dX2_timesFirst_5 : decode cX2_timesFirst 5 = .ok (.aload_n 0, 1) := by decide +kernel
theorem dX2_timesFirst_6 : decode cX2_timesFirst 6 = .ok (.getfield 21, 3) := by decide +kernel
theorem dX2_timesFirst_9 : decode cX2_timesFirst 9 = .ok (.if_icmp .ge 27, 3) := by decide +kernel
theorem dX2_timesFirst_12 : decode cX2_timesFirst 12 = .ok (.aload_n 0, 1) := by decide +kernel
theorem dX2_timesFirst_13 : decode cX2_timesFirst 13 = .ok (.getfield 11, 3) := by decide +kernel
theorem dX2_timesFirst_16 : decode cX2_timesFirst 16 = .ok (.iload_n 3, 1) := by decide +kernel
theorem dX2_timesFirst_17 : decode cX2_timesFirst 17 = .ok (.invokestatic 37, 3) := by decide +kernel
theorem dX2_timesFirst_20 : decode cX2_timesFirst 20 = .ok (.invokestatic 71, 3) := by decide +kernel
theorem dX2_timesFirst_23 : decode cX2_timesFirst 23 = .ok (.iload_n 1, 1) := by decide +kernel
theorem dX2_timesFirst_24 : decode cX2_timesFirst 24 = .ok (.if_icmp .ne 6, 3) := by decide +kernel
theorem dX2_timesFirst_27 : decode cX2_timesFirst 27 = .ok (.iinc 2 1, 3) := by decide +kernel
theorem dX2_timesFirst_30 : decode cX2_timesFirst 30 = .ok (.iinc 3 1, 3) := by decide +kernel
theorem dX2_timesFirst_33 : decode cX2_timesFirst 33 = .ok (.goto (-29), 3) := by decide +kernel
theorem dX2_timesFirst_36 : decode cX2_timesFirst 36 = .ok (.iload_n 2, 1) := by decide +kernel
theorem dX2_timesFirst_37 : decode cX2_timesFirst 37 = .ok (.ireturn, 1) := by decide +kernel
theorem dX2_likeliestFirst_0 : decode cX2_likeliestFirst 0 = .ok (.bipush (-9), 2) := by decide +kernel
theorem dX2_likeliestFirst_2 : decode cX2_likeliestFirst 2 = .ok (.istore_n 1, 1) := by decide +kernel
theorem dX2_likeliestFirst_3 : decode cX2_likeliestFirst 3 = .ok (.iconst 0, 1) := by decide +kernel
theorem dX2_likeliestFirst_4 : decode cX2_likeliestFirst 4 = .ok (.istore_n 2, 1) := by decide +kernel
theorem dX2_likeliestFirst_5 : decode cX2_likeliestFirst 5 = .ok (.iconst 0, 1) := by decide +kernel
theorem dX2_likeliestFirst_6 : decode cX2_likeliestFirst 6 = .ok (.istore_n 3, 1) := by decide +kernel
theorem dX2_likeliestFirst_7 : decode cX2_likeliestFirst 7 = .ok (.iload_n 3, 1) := by decide +kernel
theorem dX2_likeliestFirst_8 : decode cX2_likeliestFirst 8 = .ok (.bipush 7, 2) := by decide +kernel
theorem dX2_likeliestFirst_10 : decode cX2_likeliestFirst 10 = .ok (.if_icmp .ge 27, 3) := by decide +kernel
theorem dX2_likeliestFirst_13 : decode cX2_likeliestFirst 13 = .ok (.aload_n 0, 1) := by decide +kernel
theorem dX2_likeliestFirst_14 : decode cX2_likeliestFirst 14 = .ok (.iload_n 3, 1) := by decide +kernel
theorem dX2_likeliestFirst_15 : decode cX2_likeliestFirst 15 = .ok (.invokevirtual 74, 3) := by decide +kernel
theorem dX2_likeliestFirst_18 : decode cX2_likeliestFirst 18 = .ok (.istore 4, 2) := by decide +kernel
theorem dX2_likeliestFirst_20 : decode cX2_likeliestFirst 20 = .ok (.iload 4, 2) := by decide +kernel
theorem dX2_likeliestFirst_22 : decode cX2_likeliestFirst 22 = .ok (.iload_n 2, 1) := by decide +kernel
theorem dX2_likeliestFirst_23 : decode cX2_likeliestFirst 23 = .ok (.if_icmp .le 8, 3) := by decide +kernel
theorem dX2_likeliestFirst_26 : decode cX2_likeliestFirst 26 = .ok (.iload 4, 2) := by decide +kernel
theorem dX2_likeliestFirst_28 : decode cX2_likeliestFirst 28 = .ok (.istore_n 2, 1) := by decide +kernel
theorem dX2_likeliestFirst_29 : decode cX2_likeliestFirst 29 = .ok (.iload_n 3, 1) := by decide +kernel
theorem dX2_likeliestFirst_30 : decode cX2_likeliestFirst 30 = .ok (.istore_n 1, 1) := by decide +kernel
theorem dX2_likeliestFirst_31 : decode cX2_likeliestFirst 31 = .ok (.iinc 3 1, 3) := by decide +kernel
theorem dX2_likeliestFirst_34 : decode cX2_likeliestFirst 34 = .ok (.goto (-27), 3) := by decide +kernel
theorem dX2_likeliestFirst_37 : decode cX2_likeliestFirst 37 = .ok (.iload_n 1, 1) := by decide +kernel
theorem dX2_likeliestFirst_38 : decode cX2_likeliestFirst 38 = .ok (.ireturn, 1) := by decide +kernel
theorem dX2_alwaysAheadOf_0 : decode cX2_alwaysAheadOf 0 = .ok (.aload_n 0, 1) := by decide +kernel
theorem dX2_alwaysAheadOf_1 : decode cX2_alwaysAheadOf 1 = .ok (.getfield 21, 3) := by decide +kernel
theorem dX2_alwaysAheadOf_4 : decode cX2_alwaysAheadOf 4 = .ok (.ifCond .le 16, 3) := by decide +kernel
theorem dX2_alwaysAheadOf_7 : decode cX2_alwaysAheadOf 7 = .ok (.aload_n 0, 1) := by decide +kernel
theorem dX2_alwaysAheadOf_8 : decode cX2_alwaysAheadOf 8 = .ok (.getfield 25, 3) := by decide +kernel
theorem dX2_alwaysAheadOf_11 : decode cX2_alwaysAheadOf 11 = .ok (.iconst 1, 1) := by decide +kernel
theorem dX2_alwaysAheadOf_12 : decode cX2_alwaysAheadOf 12 = .ok (.iload_n 1, 1) := by decide +kernel
theorem dX2_alwaysAheadOf_13 : decode cX2_alwaysAheadOf 13 = .ok (.ishl, 1) := by decide +kernel
theorem dX2_alwaysAheadOf_14 : decode cX2_alwaysAheadOf 14 = .ok (.iconst (-1), 1) := by decide +kernel
theorem dX2_alwaysAheadOf_15 : decode cX2_alwaysAheadOf 15 = .ok (.ixor, 1) := by decide +kernel
theorem dX2_alwaysAheadOf_16 : decode cX2_alwaysAheadOf 16 = .ok (.iand, 1) := by decide +kernel
theorem dX2_alwaysAheadOf_17 : decode cX2_alwaysAheadOf 17 = .ok (.goto 4, 3) := by decide +kernel
theorem dX2_alwaysAheadOf_20 : decode cX2_alwaysAheadOf 20 = .ok (.iconst 0, 1) := by decide +kernel
theorem dX2_alwaysAheadOf_21 : decode cX2_alwaysAheadOf 21 = .ok (.istore_n 2, 1) := by decide +kernel
theorem dX2_alwaysAheadOf_22 : decode cX2_alwaysAheadOf 22 = .ok (.iconst 0, 1) := by decide +kernel
theorem dX2_alwaysAheadOf_23 : decode cX2_alwaysAheadOf 23 = .ok (.istore_n 3, 1) := by decide +kernel
theorem dX2_alwaysAheadOf_24 : decode cX2_alwaysAheadOf 24 = .ok (.iload_n 3, 1) := by decide +kernel
theorem dX2_alwaysAheadOf_25 : decode cX2_alwaysAheadOf 25 = .ok (.aload_n 0, 1) := by decide +kernel
theorem dX2_alwaysAheadOf_26 : decode cX2_alwaysAheadOf 26 = .ok (.getfield 21, 3) := by decide +kernel
theorem dX2_alwaysAheadOf_29 : decode cX2_alwaysAheadOf 29 = .ok (.if_icmp .ge 29, 3) := by decide +kernel
theorem dX2_alwaysAheadOf_32 : decode cX2_alwaysAheadOf 32 = .ok (.iload_n 2, 1) := by decide +kernel
theorem dX2_alwaysAheadOf_33 : decode cX2_alwaysAheadOf 33 = .ok (.ifCond .eq 25, 3) := by decide +kernel
theorem dX2_alwaysAheadOf_36 : decode cX2_alwaysAheadOf 36 = .ok (.iload_n 2, 1) := by decide +kernel
theorem dX2_alwaysAheadOf_37 : decode cX2_alwaysAheadOf 37 = .ok (.aload_n 0, 1) := by decide +kernel
theorem dX2_alwaysAheadOf_38 : decode cX2_alwaysAheadOf 38 = .ok (.aload_n 0, 1) := by decide +kernel
theorem dX2_alwaysAheadOf_39 : decode cX2_alwaysAheadOf 39 = .ok (.getfield 11, 3) := by decide +kernel
theorem dX2_alwaysAheadOf_42 : decode cX2_alwaysAheadOf 42 = .ok (.iload_n 3, 1) := by decide +kernel
theorem dX2_alwaysAheadOf_43 : decode cX2_alwaysAheadOf 43 = .ok (.invokestatic 37, 3) := by decide +kernel
theorem dX2_alwaysAheadOf_46 : decode cX2_alwaysAheadOf 46 = .ok (.iload_n 1, 1) := by decide +kernel
theorem dX2_alwaysAheadOf_47 : decode cX2_alwaysAheadOf 47 = .ok (.invokevirtual 77, 3) := by decide +kernel
theorem dX2_alwaysAheadOf_50 : decode cX2_alwaysAheadOf 50 = .ok (.iand, 1) := by decide +kernel
theorem dX2_alwaysAheadOf_51 : decode cX2_alwaysAheadOf 51 = .ok (.istore_n 2, 1) := by decide +kernel
theorem dX2_alwaysAheadOf_52 : decode cX2_alwaysAheadOf 52 = .ok (.iinc 3 1, 3) := by decide +kernel
theorem dX2_alwaysAheadOf_55 : decode cX2_alwaysAheadOf 55 = .ok (.goto (-31), 3) := by decide +kernel
theorem dX2_alwaysAheadOf_58 : decode cX2_alwaysAheadOf 58 = .ok (.iload_n 2, 1) := by decide +kernel
theorem dX2_alwaysAheadOf_59 : decode cX2_alwaysAheadOf 59 = .ok (.ireturn, 1) := by decide +kernel
theorem dX2_aheadOf_0 : decode cX2_aheadOf 0 = .ok (.iload_n 1, 1) := by decide +kernel
theorem dX2_aheadOf_1 : decode cX2_aheadOf 1 = .ok (.iload_n 2, 1) := by decide +kernel
theorem dX2_aheadOf_2 : decode cX2_aheadOf 2 = .ok (.invokestatic 81, 3) := by decide +kernel
theorem dX2_aheadOf_5 : decode cX2_aheadOf 5 = .ok (.istore_n 3, 1) := by decide +kernel
theorem dX2_aheadOf_6 : decode cX2_aheadOf 6 = .ok (.iconst 0, 1) := by decide +kernel
theorem dX2_aheadOf_7 : decode cX2_aheadOf 7 = .ok (.istore 4, 2) := by decide +kernel
theorem dX2_aheadOf_9 : decode cX2_aheadOf 9 = .ok (.iconst 0, 1) := by decide +kernel
theorem dX2_aheadOf_10 : decode cX2_aheadOf 10 = .ok (.istore 5, 2) := by decide +kernel
theorem dX2_aheadOf_12 : decode cX2_aheadOf 12 = .ok (.iload 5, 2) := by decide +kernel
theorem dX2_aheadOf_14 : decode cX2_aheadOf 14 = .ok (.bipush 7, 2) := by decide +kernel
theorem dX2_aheadOf_16 : decode cX2_aheadOf 16 = .ok (.if_icmp .ge 40, 3) := by decide +kernel
theorem dX2_aheadOf_19 : decode cX2_aheadOf 19 = .ok (.aload_n 0, 1) := by decide +kernel
theorem dX2_aheadOf_20 : decode cX2_aheadOf 20 = .ok (.getfield 25, 3) := by decide +kernel
theorem dX2_aheadOf_23 : decode cX2_aheadOf 23 = .ok (.iload 5, 2) := by decide +kernel
theorem dX2_aheadOf_25 : decode cX2_aheadOf 25 = .ok (.invokestatic 61, 3) := by decide +kernel
theorem dX2_aheadOf_28 : decode cX2_aheadOf 28 = .ok (.ifCond .eq 22, 3) := by decide +kernel
theorem dX2_aheadOf_31 : decode cX2_aheadOf 31 = .ok (.iload_n 1, 1) := by decide +kernel
theorem dX2_aheadOf_32 : decode cX2_aheadOf 32 = .ok (.iload 5, 2) := by decide +kernel
theorem dX2_aheadOf_34 : decode cX2_aheadOf 34 = .ok (.invokestatic 81, 3) := by decide +kernel
theorem dX2_aheadOf_37 : decode cX2_aheadOf 37 = .ok (.iload_n 3, 1) := by decide +kernel
theorem dX2_aheadOf_38 : decode cX2_aheadOf 38 = .ok (.if_icmp .ge 12, 3) := by decide +kernel
theorem dX2_aheadOf_41 : decode cX2_aheadOf 41 = .ok (.iload 4, 2) := by decide +kernel
theorem dX2_aheadOf_43 : decode cX2_aheadOf 43 = .ok (.iconst 1, 1) := by decide +kernel
theorem dX2_aheadOf_44 : decode cX2_aheadOf 44 = .ok (.iload 5, 2) := by decide +kernel
theorem dX2_aheadOf_46 : decode cX2_aheadOf 46 = .ok (.ishl, 1) := by decide +kernel
theorem dX2_aheadOf_47 : decode cX2_aheadOf 47 = .ok (.ior, 1) := by decide +kernel
theorem dX2_aheadOf_48 : decode cX2_aheadOf 48 = .ok (.istore 4, 2) := by decide +kernel
theorem dX2_aheadOf_50 : decode cX2_aheadOf 50 = .ok (.iinc 5 1, 3) := by decide +kernel
theorem dX2_aheadOf_53 : decode cX2_aheadOf 53 = .ok (.goto (-41), 3) := by decide +kernel
theorem dX2_aheadOf_56 : decode cX2_aheadOf 56 = .ok (.iload 4, 2) := by decide +kernel
theorem dX2_aheadOf_58 : decode cX2_aheadOf 58 = .ok (.ireturn, 1) := by decide +kernel
theorem dX2_fewestToAsk_0 : decode cX2_fewestToAsk 0 = .ok (.aload_n 0, 1) := by decide +kernel
theorem dX2_fewestToAsk_1 : decode cX2_fewestToAsk 1 = .ok (.getfield 21, 3) := by decide +kernel
theorem dX2_fewestToAsk_4 : decode cX2_fewestToAsk 4 = .ok (.ifCond .ne 6, 3) := by decide +kernel
theorem dX2_fewestToAsk_7 : decode cX2_fewestToAsk 7 = .ok (.bipush (-9), 2) := by decide +kernel
theorem dX2_fewestToAsk_9 : decode cX2_fewestToAsk 9 = .ok (.ireturn, 1) := by decide +kernel
theorem dX2_fewestToAsk_10 : decode cX2_fewestToAsk 10 = .ok (.aload_n 0, 1) := by decide +kernel
theorem dX2_fewestToAsk_11 : decode cX2_fewestToAsk 11 = .ok (.getfield 15, 3) := by decide +kernel
theorem dX2_fewestToAsk_14 : decode cX2_fewestToAsk 14 = .ok (.bipush (-9), 2) := by decide +kernel
theorem dX2_fewestToAsk_16 : decode cX2_fewestToAsk 16 = .ok (.invokestatic 84, 3) := by decide +kernel
theorem dX2_fewestToAsk_19 : decode cX2_fewestToAsk 19 = .ok (.iconst 0, 1) := by decide +kernel
theorem dX2_fewestToAsk_20 : decode cX2_fewestToAsk 20 = .ok (.istore_n 1, 1) := by decide +kernel
theorem dX2_fewestToAsk_21 : decode cX2_fewestToAsk 21 = .ok (.iload_n 1, 1) := by decide +kernel
theorem dX2_fewestToAsk_22 : decode cX2_fewestToAsk 22 = .ok (.bipush 7, 2) := by decide +kernel
theorem dX2_fewestToAsk_24 : decode cX2_fewestToAsk 24 = .ok (.if_icmp .gt 54, 3) := by decide +kernel
theorem dX2_fewestToAsk_27 : decode cX2_fewestToAsk 27 = .ok (.iconst 0, 1) := by decide +kernel
theorem dX2_fewestToAsk_28 : decode cX2_fewestToAsk 28 = .ok (.istore_n 2, 1) := by decide +kernel
theorem dX2_fewestToAsk_29 : decode cX2_fewestToAsk 29 = .ok (.iload_n 2, 1) := by decide +kernel
theorem dX2_fewestToAsk_30 : decode cX2_fewestToAsk 30 = .ok (.aload_n 0, 1) := by decide +kernel
theorem dX2_fewestToAsk_31 : decode cX2_fewestToAsk 31 = .ok (.getfield 25, 3) := by decide +kernel
theorem dX2_fewestToAsk_34 : decode cX2_fewestToAsk 34 = .ok (.if_icmp .gt 38, 3) := by decide +kernel
theorem dX2_fewestToAsk_37 : decode cX2_fewestToAsk 37 = .ok (.iload_n 2, 1) := by decide +kernel
theorem dX2_fewestToAsk_38 : decode cX2_fewestToAsk 38 = .ok (.aload_n 0, 1) := by decide +kernel
theorem dX2_fewestToAsk_39 : decode cX2_fewestToAsk 39 = .ok (.getfield 25, 3) := by decide +kernel
theorem dX2_fewestToAsk_42 : decode cX2_fewestToAsk 42 = .ok (.iconst (-1), 1) := by decide +kernel
theorem dX2_fewestToAsk_43 : decode cX2_fewestToAsk 43 = .ok (.ixor, 1) := by decide +kernel
theorem dX2_fewestToAsk_44 : decode cX2_fewestToAsk 44 = .ok (.iand, 1) := by decide +kernel
theorem dX2_fewestToAsk_45 : decode cX2_fewestToAsk 45 = .ok (.ifCond .ne 21, 3) := by decide +kernel
theorem dX2_fewestToAsk_48 : decode cX2_fewestToAsk 48 = .ok (.iload_n 2, 1) := by decide +kernel
theorem dX2_fewestToAsk_49 : decode cX2_fewestToAsk 49 = .ok (.invokestatic 90, 3) := by decide +kernel
theorem dX2_fewestToAsk_52 : decode cX2_fewestToAsk 52 = .ok (.iload_n 1, 1) := by decide +kernel
theorem dX2_fewestToAsk_53 : decode cX2_fewestToAsk 53 = .ok (.if_icmp .ne 13, 3) := by decide +kernel
theorem dX2_fewestToAsk_56 : decode cX2_fewestToAsk 56 = .ok (.aload_n 0, 1) := by decide +kernel
theorem dX2_fewestToAsk_57 : decode cX2_fewestToAsk 57 = .ok (.iload_n 2, 1) := by decide +kernel
theorem dX2_fewestToAsk_58 : decode cX2_fewestToAsk 58 = .ok (.invokevirtual 95, 3) := by decide +kernel
theorem dX2_fewestToAsk_61 : decode cX2_fewestToAsk 61 = .ok (.ifCond .eq 5, 3) := by decide +kernel
theorem dX2_fewestToAsk_64 : decode cX2_fewestToAsk 64 = .ok (.iload_n 2, 1) := by decide +kernel
theorem dX2_fewestToAsk_65 : decode cX2_fewestToAsk 65 = .ok (.ireturn, 1) := by decide +kernel
theorem dX2_fewestToAsk_66 : decode cX2_fewestToAsk 66 = .ok (.iinc 2 1, 3) := by decide +kernel
theorem dX2_fewestToAsk_69 : decode cX2_fewestToAsk 69 = .ok (.goto (-40), 3) := by decide +kernel
theorem dX2_fewestToAsk_72 : decode cX2_fewestToAsk 72 = .ok (.iinc 1 1, 3) := by decide +kernel
theorem dX2_fewestToAsk_75 : decode cX2_fewestToAsk 75 = .ok (.goto (-54), 3) := by decide +kernel
theorem dX2_fewestToAsk_78 : decode cX2_fewestToAsk 78 = .ok (.aload_n 0, 1) := by decide +kernel
theorem dX2_fewestToAsk_79 : decode cX2_fewestToAsk 79 = .ok (.getfield 25, 3) := by decide +kernel
theorem dX2_fewestToAsk_82 : decode cX2_fewestToAsk 82 = .ok (.ireturn, 1) := by decide +kernel
theorem dX2_tellWhoWasFirst_0 : decode cX2_tellWhoWasFirst 0 = .ok (.iconst 0, 1) := by decide +kernel
theorem dX2_tellWhoWasFirst_1 : decode cX2_tellWhoWasFirst 1 = .ok (.istore_n 2, 1) := by decide +kernel
theorem dX2_tellWhoWasFirst_2 : decode cX2_tellWhoWasFirst 2 = .ok (.iload_n 2, 1) := by decide +kernel
theorem dX2_tellWhoWasFirst_3 : decode cX2_tellWhoWasFirst 3 = .ok (.aload_n 0, 1) := by decide +kernel
theorem dX2_tellWhoWasFirst_4 : decode cX2_tellWhoWasFirst 4 = .ok (.getfield 21, 3) := by decide +kernel
theorem dX2_tellWhoWasFirst_7 : decode cX2_tellWhoWasFirst 7 = .ok (.if_icmp .ge 87, 3) := by decide +kernel
theorem dX2_tellWhoWasFirst_10 : decode cX2_tellWhoWasFirst 10 = .ok (.aload_n 0, 1) := by decide +kernel
theorem dX2_tellWhoWasFirst_11 : decode cX2_tellWhoWasFirst 11 = .ok (.getfield 11, 3) := by decide +kernel
theorem dX2_tellWhoWasFirst_14 : decode cX2_tellWhoWasFirst 14 = .ok (.iload_n 2, 1) := by decide +kernel
theorem dX2_tellWhoWasFirst_15 : decode cX2_tellWhoWasFirst 15 = .ok (.invokestatic 37, 3) := by decide +kernel
theorem dX2_tellWhoWasFirst_18 : decode cX2_tellWhoWasFirst 18 = .ok (.istore_n 3, 1) := by decide +kernel
theorem dX2_tellWhoWasFirst_19 : decode cX2_tellWhoWasFirst 19 = .ok (.iload_n 3, 1) := by decide +kernel
theorem dX2_tellWhoWasFirst_20 : decode cX2_tellWhoWasFirst 20 = .ok (.invokestatic 71, 3) := by decide +kernel
theorem dX2_tellWhoWasFirst_23 : decode cX2_tellWhoWasFirst 23 = .ok (.istore 4, 2) := by decide +kernel
theorem dX2_tellWhoWasFirst_25 : decode cX2_tellWhoWasFirst 25 = .ok (.iload_n 1, 1) := by decide +kernel
theorem dX2_tellWhoWasFirst_26 : decode cX2_tellWhoWasFirst 26 = .ok (.iload 4, 2) := by decide +kernel
theorem dX2_tellWhoWasFirst_28 : decode cX2_tellWhoWasFirst 28 = .ok (.invokestatic 61, 3) := by decide +kernel
theorem dX2_tellWhoWasFirst_31 : decode cX2_tellWhoWasFirst 31 = .ok (.ifCond .ne 57, 3) := by decide +kernel
theorem dX2_tellWhoWasFirst_34 : decode cX2_tellWhoWasFirst 34 = .ok (.aload_n 0, 1) := by decide +kernel
theorem dX2_tellWhoWasFirst_35 : decode cX2_tellWhoWasFirst 35 = .ok (.iload_n 3, 1) := by decide +kernel
theorem dX2_tellWhoWasFirst_36 : decode cX2_tellWhoWasFirst 36 = .ok (.iload_n 1, 1) := by decide +kernel
theorem dX2_tellWhoWasFirst_37 : decode cX2_tellWhoWasFirst 37 = .ok (.invokevirtual 99, 3) := by decide +kernel
theorem dX2_tellWhoWasFirst_40 : decode cX2_tellWhoWasFirst 40 = .ok (.istore 5, 2) := by decide +kernel
theorem dX2_tellWhoWasFirst_42 : decode cX2_tellWhoWasFirst 42 = .ok (.aload_n 0, 1) := by decide +kernel
theorem dX2_tellWhoWasFirst_43 : decode cX2_tellWhoWasFirst 43 = .ok (.getfield 15, 3) := by decide +kernel
theorem dX2_tellWhoWasFirst_46 : decode cX2_tellWhoWasFirst 46 = .ok (.iload 5, 2) := by decide +kernel
theorem dX2_tellWhoWasFirst_48 : decode cX2_tellWhoWasFirst 48 = .ok (.invokestatic 37, 3) := by decide +kernel
theorem dX2_tellWhoWasFirst_51 : decode cX2_tellWhoWasFirst 51 = .ok (.istore 6, 2) := by decide +kernel
theorem dX2_tellWhoWasFirst_53 : decode cX2_tellWhoWasFirst 53 = .ok (.iload 6, 2) := by decide +kernel
theorem dX2_tellWhoWasFirst_55 : decode cX2_tellWhoWasFirst 55 = .ok (.iconst 3, 1) := by decide +kernel
theorem dX2_tellWhoWasFirst_56 : decode cX2_tellWhoWasFirst 56 = .ok (.ishr, 1) := by decide +kernel
theorem dX2_tellWhoWasFirst_57 : decode cX2_tellWhoWasFirst 57 = .ok (.iload_n 1, 1) := by decide +kernel
theorem dX2_tellWhoWasFirst_58 : decode cX2_tellWhoWasFirst 58 = .ok (.if_icmp .ne 15, 3) := by decide +kernel
theorem dX2_tellWhoWasFirst_61 : decode cX2_tellWhoWasFirst 61 = .ok (.iload 6, 2) := by decide +kernel
theorem dX2_tellWhoWasFirst_63 : decode cX2_tellWhoWasFirst 63 = .ok (.bipush 7, 2) := by decide +kernel
theorem dX2_tellWhoWasFirst_65 : decode cX2_tellWhoWasFirst 65 = .ok (.iand, 1) := by decide +kernel
theorem dX2_tellWhoWasFirst_66 : decode cX2_tellWhoWasFirst 66 = .ok (.iload 4, 2) := by decide +kernel
theorem dX2_tellWhoWasFirst_68 : decode cX2_tellWhoWasFirst 68 = .ok (.if_icmp .eq 5, 3) := by decide +kernel
theorem dX2_tellWhoWasFirst_71 : decode cX2_tellWhoWasFirst 71 = .ok (.iconst 0, 1) := by decide +kernel
theorem dX2_tellWhoWasFirst_72 : decode cX2_tellWhoWasFirst 72 = .ok (.ireturn, 1) := by decide +kernel
theorem dX2_tellWhoWasFirst_73 : decode cX2_tellWhoWasFirst 73 = .ok (.aload_n 0, 1) := by decide +kernel
theorem dX2_tellWhoWasFirst_74 : decode cX2_tellWhoWasFirst 74 = .ok (.getfield 15, 3) := by decide +kernel
theorem dX2_tellWhoWasFirst_77 : decode cX2_tellWhoWasFirst 77 = .ok (.iload 5, 2) := by decide +kernel
theorem dX2_tellWhoWasFirst_79 : decode cX2_tellWhoWasFirst 79 = .ok (.iload_n 1, 1) := by decide +kernel
theorem dX2_tellWhoWasFirst_80 : decode cX2_tellWhoWasFirst 80 = .ok (.iconst 3, 1) := by decide +kernel
theorem dX2_tellWhoWasFirst_81 : decode cX2_tellWhoWasFirst 81 = .ok (.ishl, 1) := by decide +kernel
theorem dX2_tellWhoWasFirst_82 : decode cX2_tellWhoWasFirst 82 = .ok (.iload 4, 2) := by decide +kernel
theorem dX2_tellWhoWasFirst_84 : decode cX2_tellWhoWasFirst 84 = .ok (.ior, 1) := by decide +kernel
theorem dX2_tellWhoWasFirst_85 : decode cX2_tellWhoWasFirst 85 = .ok (.invokestatic 42, 3) := by decide +kernel
theorem dX2_tellWhoWasFirst_88 : decode cX2_tellWhoWasFirst 88 = .ok (.iinc 2 1, 3) := by decide +kernel
theorem dX2_tellWhoWasFirst_91 : decode cX2_tellWhoWasFirst 91 = .ok (.goto (-89), 3) := by decide +kernel
theorem dX2_tellWhoWasFirst_94 : decode cX2_tellWhoWasFirst 94 = .ok (.iconst 1, 1) := by decide +kernel
theorem dX2_tellWhoWasFirst_95 : decode cX2_tellWhoWasFirst 95 = .ok (.ireturn, 1) := by decide +kernel
theorem dX2_rankOfPlaces_0 : decode cX2_rankOfPlaces 0 = .ok (.aload_n 0, 1) := by decide +kernel
theorem dX2_rankOfPlaces_1 : decode cX2_rankOfPlaces 1 = .ok (.getfield 25, 3) := by decide +kernel
theorem dX2_rankOfPlaces_4 : decode cX2_rankOfPlaces 4 = .ok (.invokestatic 90, 3) := by decide +kernel
theorem dX2_rankOfPlaces_7 : decode cX2_rankOfPlaces 7 = .ok (.istore_n 3, 1) := by decide +kernel
theorem dX2_rankOfPlaces_8 : decode cX2_rankOfPlaces 8 = .ok (.iconst 0, 1) := by decide +kernel
theorem dX2_rankOfPlaces_9 : decode cX2_rankOfPlaces 9 = .ok (.istore 4, 2) := by decide +kernel
theorem dX2_rankOfPlaces_11 : decode cX2_rankOfPlaces 11 = .ok (.iconst 0, 1) := by decide +kernel
theorem dX2_rankOfPlaces_12 : decode cX2_rankOfPlaces 12 = .ok (.istore 5, 2) := by decide +kernel
theorem dX2_rankOfPlaces_14 : decode cX2_rankOfPlaces 14 = .ok (.iconst 0, 1) := by decide +kernel
theorem dX2_rankOfPlaces_15 : decode cX2_rankOfPlaces 15 = .ok (.istore 6, 2) := by decide +kernel
theorem dX2_rankOfPlaces_17 : decode cX2_rankOfPlaces 17 = .ok (.iload 6, 2) := by decide +kernel
theorem dX2_rankOfPlaces_19 : decode cX2_rankOfPlaces 19 = .ok (.bipush 7, 2) := by decide +kernel
theorem dX2_rankOfPlaces_21 : decode cX2_rankOfPlaces 21 = .ok (.if_icmp .ge 60, 3) := by decide +kernel
theorem dX2_rankOfPlaces_24 : decode cX2_rankOfPlaces 24 = .ok (.iload_n 2, 1) := by decide +kernel
theorem dX2_rankOfPlaces_25 : decode cX2_rankOfPlaces 25 = .ok (.iload 6, 2) := by decide +kernel
theorem dX2_rankOfPlaces_27 : decode cX2_rankOfPlaces 27 = .ok (.invokestatic 61, 3) := by decide +kernel
theorem dX2_rankOfPlaces_30 : decode cX2_rankOfPlaces 30 = .ok (.ifCond .eq 45, 3) := by decide +kernel
theorem dX2_rankOfPlaces_33 : decode cX2_rankOfPlaces 33 = .ok (.iload_n 1, 1) := by decide +kernel
theorem dX2_rankOfPlaces_34 : decode cX2_rankOfPlaces 34 = .ok (.iload 6, 2) := by decide +kernel
theorem dX2_rankOfPlaces_36 : decode cX2_rankOfPlaces 36 = .ok (.invokestatic 81, 3) := by decide +kernel
theorem dX2_rankOfPlaces_39 : decode cX2_rankOfPlaces 39 = .ok (.istore 7, 2) := by decide +kernel
theorem dX2_rankOfPlaces_41 : decode cX2_rankOfPlaces 41 = .ok (.iload 5, 2) := by decide +kernel
theorem dX2_rankOfPlaces_43 : decode cX2_rankOfPlaces 43 = .ok (.iload_n 3, 1) := by decide +kernel
theorem dX2_rankOfPlaces_44 : decode cX2_rankOfPlaces 44 = .ok (.imul, 1) := by decide +kernel
theorem dX2_rankOfPlaces_45 : decode cX2_rankOfPlaces 45 = .ok (.iload 7, 2) := by decide +kernel
theorem dX2_rankOfPlaces_47 : decode cX2_rankOfPlaces 47 = .ok (.iadd, 1) := by decide +kernel
theorem dX2_rankOfPlaces_48 : decode cX2_rankOfPlaces 48 = .ok (.iload 4, 2) := by decide +kernel
theorem dX2_rankOfPlaces_50 : decode cX2_rankOfPlaces 50 = .ok (.iconst 1, 1) := by decide +kernel
theorem dX2_rankOfPlaces_51 : decode cX2_rankOfPlaces 51 = .ok (.iload 7, 2) := by decide +kernel
theorem dX2_rankOfPlaces_53 : decode cX2_rankOfPlaces 53 = .ok (.ishl, 1) := by decide +kernel
theorem dX2_rankOfPlaces_54 : decode cX2_rankOfPlaces 54 = .ok (.iconst 1, 1) := by decide +kernel
theorem dX2_rankOfPlaces_55 : decode cX2_rankOfPlaces 55 = .ok (.isub, 1) := by decide +kernel
theorem dX2_rankOfPlaces_56 : decode cX2_rankOfPlaces 56 = .ok (.iand, 1) := by decide +kernel
theorem dX2_rankOfPlaces_57 : decode cX2_rankOfPlaces 57 = .ok (.invokestatic 90, 3) := by decide +kernel
theorem dX2_rankOfPlaces_60 : decode cX2_rankOfPlaces 60 = .ok (.isub, 1) := by decide +kernel
theorem dX2_rankOfPlaces_61 : decode cX2_rankOfPlaces 61 = .ok (.istore 5, 2) := by decide +kernel
theorem dX2_rankOfPlaces_63 : decode cX2_rankOfPlaces 63 = .ok (.iload 4, 2) := by decide +kernel
theorem dX2_rankOfPlaces_65 : decode cX2_rankOfPlaces 65 = .ok (.iconst 1, 1) := by decide +kernel
theorem dX2_rankOfPlaces_66 : decode cX2_rankOfPlaces 66 = .ok (.iload 7, 2) := by decide +kernel
theorem dX2_rankOfPlaces_68 : decode cX2_rankOfPlaces 68 = .ok (.ishl, 1) := by decide +kernel
theorem dX2_rankOfPlaces_69 : decode cX2_rankOfPlaces 69 = .ok (.ior, 1) := by decide +kernel
theorem dX2_rankOfPlaces_70 : decode cX2_rankOfPlaces 70 = .ok (.istore 4, 2) := by decide +kernel
theorem dX2_rankOfPlaces_72 : decode cX2_rankOfPlaces 72 = .ok (.iinc 3 (-1), 3) := by decide +kernel
theorem dX2_rankOfPlaces_75 : decode cX2_rankOfPlaces 75 = .ok (.iinc 6 1, 3) := by decide +kernel
theorem dX2_rankOfPlaces_78 : decode cX2_rankOfPlaces 78 = .ok (.goto (-61), 3) := by decide +kernel
theorem dX2_rankOfPlaces_81 : decode cX2_rankOfPlaces 81 = .ok (.iload 5, 2) := by decide +kernel
theorem dX2_rankOfPlaces_83 : decode cX2_rankOfPlaces 83 = .ok (.ireturn, 1) := by decide +kernel
theorem dX3_init_0 : decode cX3_init 0 = .ok (.aload_n 0, 1) := by decide +kernel
theorem dX3_init_1 : decode cX3_init 1 = .ok (.invokespecial 3, 3) := by decide +kernel
theorem dX3_init_4 : decode cX3_init 4 = .ok (.aload_n 0, 1) := by decide +kernel
theorem dX3_init_5 : decode cX3_init 5 = .ok (.bipush 10, 2) := by decide +kernel
theorem dX3_init_7 : decode cX3_init 7 = .ok (.anewarray 9, 3) := by decide +kernel
theorem dX3_init_10 : decode cX3_init 10 = .ok (.putfield 11, 3) := by decide +kernel
theorem dX3_init_13 : decode cX3_init 13 = .ok (.iconst 0, 1) := by decide +kernel
theorem dX3_init_14 : decode cX3_init 14 = .ok (.istore_n 1, 1) := by decide +kernel
theorem dX3_init_15 : decode cX3_init 15 = .ok (.iload_n 1, 1) := by decide +kernel
theorem dX3_init_16 : decode cX3_init 16 = .ok (.aload_n 0, 1) := by decide +kernel
theorem dX3_init_17 : decode cX3_init 17 = .ok (.getfield 11, 3) := by decide +kernel
theorem dX3_init_20 : decode cX3_init 20 = .ok (.arraylength, 1) := by decide +kernel
theorem dX3_init_21 : decode cX3_init 21 = .ok (.if_icmp .ge 22, 3) := by decide +kernel
theorem dX3_init_24 : decode cX3_init 24 = .ok (.aload_n 0, 1) := by decide +kernel
theorem dX3_init_25 : decode cX3_init 25 = .ok (.getfield 11, 3) := by decide +kernel
theorem dX3_init_28 : decode cX3_init 28 = .ok (.iload_n 1, 1) := by decide +kernel
theorem dX3_init_29 : decode cX3_init 29 = .ok (.new 9, 3) := by decide +kernel
theorem dX3_init_32 : decode cX3_init 32 = .ok (.dup, 1) := by decide +kernel
theorem dX3_init_33 : decode cX3_init 33 = .ok (.invokespecial 17, 3) := by decide +kernel
theorem dX3_init_36 : decode cX3_init 36 = .ok (.aastore, 1) := by decide +kernel
theorem dX3_init_37 : decode cX3_init 37 = .ok (.iinc 1 1, 3) := by decide +kernel
theorem dX3_init_40 : decode cX3_init 40 = .ok (.goto (-25), 3) := by decide +kernel
theorem dX3_init_43 : decode cX3_init 43 = .ok (.return_, 1) := by decide +kernel
theorem dX3_remember_0 : decode cX3_remember 0 = .ok (.aload_n 0, 1) := by decide +kernel
theorem dX3_remember_1 : decode cX3_remember 1 = .ok (.aload_n 0, 1) := by decide +kernel
theorem dX3_remember_2 : decode cX3_remember 2 = .ok (.getfield 18, 3) := by decide +kernel
theorem dX3_remember_5 : decode cX3_remember 5 = .ok (.invokevirtual 22, 3) := by decide +kernel
theorem dX3_remember_8 : decode cX3_remember 8 = .ok (.astore_n 2, 1) := by decide +kernel
theorem dX3_remember_9 : decode cX3_remember 9 = .ok (.aload_n 2, 1) := by decide +kernel
theorem dX3_remember_10 : decode cX3_remember 10 = .ok (.ifnonnull 4, 3) := by decide +kernel
theorem dX3_remember_13 : decode cX3_remember 13 = .ok (.return_, 1) := by decide +kernel
theorem dX3_remember_14 : decode cX3_remember 14 = .ok (.aload_n 2, 1) := by decide +kernel
theorem dX3_remember_15 : decode cX3_remember 15 = .ok (.aload_n 1, 1) := by decide +kernel
theorem dX3_remember_16 : decode cX3_remember 16 = .ok (.invokevirtual 26, 3) := by decide +kernel
theorem dX3_remember_19 : decode cX3_remember 19 = .ok (.aload_n 0, 1) := by decide +kernel
theorem dX3_remember_20 : decode cX3_remember 20 = .ok (.aload_n 0, 1) := by decide +kernel
theorem dX3_remember_21 : decode cX3_remember 21 = .ok (.getfield 18, 3) := by decide +kernel
theorem dX3_remember_24 : decode cX3_remember 24 = .ok (.iconst 1, 1) := by decide +kernel
theorem dX3_remember_25 : decode cX3_remember 25 = .ok (.iadd, 1) := by decide +kernel
theorem dX3_remember_26 : decode cX3_remember 26 = .ok (.bipush 10, 2) := by decide +kernel
theorem dX3_remember_28 : decode cX3_remember 28 = .ok (.if_icmp .ge 12, 3) := by decide +kernel
theorem dX3_remember_31 : decode cX3_remember 31 = .ok (.aload_n 0, 1) := by decide +kernel
theorem dX3_remember_32 : decode cX3_remember 32 = .ok (.getfield 18, 3) := by decide +kernel
theorem dX3_remember_35 : decode cX3_remember 35 = .ok (.iconst 1, 1) := by decide +kernel
theorem dX3_remember_36 : decode cX3_remember 36 = .ok (.iadd, 1) := by decide +kernel
theorem dX3_remember_37 : decode cX3_remember 37 = .ok (.goto 4, 3) := by decide +kernel
theorem dX3_remember_40 : decode cX3_remember 40 = .ok (.iconst 0, 1) := by decide +kernel
theorem dX3_remember_41 : decode cX3_remember 41 = .ok (.putfield 18, 3) := by decide +kernel
theorem dX3_remember_44 : decode cX3_remember 44 = .ok (.aload_n 0, 1) := by decide +kernel
theorem dX3_remember_45 : decode cX3_remember 45 = .ok (.aload_n 0, 1) := by decide +kernel
theorem dX3_remember_46 : decode cX3_remember 46 = .ok (.getfield 30, 3) := by decide +kernel
theorem dX3_remember_49 : decode cX3_remember 49 = .ok (.iconst 1, 1) := by decide +kernel
theorem dX3_remember_50 : decode cX3_remember 50 = .ok (.iadd, 1) := by decide +kernel
theorem dX3_remember_51 : decode cX3_remember 51 = .ok (.bipush 10, 2) := by decide +kernel
theorem dX3_remember_53 : decode cX3_remember 53 = .ok (.invokestatic 33, 3) := by decide +kernel
theorem dX3_remember_56 : decode cX3_remember 56 = .ok (.putfield 30, 3) := by decide +kernel
theorem dX3_remember_59 : decode cX3_remember 59 = .ok (.return_, 1) := by decide +kernel
theorem dX3_giveBack_0 : decode cX3_giveBack 0 = .ok (.aload_n 0, 1) := by decide +kernel
theorem dX3_giveBack_1 : decode cX3_giveBack 1 = .ok (.getfield 18, 3) := by decide +kernel
theorem dX3_giveBack_4 : decode cX3_giveBack 4 = .ok (.ifCond .le 12, 3) := by decide +kernel
theorem dX3_giveBack_7 : decode cX3_giveBack 7 = .ok (.aload_n 0, 1) := by decide +kernel
theorem dX3_giveBack_8 : decode cX3_giveBack 8 = .ok (.getfield 18, 3) := by decide +kernel
theorem dX3_giveBack_11 : decode cX3_giveBack 11 = .ok (.iconst 1, 1) := by decide +kernel
theorem dX3_giveBack_12 : decode cX3_giveBack 12 = .ok (.isub, 1) := by decide +kernel
theorem dX3_giveBack_13 : decode cX3_giveBack 13 = .ok (.goto 5, 3) := by decide +kernel
theorem dX3_giveBack_16 : decode cX3_giveBack 16 = .ok (.bipush 9, 2) := by decide +kernel
theorem dX3_giveBack_18 : decode cX3_giveBack 18 = .ok (.istore_n 2, 1) := by decide +kernel
theorem dX3_giveBack_19 : decode cX3_giveBack 19 = .ok (.aload_n 0, 1) := by decide +kernel
theorem dX3_giveBack_20 : decode cX3_giveBack 20 = .ok (.iload_n 2, 1) := by decide +kernel
theorem dX3_giveBack_21 : decode cX3_giveBack 21 = .ok (.invokevirtual 22, 3) := by decide +kernel
theorem dX3_giveBack_24 : decode cX3_giveBack 24 = .ok (.astore_n 3, 1) := by decide +kernel
theorem dX3_giveBack_25 : decode cX3_giveBack 25 = .ok (.aload_n 0, 1) := by decide +kernel
theorem dX3_giveBack_26 : decode cX3_giveBack 26 = .ok (.getfield 30, 3) := by decide +kernel
end
section
theorem dX3_giveBack_29 : decode cX3_giveBack 29 = .ok (.ifCond .le 7, 3) := by decide +kernel
theorem dX3_giveBack_32 : decode cX3_giveBack 32 = .ok (.aload_n 3, 1) := by decide +kernel
theorem dX3_giveBack_33 : decode cX3_giveBack 33 = .ok (.ifnonnull 5, 3) := by decide +kernel
theorem dX3_giveBack_36 : decode cX3_giveBack 36 = .ok (.iconst 0, 1) := by decide +kernel
theorem dX3_giveBack_37 : decode cX3_giveBack 37 = .ok (.ireturn, 1) := by decide +kernel
theorem dX3_giveBack_38 : decode cX3_giveBack 38 = .ok (.aload_n 1, 1) := by decide +kernel
theorem dX3_giveBack_39 : decode cX3_giveBack 39 = .ok (.aload_n 3, 1) := by decide +kernel
theorem dX3_giveBack_40 : decode cX3_giveBack 40 = .ok (.invokevirtual 26, 3) := by decide +kernel
theorem dX3_giveBack_43 : decode cX3_giveBack 43 = .ok (.aload_n 0, 1) := by decide +kernel
theorem dX3_giveBack_44 : decode cX3_giveBack 44 = .ok (.iload_n 2, 1) := by decide +kernel
theorem dX3_giveBack_45 : decode cX3_giveBack 45 = .ok (.putfield 18, 3) := by decide +kernel
theorem dX3_giveBack_48 : decode cX3_giveBack 48 = .ok (.aload_n 0, 1) := by decide +kernel
theorem dX3_giveBack_49 : decode cX3_giveBack 49 = .ok (.dup, 1) := by decide +kernel
theorem dX3_giveBack_50 : decode cX3_giveBack 50 = .ok (.getfield 30, 3) := by decide +kernel
theorem dX3_giveBack_53 : decode cX3_giveBack 53 = .ok (.iconst 1, 1) := by decide +kernel
theorem dX3_giveBack_54 : decode cX3_giveBack 54 = .ok (.isub, 1) := by decide +kernel
theorem dX3_giveBack_55 : decode cX3_giveBack 55 = .ok (.putfield 30, 3) := by decide +kernel
theorem dX3_giveBack_58 : decode cX3_giveBack 58 = .ok (.iconst 1, 1) := by decide +kernel
theorem dX3_giveBack_59 : decode cX3_giveBack 59 = .ok (.ireturn, 1) := by decide +kernel
theorem dX3_forget_0 : decode cX3_forget 0 = .ok (.aload_n 0, 1) := by decide +kernel
theorem dX3_forget_1 : decode cX3_forget 1 = .ok (.iconst 0, 1) := by decide +kernel
theorem dX3_forget_2 : decode cX3_forget 2 = .ok (.putfield 30, 3) := by decide +kernel
theorem dX3_forget_5 : decode cX3_forget 5 = .ok (.return_, 1) := by decide +kernel
theorem dX3_slotAt_0 : decode cX3_slotAt 0 = .ok (.iload_n 1, 1) := by decide +kernel
theorem dX3_slotAt_1 : decode cX3_slotAt 1 = .ok (.ifCond .lt 21, 3) := by decide +kernel
theorem dX3_slotAt_4 : decode cX3_slotAt 4 = .ok (.iload_n 1, 1) := by decide +kernel
theorem dX3_slotAt_5 : decode cX3_slotAt 5 = .ok (.aload_n 0, 1) := by decide +kernel
theorem dX3_slotAt_6 : decode cX3_slotAt 6 = .ok (.getfield 11, 3) := by decide +kernel
theorem dX3_slotAt_9 : decode cX3_slotAt 9 = .ok (.arraylength, 1) := by decide +kernel
theorem dX3_slotAt_10 : decode cX3_slotAt 10 = .ok (.if_icmp .ge 12, 3) := by decide +kernel
theorem dX3_slotAt_13 : decode cX3_slotAt 13 = .ok (.aload_n 0, 1) := by decide +kernel
theorem dX3_slotAt_14 : decode cX3_slotAt 14 = .ok (.getfield 11, 3) := by decide +kernel
theorem dX3_slotAt_17 : decode cX3_slotAt 17 = .ok (.iload_n 1, 1) := by decide +kernel
theorem dX3_slotAt_18 : decode cX3_slotAt 18 = .ok (.aaload, 1) := by decide +kernel
theorem dX3_slotAt_19 : decode cX3_slotAt 19 = .ok (.goto 4, 3) := by decide +kernel
theorem dX3_slotAt_22 : decode cX3_slotAt 22 = .ok (.aconst_null, 1) := by decide +kernel
theorem dX3_slotAt_23 : decode cX3_slotAt 23 = .ok (.areturn, 1) := by decide +kernel
theorem dX4_init_0 : decode cX4_init 0 = .ok (.aload_n 0, 1) := by decide +kernel
theorem dX4_init_1 : decode cX4_init 1 = .ok (.invokespecial 3, 3) := by decide +kernel
theorem dX4_init_4 : decode cX4_init 4 = .ok (.aload_n 0, 1) := by decide +kernel
theorem dX4_init_5 : decode cX4_init 5 = .ok (.sipush 200, 3) := by decide +kernel
theorem dX4_init_8 : decode cX4_init 8 = .ok (.newarray .int, 2) := by decide +kernel
theorem dX4_init_10 : decode cX4_init 10 = .ok (.putfield 9, 3) := by decide +kernel
theorem dX4_init_13 : decode cX4_init 13 = .ok (.return_, 1) := by decide +kernel
theorem dX4_append_0 : decode cX4_append 0 = .ok (.aload_n 0, 1) := by decide +kernel
theorem dX4_append_1 : decode cX4_append 1 = .ok (.getfield 15, 3) := by decide +kernel
theorem dX4_append_4 : decode cX4_append 4 = .ok (.sipush 200, 3) := by decide +kernel
theorem dX4_append_7 : decode cX4_append 7 = .ok (.if_icmp .lt 5, 3) := by decide +kernel
theorem dX4_append_10 : decode cX4_append 10 = .ok (.iconst 0, 1) := by decide +kernel
theorem dX4_append_11 : decode cX4_append 11 = .ok (.ireturn, 1) := by decide +kernel
theorem dX4_append_12 : decode cX4_append 12 = .ok (.aload_n 0, 1) := by decide +kernel
theorem dX4_append_13 : decode cX4_append 13 = .ok (.getfield 9, 3) := by decide +kernel
theorem dX4_append_16 : decode cX4_append 16 = .ok (.aload_n 0, 1) := by decide +kernel
theorem dX4_append_17 : decode cX4_append 17 = .ok (.getfield 15, 3) := by decide +kernel
theorem dX4_append_20 : decode cX4_append 20 = .ok (.iload_n 1, 1) := by decide +kernel
theorem dX4_append_21 : decode cX4_append 21 = .ok (.invokestatic 19, 3) := by decide +kernel
theorem dX4_append_24 : decode cX4_append 24 = .ok (.aload_n 0, 1) := by decide +kernel
theorem dX4_append_25 : decode cX4_append 25 = .ok (.dup, 1) := by decide +kernel
theorem dX4_append_26 : decode cX4_append 26 = .ok (.getfield 15, 3) := by decide +kernel
theorem dX4_append_29 : decode cX4_append 29 = .ok (.iconst 1, 1) := by decide +kernel
theorem dX4_append_30 : decode cX4_append 30 = .ok (.iadd, 1) := by decide +kernel
theorem dX4_append_31 : decode cX4_append 31 = .ok (.putfield 15, 3) := by decide +kernel
theorem dX4_append_34 : decode cX4_append 34 = .ok (.iconst 1, 1) := by decide +kernel
theorem dX4_append_35 : decode cX4_append 35 = .ok (.ireturn, 1) := by decide +kernel
theorem dX4_readInto_0 : decode cX4_readInto 0 = .ok (.aload_n 1, 1) := by decide +kernel
theorem dX4_readInto_1 : decode cX4_readInto 1 = .ok (.invokevirtual 23, 3) := by decide +kernel
theorem dX4_readInto_4 : decode cX4_readInto 4 = .ok (.aload_n 0, 1) := by decide +kernel
theorem dX4_readInto_5 : decode cX4_readInto 5 = .ok (.iconst 0, 1) := by decide +kernel
theorem dX4_readInto_6 : decode cX4_readInto 6 = .ok (.putfield 28, 3) := by decide +kernel
theorem dX4_readInto_9 : decode cX4_readInto 9 = .ok (.aload_n 0, 1) := by decide +kernel
theorem dX4_readInto_10 : decode cX4_readInto 10 = .ok (.iconst 0, 1) := by decide +kernel
theorem dX4_readInto_11 : decode cX4_readInto 11 = .ok (.putfield 31, 3) := by decide +kernel
theorem dX4_readInto_14 : decode cX4_readInto 14 = .ok (.aload_n 0, 1) := by decide +kernel
theorem dX4_readInto_15 : decode cX4_readInto 15 = .ok (.iconst 0, 1) := by decide +kernel
theorem dX4_readInto_16 : decode cX4_readInto 16 = .ok (.putfield 35, 3) := by decide +kernel
theorem dX4_readInto_19 : decode cX4_readInto 19 = .ok (.iconst 0, 1) := by decide +kernel
theorem dX4_readInto_20 : decode cX4_readInto 20 = .ok (.istore_n 2, 1) := by decide +kernel
theorem dX4_readInto_21 : decode cX4_readInto 21 = .ok (.iload_n 2, 1) := by decide +kernel
theorem dX4_readInto_22 : decode cX4_readInto 22 = .ok (.sipush 200, 3) := by decide +kernel
theorem dX4_readInto_25 : decode cX4_readInto 25 = .ok (.if_icmp .ge 93, 3) := by decide +kernel
theorem dX4_readInto_28 : decode cX4_readInto 28 = .ok (.iconst 0, 1) := by decide +kernel
theorem dX4_readInto_29 : decode cX4_readInto 29 = .ok (.istore_n 3, 1) := by decide +kernel
theorem dX4_readInto_30 : decode cX4_readInto 30 = .ok (.aload_n 0, 1) := by decide +kernel
theorem dX4_readInto_31 : decode cX4_readInto 31 = .ok (.invokevirtual 38, 3) := by decide +kernel
theorem dX4_readInto_34 : decode cX4_readInto 34 = .ok (.lookupswitch 71 #[(-1, 42), (228, 53), (238, 62), (243, 44)], 42) := by decide +kernel
theorem dX4_readInto_76 : decode cX4_readInto 76 = .ok (.iload_n 2, 1) := by decide +kernel
theorem dX4_readInto_77 : decode cX4_readInto 77 = .ok (.ireturn, 1) := by decide +kernel
theorem dX4_readInto_78 : decode cX4_readInto 78 = .ok (.aload_n 0, 1) := by decide +kernel
theorem dX4_readInto_79 : decode cX4_readInto 79 = .ok (.aload_n 1, 1) := by decide +kernel
theorem dX4_readInto_80 : decode cX4_readInto 80 = .ok (.invokevirtual 42, 3) := by decide +kernel
theorem dX4_readInto_83 : decode cX4_readInto 83 = .ok (.istore_n 3, 1) := by decide +kernel
theorem dX4_readInto_84 : decode cX4_readInto 84 = .ok (.goto 21, 3) := by decide +kernel
theorem dX4_readInto_87 : decode cX4_readInto 87 = .ok (.aload_n 0, 1) := by decide +kernel
theorem dX4_readInto_88 : decode cX4_readInto 88 = .ok (.aload_n 1, 1) := by decide +kernel
theorem dX4_readInto_89 : decode cX4_readInto 89 = .ok (.invokevirtual 46, 3) := by decide +kernel
theorem dX4_readInto_92 : decode cX4_readInto 92 = .ok (.istore_n 3, 1) := by decide +kernel
theorem dX4_readInto_93 : decode cX4_readInto 93 = .ok (.goto 12, 3) := by decide +kernel
theorem dX4_readInto_96 : decode cX4_readInto 96 = .ok (.aload_n 0, 1) := by decide +kernel
theorem dX4_readInto_97 : decode cX4_readInto 97 = .ok (.aload_n 1, 1) := by decide +kernel
theorem dX4_readInto_98 : decode cX4_readInto 98 = .ok (.invokevirtual 49, 3) := by decide +kernel
theorem dX4_readInto_101 : decode cX4_readInto 101 = .ok (.istore_n 3, 1) := by decide +kernel
theorem dX4_readInto_102 : decode cX4_readInto 102 = .ok (.goto 3, 3) := by decide +kernel
theorem dX4_readInto_105 : decode cX4_readInto 105 = .ok (.iload_n 3, 1) := by decide +kernel
theorem dX4_readInto_106 : decode cX4_readInto 106 = .ok (.ifCond .ne 6, 3) := by decide +kernel
theorem dX4_readInto_109 : decode cX4_readInto 109 = .ok (.goto 9, 3) := by decide +kernel
theorem dX4_readInto_112 : decode cX4_readInto 112 = .ok (.iinc 2 1, 3) := by decide +kernel
theorem dX4_readInto_115 : decode cX4_readInto 115 = .ok (.goto (-94), 3) := by decide +kernel
theorem dX4_readInto_118 : decode cX4_readInto 118 = .ok (.bipush (-10), 2) := by decide +kernel
theorem dX4_readInto_120 : decode cX4_readInto 120 = .ok (.aload_n 0, 1) := by decide +kernel
theorem dX4_readInto_121 : decode cX4_readInto 121 = .ok (.getfield 52, 3) := by decide +kernel
theorem dX4_readInto_124 : decode cX4_readInto 124 = .ok (.isub, 1) := by decide +kernel
theorem dX4_readInto_125 : decode cX4_readInto 125 = .ok (.ireturn, 1) := by decide +kernel
theorem dX4_readSailor_0 : decode cX4_readSailor 0 = .ok (.aload_n 1, 1) := by decide +kernel
theorem dX4_readSailor_1 : decode cX4_readSailor 1 = .ok (.getfield 55, 3) := by decide +kernel
theorem dX4_readSailor_4 : decode cX4_readSailor 4 = .ok (.bipush 7, 2) := by decide +kernel
theorem dX4_readSailor_6 : decode cX4_readSailor 6 = .ok (.if_icmp .lt 5, 3) := by decide +kernel
theorem dX4_readSailor_9 : decode cX4_readSailor 9 = .ok (.iconst 0, 1) := by decide +kernel
theorem dX4_readSailor_10 : decode cX4_readSailor 10 = .ok (.ireturn, 1) := by decide +kernel
theorem dX4_readSailor_11 : decode cX4_readSailor 11 = .ok (.aload_n 0, 1) := by decide +kernel
theorem dX4_readSailor_12 : decode cX4_readSailor 12 = .ok (.iconst 0, 1) := by decide +kernel
theorem dX4_readSailor_13 : decode cX4_readSailor 13 = .ok (.iconst 2, 1) := by decide +kernel
theorem dX4_readSailor_14 : decode cX4_readSailor 14 = .ok (.invokevirtual 58, 3) := by decide +kernel
theorem dX4_readSailor_17 : decode cX4_readSailor 17 = .ok (.istore_n 2, 1) := by decide +kernel
theorem dX4_readSailor_18 : decode cX4_readSailor 18 = .ok (.iload_n 2, 1) := by decide +kernel
theorem dX4_readSailor_19 : decode cX4_readSailor 19 = .ok (.bipush (-2), 2) := by decide +kernel
theorem dX4_readSailor_21 : decode cX4_readSailor 21 = .ok (.if_icmp .ne 5, 3) := by decide +kernel
theorem dX4_readSailor_24 : decode cX4_readSailor 24 = .ok (.iconst 0, 1) := by decide +kernel
theorem dX4_readSailor_25 : decode cX4_readSailor 25 = .ok (.ireturn, 1) := by decide +kernel
theorem dX4_readSailor_26 : decode cX4_readSailor 26 = .ok (.aload_n 0, 1) := by decide +kernel
theorem dX4_readSailor_27 : decode cX4_readSailor 27 = .ok (.iconst 0, 1) := by decide +kernel
theorem dX4_readSailor_28 : decode cX4_readSailor 28 = .ok (.bipush 7, 2) := by decide +kernel
theorem dX4_readSailor_30 : decode cX4_readSailor 30 = .ok (.invokevirtual 58, 3) := by decide +kernel
theorem dX4_readSailor_33 : decode cX4_readSailor 33 = .ok (.istore_n 3, 1) := by decide +kernel
theorem dX4_readSailor_34 : decode cX4_readSailor 34 = .ok (.iload_n 3, 1) := by decide +kernel
theorem dX4_readSailor_35 : decode cX4_readSailor 35 = .ok (.bipush (-2), 2) := by decide +kernel
theorem dX4_readSailor_37 : decode cX4_readSailor 37 = .ok (.if_icmp .ne 5, 3) := by decide +kernel
theorem dX4_readSailor_40 : decode cX4_readSailor 40 = .ok (.iconst 0, 1) := by decide +kernel
theorem dX4_readSailor_41 : decode cX4_readSailor 41 = .ok (.ireturn, 1) := by decide +kernel
theorem dX4_readSailor_42 : decode cX4_readSailor 42 = .ok (.aload_n 0, 1) := by decide +kernel
theorem dX4_readSailor_43 : decode cX4_readSailor 43 = .ok (.iconst 0, 1) := by decide +kernel
theorem dX4_readSailor_44 : decode cX4_readSailor 44 = .ok (.bipush 127, 2) := by decide +kernel
theorem dX4_readSailor_46 : decode cX4_readSailor 46 = .ok (.invokevirtual 58, 3) := by decide +kernel
theorem dX4_readSailor_49 : decode cX4_readSailor 49 = .ok (.istore 4, 2) := by decide +kernel
theorem dX4_readSailor_51 : decode cX4_readSailor 51 = .ok (.iload 4, 2) := by decide +kernel
theorem dX4_readSailor_53 : decode cX4_readSailor 53 = .ok (.bipush (-2), 2) := by decide +kernel
theorem dX4_readSailor_55 : decode cX4_readSailor 55 = .ok (.if_icmp .ne 5, 3) := by decide +kernel
theorem dX4_readSailor_58 : decode cX4_readSailor 58 = .ok (.iconst 0, 1) := by decide +kernel
theorem dX4_readSailor_59 : decode cX4_readSailor 59 = .ok (.ireturn, 1) := by decide +kernel
theorem dX4_readSailor_60 : decode cX4_readSailor 60 = .ok (.aload_n 1, 1) := by decide +kernel
theorem dX4_readSailor_61 : decode cX4_readSailor 61 = .ok (.iload_n 2, 1) := by decide +kernel
theorem dX4_readSailor_62 : decode cX4_readSailor 62 = .ok (.iload_n 3, 1) := by decide +kernel
theorem dX4_readSailor_63 : decode cX4_readSailor 63 = .ok (.iload 4, 2) := by decide +kernel
theorem dX4_readSailor_65 : decode cX4_readSailor 65 = .ok (.invokevirtual 62, 3) := by decide +kernel
theorem dX4_readSailor_68 : decode cX4_readSailor 68 = .ok (.aload_n 0, 1) := by decide +kernel
theorem dX4_readSailor_69 : decode cX4_readSailor 69 = .ok (.invokevirtual 66, 3) := by decide +kernel
theorem dX4_readSailor_72 : decode cX4_readSailor 72 = .ok (.ireturn, 1) := by decide +kernel
theorem dX4_readDip_0 : decode cX4_readDip 0 = .ok (.aload_n 0, 1) := by decide +kernel
theorem dX4_readDip_1 : decode cX4_readDip 1 = .ok (.getfield 31, 3) := by decide +kernel
theorem dX4_readDip_4 : decode cX4_readDip 4 = .ok (.ifCond .eq 5, 3) := by decide +kernel
theorem dX4_readDip_7 : decode cX4_readDip 7 = .ok (.iconst 0, 1) := by decide +kernel
theorem dX4_readDip_8 : decode cX4_readDip 8 = .ok (.ireturn, 1) := by decide +kernel
theorem dX4_readDip_9 : decode cX4_readDip 9 = .ok (.aload_n 0, 1) := by decide +kernel
theorem dX4_readDip_10 : decode cX4_readDip 10 = .ok (.iconst 1, 1) := by decide +kernel
theorem dX4_readDip_11 : decode cX4_readDip 11 = .ok (.putfield 31, 3) := by decide +kernel
theorem dX4_readDip_14 : decode cX4_readDip 14 = .ok (.aload_n 1, 1) := by decide +kernel
theorem dX4_readDip_15 : decode cX4_readDip 15 = .ok (.aload_n 0, 1) := by decide +kernel
theorem dX4_readDip_16 : decode cX4_readDip 16 = .ok (.iconst 1, 1) := by decide +kernel
theorem dX4_readDip_17 : decode cX4_readDip 17 = .ok (.iconst 4, 1) := by decide +kernel
theorem dX4_readDip_18 : decode cX4_readDip 18 = .ok (.invokevirtual 58, 3) := by decide +kernel
theorem dX4_readDip_21 : decode cX4_readDip 21 = .ok (.putfield 70, 3) := by decide +kernel
theorem dX4_readDip_24 : decode cX4_readDip 24 = .ok (.aload_n 1, 1) := by decide +kernel
theorem dX4_readDip_25 : decode cX4_readDip 25 = .ok (.getfield 70, 3) := by decide +kernel
theorem dX4_readDip_28 : decode cX4_readDip 28 = .ok (.bipush (-2), 2) := by decide +kernel
theorem dX4_readDip_30 : decode cX4_readDip 30 = .ok (.if_icmp .eq 14, 3) := by decide +kernel
theorem dX4_readDip_33 : decode cX4_readDip 33 = .ok (.aload_n 0, 1) := by decide +kernel
theorem dX4_readDip_34 : decode cX4_readDip 34 = .ok (.invokevirtual 66, 3) := by decide +kernel
theorem dX4_readDip_37 : decode cX4_readDip 37 = .ok (.ifCond .eq 7, 3) := by decide +kernel
theorem dX4_readDip_40 : decode cX4_readDip 40 = .ok (.iconst 1, 1) := by decide +kernel
theorem dX4_readDip_41 : decode cX4_readDip 41 = .ok (.goto 4, 3) := by decide +kernel
theorem dX4_readDip_44 : decode cX4_readDip 44 = .ok (.iconst 0, 1) := by decide +kernel
theorem dX4_readDip_45 : decode cX4_readDip 45 = .ok (.ireturn, 1) := by decide +kernel
theorem dX4_readSeats_0 : decode cX4_readSeats 0 = .ok (.aload_n 0, 1) := by decide +kernel
theorem dX4_readSeats_1 : decode cX4_readSeats 1 = .ok (.getfield 35, 3) := by decide +kernel
theorem dX4_readSeats_4 : decode cX4_readSeats 4 = .ok (.ifCond .eq 5, 3) := by decide +kernel
theorem dX4_readSeats_7 : decode cX4_readSeats 7 = .ok (.iconst 0, 1) := by decide +kernel
theorem dX4_readSeats_8 : decode cX4_readSeats 8 = .ok (.ireturn, 1) := by decide +kernel
theorem dX4_readSeats_9 : decode cX4_readSeats 9 = .ok (.aload_n 0, 1) := by decide +kernel
theorem dX4_readSeats_10 : decode cX4_readSeats 10 = .ok (.iconst 1, 1) := by decide +kernel
theorem dX4_readSeats_11 : decode cX4_readSeats 11 = .ok (.putfield 35, 3) := by decide +kernel
theorem dX4_readSeats_14 : decode cX4_readSeats 14 = .ok (.aload_n 1, 1) := by decide +kernel
theorem dX4_readSeats_15 : decode cX4_readSeats 15 = .ok (.aload_n 0, 1) := by decide +kernel
theorem dX4_readSeats_16 : decode cX4_readSeats 16 = .ok (.iconst 1, 1) := by decide +kernel
theorem dX4_readSeats_17 : decode cX4_readSeats 17 = .ok (.bipush 8, 2) := by decide +kernel
theorem dX4_readSeats_19 : decode cX4_readSeats 19 = .ok (.invokevirtual 58, 3) := by decide +kernel
theorem dX4_readSeats_22 : decode cX4_readSeats 22 = .ok (.putfield 73, 3) := by decide +kernel
theorem dX4_readSeats_25 : decode cX4_readSeats 25 = .ok (.aload_n 1, 1) := by decide +kernel
theorem dX4_readSeats_26 : decode cX4_readSeats 26 = .ok (.getfield 73, 3) := by decide +kernel
theorem dX4_readSeats_29 : decode cX4_readSeats 29 = .ok (.bipush (-2), 2) := by decide +kernel
theorem dX4_readSeats_31 : decode cX4_readSeats 31 = .ok (.if_icmp .eq 14, 3) := by decide +kernel
theorem dX4_readSeats_34 : decode cX4_readSeats 34 = .ok (.aload_n 0, 1) := by decide +kernel
theorem dX4_readSeats_35 : decode cX4_readSeats 35 = .ok (.invokevirtual 66, 3) := by decide +kernel
theorem dX4_readSeats_38 : decode cX4_readSeats 38 = .ok (.ifCond .eq 7, 3) := by decide +kernel
theorem dX4_readSeats_41 : decode cX4_readSeats 41 = .ok (.iconst 1, 1) := by decide +kernel
theorem dX4_readSeats_42 : decode cX4_readSeats 42 = .ok (.goto 4, 3) := by decide +kernel
theorem dX4_readSeats_45 : decode cX4_readSeats 45 = .ok (.iconst 0, 1) := by decide +kernel
theorem dX4_readSeats_46 : decode cX4_readSeats 46 = .ok (.ireturn, 1) := by decide +kernel
theorem dX4_itemEnds_0 : decode cX4_itemEnds 0 = .ok (.aload_n 0, 1) := by decide +kernel
theorem dX4_itemEnds_1 : decode cX4_itemEnds 1 = .ok (.invokevirtual 38, 3) := by decide +kernel
theorem dX4_itemEnds_4 : decode cX4_itemEnds 4 = .ok (.sipush 187, 3) := by decide +kernel
theorem dX4_itemEnds_7 : decode cX4_itemEnds 7 = .ok (.if_icmp .ne 7, 3) := by decide +kernel
theorem dX4_itemEnds_10 : decode cX4_itemEnds 10 = .ok (.iconst 1, 1) := by decide +kernel
theorem dX4_itemEnds_11 : decode cX4_itemEnds 11 = .ok (.goto 4, 3) := by decide +kernel
theorem dX4_itemEnds_14 : decode cX4_itemEnds 14 = .ok (.iconst 0, 1) := by decide +kernel
theorem dX4_itemEnds_15 : decode cX4_itemEnds 15 = .ok (.ireturn, 1) := by decide +kernel
theorem dX4_numberFrom_0 : decode cX4_numberFrom 0 = .ok (.aload_n 0, 1) := by decide +kernel
theorem dX4_numberFrom_1 : decode cX4_numberFrom 1 = .ok (.invokevirtual 38, 3) := by decide +kernel
theorem dX4_numberFrom_4 : decode cX4_numberFrom 4 = .ok (.istore_n 3, 1) := by decide +kernel
theorem dX4_numberFrom_5 : decode cX4_numberFrom 5 = .ok (.iload_n 3, 1) := by decide +kernel
theorem dX4_numberFrom_6 : decode cX4_numberFrom 6 = .ok (.iload_n 1, 1) := by decide +kernel
theorem dX4_numberFrom_7 : decode cX4_numberFrom 7 = .ok (.if_icmp .lt 12, 3) := by decide +kernel
theorem dX4_numberFrom_10 : decode cX4_numberFrom 10 = .ok (.iload_n 3, 1) := by decide +kernel
theorem dX4_numberFrom_11 : decode cX4_numberFrom 11 = .ok (.iload_n 2, 1) := by decide +kernel
theorem dX4_numberFrom_12 : decode cX4_numberFrom 12 = .ok (.if_icmp .gt 7, 3) := by decide +kernel
theorem dX4_numberFrom_15 : decode cX4_numberFrom 15 = .ok (.iload_n 3, 1) := by decide +kernel
theorem dX4_numberFrom_16 : decode cX4_numberFrom 16 = .ok (.goto 5, 3) := by decide +kernel
theorem dX4_numberFrom_19 : decode cX4_numberFrom 19 = .ok (.bipush (-2), 2) := by decide +kernel
theorem dX4_numberFrom_21 : decode cX4_numberFrom 21 = .ok (.ireturn, 1) := by decide +kernel
theorem dX4_next_0 : decode cX4_next 0 = .ok (.aload_n 0, 1) := by decide +kernel
theorem dX4_next_1 : decode cX4_next 1 = .ok (.getfield 28, 3) := by decide +kernel
theorem dX4_next_4 : decode cX4_next 4 = .ok (.aload_n 0, 1) := by decide +kernel
theorem dX4_next_5 : decode cX4_next 5 = .ok (.getfield 15, 3) := by decide +kernel
theorem dX4_next_8 : decode cX4_next 8 = .ok (.if_icmp .ge 32, 3) := by decide +kernel
theorem dX4_next_11 : decode cX4_next 11 = .ok (.aload_n 0, 1) := by decide +kernel
theorem dX4_next_12 : decode cX4_next 12 = .ok (.getfield 9, 3) := by decide +kernel
theorem dX4_next_15 : decode cX4_next 15 = .ok (.aload_n 0, 1) := by decide +kernel
theorem dX4_next_16 : decode cX4_next 16 = .ok (.getfield 28, 3) := by decide +kernel
theorem dX4_next_19 : decode cX4_next 19 = .ok (.invokestatic 76, 3) := by decide +kernel
theorem dX4_next_22 : decode cX4_next 22 = .ok (.bipush 32, 2) := by decide +kernel
theorem dX4_next_24 : decode cX4_next 24 = .ok (.if_icmp .ne 16, 3) := by decide +kernel
theorem dX4_next_27 : decode cX4_next 27 = .ok (.aload_n 0, 1) := by decide +kernel
theorem dX4_next_28 : decode cX4_next 28 = .ok (.dup, 1) := by decide +kernel
theorem dX4_next_29 : decode cX4_next 29 = .ok (.getfield 28, 3) := by decide +kernel
theorem dX4_next_32 : decode cX4_next 32 = .ok (.iconst 1, 1) := by decide +kernel
theorem dX4_next_33 : decode cX4_next 33 = .ok (.iadd, 1) := by decide +kernel
theorem dX4_next_34 : decode cX4_next 34 = .ok (.putfield 28, 3) := by decide +kernel
theorem dX4_next_37 : decode cX4_next 37 = .ok (.goto (-37), 3) := by decide +kernel
theorem dX4_next_40 : decode cX4_next 40 = .ok (.aload_n 0, 1) := by decide +kernel
theorem dX4_next_41 : decode cX4_next 41 = .ok (.aload_n 0, 1) := by decide +kernel
theorem dX4_next_42 : decode cX4_next 42 = .ok (.getfield 28, 3) := by decide +kernel
theorem dX4_next_45 : decode cX4_next 45 = .ok (.putfield 52, 3) := by decide +kernel
theorem dX4_next_48 : decode cX4_next 48 = .ok (.aload_n 0, 1) := by decide +kernel
theorem dX4_next_49 : decode cX4_next 49 = .ok (.getfield 28, 3) := by decide +kernel
theorem dX4_next_52 : decode cX4_next 52 = .ok (.aload_n 0, 1) := by decide +kernel
theorem dX4_next_53 : decode cX4_next 53 = .ok (.getfield 15, 3) := by decide +kernel
theorem dX4_next_56 : decode cX4_next 56 = .ok (.if_icmp .lt 5, 3) := by decide +kernel
theorem dX4_next_59 : decode cX4_next 59 = .ok (.iconst (-1), 1) := by decide +kernel
theorem dX4_next_60 : decode cX4_next 60 = .ok (.ireturn, 1) := by decide +kernel
theorem dX4_next_61 : decode cX4_next 61 = .ok (.aload_n 0, 1) := by decide +kernel
theorem dX4_next_62 : decode cX4_next 62 = .ok (.getfield 9, 3) := by decide +kernel
theorem dX4_next_65 : decode cX4_next 65 = .ok (.aload_n 0, 1) := by decide +kernel
theorem dX4_next_66 : decode cX4_next 66 = .ok (.getfield 28, 3) := by decide +kernel
theorem dX4_next_69 : decode cX4_next 69 = .ok (.invokestatic 76, 3) := by decide +kernel
theorem dX4_next_72 : decode cX4_next 72 = .ok (.istore_n 1, 1) := by decide +kernel
theorem dX4_next_73 : decode cX4_next 73 = .ok (.iload_n 1, 1) := by decide +kernel
theorem dX4_next_74 : decode cX4_next 74 = .ok (.invokestatic 80, 3) := by decide +kernel
theorem dX4_next_77 : decode cX4_next 77 = .ok (.ifCond .eq 8, 3) := by decide +kernel
theorem dX4_next_80 : decode cX4_next 80 = .ok (.aload_n 0, 1) := by decide +kernel
theorem dX4_next_81 : decode cX4_next 81 = .ok (.invokevirtual 84, 3) := by decide +kernel
theorem dX4_next_84 : decode cX4_next 84 = .ok (.ireturn, 1) := by decide +kernel
theorem dX4_next_85 : decode cX4_next 85 = .ok (.aload_n 0, 1) := by decide +kernel
theorem dX4_next_86 : decode cX4_next 86 = .ok (.dup, 1) := by decide +kernel
theorem dX4_next_87 : decode cX4_next 87 = .ok (.getfield 28, 3) := by decide +kernel
theorem dX4_next_90 : decode cX4_next 90 = .ok (.iconst 1, 1) := by decide +kernel
theorem dX4_next_91 : decode cX4_next 91 = .ok (.iadd, 1) := by decide +kernel
theorem dX4_next_92 : decode cX4_next 92 = .ok (.putfield 28, 3) := by decide +kernel
theorem dX4_next_95 : decode cX4_next 95 = .ok (.iload_n 1, 1) := by decide +kernel
theorem dX4_next_96 : decode cX4_next 96 = .ok (.bipush 115, 2) := by decide +kernel
theorem dX4_next_98 : decode cX4_next 98 = .ok (.if_icmp .eq 21, 3) := by decide +kernel
theorem dX4_next_101 : decode cX4_next 101 = .ok (.iload_n 1, 1) := by decide +kernel
theorem dX4_next_102 : decode cX4_next 102 = .ok (.bipush 100, 2) := by decide +kernel
theorem dX4_next_104 : decode cX4_next 104 = .ok (.if_icmp .eq 15, 3) := by decide +kernel
theorem dX4_next_107 : decode cX4_next 107 = .ok (.iload_n 1, 1) := by decide +kernel
theorem dX4_next_108 : decode cX4_next 108 = .ok (.bipush 110, 2) := by decide +kernel
theorem dX4_next_110 : decode cX4_next 110 = .ok (.if_icmp .eq 9, 3) := by decide +kernel
theorem dX4_next_113 : decode cX4_next 113 = .ok (.iload_n 1, 1) := by decide +kernel
theorem dX4_next_114 : decode cX4_next 114 = .ok (.bipush 59, 2) := by decide +kernel
theorem dX4_next_116 : decode cX4_next 116 = .ok (.if_icmp .ne 7, 3) := by decide +kernel
theorem dX4_next_119 : decode cX4_next 119 = .ok (.iconst 1, 1) := by decide +kernel
theorem dX4_next_120 : decode cX4_next 120 = .ok (.goto 4, 3) := by decide +kernel
theorem dX4_next_123 : decode cX4_next 123 = .ok (.iconst 0, 1) := by decide +kernel
theorem dX4_next_124 : decode cX4_next 124 = .ok (.istore_n 2, 1) := by decide +kernel
theorem dX4_next_125 : decode cX4_next 125 = .ok (.iload_n 2, 1) := by decide +kernel
theorem dX4_next_126 : decode cX4_next 126 = .ok (.ifCond .eq 11, 3) := by decide +kernel
theorem dX4_next_129 : decode cX4_next 129 = .ok (.sipush 128, 3) := by decide +kernel
theorem dX4_next_132 : decode cX4_next 132 = .ok (.iload_n 1, 1) := by decide +kernel
theorem dX4_next_133 : decode cX4_next 133 = .ok (.iadd, 1) := by decide +kernel
theorem dX4_next_134 : decode cX4_next 134 = .ok (.goto 5, 3) := by decide +kernel
theorem dX4_next_137 : decode cX4_next 137 = .ok (.bipush (-2), 2) := by decide +kernel
theorem dX4_next_139 : decode cX4_next 139 = .ok (.ireturn, 1) := by decide +kernel
theorem dX4_nextNumber_0 : decode cX4_nextNumber 0 = .ok (.aload_n 0, 1) := by decide +kernel
theorem dX4_nextNumber_1 : decode cX4_nextNumber 1 = .ok (.getfield 9, 3) := by decide +kernel
theorem dX4_nextNumber_4 : decode cX4_nextNumber 4 = .ok (.aload_n 0, 1) := by decide +kernel
theorem dX4_nextNumber_5 : decode cX4_nextNumber 5 = .ok (.getfield 28, 3) := by decide +kernel
theorem dX4_nextNumber_8 : decode cX4_nextNumber 8 = .ok (.invokestatic 76, 3) := by decide +kernel
theorem dX4_nextNumber_11 : decode cX4_nextNumber 11 = .ok (.bipush 48, 2) := by decide +kernel
theorem dX4_nextNumber_13 : decode cX4_nextNumber 13 = .ok (.if_icmp .ne 7, 3) := by decide +kernel
theorem dX4_nextNumber_16 : decode cX4_nextNumber 16 = .ok (.iconst 1, 1) := by decide +kernel
theorem dX4_nextNumber_17 : decode cX4_nextNumber 17 = .ok (.goto 4, 3) := by decide +kernel
theorem dX4_nextNumber_20 : decode cX4_nextNumber 20 = .ok (.iconst 0, 1) := by decide +kernel
theorem dX4_nextNumber_21 : decode cX4_nextNumber 21 = .ok (.istore_n 1, 1) := by decide +kernel
theorem dX4_nextNumber_22 : decode cX4_nextNumber 22 = .ok (.iconst 0, 1) := by decide +kernel
theorem dX4_nextNumber_23 : decode cX4_nextNumber 23 = .ok (.istore_n 2, 1) := by decide +kernel
theorem dX4_nextNumber_24 : decode cX4_nextNumber 24 = .ok (.aload_n 0, 1) := by decide +kernel
theorem dX4_nextNumber_25 : decode cX4_nextNumber 25 = .ok (.getfield 28, 3) := by decide +kernel
theorem dX4_nextNumber_28 : decode cX4_nextNumber 28 = .ok (.aload_n 0, 1) := by decide +kernel
theorem dX4_nextNumber_29 : decode cX4_nextNumber 29 = .ok (.getfield 15, 3) := by decide +kernel
theorem dX4_nextNumber_32 : decode cX4_nextNumber 32 = .ok (.if_icmp .ge 59, 3) := by decide +kernel
theorem dX4_nextNumber_35 : decode cX4_nextNumber 35 = .ok (.aload_n 0, 1) := by decide +kernel
theorem dX4_nextNumber_36 : decode cX4_nextNumber 36 = .ok (.getfield 9, 3) := by decide +kernel
theorem dX4_nextNumber_39 : decode cX4_nextNumber 39 = .ok (.aload_n 0, 1) := by decide +kernel
theorem dX4_nextNumber_40 : decode cX4_nextNumber 40 = .ok (.getfield 28, 3) := by decide +kernel
theorem dX4_nextNumber_43 : decode cX4_nextNumber 43 = .ok (.invokestatic 76, 3) := by decide +kernel
theorem dX4_nextNumber_46 : decode cX4_nextNumber 46 = .ok (.invokestatic 80, 3) := by decide +kernel
theorem dX4_nextNumber_49 : decode cX4_nextNumber 49 = .ok (.ifCond .eq 42, 3) := by decide +kernel
theorem dX4_nextNumber_52 : decode cX4_nextNumber 52 = .ok (.iload_n 2, 1) := by decide +kernel
theorem dX4_nextNumber_53 : decode cX4_nextNumber 53 = .ok (.bipush 10, 2) := by decide +kernel
theorem dX4_nextNumber_55 : decode cX4_nextNumber 55 = .ok (.imul, 1) := by decide +kernel
theorem dX4_nextNumber_56 : decode cX4_nextNumber 56 = .ok (.aload_n 0, 1) := by decide +kernel
theorem dX4_nextNumber_57 : decode cX4_nextNumber 57 = .ok (.getfield 9, 3) := by decide +kernel
theorem dX4_nextNumber_60 : decode cX4_nextNumber 60 = .ok (.aload_n 0, 1) := by decide +kernel
theorem dX4_nextNumber_61 : decode cX4_nextNumber 61 = .ok (.getfield 28, 3) := by decide +kernel
theorem dX4_nextNumber_64 : decode cX4_nextNumber 64 = .ok (.invokestatic 76, 3) := by decide +kernel
theorem dX4_nextNumber_67 : decode cX4_nextNumber 67 = .ok (.iadd, 1) := by decide +kernel
theorem dX4_nextNumber_68 : decode cX4_nextNumber 68 = .ok (.bipush 48, 2) := by decide +kernel
theorem dX4_nextNumber_70 : decode cX4_nextNumber 70 = .ok (.isub, 1) := by decide +kernel
theorem dX4_nextNumber_71 : decode cX4_nextNumber 71 = .ok (.sipush 128, 3) := by decide +kernel
theorem dX4_nextNumber_74 : decode cX4_nextNumber 74 = .ok (.invokestatic 87, 3) := by decide +kernel
theorem dX4_nextNumber_77 : decode cX4_nextNumber 77 = .ok (.istore_n 2, 1) := by decide +kernel
theorem dX4_nextNumber_78 : decode cX4_nextNumber 78 = .ok (.aload_n 0, 1) := by decide +kernel
theorem dX4_nextNumber_79 : decode cX4_nextNumber 79 = .ok (.dup, 1) := by decide +kernel
theorem dX4_nextNumber_80 : decode cX4_nextNumber 80 = .ok (.getfield 28, 3) := by decide +kernel
theorem dX4_nextNumber_83 : decode cX4_nextNumber 83 = .ok (.iconst 1, 1) := by decide +kernel
theorem dX4_nextNumber_84 : decode cX4_nextNumber 84 = .ok (.iadd, 1) := by decide +kernel
theorem dX4_nextNumber_85 : decode cX4_nextNumber 85 = .ok (.putfield 28, 3) := by decide +kernel
theorem dX4_nextNumber_88 : decode cX4_nextNumber 88 = .ok (.goto (-64), 3) := by decide +kernel
theorem dX4_nextNumber_91 : decode cX4_nextNumber 91 = .ok (.iload_n 2, 1) := by decide +kernel
theorem dX4_nextNumber_92 : decode cX4_nextNumber 92 = .ok (.bipush 127, 2) := by decide +kernel
theorem dX4_nextNumber_94 : decode cX4_nextNumber 94 = .ok (.if_icmp .gt 24, 3) := by decide +kernel
theorem dX4_nextNumber_97 : decode cX4_nextNumber 97 = .ok (.iload_n 1, 1) := by decide +kernel
theorem dX4_nextNumber_98 : decode cX4_nextNumber 98 = .ok (.ifCond .eq 16, 3) := by decide +kernel
theorem dX4_nextNumber_101 : decode cX4_nextNumber 101 = .ok (.aload_n 0, 1) := by decide +kernel
theorem dX4_nextNumber_102 : decode cX4_nextNumber 102 = .ok (.getfield 28, 3) := by decide +kernel
theorem dX4_nextNumber_105 : decode cX4_nextNumber 105 = .ok (.aload_n 0, 1) := by decide +kernel
theorem dX4_nextNumber_106 : decode cX4_nextNumber 106 = .ok (.getfield 52, 3) := by decide +kernel
theorem dX4_nextNumber_109 : decode cX4_nextNumber 109 = .ok (.isub, 1) := by decide +kernel
theorem dX4_nextNumber_110 : decode cX4_nextNumber 110 = .ok (.iconst 1, 1) := by decide +kernel
theorem dX4_nextNumber_111 : decode cX4_nextNumber 111 = .ok (.if_icmp .gt 7, 3) := by decide +kernel
theorem dX4_nextNumber_114 : decode cX4_nextNumber 114 = .ok (.iconst 1, 1) := by decide +kernel
theorem dX4_nextNumber_115 : decode cX4_nextNumber 115 = .ok (.goto 4, 3) := by decide +kernel
theorem dX4_nextNumber_118 : decode cX4_nextNumber 118 = .ok (.iconst 0, 1) := by decide +kernel
theorem dX4_nextNumber_119 : decode cX4_nextNumber 119 = .ok (.istore_n 3, 1) := by decide +kernel
theorem dX4_nextNumber_120 : decode cX4_nextNumber 120 = .ok (.iload_n 3, 1) := by decide +kernel
theorem dX4_nextNumber_121 : decode cX4_nextNumber 121 = .ok (.ifCond .eq 7, 3) := by decide +kernel
theorem dX4_nextNumber_124 : decode cX4_nextNumber 124 = .ok (.iload_n 2, 1) := by decide +kernel
theorem dX4_nextNumber_125 : decode cX4_nextNumber 125 = .ok (.goto 5, 3) := by decide +kernel
theorem dX4_nextNumber_128 : decode cX4_nextNumber 128 = .ok (.bipush (-2), 2) := by decide +kernel
theorem dX4_nextNumber_130 : decode cX4_nextNumber 130 = .ok (.ireturn, 1) := by decide +kernel
theorem dX4_isDigit_0 : decode cX4_isDigit 0 = .ok (.iload_n 0, 1) := by decide +kernel
theorem dX4_isDigit_1 : decode cX4_isDigit 1 = .ok (.bipush 48, 2) := by decide +kernel
theorem dX4_isDigit_3 : decode cX4_isDigit 3 = .ok (.if_icmp .lt 13, 3) := by decide +kernel
theorem dX4_isDigit_6 : decode cX4_isDigit 6 = .ok (.iload_n 0, 1) := by decide +kernel
theorem dX4_isDigit_7 : decode cX4_isDigit 7 = .ok (.bipush 57, 2) := by decide +kernel
theorem dX4_isDigit_9 : decode cX4_isDigit 9 = .ok (.if_icmp .gt 7, 3) := by decide +kernel
theorem dX4_isDigit_12 : decode cX4_isDigit 12 = .ok (.iconst 1, 1) := by decide +kernel
theorem dX4_isDigit_13 : decode cX4_isDigit 13 = .ok (.goto 4, 3) := by decide +kernel
theorem dX4_isDigit_16 : decode cX4_isDigit 16 = .ok (.iconst 0, 1) := by decide +kernel
theorem dX4_isDigit_17 : decode cX4_isDigit 17 = .ok (.ireturn, 1) := by decide +kernel
theorem dX5_init_0 : decode cX5_init 0 = .ok (.aload_n 0, 1) := by decide +kernel
theorem dX5_init_1 : decode cX5_init 1 = .ok (.invokespecial 1, 3) := by decide +kernel
theorem dX5_init_4 : decode cX5_init 4 = .ok (.aload_n 0, 1) := by decide +kernel
theorem dX5_init_5 : decode cX5_init 5 = .ok (.new 7, 3) := by decide +kernel
theorem dX5_init_8 : decode cX5_init 8 = .ok (.dup, 1) := by decide +kernel
theorem dX5_init_9 : decode cX5_init 9 = .ok (.invokespecial 9, 3) := by decide +kernel
theorem dX5_init_12 : decode cX5_init 12 = .ok (.putfield 10, 3) := by decide +kernel
theorem dX5_init_15 : decode cX5_init 15 = .ok (.aload_n 0, 1) := by decide +kernel
theorem dX5_init_16 : decode cX5_init 16 = .ok (.new 16, 3) := by decide +kernel
theorem dX5_init_19 : decode cX5_init 19 = .ok (.dup, 1) := by decide +kernel
theorem dX5_init_20 : decode cX5_init 20 = .ok (.invokespecial 18, 3) := by decide +kernel
theorem dX5_init_23 : decode cX5_init 23 = .ok (.putfield 19, 3) := by decide +kernel
theorem dX5_init_26 : decode cX5_init 26 = .ok (.aload_n 0, 1) := by decide +kernel
theorem dX5_init_27 : decode cX5_init 27 = .ok (.new 16, 3) := by decide +kernel
theorem dX5_init_30 : decode cX5_init 30 = .ok (.dup, 1) := by decide +kernel
theorem dX5_init_31 : decode cX5_init 31 = .ok (.invokespecial 18, 3) := by decide +kernel
theorem dX5_init_34 : decode cX5_init 34 = .ok (.putfield 23, 3) := by decide +kernel
theorem dX5_init_37 : decode cX5_init 37 = .ok (.aload_n 0, 1) := by decide +kernel
theorem dX5_init_38 : decode cX5_init 38 = .ok (.new 26, 3) := by decide +kernel
theorem dX5_init_41 : decode cX5_init 41 = .ok (.dup, 1) := by decide +kernel
theorem dX5_init_42 : decode cX5_init 42 = .ok (.invokespecial 28, 3) := by decide +kernel
theorem dX5_init_45 : decode cX5_init 45 = .ok (.putfield 29, 3) := by decide +kernel
theorem dX5_init_48 : decode cX5_init 48 = .ok (.aload_n 0, 1) := by decide +kernel
theorem dX5_init_49 : decode cX5_init 49 = .ok (.new 33, 3) := by decide +kernel
theorem dX5_init_52 : decode cX5_init 52 = .ok (.dup, 1) := by decide +kernel
theorem dX5_init_53 : decode cX5_init 53 = .ok (.invokespecial 35, 3) := by decide +kernel
theorem dX5_init_56 : decode cX5_init 56 = .ok (.putfield 36, 3) := by decide +kernel
theorem dX5_init_59 : decode cX5_init 59 = .ok (.aload_n 0, 1) := by decide +kernel
theorem dX5_init_60 : decode cX5_init 60 = .ok (.new 26, 3) := by decide +kernel
theorem dX5_init_63 : decode cX5_init 63 = .ok (.dup, 1) := by decide +kernel
theorem dX5_init_64 : decode cX5_init 64 = .ok (.invokespecial 28, 3) := by decide +kernel
theorem dX5_init_67 : decode cX5_init 67 = .ok (.putfield 40, 3) := by decide +kernel
theorem dX5_init_70 : decode cX5_init 70 = .ok (.aload_n 0, 1) := by decide +kernel
theorem dX5_init_71 : decode cX5_init 71 = .ok (.new 26, 3) := by decide +kernel
theorem dX5_init_74 : decode cX5_init 74 = .ok (.dup, 1) := by decide +kernel
theorem dX5_init_75 : decode cX5_init 75 = .ok (.invokespecial 28, 3) := by decide +kernel
theorem dX5_init_78 : decode cX5_init 78 = .ok (.putfield 43, 3) := by decide +kernel
theorem dX5_init_81 : decode cX5_init 81 = .ok (.aload_n 0, 1) := by decide +kernel
theorem dX5_init_82 : decode cX5_init 82 = .ok (.new 46, 3) := by decide +kernel
theorem dX5_init_85 : decode cX5_init 85 = .ok (.dup, 1) := by decide +kernel
theorem dX5_init_86 : decode cX5_init 86 = .ok (.invokespecial 48, 3) := by decide +kernel
theorem dX5_init_89 : decode cX5_init 89 = .ok (.putfield 49, 3) := by decide +kernel
theorem dX5_init_92 : decode cX5_init 92 = .ok (.return_, 1) := by decide +kernel
theorem dX5_type_0 : decode cX5_type 0 = .ok (.iload_n 1, 1) := by decide +kernel
theorem dX5_type_1 : decode cX5_type 1 = .ok (.ifCond .lt 10, 3) := by decide +kernel
theorem dX5_type_4 : decode cX5_type 4 = .ok (.iload_n 1, 1) := by decide +kernel
theorem dX5_type_5 : decode cX5_type 5 = .ok (.sipush 255, 3) := by decide +kernel
theorem dX5_type_8 : decode cX5_type 8 = .ok (.if_icmp .le 5, 3) := by decide +kernel
theorem dX5_type_11 : decode cX5_type 11 = .ok (.iconst (-1), 1) := by decide +kernel
theorem dX5_type_12 : decode cX5_type 12 = .ok (.ireturn, 1) := by decide +kernel
theorem dX5_type_13 : decode cX5_type 13 = .ok (.aload_n 0, 1) := by decide +kernel
theorem dX5_type_14 : decode cX5_type 14 = .ok (.getfield 10, 3) := by decide +kernel
theorem dX5_type_17 : decode cX5_type 17 = .ok (.iload_n 1, 1) := by decide +kernel
theorem dX5_type_18 : decode cX5_type 18 = .ok (.invokevirtual 53, 3) := by decide +kernel
theorem dX5_type_21 : decode cX5_type 21 = .ok (.ifCond .eq 13, 3) := by decide +kernel
theorem dX5_type_24 : decode cX5_type 24 = .ok (.aload_n 0, 1) := by decide +kernel
theorem dX5_type_25 : decode cX5_type 25 = .ok (.getfield 10, 3) := by decide +kernel
theorem dX5_type_28 : decode cX5_type 28 = .ok (.getfield 57, 3) := by decide +kernel
theorem dX5_type_31 : decode cX5_type 31 = .ok (.goto 5, 3) := by decide +kernel
theorem dX5_type_34 : decode cX5_type 34 = .ok (.bipush (-3), 2) := by decide +kernel
theorem dX5_type_36 : decode cX5_type 36 = .ok (.ireturn, 1) := by decide +kernel
theorem dX5_clear_0 : decode cX5_clear 0 = .ok (.aload_n 0, 1) := by decide +kernel
theorem dX5_clear_1 : decode cX5_clear 1 = .ok (.getfield 10, 3) := by decide +kernel
theorem dX5_clear_4 : decode cX5_clear 4 = .ok (.getfield 57, 3) := by decide +kernel
theorem dX5_clear_7 : decode cX5_clear 7 = .ok (.istore_n 1, 1) := by decide +kernel
theorem dX5_clear_8 : decode cX5_clear 8 = .ok (.aload_n 0, 1) := by decide +kernel
theorem dX5_clear_9 : decode cX5_clear 9 = .ok (.getfield 10, 3) := by decide +kernel
theorem dX5_clear_12 : decode cX5_clear 12 = .ok (.iconst 0, 1) := by decide +kernel
theorem dX5_clear_13 : decode cX5_clear 13 = .ok (.putfield 57, 3) := by decide +kernel
theorem dX5_clear_16 : decode cX5_clear 16 = .ok (.iload_n 1, 1) := by decide +kernel
theorem dX5_clear_17 : decode cX5_clear 17 = .ok (.ireturn, 1) := by decide +kernel
theorem dX5_crew_0 : decode cX5_crew 0 = .ok (.aload_n 0, 1) := by decide +kernel
theorem dX5_crew_1 : decode cX5_crew 1 = .ok (.getfield 10, 3) := by decide +kernel
theorem dX5_crew_4 : decode cX5_crew 4 = .ok (.aload_n 0, 1) := by decide +kernel
theorem dX5_crew_5 : decode cX5_crew 5 = .ok (.getfield 23, 3) := by decide +kernel
theorem dX5_crew_8 : decode cX5_crew 8 = .ok (.invokevirtual 61, 3) := by decide +kernel
theorem dX5_crew_11 : decode cX5_crew 11 = .ok (.istore_n 1, 1) := by decide +kernel
theorem dX5_crew_12 : decode cX5_crew 12 = .ok (.iload_n 1, 1) := by decide +kernel
theorem dX5_crew_13 : decode cX5_crew 13 = .ok (.ifCond .ge 5, 3) := by decide +kernel
theorem dX5_crew_16 : decode cX5_crew 16 = .ok (.iload_n 1, 1) := by decide +kernel
theorem dX5_crew_17 : decode cX5_crew 17 = .ok (.ireturn, 1) := by decide +kernel
theorem dX5_crew_18 : decode cX5_crew 18 = .ok (.aload_n 0, 1) := by decide +kernel
theorem dX5_crew_19 : decode cX5_crew 19 = .ok (.getfield 19, 3) := by decide +kernel
theorem dX5_crew_22 : decode cX5_crew 22 = .ok (.aload_n 0, 1) := by decide +kernel
theorem dX5_crew_23 : decode cX5_crew 23 = .ok (.getfield 23, 3) := by decide +kernel
theorem dX5_crew_26 : decode cX5_crew 26 = .ok (.invokevirtual 65, 3) := by decide +kernel
theorem dX5_crew_29 : decode cX5_crew 29 = .ok (.aload_n 0, 1) := by decide +kernel
theorem dX5_crew_30 : decode cX5_crew 30 = .ok (.getfield 10, 3) := by decide +kernel
theorem dX5_crew_33 : decode cX5_crew 33 = .ok (.iconst 0, 1) := by decide +kernel
theorem dX5_crew_34 : decode cX5_crew 34 = .ok (.putfield 57, 3) := by decide +kernel
theorem dX5_crew_37 : decode cX5_crew 37 = .ok (.aload_n 0, 1) := by decide +kernel
theorem dX5_crew_38 : decode cX5_crew 38 = .ok (.getfield 29, 3) := by decide +kernel
theorem dX5_crew_41 : decode cX5_crew 41 = .ok (.invokevirtual 69, 3) := by decide +kernel
theorem dX5_crew_44 : decode cX5_crew 44 = .ok (.aload_n 0, 1) := by decide +kernel
theorem dX5_crew_45 : decode cX5_crew 45 = .ok (.getfield 36, 3) := by decide +kernel
theorem dX5_crew_48 : decode cX5_crew 48 = .ok (.invokevirtual 72, 3) := by decide +kernel
theorem dX5_crew_51 : decode cX5_crew 51 = .ok (.aload_n 0, 1) := by decide +kernel
theorem dX5_crew_52 : decode cX5_crew 52 = .ok (.iconst 0, 1) := by decide +kernel
theorem dX5_crew_53 : decode cX5_crew 53 = .ok (.putfield 75, 3) := by decide +kernel
theorem dX5_crew_56 : decode cX5_crew 56 = .ok (.iload_n 1, 1) := by decide +kernel
theorem dX5_crew_57 : decode cX5_crew 57 = .ok (.ireturn, 1) := by decide +kernel
theorem dX5_sailor_0 : decode cX5_sailor 0 = .ok (.aload_n 0, 1) := by decide +kernel
theorem dX5_sailor_1 : decode cX5_sailor 1 = .ok (.iload_n 1, 1) := by decide +kernel
theorem dX5_sailor_2 : decode cX5_sailor 2 = .ok (.invokevirtual 78, 3) := by decide +kernel
theorem dX5_sailor_5 : decode cX5_sailor 5 = .ok (.ifCond .ne 5, 3) := by decide +kernel
theorem dX5_sailor_8 : decode cX5_sailor 8 = .ok (.iconst (-1), 1) := by decide +kernel
theorem dX5_sailor_9 : decode cX5_sailor 9 = .ok (.ireturn, 1) := by decide +kernel
theorem dX5_sailor_10 : decode cX5_sailor 10 = .ok (.iload_n 2, 1) := by decide +kernel
theorem dX5_sailor_11 : decode cX5_sailor 11 = .ok (.tableswitch 113 0 5 #[37, 49, 61, 70, 90, 99], 37) := by decide +kernel
theorem dX5_sailor_48 : decode cX5_sailor 48 = .ok (.aload_n 0, 1) := by decide +kernel
theorem dX5_sailor_49 : decode cX5_sailor 49 = .ok (.getfield 19, 3) := by decide +kernel
theorem dX5_sailor_52 : decode cX5_sailor 52 = .ok (.getfield 81, 3) := by decide +kernel
theorem dX5_sailor_55 : decode cX5_sailor 55 = .ok (.iload_n 1, 1) := by decide +kernel
theorem dX5_sailor_56 : decode cX5_sailor 56 = .ok (.invokestatic 85, 3) := by decide +kernel
theorem dX5_sailor_59 : decode cX5_sailor 59 = .ok (.ireturn, 1) := by decide +kernel
theorem dX5_sailor_60 : decode cX5_sailor 60 = .ok (.aload_n 0, 1) := by decide +kernel
theorem dX5_sailor_61 : decode cX5_sailor 61 = .ok (.getfield 19, 3) := by decide +kernel
theorem dX5_sailor_64 : decode cX5_sailor 64 = .ok (.getfield 89, 3) := by decide +kernel
theorem dX5_sailor_67 : decode cX5_sailor 67 = .ok (.iload_n 1, 1) := by decide +kernel
theorem dX5_sailor_68 : decode cX5_sailor 68 = .ok (.invokestatic 85, 3) := by decide +kernel
theorem dX5_sailor_71 : decode cX5_sailor 71 = .ok (.ireturn, 1) := by decide +kernel
theorem dX5_sailor_72 : decode cX5_sailor 72 = .ok (.aload_n 0, 1) := by decide +kernel
theorem dX5_sailor_73 : decode cX5_sailor 73 = .ok (.getfield 19, 3) := by decide +kernel
theorem dX5_sailor_76 : decode cX5_sailor 76 = .ok (.iload_n 1, 1) := by decide +kernel
theorem dX5_sailor_77 : decode cX5_sailor 77 = .ok (.invokevirtual 92, 3) := by decide +kernel
theorem dX5_sailor_80 : decode cX5_sailor 80 = .ok (.ireturn, 1) := by decide +kernel
theorem dX5_sailor_81 : decode cX5_sailor 81 = .ok (.aload_n 0, 1) := by decide +kernel
theorem dX5_sailor_82 : decode cX5_sailor 82 = .ok (.getfield 29, 3) := by decide +kernel
theorem dX5_sailor_85 : decode cX5_sailor 85 = .ok (.getfield 96, 3) := by decide +kernel
theorem dX5_sailor_88 : decode cX5_sailor 88 = .ok (.iload_n 1, 1) := by decide +kernel
theorem dX5_sailor_89 : decode cX5_sailor 89 = .ok (.invokestatic 99, 3) := by decide +kernel
theorem dX5_sailor_92 : decode cX5_sailor 92 = .ok (.ifCond .eq 7, 3) := by decide +kernel
theorem dX5_sailor_95 : decode cX5_sailor 95 = .ok (.iconst 1, 1) := by decide +kernel
theorem dX5_sailor_96 : decode cX5_sailor 96 = .ok (.goto 4, 3) := by decide +kernel
theorem dX5_sailor_99 : decode cX5_sailor 99 = .ok (.iconst 0, 1) := by decide +kernel
theorem dX5_sailor_100 : decode cX5_sailor 100 = .ok (.ireturn, 1) := by decide +kernel
theorem dX5_sailor_101 : decode cX5_sailor 101 = .ok (.aload_n 0, 1) := by decide +kernel
theorem dX5_sailor_102 : decode cX5_sailor 102 = .ok (.getfield 29, 3) := by decide +kernel
theorem dX5_sailor_105 : decode cX5_sailor 105 = .ok (.iload_n 1, 1) := by decide +kernel
theorem dX5_sailor_106 : decode cX5_sailor 106 = .ok (.invokevirtual 103, 3) := by decide +kernel
theorem dX5_sailor_109 : decode cX5_sailor 109 = .ok (.ireturn, 1) := by decide +kernel
theorem dX5_sailor_110 : decode cX5_sailor 110 = .ok (.aload_n 0, 1) := by decide +kernel
theorem dX5_sailor_111 : decode cX5_sailor 111 = .ok (.iload_n 1, 1) := by decide +kernel
theorem dX5_sailor_112 : decode cX5_sailor 112 = .ok (.invokevirtual 106, 3) := by decide +kernel
theorem dX5_sailor_115 : decode cX5_sailor 115 = .ok (.ifCond .eq 7, 3) := by decide +kernel
theorem dX5_sailor_118 : decode cX5_sailor 118 = .ok (.iconst 1, 1) := by decide +kernel
theorem dX5_sailor_119 : decode cX5_sailor 119 = .ok (.goto 4, 3) := by decide +kernel
theorem dX5_sailor_122 : decode cX5_sailor 122 = .ok (.iconst 0, 1) := by decide +kernel
theorem dX5_sailor_123 : decode cX5_sailor 123 = .ok (.ireturn, 1) := by decide +kernel
theorem dX5_sailor_124 : decode cX5_sailor 124 = .ok (.iconst (-1), 1) := by decide +kernel
theorem dX5_sailor_125 : decode cX5_sailor 125 = .ok (.ireturn, 1) := by decide +kernel
theorem dX5_seat_0 : decode cX5_seat 0 = .ok (.aload_n 0, 1) := by decide +kernel
theorem dX5_seat_1 : decode cX5_seat 1 = .ok (.iload_n 1, 1) := by decide +kernel
theorem dX5_seat_2 : decode cX5_seat 2 = .ok (.invokevirtual 109, 3) := by decide +kernel
theorem dX5_seat_5 : decode cX5_seat 5 = .ok (.ifCond .ne 5, 3) := by decide +kernel
theorem dX5_seat_8 : decode cX5_seat 8 = .ok (.iconst (-1), 1) := by decide +kernel
theorem dX5_seat_9 : decode cX5_seat 9 = .ok (.ireturn, 1) := by decide +kernel
theorem dX5_seat_10 : decode cX5_seat 10 = .ok (.iload_n 2, 1) := by decide +kernel
theorem dX5_seat_11 : decode cX5_seat 11 = .ok (.lookupswitch 49 #[(0, 25), (1, 37)], 25) := by decide +kernel
theorem dX5_seat_36 : decode cX5_seat 36 = .ok (.aload_n 0, 1) := by decide +kernel
theorem dX5_seat_37 : decode cX5_seat 37 = .ok (.getfield 29, 3) := by decide +kernel
theorem dX5_seat_40 : decode cX5_seat 40 = .ok (.getfield 112, 3) := by decide +kernel
theorem dX5_seat_43 : decode cX5_seat 43 = .ok (.iload_n 1, 1) := by decide +kernel
theorem dX5_seat_44 : decode cX5_seat 44 = .ok (.invokestatic 85, 3) := by decide +kernel
theorem dX5_seat_47 : decode cX5_seat 47 = .ok (.ireturn, 1) := by decide +kernel
theorem dX5_seat_48 : decode cX5_seat 48 = .ok (.aload_n 0, 1) := by decide +kernel
theorem dX5_seat_49 : decode cX5_seat 49 = .ok (.getfield 29, 3) := by decide +kernel
theorem dX5_seat_52 : decode cX5_seat 52 = .ok (.getfield 115, 3) := by decide +kernel
theorem dX5_seat_55 : decode cX5_seat 55 = .ok (.iload_n 1, 1) := by decide +kernel
theorem dX5_seat_56 : decode cX5_seat 56 = .ok (.invokestatic 85, 3) := by decide +kernel
theorem dX5_seat_59 : decode cX5_seat 59 = .ok (.ireturn, 1) := by decide +kernel
theorem dX5_seat_60 : decode cX5_seat 60 = .ok (.iconst (-1), 1) := by decide +kernel
theorem dX5_seat_61 : decode cX5_seat 61 = .ok (.ireturn, 1) := by decide +kernel
theorem dX5_now_0 : decode cX5_now 0 = .ok (.iload_n 1, 1) := by decide +kernel
theorem dX5_now_1 : decode cX5_now 1 = .ok (.tableswitch 72 0 4 #[35, 43, 51, 59, 64], 35) := by decide +kernel
theorem dX5_now_36 : decode cX5_now 36 = .ok (.aload_n 0, 1) := by decide +kernel
theorem dX5_now_37 : decode cX5_now 37 = .ok (.getfield 29, 3) := by decide +kernel
theorem dX5_now_40 : decode cX5_now 40 = .ok (.getfield 118, 3) := by decide +kernel
theorem dX5_now_43 : decode cX5_now 43 = .ok (.ireturn, 1) := by decide +kernel
theorem dX5_now_44 : decode cX5_now 44 = .ok (.aload_n 0, 1) := by decide +kernel
theorem dX5_now_45 : decode cX5_now 45 = .ok (.getfield 29, 3) := by decide +kernel
theorem dX5_now_48 : decode cX5_now 48 = .ok (.getfield 96, 3) := by decide +kernel
theorem dX5_now_51 : decode cX5_now 51 = .ok (.ireturn, 1) := by decide +kernel
theorem dX5_now_52 : decode cX5_now 52 = .ok (.aload_n 0, 1) := by decide +kernel
theorem dX5_now_53 : decode cX5_now 53 = .ok (.getfield 29, 3) := by decide +kernel
theorem dX5_now_56 : decode cX5_now 56 = .ok (.invokevirtual 121, 3) := by decide +kernel
theorem dX5_now_59 : decode cX5_now 59 = .ok (.ireturn, 1) := by decide +kernel
theorem dX5_now_60 : decode cX5_now 60 = .ok (.aload_n 0, 1) := by decide +kernel
theorem dX5_now_61 : decode cX5_now 61 = .ok (.invokevirtual 125, 3) := by decide +kernel
theorem dX5_now_64 : decode cX5_now 64 = .ok (.ireturn, 1) := by decide +kernel
theorem dX5_now_65 : decode cX5_now 65 = .ok (.aload_n 0, 1) := by decide +kernel
theorem dX5_now_66 : decode cX5_now 66 = .ok (.getfield 36, 3) := by decide +kernel
theorem dX5_now_69 : decode cX5_now 69 = .ok (.getfield 128, 3) := by decide +kernel
theorem dX5_now_72 : decode cX5_now 72 = .ok (.ireturn, 1) := by decide +kernel
theorem dX5_now_73 : decode cX5_now 73 = .ok (.iconst (-1), 1) := by decide +kernel
theorem dX5_now_74 : decode cX5_now 74 = .ok (.ireturn, 1) := by decide +kernel
theorem dX5_signs_0 : decode cX5_signs 0 = .ok (.aload_n 0, 1) := by decide +kernel
theorem dX5_signs_1 : decode cX5_signs 1 = .ok (.iload_n 1, 1) := by decide +kernel
theorem dX5_signs_2 : decode cX5_signs 2 = .ok (.invokevirtual 78, 3) := by decide +kernel
theorem dX5_signs_5 : decode cX5_signs 5 = .ok (.ifCond .eq 11, 3) := by decide +kernel
theorem dX5_signs_8 : decode cX5_signs 8 = .ok (.aload_n 0, 1) := by decide +kernel
theorem dX5_signs_9 : decode cX5_signs 9 = .ok (.iload_n 2, 1) := by decide +kernel
theorem dX5_signs_10 : decode cX5_signs 10 = .ok (.invokevirtual 109, 3) := by decide +kernel
theorem dX5_signs_13 : decode cX5_signs 13 = .ok (.ifCond .ne 5, 3) := by decide +kernel
theorem dX5_signs_16 : decode cX5_signs 16 = .ok (.iconst (-1), 1) := by decide +kernel
theorem dX5_signs_17 : decode cX5_signs 17 = .ok (.ireturn, 1) := by decide +kernel
theorem dX5_signs_18 : decode cX5_signs 18 = .ok (.aload_n 0, 1) := by decide +kernel
theorem dX5_signs_19 : decode cX5_signs 19 = .ok (.iload_n 1, 1) := by decide +kernel
theorem dX5_signs_20 : decode cX5_signs 20 = .ok (.invokevirtual 106, 3) := by decide +kernel
theorem dX5_signs_23 : decode cX5_signs 23 = .ok (.ifCond .eq 31, 3) := by decide +kernel
theorem dX5_signs_26 : decode cX5_signs 26 = .ok (.aload_n 0, 1) := by decide +kernel
theorem dX5_signs_27 : decode cX5_signs 27 = .ok (.getfield 29, 3) := by decide +kernel
theorem dX5_signs_30 : decode cX5_signs 30 = .ok (.getfield 112, 3) := by decide +kernel
theorem dX5_signs_33 : decode cX5_signs 33 = .ok (.iload_n 2, 1) := by decide +kernel
theorem dX5_signs_34 : decode cX5_signs 34 = .ok (.invokestatic 85, 3) := by decide +kernel
theorem dX5_signs_37 : decode cX5_signs 37 = .ok (.bipush (-9), 2) := by decide +kernel
theorem dX5_signs_39 : decode cX5_signs 39 = .ok (.if_icmp .ne 15, 3) := by decide +kernel
theorem dX5_signs_42 : decode cX5_signs 42 = .ok (.aload_n 0, 1) := by decide +kernel
theorem dX5_signs_43 : decode cX5_signs 43 = .ok (.getfield 29, 3) := by decide +kernel
theorem dX5_signs_46 : decode cX5_signs 46 = .ok (.getfield 118, 3) := by decide +kernel
theorem dX5_signs_49 : decode cX5_signs 49 = .ok (.bipush 99, 2) := by decide +kernel
theorem dX5_signs_51 : decode cX5_signs 51 = .ok (.if_icmp .lt 6, 3) := by decide +kernel
theorem dX5_signs_54 : decode cX5_signs 54 = .ok (.bipush (-2), 2) := by decide +kernel
theorem dX5_signs_56 : decode cX5_signs 56 = .ok (.ireturn, 1) := by decide +kernel
theorem dX5_signs_57 : decode cX5_signs 57 = .ok (.aload_n 0, 1) := by decide +kernel
theorem dX5_signs_58 : decode cX5_signs 58 = .ok (.getfield 36, 3) := by decide +kernel
theorem dX5_signs_61 : decode cX5_signs 61 = .ok (.aload_n 0, 1) := by decide +kernel
theorem dX5_signs_62 : decode cX5_signs 62 = .ok (.getfield 29, 3) := by decide +kernel
theorem dX5_signs_65 : decode cX5_signs 65 = .ok (.invokevirtual 131, 3) := by decide +kernel
theorem dX5_signs_68 : decode cX5_signs 68 = .ok (.aload_n 0, 1) := by decide +kernel
theorem dX5_signs_69 : decode cX5_signs 69 = .ok (.getfield 19, 3) := by decide +kernel
theorem dX5_signs_72 : decode cX5_signs 72 = .ok (.aload_n 0, 1) := by decide +kernel
theorem dX5_signs_73 : decode cX5_signs 73 = .ok (.getfield 29, 3) := by decide +kernel
theorem dX5_signs_76 : decode cX5_signs 76 = .ok (.getfield 96, 3) := by decide +kernel
theorem dX5_signs_79 : decode cX5_signs 79 = .ok (.invokestatic 135, 3) := by decide +kernel
theorem dX5_signs_82 : decode cX5_signs 82 = .ok (.invokevirtual 140, 3) := by decide +kernel
theorem dX5_signs_85 : decode cX5_signs 85 = .ok (.istore_n 3, 1) := by decide +kernel
theorem dX5_signs_86 : decode cX5_signs 86 = .ok (.aload_n 0, 1) := by decide +kernel
theorem dX5_signs_87 : decode cX5_signs 87 = .ok (.getfield 29, 3) := by decide +kernel
theorem dX5_signs_90 : decode cX5_signs 90 = .ok (.iload_n 2, 1) := by decide +kernel
theorem dX5_signs_91 : decode cX5_signs 91 = .ok (.iload_n 1, 1) := by decide +kernel
theorem dX5_signs_92 : decode cX5_signs 92 = .ok (.iload_n 3, 1) := by decide +kernel
theorem dX5_signs_93 : decode cX5_signs 93 = .ok (.invokevirtual 143, 3) := by decide +kernel
theorem dX5_signs_96 : decode cX5_signs 96 = .ok (.aload_n 0, 1) := by decide +kernel
theorem dX5_signs_97 : decode cX5_signs 97 = .ok (.getfield 29, 3) := by decide +kernel
theorem dX5_signs_100 : decode cX5_signs 100 = .ok (.dup, 1) := by decide +kernel
theorem dX5_signs_101 : decode cX5_signs 101 = .ok (.getfield 96, 3) := by decide +kernel
theorem dX5_signs_104 : decode cX5_signs 104 = .ok (.iconst 1, 1) := by decide +kernel
theorem dX5_signs_105 : decode cX5_signs 105 = .ok (.iload_n 1, 1) := by decide +kernel
theorem dX5_signs_106 : decode cX5_signs 106 = .ok (.ishl, 1) := by decide +kernel
theorem dX5_signs_107 : decode cX5_signs 107 = .ok (.ior, 1) := by decide +kernel
theorem dX5_signs_108 : decode cX5_signs 108 = .ok (.putfield 96, 3) := by decide +kernel
theorem dX5_signs_111 : decode cX5_signs 111 = .ok (.aload_n 0, 1) := by decide +kernel
theorem dX5_signs_112 : decode cX5_signs 112 = .ok (.getfield 29, 3) := by decide +kernel
theorem dX5_signs_115 : decode cX5_signs 115 = .ok (.dup, 1) := by decide +kernel
theorem dX5_signs_116 : decode cX5_signs 116 = .ok (.getfield 118, 3) := by decide +kernel
theorem dX5_signs_119 : decode cX5_signs 119 = .ok (.iconst 1, 1) := by decide +kernel
theorem dX5_signs_120 : decode cX5_signs 120 = .ok (.iadd, 1) := by decide +kernel
theorem dX5_signs_121 : decode cX5_signs 121 = .ok (.putfield 118, 3) := by decide +kernel
theorem dX5_signs_124 : decode cX5_signs 124 = .ok (.iload_n 3, 1) := by decide +kernel
theorem dX5_signs_125 : decode cX5_signs 125 = .ok (.ireturn, 1) := by decide +kernel
theorem dX5_hour_0 : decode cX5_hour 0 = .ok (.aload_n 0, 1) := by decide +kernel
theorem dX5_hour_1 : decode cX5_hour 1 = .ok (.getfield 29, 3) := by decide +kernel
theorem dX5_hour_4 : decode cX5_hour 4 = .ok (.getfield 118, 3) := by decide +kernel
theorem dX5_hour_7 : decode cX5_hour 7 = .ok (.bipush 99, 2) := by decide +kernel
theorem dX5_hour_9 : decode cX5_hour 9 = .ok (.if_icmp .lt 6, 3) := by decide +kernel
theorem dX5_hour_12 : decode cX5_hour 12 = .ok (.bipush (-2), 2) := by decide +kernel
theorem dX5_hour_14 : decode cX5_hour 14 = .ok (.ireturn, 1) := by decide +kernel
theorem dX5_hour_15 : decode cX5_hour 15 = .ok (.aload_n 0, 1) := by decide +kernel
theorem dX5_hour_16 : decode cX5_hour 16 = .ok (.getfield 36, 3) := by decide +kernel
theorem dX5_hour_19 : decode cX5_hour 19 = .ok (.aload_n 0, 1) := by decide +kernel
theorem dX5_hour_20 : decode cX5_hour 20 = .ok (.getfield 29, 3) := by decide +kernel
theorem dX5_hour_23 : decode cX5_hour 23 = .ok (.invokevirtual 131, 3) := by decide +kernel
theorem dX5_hour_26 : decode cX5_hour 26 = .ok (.aload_n 0, 1) := by decide +kernel
theorem dX5_hour_27 : decode cX5_hour 27 = .ok (.getfield 29, 3) := by decide +kernel
theorem dX5_hour_30 : decode cX5_hour 30 = .ok (.dup, 1) := by decide +kernel
theorem dX5_hour_31 : decode cX5_hour 31 = .ok (.getfield 118, 3) := by decide +kernel
theorem dX5_hour_34 : decode cX5_hour 34 = .ok (.iconst 1, 1) := by decide +kernel
theorem dX5_hour_35 : decode cX5_hour 35 = .ok (.iadd, 1) := by decide +kernel
theorem dX5_hour_36 : decode cX5_hour 36 = .ok (.putfield 118, 3) := by decide +kernel
theorem dX5_hour_39 : decode cX5_hour 39 = .ok (.aload_n 0, 1) := by decide +kernel
theorem dX5_hour_40 : decode cX5_hour 40 = .ok (.getfield 29, 3) := by decide +kernel
theorem dX5_hour_43 : decode cX5_hour 43 = .ok (.getfield 118, 3) := by decide +kernel
theorem dX5_hour_46 : decode cX5_hour 46 = .ok (.ireturn, 1) := by decide +kernel
theorem dX5_scrape_0 : decode cX5_scrape 0 = .ok (.aload_n 0, 1) := by decide +kernel
theorem dX5_scrape_1 : decode cX5_scrape 1 = .ok (.iload_n 1, 1) := by decide +kernel
theorem dX5_scrape_2 : decode cX5_scrape 2 = .ok (.invokevirtual 109, 3) := by decide +kernel
theorem dX5_scrape_5 : decode cX5_scrape 5 = .ok (.ifCond .ne 5, 3) := by decide +kernel
theorem dX5_scrape_8 : decode cX5_scrape 8 = .ok (.iconst (-1), 1) := by decide +kernel
theorem dX5_scrape_9 : decode cX5_scrape 9 = .ok (.ireturn, 1) := by decide +kernel
theorem dX5_scrape_10 : decode cX5_scrape 10 = .ok (.aload_n 0, 1) := by decide +kernel
theorem dX5_scrape_11 : decode cX5_scrape 11 = .ok (.getfield 29, 3) := by decide +kernel
theorem dX5_scrape_14 : decode cX5_scrape 14 = .ok (.getfield 112, 3) := by decide +kernel
theorem dX5_scrape_17 : decode cX5_scrape 17 = .ok (.iload_n 1, 1) := by decide +kernel
theorem dX5_scrape_18 : decode cX5_scrape 18 = .ok (.invokestatic 85, 3) := by decide +kernel
theorem dX5_scrape_21 : decode cX5_scrape 21 = .ok (.istore_n 2, 1) := by decide +kernel
theorem dX5_scrape_22 : decode cX5_scrape 22 = .ok (.iload_n 2, 1) := by decide +kernel
theorem dX5_scrape_23 : decode cX5_scrape 23 = .ok (.bipush (-9), 2) := by decide +kernel
theorem dX5_scrape_25 : decode cX5_scrape 25 = .ok (.if_icmp .ne 6, 3) := by decide +kernel
theorem dX5_scrape_28 : decode cX5_scrape 28 = .ok (.bipush (-2), 2) := by decide +kernel
theorem dX5_scrape_30 : decode cX5_scrape 30 = .ok (.ireturn, 1) := by decide +kernel
theorem dX5_scrape_31 : decode cX5_scrape 31 = .ok (.aload_n 0, 1) := by decide +kernel
theorem dX5_scrape_32 : decode cX5_scrape 32 = .ok (.getfield 36, 3) := by decide +kernel
theorem dX5_scrape_35 : decode cX5_scrape 35 = .ok (.aload_n 0, 1) := by decide +kernel
theorem dX5_scrape_36 : decode cX5_scrape 36 = .ok (.getfield 29, 3) := by decide +kernel
theorem dX5_scrape_39 : decode cX5_scrape 39 = .ok (.invokevirtual 131, 3) := by decide +kernel
theorem dX5_scrape_42 : decode cX5_scrape 42 = .ok (.aload_n 0, 1) := by decide +kernel
theorem dX5_scrape_43 : decode cX5_scrape 43 = .ok (.getfield 29, 3) := by decide +kernel
theorem dX5_scrape_46 : decode cX5_scrape 46 = .ok (.iload_n 1, 1) := by decide +kernel
theorem dX5_scrape_47 : decode cX5_scrape 47 = .ok (.bipush (-9), 2) := by decide +kernel
theorem dX5_scrape_49 : decode cX5_scrape 49 = .ok (.iconst 0, 1) := by decide +kernel
theorem dX5_scrape_50 : decode cX5_scrape 50 = .ok (.invokevirtual 143, 3) := by decide +kernel
theorem dX5_scrape_53 : decode cX5_scrape 53 = .ok (.iload_n 2, 1) := by decide +kernel
theorem dX5_scrape_54 : decode cX5_scrape 54 = .ok (.ireturn, 1) := by decide +kernel
theorem dX5_undo_0 : decode cX5_undo 0 = .ok (.aload_n 0, 1) := by decide +kernel
theorem dX5_undo_1 : decode cX5_undo 1 = .ok (.getfield 36, 3) := by decide +kernel
theorem dX5_undo_4 : decode cX5_undo 4 = .ok (.aload_n 0, 1) := by decide +kernel
theorem dX5_undo_5 : decode cX5_undo 5 = .ok (.getfield 29, 3) := by decide +kernel
theorem dX5_undo_8 : decode cX5_undo 8 = .ok (.invokevirtual 147, 3) := by decide +kernel
theorem dX5_undo_11 : decode cX5_undo 11 = .ok (.ifCond .eq 13, 3) := by decide +kernel
theorem dX5_undo_14 : decode cX5_undo 14 = .ok (.aload_n 0, 1) := by decide +kernel
theorem dX5_undo_15 : decode cX5_undo 15 = .ok (.getfield 36, 3) := by decide +kernel
theorem dX5_undo_18 : decode cX5_undo 18 = .ok (.getfield 128, 3) := by decide +kernel
theorem dX5_undo_21 : decode cX5_undo 21 = .ok (.goto 5, 3) := by decide +kernel
theorem dX5_undo_24 : decode cX5_undo 24 = .ok (.bipush (-2), 2) := by decide +kernel
theorem dX5_undo_26 : decode cX5_undo 26 = .ok (.ireturn, 1) := by decide +kernel
theorem dX5_will_0 : decode cX5_will 0 = .ok (.aload_n 0, 1) := by decide +kernel
theorem dX5_will_1 : decode cX5_will 1 = .ok (.getfield 19, 3) := by decide +kernel
theorem dX5_will_4 : decode cX5_will 4 = .ok (.aload_n 0, 1) := by decide +kernel
theorem dX5_will_5 : decode cX5_will 5 = .ok (.getfield 29, 3) := by decide +kernel
theorem dX5_will_8 : decode cX5_will 8 = .ok (.getfield 96, 3) := by decide +kernel
theorem dX5_will_11 : decode cX5_will 11 = .ok (.invokevirtual 151, 3) := by decide +kernel
theorem dX5_will_14 : decode cX5_will 14 = .ok (.ireturn, 1) := by decide +kernel
theorem dX5_begin_0 : decode cX5_begin 0 = .ok (.aload_n 0, 1) := by decide +kernel
theorem dX5_begin_1 : decode cX5_begin 1 = .ok (.getfield 19, 3) := by decide +kernel
theorem dX5_begin_4 : decode cX5_begin 4 = .ok (.invokevirtual 154, 3) := by decide +kernel
theorem dX5_begin_7 : decode cX5_begin 7 = .ok (.istore_n 1, 1) := by decide +kernel
theorem dX5_begin_8 : decode cX5_begin 8 = .ok (.iload_n 1, 1) := by decide +kernel
theorem dX5_begin_9 : decode cX5_begin 9 = .ok (.aload_n 0, 1) := by decide +kernel
theorem dX5_begin_10 : decode cX5_begin 10 = .ok (.getfield 29, 3) := by decide +kernel
theorem dX5_begin_13 : decode cX5_begin 13 = .ok (.getfield 96, 3) := by decide +kernel
theorem dX5_begin_16 : decode cX5_begin 16 = .ok (.iconst (-1), 1) := by decide +kernel
theorem dX5_begin_17 : decode cX5_begin 17 = .ok (.ixor, 1) := by decide +kernel
theorem dX5_begin_18 : decode cX5_begin 18 = .ok (.iand, 1) := by decide +kernel
theorem dX5_begin_19 : decode cX5_begin 19 = .ok (.istore_n 2, 1) := by decide +kernel
theorem dX5_begin_20 : decode cX5_begin 20 = .ok (.iconst 0, 1) := by decide +kernel
theorem dX5_begin_21 : decode cX5_begin 21 = .ok (.istore_n 3, 1) := by decide +kernel
theorem dX5_begin_22 : decode cX5_begin 22 = .ok (.iload_n 3, 1) := by decide +kernel
theorem dX5_begin_23 : decode cX5_begin 23 = .ok (.bipush 7, 2) := by decide +kernel
theorem dX5_begin_25 : decode cX5_begin 25 = .ok (.if_icmp .gt 66, 3) := by decide +kernel
theorem dX5_begin_28 : decode cX5_begin 28 = .ok (.iconst 0, 1) := by decide +kernel
theorem dX5_begin_29 : decode cX5_begin 29 = .ok (.istore 4, 2) := by decide +kernel
theorem dX5_begin_31 : decode cX5_begin 31 = .ok (.iload 4, 2) := by decide +kernel
theorem dX5_begin_33 : decode cX5_begin 33 = .ok (.iload_n 1, 1) := by decide +kernel
theorem dX5_begin_34 : decode cX5_begin 34 = .ok (.if_icmp .gt 51, 3) := by decide +kernel
theorem dX5_begin_37 : decode cX5_begin 37 = .ok (.iload 4, 2) := by decide +kernel
theorem dX5_begin_39 : decode cX5_begin 39 = .ok (.iload_n 2, 1) := by decide +kernel
theorem dX5_begin_40 : decode cX5_begin 40 = .ok (.iconst (-1), 1) := by decide +kernel
theorem dX5_begin_41 : decode cX5_begin 41 = .ok (.ixor, 1) := by decide +kernel
theorem dX5_begin_42 : decode cX5_begin 42 = .ok (.iand, 1) := by decide +kernel
theorem dX5_begin_43 : decode cX5_begin 43 = .ok (.ifCond .ne 36, 3) := by decide +kernel
theorem dX5_begin_46 : decode cX5_begin 46 = .ok (.iload 4, 2) := by decide +kernel
theorem dX5_begin_48 : decode cX5_begin 48 = .ok (.invokestatic 135, 3) := by decide +kernel
theorem dX5_begin_51 : decode cX5_begin 51 = .ok (.iload_n 3, 1) := by decide +kernel
theorem dX5_begin_52 : decode cX5_begin 52 = .ok (.if_icmp .ne 27, 3) := by decide +kernel
theorem dX5_begin_55 : decode cX5_begin 55 = .ok (.aload_n 0, 1) := by decide +kernel
theorem dX5_begin_56 : decode cX5_begin 56 = .ok (.getfield 19, 3) := by decide +kernel
theorem dX5_begin_59 : decode cX5_begin 59 = .ok (.aload_n 0, 1) := by decide +kernel
theorem dX5_begin_60 : decode cX5_begin 60 = .ok (.getfield 29, 3) := by decide +kernel
theorem dX5_begin_63 : decode cX5_begin 63 = .ok (.getfield 96, 3) := by decide +kernel
theorem dX5_begin_66 : decode cX5_begin 66 = .ok (.iload 4, 2) := by decide +kernel
theorem dX5_begin_68 : decode cX5_begin 68 = .ok (.ior, 1) := by decide +kernel
theorem dX5_begin_69 : decode cX5_begin 69 = .ok (.invokevirtual 151, 3) := by decide +kernel
theorem dX5_begin_72 : decode cX5_begin 72 = .ok (.iload_n 1, 1) := by decide +kernel
theorem dX5_begin_73 : decode cX5_begin 73 = .ok (.if_icmp .ne 6, 3) := by decide +kernel
theorem dX5_begin_76 : decode cX5_begin 76 = .ok (.iload 4, 2) := by decide +kernel
theorem dX5_begin_78 : decode cX5_begin 78 = .ok (.ireturn, 1) := by decide +kernel
theorem dX5_begin_79 : decode cX5_begin 79 = .ok (.iinc 4 1, 3) := by decide +kernel
theorem dX5_begin_82 : decode cX5_begin 82 = .ok (.goto (-51), 3) := by decide +kernel
theorem dX5_begin_85 : decode cX5_begin 85 = .ok (.iinc 3 1, 3) := by decide +kernel
theorem dX5_begin_88 : decode cX5_begin 88 = .ok (.goto (-66), 3) := by decide +kernel
theorem dX5_begin_91 : decode cX5_begin 91 = .ok (.iload_n 2, 1) := by decide +kernel
theorem dX5_begin_92 : decode cX5_begin 92 = .ok (.ireturn, 1) := by decide +kernel
theorem dX5_orders_0 : decode cX5_orders 0 = .ok (.aload_n 0, 1) := by decide +kernel
theorem dX5_orders_1 : decode cX5_orders 1 = .ok (.getfield 49, 3) := by decide +kernel
theorem dX5_orders_4 : decode cX5_orders 4 = .ok (.aload_n 0, 1) := by decide +kernel
theorem dX5_orders_5 : decode cX5_orders 5 = .ok (.getfield 19, 3) := by decide +kernel
theorem dX5_orders_8 : decode cX5_orders 8 = .ok (.aload_n 0, 1) := by decide +kernel
theorem dX5_orders_9 : decode cX5_orders 9 = .ok (.getfield 29, 3) := by decide +kernel
theorem dX5_orders_12 : decode cX5_orders 12 = .ok (.bipush (-9), 2) := by decide +kernel
theorem dX5_orders_14 : decode cX5_orders 14 = .ok (.invokevirtual 157, 3) := by decide +kernel
theorem dX5_orders_17 : decode cX5_orders 17 = .ok (.aload_n 0, 1) := by decide +kernel
theorem dX5_orders_18 : decode cX5_orders 18 = .ok (.getfield 49, 3) := by decide +kernel
theorem dX5_orders_21 : decode cX5_orders 21 = .ok (.getfield 161, 3) := by decide +kernel
theorem dX5_orders_24 : decode cX5_orders 24 = .ok (.ireturn, 1) := by decide +kernel
theorem dX5_first_0 : decode cX5_first 0 = .ok (.aload_n 0, 1) := by decide +kernel
theorem dX5_first_1 : decode cX5_first 1 = .ok (.getfield 49, 3) := by decide +kernel
theorem dX5_first_4 : decode cX5_first 4 = .ok (.aload_n 0, 1) := by decide +kernel
theorem dX5_first_5 : decode cX5_first 5 = .ok (.getfield 19, 3) := by decide +kernel
theorem dX5_first_8 : decode cX5_first 8 = .ok (.aload_n 0, 1) := by decide +kernel
theorem dX5_first_9 : decode cX5_first 9 = .ok (.getfield 29, 3) := by decide +kernel
theorem dX5_first_12 : decode cX5_first 12 = .ok (.bipush (-9), 2) := by decide +kernel
theorem dX5_first_14 : decode cX5_first 14 = .ok (.invokevirtual 157, 3) := by decide +kernel
theorem dX5_first_17 : decode cX5_first 17 = .ok (.aload_n 0, 1) := by decide +kernel
theorem dX5_first_18 : decode cX5_first 18 = .ok (.getfield 49, 3) := by decide +kernel
theorem dX5_first_21 : decode cX5_first 21 = .ok (.invokevirtual 162, 3) := by decide +kernel
theorem dX5_first_24 : decode cX5_first 24 = .ok (.ireturn, 1) := by decide +kernel
theorem dX5_sure_0 : decode cX5_sure 0 = .ok (.aload_n 0, 1) := by decide +kernel
theorem dX5_sure_1 : decode cX5_sure 1 = .ok (.iload_n 1, 1) := by decide +kernel
theorem dX5_sure_2 : decode cX5_sure 2 = .ok (.invokevirtual 165, 3) := by decide +kernel
theorem dX5_sure_5 : decode cX5_sure 5 = .ok (.ifCond .ne 5, 3) := by decide +kernel
theorem dX5_sure_8 : decode cX5_sure 8 = .ok (.iconst (-1), 1) := by decide +kernel
theorem dX5_sure_9 : decode cX5_sure 9 = .ok (.ireturn, 1) := by decide +kernel
theorem dX5_sure_10 : decode cX5_sure 10 = .ok (.aload_n 0, 1) := by decide +kernel
theorem dX5_sure_11 : decode cX5_sure 11 = .ok (.getfield 49, 3) := by decide +kernel
theorem dX5_sure_14 : decode cX5_sure 14 = .ok (.aload_n 0, 1) := by decide +kernel
theorem dX5_sure_15 : decode cX5_sure 15 = .ok (.getfield 19, 3) := by decide +kernel
theorem dX5_sure_18 : decode cX5_sure 18 = .ok (.aload_n 0, 1) := by decide +kernel
theorem dX5_sure_19 : decode cX5_sure 19 = .ok (.getfield 29, 3) := by decide +kernel
theorem dX5_sure_22 : decode cX5_sure 22 = .ok (.bipush (-9), 2) := by decide +kernel
theorem dX5_sure_24 : decode cX5_sure 24 = .ok (.invokevirtual 157, 3) := by decide +kernel
theorem dX5_sure_27 : decode cX5_sure 27 = .ok (.aload_n 0, 1) := by decide +kernel
theorem dX5_sure_28 : decode cX5_sure 28 = .ok (.getfield 49, 3) := by decide +kernel
theorem dX5_sure_31 : decode cX5_sure 31 = .ok (.iload_n 1, 1) := by decide +kernel
theorem dX5_sure_32 : decode cX5_sure 32 = .ok (.invokevirtual 168, 3) := by decide +kernel
theorem dX5_sure_35 : decode cX5_sure 35 = .ok (.ireturn, 1) := by decide +kernel
theorem dX5_chance_0 : decode cX5_chance 0 = .ok (.aload_n 0, 1) := by decide +kernel
theorem dX5_chance_1 : decode cX5_chance 1 = .ok (.iload_n 1, 1) := by decide +kernel
theorem dX5_chance_2 : decode cX5_chance 2 = .ok (.invokevirtual 165, 3) := by decide +kernel
theorem dX5_chance_5 : decode cX5_chance 5 = .ok (.ifCond .eq 10, 3) := by decide +kernel
theorem dX5_chance_8 : decode cX5_chance 8 = .ok (.iload_n 2, 1) := by decide +kernel
theorem dX5_chance_9 : decode cX5_chance 9 = .ok (.invokestatic 171, 3) := by decide +kernel
theorem dX5_chance_12 : decode cX5_chance 12 = .ok (.ifCond .ne 5, 3) := by decide +kernel
theorem dX5_chance_15 : decode cX5_chance 15 = .ok (.iconst (-1), 1) := by decide +kernel
theorem dX5_chance_16 : decode cX5_chance 16 = .ok (.ireturn, 1) := by decide +kernel
theorem dX5_chance_17 : decode cX5_chance 17 = .ok (.aload_n 0, 1) := by decide +kernel
theorem dX5_chance_18 : decode cX5_chance 18 = .ok (.getfield 49, 3) := by decide +kernel
theorem dX5_chance_21 : decode cX5_chance 21 = .ok (.aload_n 0, 1) := by decide +kernel
theorem dX5_chance_22 : decode cX5_chance 22 = .ok (.getfield 19, 3) := by decide +kernel
theorem dX5_chance_25 : decode cX5_chance 25 = .ok (.aload_n 0, 1) := by decide +kernel
theorem dX5_chance_26 : decode cX5_chance 26 = .ok (.getfield 29, 3) := by decide +kernel
theorem dX5_chance_29 : decode cX5_chance 29 = .ok (.bipush (-9), 2) := by decide +kernel
theorem dX5_chance_31 : decode cX5_chance 31 = .ok (.invokevirtual 157, 3) := by decide +kernel
theorem dX5_chance_34 : decode cX5_chance 34 = .ok (.aload_n 0, 1) := by decide +kernel
theorem dX5_chance_35 : decode cX5_chance 35 = .ok (.getfield 49, 3) := by decide +kernel
theorem dX5_chance_38 : decode cX5_chance 38 = .ok (.iload_n 1, 1) := by decide +kernel
theorem dX5_chance_39 : decode cX5_chance 39 = .ok (.invokevirtual 174, 3) := by decide +kernel
theorem dX5_chance_42 : decode cX5_chance 42 = .ok (.aload_n 0, 1) := by decide +kernel
theorem dX5_chance_43 : decode cX5_chance 43 = .ok (.getfield 49, 3) := by decide +kernel
theorem dX5_chance_46 : decode cX5_chance 46 = .ok (.getfield 161, 3) := by decide +kernel
theorem dX5_chance_49 : decode cX5_chance 49 = .ok (.iconst 1, 1) := by decide +kernel
theorem dX5_chance_50 : decode cX5_chance 50 = .ok (.invokestatic 177, 3) := by decide +kernel
theorem dX5_chance_53 : decode cX5_chance 53 = .ok (.iload_n 2, 1) := by decide +kernel
theorem dX5_chance_54 : decode cX5_chance 54 = .ok (.invokestatic 183, 3) := by decide +kernel
theorem dX5_chance_57 : decode cX5_chance 57 = .ok (.ireturn, 1) := by decide +kernel
theorem dX5_ask_0 : decode cX5_ask 0 = .ok (.aload_n 0, 1) := by decide +kernel
theorem dX5_ask_1 : decode cX5_ask 1 = .ok (.getfield 49, 3) := by decide +kernel
theorem dX5_ask_4 : decode cX5_ask 4 = .ok (.aload_n 0, 1) := by decide +kernel
theorem dX5_ask_5 : decode cX5_ask 5 = .ok (.getfield 19, 3) := by decide +kernel
theorem dX5_ask_8 : decode cX5_ask 8 = .ok (.aload_n 0, 1) := by decide +kernel
theorem dX5_ask_9 : decode cX5_ask 9 = .ok (.getfield 29, 3) := by decide +kernel
theorem dX5_ask_12 : decode cX5_ask 12 = .ok (.bipush (-9), 2) := by decide +kernel
theorem dX5_ask_14 : decode cX5_ask 14 = .ok (.invokevirtual 157, 3) := by decide +kernel
theorem dX5_ask_17 : decode cX5_ask 17 = .ok (.aload_n 0, 1) := by decide +kernel
theorem dX5_ask_18 : decode cX5_ask 18 = .ok (.getfield 49, 3) := by decide +kernel
theorem dX5_ask_21 : decode cX5_ask 21 = .ok (.invokevirtual 187, 3) := by decide +kernel
theorem dX5_ask_24 : decode cX5_ask 24 = .ok (.ireturn, 1) := by decide +kernel
theorem dX5_hang_0 : decode cX5_hang 0 = .ok (.aload_n 0, 1) := by decide +kernel
theorem dX5_hang_1 : decode cX5_hang 1 = .ok (.getfield 49, 3) := by decide +kernel
theorem dX5_hang_4 : decode cX5_hang 4 = .ok (.aload_n 0, 1) := by decide +kernel
theorem dX5_hang_5 : decode cX5_hang 5 = .ok (.getfield 19, 3) := by decide +kernel
theorem dX5_hang_8 : decode cX5_hang 8 = .ok (.aload_n 0, 1) := by decide +kernel
theorem dX5_hang_9 : decode cX5_hang 9 = .ok (.getfield 29, 3) := by decide +kernel
theorem dX5_hang_12 : decode cX5_hang 12 = .ok (.bipush (-9), 2) := by decide +kernel
theorem dX5_hang_14 : decode cX5_hang 14 = .ok (.invokevirtual 157, 3) := by decide +kernel
theorem dX5_hang_17 : decode cX5_hang 17 = .ok (.aload_n 0, 1) := by decide +kernel
theorem dX5_hang_18 : decode cX5_hang 18 = .ok (.getfield 49, 3) := by decide +kernel
theorem dX5_hang_21 : decode cX5_hang 21 = .ok (.invokevirtual 190, 3) := by decide +kernel
theorem dX5_hang_24 : decode cX5_hang 24 = .ok (.ireturn, 1) := by decide +kernel
theorem dX5_shift_0 : decode cX5_shift 0 = .ok (.iload_n 1, 1) := by decide +kernel
theorem dX5_shift_1 : decode cX5_shift 1 = .ok (.invokestatic 171, 3) := by decide +kernel
theorem dX5_shift_4 : decode cX5_shift 4 = .ok (.ifCond .ne 5, 3) := by decide +kernel
theorem dX5_shift_7 : decode cX5_shift 7 = .ok (.iconst (-1), 1) := by decide +kernel
theorem dX5_shift_8 : decode cX5_shift 8 = .ok (.ireturn, 1) := by decide +kernel
theorem dX5_shift_9 : decode cX5_shift 9 = .ok (.bipush (-9), 2) := by decide +kernel
theorem dX5_shift_11 : decode cX5_shift 11 = .ok (.istore_n 2, 1) := by decide +kernel
theorem dX5_shift_12 : decode cX5_shift 12 = .ok (.bipush (-9), 2) := by decide +kernel
theorem dX5_shift_14 : decode cX5_shift 14 = .ok (.istore_n 3, 1) := by decide +kernel
theorem dX5_shift_15 : decode cX5_shift 15 = .ok (.iconst 0, 1) := by decide +kernel
theorem dX5_shift_16 : decode cX5_shift 16 = .ok (.istore 4, 2) := by decide +kernel
theorem dX5_shift_18 : decode cX5_shift 18 = .ok (.iload 4, 2) := by decide +kernel
theorem dX5_shift_20 : decode cX5_shift 20 = .ok (.bipush 8, 2) := by decide +kernel
theorem dX5_shift_22 : decode cX5_shift 22 = .ok (.if_icmp .ge 67, 3) := by decide +kernel
theorem dX5_shift_25 : decode cX5_shift 25 = .ok (.aload_n 0, 1) := by decide +kernel
theorem dX5_shift_26 : decode cX5_shift 26 = .ok (.getfield 29, 3) := by decide +kernel
theorem dX5_shift_29 : decode cX5_shift 29 = .ok (.getfield 112, 3) := by decide +kernel
theorem dX5_shift_32 : decode cX5_shift 32 = .ok (.iload 4, 2) := by decide +kernel
theorem dX5_shift_34 : decode cX5_shift 34 = .ok (.invokestatic 85, 3) := by decide +kernel
theorem dX5_shift_37 : decode cX5_shift 37 = .ok (.bipush (-9), 2) := by decide +kernel
theorem dX5_shift_39 : decode cX5_shift 39 = .ok (.if_icmp .eq 44, 3) := by decide +kernel
theorem dX5_shift_42 : decode cX5_shift 42 = .ok (.aload_n 0, 1) := by decide +kernel
theorem dX5_shift_43 : decode cX5_shift 43 = .ok (.getfield 49, 3) := by decide +kernel
theorem dX5_shift_46 : decode cX5_shift 46 = .ok (.aload_n 0, 1) := by decide +kernel
theorem dX5_shift_47 : decode cX5_shift 47 = .ok (.getfield 19, 3) := by decide +kernel
theorem dX5_shift_50 : decode cX5_shift 50 = .ok (.aload_n 0, 1) := by decide +kernel
theorem dX5_shift_51 : decode cX5_shift 51 = .ok (.getfield 29, 3) := by decide +kernel
theorem dX5_shift_54 : decode cX5_shift 54 = .ok (.iload 4, 2) := by decide +kernel
theorem dX5_shift_56 : decode cX5_shift 56 = .ok (.invokevirtual 157, 3) := by decide +kernel
theorem dX5_shift_59 : decode cX5_shift 59 = .ok (.aload_n 0, 1) := by decide +kernel
theorem dX5_shift_60 : decode cX5_shift 60 = .ok (.getfield 49, 3) := by decide +kernel
theorem dX5_shift_63 : decode cX5_shift 63 = .ok (.invokevirtual 162, 3) := by decide +kernel
theorem dX5_shift_66 : decode cX5_shift 66 = .ok (.invokestatic 135, 3) := by decide +kernel
theorem dX5_shift_69 : decode cX5_shift 69 = .ok (.istore 5, 2) := by decide +kernel
theorem dX5_shift_71 : decode cX5_shift 71 = .ok (.iload 5, 2) := by decide +kernel
theorem dX5_shift_73 : decode cX5_shift 73 = .ok (.iload_n 3, 1) := by decide +kernel
theorem dX5_shift_74 : decode cX5_shift 74 = .ok (.if_icmp .le 9, 3) := by decide +kernel
theorem dX5_shift_77 : decode cX5_shift 77 = .ok (.iload 5, 2) := by decide +kernel
theorem dX5_shift_79 : decode cX5_shift 79 = .ok (.istore_n 3, 1) := by decide +kernel
theorem dX5_shift_80 : decode cX5_shift 80 = .ok (.iload 4, 2) := by decide +kernel
theorem dX5_shift_82 : decode cX5_shift 82 = .ok (.istore_n 2, 1) := by decide +kernel
theorem dX5_shift_83 : decode cX5_shift 83 = .ok (.iinc 4 1, 3) := by decide +kernel
theorem dX5_shift_86 : decode cX5_shift 86 = .ok (.goto (-68), 3) := by decide +kernel
theorem dX5_shift_89 : decode cX5_shift 89 = .ok (.iload_n 1, 1) := by decide +kernel
end
section
theorem dX5_shift_90 : decode cX5_shift 90 = .ok (.ifCond .ne 7, 3) := by decide +kernel
theorem dX5_shift_93 : decode cX5_shift 93 = .ok (.iload_n 2, 1) := by decide +kernel
theorem dX5_shift_94 : decode cX5_shift 94 = .ok (.goto 4, 3) := by decide +kernel
theorem dX5_shift_97 : decode cX5_shift 97 = .ok (.iload_n 3, 1) := by decide +kernel
theorem dX5_shift_98 : decode cX5_shift 98 = .ok (.ireturn, 1) := by decide +kernel
theorem dX5_odds_0 : decode cX5_odds 0 = .ok (.iload_n 1, 1) := by decide +kernel
theorem dX5_odds_1 : decode cX5_odds 1 = .ok (.ifCond .lt 26, 3) := by decide +kernel
theorem dX5_odds_4 : decode cX5_odds 4 = .ok (.iload_n 1, 1) := by decide +kernel
theorem dX5_odds_5 : decode cX5_odds 5 = .ok (.bipush 10, 2) := by decide +kernel
theorem dX5_odds_7 : decode cX5_odds 7 = .ok (.if_icmp .gt 20, 3) := by decide +kernel
theorem dX5_odds_10 : decode cX5_odds 10 = .ok (.iload_n 2, 1) := by decide +kernel
theorem dX5_odds_11 : decode cX5_odds 11 = .ok (.ifCond .lt 16, 3) := by decide +kernel
theorem dX5_odds_14 : decode cX5_odds 14 = .ok (.iload_n 2, 1) := by decide +kernel
theorem dX5_odds_15 : decode cX5_odds 15 = .ok (.bipush 7, 2) := by decide +kernel
theorem dX5_odds_17 : decode cX5_odds 17 = .ok (.if_icmp .gt 10, 3) := by decide +kernel
theorem dX5_odds_20 : decode cX5_odds 20 = .ok (.iload_n 3, 1) := by decide +kernel
theorem dX5_odds_21 : decode cX5_odds 21 = .ok (.invokestatic 171, 3) := by decide +kernel
theorem dX5_odds_24 : decode cX5_odds 24 = .ok (.ifCond .ne 5, 3) := by decide +kernel
theorem dX5_odds_27 : decode cX5_odds 27 = .ok (.iconst (-1), 1) := by decide +kernel
theorem dX5_odds_28 : decode cX5_odds 28 = .ok (.ireturn, 1) := by decide +kernel
theorem dX5_odds_29 : decode cX5_odds 29 = .ok (.aload_n 0, 1) := by decide +kernel
theorem dX5_odds_30 : decode cX5_odds 30 = .ok (.getfield 19, 3) := by decide +kernel
theorem dX5_odds_33 : decode cX5_odds 33 = .ok (.invokevirtual 154, 3) := by decide +kernel
theorem dX5_odds_36 : decode cX5_odds 36 = .ok (.aload_n 0, 1) := by decide +kernel
theorem dX5_odds_37 : decode cX5_odds 37 = .ok (.getfield 29, 3) := by decide +kernel
theorem dX5_odds_40 : decode cX5_odds 40 = .ok (.getfield 96, 3) := by decide +kernel
theorem dX5_odds_43 : decode cX5_odds 43 = .ok (.iconst (-1), 1) := by decide +kernel
theorem dX5_odds_44 : decode cX5_odds 44 = .ok (.ixor, 1) := by decide +kernel
theorem dX5_odds_45 : decode cX5_odds 45 = .ok (.iand, 1) := by decide +kernel
theorem dX5_odds_46 : decode cX5_odds 46 = .ok (.invokestatic 135, 3) := by decide +kernel
theorem dX5_odds_49 : decode cX5_odds 49 = .ok (.istore 4, 2) := by decide +kernel
theorem dX5_odds_51 : decode cX5_odds 51 = .ok (.iconst 0, 1) := by decide +kernel
theorem dX5_odds_52 : decode cX5_odds 52 = .ok (.istore 5, 2) := by decide +kernel
theorem dX5_odds_54 : decode cX5_odds 54 = .ok (.iconst 0, 1) := by decide +kernel
theorem dX5_odds_55 : decode cX5_odds 55 = .ok (.istore 6, 2) := by decide +kernel
theorem dX5_odds_57 : decode cX5_odds 57 = .ok (.iload 6, 2) := by decide +kernel
theorem dX5_odds_59 : decode cX5_odds 59 = .ok (.iconst 1, 1) := by decide +kernel
theorem dX5_odds_60 : decode cX5_odds 60 = .ok (.iload 4, 2) := by decide +kernel
theorem dX5_odds_62 : decode cX5_odds 62 = .ok (.ishl, 1) := by decide +kernel
theorem dX5_odds_63 : decode cX5_odds 63 = .ok (.if_icmp .ge 46, 3) := by decide +kernel
theorem dX5_odds_66 : decode cX5_odds 66 = .ok (.iload 6, 2) := by decide +kernel
theorem dX5_odds_68 : decode cX5_odds 68 = .ok (.invokestatic 135, 3) := by decide +kernel
theorem dX5_odds_71 : decode cX5_odds 71 = .ok (.istore 7, 2) := by decide +kernel
theorem dX5_odds_73 : decode cX5_odds 73 = .ok (.iload 7, 2) := by decide +kernel
theorem dX5_odds_75 : decode cX5_odds 75 = .ok (.iload_n 2, 1) := by decide +kernel
theorem dX5_odds_76 : decode cX5_odds 76 = .ok (.if_icmp .gt 27, 3) := by decide +kernel
theorem dX5_odds_79 : decode cX5_odds 79 = .ok (.iload 5, 2) := by decide +kernel
theorem dX5_odds_81 : decode cX5_odds 81 = .ok (.iload_n 1, 1) := by decide +kernel
theorem dX5_odds_82 : decode cX5_odds 82 = .ok (.iload 7, 2) := by decide +kernel
theorem dX5_odds_84 : decode cX5_odds 84 = .ok (.invokestatic 193, 3) := by decide +kernel
theorem dX5_odds_87 : decode cX5_odds 87 = .ok (.bipush 10, 2) := by decide +kernel
theorem dX5_odds_89 : decode cX5_odds 89 = .ok (.iload_n 1, 1) := by decide +kernel
theorem dX5_odds_90 : decode cX5_odds 90 = .ok (.isub, 1) := by decide +kernel
theorem dX5_odds_91 : decode cX5_odds 91 = .ok (.iload 4, 2) := by decide +kernel
theorem dX5_odds_93 : decode cX5_odds 93 = .ok (.iload 7, 2) := by decide +kernel
theorem dX5_odds_95 : decode cX5_odds 95 = .ok (.isub, 1) := by decide +kernel
theorem dX5_odds_96 : decode cX5_odds 96 = .ok (.invokestatic 193, 3) := by decide +kernel
theorem dX5_odds_99 : decode cX5_odds 99 = .ok (.imul, 1) := by decide +kernel
theorem dX5_odds_100 : decode cX5_odds 100 = .ok (.iadd, 1) := by decide +kernel
theorem dX5_odds_101 : decode cX5_odds 101 = .ok (.istore 5, 2) := by decide +kernel
theorem dX5_odds_103 : decode cX5_odds 103 = .ok (.iinc 6 1, 3) := by decide +kernel
theorem dX5_odds_106 : decode cX5_odds 106 = .ok (.goto (-49), 3) := by decide +kernel
theorem dX5_odds_109 : decode cX5_odds 109 = .ok (.iload 5, 2) := by decide +kernel
theorem dX5_odds_111 : decode cX5_odds 111 = .ok (.bipush 10, 2) := by decide +kernel
theorem dX5_odds_113 : decode cX5_odds 113 = .ok (.iload 4, 2) := by decide +kernel
theorem dX5_odds_115 : decode cX5_odds 115 = .ok (.invokestatic 193, 3) := by decide +kernel
theorem dX5_odds_118 : decode cX5_odds 118 = .ok (.iload_n 3, 1) := by decide +kernel
theorem dX5_odds_119 : decode cX5_odds 119 = .ok (.invokestatic 183, 3) := by decide +kernel
theorem dX5_odds_122 : decode cX5_odds 122 = .ok (.ireturn, 1) := by decide +kernel
theorem dX5_bold_0 : decode cX5_bold 0 = .ok (.iload_n 1, 1) := by decide +kernel
theorem dX5_bold_1 : decode cX5_bold 1 = .ok (.ifCond .lt 9, 3) := by decide +kernel
theorem dX5_bold_4 : decode cX5_bold 4 = .ok (.iload_n 1, 1) := by decide +kernel
theorem dX5_bold_5 : decode cX5_bold 5 = .ok (.bipush 7, 2) := by decide +kernel
theorem dX5_bold_7 : decode cX5_bold 7 = .ok (.if_icmp .le 5, 3) := by decide +kernel
theorem dX5_bold_10 : decode cX5_bold 10 = .ok (.iconst (-1), 1) := by decide +kernel
theorem dX5_bold_11 : decode cX5_bold 11 = .ok (.ireturn, 1) := by decide +kernel
theorem dX5_bold_12 : decode cX5_bold 12 = .ok (.iconst 0, 1) := by decide +kernel
theorem dX5_bold_13 : decode cX5_bold 13 = .ok (.istore_n 2, 1) := by decide +kernel
theorem dX5_bold_14 : decode cX5_bold 14 = .ok (.iconst 0, 1) := by decide +kernel
theorem dX5_bold_15 : decode cX5_bold 15 = .ok (.istore_n 3, 1) := by decide +kernel
theorem dX5_bold_16 : decode cX5_bold 16 = .ok (.iload_n 3, 1) := by decide +kernel
theorem dX5_bold_17 : decode cX5_bold 17 = .ok (.aload_n 0, 1) := by decide +kernel
theorem dX5_bold_18 : decode cX5_bold 18 = .ok (.getfield 19, 3) := by decide +kernel
theorem dX5_bold_21 : decode cX5_bold 21 = .ok (.getfield 196, 3) := by decide +kernel
theorem dX5_bold_24 : decode cX5_bold 24 = .ok (.if_icmp .ge 27, 3) := by decide +kernel
theorem dX5_bold_27 : decode cX5_bold 27 = .ok (.aload_n 0, 1) := by decide +kernel
theorem dX5_bold_28 : decode cX5_bold 28 = .ok (.getfield 19, 3) := by decide +kernel
theorem dX5_bold_31 : decode cX5_bold 31 = .ok (.getfield 89, 3) := by decide +kernel
theorem dX5_bold_34 : decode cX5_bold 34 = .ok (.iload_n 3, 1) := by decide +kernel
theorem dX5_bold_35 : decode cX5_bold 35 = .ok (.invokestatic 85, 3) := by decide +kernel
theorem dX5_bold_38 : decode cX5_bold 38 = .ok (.iload_n 1, 1) := by decide +kernel
theorem dX5_bold_39 : decode cX5_bold 39 = .ok (.if_icmp .gt 6, 3) := by decide +kernel
theorem dX5_bold_42 : decode cX5_bold 42 = .ok (.iinc 2 1, 3) := by decide +kernel
theorem dX5_bold_45 : decode cX5_bold 45 = .ok (.iinc 3 1, 3) := by decide +kernel
theorem dX5_bold_48 : decode cX5_bold 48 = .ok (.goto (-32), 3) := by decide +kernel
theorem dX5_bold_51 : decode cX5_bold 51 = .ok (.iload_n 2, 1) := by decide +kernel
theorem dX5_bold_52 : decode cX5_bold 52 = .ok (.ireturn, 1) := by decide +kernel
theorem dX5_clique_0 : decode cX5_clique 0 = .ok (.iload_n 1, 1) := by decide +kernel
theorem dX5_clique_1 : decode cX5_clique 1 = .ok (.invokestatic 171, 3) := by decide +kernel
theorem dX5_clique_4 : decode cX5_clique 4 = .ok (.ifCond .ne 5, 3) := by decide +kernel
theorem dX5_clique_7 : decode cX5_clique 7 = .ok (.iconst (-1), 1) := by decide +kernel
theorem dX5_clique_8 : decode cX5_clique 8 = .ok (.ireturn, 1) := by decide +kernel
theorem dX5_clique_9 : decode cX5_clique 9 = .ok (.aload_n 0, 1) := by decide +kernel
theorem dX5_clique_10 : decode cX5_clique 10 = .ok (.getfield 19, 3) := by decide +kernel
theorem dX5_clique_13 : decode cX5_clique 13 = .ok (.invokevirtual 197, 3) := by decide +kernel
theorem dX5_clique_16 : decode cX5_clique 16 = .ok (.istore_n 2, 1) := by decide +kernel
theorem dX5_clique_17 : decode cX5_clique 17 = .ok (.iload_n 1, 1) := by decide +kernel
theorem dX5_clique_18 : decode cX5_clique 18 = .ok (.ifCond .ne 10, 3) := by decide +kernel
theorem dX5_clique_21 : decode cX5_clique 21 = .ok (.iload_n 2, 1) := by decide +kernel
theorem dX5_clique_22 : decode cX5_clique 22 = .ok (.invokestatic 135, 3) := by decide +kernel
theorem dX5_clique_25 : decode cX5_clique 25 = .ok (.goto 4, 3) := by decide +kernel
theorem dX5_clique_28 : decode cX5_clique 28 = .ok (.iload_n 2, 1) := by decide +kernel
theorem dX5_clique_29 : decode cX5_clique 29 = .ok (.ireturn, 1) := by decide +kernel
theorem dX5_rate_0 : decode cX5_rate 0 = .ok (.aload_n 0, 1) := by decide +kernel
theorem dX5_rate_1 : decode cX5_rate 1 = .ok (.iload_n 2, 1) := by decide +kernel
theorem dX5_rate_2 : decode cX5_rate 2 = .ok (.invokevirtual 78, 3) := by decide +kernel
theorem dX5_rate_5 : decode cX5_rate 5 = .ok (.ifCond .ne 6, 3) := by decide +kernel
theorem dX5_rate_8 : decode cX5_rate 8 = .ok (.ldc 200, 2) := by decide +kernel
theorem dX5_rate_10 : decode cX5_rate 10 = .ok (.ireturn, 1) := by decide +kernel
theorem dX5_rate_11 : decode cX5_rate 11 = .ok (.iload_n 1, 1) := by decide +kernel
theorem dX5_rate_12 : decode cX5_rate 12 = .ok (.tableswitch 76 0 5 #[40, 46, 52, 58, 64, 70], 40) := by decide +kernel
theorem dX5_rate_52 : decode cX5_rate 52 = .ok (.aload_n 0, 1) := by decide +kernel
theorem dX5_rate_53 : decode cX5_rate 53 = .ok (.iload_n 2, 1) := by decide +kernel
theorem dX5_rate_54 : decode cX5_rate 54 = .ok (.invokevirtual 201, 3) := by decide +kernel
theorem dX5_rate_57 : decode cX5_rate 57 = .ok (.ireturn, 1) := by decide +kernel
theorem dX5_rate_58 : decode cX5_rate 58 = .ok (.aload_n 0, 1) := by decide +kernel
theorem dX5_rate_59 : decode cX5_rate 59 = .ok (.iload_n 2, 1) := by decide +kernel
theorem dX5_rate_60 : decode cX5_rate 60 = .ok (.invokevirtual 204, 3) := by decide +kernel
theorem dX5_rate_63 : decode cX5_rate 63 = .ok (.ireturn, 1) := by decide +kernel
theorem dX5_rate_64 : decode cX5_rate 64 = .ok (.aload_n 0, 1) := by decide +kernel
theorem dX5_rate_65 : decode cX5_rate 65 = .ok (.iload_n 2, 1) := by decide +kernel
theorem dX5_rate_66 : decode cX5_rate 66 = .ok (.invokevirtual 207, 3) := by decide +kernel
theorem dX5_rate_69 : decode cX5_rate 69 = .ok (.ireturn, 1) := by decide +kernel
theorem dX5_rate_70 : decode cX5_rate 70 = .ok (.aload_n 0, 1) := by decide +kernel
theorem dX5_rate_71 : decode cX5_rate 71 = .ok (.iload_n 2, 1) := by decide +kernel
theorem dX5_rate_72 : decode cX5_rate 72 = .ok (.invokevirtual 210, 3) := by decide +kernel
theorem dX5_rate_75 : decode cX5_rate 75 = .ok (.ireturn, 1) := by decide +kernel
theorem dX5_rate_76 : decode cX5_rate 76 = .ok (.aload_n 0, 1) := by decide +kernel
theorem dX5_rate_77 : decode cX5_rate 77 = .ok (.iload_n 2, 1) := by decide +kernel
theorem dX5_rate_78 : decode cX5_rate 78 = .ok (.invokevirtual 213, 3) := by decide +kernel
theorem dX5_rate_81 : decode cX5_rate 81 = .ok (.ireturn, 1) := by decide +kernel
theorem dX5_rate_82 : decode cX5_rate 82 = .ok (.aload_n 0, 1) := by decide +kernel
theorem dX5_rate_83 : decode cX5_rate 83 = .ok (.iload_n 2, 1) := by decide +kernel
theorem dX5_rate_84 : decode cX5_rate 84 = .ok (.invokevirtual 216, 3) := by decide +kernel
theorem dX5_rate_87 : decode cX5_rate 87 = .ok (.ireturn, 1) := by decide +kernel
theorem dX5_rate_88 : decode cX5_rate 88 = .ok (.ldc 200, 2) := by decide +kernel
theorem dX5_rate_90 : decode cX5_rate 90 = .ok (.ireturn, 1) := by decide +kernel
theorem dX5_keep_0 : decode cX5_keep 0 = .ok (.iload_n 1, 1) := by decide +kernel
theorem dX5_keep_1 : decode cX5_keep 1 = .ok (.invokestatic 171, 3) := by decide +kernel
theorem dX5_keep_4 : decode cX5_keep 4 = .ok (.ifCond .ne 5, 3) := by decide +kernel
theorem dX5_keep_7 : decode cX5_keep 7 = .ok (.iconst (-1), 1) := by decide +kernel
theorem dX5_keep_8 : decode cX5_keep 8 = .ok (.ireturn, 1) := by decide +kernel
theorem dX5_keep_9 : decode cX5_keep 9 = .ok (.aload_n 0, 1) := by decide +kernel
theorem dX5_keep_10 : decode cX5_keep 10 = .ok (.iload_n 1, 1) := by decide +kernel
theorem dX5_keep_11 : decode cX5_keep 11 = .ok (.invokevirtual 219, 3) := by decide +kernel
theorem dX5_keep_14 : decode cX5_keep 14 = .ok (.aload_n 0, 1) := by decide +kernel
theorem dX5_keep_15 : decode cX5_keep 15 = .ok (.getfield 29, 3) := by decide +kernel
theorem dX5_keep_18 : decode cX5_keep 18 = .ok (.invokevirtual 223, 3) := by decide +kernel
theorem dX5_keep_21 : decode cX5_keep 21 = .ok (.aload_n 0, 1) := by decide +kernel
theorem dX5_keep_22 : decode cX5_keep 22 = .ok (.dup, 1) := by decide +kernel
theorem dX5_keep_23 : decode cX5_keep 23 = .ok (.getfield 75, 3) := by decide +kernel
theorem dX5_keep_26 : decode cX5_keep 26 = .ok (.iconst 1, 1) := by decide +kernel
theorem dX5_keep_27 : decode cX5_keep 27 = .ok (.iload_n 1, 1) := by decide +kernel
theorem dX5_keep_28 : decode cX5_keep 28 = .ok (.ishl, 1) := by decide +kernel
theorem dX5_keep_29 : decode cX5_keep 29 = .ok (.ior, 1) := by decide +kernel
theorem dX5_keep_30 : decode cX5_keep 30 = .ok (.putfield 75, 3) := by decide +kernel
theorem dX5_keep_33 : decode cX5_keep 33 = .ok (.aload_n 0, 1) := by decide +kernel
theorem dX5_keep_34 : decode cX5_keep 34 = .ok (.getfield 29, 3) := by decide +kernel
theorem dX5_keep_37 : decode cX5_keep 37 = .ok (.getfield 118, 3) := by decide +kernel
theorem dX5_keep_40 : decode cX5_keep 40 = .ok (.ireturn, 1) := by decide +kernel
theorem dX5_back_0 : decode cX5_back 0 = .ok (.iload_n 1, 1) := by decide +kernel
theorem dX5_back_1 : decode cX5_back 1 = .ok (.invokestatic 171, 3) := by decide +kernel
theorem dX5_back_4 : decode cX5_back 4 = .ok (.ifCond .ne 5, 3) := by decide +kernel
theorem dX5_back_7 : decode cX5_back 7 = .ok (.iconst (-1), 1) := by decide +kernel
theorem dX5_back_8 : decode cX5_back 8 = .ok (.ireturn, 1) := by decide +kernel
theorem dX5_back_9 : decode cX5_back 9 = .ok (.aload_n 0, 1) := by decide +kernel
theorem dX5_back_10 : decode cX5_back 10 = .ok (.getfield 75, 3) := by decide +kernel
theorem dX5_back_13 : decode cX5_back 13 = .ok (.iload_n 1, 1) := by decide +kernel
theorem dX5_back_14 : decode cX5_back 14 = .ok (.invokestatic 99, 3) := by decide +kernel
theorem dX5_back_17 : decode cX5_back 17 = .ok (.ifCond .ne 6, 3) := by decide +kernel
theorem dX5_back_20 : decode cX5_back 20 = .ok (.bipush (-2), 2) := by decide +kernel
theorem dX5_back_22 : decode cX5_back 22 = .ok (.ireturn, 1) := by decide +kernel
theorem dX5_back_23 : decode cX5_back 23 = .ok (.aload_n 0, 1) := by decide +kernel
theorem dX5_back_24 : decode cX5_back 24 = .ok (.getfield 29, 3) := by decide +kernel
theorem dX5_back_27 : decode cX5_back 27 = .ok (.aload_n 0, 1) := by decide +kernel
theorem dX5_back_28 : decode cX5_back 28 = .ok (.iload_n 1, 1) := by decide +kernel
theorem dX5_back_29 : decode cX5_back 29 = .ok (.invokevirtual 219, 3) := by decide +kernel
theorem dX5_back_32 : decode cX5_back 32 = .ok (.invokevirtual 223, 3) := by decide +kernel
theorem dX5_back_35 : decode cX5_back 35 = .ok (.aload_n 0, 1) := by decide +kernel
theorem dX5_back_36 : decode cX5_back 36 = .ok (.getfield 36, 3) := by decide +kernel
theorem dX5_back_39 : decode cX5_back 39 = .ok (.invokevirtual 72, 3) := by decide +kernel
theorem dX5_back_42 : decode cX5_back 42 = .ok (.aload_n 0, 1) := by decide +kernel
theorem dX5_back_43 : decode cX5_back 43 = .ok (.getfield 29, 3) := by decide +kernel
theorem dX5_back_46 : decode cX5_back 46 = .ok (.getfield 118, 3) := by decide +kernel
theorem dX5_back_49 : decode cX5_back 49 = .ok (.ireturn, 1) := by decide +kernel
theorem dX5_count_0 : decode cX5_count 0 = .ok (.iload_n 1, 1) := by decide +kernel
theorem dX5_count_1 : decode cX5_count 1 = .ok (.tableswitch 63 0 3 #[31, 39, 47, 55], 31) := by decide +kernel
theorem dX5_count_32 : decode cX5_count 32 = .ok (.aload_n 0, 1) := by decide +kernel
theorem dX5_count_33 : decode cX5_count 33 = .ok (.getfield 19, 3) := by decide +kernel
theorem dX5_count_36 : decode cX5_count 36 = .ok (.getfield 196, 3) := by decide +kernel
theorem dX5_count_39 : decode cX5_count 39 = .ok (.ireturn, 1) := by decide +kernel
theorem dX5_count_40 : decode cX5_count 40 = .ok (.aload_n 0, 1) := by decide +kernel
theorem dX5_count_41 : decode cX5_count 41 = .ok (.getfield 19, 3) := by decide +kernel
theorem dX5_count_44 : decode cX5_count 44 = .ok (.getfield 225, 3) := by decide +kernel
theorem dX5_count_47 : decode cX5_count 47 = .ok (.ireturn, 1) := by decide +kernel
theorem dX5_count_48 : decode cX5_count 48 = .ok (.aload_n 0, 1) := by decide +kernel
theorem dX5_count_49 : decode cX5_count 49 = .ok (.getfield 19, 3) := by decide +kernel
theorem dX5_count_52 : decode cX5_count 52 = .ok (.getfield 228, 3) := by decide +kernel
theorem dX5_count_55 : decode cX5_count 55 = .ok (.ireturn, 1) := by decide +kernel
theorem dX5_count_56 : decode cX5_count 56 = .ok (.aload_n 0, 1) := by decide +kernel
theorem dX5_count_57 : decode cX5_count 57 = .ok (.getfield 10, 3) := by decide +kernel
theorem dX5_count_60 : decode cX5_count 60 = .ok (.getfield 57, 3) := by decide +kernel
theorem dX5_count_63 : decode cX5_count 63 = .ok (.ireturn, 1) := by decide +kernel
theorem dX5_count_64 : decode cX5_count 64 = .ok (.iconst (-1), 1) := by decide +kernel
theorem dX5_count_65 : decode cX5_count 65 = .ok (.ireturn, 1) := by decide +kernel
theorem dX5_trace_0 : decode cX5_trace 0 = .ok (.aload_n 0, 1) := by decide +kernel
theorem dX5_trace_1 : decode cX5_trace 1 = .ok (.getfield 231, 3) := by decide +kernel
theorem dX5_trace_4 : decode cX5_trace 4 = .ok (.lreturn, 1) := by decide +kernel
theorem dX5_isSailor_0 : decode cX5_isSailor 0 = .ok (.iload_n 1, 1) := by decide +kernel
theorem dX5_isSailor_1 : decode cX5_isSailor 1 = .ok (.ifCond .lt 18, 3) := by decide +kernel
theorem dX5_isSailor_4 : decode cX5_isSailor 4 = .ok (.iload_n 1, 1) := by decide +kernel
theorem dX5_isSailor_5 : decode cX5_isSailor 5 = .ok (.aload_n 0, 1) := by decide +kernel
theorem dX5_isSailor_6 : decode cX5_isSailor 6 = .ok (.getfield 19, 3) := by decide +kernel
theorem dX5_isSailor_9 : decode cX5_isSailor 9 = .ok (.getfield 196, 3) := by decide +kernel
theorem dX5_isSailor_12 : decode cX5_isSailor 12 = .ok (.if_icmp .ge 7, 3) := by decide +kernel
theorem dX5_isSailor_15 : decode cX5_isSailor 15 = .ok (.iconst 1, 1) := by decide +kernel
theorem dX5_isSailor_16 : decode cX5_isSailor 16 = .ok (.goto 4, 3) := by decide +kernel
theorem dX5_isSailor_19 : decode cX5_isSailor 19 = .ok (.iconst 0, 1) := by decide +kernel
theorem dX5_isSailor_20 : decode cX5_isSailor 20 = .ok (.ireturn, 1) := by decide +kernel
theorem dX5_isSeat_0 : decode cX5_isSeat 0 = .ok (.iload_n 1, 1) := by decide +kernel
theorem dX5_isSeat_1 : decode cX5_isSeat 1 = .ok (.ifCond .lt 18, 3) := by decide +kernel
theorem dX5_isSeat_4 : decode cX5_isSeat 4 = .ok (.iload_n 1, 1) := by decide +kernel
theorem dX5_isSeat_5 : decode cX5_isSeat 5 = .ok (.aload_n 0, 1) := by decide +kernel
theorem dX5_isSeat_6 : decode cX5_isSeat 6 = .ok (.getfield 19, 3) := by decide +kernel
theorem dX5_isSeat_9 : decode cX5_isSeat 9 = .ok (.getfield 228, 3) := by decide +kernel
theorem dX5_isSeat_12 : decode cX5_isSeat 12 = .ok (.if_icmp .ge 7, 3) := by decide +kernel
theorem dX5_isSeat_15 : decode cX5_isSeat 15 = .ok (.iconst 1, 1) := by decide +kernel
theorem dX5_isSeat_16 : decode cX5_isSeat 16 = .ok (.goto 4, 3) := by decide +kernel
theorem dX5_isSeat_19 : decode cX5_isSeat 19 = .ok (.iconst 0, 1) := by decide +kernel
theorem dX5_isSeat_20 : decode cX5_isSeat 20 = .ok (.ireturn, 1) := by decide +kernel
theorem dX5_isThere_0 : decode cX5_isThere 0 = .ok (.aload_n 0, 1) := by decide +kernel
theorem dX5_isThere_1 : decode cX5_isThere 1 = .ok (.iload_n 1, 1) := by decide +kernel
theorem dX5_isThere_2 : decode cX5_isThere 2 = .ok (.invokevirtual 78, 3) := by decide +kernel
theorem dX5_isThere_5 : decode cX5_isThere 5 = .ok (.ifCond .eq 21, 3) := by decide +kernel
theorem dX5_isThere_8 : decode cX5_isThere 8 = .ok (.aload_n 0, 1) := by decide +kernel
theorem dX5_isThere_9 : decode cX5_isThere 9 = .ok (.getfield 29, 3) := by decide +kernel
theorem dX5_isThere_12 : decode cX5_isThere 12 = .ok (.invokevirtual 121, 3) := by decide +kernel
theorem dX5_isThere_15 : decode cX5_isThere 15 = .ok (.iload_n 1, 1) := by decide +kernel
theorem dX5_isThere_16 : decode cX5_isThere 16 = .ok (.invokestatic 99, 3) := by decide +kernel
theorem dX5_isThere_19 : decode cX5_isThere 19 = .ok (.ifCond .eq 7, 3) := by decide +kernel
theorem dX5_isThere_22 : decode cX5_isThere 22 = .ok (.iconst 1, 1) := by decide +kernel
theorem dX5_isThere_23 : decode cX5_isThere 23 = .ok (.goto 4, 3) := by decide +kernel
theorem dX5_isThere_26 : decode cX5_isThere 26 = .ok (.iconst 0, 1) := by decide +kernel
theorem dX5_isThere_27 : decode cX5_isThere 27 = .ok (.ireturn, 1) := by decide +kernel
theorem dX5_isPart_0 : decode cX5_isPart 0 = .ok (.iload_n 0, 1) := by decide +kernel
theorem dX5_isPart_1 : decode cX5_isPart 1 = .ok (.ifCond .eq 8, 3) := by decide +kernel
theorem dX5_isPart_4 : decode cX5_isPart 4 = .ok (.iload_n 0, 1) := by decide +kernel
theorem dX5_isPart_5 : decode cX5_isPart 5 = .ok (.iconst 1, 1) := by decide +kernel
theorem dX5_isPart_6 : decode cX5_isPart 6 = .ok (.if_icmp .ne 7, 3) := by decide +kernel
theorem dX5_isPart_9 : decode cX5_isPart 9 = .ok (.iconst 1, 1) := by decide +kernel
theorem dX5_isPart_10 : decode cX5_isPart 10 = .ok (.goto 4, 3) := by decide +kernel
theorem dX5_isPart_13 : decode cX5_isPart 13 = .ok (.iconst 0, 1) := by decide +kernel
theorem dX5_isPart_14 : decode cX5_isPart 14 = .ok (.ireturn, 1) := by decide +kernel
theorem dX5_wouldSign_0 : decode cX5_wouldSign 0 = .ok (.aload_n 0, 1) := by decide +kernel
theorem dX5_wouldSign_1 : decode cX5_wouldSign 1 = .ok (.getfield 29, 3) := by decide +kernel
theorem dX5_wouldSign_4 : decode cX5_wouldSign 4 = .ok (.getfield 96, 3) := by decide +kernel
theorem dX5_wouldSign_7 : decode cX5_wouldSign 7 = .ok (.iload_n 1, 1) := by decide +kernel
theorem dX5_wouldSign_8 : decode cX5_wouldSign 8 = .ok (.invokestatic 99, 3) := by decide +kernel
theorem dX5_wouldSign_11 : decode cX5_wouldSign 11 = .ok (.ifCond .ne 43, 3) := by decide +kernel
theorem dX5_wouldSign_14 : decode cX5_wouldSign 14 = .ok (.aload_n 0, 1) := by decide +kernel
theorem dX5_wouldSign_15 : decode cX5_wouldSign 15 = .ok (.getfield 19, 3) := by decide +kernel
theorem dX5_wouldSign_18 : decode cX5_wouldSign 18 = .ok (.iload_n 1, 1) := by decide +kernel
theorem dX5_wouldSign_19 : decode cX5_wouldSign 19 = .ok (.aload_n 0, 1) := by decide +kernel
theorem dX5_wouldSign_20 : decode cX5_wouldSign 20 = .ok (.getfield 29, 3) := by decide +kernel
theorem dX5_wouldSign_23 : decode cX5_wouldSign 23 = .ok (.getfield 118, 3) := by decide +kernel
theorem dX5_wouldSign_26 : decode cX5_wouldSign 26 = .ok (.invokevirtual 235, 3) := by decide +kernel
theorem dX5_wouldSign_29 : decode cX5_wouldSign 29 = .ok (.ifCond .ne 25, 3) := by decide +kernel
theorem dX5_wouldSign_32 : decode cX5_wouldSign 32 = .ok (.aload_n 0, 1) := by decide +kernel
theorem dX5_wouldSign_33 : decode cX5_wouldSign 33 = .ok (.getfield 19, 3) := by decide +kernel
theorem dX5_wouldSign_36 : decode cX5_wouldSign 36 = .ok (.iload_n 1, 1) := by decide +kernel
theorem dX5_wouldSign_37 : decode cX5_wouldSign 37 = .ok (.aload_n 0, 1) := by decide +kernel
theorem dX5_wouldSign_38 : decode cX5_wouldSign 38 = .ok (.getfield 29, 3) := by decide +kernel
theorem dX5_wouldSign_41 : decode cX5_wouldSign 41 = .ok (.getfield 96, 3) := by decide +kernel
theorem dX5_wouldSign_44 : decode cX5_wouldSign 44 = .ok (.invokevirtual 238, 3) := by decide +kernel
theorem dX5_wouldSign_47 : decode cX5_wouldSign 47 = .ok (.ifCond .eq 7, 3) := by decide +kernel
theorem dX5_wouldSign_50 : decode cX5_wouldSign 50 = .ok (.iconst 1, 1) := by decide +kernel
theorem dX5_wouldSign_51 : decode cX5_wouldSign 51 = .ok (.goto 4, 3) := by decide +kernel
theorem dX5_wouldSign_54 : decode cX5_wouldSign 54 = .ok (.iconst 0, 1) := by decide +kernel
theorem dX5_wouldSign_55 : decode cX5_wouldSign 55 = .ok (.ireturn, 1) := by decide +kernel
theorem dX5_thoseWhoWould_0 : decode cX5_thoseWhoWould 0 = .ok (.iconst 0, 1) := by decide +kernel
theorem dX5_thoseWhoWould_1 : decode cX5_thoseWhoWould 1 = .ok (.istore_n 1, 1) := by decide +kernel
theorem dX5_thoseWhoWould_2 : decode cX5_thoseWhoWould 2 = .ok (.iconst 0, 1) := by decide +kernel
theorem dX5_thoseWhoWould_3 : decode cX5_thoseWhoWould 3 = .ok (.istore_n 2, 1) := by decide +kernel
theorem dX5_thoseWhoWould_4 : decode cX5_thoseWhoWould 4 = .ok (.iload_n 2, 1) := by decide +kernel
theorem dX5_thoseWhoWould_5 : decode cX5_thoseWhoWould 5 = .ok (.aload_n 0, 1) := by decide +kernel
theorem dX5_thoseWhoWould_6 : decode cX5_thoseWhoWould 6 = .ok (.getfield 19, 3) := by decide +kernel
theorem dX5_thoseWhoWould_9 : decode cX5_thoseWhoWould 9 = .ok (.getfield 196, 3) := by decide +kernel
theorem dX5_thoseWhoWould_12 : decode cX5_thoseWhoWould 12 = .ok (.if_icmp .ge 23, 3) := by decide +kernel
theorem dX5_thoseWhoWould_15 : decode cX5_thoseWhoWould 15 = .ok (.aload_n 0, 1) := by decide +kernel
theorem dX5_thoseWhoWould_16 : decode cX5_thoseWhoWould 16 = .ok (.iload_n 2, 1) := by decide +kernel
theorem dX5_thoseWhoWould_17 : decode cX5_thoseWhoWould 17 = .ok (.invokevirtual 106, 3) := by decide +kernel
theorem dX5_thoseWhoWould_20 : decode cX5_thoseWhoWould 20 = .ok (.ifCond .eq 9, 3) := by decide +kernel
theorem dX5_thoseWhoWould_23 : decode cX5_thoseWhoWould 23 = .ok (.iload_n 1, 1) := by decide +kernel
theorem dX5_thoseWhoWould_24 : decode cX5_thoseWhoWould 24 = .ok (.iconst 1, 1) := by decide +kernel
theorem dX5_thoseWhoWould_25 : decode cX5_thoseWhoWould 25 = .ok (.iload_n 2, 1) := by decide +kernel
theorem dX5_thoseWhoWould_26 : decode cX5_thoseWhoWould 26 = .ok (.ishl, 1) := by decide +kernel
theorem dX5_thoseWhoWould_27 : decode cX5_thoseWhoWould 27 = .ok (.ior, 1) := by decide +kernel
theorem dX5_thoseWhoWould_28 : decode cX5_thoseWhoWould 28 = .ok (.istore_n 1, 1) := by decide +kernel
theorem dX5_thoseWhoWould_29 : decode cX5_thoseWhoWould 29 = .ok (.iinc 2 1, 3) := by decide +kernel
theorem dX5_thoseWhoWould_32 : decode cX5_thoseWhoWould 32 = .ok (.goto (-28), 3) := by decide +kernel
theorem dX5_thoseWhoWould_35 : decode cX5_thoseWhoWould 35 = .ok (.iload_n 1, 1) := by decide +kernel
theorem dX5_thoseWhoWould_36 : decode cX5_thoseWhoWould 36 = .ok (.ireturn, 1) := by decide +kernel
theorem dX5_imageAt_0 : decode cX5_imageAt 0 = .ok (.iload_n 1, 1) := by decide +kernel
theorem dX5_imageAt_1 : decode cX5_imageAt 1 = .ok (.ifCond .ne 10, 3) := by decide +kernel
theorem dX5_imageAt_4 : decode cX5_imageAt 4 = .ok (.aload_n 0, 1) := by decide +kernel
theorem dX5_imageAt_5 : decode cX5_imageAt 5 = .ok (.getfield 40, 3) := by decide +kernel
theorem dX5_imageAt_8 : decode cX5_imageAt 8 = .ok (.goto 7, 3) := by decide +kernel
theorem dX5_imageAt_11 : decode cX5_imageAt 11 = .ok (.aload_n 0, 1) := by decide +kernel
theorem dX5_imageAt_12 : decode cX5_imageAt 12 = .ok (.getfield 43, 3) := by decide +kernel
theorem dX5_imageAt_15 : decode cX5_imageAt 15 = .ok (.areturn, 1) := by decide +kernel
theorem dX5_asSailor_0 : decode cX5_asSailor 0 = .ok (.aload_n 0, 1) := by decide +kernel
theorem dX5_asSailor_1 : decode cX5_asSailor 1 = .ok (.dup, 1) := by decide +kernel
theorem dX5_asSailor_2 : decode cX5_asSailor 2 = .ok (.getfield 231, 3) := by decide +kernel
theorem dX5_asSailor_5 : decode cX5_asSailor 5 = .ok (.lconst 1, 1) := by decide +kernel
theorem dX5_asSailor_6 : decode cX5_asSailor 6 = .ok (.ladd, 1) := by decide +kernel
theorem dX5_asSailor_7 : decode cX5_asSailor 7 = .ok (.putfield 231, 3) := by decide +kernel
theorem dX5_asSailor_10 : decode cX5_asSailor 10 = .ok (.aload_n 0, 1) := by decide +kernel
theorem dX5_asSailor_11 : decode cX5_asSailor 11 = .ok (.getfield 19, 3) := by decide +kernel
theorem dX5_asSailor_14 : decode cX5_asSailor 14 = .ok (.getfield 89, 3) := by decide +kernel
theorem dX5_asSailor_17 : decode cX5_asSailor 17 = .ok (.iload_n 1, 1) := by decide +kernel
theorem dX5_asSailor_18 : decode cX5_asSailor 18 = .ok (.invokestatic 85, 3) := by decide +kernel
theorem dX5_asSailor_21 : decode cX5_asSailor 21 = .ok (.ireturn, 1) := by decide +kernel
theorem dX5_asCook_0 : decode cX5_asCook 0 = .ok (.aload_n 0, 1) := by decide +kernel
theorem dX5_asCook_1 : decode cX5_asCook 1 = .ok (.dup, 1) := by decide +kernel
theorem dX5_asCook_2 : decode cX5_asCook 2 = .ok (.getfield 231, 3) := by decide +kernel
theorem dX5_asCook_5 : decode cX5_asCook 5 = .ok (.ldc2_w 241, 3) := by decide +kernel
theorem dX5_asCook_8 : decode cX5_asCook 8 = .ok (.ladd, 1) := by decide +kernel
theorem dX5_asCook_9 : decode cX5_asCook 9 = .ok (.putfield 231, 3) := by decide +kernel
theorem dX5_asCook_12 : decode cX5_asCook 12 = .ok (.aload_n 0, 1) := by decide +kernel
theorem dX5_asCook_13 : decode cX5_asCook 13 = .ok (.iload_n 1, 1) := by decide +kernel
theorem dX5_asCook_14 : decode cX5_asCook 14 = .ok (.invokevirtual 201, 3) := by decide +kernel
theorem dX5_asCook_17 : decode cX5_asCook 17 = .ok (.aload_n 0, 1) := by decide +kernel
theorem dX5_asCook_18 : decode cX5_asCook 18 = .ok (.getfield 29, 3) := by decide +kernel
theorem dX5_asCook_21 : decode cX5_asCook 21 = .ok (.iload_n 1, 1) := by decide +kernel
theorem dX5_asCook_22 : decode cX5_asCook 22 = .ok (.invokevirtual 243, 3) := by decide +kernel
theorem dX5_asCook_25 : decode cX5_asCook 25 = .ok (.iadd, 1) := by decide +kernel
theorem dX5_asCook_26 : decode cX5_asCook 26 = .ok (.ireturn, 1) := by decide +kernel
theorem dX5_asMate_0 : decode cX5_asMate 0 = .ok (.aload_n 0, 1) := by decide +kernel
theorem dX5_asMate_1 : decode cX5_asMate 1 = .ok (.dup, 1) := by decide +kernel
theorem dX5_asMate_2 : decode cX5_asMate 2 = .ok (.getfield 231, 3) := by decide +kernel
theorem dX5_asMate_5 : decode cX5_asMate 5 = .ok (.ldc2_w 246, 3) := by decide +kernel
theorem dX5_asMate_8 : decode cX5_asMate 8 = .ok (.ladd, 1) := by decide +kernel
theorem dX5_asMate_9 : decode cX5_asMate 9 = .ok (.putfield 231, 3) := by decide +kernel
theorem dX5_asMate_12 : decode cX5_asMate 12 = .ok (.aload_n 0, 1) := by decide +kernel
theorem dX5_asMate_13 : decode cX5_asMate 13 = .ok (.iload_n 1, 1) := by decide +kernel
theorem dX5_asMate_14 : decode cX5_asMate 14 = .ok (.invokevirtual 201, 3) := by decide +kernel
theorem dX5_asMate_17 : decode cX5_asMate 17 = .ok (.aload_n 0, 1) := by decide +kernel
theorem dX5_asMate_18 : decode cX5_asMate 18 = .ok (.getfield 19, 3) := by decide +kernel
theorem dX5_asMate_21 : decode cX5_asMate 21 = .ok (.iload_n 1, 1) := by decide +kernel
theorem dX5_asMate_22 : decode cX5_asMate 22 = .ok (.invokevirtual 92, 3) := by decide +kernel
theorem dX5_asMate_25 : decode cX5_asMate 25 = .ok (.invokestatic 135, 3) := by decide +kernel
theorem dX5_asMate_28 : decode cX5_asMate 28 = .ok (.isub, 1) := by decide +kernel
theorem dX5_asMate_29 : decode cX5_asMate 29 = .ok (.ireturn, 1) := by decide +kernel
theorem dX5_asBosun_0 : decode cX5_asBosun 0 = .ok (.aload_n 0, 1) := by decide +kernel
theorem dX5_asBosun_1 : decode cX5_asBosun 1 = .ok (.dup, 1) := by decide +kernel
theorem dX5_asBosun_2 : decode cX5_asBosun 2 = .ok (.getfield 231, 3) := by decide +kernel
theorem dX5_asBosun_5 : decode cX5_asBosun 5 = .ok (.ldc2_w 248, 3) := by decide +kernel
theorem dX5_asBosun_8 : decode cX5_asBosun 8 = .ok (.ladd, 1) := by decide +kernel
theorem dX5_asBosun_9 : decode cX5_asBosun 9 = .ok (.putfield 231, 3) := by decide +kernel
theorem dX5_asBosun_12 : decode cX5_asBosun 12 = .ok (.iconst 2, 1) := by decide +kernel
theorem dX5_asBosun_13 : decode cX5_asBosun 13 = .ok (.aload_n 0, 1) := by decide +kernel
theorem dX5_asBosun_14 : decode cX5_asBosun 14 = .ok (.iload_n 1, 1) := by decide +kernel
theorem dX5_asBosun_15 : decode cX5_asBosun 15 = .ok (.invokevirtual 204, 3) := by decide +kernel
theorem dX5_asBosun_18 : decode cX5_asBosun 18 = .ok (.imul, 1) := by decide +kernel
theorem dX5_asBosun_19 : decode cX5_asBosun 19 = .ok (.ireturn, 1) := by decide +kernel
theorem dX5_asGunner_0 : decode cX5_asGunner 0 = .ok (.aload_n 0, 1) := by decide +kernel
theorem dX5_asGunner_1 : decode cX5_asGunner 1 = .ok (.dup, 1) := by decide +kernel
theorem dX5_asGunner_2 : decode cX5_asGunner 2 = .ok (.getfield 231, 3) := by decide +kernel
theorem dX5_asGunner_5 : decode cX5_asGunner 5 = .ok (.ldc2_w 250, 3) := by decide +kernel
theorem dX5_asGunner_8 : decode cX5_asGunner 8 = .ok (.ladd, 1) := by decide +kernel
theorem dX5_asGunner_9 : decode cX5_asGunner 9 = .ok (.putfield 231, 3) := by decide +kernel
theorem dX5_asGunner_12 : decode cX5_asGunner 12 = .ok (.aload_n 0, 1) := by decide +kernel
theorem dX5_asGunner_13 : decode cX5_asGunner 13 = .ok (.iload_n 1, 1) := by decide +kernel
theorem dX5_asGunner_14 : decode cX5_asGunner 14 = .ok (.invokevirtual 207, 3) := by decide +kernel
theorem dX5_asGunner_17 : decode cX5_asGunner 17 = .ok (.iload_n 1, 1) := by decide +kernel
theorem dX5_asGunner_18 : decode cX5_asGunner 18 = .ok (.iadd, 1) := by decide +kernel
theorem dX5_asGunner_19 : decode cX5_asGunner 19 = .ok (.ireturn, 1) := by decide +kernel
theorem dX5_asBoy_0 : decode cX5_asBoy 0 = .ok (.aload_n 0, 1) := by decide +kernel
theorem dX5_asBoy_1 : decode cX5_asBoy 1 = .ok (.dup, 1) := by decide +kernel
theorem dX5_asBoy_2 : decode cX5_asBoy 2 = .ok (.getfield 231, 3) := by decide +kernel
theorem dX5_asBoy_5 : decode cX5_asBoy 5 = .ok (.ldc2_w 252, 3) := by decide +kernel
theorem dX5_asBoy_8 : decode cX5_asBoy 8 = .ok (.ladd, 1) := by decide +kernel
theorem dX5_asBoy_9 : decode cX5_asBoy 9 = .ok (.putfield 231, 3) := by decide +kernel
theorem dX5_asBoy_12 : decode cX5_asBoy 12 = .ok (.aload_n 0, 1) := by decide +kernel
theorem dX5_asBoy_13 : decode cX5_asBoy 13 = .ok (.iload_n 1, 1) := by decide +kernel
theorem dX5_asBoy_14 : decode cX5_asBoy 14 = .ok (.invokevirtual 201, 3) := by decide +kernel
theorem dX5_asBoy_17 : decode cX5_asBoy 17 = .ok (.aload_n 0, 1) := by decide +kernel
theorem dX5_asBoy_18 : decode cX5_asBoy 18 = .ok (.getfield 29, 3) := by decide +kernel
theorem dX5_asBoy_21 : decode cX5_asBoy 21 = .ok (.getfield 118, 3) := by decide +kernel
theorem dX5_asBoy_24 : decode cX5_asBoy 24 = .ok (.iadd, 1) := by decide +kernel
theorem dX5_asBoy_25 : decode cX5_asBoy 25 = .ok (.ireturn, 1) := by decide +kernel
theorem dX5_has_0 : decode cX5_has 0 = .ok (.iload_n 1, 1) := by decide +kernel
theorem dX5_has_1 : decode cX5_has 1 = .ok (.ifCond .lt 21, 3) := by decide +kernel
theorem dX5_has_4 : decode cX5_has 4 = .ok (.iload_n 1, 1) := by decide +kernel
theorem dX5_has_5 : decode cX5_has 5 = .ok (.bipush 32, 2) := by decide +kernel
theorem dX5_has_7 : decode cX5_has 7 = .ok (.if_icmp .ge 15, 3) := by decide +kernel
theorem dX5_has_10 : decode cX5_has 10 = .ok (.iload_n 0, 1) := by decide +kernel
theorem dX5_has_11 : decode cX5_has 11 = .ok (.iload_n 1, 1) := by decide +kernel
theorem dX5_has_12 : decode cX5_has 12 = .ok (.iushr, 1) := by decide +kernel
theorem dX5_has_13 : decode cX5_has 13 = .ok (.iconst 1, 1) := by decide +kernel
theorem dX5_has_14 : decode cX5_has 14 = .ok (.iand, 1) := by decide +kernel
theorem dX5_has_15 : decode cX5_has 15 = .ok (.ifCond .eq 7, 3) := by decide +kernel
theorem dX5_has_18 : decode cX5_has 18 = .ok (.iconst 1, 1) := by decide +kernel
theorem dX5_has_19 : decode cX5_has 19 = .ok (.goto 4, 3) := by decide +kernel
theorem dX5_has_22 : decode cX5_has 22 = .ok (.iconst 0, 1) := by decide +kernel
theorem dX5_has_23 : decode cX5_has 23 = .ok (.ireturn, 1) := by decide +kernel
theorem dX5_at_0 : decode cX5_at 0 = .ok (.iload_n 1, 1) := by decide +kernel
theorem dX5_at_1 : decode cX5_at 1 = .ok (.ifCond .lt 15, 3) := by decide +kernel
theorem dX5_at_4 : decode cX5_at 4 = .ok (.iload_n 1, 1) := by decide +kernel
theorem dX5_at_5 : decode cX5_at 5 = .ok (.aload_n 0, 1) := by decide +kernel
theorem dX5_at_6 : decode cX5_at 6 = .ok (.arraylength, 1) := by decide +kernel
theorem dX5_at_7 : decode cX5_at 7 = .ok (.if_icmp .ge 9, 3) := by decide +kernel
theorem dX5_at_10 : decode cX5_at 10 = .ok (.aload_n 0, 1) := by decide +kernel
theorem dX5_at_11 : decode cX5_at 11 = .ok (.iload_n 1, 1) := by decide +kernel
theorem dX5_at_12 : decode cX5_at 12 = .ok (.iaload, 1) := by decide +kernel
theorem dX5_at_13 : decode cX5_at 13 = .ok (.goto 4, 3) := by decide +kernel
theorem dX5_at_16 : decode cX5_at 16 = .ok (.iconst 0, 1) := by decide +kernel
theorem dX5_at_17 : decode cX5_at 17 = .ok (.ireturn, 1) := by decide +kernel
theorem dX5_put_0 : decode cX5_put 0 = .ok (.iload_n 1, 1) := by decide +kernel
theorem dX5_put_1 : decode cX5_put 1 = .ok (.ifCond .lt 13, 3) := by decide +kernel
theorem dX5_put_4 : decode cX5_put 4 = .ok (.iload_n 1, 1) := by decide +kernel
theorem dX5_put_5 : decode cX5_put 5 = .ok (.aload_n 0, 1) := by decide +kernel
theorem dX5_put_6 : decode cX5_put 6 = .ok (.arraylength, 1) := by decide +kernel
theorem dX5_put_7 : decode cX5_put 7 = .ok (.if_icmp .ge 7, 3) := by decide +kernel
theorem dX5_put_10 : decode cX5_put 10 = .ok (.aload_n 0, 1) := by decide +kernel
theorem dX5_put_11 : decode cX5_put 11 = .ok (.iload_n 1, 1) := by decide +kernel
theorem dX5_put_12 : decode cX5_put 12 = .ok (.iload_n 2, 1) := by decide +kernel
theorem dX5_put_13 : decode cX5_put 13 = .ok (.iastore, 1) := by decide +kernel
theorem dX5_put_14 : decode cX5_put 14 = .ok (.return_, 1) := by decide +kernel
theorem dX5_power_0 : decode cX5_power 0 = .ok (.iconst 1, 1) := by decide +kernel
theorem dX5_power_1 : decode cX5_power 1 = .ok (.istore_n 2, 1) := by decide +kernel
theorem dX5_power_2 : decode cX5_power 2 = .ok (.iconst 0, 1) := by decide +kernel
theorem dX5_power_3 : decode cX5_power 3 = .ok (.istore_n 3, 1) := by decide +kernel
theorem dX5_power_4 : decode cX5_power 4 = .ok (.iload_n 3, 1) := by decide +kernel
theorem dX5_power_5 : decode cX5_power 5 = .ok (.iload_n 1, 1) := by decide +kernel
theorem dX5_power_6 : decode cX5_power 6 = .ok (.if_icmp .ge 13, 3) := by decide +kernel
theorem dX5_power_9 : decode cX5_power 9 = .ok (.iload_n 2, 1) := by decide +kernel
theorem dX5_power_10 : decode cX5_power 10 = .ok (.iload_n 0, 1) := by decide +kernel
theorem dX5_power_11 : decode cX5_power 11 = .ok (.imul, 1) := by decide +kernel
theorem dX5_power_12 : decode cX5_power 12 = .ok (.istore_n 2, 1) := by decide +kernel
theorem dX5_power_13 : decode cX5_power 13 = .ok (.iinc 3 1, 3) := by decide +kernel
theorem dX5_power_16 : decode cX5_power 16 = .ok (.goto (-12), 3) := by decide +kernel
theorem dX5_power_19 : decode cX5_power 19 = .ok (.iload_n 2, 1) := by decide +kernel
theorem dX5_power_20 : decode cX5_power 20 = .ok (.ireturn, 1) := by decide +kernel
theorem dX5_inLeastTerms_0 : decode cX5_inLeastTerms 0 = .ok (.iload_n 0, 1) := by decide +kernel
theorem dX5_inLeastTerms_1 : decode cX5_inLeastTerms 1 = .ok (.iload_n 1, 1) := by decide +kernel
theorem dX5_inLeastTerms_2 : decode cX5_inLeastTerms 2 = .ok (.invokestatic 254, 3) := by decide +kernel
theorem dX5_inLeastTerms_5 : decode cX5_inLeastTerms 5 = .ok (.istore_n 3, 1) := by decide +kernel
theorem dX5_inLeastTerms_6 : decode cX5_inLeastTerms 6 = .ok (.iload_n 2, 1) := by decide +kernel
theorem dX5_inLeastTerms_7 : decode cX5_inLeastTerms 7 = .ok (.ifCond .ne 7, 3) := by decide +kernel
theorem dX5_inLeastTerms_10 : decode cX5_inLeastTerms 10 = .ok (.iload_n 0, 1) := by decide +kernel
theorem dX5_inLeastTerms_11 : decode cX5_inLeastTerms 11 = .ok (.goto 4, 3) := by decide +kernel
theorem dX5_inLeastTerms_14 : decode cX5_inLeastTerms 14 = .ok (.iload_n 1, 1) := by decide +kernel
theorem dX5_inLeastTerms_15 : decode cX5_inLeastTerms 15 = .ok (.istore 4, 2) := by decide +kernel
theorem dX5_inLeastTerms_17 : decode cX5_inLeastTerms 17 = .ok (.iload_n 3, 1) := by decide +kernel
theorem dX5_inLeastTerms_18 : decode cX5_inLeastTerms 18 = .ok (.ifCond .le 10, 3) := by decide +kernel
theorem dX5_inLeastTerms_21 : decode cX5_inLeastTerms 21 = .ok (.iload 4, 2) := by decide +kernel
theorem dX5_inLeastTerms_23 : decode cX5_inLeastTerms 23 = .ok (.iload_n 3, 1) := by decide +kernel
theorem dX5_inLeastTerms_24 : decode cX5_inLeastTerms 24 = .ok (.idiv, 1) := by decide +kernel
theorem dX5_inLeastTerms_25 : decode cX5_inLeastTerms 25 = .ok (.goto 5, 3) := by decide +kernel
theorem dX5_inLeastTerms_28 : decode cX5_inLeastTerms 28 = .ok (.iload 4, 2) := by decide +kernel
theorem dX5_inLeastTerms_30 : decode cX5_inLeastTerms 30 = .ok (.ireturn, 1) := by decide +kernel
theorem dX5_commonDivisor_0 : decode cX5_commonDivisor 0 = .ok (.iload_n 0, 1) := by decide +kernel
theorem dX5_commonDivisor_1 : decode cX5_commonDivisor 1 = .ok (.istore_n 2, 1) := by decide +kernel
theorem dX5_commonDivisor_2 : decode cX5_commonDivisor 2 = .ok (.iload_n 1, 1) := by decide +kernel
theorem dX5_commonDivisor_3 : decode cX5_commonDivisor 3 = .ok (.istore_n 3, 1) := by decide +kernel
theorem dX5_commonDivisor_4 : decode cX5_commonDivisor 4 = .ok (.iconst 0, 1) := by decide +kernel
theorem dX5_commonDivisor_5 : decode cX5_commonDivisor 5 = .ok (.istore 4, 2) := by decide +kernel
theorem dX5_commonDivisor_7 : decode cX5_commonDivisor 7 = .ok (.iload 4, 2) := by decide +kernel
theorem dX5_commonDivisor_9 : decode cX5_commonDivisor 9 = .ok (.bipush 100, 2) := by decide +kernel
theorem dX5_commonDivisor_11 : decode cX5_commonDivisor 11 = .ok (.if_icmp .ge 23, 3) := by decide +kernel
theorem dX5_commonDivisor_14 : decode cX5_commonDivisor 14 = .ok (.iload_n 3, 1) := by decide +kernel
theorem dX5_commonDivisor_15 : decode cX5_commonDivisor 15 = .ok (.ifCond .le 19, 3) := by decide +kernel
theorem dX5_commonDivisor_18 : decode cX5_commonDivisor 18 = .ok (.iload_n 2, 1) := by decide +kernel
theorem dX5_commonDivisor_19 : decode cX5_commonDivisor 19 = .ok (.iload_n 3, 1) := by decide +kernel
theorem dX5_commonDivisor_20 : decode cX5_commonDivisor 20 = .ok (.irem, 1) := by decide +kernel
theorem dX5_commonDivisor_21 : decode cX5_commonDivisor 21 = .ok (.istore 5, 2) := by decide +kernel
theorem dX5_commonDivisor_23 : decode cX5_commonDivisor 23 = .ok (.iload_n 3, 1) := by decide +kernel
theorem dX5_commonDivisor_24 : decode cX5_commonDivisor 24 = .ok (.istore_n 2, 1) := by decide +kernel
theorem dX5_commonDivisor_25 : decode cX5_commonDivisor 25 = .ok (.iload 5, 2) := by decide +kernel
theorem dX5_commonDivisor_27 : decode cX5_commonDivisor 27 = .ok (.istore_n 3, 1) := by decide +kernel
theorem dX5_commonDivisor_28 : decode cX5_commonDivisor 28 = .ok (.iinc 4 1, 3) := by decide +kernel
theorem dX5_commonDivisor_31 : decode cX5_commonDivisor 31 = .ok (.goto (-24), 3) := by decide +kernel
theorem dX5_commonDivisor_34 : decode cX5_commonDivisor 34 = .ok (.iload_n 2, 1) := by decide +kernel
theorem dX5_commonDivisor_35 : decode cX5_commonDivisor 35 = .ok (.ireturn, 1) := by decide +kernel
theorem dX6_init_0 : decode cX6_init 0 = .ok (.aload_n 0, 1) := by decide +kernel
theorem dX6_init_1 : decode cX6_init 1 = .ok (.invokespecial 1, 3) := by decide +kernel
theorem dX6_init_4 : decode cX6_init 4 = .ok (.aload_n 0, 1) := by decide +kernel
theorem dX6_init_5 : decode cX6_init 5 = .ok (.sipush 200, 3) := by decide +kernel
theorem dX6_init_8 : decode cX6_init 8 = .ok (.newarray .int, 2) := by decide +kernel
theorem dX6_init_10 : decode cX6_init 10 = .ok (.putfield 7, 3) := by decide +kernel
theorem dX6_init_13 : decode cX6_init 13 = .ok (.aload_n 0, 1) := by decide +kernel
theorem dX6_init_14 : decode cX6_init 14 = .ok (.bipush 26, 2) := by decide +kernel
theorem dX6_init_16 : decode cX6_init 16 = .ok (.newarray .int, 2) := by decide +kernel
theorem dX6_init_18 : decode cX6_init 18 = .ok (.putfield 13, 3) := by decide +kernel
theorem dX6_init_21 : decode cX6_init 21 = .ok (.aload_n 0, 1) := by decide +kernel
theorem dX6_init_22 : decode cX6_init 22 = .ok (.bipush 26, 2) := by decide +kernel
theorem dX6_init_24 : decode cX6_init 24 = .ok (.newarray .int, 2) := by decide +kernel
theorem dX6_init_26 : decode cX6_init 26 = .ok (.putfield 16, 3) := by decide +kernel
theorem dX6_init_29 : decode cX6_init 29 = .ok (.aload_n 0, 1) := by decide +kernel
theorem dX6_init_30 : decode cX6_init 30 = .ok (.bipush 18, 2) := by decide +kernel
theorem dX6_init_32 : decode cX6_init 32 = .ok (.newarray .int, 2) := by decide +kernel
theorem dX6_init_34 : decode cX6_init 34 = .ok (.putfield 19, 3) := by decide +kernel
theorem dX6_init_37 : decode cX6_init 37 = .ok (.aload_n 0, 1) := by decide +kernel
theorem dX6_init_38 : decode cX6_init 38 = .ok (.sipush 180, 3) := by decide +kernel
theorem dX6_init_41 : decode cX6_init 41 = .ok (.newarray .int, 2) := by decide +kernel
theorem dX6_init_43 : decode cX6_init 43 = .ok (.putfield 22, 3) := by decide +kernel
theorem dX6_init_46 : decode cX6_init 46 = .ok (.aload_n 0, 1) := by decide +kernel
theorem dX6_init_47 : decode cX6_init 47 = .ok (.bipush 36, 2) := by decide +kernel
theorem dX6_init_49 : decode cX6_init 49 = .ok (.newarray .int, 2) := by decide +kernel
theorem dX6_init_51 : decode cX6_init 51 = .ok (.putfield 25, 3) := by decide +kernel
theorem dX6_init_54 : decode cX6_init 54 = .ok (.aload_n 0, 1) := by decide +kernel
theorem dX6_init_55 : decode cX6_init 55 = .ok (.iconst 2, 1) := by decide +kernel
theorem dX6_init_56 : decode cX6_init 56 = .ok (.newarray .boolean, 2) := by decide +kernel
theorem dX6_init_58 : decode cX6_init 58 = .ok (.putfield 28, 3) := by decide +kernel
theorem dX6_init_61 : decode cX6_init 61 = .ok (.aload_n 0, 1) := by decide +kernel
theorem dX6_init_62 : decode cX6_init 62 = .ok (.sipush 5040, 3) := by decide +kernel
theorem dX6_init_65 : decode cX6_init 65 = .ok (.newarray .int, 2) := by decide +kernel
theorem dX6_init_67 : decode cX6_init 67 = .ok (.putfield 32, 3) := by decide +kernel
theorem dX6_init_70 : decode cX6_init 70 = .ok (.aload_n 0, 1) := by decide +kernel
theorem dX6_init_71 : decode cX6_init 71 = .ok (.bipush 8, 2) := by decide +kernel
theorem dX6_init_73 : decode cX6_init 73 = .ok (.newarray .int, 2) := by decide +kernel
theorem dX6_init_75 : decode cX6_init 75 = .ok (.putfield 35, 3) := by decide +kernel
theorem dX6_init_78 : decode cX6_init 78 = .ok (.aload_n 0, 1) := by decide +kernel
theorem dX6_init_79 : decode cX6_init 79 = .ok (.bipush 8, 2) := by decide +kernel
theorem dX6_init_81 : decode cX6_init 81 = .ok (.newarray .int, 2) := by decide +kernel
theorem dX6_init_83 : decode cX6_init 83 = .ok (.putfield 38, 3) := by decide +kernel
theorem dX6_init_86 : decode cX6_init 86 = .ok (.aload_n 0, 1) := by decide +kernel
theorem dX6_init_87 : decode cX6_init 87 = .ok (.ldc 41, 2) := by decide +kernel
theorem dX6_init_89 : decode cX6_init 89 = .ok (.newarray .int, 2) := by decide +kernel
theorem dX6_init_91 : decode cX6_init 91 = .ok (.putfield 42, 3) := by decide +kernel
theorem dX6_init_94 : decode cX6_init 94 = .ok (.aload_n 0, 1) := by decide +kernel
theorem dX6_init_95 : decode cX6_init 95 = .ok (.invokevirtual 45, 3) := by decide +kernel
theorem dX6_init_98 : decode cX6_init 98 = .ok (.pop, 1) := by decide +kernel
theorem dX6_init_99 : decode cX6_init 99 = .ok (.aload_n 0, 1) := by decide +kernel
theorem dX6_init_100 : decode cX6_init 100 = .ok (.invokevirtual 49, 3) := by decide +kernel
theorem dX6_init_103 : decode cX6_init 103 = .ok (.return_, 1) := by decide +kernel
theorem dX6_in_0 : decode cX6_in 0 = .ok (.iload_n 0, 1) := by decide +kernel
theorem dX6_in_1 : decode cX6_in 1 = .ok (.iload_n 1, 1) := by decide +kernel
theorem dX6_in_2 : decode cX6_in 2 = .ok (.if_icmp .lt 12, 3) := by decide +kernel
theorem dX6_in_5 : decode cX6_in 5 = .ok (.iload_n 0, 1) := by decide +kernel
theorem dX6_in_6 : decode cX6_in 6 = .ok (.iload_n 2, 1) := by decide +kernel
theorem dX6_in_7 : decode cX6_in 7 = .ok (.if_icmp .gt 7, 3) := by decide +kernel
theorem dX6_in_10 : decode cX6_in 10 = .ok (.iconst 1, 1) := by decide +kernel
theorem dX6_in_11 : decode cX6_in 11 = .ok (.goto 4, 3) := by decide +kernel
theorem dX6_in_14 : decode cX6_in 14 = .ok (.iconst 0, 1) := by decide +kernel
theorem dX6_in_15 : decode cX6_in 15 = .ok (.ireturn, 1) := by decide +kernel
theorem dX6_isSailor_0 : decode cX6_isSailor 0 = .ok (.iload_n 1, 1) := by decide +kernel
theorem dX6_isSailor_1 : decode cX6_isSailor 1 = .ok (.iconst 0, 1) := by decide +kernel
theorem dX6_isSailor_2 : decode cX6_isSailor 2 = .ok (.aload_n 0, 1) := by decide +kernel
theorem dX6_isSailor_3 : decode cX6_isSailor 3 = .ok (.getfield 13, 3) := by decide +kernel
theorem dX6_isSailor_6 : decode cX6_isSailor 6 = .ok (.iconst 0, 1) := by decide +kernel
theorem dX6_isSailor_7 : decode cX6_isSailor 7 = .ok (.iaload, 1) := by decide +kernel
theorem dX6_isSailor_8 : decode cX6_isSailor 8 = .ok (.iconst 1, 1) := by decide +kernel
theorem dX6_isSailor_9 : decode cX6_isSailor 9 = .ok (.isub, 1) := by decide +kernel
theorem dX6_isSailor_10 : decode cX6_isSailor 10 = .ok (.invokestatic 52, 3) := by decide +kernel
theorem dX6_isSailor_13 : decode cX6_isSailor 13 = .ok (.ireturn, 1) := by decide +kernel
theorem dX6_isSeat_0 : decode cX6_isSeat 0 = .ok (.iload_n 1, 1) := by decide +kernel
theorem dX6_isSeat_1 : decode cX6_isSeat 1 = .ok (.iconst 0, 1) := by decide +kernel
theorem dX6_isSeat_2 : decode cX6_isSeat 2 = .ok (.aload_n 0, 1) := by decide +kernel
theorem dX6_isSeat_3 : decode cX6_isSeat 3 = .ok (.getfield 13, 3) := by decide +kernel
theorem dX6_isSeat_6 : decode cX6_isSeat 6 = .ok (.iconst 2, 1) := by decide +kernel
theorem dX6_isSeat_7 : decode cX6_isSeat 7 = .ok (.iaload, 1) := by decide +kernel
theorem dX6_isSeat_8 : decode cX6_isSeat 8 = .ok (.iconst 1, 1) := by decide +kernel
theorem dX6_isSeat_9 : decode cX6_isSeat 9 = .ok (.isub, 1) := by decide +kernel
theorem dX6_isSeat_10 : decode cX6_isSeat 10 = .ok (.invokestatic 52, 3) := by decide +kernel
theorem dX6_isSeat_13 : decode cX6_isSeat 13 = .ok (.ireturn, 1) := by decide +kernel
theorem dX6_ones_0 : decode cX6_ones 0 = .ok (.iconst 0, 1) := by decide +kernel
theorem dX6_ones_1 : decode cX6_ones 1 = .ok (.istore_n 1, 1) := by decide +kernel
theorem dX6_ones_2 : decode cX6_ones 2 = .ok (.iconst 0, 1) := by decide +kernel
theorem dX6_ones_3 : decode cX6_ones 3 = .ok (.istore_n 2, 1) := by decide +kernel
theorem dX6_ones_4 : decode cX6_ones 4 = .ok (.iload_n 2, 1) := by decide +kernel
theorem dX6_ones_5 : decode cX6_ones 5 = .ok (.bipush 8, 2) := by decide +kernel
theorem dX6_ones_7 : decode cX6_ones 7 = .ok (.if_icmp .ge 17, 3) := by decide +kernel
theorem dX6_ones_10 : decode cX6_ones 10 = .ok (.iload_n 1, 1) := by decide +kernel
theorem dX6_ones_11 : decode cX6_ones 11 = .ok (.iload_n 0, 1) := by decide +kernel
theorem dX6_ones_12 : decode cX6_ones 12 = .ok (.iload_n 2, 1) := by decide +kernel
theorem dX6_ones_13 : decode cX6_ones 13 = .ok (.ishr, 1) := by decide +kernel
theorem dX6_ones_14 : decode cX6_ones 14 = .ok (.iconst 1, 1) := by decide +kernel
theorem dX6_ones_15 : decode cX6_ones 15 = .ok (.iand, 1) := by decide +kernel
theorem dX6_ones_16 : decode cX6_ones 16 = .ok (.iadd, 1) := by decide +kernel
theorem dX6_ones_17 : decode cX6_ones 17 = .ok (.istore_n 1, 1) := by decide +kernel
theorem dX6_ones_18 : decode cX6_ones 18 = .ok (.iinc 2 1, 3) := by decide +kernel
theorem dX6_ones_21 : decode cX6_ones 21 = .ok (.goto (-17), 3) := by decide +kernel
theorem dX6_ones_24 : decode cX6_ones 24 = .ok (.iload_n 1, 1) := by decide +kernel
theorem dX6_ones_25 : decode cX6_ones 25 = .ok (.ireturn, 1) := by decide +kernel
theorem dX6_type_0 : decode cX6_type 0 = .ok (.iload_n 1, 1) := by decide +kernel
theorem dX6_type_1 : decode cX6_type 1 = .ok (.iconst 0, 1) := by decide +kernel
theorem dX6_type_2 : decode cX6_type 2 = .ok (.sipush 255, 3) := by decide +kernel
theorem dX6_type_5 : decode cX6_type 5 = .ok (.invokestatic 52, 3) := by decide +kernel
theorem dX6_type_8 : decode cX6_type 8 = .ok (.ifCond .ne 5, 3) := by decide +kernel
theorem dX6_type_11 : decode cX6_type 11 = .ok (.iconst (-1), 1) := by decide +kernel
theorem dX6_type_12 : decode cX6_type 12 = .ok (.ireturn, 1) := by decide +kernel
theorem dX6_type_13 : decode cX6_type 13 = .ok (.aload_n 0, 1) := by decide +kernel
theorem dX6_type_14 : decode cX6_type 14 = .ok (.getfield 56, 3) := by decide +kernel
theorem dX6_type_17 : decode cX6_type 17 = .ok (.sipush 200, 3) := by decide +kernel
theorem dX6_type_20 : decode cX6_type 20 = .ok (.if_icmp .ne 6, 3) := by decide +kernel
theorem dX6_type_23 : decode cX6_type 23 = .ok (.bipush (-3), 2) := by decide +kernel
theorem dX6_type_25 : decode cX6_type 25 = .ok (.ireturn, 1) := by decide +kernel
theorem dX6_type_26 : decode cX6_type 26 = .ok (.aload_n 0, 1) := by decide +kernel
theorem dX6_type_27 : decode cX6_type 27 = .ok (.getfield 7, 3) := by decide +kernel
theorem dX6_type_30 : decode cX6_type 30 = .ok (.aload_n 0, 1) := by decide +kernel
theorem dX6_type_31 : decode cX6_type 31 = .ok (.getfield 56, 3) := by decide +kernel
theorem dX6_type_34 : decode cX6_type 34 = .ok (.iload_n 1, 1) := by decide +kernel
theorem dX6_type_35 : decode cX6_type 35 = .ok (.iastore, 1) := by decide +kernel
theorem dX6_type_36 : decode cX6_type 36 = .ok (.aload_n 0, 1) := by decide +kernel
theorem dX6_type_37 : decode cX6_type 37 = .ok (.dup, 1) := by decide +kernel
theorem dX6_type_38 : decode cX6_type 38 = .ok (.getfield 56, 3) := by decide +kernel
theorem dX6_type_41 : decode cX6_type 41 = .ok (.iconst 1, 1) := by decide +kernel
theorem dX6_type_42 : decode cX6_type 42 = .ok (.iadd, 1) := by decide +kernel
theorem dX6_type_43 : decode cX6_type 43 = .ok (.putfield 56, 3) := by decide +kernel
theorem dX6_type_46 : decode cX6_type 46 = .ok (.aload_n 0, 1) := by decide +kernel
theorem dX6_type_47 : decode cX6_type 47 = .ok (.getfield 56, 3) := by decide +kernel
theorem dX6_type_50 : decode cX6_type 50 = .ok (.ireturn, 1) := by decide +kernel
theorem dX6_clear_0 : decode cX6_clear 0 = .ok (.aload_n 0, 1) := by decide +kernel
theorem dX6_clear_1 : decode cX6_clear 1 = .ok (.getfield 56, 3) := by decide +kernel
theorem dX6_clear_4 : decode cX6_clear 4 = .ok (.istore_n 1, 1) := by decide +kernel
theorem dX6_clear_5 : decode cX6_clear 5 = .ok (.aload_n 0, 1) := by decide +kernel
theorem dX6_clear_6 : decode cX6_clear 6 = .ok (.iconst 0, 1) := by decide +kernel
theorem dX6_clear_7 : decode cX6_clear 7 = .ok (.putfield 56, 3) := by decide +kernel
theorem dX6_clear_10 : decode cX6_clear 10 = .ok (.iload_n 1, 1) := by decide +kernel
theorem dX6_clear_11 : decode cX6_clear 11 = .ok (.ireturn, 1) := by decide +kernel
theorem dX6_letterAt_0 : decode cX6_letterAt 0 = .ok (.iload_n 1, 1) := by decide +kernel
theorem dX6_letterAt_1 : decode cX6_letterAt 1 = .ok (.aload_n 0, 1) := by decide +kernel
theorem dX6_letterAt_2 : decode cX6_letterAt 2 = .ok (.getfield 56, 3) := by decide +kernel
theorem dX6_letterAt_5 : decode cX6_letterAt 5 = .ok (.if_icmp .ge 12, 3) := by decide +kernel
theorem dX6_letterAt_8 : decode cX6_letterAt 8 = .ok (.aload_n 0, 1) := by decide +kernel
theorem dX6_letterAt_9 : decode cX6_letterAt 9 = .ok (.getfield 7, 3) := by decide +kernel
theorem dX6_letterAt_12 : decode cX6_letterAt 12 = .ok (.iload_n 1, 1) := by decide +kernel
theorem dX6_letterAt_13 : decode cX6_letterAt 13 = .ok (.iaload, 1) := by decide +kernel
theorem dX6_letterAt_14 : decode cX6_letterAt 14 = .ok (.goto 4, 3) := by decide +kernel
theorem dX6_letterAt_17 : decode cX6_letterAt 17 = .ok (.iconst (-1), 1) := by decide +kernel
theorem dX6_letterAt_18 : decode cX6_letterAt 18 = .ok (.ireturn, 1) := by decide +kernel
theorem dX6_isDigit_0 : decode cX6_isDigit 0 = .ok (.iload_n 0, 1) := by decide +kernel
theorem dX6_isDigit_1 : decode cX6_isDigit 1 = .ok (.bipush 48, 2) := by decide +kernel
theorem dX6_isDigit_3 : decode cX6_isDigit 3 = .ok (.bipush 57, 2) := by decide +kernel
theorem dX6_isDigit_5 : decode cX6_isDigit 5 = .ok (.invokestatic 52, 3) := by decide +kernel
theorem dX6_isDigit_8 : decode cX6_isDigit 8 = .ok (.ireturn, 1) := by decide +kernel
theorem dX6_token_0 : decode cX6_token 0 = .ok (.aload_n 0, 1) := by decide +kernel
theorem dX6_token_1 : decode cX6_token 1 = .ok (.aload_n 0, 1) := by decide +kernel
theorem dX6_token_2 : decode cX6_token 2 = .ok (.getfield 60, 3) := by decide +kernel
theorem dX6_token_5 : decode cX6_token 5 = .ok (.invokevirtual 63, 3) := by decide +kernel
theorem dX6_token_8 : decode cX6_token 8 = .ok (.bipush 32, 2) := by decide +kernel
theorem dX6_token_10 : decode cX6_token 10 = .ok (.if_icmp .ne 16, 3) := by decide +kernel
theorem dX6_token_13 : decode cX6_token 13 = .ok (.aload_n 0, 1) := by decide +kernel
theorem dX6_token_14 : decode cX6_token 14 = .ok (.dup, 1) := by decide +kernel
theorem dX6_token_15 : decode cX6_token 15 = .ok (.getfield 60, 3) := by decide +kernel
theorem dX6_token_18 : decode cX6_token 18 = .ok (.iconst 1, 1) := by decide +kernel
theorem dX6_token_19 : decode cX6_token 19 = .ok (.iadd, 1) := by decide +kernel
theorem dX6_token_20 : decode cX6_token 20 = .ok (.putfield 60, 3) := by decide +kernel
theorem dX6_token_23 : decode cX6_token 23 = .ok (.goto (-23), 3) := by decide +kernel
theorem dX6_token_26 : decode cX6_token 26 = .ok (.aload_n 0, 1) := by decide +kernel
theorem dX6_token_27 : decode cX6_token 27 = .ok (.aload_n 0, 1) := by decide +kernel
theorem dX6_token_28 : decode cX6_token 28 = .ok (.getfield 60, 3) := by decide +kernel
theorem dX6_token_31 : decode cX6_token 31 = .ok (.putfield 67, 3) := by decide +kernel
theorem dX6_token_34 : decode cX6_token 34 = .ok (.aload_n 0, 1) := by decide +kernel
theorem dX6_token_35 : decode cX6_token 35 = .ok (.aload_n 0, 1) := by decide +kernel
theorem dX6_token_36 : decode cX6_token 36 = .ok (.getfield 60, 3) := by decide +kernel
theorem dX6_token_39 : decode cX6_token 39 = .ok (.invokevirtual 63, 3) := by decide +kernel
theorem dX6_token_42 : decode cX6_token 42 = .ok (.istore_n 1, 1) := by decide +kernel
theorem dX6_token_43 : decode cX6_token 43 = .ok (.aload_n 0, 1) := by decide +kernel
theorem dX6_token_44 : decode cX6_token 44 = .ok (.iload_n 1, 1) := by decide +kernel
theorem dX6_token_45 : decode cX6_token 45 = .ok (.ifCond .ge 7, 3) := by decide +kernel
theorem dX6_token_48 : decode cX6_token 48 = .ok (.iconst 0, 1) := by decide +kernel
theorem dX6_token_49 : decode cX6_token 49 = .ok (.goto 47, 3) := by decide +kernel
theorem dX6_token_52 : decode cX6_token 52 = .ok (.iload_n 1, 1) := by decide +kernel
theorem dX6_token_53 : decode cX6_token 53 = .ok (.bipush 115, 2) := by decide +kernel
theorem dX6_token_55 : decode cX6_token 55 = .ok (.if_icmp .eq 15, 3) := by decide +kernel
theorem dX6_token_58 : decode cX6_token 58 = .ok (.iload_n 1, 1) := by decide +kernel
theorem dX6_token_59 : decode cX6_token 59 = .ok (.bipush 100, 2) := by decide +kernel
theorem dX6_token_61 : decode cX6_token 61 = .ok (.if_icmp .eq 9, 3) := by decide +kernel
theorem dX6_token_64 : decode cX6_token 64 = .ok (.iload_n 1, 1) := by decide +kernel
theorem dX6_token_65 : decode cX6_token 65 = .ok (.bipush 110, 2) := by decide +kernel
theorem dX6_token_67 : decode cX6_token 67 = .ok (.if_icmp .ne 7, 3) := by decide +kernel
theorem dX6_token_70 : decode cX6_token 70 = .ok (.iconst 1, 1) := by decide +kernel
theorem dX6_token_71 : decode cX6_token 71 = .ok (.goto 25, 3) := by decide +kernel
theorem dX6_token_74 : decode cX6_token 74 = .ok (.iload_n 1, 1) := by decide +kernel
theorem dX6_token_75 : decode cX6_token 75 = .ok (.invokestatic 70, 3) := by decide +kernel
theorem dX6_token_78 : decode cX6_token 78 = .ok (.ifCond .eq 7, 3) := by decide +kernel
theorem dX6_token_81 : decode cX6_token 81 = .ok (.iconst 2, 1) := by decide +kernel
theorem dX6_token_82 : decode cX6_token 82 = .ok (.goto 14, 3) := by decide +kernel
theorem dX6_token_85 : decode cX6_token 85 = .ok (.iload_n 1, 1) := by decide +kernel
theorem dX6_token_86 : decode cX6_token 86 = .ok (.bipush 59, 2) := by decide +kernel
theorem dX6_token_88 : decode cX6_token 88 = .ok (.if_icmp .ne 7, 3) := by decide +kernel
theorem dX6_token_91 : decode cX6_token 91 = .ok (.iconst 3, 1) := by decide +kernel
theorem dX6_token_92 : decode cX6_token 92 = .ok (.goto 4, 3) := by decide +kernel
theorem dX6_token_95 : decode cX6_token 95 = .ok (.iconst 4, 1) := by decide +kernel
theorem dX6_token_96 : decode cX6_token 96 = .ok (.putfield 74, 3) := by decide +kernel
theorem dX6_token_99 : decode cX6_token 99 = .ok (.aload_n 0, 1) := by decide +kernel
theorem dX6_token_100 : decode cX6_token 100 = .ok (.iload_n 1, 1) := by decide +kernel
theorem dX6_token_101 : decode cX6_token 101 = .ok (.putfield 77, 3) := by decide +kernel
theorem dX6_token_104 : decode cX6_token 104 = .ok (.aload_n 0, 1) := by decide +kernel
theorem dX6_token_105 : decode cX6_token 105 = .ok (.dup, 1) := by decide +kernel
theorem dX6_token_106 : decode cX6_token 106 = .ok (.getfield 60, 3) := by decide +kernel
theorem dX6_token_109 : decode cX6_token 109 = .ok (.aload_n 0, 1) := by decide +kernel
theorem dX6_token_110 : decode cX6_token 110 = .ok (.getfield 74, 3) := by decide +kernel
theorem dX6_token_113 : decode cX6_token 113 = .ok (.ifCond .ne 7, 3) := by decide +kernel
theorem dX6_token_116 : decode cX6_token 116 = .ok (.iconst 0, 1) := by decide +kernel
theorem dX6_token_117 : decode cX6_token 117 = .ok (.goto 4, 3) := by decide +kernel
theorem dX6_token_120 : decode cX6_token 120 = .ok (.iconst 1, 1) := by decide +kernel
theorem dX6_token_121 : decode cX6_token 121 = .ok (.iadd, 1) := by decide +kernel
theorem dX6_token_122 : decode cX6_token 122 = .ok (.putfield 60, 3) := by decide +kernel
theorem dX6_token_125 : decode cX6_token 125 = .ok (.aload_n 0, 1) := by decide +kernel
theorem dX6_token_126 : decode cX6_token 126 = .ok (.getfield 74, 3) := by decide +kernel
theorem dX6_token_129 : decode cX6_token 129 = .ok (.iconst 2, 1) := by decide +kernel
theorem dX6_token_130 : decode cX6_token 130 = .ok (.if_icmp .ne 83, 3) := by decide +kernel
theorem dX6_token_133 : decode cX6_token 133 = .ok (.aload_n 0, 1) := by decide +kernel
theorem dX6_token_134 : decode cX6_token 134 = .ok (.iload_n 1, 1) := by decide +kernel
theorem dX6_token_135 : decode cX6_token 135 = .ok (.bipush 48, 2) := by decide +kernel
theorem dX6_token_137 : decode cX6_token 137 = .ok (.isub, 1) := by decide +kernel
theorem dX6_token_138 : decode cX6_token 138 = .ok (.putfield 77, 3) := by decide +kernel
theorem dX6_token_141 : decode cX6_token 141 = .ok (.aload_n 0, 1) := by decide +kernel
theorem dX6_token_142 : decode cX6_token 142 = .ok (.aload_n 0, 1) := by decide +kernel
theorem dX6_token_143 : decode cX6_token 143 = .ok (.getfield 60, 3) := by decide +kernel
theorem dX6_token_146 : decode cX6_token 146 = .ok (.invokevirtual 63, 3) := by decide +kernel
theorem dX6_token_149 : decode cX6_token 149 = .ok (.invokestatic 70, 3) := by decide +kernel
theorem dX6_token_152 : decode cX6_token 152 = .ok (.ifCond .eq 61, 3) := by decide +kernel
theorem dX6_token_155 : decode cX6_token 155 = .ok (.aload_n 0, 1) := by decide +kernel
theorem dX6_token_156 : decode cX6_token 156 = .ok (.iload_n 1, 1) := by decide +kernel
theorem dX6_token_157 : decode cX6_token 157 = .ok (.bipush 48, 2) := by decide +kernel
theorem dX6_token_159 : decode cX6_token 159 = .ok (.if_icmp .eq 12, 3) := by decide +kernel
theorem dX6_token_162 : decode cX6_token 162 = .ok (.aload_n 0, 1) := by decide +kernel
theorem dX6_token_163 : decode cX6_token 163 = .ok (.getfield 77, 3) := by decide +kernel
theorem dX6_token_166 : decode cX6_token 166 = .ok (.bipush 127, 2) := by decide +kernel
theorem dX6_token_168 : decode cX6_token 168 = .ok (.if_icmp .le 9, 3) := by decide +kernel
theorem dX6_token_171 : decode cX6_token 171 = .ok (.sipush 1000, 3) := by decide +kernel
theorem dX6_token_174 : decode cX6_token 174 = .ok (.goto 23, 3) := by decide +kernel
theorem dX6_token_177 : decode cX6_token 177 = .ok (.bipush 10, 2) := by decide +kernel
theorem dX6_token_179 : decode cX6_token 179 = .ok (.aload_n 0, 1) := by decide +kernel
theorem dX6_token_180 : decode cX6_token 180 = .ok (.getfield 77, 3) := by decide +kernel
theorem dX6_token_183 : decode cX6_token 183 = .ok (.imul, 1) := by decide +kernel
theorem dX6_token_184 : decode cX6_token 184 = .ok (.aload_n 0, 1) := by decide +kernel
theorem dX6_token_185 : decode cX6_token 185 = .ok (.getfield 7, 3) := by decide +kernel
theorem dX6_token_188 : decode cX6_token 188 = .ok (.aload_n 0, 1) := by decide +kernel
theorem dX6_token_189 : decode cX6_token 189 = .ok (.getfield 60, 3) := by decide +kernel
theorem dX6_token_192 : decode cX6_token 192 = .ok (.iaload, 1) := by decide +kernel
theorem dX6_token_193 : decode cX6_token 193 = .ok (.iadd, 1) := by decide +kernel
theorem dX6_token_194 : decode cX6_token 194 = .ok (.bipush 48, 2) := by decide +kernel
theorem dX6_token_196 : decode cX6_token 196 = .ok (.isub, 1) := by decide +kernel
theorem dX6_token_197 : decode cX6_token 197 = .ok (.putfield 77, 3) := by decide +kernel
theorem dX6_token_200 : decode cX6_token 200 = .ok (.aload_n 0, 1) := by decide +kernel
theorem dX6_token_201 : decode cX6_token 201 = .ok (.dup, 1) := by decide +kernel
theorem dX6_token_202 : decode cX6_token 202 = .ok (.getfield 60, 3) := by decide +kernel
theorem dX6_token_205 : decode cX6_token 205 = .ok (.iconst 1, 1) := by decide +kernel
theorem dX6_token_206 : decode cX6_token 206 = .ok (.iadd, 1) := by decide +kernel
theorem dX6_token_207 : decode cX6_token 207 = .ok (.putfield 60, 3) := by decide +kernel
theorem dX6_token_210 : decode cX6_token 210 = .ok (.goto (-69), 3) := by decide +kernel
theorem dX6_token_213 : decode cX6_token 213 = .ok (.return_, 1) := by decide +kernel
theorem dX6_number_0 : decode cX6_number 0 = .ok (.aload_n 0, 1) := by decide +kernel
theorem dX6_number_1 : decode cX6_number 1 = .ok (.invokevirtual 80, 3) := by decide +kernel
theorem dX6_number_4 : decode cX6_number 4 = .ok (.aload_n 0, 1) := by decide +kernel
theorem dX6_number_5 : decode cX6_number 5 = .ok (.getfield 16, 3) := by decide +kernel
theorem dX6_number_8 : decode cX6_number 8 = .ok (.iload_n 1, 1) := by decide +kernel
theorem dX6_number_9 : decode cX6_number 9 = .ok (.aload_n 0, 1) := by decide +kernel
theorem dX6_number_10 : decode cX6_number 10 = .ok (.getfield 77, 3) := by decide +kernel
theorem dX6_number_13 : decode cX6_number 13 = .ok (.iastore, 1) := by decide +kernel
theorem dX6_number_14 : decode cX6_number 14 = .ok (.aload_n 0, 1) := by decide +kernel
theorem dX6_number_15 : decode cX6_number 15 = .ok (.getfield 74, 3) := by decide +kernel
theorem dX6_number_18 : decode cX6_number 18 = .ok (.iconst 2, 1) := by decide +kernel
theorem dX6_number_19 : decode cX6_number 19 = .ok (.if_icmp .ne 19, 3) := by decide +kernel
theorem dX6_number_22 : decode cX6_number 22 = .ok (.aload_n 0, 1) := by decide +kernel
theorem dX6_number_23 : decode cX6_number 23 = .ok (.getfield 77, 3) := by decide +kernel
theorem dX6_number_26 : decode cX6_number 26 = .ok (.iload_n 2, 1) := by decide +kernel
theorem dX6_number_27 : decode cX6_number 27 = .ok (.iload_n 3, 1) := by decide +kernel
theorem dX6_number_28 : decode cX6_number 28 = .ok (.invokestatic 52, 3) := by decide +kernel
theorem dX6_number_31 : decode cX6_number 31 = .ok (.ifCond .eq 7, 3) := by decide +kernel
theorem dX6_number_34 : decode cX6_number 34 = .ok (.iconst 1, 1) := by decide +kernel
theorem dX6_number_35 : decode cX6_number 35 = .ok (.goto 4, 3) := by decide +kernel
theorem dX6_number_38 : decode cX6_number 38 = .ok (.iconst 0, 1) := by decide +kernel
theorem dX6_number_39 : decode cX6_number 39 = .ok (.ireturn, 1) := by decide +kernel
theorem dX6_once_0 : decode cX6_once 0 = .ok (.aload_n 0, 1) := by decide +kernel
theorem dX6_once_1 : decode cX6_once 1 = .ok (.getfield 16, 3) := by decide +kernel
theorem dX6_once_4 : decode cX6_once 4 = .ok (.iconst 4, 1) := by decide +kernel
theorem dX6_once_5 : decode cX6_once 5 = .ok (.iaload, 1) := by decide +kernel
theorem dX6_once_6 : decode cX6_once 6 = .ok (.iload_n 1, 1) := by decide +kernel
theorem dX6_once_7 : decode cX6_once 7 = .ok (.iand, 1) := by decide +kernel
theorem dX6_once_8 : decode cX6_once 8 = .ok (.ifCond .eq 5, 3) := by decide +kernel
theorem dX6_once_11 : decode cX6_once 11 = .ok (.iconst 0, 1) := by decide +kernel
theorem dX6_once_12 : decode cX6_once 12 = .ok (.ireturn, 1) := by decide +kernel
theorem dX6_once_13 : decode cX6_once 13 = .ok (.aload_n 0, 1) := by decide +kernel
theorem dX6_once_14 : decode cX6_once 14 = .ok (.getfield 16, 3) := by decide +kernel
theorem dX6_once_17 : decode cX6_once 17 = .ok (.iconst 4, 1) := by decide +kernel
theorem dX6_once_18 : decode cX6_once 18 = .ok (.dup2, 1) := by decide +kernel
theorem dX6_once_19 : decode cX6_once 19 = .ok (.iaload, 1) := by decide +kernel
theorem dX6_once_20 : decode cX6_once 20 = .ok (.iload_n 1, 1) := by decide +kernel
theorem dX6_once_21 : decode cX6_once 21 = .ok (.ior, 1) := by decide +kernel
theorem dX6_once_22 : decode cX6_once 22 = .ok (.iastore, 1) := by decide +kernel
theorem dX6_once_23 : decode cX6_once 23 = .ok (.aload_n 0, 1) := by decide +kernel
theorem dX6_once_24 : decode cX6_once 24 = .ok (.iload_n 2, 1) := by decide +kernel
theorem dX6_once_25 : decode cX6_once 25 = .ok (.iconst 1, 1) := by decide +kernel
theorem dX6_once_26 : decode cX6_once 26 = .ok (.iload_n 3, 1) := by decide +kernel
theorem dX6_once_27 : decode cX6_once 27 = .ok (.invokevirtual 83, 3) := by decide +kernel
theorem dX6_once_30 : decode cX6_once 30 = .ok (.ireturn, 1) := by decide +kernel
theorem dX6_readsItem_0 : decode cX6_readsItem 0 = .ok (.aload_n 0, 1) := by decide +kernel
theorem dX6_readsItem_1 : decode cX6_readsItem 1 = .ok (.getfield 74, 3) := by decide +kernel
theorem dX6_readsItem_4 : decode cX6_readsItem 4 = .ok (.iconst 1, 1) := by decide +kernel
theorem dX6_readsItem_5 : decode cX6_readsItem 5 = .ok (.if_icmp .ne 10, 3) := by decide +kernel
theorem dX6_readsItem_8 : decode cX6_readsItem 8 = .ok (.aload_n 0, 1) := by decide +kernel
theorem dX6_readsItem_9 : decode cX6_readsItem 9 = .ok (.getfield 77, 3) := by decide +kernel
theorem dX6_readsItem_12 : decode cX6_readsItem 12 = .ok (.goto 4, 3) := by decide +kernel
theorem dX6_readsItem_15 : decode cX6_readsItem 15 = .ok (.iconst 0, 1) := by decide +kernel
theorem dX6_readsItem_16 : decode cX6_readsItem 16 = .ok (.istore_n 1, 1) := by decide +kernel
theorem dX6_readsItem_17 : decode cX6_readsItem 17 = .ok (.iload_n 1, 1) := by decide +kernel
theorem dX6_readsItem_18 : decode cX6_readsItem 18 = .ok (.bipush 115, 2) := by decide +kernel
theorem dX6_readsItem_20 : decode cX6_readsItem 20 = .ok (.if_icmp .ne 70, 3) := by decide +kernel
theorem dX6_readsItem_23 : decode cX6_readsItem 23 = .ok (.aload_n 0, 1) := by decide +kernel
theorem dX6_readsItem_24 : decode cX6_readsItem 24 = .ok (.getfield 16, 3) := by decide +kernel
theorem dX6_readsItem_27 : decode cX6_readsItem 27 = .ok (.iconst 0, 1) := by decide +kernel
theorem dX6_readsItem_28 : decode cX6_readsItem 28 = .ok (.iaload, 1) := by decide +kernel
theorem dX6_readsItem_29 : decode cX6_readsItem 29 = .ok (.istore_n 2, 1) := by decide +kernel
theorem dX6_readsItem_30 : decode cX6_readsItem 30 = .ok (.iload_n 2, 1) := by decide +kernel
theorem dX6_readsItem_31 : decode cX6_readsItem 31 = .ok (.bipush 7, 2) := by decide +kernel
theorem dX6_readsItem_33 : decode cX6_readsItem 33 = .ok (.if_icmp .eq 43, 3) := by decide +kernel
theorem dX6_readsItem_36 : decode cX6_readsItem 36 = .ok (.aload_n 0, 1) := by decide +kernel
theorem dX6_readsItem_37 : decode cX6_readsItem 37 = .ok (.iconst 5, 1) := by decide +kernel
theorem dX6_readsItem_38 : decode cX6_readsItem 38 = .ok (.iload_n 2, 1) := by decide +kernel
theorem dX6_readsItem_39 : decode cX6_readsItem 39 = .ok (.iadd, 1) := by decide +kernel
theorem dX6_readsItem_40 : decode cX6_readsItem 40 = .ok (.iconst 0, 1) := by decide +kernel
theorem dX6_readsItem_41 : decode cX6_readsItem 41 = .ok (.iconst 2, 1) := by decide +kernel
theorem dX6_readsItem_42 : decode cX6_readsItem 42 = .ok (.invokevirtual 83, 3) := by decide +kernel
theorem dX6_readsItem_45 : decode cX6_readsItem 45 = .ok (.ifCond .eq 31, 3) := by decide +kernel
theorem dX6_readsItem_48 : decode cX6_readsItem 48 = .ok (.aload_n 0, 1) := by decide +kernel
theorem dX6_readsItem_49 : decode cX6_readsItem 49 = .ok (.bipush 12, 2) := by decide +kernel
theorem dX6_readsItem_51 : decode cX6_readsItem 51 = .ok (.iload_n 2, 1) := by decide +kernel
theorem dX6_readsItem_52 : decode cX6_readsItem 52 = .ok (.iadd, 1) := by decide +kernel
theorem dX6_readsItem_53 : decode cX6_readsItem 53 = .ok (.iconst 0, 1) := by decide +kernel
theorem dX6_readsItem_54 : decode cX6_readsItem 54 = .ok (.bipush 7, 2) := by decide +kernel
theorem dX6_readsItem_56 : decode cX6_readsItem 56 = .ok (.invokevirtual 83, 3) := by decide +kernel
theorem dX6_readsItem_59 : decode cX6_readsItem 59 = .ok (.ifCond .eq 17, 3) := by decide +kernel
theorem dX6_readsItem_62 : decode cX6_readsItem 62 = .ok (.aload_n 0, 1) := by decide +kernel
theorem dX6_readsItem_63 : decode cX6_readsItem 63 = .ok (.bipush 19, 2) := by decide +kernel
theorem dX6_readsItem_65 : decode cX6_readsItem 65 = .ok (.iload_n 2, 1) := by decide +kernel
theorem dX6_readsItem_66 : decode cX6_readsItem 66 = .ok (.iadd, 1) := by decide +kernel
theorem dX6_readsItem_67 : decode cX6_readsItem 67 = .ok (.iconst 0, 1) := by decide +kernel
theorem dX6_readsItem_68 : decode cX6_readsItem 68 = .ok (.bipush 127, 2) := by decide +kernel
theorem dX6_readsItem_70 : decode cX6_readsItem 70 = .ok (.invokevirtual 83, 3) := by decide +kernel
theorem dX6_readsItem_73 : decode cX6_readsItem 73 = .ok (.ifCond .ne 5, 3) := by decide +kernel
theorem dX6_readsItem_76 : decode cX6_readsItem 76 = .ok (.iconst 0, 1) := by decide +kernel
theorem dX6_readsItem_77 : decode cX6_readsItem 77 = .ok (.ireturn, 1) := by decide +kernel
theorem dX6_readsItem_78 : decode cX6_readsItem 78 = .ok (.aload_n 0, 1) := by decide +kernel
theorem dX6_readsItem_79 : decode cX6_readsItem 79 = .ok (.getfield 16, 3) := by decide +kernel
theorem dX6_readsItem_82 : decode cX6_readsItem 82 = .ok (.iconst 0, 1) := by decide +kernel
theorem dX6_readsItem_83 : decode cX6_readsItem 83 = .ok (.dup2, 1) := by decide +kernel
theorem dX6_readsItem_84 : decode cX6_readsItem 84 = .ok (.iaload, 1) := by decide +kernel
theorem dX6_readsItem_85 : decode cX6_readsItem 85 = .ok (.iconst 1, 1) := by decide +kernel
theorem dX6_readsItem_86 : decode cX6_readsItem 86 = .ok (.iadd, 1) := by decide +kernel
theorem dX6_readsItem_87 : decode cX6_readsItem 87 = .ok (.iastore, 1) := by decide +kernel
theorem dX6_readsItem_88 : decode cX6_readsItem 88 = .ok (.iconst 1, 1) := by decide +kernel
theorem dX6_readsItem_89 : decode cX6_readsItem 89 = .ok (.ireturn, 1) := by decide +kernel
theorem dX6_readsItem_90 : decode cX6_readsItem 90 = .ok (.iload_n 1, 1) := by decide +kernel
theorem dX6_readsItem_91 : decode cX6_readsItem 91 = .ok (.bipush 100, 2) := by decide +kernel
theorem dX6_readsItem_93 : decode cX6_readsItem 93 = .ok (.if_icmp .ne 13, 3) := by decide +kernel
theorem dX6_readsItem_96 : decode cX6_readsItem 96 = .ok (.aload_n 0, 1) := by decide +kernel
theorem dX6_readsItem_97 : decode cX6_readsItem 97 = .ok (.iconst 1, 1) := by decide +kernel
theorem dX6_readsItem_98 : decode cX6_readsItem 98 = .ok (.iconst 1, 1) := by decide +kernel
theorem dX6_readsItem_99 : decode cX6_readsItem 99 = .ok (.iconst 4, 1) := by decide +kernel
theorem dX6_readsItem_100 : decode cX6_readsItem 100 = .ok (.invokevirtual 86, 3) := by decide +kernel
theorem dX6_readsItem_103 : decode cX6_readsItem 103 = .ok (.goto 25, 3) := by decide +kernel
theorem dX6_readsItem_106 : decode cX6_readsItem 106 = .ok (.iload_n 1, 1) := by decide +kernel
theorem dX6_readsItem_107 : decode cX6_readsItem 107 = .ok (.bipush 110, 2) := by decide +kernel
theorem dX6_readsItem_109 : decode cX6_readsItem 109 = .ok (.if_icmp .ne 18, 3) := by decide +kernel
theorem dX6_readsItem_112 : decode cX6_readsItem 112 = .ok (.aload_n 0, 1) := by decide +kernel
theorem dX6_readsItem_113 : decode cX6_readsItem 113 = .ok (.iconst 2, 1) := by decide +kernel
theorem dX6_readsItem_114 : decode cX6_readsItem 114 = .ok (.iconst 2, 1) := by decide +kernel
theorem dX6_readsItem_115 : decode cX6_readsItem 115 = .ok (.bipush 8, 2) := by decide +kernel
theorem dX6_readsItem_117 : decode cX6_readsItem 117 = .ok (.invokevirtual 86, 3) := by decide +kernel
theorem dX6_readsItem_120 : decode cX6_readsItem 120 = .ok (.ifCond .eq 7, 3) := by decide +kernel
theorem dX6_readsItem_123 : decode cX6_readsItem 123 = .ok (.iconst 1, 1) := by decide +kernel
theorem dX6_readsItem_124 : decode cX6_readsItem 124 = .ok (.goto 4, 3) := by decide +kernel
theorem dX6_readsItem_127 : decode cX6_readsItem 127 = .ok (.iconst 0, 1) := by decide +kernel
theorem dX6_readsItem_128 : decode cX6_readsItem 128 = .ok (.ireturn, 1) := by decide +kernel
theorem dX6_reads_0 : decode cX6_reads 0 = .ok (.iconst 0, 1) := by decide +kernel
theorem dX6_reads_1 : decode cX6_reads 1 = .ok (.istore_n 1, 1) := by decide +kernel
theorem dX6_reads_2 : decode cX6_reads 2 = .ok (.iload_n 1, 1) := by decide +kernel
theorem dX6_reads_3 : decode cX6_reads 3 = .ok (.bipush 26, 2) := by decide +kernel
theorem dX6_reads_5 : decode cX6_reads 5 = .ok (.if_icmp .ge 16, 3) := by decide +kernel
theorem dX6_reads_8 : decode cX6_reads 8 = .ok (.aload_n 0, 1) := by decide +kernel
theorem dX6_reads_9 : decode cX6_reads 9 = .ok (.getfield 16, 3) := by decide +kernel
theorem dX6_reads_12 : decode cX6_reads 12 = .ok (.iload_n 1, 1) := by decide +kernel
theorem dX6_reads_13 : decode cX6_reads 13 = .ok (.iconst 0, 1) := by decide +kernel
theorem dX6_reads_14 : decode cX6_reads 14 = .ok (.iastore, 1) := by decide +kernel
theorem dX6_reads_15 : decode cX6_reads 15 = .ok (.iinc 1 1, 3) := by decide +kernel
theorem dX6_reads_18 : decode cX6_reads 18 = .ok (.goto (-16), 3) := by decide +kernel
theorem dX6_reads_21 : decode cX6_reads 21 = .ok (.aload_n 0, 1) := by decide +kernel
theorem dX6_reads_22 : decode cX6_reads 22 = .ok (.getfield 16, 3) := by decide +kernel
theorem dX6_reads_25 : decode cX6_reads 25 = .ok (.iconst 1, 1) := by decide +kernel
theorem dX6_reads_26 : decode cX6_reads 26 = .ok (.iconst 3, 1) := by decide +kernel
theorem dX6_reads_27 : decode cX6_reads 27 = .ok (.iastore, 1) := by decide +kernel
theorem dX6_reads_28 : decode cX6_reads 28 = .ok (.aload_n 0, 1) := by decide +kernel
theorem dX6_reads_29 : decode cX6_reads 29 = .ok (.getfield 16, 3) := by decide +kernel
end
section
theorem dX6_reads_32 : decode cX6_reads 32 = .ok (.iconst 2, 1) := by decide +kernel
theorem dX6_reads_33 : decode cX6_reads 33 = .ok (.bipush 8, 2) := by decide +kernel
theorem dX6_reads_35 : decode cX6_reads 35 = .ok (.iastore, 1) := by decide +kernel
theorem dX6_reads_36 : decode cX6_reads 36 = .ok (.aload_n 0, 1) := by decide +kernel
theorem dX6_reads_37 : decode cX6_reads 37 = .ok (.iconst 0, 1) := by decide +kernel
theorem dX6_reads_38 : decode cX6_reads 38 = .ok (.putfield 60, 3) := by decide +kernel
theorem dX6_reads_41 : decode cX6_reads 41 = .ok (.aload_n 0, 1) := by decide +kernel
theorem dX6_reads_42 : decode cX6_reads 42 = .ok (.invokevirtual 80, 3) := by decide +kernel
theorem dX6_reads_45 : decode cX6_reads 45 = .ok (.aload_n 0, 1) := by decide +kernel
theorem dX6_reads_46 : decode cX6_reads 46 = .ok (.getfield 74, 3) := by decide +kernel
theorem dX6_reads_49 : decode cX6_reads 49 = .ok (.ifCond .eq 43, 3) := by decide +kernel
theorem dX6_reads_52 : decode cX6_reads 52 = .ok (.aload_n 0, 1) := by decide +kernel
theorem dX6_reads_53 : decode cX6_reads 53 = .ok (.invokevirtual 89, 3) := by decide +kernel
theorem dX6_reads_56 : decode cX6_reads 56 = .ok (.ifCond .ne 5, 3) := by decide +kernel
theorem dX6_reads_59 : decode cX6_reads 59 = .ok (.iconst 0, 1) := by decide +kernel
theorem dX6_reads_60 : decode cX6_reads 60 = .ok (.ireturn, 1) := by decide +kernel
theorem dX6_reads_61 : decode cX6_reads 61 = .ok (.aload_n 0, 1) := by decide +kernel
theorem dX6_reads_62 : decode cX6_reads 62 = .ok (.invokevirtual 80, 3) := by decide +kernel
theorem dX6_reads_65 : decode cX6_reads 65 = .ok (.aload_n 0, 1) := by decide +kernel
theorem dX6_reads_66 : decode cX6_reads 66 = .ok (.getfield 74, 3) := by decide +kernel
theorem dX6_reads_69 : decode cX6_reads 69 = .ok (.iconst 3, 1) := by decide +kernel
theorem dX6_reads_70 : decode cX6_reads 70 = .ok (.if_icmp .eq 5, 3) := by decide +kernel
theorem dX6_reads_73 : decode cX6_reads 73 = .ok (.iconst 0, 1) := by decide +kernel
theorem dX6_reads_74 : decode cX6_reads 74 = .ok (.ireturn, 1) := by decide +kernel
theorem dX6_reads_75 : decode cX6_reads 75 = .ok (.aload_n 0, 1) := by decide +kernel
theorem dX6_reads_76 : decode cX6_reads 76 = .ok (.getfield 16, 3) := by decide +kernel
theorem dX6_reads_79 : decode cX6_reads 79 = .ok (.iconst 3, 1) := by decide +kernel
theorem dX6_reads_80 : decode cX6_reads 80 = .ok (.dup2, 1) := by decide +kernel
theorem dX6_reads_81 : decode cX6_reads 81 = .ok (.iaload, 1) := by decide +kernel
theorem dX6_reads_82 : decode cX6_reads 82 = .ok (.iconst 1, 1) := by decide +kernel
theorem dX6_reads_83 : decode cX6_reads 83 = .ok (.iadd, 1) := by decide +kernel
theorem dX6_reads_84 : decode cX6_reads 84 = .ok (.iastore, 1) := by decide +kernel
theorem dX6_reads_85 : decode cX6_reads 85 = .ok (.aload_n 0, 1) := by decide +kernel
theorem dX6_reads_86 : decode cX6_reads 86 = .ok (.invokevirtual 80, 3) := by decide +kernel
theorem dX6_reads_89 : decode cX6_reads 89 = .ok (.goto (-44), 3) := by decide +kernel
theorem dX6_reads_92 : decode cX6_reads 92 = .ok (.iconst 1, 1) := by decide +kernel
theorem dX6_reads_93 : decode cX6_reads 93 = .ok (.ireturn, 1) := by decide +kernel
theorem dX6_tells_0 : decode cX6_tells 0 = .ok (.iconst 0, 1) := by decide +kernel
theorem dX6_tells_1 : decode cX6_tells 1 = .ok (.istore_n 1, 1) := by decide +kernel
theorem dX6_tells_2 : decode cX6_tells 2 = .ok (.iload_n 1, 1) := by decide +kernel
theorem dX6_tells_3 : decode cX6_tells 3 = .ok (.bipush 26, 2) := by decide +kernel
theorem dX6_tells_5 : decode cX6_tells 5 = .ok (.if_icmp .ge 21, 3) := by decide +kernel
theorem dX6_tells_8 : decode cX6_tells 8 = .ok (.aload_n 0, 1) := by decide +kernel
theorem dX6_tells_9 : decode cX6_tells 9 = .ok (.getfield 13, 3) := by decide +kernel
theorem dX6_tells_12 : decode cX6_tells 12 = .ok (.iload_n 1, 1) := by decide +kernel
theorem dX6_tells_13 : decode cX6_tells 13 = .ok (.aload_n 0, 1) := by decide +kernel
theorem dX6_tells_14 : decode cX6_tells 14 = .ok (.getfield 16, 3) := by decide +kernel
theorem dX6_tells_17 : decode cX6_tells 17 = .ok (.iload_n 1, 1) := by decide +kernel
theorem dX6_tells_18 : decode cX6_tells 18 = .ok (.iaload, 1) := by decide +kernel
theorem dX6_tells_19 : decode cX6_tells 19 = .ok (.iastore, 1) := by decide +kernel
theorem dX6_tells_20 : decode cX6_tells 20 = .ok (.iinc 1 1, 3) := by decide +kernel
theorem dX6_tells_23 : decode cX6_tells 23 = .ok (.goto (-21), 3) := by decide +kernel
theorem dX6_tells_26 : decode cX6_tells 26 = .ok (.iconst 0, 1) := by decide +kernel
theorem dX6_tells_27 : decode cX6_tells 27 = .ok (.istore_n 1, 1) := by decide +kernel
theorem dX6_tells_28 : decode cX6_tells 28 = .ok (.iload_n 1, 1) := by decide +kernel
theorem dX6_tells_29 : decode cX6_tells 29 = .ok (.bipush 7, 2) := by decide +kernel
theorem dX6_tells_31 : decode cX6_tells 31 = .ok (.if_icmp .ge 44, 3) := by decide +kernel
theorem dX6_tells_34 : decode cX6_tells 34 = .ok (.aload_n 0, 1) := by decide +kernel
theorem dX6_tells_35 : decode cX6_tells 35 = .ok (.getfield 13, 3) := by decide +kernel
theorem dX6_tells_38 : decode cX6_tells 38 = .ok (.bipush 19, 2) := by decide +kernel
theorem dX6_tells_40 : decode cX6_tells 40 = .ok (.iload_n 1, 1) := by decide +kernel
theorem dX6_tells_41 : decode cX6_tells 41 = .ok (.iadd, 1) := by decide +kernel
theorem dX6_tells_42 : decode cX6_tells 42 = .ok (.aload_n 0, 1) := by decide +kernel
theorem dX6_tells_43 : decode cX6_tells 43 = .ok (.getfield 13, 3) := by decide +kernel
theorem dX6_tells_46 : decode cX6_tells 46 = .ok (.bipush 19, 2) := by decide +kernel
theorem dX6_tells_48 : decode cX6_tells 48 = .ok (.iload_n 1, 1) := by decide +kernel
theorem dX6_tells_49 : decode cX6_tells 49 = .ok (.iadd, 1) := by decide +kernel
theorem dX6_tells_50 : decode cX6_tells 50 = .ok (.iaload, 1) := by decide +kernel
theorem dX6_tells_51 : decode cX6_tells 51 = .ok (.iconst 1, 1) := by decide +kernel
theorem dX6_tells_52 : decode cX6_tells 52 = .ok (.aload_n 0, 1) := by decide +kernel
theorem dX6_tells_53 : decode cX6_tells 53 = .ok (.getfield 13, 3) := by decide +kernel
theorem dX6_tells_56 : decode cX6_tells 56 = .ok (.iconst 0, 1) := by decide +kernel
theorem dX6_tells_57 : decode cX6_tells 57 = .ok (.iaload, 1) := by decide +kernel
theorem dX6_tells_58 : decode cX6_tells 58 = .ok (.ishl, 1) := by decide +kernel
theorem dX6_tells_59 : decode cX6_tells 59 = .ok (.iconst 1, 1) := by decide +kernel
theorem dX6_tells_60 : decode cX6_tells 60 = .ok (.isub, 1) := by decide +kernel
theorem dX6_tells_61 : decode cX6_tells 61 = .ok (.iand, 1) := by decide +kernel
theorem dX6_tells_62 : decode cX6_tells 62 = .ok (.iconst 1, 1) := by decide +kernel
theorem dX6_tells_63 : decode cX6_tells 63 = .ok (.iload_n 1, 1) := by decide +kernel
theorem dX6_tells_64 : decode cX6_tells 64 = .ok (.ishl, 1) := by decide +kernel
theorem dX6_tells_65 : decode cX6_tells 65 = .ok (.iconst (-1), 1) := by decide +kernel
theorem dX6_tells_66 : decode cX6_tells 66 = .ok (.ixor, 1) := by decide +kernel
theorem dX6_tells_67 : decode cX6_tells 67 = .ok (.iand, 1) := by decide +kernel
theorem dX6_tells_68 : decode cX6_tells 68 = .ok (.iastore, 1) := by decide +kernel
theorem dX6_tells_69 : decode cX6_tells 69 = .ok (.iinc 1 1, 3) := by decide +kernel
theorem dX6_tells_72 : decode cX6_tells 72 = .ok (.goto (-44), 3) := by decide +kernel
theorem dX6_tells_75 : decode cX6_tells 75 = .ok (.iconst 0, 1) := by decide +kernel
theorem dX6_tells_76 : decode cX6_tells 76 = .ok (.istore_n 1, 1) := by decide +kernel
theorem dX6_tells_77 : decode cX6_tells 77 = .ok (.iload_n 1, 1) := by decide +kernel
theorem dX6_tells_78 : decode cX6_tells 78 = .ok (.bipush 18, 2) := by decide +kernel
theorem dX6_tells_80 : decode cX6_tells 80 = .ok (.if_icmp .ge 30, 3) := by decide +kernel
theorem dX6_tells_83 : decode cX6_tells 83 = .ok (.aload_n 0, 1) := by decide +kernel
theorem dX6_tells_84 : decode cX6_tells 84 = .ok (.getfield 19, 3) := by decide +kernel
theorem dX6_tells_87 : decode cX6_tells 87 = .ok (.iload_n 1, 1) := by decide +kernel
theorem dX6_tells_88 : decode cX6_tells 88 = .ok (.iload_n 1, 1) := by decide +kernel
theorem dX6_tells_89 : decode cX6_tells 89 = .ok (.iconst 2, 1) := by decide +kernel
theorem dX6_tells_90 : decode cX6_tells 90 = .ok (.bipush 9, 2) := by decide +kernel
theorem dX6_tells_92 : decode cX6_tells 92 = .ok (.invokestatic 52, 3) := by decide +kernel
theorem dX6_tells_95 : decode cX6_tells 95 = .ok (.ifCond .eq 7, 3) := by decide +kernel
theorem dX6_tells_98 : decode cX6_tells 98 = .ok (.iconst (-1), 1) := by decide +kernel
theorem dX6_tells_99 : decode cX6_tells 99 = .ok (.goto 4, 3) := by decide +kernel
theorem dX6_tells_102 : decode cX6_tells 102 = .ok (.iconst 0, 1) := by decide +kernel
theorem dX6_tells_103 : decode cX6_tells 103 = .ok (.iastore, 1) := by decide +kernel
theorem dX6_tells_104 : decode cX6_tells 104 = .ok (.iinc 1 1, 3) := by decide +kernel
theorem dX6_tells_107 : decode cX6_tells 107 = .ok (.goto (-30), 3) := by decide +kernel
theorem dX6_tells_110 : decode cX6_tells 110 = .ok (.aload_n 0, 1) := by decide +kernel
theorem dX6_tells_111 : decode cX6_tells 111 = .ok (.iconst 0, 1) := by decide +kernel
theorem dX6_tells_112 : decode cX6_tells 112 = .ok (.putfield 92, 3) := by decide +kernel
theorem dX6_tells_115 : decode cX6_tells 115 = .ok (.aload_n 0, 1) := by decide +kernel
theorem dX6_tells_116 : decode cX6_tells 116 = .ok (.getfield 28, 3) := by decide +kernel
theorem dX6_tells_119 : decode cX6_tells 119 = .ok (.iconst 0, 1) := by decide +kernel
theorem dX6_tells_120 : decode cX6_tells 120 = .ok (.iconst 0, 1) := by decide +kernel
theorem dX6_tells_121 : decode cX6_tells 121 = .ok (.bastore, 1) := by decide +kernel
theorem dX6_tells_122 : decode cX6_tells 122 = .ok (.aload_n 0, 1) := by decide +kernel
theorem dX6_tells_123 : decode cX6_tells 123 = .ok (.getfield 28, 3) := by decide +kernel
theorem dX6_tells_126 : decode cX6_tells 126 = .ok (.iconst 1, 1) := by decide +kernel
theorem dX6_tells_127 : decode cX6_tells 127 = .ok (.iconst 0, 1) := by decide +kernel
theorem dX6_tells_128 : decode cX6_tells 128 = .ok (.bastore, 1) := by decide +kernel
theorem dX6_tells_129 : decode cX6_tells 129 = .ok (.return_, 1) := by decide +kernel
theorem dX6_crew_0 : decode cX6_crew 0 = .ok (.aload_n 0, 1) := by decide +kernel
theorem dX6_crew_1 : decode cX6_crew 1 = .ok (.invokevirtual 45, 3) := by decide +kernel
theorem dX6_crew_4 : decode cX6_crew 4 = .ok (.ifCond .ne 11, 3) := by decide +kernel
theorem dX6_crew_7 : decode cX6_crew 7 = .ok (.bipush (-10), 2) := by decide +kernel
theorem dX6_crew_9 : decode cX6_crew 9 = .ok (.aload_n 0, 1) := by decide +kernel
theorem dX6_crew_10 : decode cX6_crew 10 = .ok (.getfield 67, 3) := by decide +kernel
theorem dX6_crew_13 : decode cX6_crew 13 = .ok (.isub, 1) := by decide +kernel
theorem dX6_crew_14 : decode cX6_crew 14 = .ok (.ireturn, 1) := by decide +kernel
theorem dX6_crew_15 : decode cX6_crew 15 = .ok (.aload_n 0, 1) := by decide +kernel
theorem dX6_crew_16 : decode cX6_crew 16 = .ok (.invokevirtual 49, 3) := by decide +kernel
theorem dX6_crew_19 : decode cX6_crew 19 = .ok (.aload_n 0, 1) := by decide +kernel
theorem dX6_crew_20 : decode cX6_crew 20 = .ok (.iconst 0, 1) := by decide +kernel
theorem dX6_crew_21 : decode cX6_crew 21 = .ok (.putfield 56, 3) := by decide +kernel
theorem dX6_crew_24 : decode cX6_crew 24 = .ok (.aload_n 0, 1) := by decide +kernel
theorem dX6_crew_25 : decode cX6_crew 25 = .ok (.getfield 13, 3) := by decide +kernel
theorem dX6_crew_28 : decode cX6_crew 28 = .ok (.iconst 3, 1) := by decide +kernel
theorem dX6_crew_29 : decode cX6_crew 29 = .ok (.iaload, 1) := by decide +kernel
theorem dX6_crew_30 : decode cX6_crew 30 = .ok (.ireturn, 1) := by decide +kernel
theorem dX6_seatOf_0 : decode cX6_seatOf 0 = .ok (.bipush (-9), 2) := by decide +kernel
theorem dX6_seatOf_2 : decode cX6_seatOf 2 = .ok (.istore_n 2, 1) := by decide +kernel
theorem dX6_seatOf_3 : decode cX6_seatOf 3 = .ok (.iconst 0, 1) := by decide +kernel
theorem dX6_seatOf_4 : decode cX6_seatOf 4 = .ok (.istore_n 3, 1) := by decide +kernel
theorem dX6_seatOf_5 : decode cX6_seatOf 5 = .ok (.iload_n 3, 1) := by decide +kernel
theorem dX6_seatOf_6 : decode cX6_seatOf 6 = .ok (.bipush 8, 2) := by decide +kernel
theorem dX6_seatOf_8 : decode cX6_seatOf 8 = .ok (.if_icmp .ge 27, 3) := by decide +kernel
theorem dX6_seatOf_11 : decode cX6_seatOf 11 = .ok (.aload_n 0, 1) := by decide +kernel
theorem dX6_seatOf_12 : decode cX6_seatOf 12 = .ok (.getfield 19, 3) := by decide +kernel
theorem dX6_seatOf_15 : decode cX6_seatOf 15 = .ok (.iconst 2, 1) := by decide +kernel
theorem dX6_seatOf_16 : decode cX6_seatOf 16 = .ok (.iload_n 3, 1) := by decide +kernel
theorem dX6_seatOf_17 : decode cX6_seatOf 17 = .ok (.iadd, 1) := by decide +kernel
theorem dX6_seatOf_18 : decode cX6_seatOf 18 = .ok (.iaload, 1) := by decide +kernel
theorem dX6_seatOf_19 : decode cX6_seatOf 19 = .ok (.iload_n 1, 1) := by decide +kernel
theorem dX6_seatOf_20 : decode cX6_seatOf 20 = .ok (.if_icmp .ne 7, 3) := by decide +kernel
theorem dX6_seatOf_23 : decode cX6_seatOf 23 = .ok (.iload_n 3, 1) := by decide +kernel
theorem dX6_seatOf_24 : decode cX6_seatOf 24 = .ok (.goto 4, 3) := by decide +kernel
theorem dX6_seatOf_27 : decode cX6_seatOf 27 = .ok (.iload_n 2, 1) := by decide +kernel
theorem dX6_seatOf_28 : decode cX6_seatOf 28 = .ok (.istore_n 2, 1) := by decide +kernel
theorem dX6_seatOf_29 : decode cX6_seatOf 29 = .ok (.iinc 3 1, 3) := by decide +kernel
theorem dX6_seatOf_32 : decode cX6_seatOf 32 = .ok (.goto (-27), 3) := by decide +kernel
theorem dX6_seatOf_35 : decode cX6_seatOf 35 = .ok (.iload_n 2, 1) := by decide +kernel
theorem dX6_seatOf_36 : decode cX6_seatOf 36 = .ok (.ireturn, 1) := by decide +kernel
theorem dX6_would_0 : decode cX6_would 0 = .ok (.iload_n 2, 1) := by decide +kernel
theorem dX6_would_1 : decode cX6_would 1 = .ok (.iload_n 1, 1) := by decide +kernel
theorem dX6_would_2 : decode cX6_would 2 = .ok (.ishr, 1) := by decide +kernel
theorem dX6_would_3 : decode cX6_would 3 = .ok (.iconst 1, 1) := by decide +kernel
theorem dX6_would_4 : decode cX6_would 4 = .ok (.iand, 1) := by decide +kernel
theorem dX6_would_5 : decode cX6_would 5 = .ok (.ifCond .ne 49, 3) := by decide +kernel
theorem dX6_would_8 : decode cX6_would 8 = .ok (.iload_n 2, 1) := by decide +kernel
theorem dX6_would_9 : decode cX6_would 9 = .ok (.invokestatic 95, 3) := by decide +kernel
theorem dX6_would_12 : decode cX6_would 12 = .ok (.aload_n 0, 1) := by decide +kernel
theorem dX6_would_13 : decode cX6_would 13 = .ok (.getfield 13, 3) := by decide +kernel
theorem dX6_would_16 : decode cX6_would 16 = .ok (.bipush 12, 2) := by decide +kernel
theorem dX6_would_18 : decode cX6_would 18 = .ok (.iload_n 1, 1) := by decide +kernel
theorem dX6_would_19 : decode cX6_would 19 = .ok (.iadd, 1) := by decide +kernel
theorem dX6_would_20 : decode cX6_would 20 = .ok (.iaload, 1) := by decide +kernel
theorem dX6_would_21 : decode cX6_would 21 = .ok (.if_icmp .lt 33, 3) := by decide +kernel
theorem dX6_would_24 : decode cX6_would 24 = .ok (.aload_n 0, 1) := by decide +kernel
theorem dX6_would_25 : decode cX6_would 25 = .ok (.getfield 13, 3) := by decide +kernel
theorem dX6_would_28 : decode cX6_would 28 = .ok (.bipush 12, 2) := by decide +kernel
theorem dX6_would_30 : decode cX6_would 30 = .ok (.iload_n 1, 1) := by decide +kernel
theorem dX6_would_31 : decode cX6_would 31 = .ok (.iadd, 1) := by decide +kernel
theorem dX6_would_32 : decode cX6_would 32 = .ok (.iaload, 1) := by decide +kernel
theorem dX6_would_33 : decode cX6_would 33 = .ok (.ifCond .eq 17, 3) := by decide +kernel
theorem dX6_would_36 : decode cX6_would 36 = .ok (.aload_n 0, 1) := by decide +kernel
theorem dX6_would_37 : decode cX6_would 37 = .ok (.getfield 13, 3) := by decide +kernel
theorem dX6_would_40 : decode cX6_would 40 = .ok (.bipush 19, 2) := by decide +kernel
theorem dX6_would_42 : decode cX6_would 42 = .ok (.iload_n 1, 1) := by decide +kernel
theorem dX6_would_43 : decode cX6_would 43 = .ok (.iadd, 1) := by decide +kernel
theorem dX6_would_44 : decode cX6_would 44 = .ok (.iaload, 1) := by decide +kernel
theorem dX6_would_45 : decode cX6_would 45 = .ok (.iload_n 2, 1) := by decide +kernel
theorem dX6_would_46 : decode cX6_would 46 = .ok (.iand, 1) := by decide +kernel
theorem dX6_would_47 : decode cX6_would 47 = .ok (.ifCond .eq 7, 3) := by decide +kernel
theorem dX6_would_50 : decode cX6_would 50 = .ok (.iconst 1, 1) := by decide +kernel
theorem dX6_would_51 : decode cX6_would 51 = .ok (.goto 4, 3) := by decide +kernel
theorem dX6_would_54 : decode cX6_would 54 = .ok (.iconst 0, 1) := by decide +kernel
theorem dX6_would_55 : decode cX6_would 55 = .ok (.ireturn, 1) := by decide +kernel
theorem dX6_wouldNow_0 : decode cX6_wouldNow 0 = .ok (.aload_n 0, 1) := by decide +kernel
theorem dX6_wouldNow_1 : decode cX6_wouldNow 1 = .ok (.iload_n 1, 1) := by decide +kernel
theorem dX6_wouldNow_2 : decode cX6_wouldNow 2 = .ok (.aload_n 0, 1) := by decide +kernel
theorem dX6_wouldNow_3 : decode cX6_wouldNow 3 = .ok (.getfield 19, 3) := by decide +kernel
theorem dX6_wouldNow_6 : decode cX6_wouldNow 6 = .ok (.iconst 1, 1) := by decide +kernel
theorem dX6_wouldNow_7 : decode cX6_wouldNow 7 = .ok (.iaload, 1) := by decide +kernel
theorem dX6_wouldNow_8 : decode cX6_wouldNow 8 = .ok (.invokevirtual 98, 3) := by decide +kernel
theorem dX6_wouldNow_11 : decode cX6_wouldNow 11 = .ok (.ifCond .eq 26, 3) := by decide +kernel
theorem dX6_wouldNow_14 : decode cX6_wouldNow 14 = .ok (.aload_n 0, 1) := by decide +kernel
theorem dX6_wouldNow_15 : decode cX6_wouldNow 15 = .ok (.getfield 13, 3) := by decide +kernel
theorem dX6_wouldNow_18 : decode cX6_wouldNow 18 = .ok (.iconst 5, 1) := by decide +kernel
theorem dX6_wouldNow_19 : decode cX6_wouldNow 19 = .ok (.iload_n 1, 1) := by decide +kernel
theorem dX6_wouldNow_20 : decode cX6_wouldNow 20 = .ok (.iadd, 1) := by decide +kernel
theorem dX6_wouldNow_21 : decode cX6_wouldNow 21 = .ok (.iaload, 1) := by decide +kernel
theorem dX6_wouldNow_22 : decode cX6_wouldNow 22 = .ok (.aload_n 0, 1) := by decide +kernel
theorem dX6_wouldNow_23 : decode cX6_wouldNow 23 = .ok (.getfield 19, 3) := by decide +kernel
theorem dX6_wouldNow_26 : decode cX6_wouldNow 26 = .ok (.iconst 0, 1) := by decide +kernel
theorem dX6_wouldNow_27 : decode cX6_wouldNow 27 = .ok (.iaload, 1) := by decide +kernel
theorem dX6_wouldNow_28 : decode cX6_wouldNow 28 = .ok (.iconst 3, 1) := by decide +kernel
theorem dX6_wouldNow_29 : decode cX6_wouldNow 29 = .ok (.irem, 1) := by decide +kernel
theorem dX6_wouldNow_30 : decode cX6_wouldNow 30 = .ok (.if_icmp .eq 7, 3) := by decide +kernel
theorem dX6_wouldNow_33 : decode cX6_wouldNow 33 = .ok (.iconst 1, 1) := by decide +kernel
theorem dX6_wouldNow_34 : decode cX6_wouldNow 34 = .ok (.goto 4, 3) := by decide +kernel
theorem dX6_wouldNow_37 : decode cX6_wouldNow 37 = .ok (.iconst 0, 1) := by decide +kernel
theorem dX6_wouldNow_38 : decode cX6_wouldNow 38 = .ok (.ireturn, 1) := by decide +kernel
theorem dX6_sailor_0 : decode cX6_sailor 0 = .ok (.aload_n 0, 1) := by decide +kernel
theorem dX6_sailor_1 : decode cX6_sailor 1 = .ok (.iload_n 1, 1) := by decide +kernel
theorem dX6_sailor_2 : decode cX6_sailor 2 = .ok (.invokevirtual 102, 3) := by decide +kernel
theorem dX6_sailor_5 : decode cX6_sailor 5 = .ok (.ifCond .ne 5, 3) := by decide +kernel
theorem dX6_sailor_8 : decode cX6_sailor 8 = .ok (.iconst (-1), 1) := by decide +kernel
theorem dX6_sailor_9 : decode cX6_sailor 9 = .ok (.ireturn, 1) := by decide +kernel
theorem dX6_sailor_10 : decode cX6_sailor 10 = .ok (.iload_n 2, 1) := by decide +kernel
theorem dX6_sailor_11 : decode cX6_sailor 11 = .ok (.tableswitch 97 0 5 #[37, 46, 56, 66, 77, 83], 37) := by decide +kernel
theorem dX6_sailor_48 : decode cX6_sailor 48 = .ok (.aload_n 0, 1) := by decide +kernel
theorem dX6_sailor_49 : decode cX6_sailor 49 = .ok (.getfield 13, 3) := by decide +kernel
theorem dX6_sailor_52 : decode cX6_sailor 52 = .ok (.iconst 5, 1) := by decide +kernel
theorem dX6_sailor_53 : decode cX6_sailor 53 = .ok (.iload_n 1, 1) := by decide +kernel
theorem dX6_sailor_54 : decode cX6_sailor 54 = .ok (.iadd, 1) := by decide +kernel
theorem dX6_sailor_55 : decode cX6_sailor 55 = .ok (.iaload, 1) := by decide +kernel
theorem dX6_sailor_56 : decode cX6_sailor 56 = .ok (.ireturn, 1) := by decide +kernel
theorem dX6_sailor_57 : decode cX6_sailor 57 = .ok (.aload_n 0, 1) := by decide +kernel
theorem dX6_sailor_58 : decode cX6_sailor 58 = .ok (.getfield 13, 3) := by decide +kernel
theorem dX6_sailor_61 : decode cX6_sailor 61 = .ok (.bipush 12, 2) := by decide +kernel
theorem dX6_sailor_63 : decode cX6_sailor 63 = .ok (.iload_n 1, 1) := by decide +kernel
theorem dX6_sailor_64 : decode cX6_sailor 64 = .ok (.iadd, 1) := by decide +kernel
theorem dX6_sailor_65 : decode cX6_sailor 65 = .ok (.iaload, 1) := by decide +kernel
theorem dX6_sailor_66 : decode cX6_sailor 66 = .ok (.ireturn, 1) := by decide +kernel
theorem dX6_sailor_67 : decode cX6_sailor 67 = .ok (.aload_n 0, 1) := by decide +kernel
theorem dX6_sailor_68 : decode cX6_sailor 68 = .ok (.getfield 13, 3) := by decide +kernel
theorem dX6_sailor_71 : decode cX6_sailor 71 = .ok (.bipush 19, 2) := by decide +kernel
theorem dX6_sailor_73 : decode cX6_sailor 73 = .ok (.iload_n 1, 1) := by decide +kernel
theorem dX6_sailor_74 : decode cX6_sailor 74 = .ok (.iadd, 1) := by decide +kernel
theorem dX6_sailor_75 : decode cX6_sailor 75 = .ok (.iaload, 1) := by decide +kernel
theorem dX6_sailor_76 : decode cX6_sailor 76 = .ok (.ireturn, 1) := by decide +kernel
theorem dX6_sailor_77 : decode cX6_sailor 77 = .ok (.aload_n 0, 1) := by decide +kernel
theorem dX6_sailor_78 : decode cX6_sailor 78 = .ok (.getfield 19, 3) := by decide +kernel
theorem dX6_sailor_81 : decode cX6_sailor 81 = .ok (.iconst 1, 1) := by decide +kernel
theorem dX6_sailor_82 : decode cX6_sailor 82 = .ok (.iaload, 1) := by decide +kernel
theorem dX6_sailor_83 : decode cX6_sailor 83 = .ok (.iload_n 1, 1) := by decide +kernel
theorem dX6_sailor_84 : decode cX6_sailor 84 = .ok (.ishr, 1) := by decide +kernel
theorem dX6_sailor_85 : decode cX6_sailor 85 = .ok (.iconst 1, 1) := by decide +kernel
theorem dX6_sailor_86 : decode cX6_sailor 86 = .ok (.iand, 1) := by decide +kernel
theorem dX6_sailor_87 : decode cX6_sailor 87 = .ok (.ireturn, 1) := by decide +kernel
theorem dX6_sailor_88 : decode cX6_sailor 88 = .ok (.aload_n 0, 1) := by decide +kernel
theorem dX6_sailor_89 : decode cX6_sailor 89 = .ok (.iload_n 1, 1) := by decide +kernel
theorem dX6_sailor_90 : decode cX6_sailor 90 = .ok (.invokevirtual 105, 3) := by decide +kernel
theorem dX6_sailor_93 : decode cX6_sailor 93 = .ok (.ireturn, 1) := by decide +kernel
theorem dX6_sailor_94 : decode cX6_sailor 94 = .ok (.aload_n 0, 1) := by decide +kernel
theorem dX6_sailor_95 : decode cX6_sailor 95 = .ok (.iload_n 1, 1) := by decide +kernel
theorem dX6_sailor_96 : decode cX6_sailor 96 = .ok (.invokevirtual 108, 3) := by decide +kernel
theorem dX6_sailor_99 : decode cX6_sailor 99 = .ok (.ifCond .eq 7, 3) := by decide +kernel
theorem dX6_sailor_102 : decode cX6_sailor 102 = .ok (.iconst 1, 1) := by decide +kernel
theorem dX6_sailor_103 : decode cX6_sailor 103 = .ok (.goto 4, 3) := by decide +kernel
theorem dX6_sailor_106 : decode cX6_sailor 106 = .ok (.iconst 0, 1) := by decide +kernel
theorem dX6_sailor_107 : decode cX6_sailor 107 = .ok (.ireturn, 1) := by decide +kernel
theorem dX6_sailor_108 : decode cX6_sailor 108 = .ok (.iconst (-1), 1) := by decide +kernel
theorem dX6_sailor_109 : decode cX6_sailor 109 = .ok (.ireturn, 1) := by decide +kernel
theorem dX6_seat_0 : decode cX6_seat 0 = .ok (.aload_n 0, 1) := by decide +kernel
theorem dX6_seat_1 : decode cX6_seat 1 = .ok (.iload_n 1, 1) := by decide +kernel
theorem dX6_seat_2 : decode cX6_seat 2 = .ok (.invokevirtual 111, 3) := by decide +kernel
theorem dX6_seat_5 : decode cX6_seat 5 = .ok (.ifCond .eq 12, 3) := by decide +kernel
theorem dX6_seat_8 : decode cX6_seat 8 = .ok (.iload_n 2, 1) := by decide +kernel
theorem dX6_seat_9 : decode cX6_seat 9 = .ok (.iconst 0, 1) := by decide +kernel
theorem dX6_seat_10 : decode cX6_seat 10 = .ok (.iconst 1, 1) := by decide +kernel
theorem dX6_seat_11 : decode cX6_seat 11 = .ok (.invokestatic 52, 3) := by decide +kernel
theorem dX6_seat_14 : decode cX6_seat 14 = .ok (.ifCond .ne 5, 3) := by decide +kernel
theorem dX6_seat_17 : decode cX6_seat 17 = .ok (.iconst (-1), 1) := by decide +kernel
theorem dX6_seat_18 : decode cX6_seat 18 = .ok (.ireturn, 1) := by decide +kernel
theorem dX6_seat_19 : decode cX6_seat 19 = .ok (.iload_n 2, 1) := by decide +kernel
theorem dX6_seat_20 : decode cX6_seat 20 = .ok (.iconst 1, 1) := by decide +kernel
theorem dX6_seat_21 : decode cX6_seat 21 = .ok (.if_icmp .ne 15, 3) := by decide +kernel
theorem dX6_seat_24 : decode cX6_seat 24 = .ok (.aload_n 0, 1) := by decide +kernel
theorem dX6_seat_25 : decode cX6_seat 25 = .ok (.getfield 19, 3) := by decide +kernel
theorem dX6_seat_28 : decode cX6_seat 28 = .ok (.bipush 10, 2) := by decide +kernel
theorem dX6_seat_30 : decode cX6_seat 30 = .ok (.iload_n 1, 1) := by decide +kernel
theorem dX6_seat_31 : decode cX6_seat 31 = .ok (.iadd, 1) := by decide +kernel
theorem dX6_seat_32 : decode cX6_seat 32 = .ok (.iaload, 1) := by decide +kernel
theorem dX6_seat_33 : decode cX6_seat 33 = .ok (.goto 27, 3) := by decide +kernel
theorem dX6_seat_36 : decode cX6_seat 36 = .ok (.aload_n 0, 1) := by decide +kernel
theorem dX6_seat_37 : decode cX6_seat 37 = .ok (.getfield 19, 3) := by decide +kernel
theorem dX6_seat_40 : decode cX6_seat 40 = .ok (.iconst 2, 1) := by decide +kernel
theorem dX6_seat_41 : decode cX6_seat 41 = .ok (.iload_n 1, 1) := by decide +kernel
theorem dX6_seat_42 : decode cX6_seat 42 = .ok (.iadd, 1) := by decide +kernel
theorem dX6_seat_43 : decode cX6_seat 43 = .ok (.iaload, 1) := by decide +kernel
theorem dX6_seat_44 : decode cX6_seat 44 = .ok (.ifCond .ge 8, 3) := by decide +kernel
theorem dX6_seat_47 : decode cX6_seat 47 = .ok (.bipush (-9), 2) := by decide +kernel
theorem dX6_seat_49 : decode cX6_seat 49 = .ok (.goto 11, 3) := by decide +kernel
theorem dX6_seat_52 : decode cX6_seat 52 = .ok (.aload_n 0, 1) := by decide +kernel
theorem dX6_seat_53 : decode cX6_seat 53 = .ok (.getfield 19, 3) := by decide +kernel
theorem dX6_seat_56 : decode cX6_seat 56 = .ok (.iconst 2, 1) := by decide +kernel
theorem dX6_seat_57 : decode cX6_seat 57 = .ok (.iload_n 1, 1) := by decide +kernel
theorem dX6_seat_58 : decode cX6_seat 58 = .ok (.iadd, 1) := by decide +kernel
theorem dX6_seat_59 : decode cX6_seat 59 = .ok (.iaload, 1) := by decide +kernel
theorem dX6_seat_60 : decode cX6_seat 60 = .ok (.ireturn, 1) := by decide +kernel
theorem dX6_there_0 : decode cX6_there 0 = .ok (.iconst 0, 1) := by decide +kernel
theorem dX6_there_1 : decode cX6_there 1 = .ok (.istore_n 1, 1) := by decide +kernel
theorem dX6_there_2 : decode cX6_there 2 = .ok (.iconst 0, 1) := by decide +kernel
theorem dX6_there_3 : decode cX6_there 3 = .ok (.istore_n 2, 1) := by decide +kernel
theorem dX6_there_4 : decode cX6_there 4 = .ok (.iload_n 2, 1) := by decide +kernel
theorem dX6_there_5 : decode cX6_there 5 = .ok (.bipush 8, 2) := by decide +kernel
theorem dX6_there_7 : decode cX6_there 7 = .ok (.if_icmp .ge 37, 3) := by decide +kernel
theorem dX6_there_10 : decode cX6_there 10 = .ok (.iload_n 1, 1) := by decide +kernel
theorem dX6_there_11 : decode cX6_there 11 = .ok (.aload_n 0, 1) := by decide +kernel
theorem dX6_there_12 : decode cX6_there 12 = .ok (.getfield 19, 3) := by decide +kernel
theorem dX6_there_15 : decode cX6_there 15 = .ok (.iconst 2, 1) := by decide +kernel
theorem dX6_there_16 : decode cX6_there 16 = .ok (.iload_n 2, 1) := by decide +kernel
theorem dX6_there_17 : decode cX6_there 17 = .ok (.iadd, 1) := by decide +kernel
theorem dX6_there_18 : decode cX6_there 18 = .ok (.iaload, 1) := by decide +kernel
theorem dX6_there_19 : decode cX6_there 19 = .ok (.ifCond .ge 7, 3) := by decide +kernel
theorem dX6_there_22 : decode cX6_there 22 = .ok (.iconst 0, 1) := by decide +kernel
theorem dX6_there_23 : decode cX6_there 23 = .ok (.goto 13, 3) := by decide +kernel
theorem dX6_there_26 : decode cX6_there 26 = .ok (.iconst 1, 1) := by decide +kernel
theorem dX6_there_27 : decode cX6_there 27 = .ok (.aload_n 0, 1) := by decide +kernel
theorem dX6_there_28 : decode cX6_there 28 = .ok (.getfield 19, 3) := by decide +kernel
theorem dX6_there_31 : decode cX6_there 31 = .ok (.iconst 2, 1) := by decide +kernel
theorem dX6_there_32 : decode cX6_there 32 = .ok (.iload_n 2, 1) := by decide +kernel
theorem dX6_there_33 : decode cX6_there 33 = .ok (.iadd, 1) := by decide +kernel
theorem dX6_there_34 : decode cX6_there 34 = .ok (.iaload, 1) := by decide +kernel
theorem dX6_there_35 : decode cX6_there 35 = .ok (.ishl, 1) := by decide +kernel
theorem dX6_there_36 : decode cX6_there 36 = .ok (.ior, 1) := by decide +kernel
theorem dX6_there_37 : decode cX6_there 37 = .ok (.istore_n 1, 1) := by decide +kernel
theorem dX6_there_38 : decode cX6_there 38 = .ok (.iinc 2 1, 3) := by decide +kernel
theorem dX6_there_41 : decode cX6_there 41 = .ok (.goto (-37), 3) := by decide +kernel
theorem dX6_there_44 : decode cX6_there 44 = .ok (.iload_n 1, 1) := by decide +kernel
theorem dX6_there_45 : decode cX6_there 45 = .ok (.ireturn, 1) := by decide +kernel
theorem dX6_now_0 : decode cX6_now 0 = .ok (.iconst 0, 1) := by decide +kernel
theorem dX6_now_1 : decode cX6_now 1 = .ok (.istore_n 2, 1) := by decide +kernel
theorem dX6_now_2 : decode cX6_now 2 = .ok (.iconst 0, 1) := by decide +kernel
theorem dX6_now_3 : decode cX6_now 3 = .ok (.istore_n 3, 1) := by decide +kernel
theorem dX6_now_4 : decode cX6_now 4 = .ok (.iload_n 3, 1) := by decide +kernel
theorem dX6_now_5 : decode cX6_now 5 = .ok (.aload_n 0, 1) := by decide +kernel
theorem dX6_now_6 : decode cX6_now 6 = .ok (.getfield 13, 3) := by decide +kernel
theorem dX6_now_9 : decode cX6_now 9 = .ok (.iconst 0, 1) := by decide +kernel
theorem dX6_now_10 : decode cX6_now 10 = .ok (.iaload, 1) := by decide +kernel
theorem dX6_now_11 : decode cX6_now 11 = .ok (.if_icmp .ge 27, 3) := by decide +kernel
theorem dX6_now_14 : decode cX6_now 14 = .ok (.iload_n 2, 1) := by decide +kernel
theorem dX6_now_15 : decode cX6_now 15 = .ok (.aload_n 0, 1) := by decide +kernel
theorem dX6_now_16 : decode cX6_now 16 = .ok (.iload_n 3, 1) := by decide +kernel
theorem dX6_now_17 : decode cX6_now 17 = .ok (.invokevirtual 108, 3) := by decide +kernel
theorem dX6_now_20 : decode cX6_now 20 = .ok (.ifCond .eq 9, 3) := by decide +kernel
theorem dX6_now_23 : decode cX6_now 23 = .ok (.iconst 1, 1) := by decide +kernel
theorem dX6_now_24 : decode cX6_now 24 = .ok (.iload_n 3, 1) := by decide +kernel
theorem dX6_now_25 : decode cX6_now 25 = .ok (.ishl, 1) := by decide +kernel
theorem dX6_now_26 : decode cX6_now 26 = .ok (.goto 4, 3) := by decide +kernel
theorem dX6_now_29 : decode cX6_now 29 = .ok (.iconst 0, 1) := by decide +kernel
theorem dX6_now_30 : decode cX6_now 30 = .ok (.ior, 1) := by decide +kernel
theorem dX6_now_31 : decode cX6_now 31 = .ok (.istore_n 2, 1) := by decide +kernel
theorem dX6_now_32 : decode cX6_now 32 = .ok (.iinc 3 1, 3) := by decide +kernel
theorem dX6_now_35 : decode cX6_now 35 = .ok (.goto (-31), 3) := by decide +kernel
theorem dX6_now_38 : decode cX6_now 38 = .ok (.iload_n 1, 1) := by decide +kernel
theorem dX6_now_39 : decode cX6_now 39 = .ok (.tableswitch 59 0 4 #[33, 40, 47, 52, 54], 33) := by decide +kernel
theorem dX6_now_72 : decode cX6_now 72 = .ok (.aload_n 0, 1) := by decide +kernel
theorem dX6_now_73 : decode cX6_now 73 = .ok (.getfield 19, 3) := by decide +kernel
theorem dX6_now_76 : decode cX6_now 76 = .ok (.iconst 0, 1) := by decide +kernel
theorem dX6_now_77 : decode cX6_now 77 = .ok (.iaload, 1) := by decide +kernel
theorem dX6_now_78 : decode cX6_now 78 = .ok (.ireturn, 1) := by decide +kernel
theorem dX6_now_79 : decode cX6_now 79 = .ok (.aload_n 0, 1) := by decide +kernel
theorem dX6_now_80 : decode cX6_now 80 = .ok (.getfield 19, 3) := by decide +kernel
theorem dX6_now_83 : decode cX6_now 83 = .ok (.iconst 1, 1) := by decide +kernel
theorem dX6_now_84 : decode cX6_now 84 = .ok (.iaload, 1) := by decide +kernel
theorem dX6_now_85 : decode cX6_now 85 = .ok (.ireturn, 1) := by decide +kernel
theorem dX6_now_86 : decode cX6_now 86 = .ok (.aload_n 0, 1) := by decide +kernel
theorem dX6_now_87 : decode cX6_now 87 = .ok (.invokevirtual 114, 3) := by decide +kernel
theorem dX6_now_90 : decode cX6_now 90 = .ok (.ireturn, 1) := by decide +kernel
theorem dX6_now_91 : decode cX6_now 91 = .ok (.iload_n 2, 1) := by decide +kernel
theorem dX6_now_92 : decode cX6_now 92 = .ok (.ireturn, 1) := by decide +kernel
theorem dX6_now_93 : decode cX6_now 93 = .ok (.aload_n 0, 1) := by decide +kernel
theorem dX6_now_94 : decode cX6_now 94 = .ok (.getfield 92, 3) := by decide +kernel
theorem dX6_now_97 : decode cX6_now 97 = .ok (.ireturn, 1) := by decide +kernel
theorem dX6_now_98 : decode cX6_now 98 = .ok (.iconst (-1), 1) := by decide +kernel
theorem dX6_now_99 : decode cX6_now 99 = .ok (.ireturn, 1) := by decide +kernel
theorem dX6_keeps_0 : decode cX6_keeps 0 = .ok (.aload_n 0, 1) := by decide +kernel
theorem dX6_keeps_1 : decode cX6_keeps 1 = .ok (.getfield 92, 3) := by decide +kernel
theorem dX6_keeps_4 : decode cX6_keeps 4 = .ok (.bipush 10, 2) := by decide +kernel
theorem dX6_keeps_6 : decode cX6_keeps 6 = .ok (.if_icmp .ne 43, 3) := by decide +kernel
theorem dX6_keeps_9 : decode cX6_keeps 9 = .ok (.iconst 0, 1) := by decide +kernel
theorem dX6_keeps_10 : decode cX6_keeps 10 = .ok (.istore_n 1, 1) := by decide +kernel
theorem dX6_keeps_11 : decode cX6_keeps 11 = .ok (.iload_n 1, 1) := by decide +kernel
theorem dX6_keeps_12 : decode cX6_keeps 12 = .ok (.sipush 162, 3) := by decide +kernel
theorem dX6_keeps_15 : decode cX6_keeps 15 = .ok (.if_icmp .ge 24, 3) := by decide +kernel
theorem dX6_keeps_18 : decode cX6_keeps 18 = .ok (.aload_n 0, 1) := by decide +kernel
theorem dX6_keeps_19 : decode cX6_keeps 19 = .ok (.getfield 22, 3) := by decide +kernel
theorem dX6_keeps_22 : decode cX6_keeps 22 = .ok (.iload_n 1, 1) := by decide +kernel
theorem dX6_keeps_23 : decode cX6_keeps 23 = .ok (.aload_n 0, 1) := by decide +kernel
theorem dX6_keeps_24 : decode cX6_keeps 24 = .ok (.getfield 22, 3) := by decide +kernel
theorem dX6_keeps_27 : decode cX6_keeps 27 = .ok (.iload_n 1, 1) := by decide +kernel
theorem dX6_keeps_28 : decode cX6_keeps 28 = .ok (.bipush 18, 2) := by decide +kernel
theorem dX6_keeps_30 : decode cX6_keeps 30 = .ok (.iadd, 1) := by decide +kernel
theorem dX6_keeps_31 : decode cX6_keeps 31 = .ok (.iaload, 1) := by decide +kernel
theorem dX6_keeps_32 : decode cX6_keeps 32 = .ok (.iastore, 1) := by decide +kernel
theorem dX6_keeps_33 : decode cX6_keeps 33 = .ok (.iinc 1 1, 3) := by decide +kernel
theorem dX6_keeps_36 : decode cX6_keeps 36 = .ok (.goto (-25), 3) := by decide +kernel
theorem dX6_keeps_39 : decode cX6_keeps 39 = .ok (.aload_n 0, 1) := by decide +kernel
theorem dX6_keeps_40 : decode cX6_keeps 40 = .ok (.dup, 1) := by decide +kernel
theorem dX6_keeps_41 : decode cX6_keeps 41 = .ok (.getfield 92, 3) := by decide +kernel
theorem dX6_keeps_44 : decode cX6_keeps 44 = .ok (.iconst 1, 1) := by decide +kernel
theorem dX6_keeps_45 : decode cX6_keeps 45 = .ok (.isub, 1) := by decide +kernel
theorem dX6_keeps_46 : decode cX6_keeps 46 = .ok (.putfield 92, 3) := by decide +kernel
theorem dX6_keeps_49 : decode cX6_keeps 49 = .ok (.iconst 0, 1) := by decide +kernel
theorem dX6_keeps_50 : decode cX6_keeps 50 = .ok (.istore_n 1, 1) := by decide +kernel
theorem dX6_keeps_51 : decode cX6_keeps 51 = .ok (.iload_n 1, 1) := by decide +kernel
theorem dX6_keeps_52 : decode cX6_keeps 52 = .ok (.bipush 18, 2) := by decide +kernel
theorem dX6_keeps_54 : decode cX6_keeps 54 = .ok (.if_icmp .ge 29, 3) := by decide +kernel
theorem dX6_keeps_57 : decode cX6_keeps 57 = .ok (.aload_n 0, 1) := by decide +kernel
theorem dX6_keeps_58 : decode cX6_keeps 58 = .ok (.getfield 22, 3) := by decide +kernel
theorem dX6_keeps_61 : decode cX6_keeps 61 = .ok (.bipush 18, 2) := by decide +kernel
theorem dX6_keeps_63 : decode cX6_keeps 63 = .ok (.aload_n 0, 1) := by decide +kernel
theorem dX6_keeps_64 : decode cX6_keeps 64 = .ok (.getfield 92, 3) := by decide +kernel
theorem dX6_keeps_67 : decode cX6_keeps 67 = .ok (.imul, 1) := by decide +kernel
theorem dX6_keeps_68 : decode cX6_keeps 68 = .ok (.iload_n 1, 1) := by decide +kernel
theorem dX6_keeps_69 : decode cX6_keeps 69 = .ok (.iadd, 1) := by decide +kernel
theorem dX6_keeps_70 : decode cX6_keeps 70 = .ok (.aload_n 0, 1) := by decide +kernel
theorem dX6_keeps_71 : decode cX6_keeps 71 = .ok (.getfield 19, 3) := by decide +kernel
theorem dX6_keeps_74 : decode cX6_keeps 74 = .ok (.iload_n 1, 1) := by decide +kernel
theorem dX6_keeps_75 : decode cX6_keeps 75 = .ok (.iaload, 1) := by decide +kernel
theorem dX6_keeps_76 : decode cX6_keeps 76 = .ok (.iastore, 1) := by decide +kernel
theorem dX6_keeps_77 : decode cX6_keeps 77 = .ok (.iinc 1 1, 3) := by decide +kernel
theorem dX6_keeps_80 : decode cX6_keeps 80 = .ok (.goto (-29), 3) := by decide +kernel
theorem dX6_keeps_83 : decode cX6_keeps 83 = .ok (.aload_n 0, 1) := by decide +kernel
theorem dX6_keeps_84 : decode cX6_keeps 84 = .ok (.dup, 1) := by decide +kernel
theorem dX6_keeps_85 : decode cX6_keeps 85 = .ok (.getfield 92, 3) := by decide +kernel
theorem dX6_keeps_88 : decode cX6_keeps 88 = .ok (.iconst 1, 1) := by decide +kernel
theorem dX6_keeps_89 : decode cX6_keeps 89 = .ok (.iadd, 1) := by decide +kernel
theorem dX6_keeps_90 : decode cX6_keeps 90 = .ok (.putfield 92, 3) := by decide +kernel
theorem dX6_keeps_93 : decode cX6_keeps 93 = .ok (.return_, 1) := by decide +kernel
theorem dX6_signs_0 : decode cX6_signs 0 = .ok (.aload_n 0, 1) := by decide +kernel
theorem dX6_signs_1 : decode cX6_signs 1 = .ok (.iload_n 1, 1) := by decide +kernel
theorem dX6_signs_2 : decode cX6_signs 2 = .ok (.invokevirtual 102, 3) := by decide +kernel
theorem dX6_signs_5 : decode cX6_signs 5 = .ok (.ifCond .eq 11, 3) := by decide +kernel
theorem dX6_signs_8 : decode cX6_signs 8 = .ok (.aload_n 0, 1) := by decide +kernel
theorem dX6_signs_9 : decode cX6_signs 9 = .ok (.iload_n 2, 1) := by decide +kernel
theorem dX6_signs_10 : decode cX6_signs 10 = .ok (.invokevirtual 111, 3) := by decide +kernel
theorem dX6_signs_13 : decode cX6_signs 13 = .ok (.ifCond .ne 5, 3) := by decide +kernel
theorem dX6_signs_16 : decode cX6_signs 16 = .ok (.iconst (-1), 1) := by decide +kernel
theorem dX6_signs_17 : decode cX6_signs 17 = .ok (.ireturn, 1) := by decide +kernel
theorem dX6_signs_18 : decode cX6_signs 18 = .ok (.aload_n 0, 1) := by decide +kernel
theorem dX6_signs_19 : decode cX6_signs 19 = .ok (.iload_n 1, 1) := by decide +kernel
theorem dX6_signs_20 : decode cX6_signs 20 = .ok (.invokevirtual 108, 3) := by decide +kernel
theorem dX6_signs_23 : decode cX6_signs 23 = .ok (.ifCond .eq 25, 3) := by decide +kernel
theorem dX6_signs_26 : decode cX6_signs 26 = .ok (.aload_n 0, 1) := by decide +kernel
theorem dX6_signs_27 : decode cX6_signs 27 = .ok (.getfield 19, 3) := by decide +kernel
theorem dX6_signs_30 : decode cX6_signs 30 = .ok (.iconst 2, 1) := by decide +kernel
theorem dX6_signs_31 : decode cX6_signs 31 = .ok (.iload_n 2, 1) := by decide +kernel
theorem dX6_signs_32 : decode cX6_signs 32 = .ok (.iadd, 1) := by decide +kernel
theorem dX6_signs_33 : decode cX6_signs 33 = .ok (.iaload, 1) := by decide +kernel
theorem dX6_signs_34 : decode cX6_signs 34 = .ok (.ifCond .ge 14, 3) := by decide +kernel
theorem dX6_signs_37 : decode cX6_signs 37 = .ok (.aload_n 0, 1) := by decide +kernel
theorem dX6_signs_38 : decode cX6_signs 38 = .ok (.getfield 19, 3) := by decide +kernel
theorem dX6_signs_41 : decode cX6_signs 41 = .ok (.iconst 0, 1) := by decide +kernel
theorem dX6_signs_42 : decode cX6_signs 42 = .ok (.iaload, 1) := by decide +kernel
theorem dX6_signs_43 : decode cX6_signs 43 = .ok (.bipush 99, 2) := by decide +kernel
theorem dX6_signs_45 : decode cX6_signs 45 = .ok (.if_icmp .ne 6, 3) := by decide +kernel
theorem dX6_signs_48 : decode cX6_signs 48 = .ok (.bipush (-2), 2) := by decide +kernel
theorem dX6_signs_50 : decode cX6_signs 50 = .ok (.ireturn, 1) := by decide +kernel
theorem dX6_signs_51 : decode cX6_signs 51 = .ok (.aload_n 0, 1) := by decide +kernel
theorem dX6_signs_52 : decode cX6_signs 52 = .ok (.invokevirtual 118, 3) := by decide +kernel
theorem dX6_signs_55 : decode cX6_signs 55 = .ok (.aload_n 0, 1) := by decide +kernel
theorem dX6_signs_56 : decode cX6_signs 56 = .ok (.getfield 19, 3) := by decide +kernel
theorem dX6_signs_59 : decode cX6_signs 59 = .ok (.iconst 2, 1) := by decide +kernel
theorem dX6_signs_60 : decode cX6_signs 60 = .ok (.iload_n 2, 1) := by decide +kernel
theorem dX6_signs_61 : decode cX6_signs 61 = .ok (.iadd, 1) := by decide +kernel
theorem dX6_signs_62 : decode cX6_signs 62 = .ok (.iload_n 1, 1) := by decide +kernel
theorem dX6_signs_63 : decode cX6_signs 63 = .ok (.iastore, 1) := by decide +kernel
theorem dX6_signs_64 : decode cX6_signs 64 = .ok (.aload_n 0, 1) := by decide +kernel
theorem dX6_signs_65 : decode cX6_signs 65 = .ok (.getfield 19, 3) := by decide +kernel
theorem dX6_signs_68 : decode cX6_signs 68 = .ok (.bipush 10, 2) := by decide +kernel
theorem dX6_signs_70 : decode cX6_signs 70 = .ok (.iload_n 2, 1) := by decide +kernel
theorem dX6_signs_71 : decode cX6_signs 71 = .ok (.iadd, 1) := by decide +kernel
theorem dX6_signs_72 : decode cX6_signs 72 = .ok (.aload_n 0, 1) := by decide +kernel
theorem dX6_signs_73 : decode cX6_signs 73 = .ok (.getfield 13, 3) := by decide +kernel
theorem dX6_signs_76 : decode cX6_signs 76 = .ok (.iconst 1, 1) := by decide +kernel
theorem dX6_signs_77 : decode cX6_signs 77 = .ok (.iaload, 1) := by decide +kernel
theorem dX6_signs_78 : decode cX6_signs 78 = .ok (.aload_n 0, 1) := by decide +kernel
theorem dX6_signs_79 : decode cX6_signs 79 = .ok (.getfield 19, 3) := by decide +kernel
theorem dX6_signs_82 : decode cX6_signs 82 = .ok (.iconst 1, 1) := by decide +kernel
theorem dX6_signs_83 : decode cX6_signs 83 = .ok (.iaload, 1) := by decide +kernel
theorem dX6_signs_84 : decode cX6_signs 84 = .ok (.invokestatic 95, 3) := by decide +kernel
theorem dX6_signs_87 : decode cX6_signs 87 = .ok (.aload_n 0, 1) := by decide +kernel
theorem dX6_signs_88 : decode cX6_signs 88 = .ok (.getfield 13, 3) := by decide +kernel
theorem dX6_signs_91 : decode cX6_signs 91 = .ok (.iconst 1, 1) := by decide +kernel
theorem dX6_signs_92 : decode cX6_signs 92 = .ok (.iaload, 1) := by decide +kernel
theorem dX6_signs_93 : decode cX6_signs 93 = .ok (.irem, 1) := by decide +kernel
theorem dX6_signs_94 : decode cX6_signs 94 = .ok (.isub, 1) := by decide +kernel
theorem dX6_signs_95 : decode cX6_signs 95 = .ok (.iastore, 1) := by decide +kernel
theorem dX6_signs_96 : decode cX6_signs 96 = .ok (.aload_n 0, 1) := by decide +kernel
theorem dX6_signs_97 : decode cX6_signs 97 = .ok (.getfield 19, 3) := by decide +kernel
theorem dX6_signs_100 : decode cX6_signs 100 = .ok (.iconst 1, 1) := by decide +kernel
theorem dX6_signs_101 : decode cX6_signs 101 = .ok (.dup2, 1) := by decide +kernel
theorem dX6_signs_102 : decode cX6_signs 102 = .ok (.iaload, 1) := by decide +kernel
theorem dX6_signs_103 : decode cX6_signs 103 = .ok (.iconst 1, 1) := by decide +kernel
theorem dX6_signs_104 : decode cX6_signs 104 = .ok (.iload_n 1, 1) := by decide +kernel
theorem dX6_signs_105 : decode cX6_signs 105 = .ok (.ishl, 1) := by decide +kernel
theorem dX6_signs_106 : decode cX6_signs 106 = .ok (.ior, 1) := by decide +kernel
theorem dX6_signs_107 : decode cX6_signs 107 = .ok (.iastore, 1) := by decide +kernel
theorem dX6_signs_108 : decode cX6_signs 108 = .ok (.aload_n 0, 1) := by decide +kernel
theorem dX6_signs_109 : decode cX6_signs 109 = .ok (.getfield 19, 3) := by decide +kernel
theorem dX6_signs_112 : decode cX6_signs 112 = .ok (.iconst 0, 1) := by decide +kernel
theorem dX6_signs_113 : decode cX6_signs 113 = .ok (.dup2, 1) := by decide +kernel
theorem dX6_signs_114 : decode cX6_signs 114 = .ok (.iaload, 1) := by decide +kernel
theorem dX6_signs_115 : decode cX6_signs 115 = .ok (.iconst 1, 1) := by decide +kernel
theorem dX6_signs_116 : decode cX6_signs 116 = .ok (.iadd, 1) := by decide +kernel
theorem dX6_signs_117 : decode cX6_signs 117 = .ok (.iastore, 1) := by decide +kernel
theorem dX6_signs_118 : decode cX6_signs 118 = .ok (.aload_n 0, 1) := by decide +kernel
theorem dX6_signs_119 : decode cX6_signs 119 = .ok (.getfield 19, 3) := by decide +kernel
theorem dX6_signs_122 : decode cX6_signs 122 = .ok (.bipush 10, 2) := by decide +kernel
theorem dX6_signs_124 : decode cX6_signs 124 = .ok (.iload_n 2, 1) := by decide +kernel
theorem dX6_signs_125 : decode cX6_signs 125 = .ok (.iadd, 1) := by decide +kernel
theorem dX6_signs_126 : decode cX6_signs 126 = .ok (.iaload, 1) := by decide +kernel
theorem dX6_signs_127 : decode cX6_signs 127 = .ok (.ireturn, 1) := by decide +kernel
theorem dX6_hour_0 : decode cX6_hour 0 = .ok (.aload_n 0, 1) := by decide +kernel
theorem dX6_hour_1 : decode cX6_hour 1 = .ok (.getfield 19, 3) := by decide +kernel
theorem dX6_hour_4 : decode cX6_hour 4 = .ok (.iconst 0, 1) := by decide +kernel
theorem dX6_hour_5 : decode cX6_hour 5 = .ok (.iaload, 1) := by decide +kernel
theorem dX6_hour_6 : decode cX6_hour 6 = .ok (.bipush 99, 2) := by decide +kernel
theorem dX6_hour_8 : decode cX6_hour 8 = .ok (.if_icmp .ne 6, 3) := by decide +kernel
theorem dX6_hour_11 : decode cX6_hour 11 = .ok (.bipush (-2), 2) := by decide +kernel
theorem dX6_hour_13 : decode cX6_hour 13 = .ok (.ireturn, 1) := by decide +kernel
theorem dX6_hour_14 : decode cX6_hour 14 = .ok (.aload_n 0, 1) := by decide +kernel
theorem dX6_hour_15 : decode cX6_hour 15 = .ok (.invokevirtual 118, 3) := by decide +kernel
theorem dX6_hour_18 : decode cX6_hour 18 = .ok (.aload_n 0, 1) := by decide +kernel
theorem dX6_hour_19 : decode cX6_hour 19 = .ok (.getfield 19, 3) := by decide +kernel
theorem dX6_hour_22 : decode cX6_hour 22 = .ok (.iconst 0, 1) := by decide +kernel
theorem dX6_hour_23 : decode cX6_hour 23 = .ok (.dup2, 1) := by decide +kernel
theorem dX6_hour_24 : decode cX6_hour 24 = .ok (.iaload, 1) := by decide +kernel
theorem dX6_hour_25 : decode cX6_hour 25 = .ok (.iconst 1, 1) := by decide +kernel
theorem dX6_hour_26 : decode cX6_hour 26 = .ok (.iadd, 1) := by decide +kernel
theorem dX6_hour_27 : decode cX6_hour 27 = .ok (.iastore, 1) := by decide +kernel
theorem dX6_hour_28 : decode cX6_hour 28 = .ok (.aload_n 0, 1) := by decide +kernel
theorem dX6_hour_29 : decode cX6_hour 29 = .ok (.getfield 19, 3) := by decide +kernel
theorem dX6_hour_32 : decode cX6_hour 32 = .ok (.iconst 0, 1) := by decide +kernel
theorem dX6_hour_33 : decode cX6_hour 33 = .ok (.iaload, 1) := by decide +kernel
theorem dX6_hour_34 : decode cX6_hour 34 = .ok (.ireturn, 1) := by decide +kernel
theorem dX6_scrape_0 : decode cX6_scrape 0 = .ok (.aload_n 0, 1) := by decide +kernel
theorem dX6_scrape_1 : decode cX6_scrape 1 = .ok (.iload_n 1, 1) := by decide +kernel
theorem dX6_scrape_2 : decode cX6_scrape 2 = .ok (.invokevirtual 111, 3) := by decide +kernel
theorem dX6_scrape_5 : decode cX6_scrape 5 = .ok (.ifCond .ne 5, 3) := by decide +kernel
theorem dX6_scrape_8 : decode cX6_scrape 8 = .ok (.iconst (-1), 1) := by decide +kernel
theorem dX6_scrape_9 : decode cX6_scrape 9 = .ok (.ireturn, 1) := by decide +kernel
theorem dX6_scrape_10 : decode cX6_scrape 10 = .ok (.aload_n 0, 1) := by decide +kernel
theorem dX6_scrape_11 : decode cX6_scrape 11 = .ok (.getfield 19, 3) := by decide +kernel
theorem dX6_scrape_14 : decode cX6_scrape 14 = .ok (.iconst 2, 1) := by decide +kernel
theorem dX6_scrape_15 : decode cX6_scrape 15 = .ok (.iload_n 1, 1) := by decide +kernel
theorem dX6_scrape_16 : decode cX6_scrape 16 = .ok (.iadd, 1) := by decide +kernel
theorem dX6_scrape_17 : decode cX6_scrape 17 = .ok (.iaload, 1) := by decide +kernel
theorem dX6_scrape_18 : decode cX6_scrape 18 = .ok (.ifCond .ge 6, 3) := by decide +kernel
theorem dX6_scrape_21 : decode cX6_scrape 21 = .ok (.bipush (-2), 2) := by decide +kernel
theorem dX6_scrape_23 : decode cX6_scrape 23 = .ok (.ireturn, 1) := by decide +kernel
theorem dX6_scrape_24 : decode cX6_scrape 24 = .ok (.aload_n 0, 1) := by decide +kernel
theorem dX6_scrape_25 : decode cX6_scrape 25 = .ok (.invokevirtual 118, 3) := by decide +kernel
theorem dX6_scrape_28 : decode cX6_scrape 28 = .ok (.aload_n 0, 1) := by decide +kernel
theorem dX6_scrape_29 : decode cX6_scrape 29 = .ok (.getfield 19, 3) := by decide +kernel
theorem dX6_scrape_32 : decode cX6_scrape 32 = .ok (.iconst 2, 1) := by decide +kernel
theorem dX6_scrape_33 : decode cX6_scrape 33 = .ok (.iload_n 1, 1) := by decide +kernel
theorem dX6_scrape_34 : decode cX6_scrape 34 = .ok (.iadd, 1) := by decide +kernel
theorem dX6_scrape_35 : decode cX6_scrape 35 = .ok (.iaload, 1) := by decide +kernel
theorem dX6_scrape_36 : decode cX6_scrape 36 = .ok (.istore_n 2, 1) := by decide +kernel
theorem dX6_scrape_37 : decode cX6_scrape 37 = .ok (.aload_n 0, 1) := by decide +kernel
theorem dX6_scrape_38 : decode cX6_scrape 38 = .ok (.getfield 19, 3) := by decide +kernel
theorem dX6_scrape_41 : decode cX6_scrape 41 = .ok (.iconst 2, 1) := by decide +kernel
theorem dX6_scrape_42 : decode cX6_scrape 42 = .ok (.iload_n 1, 1) := by decide +kernel
theorem dX6_scrape_43 : decode cX6_scrape 43 = .ok (.iadd, 1) := by decide +kernel
theorem dX6_scrape_44 : decode cX6_scrape 44 = .ok (.iconst (-1), 1) := by decide +kernel
theorem dX6_scrape_45 : decode cX6_scrape 45 = .ok (.iastore, 1) := by decide +kernel
theorem dX6_scrape_46 : decode cX6_scrape 46 = .ok (.aload_n 0, 1) := by decide +kernel
theorem dX6_scrape_47 : decode cX6_scrape 47 = .ok (.getfield 19, 3) := by decide +kernel
theorem dX6_scrape_50 : decode cX6_scrape 50 = .ok (.bipush 10, 2) := by decide +kernel
theorem dX6_scrape_52 : decode cX6_scrape 52 = .ok (.iload_n 1, 1) := by decide +kernel
theorem dX6_scrape_53 : decode cX6_scrape 53 = .ok (.iadd, 1) := by decide +kernel
theorem dX6_scrape_54 : decode cX6_scrape 54 = .ok (.iconst 0, 1) := by decide +kernel
theorem dX6_scrape_55 : decode cX6_scrape 55 = .ok (.iastore, 1) := by decide +kernel
theorem dX6_scrape_56 : decode cX6_scrape 56 = .ok (.iload_n 2, 1) := by decide +kernel
theorem dX6_scrape_57 : decode cX6_scrape 57 = .ok (.ireturn, 1) := by decide +kernel
theorem dX6_undo_0 : decode cX6_undo 0 = .ok (.aload_n 0, 1) := by decide +kernel
theorem dX6_undo_1 : decode cX6_undo 1 = .ok (.getfield 92, 3) := by decide +kernel
theorem dX6_undo_4 : decode cX6_undo 4 = .ok (.ifCond .ne 6, 3) := by decide +kernel
theorem dX6_undo_7 : decode cX6_undo 7 = .ok (.bipush (-2), 2) := by decide +kernel
theorem dX6_undo_9 : decode cX6_undo 9 = .ok (.ireturn, 1) := by decide +kernel
theorem dX6_undo_10 : decode cX6_undo 10 = .ok (.aload_n 0, 1) := by decide +kernel
theorem dX6_undo_11 : decode cX6_undo 11 = .ok (.dup, 1) := by decide +kernel
theorem dX6_undo_12 : decode cX6_undo 12 = .ok (.getfield 92, 3) := by decide +kernel
theorem dX6_undo_15 : decode cX6_undo 15 = .ok (.iconst 1, 1) := by decide +kernel
theorem dX6_undo_16 : decode cX6_undo 16 = .ok (.isub, 1) := by decide +kernel
theorem dX6_undo_17 : decode cX6_undo 17 = .ok (.putfield 92, 3) := by decide +kernel
theorem dX6_undo_20 : decode cX6_undo 20 = .ok (.iconst 0, 1) := by decide +kernel
theorem dX6_undo_21 : decode cX6_undo 21 = .ok (.istore_n 1, 1) := by decide +kernel
theorem dX6_undo_22 : decode cX6_undo 22 = .ok (.iload_n 1, 1) := by decide +kernel
theorem dX6_undo_23 : decode cX6_undo 23 = .ok (.bipush 18, 2) := by decide +kernel
theorem dX6_undo_25 : decode cX6_undo 25 = .ok (.if_icmp .ge 29, 3) := by decide +kernel
theorem dX6_undo_28 : decode cX6_undo 28 = .ok (.aload_n 0, 1) := by decide +kernel
theorem dX6_undo_29 : decode cX6_undo 29 = .ok (.getfield 19, 3) := by decide +kernel
theorem dX6_undo_32 : decode cX6_undo 32 = .ok (.iload_n 1, 1) := by decide +kernel
theorem dX6_undo_33 : decode cX6_undo 33 = .ok (.aload_n 0, 1) := by decide +kernel
theorem dX6_undo_34 : decode cX6_undo 34 = .ok (.getfield 22, 3) := by decide +kernel
theorem dX6_undo_37 : decode cX6_undo 37 = .ok (.bipush 18, 2) := by decide +kernel
theorem dX6_undo_39 : decode cX6_undo 39 = .ok (.aload_n 0, 1) := by decide +kernel
theorem dX6_undo_40 : decode cX6_undo 40 = .ok (.getfield 92, 3) := by decide +kernel
theorem dX6_undo_43 : decode cX6_undo 43 = .ok (.imul, 1) := by decide +kernel
theorem dX6_undo_44 : decode cX6_undo 44 = .ok (.iload_n 1, 1) := by decide +kernel
theorem dX6_undo_45 : decode cX6_undo 45 = .ok (.iadd, 1) := by decide +kernel
theorem dX6_undo_46 : decode cX6_undo 46 = .ok (.iaload, 1) := by decide +kernel
theorem dX6_undo_47 : decode cX6_undo 47 = .ok (.iastore, 1) := by decide +kernel
theorem dX6_undo_48 : decode cX6_undo 48 = .ok (.iinc 1 1, 3) := by decide +kernel
theorem dX6_undo_51 : decode cX6_undo 51 = .ok (.goto (-29), 3) := by decide +kernel
theorem dX6_undo_54 : decode cX6_undo 54 = .ok (.aload_n 0, 1) := by decide +kernel
theorem dX6_undo_55 : decode cX6_undo 55 = .ok (.getfield 92, 3) := by decide +kernel
theorem dX6_undo_58 : decode cX6_undo 58 = .ok (.ireturn, 1) := by decide +kernel
theorem dX6_closed_0 : decode cX6_closed 0 = .ok (.iload_n 1, 1) := by decide +kernel
theorem dX6_closed_1 : decode cX6_closed 1 = .ok (.istore_n 2, 1) := by decide +kernel
theorem dX6_closed_2 : decode cX6_closed 2 = .ok (.iconst (-1), 1) := by decide +kernel
theorem dX6_closed_3 : decode cX6_closed 3 = .ok (.istore_n 3, 1) := by decide +kernel
theorem dX6_closed_4 : decode cX6_closed 4 = .ok (.iload_n 3, 1) := by decide +kernel
theorem dX6_closed_5 : decode cX6_closed 5 = .ok (.iload_n 2, 1) := by decide +kernel
theorem dX6_closed_6 : decode cX6_closed 6 = .ok (.if_icmp .eq 49, 3) := by decide +kernel
theorem dX6_closed_9 : decode cX6_closed 9 = .ok (.iload_n 2, 1) := by decide +kernel
theorem dX6_closed_10 : decode cX6_closed 10 = .ok (.istore_n 3, 1) := by decide +kernel
theorem dX6_closed_11 : decode cX6_closed 11 = .ok (.iconst 0, 1) := by decide +kernel
theorem dX6_closed_12 : decode cX6_closed 12 = .ok (.istore 4, 2) := by decide +kernel
theorem dX6_closed_14 : decode cX6_closed 14 = .ok (.iload 4, 2) := by decide +kernel
theorem dX6_closed_16 : decode cX6_closed 16 = .ok (.aload_n 0, 1) := by decide +kernel
theorem dX6_closed_17 : decode cX6_closed 17 = .ok (.getfield 13, 3) := by decide +kernel
theorem dX6_closed_20 : decode cX6_closed 20 = .ok (.iconst 0, 1) := by decide +kernel
theorem dX6_closed_21 : decode cX6_closed 21 = .ok (.iaload, 1) := by decide +kernel
theorem dX6_closed_22 : decode cX6_closed 22 = .ok (.if_icmp .ge 30, 3) := by decide +kernel
theorem dX6_closed_25 : decode cX6_closed 25 = .ok (.iload_n 2, 1) := by decide +kernel
theorem dX6_closed_26 : decode cX6_closed 26 = .ok (.aload_n 0, 1) := by decide +kernel
theorem dX6_closed_27 : decode cX6_closed 27 = .ok (.iload 4, 2) := by decide +kernel
theorem dX6_closed_29 : decode cX6_closed 29 = .ok (.iload_n 3, 1) := by decide +kernel
theorem dX6_closed_30 : decode cX6_closed 30 = .ok (.invokevirtual 98, 3) := by decide +kernel
theorem dX6_closed_33 : decode cX6_closed 33 = .ok (.ifCond .eq 10, 3) := by decide +kernel
theorem dX6_closed_36 : decode cX6_closed 36 = .ok (.iconst 1, 1) := by decide +kernel
theorem dX6_closed_37 : decode cX6_closed 37 = .ok (.iload 4, 2) := by decide +kernel
theorem dX6_closed_39 : decode cX6_closed 39 = .ok (.ishl, 1) := by decide +kernel
theorem dX6_closed_40 : decode cX6_closed 40 = .ok (.goto 4, 3) := by decide +kernel
theorem dX6_closed_43 : decode cX6_closed 43 = .ok (.iconst 0, 1) := by decide +kernel
theorem dX6_closed_44 : decode cX6_closed 44 = .ok (.ior, 1) := by decide +kernel
theorem dX6_closed_45 : decode cX6_closed 45 = .ok (.istore_n 2, 1) := by decide +kernel
theorem dX6_closed_46 : decode cX6_closed 46 = .ok (.iinc 4 1, 3) := by decide +kernel
theorem dX6_closed_49 : decode cX6_closed 49 = .ok (.goto (-35), 3) := by decide +kernel
theorem dX6_closed_52 : decode cX6_closed 52 = .ok (.goto (-48), 3) := by decide +kernel
theorem dX6_closed_55 : decode cX6_closed 55 = .ok (.iload_n 2, 1) := by decide +kernel
theorem dX6_closed_56 : decode cX6_closed 56 = .ok (.ireturn, 1) := by decide +kernel
theorem dX6_will_0 : decode cX6_will 0 = .ok (.aload_n 0, 1) := by decide +kernel
theorem dX6_will_1 : decode cX6_will 1 = .ok (.aload_n 0, 1) := by decide +kernel
theorem dX6_will_2 : decode cX6_will 2 = .ok (.getfield 19, 3) := by decide +kernel
theorem dX6_will_5 : decode cX6_will 5 = .ok (.iconst 1, 1) := by decide +kernel
theorem dX6_will_6 : decode cX6_will 6 = .ok (.iaload, 1) := by decide +kernel
theorem dX6_will_7 : decode cX6_will 7 = .ok (.invokevirtual 121, 3) := by decide +kernel
theorem dX6_will_10 : decode cX6_will 10 = .ok (.ireturn, 1) := by decide +kernel
theorem dX6_begin_0 : decode cX6_begin 0 = .ok (.iconst 1, 1) := by decide +kernel
theorem dX6_begin_1 : decode cX6_begin 1 = .ok (.aload_n 0, 1) := by decide +kernel
theorem dX6_begin_2 : decode cX6_begin 2 = .ok (.getfield 13, 3) := by decide +kernel
theorem dX6_begin_5 : decode cX6_begin 5 = .ok (.iconst 0, 1) := by decide +kernel
theorem dX6_begin_6 : decode cX6_begin 6 = .ok (.iaload, 1) := by decide +kernel
theorem dX6_begin_7 : decode cX6_begin 7 = .ok (.ishl, 1) := by decide +kernel
theorem dX6_begin_8 : decode cX6_begin 8 = .ok (.iconst 1, 1) := by decide +kernel
theorem dX6_begin_9 : decode cX6_begin 9 = .ok (.isub, 1) := by decide +kernel
theorem dX6_begin_10 : decode cX6_begin 10 = .ok (.istore_n 1, 1) := by decide +kernel
theorem dX6_begin_11 : decode cX6_begin 11 = .ok (.iload_n 1, 1) := by decide +kernel
theorem dX6_begin_12 : decode cX6_begin 12 = .ok (.aload_n 0, 1) := by decide +kernel
theorem dX6_begin_13 : decode cX6_begin 13 = .ok (.getfield 19, 3) := by decide +kernel
theorem dX6_begin_16 : decode cX6_begin 16 = .ok (.iconst 1, 1) := by decide +kernel
theorem dX6_begin_17 : decode cX6_begin 17 = .ok (.iaload, 1) := by decide +kernel
theorem dX6_begin_18 : decode cX6_begin 18 = .ok (.iconst (-1), 1) := by decide +kernel
theorem dX6_begin_19 : decode cX6_begin 19 = .ok (.ixor, 1) := by decide +kernel
theorem dX6_begin_20 : decode cX6_begin 20 = .ok (.iand, 1) := by decide +kernel
theorem dX6_begin_21 : decode cX6_begin 21 = .ok (.istore_n 2, 1) := by decide +kernel
theorem dX6_begin_22 : decode cX6_begin 22 = .ok (.iload_n 2, 1) := by decide +kernel
theorem dX6_begin_23 : decode cX6_begin 23 = .ok (.istore_n 3, 1) := by decide +kernel
theorem dX6_begin_24 : decode cX6_begin 24 = .ok (.iload_n 3, 1) := by decide +kernel
theorem dX6_begin_25 : decode cX6_begin 25 = .ok (.ifCond .lt 71, 3) := by decide +kernel
theorem dX6_begin_28 : decode cX6_begin 28 = .ok (.iload_n 3, 1) := by decide +kernel
theorem dX6_begin_29 : decode cX6_begin 29 = .ok (.iload_n 1, 1) := by decide +kernel
theorem dX6_begin_30 : decode cX6_begin 30 = .ok (.aload_n 0, 1) := by decide +kernel
theorem dX6_begin_31 : decode cX6_begin 31 = .ok (.getfield 19, 3) := by decide +kernel
theorem dX6_begin_34 : decode cX6_begin 34 = .ok (.iconst 1, 1) := by decide +kernel
theorem dX6_begin_35 : decode cX6_begin 35 = .ok (.iaload, 1) := by decide +kernel
theorem dX6_begin_36 : decode cX6_begin 36 = .ok (.iconst (-1), 1) := by decide +kernel
theorem dX6_begin_37 : decode cX6_begin 37 = .ok (.ixor, 1) := by decide +kernel
theorem dX6_begin_38 : decode cX6_begin 38 = .ok (.iand, 1) := by decide +kernel
theorem dX6_begin_39 : decode cX6_begin 39 = .ok (.iconst (-1), 1) := by decide +kernel
theorem dX6_begin_40 : decode cX6_begin 40 = .ok (.ixor, 1) := by decide +kernel
theorem dX6_begin_41 : decode cX6_begin 41 = .ok (.iand, 1) := by decide +kernel
theorem dX6_begin_42 : decode cX6_begin 42 = .ok (.ifCond .ne 34, 3) := by decide +kernel
theorem dX6_begin_45 : decode cX6_begin 45 = .ok (.iload_n 3, 1) := by decide +kernel
theorem dX6_begin_46 : decode cX6_begin 46 = .ok (.invokestatic 95, 3) := by decide +kernel
theorem dX6_begin_49 : decode cX6_begin 49 = .ok (.iload_n 2, 1) := by decide +kernel
theorem dX6_begin_50 : decode cX6_begin 50 = .ok (.invokestatic 95, 3) := by decide +kernel
theorem dX6_begin_53 : decode cX6_begin 53 = .ok (.if_icmp .gt 23, 3) := by decide +kernel
theorem dX6_begin_56 : decode cX6_begin 56 = .ok (.aload_n 0, 1) := by decide +kernel
theorem dX6_begin_57 : decode cX6_begin 57 = .ok (.aload_n 0, 1) := by decide +kernel
theorem dX6_begin_58 : decode cX6_begin 58 = .ok (.getfield 19, 3) := by decide +kernel
theorem dX6_begin_61 : decode cX6_begin 61 = .ok (.iconst 1, 1) := by decide +kernel
theorem dX6_begin_62 : decode cX6_begin 62 = .ok (.iaload, 1) := by decide +kernel
theorem dX6_begin_63 : decode cX6_begin 63 = .ok (.iload_n 3, 1) := by decide +kernel
theorem dX6_begin_64 : decode cX6_begin 64 = .ok (.ior, 1) := by decide +kernel
theorem dX6_begin_65 : decode cX6_begin 65 = .ok (.invokevirtual 121, 3) := by decide +kernel
theorem dX6_begin_68 : decode cX6_begin 68 = .ok (.iload_n 1, 1) := by decide +kernel
theorem dX6_begin_69 : decode cX6_begin 69 = .ok (.if_icmp .ne 7, 3) := by decide +kernel
theorem dX6_begin_72 : decode cX6_begin 72 = .ok (.iconst 1, 1) := by decide +kernel
theorem dX6_begin_73 : decode cX6_begin 73 = .ok (.goto 4, 3) := by decide +kernel
theorem dX6_begin_76 : decode cX6_begin 76 = .ok (.iconst 0, 1) := by decide +kernel
theorem dX6_begin_77 : decode cX6_begin 77 = .ok (.istore 4, 2) := by decide +kernel
theorem dX6_begin_79 : decode cX6_begin 79 = .ok (.iload 4, 2) := by decide +kernel
theorem dX6_begin_81 : decode cX6_begin 81 = .ok (.ifCond .eq 7, 3) := by decide +kernel
theorem dX6_begin_84 : decode cX6_begin 84 = .ok (.iload_n 3, 1) := by decide +kernel
theorem dX6_begin_85 : decode cX6_begin 85 = .ok (.goto 4, 3) := by decide +kernel
theorem dX6_begin_88 : decode cX6_begin 88 = .ok (.iload_n 2, 1) := by decide +kernel
theorem dX6_begin_89 : decode cX6_begin 89 = .ok (.istore_n 2, 1) := by decide +kernel
theorem dX6_begin_90 : decode cX6_begin 90 = .ok (.iinc 3 (-1), 3) := by decide +kernel
theorem dX6_begin_93 : decode cX6_begin 93 = .ok (.goto (-69), 3) := by decide +kernel
theorem dX6_begin_96 : decode cX6_begin 96 = .ok (.iload_n 2, 1) := by decide +kernel
theorem dX6_begin_97 : decode cX6_begin 97 = .ok (.ireturn, 1) := by decide +kernel
theorem dX6_inkOf_0 : decode cX6_inkOf 0 = .ok (.aload_n 0, 1) := by decide +kernel
theorem dX6_inkOf_1 : decode cX6_inkOf 1 = .ok (.iload_n 1, 1) := by decide +kernel
theorem dX6_inkOf_2 : decode cX6_inkOf 2 = .ok (.invokevirtual 105, 3) := by decide +kernel
theorem dX6_inkOf_5 : decode cX6_inkOf 5 = .ok (.bipush (-9), 2) := by decide +kernel
theorem dX6_inkOf_7 : decode cX6_inkOf 7 = .ok (.if_icmp .ne 7, 3) := by decide +kernel
theorem dX6_inkOf_10 : decode cX6_inkOf 10 = .ok (.iconst 0, 1) := by decide +kernel
theorem dX6_inkOf_11 : decode cX6_inkOf 11 = .ok (.goto 16, 3) := by decide +kernel
theorem dX6_inkOf_14 : decode cX6_inkOf 14 = .ok (.aload_n 0, 1) := by decide +kernel
theorem dX6_inkOf_15 : decode cX6_inkOf 15 = .ok (.getfield 19, 3) := by decide +kernel
theorem dX6_inkOf_18 : decode cX6_inkOf 18 = .ok (.bipush 10, 2) := by decide +kernel
theorem dX6_inkOf_20 : decode cX6_inkOf 20 = .ok (.aload_n 0, 1) := by decide +kernel
theorem dX6_inkOf_21 : decode cX6_inkOf 21 = .ok (.iload_n 1, 1) := by decide +kernel
theorem dX6_inkOf_22 : decode cX6_inkOf 22 = .ok (.invokevirtual 105, 3) := by decide +kernel
theorem dX6_inkOf_25 : decode cX6_inkOf 25 = .ok (.iadd, 1) := by decide +kernel
theorem dX6_inkOf_26 : decode cX6_inkOf 26 = .ok (.iaload, 1) := by decide +kernel
theorem dX6_inkOf_27 : decode cX6_inkOf 27 = .ok (.ireturn, 1) := by decide +kernel
theorem dX6_lays_0 : decode cX6_lays 0 = .ok (.iload_n 1, 1) := by decide +kernel
theorem dX6_lays_1 : decode cX6_lays 1 = .ok (.invokestatic 95, 3) := by decide +kernel
theorem dX6_lays_4 : decode cX6_lays 4 = .ok (.istore_n 2, 1) := by decide +kernel
theorem dX6_lays_5 : decode cX6_lays 5 = .ok (.aload_n 0, 1) := by decide +kernel
theorem dX6_lays_6 : decode cX6_lays 6 = .ok (.iconst 0, 1) := by decide +kernel
theorem dX6_lays_7 : decode cX6_lays 7 = .ok (.putfield 124, 3) := by decide +kernel
theorem dX6_lays_10 : decode cX6_lays 10 = .ok (.iload_n 2, 1) := by decide +kernel
theorem dX6_lays_11 : decode cX6_lays 11 = .ok (.ifCond .ne 16, 3) := by decide +kernel
theorem dX6_lays_14 : decode cX6_lays 14 = .ok (.aload_n 0, 1) := by decide +kernel
theorem dX6_lays_15 : decode cX6_lays 15 = .ok (.getfield 32, 3) := by decide +kernel
theorem dX6_lays_18 : decode cX6_lays 18 = .ok (.iconst 0, 1) := by decide +kernel
theorem dX6_lays_19 : decode cX6_lays 19 = .ok (.iconst 0, 1) := by decide +kernel
theorem dX6_lays_20 : decode cX6_lays 20 = .ok (.iastore, 1) := by decide +kernel
theorem dX6_lays_21 : decode cX6_lays 21 = .ok (.aload_n 0, 1) := by decide +kernel
theorem dX6_lays_22 : decode cX6_lays 22 = .ok (.iconst 1, 1) := by decide +kernel
theorem dX6_lays_23 : decode cX6_lays 23 = .ok (.putfield 124, 3) := by decide +kernel
theorem dX6_lays_26 : decode cX6_lays 26 = .ok (.return_, 1) := by decide +kernel
theorem dX6_lays_27 : decode cX6_lays 27 = .ok (.iconst 0, 1) := by decide +kernel
theorem dX6_lays_28 : decode cX6_lays 28 = .ok (.istore_n 3, 1) := by decide +kernel
theorem dX6_lays_29 : decode cX6_lays 29 = .ok (.aload_n 0, 1) := by decide +kernel
theorem dX6_lays_30 : decode cX6_lays 30 = .ok (.getfield 35, 3) := by decide +kernel
theorem dX6_lays_33 : decode cX6_lays 33 = .ok (.iconst 0, 1) := by decide +kernel
theorem dX6_lays_34 : decode cX6_lays 34 = .ok (.iconst (-1), 1) := by decide +kernel
theorem dX6_lays_35 : decode cX6_lays 35 = .ok (.iastore, 1) := by decide +kernel
theorem dX6_lays_36 : decode cX6_lays 36 = .ok (.iload_n 3, 1) := by decide +kernel
theorem dX6_lays_37 : decode cX6_lays 37 = .ok (.ifCond .lt 269, 3) := by decide +kernel
theorem dX6_lays_40 : decode cX6_lays 40 = .ok (.aload_n 0, 1) := by decide +kernel
theorem dX6_lays_41 : decode cX6_lays 41 = .ok (.getfield 35, 3) := by decide +kernel
theorem dX6_lays_44 : decode cX6_lays 44 = .ok (.iload_n 3, 1) := by decide +kernel
theorem dX6_lays_45 : decode cX6_lays 45 = .ok (.dup2, 1) := by decide +kernel
theorem dX6_lays_46 : decode cX6_lays 46 = .ok (.iaload, 1) := by decide +kernel
theorem dX6_lays_47 : decode cX6_lays 47 = .ok (.iconst 1, 1) := by decide +kernel
theorem dX6_lays_48 : decode cX6_lays 48 = .ok (.iadd, 1) := by decide +kernel
theorem dX6_lays_49 : decode cX6_lays 49 = .ok (.iastore, 1) := by decide +kernel
theorem dX6_lays_50 : decode cX6_lays 50 = .ok (.aload_n 0, 1) := by decide +kernel
theorem dX6_lays_51 : decode cX6_lays 51 = .ok (.getfield 35, 3) := by decide +kernel
theorem dX6_lays_54 : decode cX6_lays 54 = .ok (.iload_n 3, 1) := by decide +kernel
theorem dX6_lays_55 : decode cX6_lays 55 = .ok (.iaload, 1) := by decide +kernel
theorem dX6_lays_56 : decode cX6_lays 56 = .ok (.istore 4, 2) := by decide +kernel
theorem dX6_lays_58 : decode cX6_lays 58 = .ok (.iconst 0, 1) := by decide +kernel
theorem dX6_lays_59 : decode cX6_lays 59 = .ok (.istore 5, 2) := by decide +kernel
theorem dX6_lays_61 : decode cX6_lays 61 = .ok (.iconst 0, 1) := by decide +kernel
theorem dX6_lays_62 : decode cX6_lays 62 = .ok (.istore 6, 2) := by decide +kernel
theorem dX6_lays_64 : decode cX6_lays 64 = .ok (.iload 6, 2) := by decide +kernel
theorem dX6_lays_66 : decode cX6_lays 66 = .ok (.iload_n 3, 1) := by decide +kernel
theorem dX6_lays_67 : decode cX6_lays 67 = .ok (.if_icmp .ge 23, 3) := by decide +kernel
theorem dX6_lays_70 : decode cX6_lays 70 = .ok (.iload 5, 2) := by decide +kernel
theorem dX6_lays_72 : decode cX6_lays 72 = .ok (.iconst 1, 1) := by decide +kernel
theorem dX6_lays_73 : decode cX6_lays 73 = .ok (.aload_n 0, 1) := by decide +kernel
theorem dX6_lays_74 : decode cX6_lays 74 = .ok (.getfield 35, 3) := by decide +kernel
theorem dX6_lays_77 : decode cX6_lays 77 = .ok (.iload 6, 2) := by decide +kernel
theorem dX6_lays_79 : decode cX6_lays 79 = .ok (.iaload, 1) := by decide +kernel
theorem dX6_lays_80 : decode cX6_lays 80 = .ok (.ishl, 1) := by decide +kernel
theorem dX6_lays_81 : decode cX6_lays 81 = .ok (.ior, 1) := by decide +kernel
theorem dX6_lays_82 : decode cX6_lays 82 = .ok (.istore 5, 2) := by decide +kernel
theorem dX6_lays_84 : decode cX6_lays 84 = .ok (.iinc 6 1, 3) := by decide +kernel
theorem dX6_lays_87 : decode cX6_lays 87 = .ok (.goto (-23), 3) := by decide +kernel
theorem dX6_lays_90 : decode cX6_lays 90 = .ok (.iload 4, 2) := by decide +kernel
theorem dX6_lays_92 : decode cX6_lays 92 = .ok (.aload_n 0, 1) := by decide +kernel
theorem dX6_lays_93 : decode cX6_lays 93 = .ok (.getfield 13, 3) := by decide +kernel
theorem dX6_lays_96 : decode cX6_lays 96 = .ok (.iconst 0, 1) := by decide +kernel
theorem dX6_lays_97 : decode cX6_lays 97 = .ok (.iaload, 1) := by decide +kernel
theorem dX6_lays_98 : decode cX6_lays 98 = .ok (.if_icmp .lt 9, 3) := by decide +kernel
theorem dX6_lays_101 : decode cX6_lays 101 = .ok (.iinc 3 (-1), 3) := by decide +kernel
theorem dX6_lays_104 : decode cX6_lays 104 = .ok (.goto 199, 3) := by decide +kernel
theorem dX6_lays_107 : decode cX6_lays 107 = .ok (.iload_n 1, 1) := by decide +kernel
theorem dX6_lays_108 : decode cX6_lays 108 = .ok (.iload 4, 2) := by decide +kernel
theorem dX6_lays_110 : decode cX6_lays 110 = .ok (.ishr, 1) := by decide +kernel
theorem dX6_lays_111 : decode cX6_lays 111 = .ok (.iconst 1, 1) := by decide +kernel
theorem dX6_lays_112 : decode cX6_lays 112 = .ok (.iand, 1) := by decide +kernel
theorem dX6_lays_113 : decode cX6_lays 113 = .ok (.iconst 1, 1) := by decide +kernel
theorem dX6_lays_114 : decode cX6_lays 114 = .ok (.if_icmp .ne 189, 3) := by decide +kernel
theorem dX6_lays_117 : decode cX6_lays 117 = .ok (.aload_n 0, 1) := by decide +kernel
theorem dX6_lays_118 : decode cX6_lays 118 = .ok (.iload 4, 2) := by decide +kernel
theorem dX6_lays_120 : decode cX6_lays 120 = .ok (.iload 5, 2) := by decide +kernel
theorem dX6_lays_122 : decode cX6_lays 122 = .ok (.invokevirtual 98, 3) := by decide +kernel
theorem dX6_lays_125 : decode cX6_lays 125 = .ok (.ifCond .eq 178, 3) := by decide +kernel
theorem dX6_lays_128 : decode cX6_lays 128 = .ok (.aload_n 0, 1) := by decide +kernel
theorem dX6_lays_129 : decode cX6_lays 129 = .ok (.iload 4, 2) := by decide +kernel
theorem dX6_lays_131 : decode cX6_lays 131 = .ok (.invokevirtual 127, 3) := by decide +kernel
theorem dX6_lays_134 : decode cX6_lays 134 = .ok (.aload_n 0, 1) := by decide +kernel
theorem dX6_lays_135 : decode cX6_lays 135 = .ok (.getfield 13, 3) := by decide +kernel
theorem dX6_lays_138 : decode cX6_lays 138 = .ok (.iconst 1, 1) := by decide +kernel
theorem dX6_lays_139 : decode cX6_lays 139 = .ok (.iaload, 1) := by decide +kernel
theorem dX6_lays_140 : decode cX6_lays 140 = .ok (.iload_n 3, 1) := by decide +kernel
theorem dX6_lays_141 : decode cX6_lays 141 = .ok (.aload_n 0, 1) := by decide +kernel
theorem dX6_lays_142 : decode cX6_lays 142 = .ok (.getfield 13, 3) := by decide +kernel
theorem dX6_lays_145 : decode cX6_lays 145 = .ok (.iconst 1, 1) := by decide +kernel
theorem dX6_lays_146 : decode cX6_lays 146 = .ok (.iaload, 1) := by decide +kernel
theorem dX6_lays_147 : decode cX6_lays 147 = .ok (.irem, 1) := by decide +kernel
theorem dX6_lays_148 : decode cX6_lays 148 = .ok (.isub, 1) := by decide +kernel
theorem dX6_lays_149 : decode cX6_lays 149 = .ok (.if_icmp .ne 154, 3) := by decide +kernel
theorem dX6_lays_152 : decode cX6_lays 152 = .ok (.iload_n 3, 1) := by decide +kernel
theorem dX6_lays_153 : decode cX6_lays 153 = .ok (.ifCond .ne 7, 3) := by decide +kernel
theorem dX6_lays_156 : decode cX6_lays 156 = .ok (.iconst (-1), 1) := by decide +kernel
theorem dX6_lays_157 : decode cX6_lays 157 = .ok (.goto 11, 3) := by decide +kernel
theorem dX6_lays_160 : decode cX6_lays 160 = .ok (.aload_n 0, 1) := by decide +kernel
theorem dX6_lays_161 : decode cX6_lays 161 = .ok (.getfield 38, 3) := by decide +kernel
theorem dX6_lays_164 : decode cX6_lays 164 = .ok (.iload_n 3, 1) := by decide +kernel
theorem dX6_lays_165 : decode cX6_lays 165 = .ok (.iconst 1, 1) := by decide +kernel
theorem dX6_lays_166 : decode cX6_lays 166 = .ok (.isub, 1) := by decide +kernel
theorem dX6_lays_167 : decode cX6_lays 167 = .ok (.iaload, 1) := by decide +kernel
theorem dX6_lays_168 : decode cX6_lays 168 = .ok (.iconst 1, 1) := by decide +kernel
theorem dX6_lays_169 : decode cX6_lays 169 = .ok (.iadd, 1) := by decide +kernel
theorem dX6_lays_170 : decode cX6_lays 170 = .ok (.istore 6, 2) := by decide +kernel
theorem dX6_lays_172 : decode cX6_lays 172 = .ok (.iload 6, 2) := by decide +kernel
theorem dX6_lays_174 : decode cX6_lays 174 = .ok (.iload 6, 2) := by decide +kernel
theorem dX6_lays_176 : decode cX6_lays 176 = .ok (.iconst 3, 1) := by decide +kernel
theorem dX6_lays_177 : decode cX6_lays 177 = .ok (.irem, 1) := by decide +kernel
theorem dX6_lays_178 : decode cX6_lays 178 = .ok (.aload_n 0, 1) := by decide +kernel
theorem dX6_lays_179 : decode cX6_lays 179 = .ok (.getfield 13, 3) := by decide +kernel
theorem dX6_lays_182 : decode cX6_lays 182 = .ok (.iconst 5, 1) := by decide +kernel
theorem dX6_lays_183 : decode cX6_lays 183 = .ok (.iload 4, 2) := by decide +kernel
theorem dX6_lays_185 : decode cX6_lays 185 = .ok (.iadd, 1) := by decide +kernel
theorem dX6_lays_186 : decode cX6_lays 186 = .ok (.iaload, 1) := by decide +kernel
theorem dX6_lays_187 : decode cX6_lays 187 = .ok (.if_icmp .ne 7, 3) := by decide +kernel
theorem dX6_lays_190 : decode cX6_lays 190 = .ok (.iconst 1, 1) := by decide +kernel
theorem dX6_lays_191 : decode cX6_lays 191 = .ok (.goto 4, 3) := by decide +kernel
theorem dX6_lays_194 : decode cX6_lays 194 = .ok (.iconst 0, 1) := by decide +kernel
theorem dX6_lays_195 : decode cX6_lays 195 = .ok (.iadd, 1) := by decide +kernel
theorem dX6_lays_196 : decode cX6_lays 196 = .ok (.istore 6, 2) := by decide +kernel
theorem dX6_lays_198 : decode cX6_lays 198 = .ok (.aload_n 0, 1) := by decide +kernel
theorem dX6_lays_199 : decode cX6_lays 199 = .ok (.getfield 38, 3) := by decide +kernel
theorem dX6_lays_202 : decode cX6_lays 202 = .ok (.iload_n 3, 1) := by decide +kernel
theorem dX6_lays_203 : decode cX6_lays 203 = .ok (.iload 6, 2) := by decide +kernel
theorem dX6_lays_205 : decode cX6_lays 205 = .ok (.iastore, 1) := by decide +kernel
theorem dX6_lays_206 : decode cX6_lays 206 = .ok (.iload 6, 2) := by decide +kernel
theorem dX6_lays_208 : decode cX6_lays 208 = .ok (.aload_n 0, 1) := by decide +kernel
theorem dX6_lays_209 : decode cX6_lays 209 = .ok (.getfield 19, 3) := by decide +kernel
theorem dX6_lays_212 : decode cX6_lays 212 = .ok (.iconst 0, 1) := by decide +kernel
theorem dX6_lays_213 : decode cX6_lays 213 = .ok (.iaload, 1) := by decide +kernel
theorem dX6_lays_214 : decode cX6_lays 214 = .ok (.if_icmp .ge 68, 3) := by decide +kernel
theorem dX6_lays_217 : decode cX6_lays 217 = .ok (.iload_n 3, 1) := by decide +kernel
theorem dX6_lays_218 : decode cX6_lays 218 = .ok (.iconst 1, 1) := by decide +kernel
theorem dX6_lays_219 : decode cX6_lays 219 = .ok (.iadd, 1) := by decide +kernel
theorem dX6_lays_220 : decode cX6_lays 220 = .ok (.iload_n 2, 1) := by decide +kernel
theorem dX6_lays_221 : decode cX6_lays 221 = .ok (.if_icmp .ne 61, 3) := by decide +kernel
theorem dX6_lays_224 : decode cX6_lays 224 = .ok (.iconst 0, 1) := by decide +kernel
theorem dX6_lays_225 : decode cX6_lays 225 = .ok (.istore 7, 2) := by decide +kernel
theorem dX6_lays_227 : decode cX6_lays 227 = .ok (.iload_n 2, 1) := by decide +kernel
theorem dX6_lays_228 : decode cX6_lays 228 = .ok (.iconst 1, 1) := by decide +kernel
theorem dX6_lays_229 : decode cX6_lays 229 = .ok (.isub, 1) := by decide +kernel
theorem dX6_lays_230 : decode cX6_lays 230 = .ok (.istore 8, 2) := by decide +kernel
theorem dX6_lays_232 : decode cX6_lays 232 = .ok (.iload 8, 2) := by decide +kernel
theorem dX6_lays_234 : decode cX6_lays 234 = .ok (.ifCond .lt 24, 3) := by decide +kernel
theorem dX6_lays_237 : decode cX6_lays 237 = .ok (.bipush 8, 2) := by decide +kernel
theorem dX6_lays_239 : decode cX6_lays 239 = .ok (.iload 7, 2) := by decide +kernel
theorem dX6_lays_241 : decode cX6_lays 241 = .ok (.imul, 1) := by decide +kernel
theorem dX6_lays_242 : decode cX6_lays 242 = .ok (.aload_n 0, 1) := by decide +kernel
theorem dX6_lays_243 : decode cX6_lays 243 = .ok (.getfield 35, 3) := by decide +kernel
theorem dX6_lays_246 : decode cX6_lays 246 = .ok (.iload 8, 2) := by decide +kernel
theorem dX6_lays_248 : decode cX6_lays 248 = .ok (.iaload, 1) := by decide +kernel
theorem dX6_lays_249 : decode cX6_lays 249 = .ok (.iadd, 1) := by decide +kernel
theorem dX6_lays_250 : decode cX6_lays 250 = .ok (.istore 7, 2) := by decide +kernel
theorem dX6_lays_252 : decode cX6_lays 252 = .ok (.iinc 8 (-1), 3) := by decide +kernel
theorem dX6_lays_255 : decode cX6_lays 255 = .ok (.goto (-23), 3) := by decide +kernel
theorem dX6_lays_258 : decode cX6_lays 258 = .ok (.aload_n 0, 1) := by decide +kernel
end
section
theorem dX6_lays_259 : decode cX6_lays 259 = .ok (.getfield 32, 3) := by decide +kernel
theorem dX6_lays_262 : decode cX6_lays 262 = .ok (.aload_n 0, 1) := by decide +kernel
theorem dX6_lays_263 : decode cX6_lays 263 = .ok (.getfield 124, 3) := by decide +kernel
theorem dX6_lays_266 : decode cX6_lays 266 = .ok (.iload 7, 2) := by decide +kernel
theorem dX6_lays_268 : decode cX6_lays 268 = .ok (.iastore, 1) := by decide +kernel
theorem dX6_lays_269 : decode cX6_lays 269 = .ok (.aload_n 0, 1) := by decide +kernel
theorem dX6_lays_270 : decode cX6_lays 270 = .ok (.dup, 1) := by decide +kernel
theorem dX6_lays_271 : decode cX6_lays 271 = .ok (.getfield 124, 3) := by decide +kernel
theorem dX6_lays_274 : decode cX6_lays 274 = .ok (.iconst 1, 1) := by decide +kernel
theorem dX6_lays_275 : decode cX6_lays 275 = .ok (.iadd, 1) := by decide +kernel
theorem dX6_lays_276 : decode cX6_lays 276 = .ok (.putfield 124, 3) := by decide +kernel
theorem dX6_lays_279 : decode cX6_lays 279 = .ok (.goto 24, 3) := by decide +kernel
theorem dX6_lays_282 : decode cX6_lays 282 = .ok (.iload 6, 2) := by decide +kernel
theorem dX6_lays_284 : decode cX6_lays 284 = .ok (.aload_n 0, 1) := by decide +kernel
theorem dX6_lays_285 : decode cX6_lays 285 = .ok (.getfield 19, 3) := by decide +kernel
theorem dX6_lays_288 : decode cX6_lays 288 = .ok (.iconst 0, 1) := by decide +kernel
theorem dX6_lays_289 : decode cX6_lays 289 = .ok (.iaload, 1) := by decide +kernel
theorem dX6_lays_290 : decode cX6_lays 290 = .ok (.if_icmp .ge 13, 3) := by decide +kernel
theorem dX6_lays_293 : decode cX6_lays 293 = .ok (.iinc 3 1, 3) := by decide +kernel
theorem dX6_lays_296 : decode cX6_lays 296 = .ok (.aload_n 0, 1) := by decide +kernel
theorem dX6_lays_297 : decode cX6_lays 297 = .ok (.getfield 35, 3) := by decide +kernel
theorem dX6_lays_300 : decode cX6_lays 300 = .ok (.iload_n 3, 1) := by decide +kernel
theorem dX6_lays_301 : decode cX6_lays 301 = .ok (.iconst (-1), 1) := by decide +kernel
theorem dX6_lays_302 : decode cX6_lays 302 = .ok (.iastore, 1) := by decide +kernel
theorem dX6_lays_303 : decode cX6_lays 303 = .ok (.goto (-267), 3) := by decide +kernel
theorem dX6_lays_306 : decode cX6_lays 306 = .ok (.return_, 1) := by decide +kernel
theorem dX6_of_0 : decode cX6_of 0 = .ok (.iload_n 0, 1) := by decide +kernel
theorem dX6_of_1 : decode cX6_of 1 = .ok (.iconst 3, 1) := by decide +kernel
theorem dX6_of_2 : decode cX6_of 2 = .ok (.iload_n 1, 1) := by decide +kernel
theorem dX6_of_3 : decode cX6_of 3 = .ok (.imul, 1) := by decide +kernel
theorem dX6_of_4 : decode cX6_of 4 = .ok (.ishr, 1) := by decide +kernel
theorem dX6_of_5 : decode cX6_of 5 = .ok (.bipush 7, 2) := by decide +kernel
theorem dX6_of_7 : decode cX6_of 7 = .ok (.iand, 1) := by decide +kernel
theorem dX6_of_8 : decode cX6_of 8 = .ok (.ireturn, 1) := by decide +kernel
theorem dX6_placeIn_0 : decode cX6_placeIn 0 = .ok (.iconst 0, 1) := by decide +kernel
theorem dX6_placeIn_1 : decode cX6_placeIn 1 = .ok (.istore_n 3, 1) := by decide +kernel
theorem dX6_placeIn_2 : decode cX6_placeIn 2 = .ok (.iconst 0, 1) := by decide +kernel
theorem dX6_placeIn_3 : decode cX6_placeIn 3 = .ok (.istore 4, 2) := by decide +kernel
theorem dX6_placeIn_5 : decode cX6_placeIn 5 = .ok (.iload 4, 2) := by decide +kernel
theorem dX6_placeIn_7 : decode cX6_placeIn 7 = .ok (.iload_n 1, 1) := by decide +kernel
theorem dX6_placeIn_8 : decode cX6_placeIn 8 = .ok (.if_icmp .ge 29, 3) := by decide +kernel
theorem dX6_placeIn_11 : decode cX6_placeIn 11 = .ok (.iload_n 0, 1) := by decide +kernel
theorem dX6_placeIn_12 : decode cX6_placeIn 12 = .ok (.iconst 3, 1) := by decide +kernel
theorem dX6_placeIn_13 : decode cX6_placeIn 13 = .ok (.iload 4, 2) := by decide +kernel
theorem dX6_placeIn_15 : decode cX6_placeIn 15 = .ok (.imul, 1) := by decide +kernel
theorem dX6_placeIn_16 : decode cX6_placeIn 16 = .ok (.ishr, 1) := by decide +kernel
theorem dX6_placeIn_17 : decode cX6_placeIn 17 = .ok (.bipush 7, 2) := by decide +kernel
theorem dX6_placeIn_19 : decode cX6_placeIn 19 = .ok (.iand, 1) := by decide +kernel
theorem dX6_placeIn_20 : decode cX6_placeIn 20 = .ok (.iload_n 2, 1) := by decide +kernel
theorem dX6_placeIn_21 : decode cX6_placeIn 21 = .ok (.if_icmp .ne 8, 3) := by decide +kernel
theorem dX6_placeIn_24 : decode cX6_placeIn 24 = .ok (.iload 4, 2) := by decide +kernel
theorem dX6_placeIn_26 : decode cX6_placeIn 26 = .ok (.goto 4, 3) := by decide +kernel
theorem dX6_placeIn_29 : decode cX6_placeIn 29 = .ok (.iload_n 3, 1) := by decide +kernel
theorem dX6_placeIn_30 : decode cX6_placeIn 30 = .ok (.istore_n 3, 1) := by decide +kernel
theorem dX6_placeIn_31 : decode cX6_placeIn 31 = .ok (.iinc 4 1, 3) := by decide +kernel
theorem dX6_placeIn_34 : decode cX6_placeIn 34 = .ok (.goto (-29), 3) := by decide +kernel
theorem dX6_placeIn_37 : decode cX6_placeIn 37 = .ok (.iload_n 3, 1) := by decide +kernel
theorem dX6_placeIn_38 : decode cX6_placeIn 38 = .ok (.ireturn, 1) := by decide +kernel
theorem dX6_orders_0 : decode cX6_orders 0 = .ok (.aload_n 0, 1) := by decide +kernel
theorem dX6_orders_1 : decode cX6_orders 1 = .ok (.aload_n 0, 1) := by decide +kernel
theorem dX6_orders_2 : decode cX6_orders 2 = .ok (.invokevirtual 114, 3) := by decide +kernel
theorem dX6_orders_5 : decode cX6_orders 5 = .ok (.invokevirtual 130, 3) := by decide +kernel
theorem dX6_orders_8 : decode cX6_orders 8 = .ok (.aload_n 0, 1) := by decide +kernel
theorem dX6_orders_9 : decode cX6_orders 9 = .ok (.getfield 124, 3) := by decide +kernel
theorem dX6_orders_12 : decode cX6_orders 12 = .ok (.ireturn, 1) := by decide +kernel
theorem dX6_firsts_0 : decode cX6_firsts 0 = .ok (.iconst 0, 1) := by decide +kernel
theorem dX6_firsts_1 : decode cX6_firsts 1 = .ok (.istore_n 2, 1) := by decide +kernel
theorem dX6_firsts_2 : decode cX6_firsts 2 = .ok (.iconst 0, 1) := by decide +kernel
theorem dX6_firsts_3 : decode cX6_firsts 3 = .ok (.istore_n 3, 1) := by decide +kernel
theorem dX6_firsts_4 : decode cX6_firsts 4 = .ok (.iload_n 3, 1) := by decide +kernel
theorem dX6_firsts_5 : decode cX6_firsts 5 = .ok (.aload_n 0, 1) := by decide +kernel
theorem dX6_firsts_6 : decode cX6_firsts 6 = .ok (.getfield 124, 3) := by decide +kernel
theorem dX6_firsts_9 : decode cX6_firsts 9 = .ok (.if_icmp .ge 28, 3) := by decide +kernel
theorem dX6_firsts_12 : decode cX6_firsts 12 = .ok (.iload_n 1, 1) := by decide +kernel
theorem dX6_firsts_13 : decode cX6_firsts 13 = .ok (.ifCond .eq 24, 3) := by decide +kernel
theorem dX6_firsts_16 : decode cX6_firsts 16 = .ok (.iload_n 2, 1) := by decide +kernel
theorem dX6_firsts_17 : decode cX6_firsts 17 = .ok (.iconst 1, 1) := by decide +kernel
theorem dX6_firsts_18 : decode cX6_firsts 18 = .ok (.aload_n 0, 1) := by decide +kernel
theorem dX6_firsts_19 : decode cX6_firsts 19 = .ok (.getfield 32, 3) := by decide +kernel
theorem dX6_firsts_22 : decode cX6_firsts 22 = .ok (.iload_n 3, 1) := by decide +kernel
theorem dX6_firsts_23 : decode cX6_firsts 23 = .ok (.iaload, 1) := by decide +kernel
theorem dX6_firsts_24 : decode cX6_firsts 24 = .ok (.iconst 0, 1) := by decide +kernel
theorem dX6_firsts_25 : decode cX6_firsts 25 = .ok (.invokestatic 134, 3) := by decide +kernel
theorem dX6_firsts_28 : decode cX6_firsts 28 = .ok (.ishl, 1) := by decide +kernel
theorem dX6_firsts_29 : decode cX6_firsts 29 = .ok (.ior, 1) := by decide +kernel
theorem dX6_firsts_30 : decode cX6_firsts 30 = .ok (.istore_n 2, 1) := by decide +kernel
theorem dX6_firsts_31 : decode cX6_firsts 31 = .ok (.iinc 3 1, 3) := by decide +kernel
theorem dX6_firsts_34 : decode cX6_firsts 34 = .ok (.goto (-30), 3) := by decide +kernel
theorem dX6_firsts_37 : decode cX6_firsts 37 = .ok (.iload_n 2, 1) := by decide +kernel
theorem dX6_firsts_38 : decode cX6_firsts 38 = .ok (.ireturn, 1) := by decide +kernel
theorem dX6_first_0 : decode cX6_first 0 = .ok (.aload_n 0, 1) := by decide +kernel
theorem dX6_first_1 : decode cX6_first 1 = .ok (.aload_n 0, 1) := by decide +kernel
theorem dX6_first_2 : decode cX6_first 2 = .ok (.invokevirtual 114, 3) := by decide +kernel
theorem dX6_first_5 : decode cX6_first 5 = .ok (.invokevirtual 130, 3) := by decide +kernel
theorem dX6_first_8 : decode cX6_first 8 = .ok (.aload_n 0, 1) := by decide +kernel
theorem dX6_first_9 : decode cX6_first 9 = .ok (.aload_n 0, 1) := by decide +kernel
theorem dX6_first_10 : decode cX6_first 10 = .ok (.invokevirtual 114, 3) := by decide +kernel
theorem dX6_first_13 : decode cX6_first 13 = .ok (.invokevirtual 138, 3) := by decide +kernel
theorem dX6_first_16 : decode cX6_first 16 = .ok (.ireturn, 1) := by decide +kernel
theorem dX6_isThere_0 : decode cX6_isThere 0 = .ok (.aload_n 0, 1) := by decide +kernel
theorem dX6_isThere_1 : decode cX6_isThere 1 = .ok (.iload_n 1, 1) := by decide +kernel
theorem dX6_isThere_2 : decode cX6_isThere 2 = .ok (.invokevirtual 102, 3) := by decide +kernel
theorem dX6_isThere_5 : decode cX6_isThere 5 = .ok (.ifCond .eq 17, 3) := by decide +kernel
theorem dX6_isThere_8 : decode cX6_isThere 8 = .ok (.aload_n 0, 1) := by decide +kernel
theorem dX6_isThere_9 : decode cX6_isThere 9 = .ok (.iload_n 1, 1) := by decide +kernel
theorem dX6_isThere_10 : decode cX6_isThere 10 = .ok (.invokevirtual 105, 3) := by decide +kernel
theorem dX6_isThere_13 : decode cX6_isThere 13 = .ok (.bipush (-9), 2) := by decide +kernel
theorem dX6_isThere_15 : decode cX6_isThere 15 = .ok (.if_icmp .eq 7, 3) := by decide +kernel
theorem dX6_isThere_18 : decode cX6_isThere 18 = .ok (.iconst 1, 1) := by decide +kernel
theorem dX6_isThere_19 : decode cX6_isThere 19 = .ok (.goto 4, 3) := by decide +kernel
theorem dX6_isThere_22 : decode cX6_isThere 22 = .ok (.iconst 0, 1) := by decide +kernel
theorem dX6_isThere_23 : decode cX6_isThere 23 = .ok (.ireturn, 1) := by decide +kernel
theorem dX6_sure_0 : decode cX6_sure 0 = .ok (.aload_n 0, 1) := by decide +kernel
theorem dX6_sure_1 : decode cX6_sure 1 = .ok (.iload_n 1, 1) := by decide +kernel
theorem dX6_sure_2 : decode cX6_sure 2 = .ok (.invokevirtual 141, 3) := by decide +kernel
theorem dX6_sure_5 : decode cX6_sure 5 = .ok (.ifCond .ne 5, 3) := by decide +kernel
theorem dX6_sure_8 : decode cX6_sure 8 = .ok (.iconst (-1), 1) := by decide +kernel
theorem dX6_sure_9 : decode cX6_sure 9 = .ok (.ireturn, 1) := by decide +kernel
theorem dX6_sure_10 : decode cX6_sure 10 = .ok (.aload_n 0, 1) := by decide +kernel
theorem dX6_sure_11 : decode cX6_sure 11 = .ok (.invokevirtual 114, 3) := by decide +kernel
theorem dX6_sure_14 : decode cX6_sure 14 = .ok (.invokestatic 95, 3) := by decide +kernel
theorem dX6_sure_17 : decode cX6_sure 17 = .ok (.istore_n 2, 1) := by decide +kernel
theorem dX6_sure_18 : decode cX6_sure 18 = .ok (.aload_n 0, 1) := by decide +kernel
theorem dX6_sure_19 : decode cX6_sure 19 = .ok (.aload_n 0, 1) := by decide +kernel
theorem dX6_sure_20 : decode cX6_sure 20 = .ok (.invokevirtual 114, 3) := by decide +kernel
theorem dX6_sure_23 : decode cX6_sure 23 = .ok (.invokevirtual 130, 3) := by decide +kernel
theorem dX6_sure_26 : decode cX6_sure 26 = .ok (.aload_n 0, 1) := by decide +kernel
theorem dX6_sure_27 : decode cX6_sure 27 = .ok (.getfield 124, 3) := by decide +kernel
theorem dX6_sure_30 : decode cX6_sure 30 = .ok (.ifCond .ne 7, 3) := by decide +kernel
theorem dX6_sure_33 : decode cX6_sure 33 = .ok (.iconst 0, 1) := by decide +kernel
theorem dX6_sure_34 : decode cX6_sure 34 = .ok (.goto 7, 3) := by decide +kernel
theorem dX6_sure_37 : decode cX6_sure 37 = .ok (.aload_n 0, 1) := by decide +kernel
theorem dX6_sure_38 : decode cX6_sure 38 = .ok (.invokevirtual 114, 3) := by decide +kernel
theorem dX6_sure_41 : decode cX6_sure 41 = .ok (.istore_n 3, 1) := by decide +kernel
theorem dX6_sure_42 : decode cX6_sure 42 = .ok (.iconst 0, 1) := by decide +kernel
theorem dX6_sure_43 : decode cX6_sure 43 = .ok (.istore 4, 2) := by decide +kernel
theorem dX6_sure_45 : decode cX6_sure 45 = .ok (.iload 4, 2) := by decide +kernel
theorem dX6_sure_47 : decode cX6_sure 47 = .ok (.aload_n 0, 1) := by decide +kernel
theorem dX6_sure_48 : decode cX6_sure 48 = .ok (.getfield 124, 3) := by decide +kernel
theorem dX6_sure_51 : decode cX6_sure 51 = .ok (.if_icmp .ge 62, 3) := by decide +kernel
theorem dX6_sure_54 : decode cX6_sure 54 = .ok (.iconst 0, 1) := by decide +kernel
theorem dX6_sure_55 : decode cX6_sure 55 = .ok (.istore 5, 2) := by decide +kernel
theorem dX6_sure_57 : decode cX6_sure 57 = .ok (.iconst 0, 1) := by decide +kernel
theorem dX6_sure_58 : decode cX6_sure 58 = .ok (.istore 6, 2) := by decide +kernel
theorem dX6_sure_60 : decode cX6_sure 60 = .ok (.iload 6, 2) := by decide +kernel
theorem dX6_sure_62 : decode cX6_sure 62 = .ok (.aload_n 0, 1) := by decide +kernel
theorem dX6_sure_63 : decode cX6_sure 63 = .ok (.getfield 32, 3) := by decide +kernel
theorem dX6_sure_66 : decode cX6_sure 66 = .ok (.iload 4, 2) := by decide +kernel
theorem dX6_sure_68 : decode cX6_sure 68 = .ok (.iaload, 1) := by decide +kernel
theorem dX6_sure_69 : decode cX6_sure 69 = .ok (.iload_n 2, 1) := by decide +kernel
theorem dX6_sure_70 : decode cX6_sure 70 = .ok (.iload_n 1, 1) := by decide +kernel
theorem dX6_sure_71 : decode cX6_sure 71 = .ok (.invokestatic 144, 3) := by decide +kernel
theorem dX6_sure_74 : decode cX6_sure 74 = .ok (.if_icmp .ge 28, 3) := by decide +kernel
theorem dX6_sure_77 : decode cX6_sure 77 = .ok (.iload 5, 2) := by decide +kernel
theorem dX6_sure_79 : decode cX6_sure 79 = .ok (.iconst 1, 1) := by decide +kernel
theorem dX6_sure_80 : decode cX6_sure 80 = .ok (.aload_n 0, 1) := by decide +kernel
theorem dX6_sure_81 : decode cX6_sure 81 = .ok (.getfield 32, 3) := by decide +kernel
theorem dX6_sure_84 : decode cX6_sure 84 = .ok (.iload 4, 2) := by decide +kernel
theorem dX6_sure_86 : decode cX6_sure 86 = .ok (.iaload, 1) := by decide +kernel
theorem dX6_sure_87 : decode cX6_sure 87 = .ok (.iload 6, 2) := by decide +kernel
theorem dX6_sure_89 : decode cX6_sure 89 = .ok (.invokestatic 134, 3) := by decide +kernel
theorem dX6_sure_92 : decode cX6_sure 92 = .ok (.ishl, 1) := by decide +kernel
theorem dX6_sure_93 : decode cX6_sure 93 = .ok (.ior, 1) := by decide +kernel
theorem dX6_sure_94 : decode cX6_sure 94 = .ok (.istore 5, 2) := by decide +kernel
theorem dX6_sure_96 : decode cX6_sure 96 = .ok (.iinc 6 1, 3) := by decide +kernel
theorem dX6_sure_99 : decode cX6_sure 99 = .ok (.goto (-39), 3) := by decide +kernel
theorem dX6_sure_102 : decode cX6_sure 102 = .ok (.iload_n 3, 1) := by decide +kernel
theorem dX6_sure_103 : decode cX6_sure 103 = .ok (.iload 5, 2) := by decide +kernel
theorem dX6_sure_105 : decode cX6_sure 105 = .ok (.iand, 1) := by decide +kernel
theorem dX6_sure_106 : decode cX6_sure 106 = .ok (.istore_n 3, 1) := by decide +kernel
theorem dX6_sure_107 : decode cX6_sure 107 = .ok (.iinc 4 1, 3) := by decide +kernel
theorem dX6_sure_110 : decode cX6_sure 110 = .ok (.goto (-65), 3) := by decide +kernel
theorem dX6_sure_113 : decode cX6_sure 113 = .ok (.iload_n 3, 1) := by decide +kernel
theorem dX6_sure_114 : decode cX6_sure 114 = .ok (.ireturn, 1) := by decide +kernel
theorem dX6_leads_0 : decode cX6_leads 0 = .ok (.iconst 0, 1) := by decide +kernel
theorem dX6_leads_1 : decode cX6_leads 1 = .ok (.istore_n 2, 1) := by decide +kernel
theorem dX6_leads_2 : decode cX6_leads 2 = .ok (.iconst 0, 1) := by decide +kernel
theorem dX6_leads_3 : decode cX6_leads 3 = .ok (.istore_n 3, 1) := by decide +kernel
theorem dX6_leads_4 : decode cX6_leads 4 = .ok (.iload_n 3, 1) := by decide +kernel
theorem dX6_leads_5 : decode cX6_leads 5 = .ok (.aload_n 0, 1) := by decide +kernel
theorem dX6_leads_6 : decode cX6_leads 6 = .ok (.getfield 124, 3) := by decide +kernel
theorem dX6_leads_9 : decode cX6_leads 9 = .ok (.if_icmp .ge 31, 3) := by decide +kernel
theorem dX6_leads_12 : decode cX6_leads 12 = .ok (.iload_n 2, 1) := by decide +kernel
theorem dX6_leads_13 : decode cX6_leads 13 = .ok (.aload_n 0, 1) := by decide +kernel
theorem dX6_leads_14 : decode cX6_leads 14 = .ok (.getfield 32, 3) := by decide +kernel
theorem dX6_leads_17 : decode cX6_leads 17 = .ok (.iload_n 3, 1) := by decide +kernel
theorem dX6_leads_18 : decode cX6_leads 18 = .ok (.iaload, 1) := by decide +kernel
theorem dX6_leads_19 : decode cX6_leads 19 = .ok (.iconst 0, 1) := by decide +kernel
theorem dX6_leads_20 : decode cX6_leads 20 = .ok (.invokestatic 134, 3) := by decide +kernel
theorem dX6_leads_23 : decode cX6_leads 23 = .ok (.iload_n 1, 1) := by decide +kernel
theorem dX6_leads_24 : decode cX6_leads 24 = .ok (.if_icmp .ne 7, 3) := by decide +kernel
theorem dX6_leads_27 : decode cX6_leads 27 = .ok (.iconst 1, 1) := by decide +kernel
theorem dX6_leads_28 : decode cX6_leads 28 = .ok (.goto 4, 3) := by decide +kernel
theorem dX6_leads_31 : decode cX6_leads 31 = .ok (.iconst 0, 1) := by decide +kernel
theorem dX6_leads_32 : decode cX6_leads 32 = .ok (.iadd, 1) := by decide +kernel
theorem dX6_leads_33 : decode cX6_leads 33 = .ok (.istore_n 2, 1) := by decide +kernel
theorem dX6_leads_34 : decode cX6_leads 34 = .ok (.iinc 3 1, 3) := by decide +kernel
theorem dX6_leads_37 : decode cX6_leads 37 = .ok (.goto (-33), 3) := by decide +kernel
theorem dX6_leads_40 : decode cX6_leads 40 = .ok (.iload_n 2, 1) := by decide +kernel
theorem dX6_leads_41 : decode cX6_leads 41 = .ok (.ireturn, 1) := by decide +kernel
theorem dX6_common_0 : decode cX6_common 0 = .ok (.iload_n 0, 1) := by decide +kernel
theorem dX6_common_1 : decode cX6_common 1 = .ok (.istore_n 2, 1) := by decide +kernel
theorem dX6_common_2 : decode cX6_common 2 = .ok (.iload_n 1, 1) := by decide +kernel
theorem dX6_common_3 : decode cX6_common 3 = .ok (.istore_n 3, 1) := by decide +kernel
theorem dX6_common_4 : decode cX6_common 4 = .ok (.iload_n 3, 1) := by decide +kernel
theorem dX6_common_5 : decode cX6_common 5 = .ok (.ifCond .le 16, 3) := by decide +kernel
theorem dX6_common_8 : decode cX6_common 8 = .ok (.iload_n 2, 1) := by decide +kernel
theorem dX6_common_9 : decode cX6_common 9 = .ok (.iload_n 3, 1) := by decide +kernel
theorem dX6_common_10 : decode cX6_common 10 = .ok (.irem, 1) := by decide +kernel
theorem dX6_common_11 : decode cX6_common 11 = .ok (.istore 4, 2) := by decide +kernel
theorem dX6_common_13 : decode cX6_common 13 = .ok (.iload_n 3, 1) := by decide +kernel
theorem dX6_common_14 : decode cX6_common 14 = .ok (.istore_n 2, 1) := by decide +kernel
theorem dX6_common_15 : decode cX6_common 15 = .ok (.iload 4, 2) := by decide +kernel
theorem dX6_common_17 : decode cX6_common 17 = .ok (.istore_n 3, 1) := by decide +kernel
theorem dX6_common_18 : decode cX6_common 18 = .ok (.goto (-14), 3) := by decide +kernel
theorem dX6_common_21 : decode cX6_common 21 = .ok (.iload_n 2, 1) := by decide +kernel
theorem dX6_common_22 : decode cX6_common 22 = .ok (.ireturn, 1) := by decide +kernel
theorem dX6_chance_0 : decode cX6_chance 0 = .ok (.aload_n 0, 1) := by decide +kernel
theorem dX6_chance_1 : decode cX6_chance 1 = .ok (.iload_n 1, 1) := by decide +kernel
theorem dX6_chance_2 : decode cX6_chance 2 = .ok (.invokevirtual 141, 3) := by decide +kernel
theorem dX6_chance_5 : decode cX6_chance 5 = .ok (.ifCond .eq 12, 3) := by decide +kernel
theorem dX6_chance_8 : decode cX6_chance 8 = .ok (.iload_n 2, 1) := by decide +kernel
theorem dX6_chance_9 : decode cX6_chance 9 = .ok (.iconst 0, 1) := by decide +kernel
theorem dX6_chance_10 : decode cX6_chance 10 = .ok (.iconst 1, 1) := by decide +kernel
theorem dX6_chance_11 : decode cX6_chance 11 = .ok (.invokestatic 52, 3) := by decide +kernel
theorem dX6_chance_14 : decode cX6_chance 14 = .ok (.ifCond .ne 5, 3) := by decide +kernel
theorem dX6_chance_17 : decode cX6_chance 17 = .ok (.iconst (-1), 1) := by decide +kernel
theorem dX6_chance_18 : decode cX6_chance 18 = .ok (.ireturn, 1) := by decide +kernel
theorem dX6_chance_19 : decode cX6_chance 19 = .ok (.aload_n 0, 1) := by decide +kernel
theorem dX6_chance_20 : decode cX6_chance 20 = .ok (.aload_n 0, 1) := by decide +kernel
theorem dX6_chance_21 : decode cX6_chance 21 = .ok (.invokevirtual 114, 3) := by decide +kernel
theorem dX6_chance_24 : decode cX6_chance 24 = .ok (.invokevirtual 130, 3) := by decide +kernel
theorem dX6_chance_27 : decode cX6_chance 27 = .ok (.aload_n 0, 1) := by decide +kernel
theorem dX6_chance_28 : decode cX6_chance 28 = .ok (.iload_n 1, 1) := by decide +kernel
theorem dX6_chance_29 : decode cX6_chance 29 = .ok (.invokevirtual 148, 3) := by decide +kernel
theorem dX6_chance_32 : decode cX6_chance 32 = .ok (.istore_n 3, 1) := by decide +kernel
theorem dX6_chance_33 : decode cX6_chance 33 = .ok (.aload_n 0, 1) := by decide +kernel
theorem dX6_chance_34 : decode cX6_chance 34 = .ok (.getfield 124, 3) := by decide +kernel
theorem dX6_chance_37 : decode cX6_chance 37 = .ok (.ifCond .ne 7, 3) := by decide +kernel
theorem dX6_chance_40 : decode cX6_chance 40 = .ok (.iconst 1, 1) := by decide +kernel
theorem dX6_chance_41 : decode cX6_chance 41 = .ok (.goto 7, 3) := by decide +kernel
theorem dX6_chance_44 : decode cX6_chance 44 = .ok (.aload_n 0, 1) := by decide +kernel
theorem dX6_chance_45 : decode cX6_chance 45 = .ok (.getfield 124, 3) := by decide +kernel
theorem dX6_chance_48 : decode cX6_chance 48 = .ok (.istore 4, 2) := by decide +kernel
theorem dX6_chance_50 : decode cX6_chance 50 = .ok (.iload_n 3, 1) := by decide +kernel
theorem dX6_chance_51 : decode cX6_chance 51 = .ok (.iload 4, 2) := by decide +kernel
theorem dX6_chance_53 : decode cX6_chance 53 = .ok (.invokestatic 151, 3) := by decide +kernel
theorem dX6_chance_56 : decode cX6_chance 56 = .ok (.istore 5, 2) := by decide +kernel
theorem dX6_chance_58 : decode cX6_chance 58 = .ok (.iload_n 2, 1) := by decide +kernel
theorem dX6_chance_59 : decode cX6_chance 59 = .ok (.ifCond .ne 10, 3) := by decide +kernel
theorem dX6_chance_62 : decode cX6_chance 62 = .ok (.iload_n 3, 1) := by decide +kernel
theorem dX6_chance_63 : decode cX6_chance 63 = .ok (.iload 5, 2) := by decide +kernel
theorem dX6_chance_65 : decode cX6_chance 65 = .ok (.idiv, 1) := by decide +kernel
theorem dX6_chance_66 : decode cX6_chance 66 = .ok (.goto 8, 3) := by decide +kernel
theorem dX6_chance_69 : decode cX6_chance 69 = .ok (.iload 4, 2) := by decide +kernel
theorem dX6_chance_71 : decode cX6_chance 71 = .ok (.iload 5, 2) := by decide +kernel
theorem dX6_chance_73 : decode cX6_chance 73 = .ok (.idiv, 1) := by decide +kernel
theorem dX6_chance_74 : decode cX6_chance 74 = .ok (.ireturn, 1) := by decide +kernel
theorem dX6_isKnown_0 : decode cX6_isKnown 0 = .ok (.iload_n 1, 1) := by decide +kernel
theorem dX6_isKnown_1 : decode cX6_isKnown 1 = .ok (.invokestatic 95, 3) := by decide +kernel
theorem dX6_isKnown_4 : decode cX6_isKnown 4 = .ok (.iload_n 2, 1) := by decide +kernel
theorem dX6_isKnown_5 : decode cX6_isKnown 5 = .ok (.iconst 1, 1) := by decide +kernel
theorem dX6_isKnown_6 : decode cX6_isKnown 6 = .ok (.isub, 1) := by decide +kernel
theorem dX6_isKnown_7 : decode cX6_isKnown 7 = .ok (.if_icmp .lt 5, 3) := by decide +kernel
theorem dX6_isKnown_10 : decode cX6_isKnown 10 = .ok (.iconst 1, 1) := by decide +kernel
theorem dX6_isKnown_11 : decode cX6_isKnown 11 = .ok (.ireturn, 1) := by decide +kernel
theorem dX6_isKnown_12 : decode cX6_isKnown 12 = .ok (.iconst 0, 1) := by decide +kernel
theorem dX6_isKnown_13 : decode cX6_isKnown 13 = .ok (.istore_n 3, 1) := by decide +kernel
theorem dX6_isKnown_14 : decode cX6_isKnown 14 = .ok (.iload_n 3, 1) := by decide +kernel
theorem dX6_isKnown_15 : decode cX6_isKnown 15 = .ok (.iconst 1, 1) := by decide +kernel
theorem dX6_isKnown_16 : decode cX6_isKnown 16 = .ok (.iconst 3, 1) := by decide +kernel
theorem dX6_isKnown_17 : decode cX6_isKnown 17 = .ok (.iload_n 1, 1) := by decide +kernel
theorem dX6_isKnown_18 : decode cX6_isKnown 18 = .ok (.invokestatic 95, 3) := by decide +kernel
theorem dX6_isKnown_21 : decode cX6_isKnown 21 = .ok (.imul, 1) := by decide +kernel
theorem dX6_isKnown_22 : decode cX6_isKnown 22 = .ok (.ishl, 1) := by decide +kernel
theorem dX6_isKnown_23 : decode cX6_isKnown 23 = .ok (.if_icmp .ge 17, 3) := by decide +kernel
theorem dX6_isKnown_26 : decode cX6_isKnown 26 = .ok (.aload_n 0, 1) := by decide +kernel
theorem dX6_isKnown_27 : decode cX6_isKnown 27 = .ok (.getfield 42, 3) := by decide +kernel
theorem dX6_isKnown_30 : decode cX6_isKnown 30 = .ok (.iload_n 3, 1) := by decide +kernel
theorem dX6_isKnown_31 : decode cX6_isKnown 31 = .ok (.bipush 8, 2) := by decide +kernel
theorem dX6_isKnown_33 : decode cX6_isKnown 33 = .ok (.iastore, 1) := by decide +kernel
theorem dX6_isKnown_34 : decode cX6_isKnown 34 = .ok (.iinc 3 1, 3) := by decide +kernel
theorem dX6_isKnown_37 : decode cX6_isKnown 37 = .ok (.goto (-23), 3) := by decide +kernel
theorem dX6_isKnown_40 : decode cX6_isKnown 40 = .ok (.iconst 1, 1) := by decide +kernel
theorem dX6_isKnown_41 : decode cX6_isKnown 41 = .ok (.istore_n 3, 1) := by decide +kernel
theorem dX6_isKnown_42 : decode cX6_isKnown 42 = .ok (.iconst 0, 1) := by decide +kernel
theorem dX6_isKnown_43 : decode cX6_isKnown 43 = .ok (.istore 4, 2) := by decide +kernel
theorem dX6_isKnown_45 : decode cX6_isKnown 45 = .ok (.iload 4, 2) := by decide +kernel
theorem dX6_isKnown_47 : decode cX6_isKnown 47 = .ok (.aload_n 0, 1) := by decide +kernel
theorem dX6_isKnown_48 : decode cX6_isKnown 48 = .ok (.getfield 124, 3) := by decide +kernel
theorem dX6_isKnown_51 : decode cX6_isKnown 51 = .ok (.if_icmp .ge 120, 3) := by decide +kernel
theorem dX6_isKnown_54 : decode cX6_isKnown 54 = .ok (.iload_n 3, 1) := by decide +kernel
theorem dX6_isKnown_55 : decode cX6_isKnown 55 = .ok (.ifCond .eq 116, 3) := by decide +kernel
theorem dX6_isKnown_58 : decode cX6_isKnown 58 = .ok (.iconst 0, 1) := by decide +kernel
theorem dX6_isKnown_59 : decode cX6_isKnown 59 = .ok (.istore 5, 2) := by decide +kernel
theorem dX6_isKnown_61 : decode cX6_isKnown 61 = .ok (.iconst 0, 1) := by decide +kernel
theorem dX6_isKnown_62 : decode cX6_isKnown 62 = .ok (.istore 6, 2) := by decide +kernel
theorem dX6_isKnown_64 : decode cX6_isKnown 64 = .ok (.iload 6, 2) := by decide +kernel
theorem dX6_isKnown_66 : decode cX6_isKnown 66 = .ok (.bipush 7, 2) := by decide +kernel
theorem dX6_isKnown_68 : decode cX6_isKnown 68 = .ok (.if_icmp .ge 45, 3) := by decide +kernel
theorem dX6_isKnown_71 : decode cX6_isKnown 71 = .ok (.iload_n 1, 1) := by decide +kernel
theorem dX6_isKnown_72 : decode cX6_isKnown 72 = .ok (.iload 6, 2) := by decide +kernel
theorem dX6_isKnown_74 : decode cX6_isKnown 74 = .ok (.ishr, 1) := by decide +kernel
theorem dX6_isKnown_75 : decode cX6_isKnown 75 = .ok (.iconst 1, 1) := by decide +kernel
theorem dX6_isKnown_76 : decode cX6_isKnown 76 = .ok (.iand, 1) := by decide +kernel
theorem dX6_isKnown_77 : decode cX6_isKnown 77 = .ok (.iconst 1, 1) := by decide +kernel
theorem dX6_isKnown_78 : decode cX6_isKnown 78 = .ok (.if_icmp .ne 25, 3) := by decide +kernel
theorem dX6_isKnown_81 : decode cX6_isKnown 81 = .ok (.bipush 8, 2) := by decide +kernel
theorem dX6_isKnown_83 : decode cX6_isKnown 83 = .ok (.iload 5, 2) := by decide +kernel
theorem dX6_isKnown_85 : decode cX6_isKnown 85 = .ok (.imul, 1) := by decide +kernel
theorem dX6_isKnown_86 : decode cX6_isKnown 86 = .ok (.aload_n 0, 1) := by decide +kernel
theorem dX6_isKnown_87 : decode cX6_isKnown 87 = .ok (.getfield 32, 3) := by decide +kernel
theorem dX6_isKnown_90 : decode cX6_isKnown 90 = .ok (.iload 4, 2) := by decide +kernel
theorem dX6_isKnown_92 : decode cX6_isKnown 92 = .ok (.iaload, 1) := by decide +kernel
theorem dX6_isKnown_93 : decode cX6_isKnown 93 = .ok (.iload_n 2, 1) := by decide +kernel
theorem dX6_isKnown_94 : decode cX6_isKnown 94 = .ok (.iload 6, 2) := by decide +kernel
theorem dX6_isKnown_96 : decode cX6_isKnown 96 = .ok (.invokestatic 144, 3) := by decide +kernel
theorem dX6_isKnown_99 : decode cX6_isKnown 99 = .ok (.iadd, 1) := by decide +kernel
theorem dX6_isKnown_100 : decode cX6_isKnown 100 = .ok (.goto 5, 3) := by decide +kernel
theorem dX6_isKnown_103 : decode cX6_isKnown 103 = .ok (.iload 5, 2) := by decide +kernel
theorem dX6_isKnown_105 : decode cX6_isKnown 105 = .ok (.istore 5, 2) := by decide +kernel
theorem dX6_isKnown_107 : decode cX6_isKnown 107 = .ok (.iinc 6 1, 3) := by decide +kernel
theorem dX6_isKnown_110 : decode cX6_isKnown 110 = .ok (.goto (-46), 3) := by decide +kernel
theorem dX6_isKnown_113 : decode cX6_isKnown 113 = .ok (.aload_n 0, 1) := by decide +kernel
theorem dX6_isKnown_114 : decode cX6_isKnown 114 = .ok (.getfield 32, 3) := by decide +kernel
theorem dX6_isKnown_117 : decode cX6_isKnown 117 = .ok (.iload 4, 2) := by decide +kernel
theorem dX6_isKnown_119 : decode cX6_isKnown 119 = .ok (.iaload, 1) := by decide +kernel
theorem dX6_isKnown_120 : decode cX6_isKnown 120 = .ok (.iconst 0, 1) := by decide +kernel
theorem dX6_isKnown_121 : decode cX6_isKnown 121 = .ok (.invokestatic 134, 3) := by decide +kernel
theorem dX6_isKnown_124 : decode cX6_isKnown 124 = .ok (.istore 6, 2) := by decide +kernel
theorem dX6_isKnown_126 : decode cX6_isKnown 126 = .ok (.aload_n 0, 1) := by decide +kernel
theorem dX6_isKnown_127 : decode cX6_isKnown 127 = .ok (.getfield 42, 3) := by decide +kernel
theorem dX6_isKnown_130 : decode cX6_isKnown 130 = .ok (.iload 5, 2) := by decide +kernel
theorem dX6_isKnown_132 : decode cX6_isKnown 132 = .ok (.iaload, 1) := by decide +kernel
theorem dX6_isKnown_133 : decode cX6_isKnown 133 = .ok (.bipush 8, 2) := by decide +kernel
theorem dX6_isKnown_135 : decode cX6_isKnown 135 = .ok (.if_icmp .eq 15, 3) := by decide +kernel
theorem dX6_isKnown_138 : decode cX6_isKnown 138 = .ok (.aload_n 0, 1) := by decide +kernel
theorem dX6_isKnown_139 : decode cX6_isKnown 139 = .ok (.getfield 42, 3) := by decide +kernel
theorem dX6_isKnown_142 : decode cX6_isKnown 142 = .ok (.iload 5, 2) := by decide +kernel
theorem dX6_isKnown_144 : decode cX6_isKnown 144 = .ok (.iaload, 1) := by decide +kernel
theorem dX6_isKnown_145 : decode cX6_isKnown 145 = .ok (.iload 6, 2) := by decide +kernel
theorem dX6_isKnown_147 : decode cX6_isKnown 147 = .ok (.if_icmp .ne 7, 3) := by decide +kernel
theorem dX6_isKnown_150 : decode cX6_isKnown 150 = .ok (.iconst 1, 1) := by decide +kernel
theorem dX6_isKnown_151 : decode cX6_isKnown 151 = .ok (.goto 4, 3) := by decide +kernel
theorem dX6_isKnown_154 : decode cX6_isKnown 154 = .ok (.iconst 0, 1) := by decide +kernel
theorem dX6_isKnown_155 : decode cX6_isKnown 155 = .ok (.istore_n 3, 1) := by decide +kernel
theorem dX6_isKnown_156 : decode cX6_isKnown 156 = .ok (.aload_n 0, 1) := by decide +kernel
theorem dX6_isKnown_157 : decode cX6_isKnown 157 = .ok (.getfield 42, 3) := by decide +kernel
theorem dX6_isKnown_160 : decode cX6_isKnown 160 = .ok (.iload 5, 2) := by decide +kernel
theorem dX6_isKnown_162 : decode cX6_isKnown 162 = .ok (.iload 6, 2) := by decide +kernel
theorem dX6_isKnown_164 : decode cX6_isKnown 164 = .ok (.iastore, 1) := by decide +kernel
theorem dX6_isKnown_165 : decode cX6_isKnown 165 = .ok (.iinc 4 1, 3) := by decide +kernel
theorem dX6_isKnown_168 : decode cX6_isKnown 168 = .ok (.goto (-123), 3) := by decide +kernel
theorem dX6_isKnown_171 : decode cX6_isKnown 171 = .ok (.iload_n 3, 1) := by decide +kernel
theorem dX6_isKnown_172 : decode cX6_isKnown 172 = .ok (.ireturn, 1) := by decide +kernel
theorem dX6_ask_0 : decode cX6_ask 0 = .ok (.aload_n 0, 1) := by decide +kernel
theorem dX6_ask_1 : decode cX6_ask 1 = .ok (.invokevirtual 114, 3) := by decide +kernel
theorem dX6_ask_4 : decode cX6_ask 4 = .ok (.istore_n 1, 1) := by decide +kernel
theorem dX6_ask_5 : decode cX6_ask 5 = .ok (.iload_n 1, 1) := by decide +kernel
theorem dX6_ask_6 : decode cX6_ask 6 = .ok (.invokestatic 95, 3) := by decide +kernel
theorem dX6_ask_9 : decode cX6_ask 9 = .ok (.istore_n 2, 1) := by decide +kernel
theorem dX6_ask_10 : decode cX6_ask 10 = .ok (.aload_n 0, 1) := by decide +kernel
theorem dX6_ask_11 : decode cX6_ask 11 = .ok (.iload_n 1, 1) := by decide +kernel
theorem dX6_ask_12 : decode cX6_ask 12 = .ok (.invokevirtual 130, 3) := by decide +kernel
theorem dX6_ask_15 : decode cX6_ask 15 = .ok (.aload_n 0, 1) := by decide +kernel
theorem dX6_ask_16 : decode cX6_ask 16 = .ok (.getfield 124, 3) := by decide +kernel
theorem dX6_ask_19 : decode cX6_ask 19 = .ok (.ifCond .ne 6, 3) := by decide +kernel
theorem dX6_ask_22 : decode cX6_ask 22 = .ok (.bipush (-9), 2) := by decide +kernel
theorem dX6_ask_24 : decode cX6_ask 24 = .ok (.ireturn, 1) := by decide +kernel
theorem dX6_ask_25 : decode cX6_ask 25 = .ok (.iload_n 1, 1) := by decide +kernel
theorem dX6_ask_26 : decode cX6_ask 26 = .ok (.istore_n 3, 1) := by decide +kernel
theorem dX6_ask_27 : decode cX6_ask 27 = .ok (.iload_n 1, 1) := by decide +kernel
theorem dX6_ask_28 : decode cX6_ask 28 = .ok (.istore 4, 2) := by decide +kernel
theorem dX6_ask_30 : decode cX6_ask 30 = .ok (.iload 4, 2) := by decide +kernel
theorem dX6_ask_32 : decode cX6_ask 32 = .ok (.ifCond .lt 59, 3) := by decide +kernel
theorem dX6_ask_35 : decode cX6_ask 35 = .ok (.iload 4, 2) := by decide +kernel
theorem dX6_ask_37 : decode cX6_ask 37 = .ok (.iload_n 1, 1) := by decide +kernel
theorem dX6_ask_38 : decode cX6_ask 38 = .ok (.iconst (-1), 1) := by decide +kernel
theorem dX6_ask_39 : decode cX6_ask 39 = .ok (.ixor, 1) := by decide +kernel
theorem dX6_ask_40 : decode cX6_ask 40 = .ok (.iand, 1) := by decide +kernel
theorem dX6_ask_41 : decode cX6_ask 41 = .ok (.ifCond .ne 29, 3) := by decide +kernel
theorem dX6_ask_44 : decode cX6_ask 44 = .ok (.iload 4, 2) := by decide +kernel
theorem dX6_ask_46 : decode cX6_ask 46 = .ok (.invokestatic 95, 3) := by decide +kernel
theorem dX6_ask_49 : decode cX6_ask 49 = .ok (.iload_n 3, 1) := by decide +kernel
theorem dX6_ask_50 : decode cX6_ask 50 = .ok (.invokestatic 95, 3) := by decide +kernel
theorem dX6_ask_53 : decode cX6_ask 53 = .ok (.if_icmp .gt 17, 3) := by decide +kernel
theorem dX6_ask_56 : decode cX6_ask 56 = .ok (.aload_n 0, 1) := by decide +kernel
theorem dX6_ask_57 : decode cX6_ask 57 = .ok (.iload 4, 2) := by decide +kernel
theorem dX6_ask_59 : decode cX6_ask 59 = .ok (.iload_n 2, 1) := by decide +kernel
theorem dX6_ask_60 : decode cX6_ask 60 = .ok (.invokevirtual 154, 3) := by decide +kernel
theorem dX6_ask_63 : decode cX6_ask 63 = .ok (.ifCond .eq 7, 3) := by decide +kernel
theorem dX6_ask_66 : decode cX6_ask 66 = .ok (.iconst 1, 1) := by decide +kernel
theorem dX6_ask_67 : decode cX6_ask 67 = .ok (.goto 4, 3) := by decide +kernel
theorem dX6_ask_70 : decode cX6_ask 70 = .ok (.iconst 0, 1) := by decide +kernel
theorem dX6_ask_71 : decode cX6_ask 71 = .ok (.istore 5, 2) := by decide +kernel
theorem dX6_ask_73 : decode cX6_ask 73 = .ok (.iload 5, 2) := by decide +kernel
theorem dX6_ask_75 : decode cX6_ask 75 = .ok (.ifCond .eq 8, 3) := by decide +kernel
theorem dX6_ask_78 : decode cX6_ask 78 = .ok (.iload 4, 2) := by decide +kernel
theorem dX6_ask_80 : decode cX6_ask 80 = .ok (.goto 4, 3) := by decide +kernel
theorem dX6_ask_83 : decode cX6_ask 83 = .ok (.iload_n 3, 1) := by decide +kernel
theorem dX6_ask_84 : decode cX6_ask 84 = .ok (.istore_n 3, 1) := by decide +kernel
theorem dX6_ask_85 : decode cX6_ask 85 = .ok (.iinc 4 (-1), 3) := by decide +kernel
theorem dX6_ask_88 : decode cX6_ask 88 = .ok (.goto (-58), 3) := by decide +kernel
theorem dX6_ask_91 : decode cX6_ask 91 = .ok (.iload_n 3, 1) := by decide +kernel
theorem dX6_ask_92 : decode cX6_ask 92 = .ok (.ireturn, 1) := by decide +kernel
theorem dX6_hang_0 : decode cX6_hang 0 = .ok (.aload_n 0, 1) := by decide +kernel
theorem dX6_hang_1 : decode cX6_hang 1 = .ok (.aload_n 0, 1) := by decide +kernel
theorem dX6_hang_2 : decode cX6_hang 2 = .ok (.invokevirtual 114, 3) := by decide +kernel
theorem dX6_hang_5 : decode cX6_hang 5 = .ok (.invokevirtual 130, 3) := by decide +kernel
theorem dX6_hang_8 : decode cX6_hang 8 = .ok (.bipush (-9), 2) := by decide +kernel
theorem dX6_hang_10 : decode cX6_hang 10 = .ok (.istore_n 1, 1) := by decide +kernel
theorem dX6_hang_11 : decode cX6_hang 11 = .ok (.iconst 0, 1) := by decide +kernel
theorem dX6_hang_12 : decode cX6_hang 12 = .ok (.istore_n 2, 1) := by decide +kernel
theorem dX6_hang_13 : decode cX6_hang 13 = .ok (.iconst 0, 1) := by decide +kernel
theorem dX6_hang_14 : decode cX6_hang 14 = .ok (.istore_n 3, 1) := by decide +kernel
theorem dX6_hang_15 : decode cX6_hang 15 = .ok (.iload_n 3, 1) := by decide +kernel
theorem dX6_hang_16 : decode cX6_hang 16 = .ok (.aload_n 0, 1) := by decide +kernel
theorem dX6_hang_17 : decode cX6_hang 17 = .ok (.getfield 13, 3) := by decide +kernel
theorem dX6_hang_20 : decode cX6_hang 20 = .ok (.iconst 0, 1) := by decide +kernel
theorem dX6_hang_21 : decode cX6_hang 21 = .ok (.iaload, 1) := by decide +kernel
theorem dX6_hang_22 : decode cX6_hang 22 = .ok (.if_icmp .ge 53, 3) := by decide +kernel
theorem dX6_hang_25 : decode cX6_hang 25 = .ok (.aload_n 0, 1) := by decide +kernel
theorem dX6_hang_26 : decode cX6_hang 26 = .ok (.iload_n 3, 1) := by decide +kernel
theorem dX6_hang_27 : decode cX6_hang 27 = .ok (.invokevirtual 141, 3) := by decide +kernel
theorem dX6_hang_30 : decode cX6_hang 30 = .ok (.ifCond .eq 11, 3) := by decide +kernel
theorem dX6_hang_33 : decode cX6_hang 33 = .ok (.aload_n 0, 1) := by decide +kernel
theorem dX6_hang_34 : decode cX6_hang 34 = .ok (.iload_n 3, 1) := by decide +kernel
theorem dX6_hang_35 : decode cX6_hang 35 = .ok (.invokevirtual 148, 3) := by decide +kernel
theorem dX6_hang_38 : decode cX6_hang 38 = .ok (.goto 4, 3) := by decide +kernel
theorem dX6_hang_41 : decode cX6_hang 41 = .ok (.iconst 0, 1) := by decide +kernel
theorem dX6_hang_42 : decode cX6_hang 42 = .ok (.istore 4, 2) := by decide +kernel
theorem dX6_hang_44 : decode cX6_hang 44 = .ok (.iload 4, 2) := by decide +kernel
theorem dX6_hang_46 : decode cX6_hang 46 = .ok (.iload_n 2, 1) := by decide +kernel
theorem dX6_hang_47 : decode cX6_hang 47 = .ok (.if_icmp .le 7, 3) := by decide +kernel
theorem dX6_hang_50 : decode cX6_hang 50 = .ok (.iload_n 3, 1) := by decide +kernel
theorem dX6_hang_51 : decode cX6_hang 51 = .ok (.goto 4, 3) := by decide +kernel
theorem dX6_hang_54 : decode cX6_hang 54 = .ok (.iload_n 1, 1) := by decide +kernel
theorem dX6_hang_55 : decode cX6_hang 55 = .ok (.istore_n 1, 1) := by decide +kernel
theorem dX6_hang_56 : decode cX6_hang 56 = .ok (.iload 4, 2) := by decide +kernel
theorem dX6_hang_58 : decode cX6_hang 58 = .ok (.iload_n 2, 1) := by decide +kernel
theorem dX6_hang_59 : decode cX6_hang 59 = .ok (.if_icmp .le 8, 3) := by decide +kernel
theorem dX6_hang_62 : decode cX6_hang 62 = .ok (.iload 4, 2) := by decide +kernel
theorem dX6_hang_64 : decode cX6_hang 64 = .ok (.goto 4, 3) := by decide +kernel
theorem dX6_hang_67 : decode cX6_hang 67 = .ok (.iload_n 2, 1) := by decide +kernel
theorem dX6_hang_68 : decode cX6_hang 68 = .ok (.istore_n 2, 1) := by decide +kernel
theorem dX6_hang_69 : decode cX6_hang 69 = .ok (.iinc 3 1, 3) := by decide +kernel
theorem dX6_hang_72 : decode cX6_hang 72 = .ok (.goto (-57), 3) := by decide +kernel
theorem dX6_hang_75 : decode cX6_hang 75 = .ok (.iload_n 1, 1) := by decide +kernel
theorem dX6_hang_76 : decode cX6_hang 76 = .ok (.ireturn, 1) := by decide +kernel
theorem dX6_shift_0 : decode cX6_shift 0 = .ok (.iload_n 1, 1) := by decide +kernel
theorem dX6_shift_1 : decode cX6_shift 1 = .ok (.iconst 0, 1) := by decide +kernel
theorem dX6_shift_2 : decode cX6_shift 2 = .ok (.iconst 1, 1) := by decide +kernel
theorem dX6_shift_3 : decode cX6_shift 3 = .ok (.invokestatic 52, 3) := by decide +kernel
theorem dX6_shift_6 : decode cX6_shift 6 = .ok (.ifCond .ne 5, 3) := by decide +kernel
theorem dX6_shift_9 : decode cX6_shift 9 = .ok (.iconst (-1), 1) := by decide +kernel
theorem dX6_shift_10 : decode cX6_shift 10 = .ok (.ireturn, 1) := by decide +kernel
theorem dX6_shift_11 : decode cX6_shift 11 = .ok (.bipush (-9), 2) := by decide +kernel
theorem dX6_shift_13 : decode cX6_shift 13 = .ok (.istore_n 2, 1) := by decide +kernel
theorem dX6_shift_14 : decode cX6_shift 14 = .ok (.bipush (-9), 2) := by decide +kernel
theorem dX6_shift_16 : decode cX6_shift 16 = .ok (.istore_n 3, 1) := by decide +kernel
theorem dX6_shift_17 : decode cX6_shift 17 = .ok (.iconst 0, 1) := by decide +kernel
theorem dX6_shift_18 : decode cX6_shift 18 = .ok (.istore 4, 2) := by decide +kernel
theorem dX6_shift_20 : decode cX6_shift 20 = .ok (.iload 4, 2) := by decide +kernel
theorem dX6_shift_22 : decode cX6_shift 22 = .ok (.aload_n 0, 1) := by decide +kernel
theorem dX6_shift_23 : decode cX6_shift 23 = .ok (.getfield 13, 3) := by decide +kernel
theorem dX6_shift_26 : decode cX6_shift 26 = .ok (.iconst 2, 1) := by decide +kernel
theorem dX6_shift_27 : decode cX6_shift 27 = .ok (.iaload, 1) := by decide +kernel
theorem dX6_shift_28 : decode cX6_shift 28 = .ok (.if_icmp .ge 84, 3) := by decide +kernel
theorem dX6_shift_31 : decode cX6_shift 31 = .ok (.aload_n 0, 1) := by decide +kernel
theorem dX6_shift_32 : decode cX6_shift 32 = .ok (.getfield 19, 3) := by decide +kernel
theorem dX6_shift_35 : decode cX6_shift 35 = .ok (.iconst 2, 1) := by decide +kernel
theorem dX6_shift_36 : decode cX6_shift 36 = .ok (.iload 4, 2) := by decide +kernel
theorem dX6_shift_38 : decode cX6_shift 38 = .ok (.iadd, 1) := by decide +kernel
theorem dX6_shift_39 : decode cX6_shift 39 = .ok (.iaload, 1) := by decide +kernel
theorem dX6_shift_40 : decode cX6_shift 40 = .ok (.ifCond .lt 66, 3) := by decide +kernel
theorem dX6_shift_43 : decode cX6_shift 43 = .ok (.aload_n 0, 1) := by decide +kernel
theorem dX6_shift_44 : decode cX6_shift 44 = .ok (.invokevirtual 114, 3) := by decide +kernel
theorem dX6_shift_47 : decode cX6_shift 47 = .ok (.iconst 1, 1) := by decide +kernel
theorem dX6_shift_48 : decode cX6_shift 48 = .ok (.aload_n 0, 1) := by decide +kernel
theorem dX6_shift_49 : decode cX6_shift 49 = .ok (.getfield 19, 3) := by decide +kernel
theorem dX6_shift_52 : decode cX6_shift 52 = .ok (.iconst 2, 1) := by decide +kernel
theorem dX6_shift_53 : decode cX6_shift 53 = .ok (.iload 4, 2) := by decide +kernel
theorem dX6_shift_55 : decode cX6_shift 55 = .ok (.iadd, 1) := by decide +kernel
theorem dX6_shift_56 : decode cX6_shift 56 = .ok (.iaload, 1) := by decide +kernel
theorem dX6_shift_57 : decode cX6_shift 57 = .ok (.ishl, 1) := by decide +kernel
theorem dX6_shift_58 : decode cX6_shift 58 = .ok (.iconst (-1), 1) := by decide +kernel
theorem dX6_shift_59 : decode cX6_shift 59 = .ok (.ixor, 1) := by decide +kernel
theorem dX6_shift_60 : decode cX6_shift 60 = .ok (.iand, 1) := by decide +kernel
theorem dX6_shift_61 : decode cX6_shift 61 = .ok (.istore 5, 2) := by decide +kernel
theorem dX6_shift_63 : decode cX6_shift 63 = .ok (.aload_n 0, 1) := by decide +kernel
theorem dX6_shift_64 : decode cX6_shift 64 = .ok (.iload 5, 2) := by decide +kernel
theorem dX6_shift_66 : decode cX6_shift 66 = .ok (.invokevirtual 130, 3) := by decide +kernel
theorem dX6_shift_69 : decode cX6_shift 69 = .ok (.aload_n 0, 1) := by decide +kernel
theorem dX6_shift_70 : decode cX6_shift 70 = .ok (.iload 5, 2) := by decide +kernel
theorem dX6_shift_72 : decode cX6_shift 72 = .ok (.invokevirtual 138, 3) := by decide +kernel
theorem dX6_shift_75 : decode cX6_shift 75 = .ok (.invokestatic 95, 3) := by decide +kernel
theorem dX6_shift_78 : decode cX6_shift 78 = .ok (.istore 6, 2) := by decide +kernel
theorem dX6_shift_80 : decode cX6_shift 80 = .ok (.iload 6, 2) := by decide +kernel
theorem dX6_shift_82 : decode cX6_shift 82 = .ok (.iload_n 3, 1) := by decide +kernel
theorem dX6_shift_83 : decode cX6_shift 83 = .ok (.if_icmp .le 8, 3) := by decide +kernel
theorem dX6_shift_86 : decode cX6_shift 86 = .ok (.iload 4, 2) := by decide +kernel
theorem dX6_shift_88 : decode cX6_shift 88 = .ok (.goto 4, 3) := by decide +kernel
theorem dX6_shift_91 : decode cX6_shift 91 = .ok (.iload_n 2, 1) := by decide +kernel
theorem dX6_shift_92 : decode cX6_shift 92 = .ok (.istore_n 2, 1) := by decide +kernel
theorem dX6_shift_93 : decode cX6_shift 93 = .ok (.iload 6, 2) := by decide +kernel
theorem dX6_shift_95 : decode cX6_shift 95 = .ok (.iload_n 3, 1) := by decide +kernel
theorem dX6_shift_96 : decode cX6_shift 96 = .ok (.if_icmp .le 8, 3) := by decide +kernel
theorem dX6_shift_99 : decode cX6_shift 99 = .ok (.iload 6, 2) := by decide +kernel
theorem dX6_shift_101 : decode cX6_shift 101 = .ok (.goto 4, 3) := by decide +kernel
theorem dX6_shift_104 : decode cX6_shift 104 = .ok (.iload_n 3, 1) := by decide +kernel
theorem dX6_shift_105 : decode cX6_shift 105 = .ok (.istore_n 3, 1) := by decide +kernel
theorem dX6_shift_106 : decode cX6_shift 106 = .ok (.iinc 4 1, 3) := by decide +kernel
theorem dX6_shift_109 : decode cX6_shift 109 = .ok (.goto (-89), 3) := by decide +kernel
theorem dX6_shift_112 : decode cX6_shift 112 = .ok (.iload_n 1, 1) := by decide +kernel
theorem dX6_shift_113 : decode cX6_shift 113 = .ok (.ifCond .ne 7, 3) := by decide +kernel
theorem dX6_shift_116 : decode cX6_shift 116 = .ok (.iload_n 2, 1) := by decide +kernel
theorem dX6_shift_117 : decode cX6_shift 117 = .ok (.goto 4, 3) := by decide +kernel
theorem dX6_shift_120 : decode cX6_shift 120 = .ok (.iload_n 3, 1) := by decide +kernel
theorem dX6_shift_121 : decode cX6_shift 121 = .ok (.ireturn, 1) := by decide +kernel
theorem dX6_odds_0 : decode cX6_odds 0 = .ok (.iload_n 1, 1) := by decide +kernel
theorem dX6_odds_1 : decode cX6_odds 1 = .ok (.iconst 0, 1) := by decide +kernel
theorem dX6_odds_2 : decode cX6_odds 2 = .ok (.bipush 10, 2) := by decide +kernel
theorem dX6_odds_4 : decode cX6_odds 4 = .ok (.invokestatic 52, 3) := by decide +kernel
theorem dX6_odds_7 : decode cX6_odds 7 = .ok (.ifCond .eq 22, 3) := by decide +kernel
theorem dX6_odds_10 : decode cX6_odds 10 = .ok (.iload_n 2, 1) := by decide +kernel
theorem dX6_odds_11 : decode cX6_odds 11 = .ok (.iconst 0, 1) := by decide +kernel
theorem dX6_odds_12 : decode cX6_odds 12 = .ok (.bipush 7, 2) := by decide +kernel
theorem dX6_odds_14 : decode cX6_odds 14 = .ok (.invokestatic 52, 3) := by decide +kernel
theorem dX6_odds_17 : decode cX6_odds 17 = .ok (.ifCond .eq 12, 3) := by decide +kernel
theorem dX6_odds_20 : decode cX6_odds 20 = .ok (.iload_n 3, 1) := by decide +kernel
theorem dX6_odds_21 : decode cX6_odds 21 = .ok (.iconst 0, 1) := by decide +kernel
theorem dX6_odds_22 : decode cX6_odds 22 = .ok (.iconst 1, 1) := by decide +kernel
theorem dX6_odds_23 : decode cX6_odds 23 = .ok (.invokestatic 52, 3) := by decide +kernel
theorem dX6_odds_26 : decode cX6_odds 26 = .ok (.ifCond .ne 5, 3) := by decide +kernel
theorem dX6_odds_29 : decode cX6_odds 29 = .ok (.iconst (-1), 1) := by decide +kernel
theorem dX6_odds_30 : decode cX6_odds 30 = .ok (.ireturn, 1) := by decide +kernel
theorem dX6_odds_31 : decode cX6_odds 31 = .ok (.aload_n 0, 1) := by decide +kernel
theorem dX6_odds_32 : decode cX6_odds 32 = .ok (.getfield 13, 3) := by decide +kernel
theorem dX6_odds_35 : decode cX6_odds 35 = .ok (.iconst 0, 1) := by decide +kernel
theorem dX6_odds_36 : decode cX6_odds 36 = .ok (.iaload, 1) := by decide +kernel
theorem dX6_odds_37 : decode cX6_odds 37 = .ok (.aload_n 0, 1) := by decide +kernel
theorem dX6_odds_38 : decode cX6_odds 38 = .ok (.getfield 19, 3) := by decide +kernel
theorem dX6_odds_41 : decode cX6_odds 41 = .ok (.iconst 1, 1) := by decide +kernel
theorem dX6_odds_42 : decode cX6_odds 42 = .ok (.iaload, 1) := by decide +kernel
theorem dX6_odds_43 : decode cX6_odds 43 = .ok (.invokestatic 95, 3) := by decide +kernel
theorem dX6_odds_46 : decode cX6_odds 46 = .ok (.isub, 1) := by decide +kernel
theorem dX6_odds_47 : decode cX6_odds 47 = .ok (.istore 4, 2) := by decide +kernel
theorem dX6_odds_49 : decode cX6_odds 49 = .ok (.iconst 0, 1) := by decide +kernel
theorem dX6_odds_50 : decode cX6_odds 50 = .ok (.istore 5, 2) := by decide +kernel
theorem dX6_odds_52 : decode cX6_odds 52 = .ok (.iconst 1, 1) := by decide +kernel
theorem dX6_odds_53 : decode cX6_odds 53 = .ok (.istore 6, 2) := by decide +kernel
theorem dX6_odds_55 : decode cX6_odds 55 = .ok (.iconst 0, 1) := by decide +kernel
theorem dX6_odds_56 : decode cX6_odds 56 = .ok (.istore 7, 2) := by decide +kernel
theorem dX6_odds_58 : decode cX6_odds 58 = .ok (.iload 7, 2) := by decide +kernel
theorem dX6_odds_60 : decode cX6_odds 60 = .ok (.iload 4, 2) := by decide +kernel
theorem dX6_odds_62 : decode cX6_odds 62 = .ok (.if_icmp .ge 16, 3) := by decide +kernel
theorem dX6_odds_65 : decode cX6_odds 65 = .ok (.iload 6, 2) := by decide +kernel
theorem dX6_odds_67 : decode cX6_odds 67 = .ok (.bipush 10, 2) := by decide +kernel
theorem dX6_odds_69 : decode cX6_odds 69 = .ok (.imul, 1) := by decide +kernel
theorem dX6_odds_70 : decode cX6_odds 70 = .ok (.istore 6, 2) := by decide +kernel
theorem dX6_odds_72 : decode cX6_odds 72 = .ok (.iinc 7 1, 3) := by decide +kernel
theorem dX6_odds_75 : decode cX6_odds 75 = .ok (.goto (-17), 3) := by decide +kernel
theorem dX6_odds_78 : decode cX6_odds 78 = .ok (.iconst 0, 1) := by decide +kernel
theorem dX6_odds_79 : decode cX6_odds 79 = .ok (.istore 7, 2) := by decide +kernel
theorem dX6_odds_81 : decode cX6_odds 81 = .ok (.iload 7, 2) := by decide +kernel
theorem dX6_odds_83 : decode cX6_odds 83 = .ok (.iconst 1, 1) := by decide +kernel
theorem dX6_odds_84 : decode cX6_odds 84 = .ok (.iload 4, 2) := by decide +kernel
theorem dX6_odds_86 : decode cX6_odds 86 = .ok (.ishl, 1) := by decide +kernel
theorem dX6_odds_87 : decode cX6_odds 87 = .ok (.if_icmp .ge 72, 3) := by decide +kernel
theorem dX6_odds_90 : decode cX6_odds 90 = .ok (.iconst 1, 1) := by decide +kernel
theorem dX6_odds_91 : decode cX6_odds 91 = .ok (.istore 8, 2) := by decide +kernel
theorem dX6_odds_93 : decode cX6_odds 93 = .ok (.iconst 0, 1) := by decide +kernel
theorem dX6_odds_94 : decode cX6_odds 94 = .ok (.istore 9, 2) := by decide +kernel
theorem dX6_odds_96 : decode cX6_odds 96 = .ok (.iload 9, 2) := by decide +kernel
theorem dX6_odds_98 : decode cX6_odds 98 = .ok (.iload 4, 2) := by decide +kernel
theorem dX6_odds_100 : decode cX6_odds 100 = .ok (.if_icmp .ge 33, 3) := by decide +kernel
theorem dX6_odds_103 : decode cX6_odds 103 = .ok (.iload 8, 2) := by decide +kernel
theorem dX6_odds_105 : decode cX6_odds 105 = .ok (.iload 7, 2) := by decide +kernel
theorem dX6_odds_107 : decode cX6_odds 107 = .ok (.iload 9, 2) := by decide +kernel
theorem dX6_odds_109 : decode cX6_odds 109 = .ok (.ishr, 1) := by decide +kernel
theorem dX6_odds_110 : decode cX6_odds 110 = .ok (.iconst 1, 1) := by decide +kernel
theorem dX6_odds_111 : decode cX6_odds 111 = .ok (.iand, 1) := by decide +kernel
theorem dX6_odds_112 : decode cX6_odds 112 = .ok (.iconst 1, 1) := by decide +kernel
theorem dX6_odds_113 : decode cX6_odds 113 = .ok (.if_icmp .ne 7, 3) := by decide +kernel
theorem dX6_odds_116 : decode cX6_odds 116 = .ok (.iload_n 1, 1) := by decide +kernel
theorem dX6_odds_117 : decode cX6_odds 117 = .ok (.goto 7, 3) := by decide +kernel
theorem dX6_odds_120 : decode cX6_odds 120 = .ok (.bipush 10, 2) := by decide +kernel
theorem dX6_odds_122 : decode cX6_odds 122 = .ok (.iload_n 1, 1) := by decide +kernel
theorem dX6_odds_123 : decode cX6_odds 123 = .ok (.isub, 1) := by decide +kernel
theorem dX6_odds_124 : decode cX6_odds 124 = .ok (.imul, 1) := by decide +kernel
theorem dX6_odds_125 : decode cX6_odds 125 = .ok (.istore 8, 2) := by decide +kernel
theorem dX6_odds_127 : decode cX6_odds 127 = .ok (.iinc 9 1, 3) := by decide +kernel
theorem dX6_odds_130 : decode cX6_odds 130 = .ok (.goto (-34), 3) := by decide +kernel
theorem dX6_odds_133 : decode cX6_odds 133 = .ok (.iload 5, 2) := by decide +kernel
theorem dX6_odds_135 : decode cX6_odds 135 = .ok (.iload 7, 2) := by decide +kernel
theorem dX6_odds_137 : decode cX6_odds 137 = .ok (.invokestatic 95, 3) := by decide +kernel
theorem dX6_odds_140 : decode cX6_odds 140 = .ok (.iload_n 2, 1) := by decide +kernel
theorem dX6_odds_141 : decode cX6_odds 141 = .ok (.if_icmp .gt 8, 3) := by decide +kernel
theorem dX6_odds_144 : decode cX6_odds 144 = .ok (.iload 8, 2) := by decide +kernel
theorem dX6_odds_146 : decode cX6_odds 146 = .ok (.goto 4, 3) := by decide +kernel
theorem dX6_odds_149 : decode cX6_odds 149 = .ok (.iconst 0, 1) := by decide +kernel
theorem dX6_odds_150 : decode cX6_odds 150 = .ok (.iadd, 1) := by decide +kernel
theorem dX6_odds_151 : decode cX6_odds 151 = .ok (.istore 5, 2) := by decide +kernel
theorem dX6_odds_153 : decode cX6_odds 153 = .ok (.iinc 7 1, 3) := by decide +kernel
theorem dX6_odds_156 : decode cX6_odds 156 = .ok (.goto (-75), 3) := by decide +kernel
theorem dX6_odds_159 : decode cX6_odds 159 = .ok (.iload 5, 2) := by decide +kernel
theorem dX6_odds_161 : decode cX6_odds 161 = .ok (.iload 6, 2) := by decide +kernel
theorem dX6_odds_163 : decode cX6_odds 163 = .ok (.invokestatic 151, 3) := by decide +kernel
theorem dX6_odds_166 : decode cX6_odds 166 = .ok (.istore 7, 2) := by decide +kernel
theorem dX6_odds_168 : decode cX6_odds 168 = .ok (.iload_n 3, 1) := by decide +kernel
theorem dX6_odds_169 : decode cX6_odds 169 = .ok (.ifCond .ne 11, 3) := by decide +kernel
theorem dX6_odds_172 : decode cX6_odds 172 = .ok (.iload 5, 2) := by decide +kernel
theorem dX6_odds_174 : decode cX6_odds 174 = .ok (.iload 7, 2) := by decide +kernel
theorem dX6_odds_176 : decode cX6_odds 176 = .ok (.idiv, 1) := by decide +kernel
theorem dX6_odds_177 : decode cX6_odds 177 = .ok (.goto 8, 3) := by decide +kernel
theorem dX6_odds_180 : decode cX6_odds 180 = .ok (.iload 6, 2) := by decide +kernel
theorem dX6_odds_182 : decode cX6_odds 182 = .ok (.iload 7, 2) := by decide +kernel
theorem dX6_odds_184 : decode cX6_odds 184 = .ok (.idiv, 1) := by decide +kernel
theorem dX6_odds_185 : decode cX6_odds 185 = .ok (.ireturn, 1) := by decide +kernel
theorem dX6_bold_0 : decode cX6_bold 0 = .ok (.iload_n 1, 1) := by decide +kernel
theorem dX6_bold_1 : decode cX6_bold 1 = .ok (.iconst 0, 1) := by decide +kernel
theorem dX6_bold_2 : decode cX6_bold 2 = .ok (.bipush 7, 2) := by decide +kernel
theorem dX6_bold_4 : decode cX6_bold 4 = .ok (.invokestatic 52, 3) := by decide +kernel
theorem dX6_bold_7 : decode cX6_bold 7 = .ok (.ifCond .ne 5, 3) := by decide +kernel
theorem dX6_bold_10 : decode cX6_bold 10 = .ok (.iconst (-1), 1) := by decide +kernel
theorem dX6_bold_11 : decode cX6_bold 11 = .ok (.ireturn, 1) := by decide +kernel
theorem dX6_bold_12 : decode cX6_bold 12 = .ok (.iconst 0, 1) := by decide +kernel
theorem dX6_bold_13 : decode cX6_bold 13 = .ok (.istore_n 2, 1) := by decide +kernel
theorem dX6_bold_14 : decode cX6_bold 14 = .ok (.iconst 0, 1) := by decide +kernel
theorem dX6_bold_15 : decode cX6_bold 15 = .ok (.istore_n 3, 1) := by decide +kernel
theorem dX6_bold_16 : decode cX6_bold 16 = .ok (.iload_n 3, 1) := by decide +kernel
theorem dX6_bold_17 : decode cX6_bold 17 = .ok (.aload_n 0, 1) := by decide +kernel
theorem dX6_bold_18 : decode cX6_bold 18 = .ok (.getfield 13, 3) := by decide +kernel
theorem dX6_bold_21 : decode cX6_bold 21 = .ok (.iconst 0, 1) := by decide +kernel
theorem dX6_bold_22 : decode cX6_bold 22 = .ok (.iaload, 1) := by decide +kernel
theorem dX6_bold_23 : decode cX6_bold 23 = .ok (.if_icmp .ge 30, 3) := by decide +kernel
theorem dX6_bold_26 : decode cX6_bold 26 = .ok (.iload_n 2, 1) := by decide +kernel
theorem dX6_bold_27 : decode cX6_bold 27 = .ok (.aload_n 0, 1) := by decide +kernel
theorem dX6_bold_28 : decode cX6_bold 28 = .ok (.getfield 13, 3) := by decide +kernel
theorem dX6_bold_31 : decode cX6_bold 31 = .ok (.bipush 12, 2) := by decide +kernel
theorem dX6_bold_33 : decode cX6_bold 33 = .ok (.iload_n 3, 1) := by decide +kernel
theorem dX6_bold_34 : decode cX6_bold 34 = .ok (.iadd, 1) := by decide +kernel
theorem dX6_bold_35 : decode cX6_bold 35 = .ok (.iaload, 1) := by decide +kernel
theorem dX6_bold_36 : decode cX6_bold 36 = .ok (.iload_n 1, 1) := by decide +kernel
theorem dX6_bold_37 : decode cX6_bold 37 = .ok (.if_icmp .gt 7, 3) := by decide +kernel
theorem dX6_bold_40 : decode cX6_bold 40 = .ok (.iconst 1, 1) := by decide +kernel
theorem dX6_bold_41 : decode cX6_bold 41 = .ok (.goto 4, 3) := by decide +kernel
theorem dX6_bold_44 : decode cX6_bold 44 = .ok (.iconst 0, 1) := by decide +kernel
theorem dX6_bold_45 : decode cX6_bold 45 = .ok (.iadd, 1) := by decide +kernel
theorem dX6_bold_46 : decode cX6_bold 46 = .ok (.istore_n 2, 1) := by decide +kernel
theorem dX6_bold_47 : decode cX6_bold 47 = .ok (.iinc 3 1, 3) := by decide +kernel
theorem dX6_bold_50 : decode cX6_bold 50 = .ok (.goto (-34), 3) := by decide +kernel
theorem dX6_bold_53 : decode cX6_bold 53 = .ok (.iload_n 2, 1) := by decide +kernel
theorem dX6_bold_54 : decode cX6_bold 54 = .ok (.ireturn, 1) := by decide +kernel
theorem dX6_clique_0 : decode cX6_clique 0 = .ok (.iload_n 1, 1) := by decide +kernel
theorem dX6_clique_1 : decode cX6_clique 1 = .ok (.iconst 0, 1) := by decide +kernel
theorem dX6_clique_2 : decode cX6_clique 2 = .ok (.iconst 1, 1) := by decide +kernel
theorem dX6_clique_3 : decode cX6_clique 3 = .ok (.invokestatic 52, 3) := by decide +kernel
theorem dX6_clique_6 : decode cX6_clique 6 = .ok (.ifCond .ne 5, 3) := by decide +kernel
theorem dX6_clique_9 : decode cX6_clique 9 = .ok (.iconst (-1), 1) := by decide +kernel
theorem dX6_clique_10 : decode cX6_clique 10 = .ok (.ireturn, 1) := by decide +kernel
theorem dX6_clique_11 : decode cX6_clique 11 = .ok (.iconst 0, 1) := by decide +kernel
theorem dX6_clique_12 : decode cX6_clique 12 = .ok (.istore_n 2, 1) := by decide +kernel
theorem dX6_clique_13 : decode cX6_clique 13 = .ok (.iconst 0, 1) := by decide +kernel
theorem dX6_clique_14 : decode cX6_clique 14 = .ok (.istore_n 3, 1) := by decide +kernel
theorem dX6_clique_15 : decode cX6_clique 15 = .ok (.iload_n 3, 1) := by decide +kernel
theorem dX6_clique_16 : decode cX6_clique 16 = .ok (.iconst 1, 1) := by decide +kernel
theorem dX6_clique_17 : decode cX6_clique 17 = .ok (.aload_n 0, 1) := by decide +kernel
theorem dX6_clique_18 : decode cX6_clique 18 = .ok (.getfield 13, 3) := by decide +kernel
theorem dX6_clique_21 : decode cX6_clique 21 = .ok (.iconst 0, 1) := by decide +kernel
theorem dX6_clique_22 : decode cX6_clique 22 = .ok (.iaload, 1) := by decide +kernel
theorem dX6_clique_23 : decode cX6_clique 23 = .ok (.ishl, 1) := by decide +kernel
theorem dX6_clique_24 : decode cX6_clique 24 = .ok (.if_icmp .ge 100, 3) := by decide +kernel
theorem dX6_clique_27 : decode cX6_clique 27 = .ok (.iload_n 3, 1) := by decide +kernel
theorem dX6_clique_28 : decode cX6_clique 28 = .ok (.invokestatic 95, 3) := by decide +kernel
theorem dX6_clique_31 : decode cX6_clique 31 = .ok (.iload_n 2, 1) := by decide +kernel
theorem dX6_clique_32 : decode cX6_clique 32 = .ok (.invokestatic 95, 3) := by decide +kernel
theorem dX6_clique_35 : decode cX6_clique 35 = .ok (.if_icmp .le 7, 3) := by decide +kernel
theorem dX6_clique_38 : decode cX6_clique 38 = .ok (.iconst 1, 1) := by decide +kernel
theorem dX6_clique_39 : decode cX6_clique 39 = .ok (.goto 4, 3) := by decide +kernel
theorem dX6_clique_42 : decode cX6_clique 42 = .ok (.iconst 0, 1) := by decide +kernel
theorem dX6_clique_43 : decode cX6_clique 43 = .ok (.istore 4, 2) := by decide +kernel
theorem dX6_clique_45 : decode cX6_clique 45 = .ok (.iconst 0, 1) := by decide +kernel
theorem dX6_clique_46 : decode cX6_clique 46 = .ok (.istore 5, 2) := by decide +kernel
theorem dX6_clique_48 : decode cX6_clique 48 = .ok (.iload 5, 2) := by decide +kernel
theorem dX6_clique_50 : decode cX6_clique 50 = .ok (.aload_n 0, 1) := by decide +kernel
theorem dX6_clique_51 : decode cX6_clique 51 = .ok (.getfield 13, 3) := by decide +kernel
theorem dX6_clique_54 : decode cX6_clique 54 = .ok (.iconst 0, 1) := by decide +kernel
theorem dX6_clique_55 : decode cX6_clique 55 = .ok (.iaload, 1) := by decide +kernel
theorem dX6_clique_56 : decode cX6_clique 56 = .ok (.if_icmp .ge 51, 3) := by decide +kernel
theorem dX6_clique_59 : decode cX6_clique 59 = .ok (.iload 4, 2) := by decide +kernel
theorem dX6_clique_61 : decode cX6_clique 61 = .ok (.ifCond .eq 37, 3) := by decide +kernel
theorem dX6_clique_64 : decode cX6_clique 64 = .ok (.iload_n 3, 1) := by decide +kernel
theorem dX6_clique_65 : decode cX6_clique 65 = .ok (.iload 5, 2) := by decide +kernel
theorem dX6_clique_67 : decode cX6_clique 67 = .ok (.ishr, 1) := by decide +kernel
theorem dX6_clique_68 : decode cX6_clique 68 = .ok (.iconst 1, 1) := by decide +kernel
theorem dX6_clique_69 : decode cX6_clique 69 = .ok (.iand, 1) := by decide +kernel
theorem dX6_clique_70 : decode cX6_clique 70 = .ok (.ifCond .eq 24, 3) := by decide +kernel
theorem dX6_clique_73 : decode cX6_clique 73 = .ok (.iload_n 3, 1) := by decide +kernel
theorem dX6_clique_74 : decode cX6_clique 74 = .ok (.aload_n 0, 1) := by decide +kernel
theorem dX6_clique_75 : decode cX6_clique 75 = .ok (.getfield 13, 3) := by decide +kernel
theorem dX6_clique_78 : decode cX6_clique 78 = .ok (.bipush 19, 2) := by decide +kernel
theorem dX6_clique_80 : decode cX6_clique 80 = .ok (.iload 5, 2) := by decide +kernel
theorem dX6_clique_82 : decode cX6_clique 82 = .ok (.iadd, 1) := by decide +kernel
theorem dX6_clique_83 : decode cX6_clique 83 = .ok (.iaload, 1) := by decide +kernel
theorem dX6_clique_84 : decode cX6_clique 84 = .ok (.iconst (-1), 1) := by decide +kernel
theorem dX6_clique_85 : decode cX6_clique 85 = .ok (.ixor, 1) := by decide +kernel
theorem dX6_clique_86 : decode cX6_clique 86 = .ok (.iand, 1) := by decide +kernel
theorem dX6_clique_87 : decode cX6_clique 87 = .ok (.iconst 1, 1) := by decide +kernel
theorem dX6_clique_88 : decode cX6_clique 88 = .ok (.iload 5, 2) := by decide +kernel
theorem dX6_clique_90 : decode cX6_clique 90 = .ok (.ishl, 1) := by decide +kernel
theorem dX6_clique_91 : decode cX6_clique 91 = .ok (.if_icmp .ne 7, 3) := by decide +kernel
theorem dX6_clique_94 : decode cX6_clique 94 = .ok (.iconst 1, 1) := by decide +kernel
theorem dX6_clique_95 : decode cX6_clique 95 = .ok (.goto 4, 3) := by decide +kernel
theorem dX6_clique_98 : decode cX6_clique 98 = .ok (.iconst 0, 1) := by decide +kernel
theorem dX6_clique_99 : decode cX6_clique 99 = .ok (.istore 4, 2) := by decide +kernel
theorem dX6_clique_101 : decode cX6_clique 101 = .ok (.iinc 5 1, 3) := by decide +kernel
theorem dX6_clique_104 : decode cX6_clique 104 = .ok (.goto (-56), 3) := by decide +kernel
theorem dX6_clique_107 : decode cX6_clique 107 = .ok (.iload 4, 2) := by decide +kernel
theorem dX6_clique_109 : decode cX6_clique 109 = .ok (.ifCond .eq 7, 3) := by decide +kernel
theorem dX6_clique_112 : decode cX6_clique 112 = .ok (.iload_n 3, 1) := by decide +kernel
theorem dX6_clique_113 : decode cX6_clique 113 = .ok (.goto 4, 3) := by decide +kernel
theorem dX6_clique_116 : decode cX6_clique 116 = .ok (.iload_n 2, 1) := by decide +kernel
theorem dX6_clique_117 : decode cX6_clique 117 = .ok (.istore_n 2, 1) := by decide +kernel
theorem dX6_clique_118 : decode cX6_clique 118 = .ok (.iinc 3 1, 3) := by decide +kernel
theorem dX6_clique_121 : decode cX6_clique 121 = .ok (.goto (-106), 3) := by decide +kernel
theorem dX6_clique_124 : decode cX6_clique 124 = .ok (.iload_n 1, 1) := by decide +kernel
theorem dX6_clique_125 : decode cX6_clique 125 = .ok (.ifCond .ne 10, 3) := by decide +kernel
theorem dX6_clique_128 : decode cX6_clique 128 = .ok (.iload_n 2, 1) := by decide +kernel
theorem dX6_clique_129 : decode cX6_clique 129 = .ok (.invokestatic 95, 3) := by decide +kernel
theorem dX6_clique_132 : decode cX6_clique 132 = .ok (.goto 4, 3) := by decide +kernel
theorem dX6_clique_135 : decode cX6_clique 135 = .ok (.iload_n 2, 1) := by decide +kernel
theorem dX6_clique_136 : decode cX6_clique 136 = .ok (.ireturn, 1) := by decide +kernel
theorem dX6_rate_0 : decode cX6_rate 0 = .ok (.iload_n 1, 1) := by decide +kernel
theorem dX6_rate_1 : decode cX6_rate 1 = .ok (.iconst 0, 1) := by decide +kernel
theorem dX6_rate_2 : decode cX6_rate 2 = .ok (.iconst 5, 1) := by decide +kernel
theorem dX6_rate_3 : decode cX6_rate 3 = .ok (.invokestatic 52, 3) := by decide +kernel
theorem dX6_rate_6 : decode cX6_rate 6 = .ok (.ifCond .eq 11, 3) := by decide +kernel
theorem dX6_rate_9 : decode cX6_rate 9 = .ok (.aload_n 0, 1) := by decide +kernel
theorem dX6_rate_10 : decode cX6_rate 10 = .ok (.iload_n 2, 1) := by decide +kernel
theorem dX6_rate_11 : decode cX6_rate 11 = .ok (.invokevirtual 102, 3) := by decide +kernel
theorem dX6_rate_14 : decode cX6_rate 14 = .ok (.ifCond .ne 6, 3) := by decide +kernel
theorem dX6_rate_17 : decode cX6_rate 17 = .ok (.ldc 157, 2) := by decide +kernel
theorem dX6_rate_19 : decode cX6_rate 19 = .ok (.ireturn, 1) := by decide +kernel
theorem dX6_rate_20 : decode cX6_rate 20 = .ok (.aload_n 0, 1) := by decide +kernel
theorem dX6_rate_21 : decode cX6_rate 21 = .ok (.dup, 1) := by decide +kernel
theorem dX6_rate_22 : decode cX6_rate 22 = .ok (.getfield 158, 3) := by decide +kernel
theorem dX6_rate_25 : decode cX6_rate 25 = .ok (.iload_n 1, 1) := by decide +kernel
theorem dX6_rate_26 : decode cX6_rate 26 = .ok (.ifCond .ne 7, 3) := by decide +kernel
theorem dX6_rate_29 : decode cX6_rate 29 = .ok (.lconst 1, 1) := by decide +kernel
theorem dX6_rate_30 : decode cX6_rate 30 = .ok (.goto 50, 3) := by decide +kernel
theorem dX6_rate_33 : decode cX6_rate 33 = .ok (.iload_n 1, 1) := by decide +kernel
theorem dX6_rate_34 : decode cX6_rate 34 = .ok (.iconst 1, 1) := by decide +kernel
theorem dX6_rate_35 : decode cX6_rate 35 = .ok (.if_icmp .ne 9, 3) := by decide +kernel
theorem dX6_rate_38 : decode cX6_rate 38 = .ok (.ldc2_w 162, 3) := by decide +kernel
theorem dX6_rate_41 : decode cX6_rate 41 = .ok (.goto 39, 3) := by decide +kernel
theorem dX6_rate_44 : decode cX6_rate 44 = .ok (.iload_n 1, 1) := by decide +kernel
theorem dX6_rate_45 : decode cX6_rate 45 = .ok (.iconst 2, 1) := by decide +kernel
theorem dX6_rate_46 : decode cX6_rate 46 = .ok (.if_icmp .ne 9, 3) := by decide +kernel
theorem dX6_rate_49 : decode cX6_rate 49 = .ok (.ldc2_w 164, 3) := by decide +kernel
theorem dX6_rate_52 : decode cX6_rate 52 = .ok (.goto 28, 3) := by decide +kernel
theorem dX6_rate_55 : decode cX6_rate 55 = .ok (.iload_n 1, 1) := by decide +kernel
theorem dX6_rate_56 : decode cX6_rate 56 = .ok (.iconst 3, 1) := by decide +kernel
theorem dX6_rate_57 : decode cX6_rate 57 = .ok (.if_icmp .ne 9, 3) := by decide +kernel
theorem dX6_rate_60 : decode cX6_rate 60 = .ok (.ldc2_w 166, 3) := by decide +kernel
theorem dX6_rate_63 : decode cX6_rate 63 = .ok (.goto 17, 3) := by decide +kernel
theorem dX6_rate_66 : decode cX6_rate 66 = .ok (.iload_n 1, 1) := by decide +kernel
theorem dX6_rate_67 : decode cX6_rate 67 = .ok (.iconst 4, 1) := by decide +kernel
theorem dX6_rate_68 : decode cX6_rate 68 = .ok (.if_icmp .ne 9, 3) := by decide +kernel
theorem dX6_rate_71 : decode cX6_rate 71 = .ok (.ldc2_w 168, 3) := by decide +kernel
theorem dX6_rate_74 : decode cX6_rate 74 = .ok (.goto 6, 3) := by decide +kernel
theorem dX6_rate_77 : decode cX6_rate 77 = .ok (.ldc2_w 170, 3) := by decide +kernel
theorem dX6_rate_80 : decode cX6_rate 80 = .ok (.ladd, 1) := by decide +kernel
theorem dX6_rate_81 : decode cX6_rate 81 = .ok (.putfield 158, 3) := by decide +kernel
theorem dX6_rate_84 : decode cX6_rate 84 = .ok (.aload_n 0, 1) := by decide +kernel
theorem dX6_rate_85 : decode cX6_rate 85 = .ok (.getfield 13, 3) := by decide +kernel
theorem dX6_rate_88 : decode cX6_rate 88 = .ok (.bipush 12, 2) := by decide +kernel
theorem dX6_rate_90 : decode cX6_rate 90 = .ok (.iload_n 2, 1) := by decide +kernel
theorem dX6_rate_91 : decode cX6_rate 91 = .ok (.iadd, 1) := by decide +kernel
theorem dX6_rate_92 : decode cX6_rate 92 = .ok (.iaload, 1) := by decide +kernel
theorem dX6_rate_93 : decode cX6_rate 93 = .ok (.istore_n 3, 1) := by decide +kernel
theorem dX6_rate_94 : decode cX6_rate 94 = .ok (.iload_n 3, 1) := by decide +kernel
theorem dX6_rate_95 : decode cX6_rate 95 = .ok (.aload_n 0, 1) := by decide +kernel
theorem dX6_rate_96 : decode cX6_rate 96 = .ok (.iload_n 2, 1) := by decide +kernel
theorem dX6_rate_97 : decode cX6_rate 97 = .ok (.invokevirtual 127, 3) := by decide +kernel
theorem dX6_rate_100 : decode cX6_rate 100 = .ok (.iadd, 1) := by decide +kernel
theorem dX6_rate_101 : decode cX6_rate 101 = .ok (.istore 4, 2) := by decide +kernel
theorem dX6_rate_103 : decode cX6_rate 103 = .ok (.iload_n 3, 1) := by decide +kernel
theorem dX6_rate_104 : decode cX6_rate 104 = .ok (.aload_n 0, 1) := by decide +kernel
theorem dX6_rate_105 : decode cX6_rate 105 = .ok (.getfield 13, 3) := by decide +kernel
theorem dX6_rate_108 : decode cX6_rate 108 = .ok (.bipush 19, 2) := by decide +kernel
theorem dX6_rate_110 : decode cX6_rate 110 = .ok (.iload_n 2, 1) := by decide +kernel
theorem dX6_rate_111 : decode cX6_rate 111 = .ok (.iadd, 1) := by decide +kernel
theorem dX6_rate_112 : decode cX6_rate 112 = .ok (.iaload, 1) := by decide +kernel
theorem dX6_rate_113 : decode cX6_rate 113 = .ok (.invokestatic 95, 3) := by decide +kernel
theorem dX6_rate_116 : decode cX6_rate 116 = .ok (.isub, 1) := by decide +kernel
theorem dX6_rate_117 : decode cX6_rate 117 = .ok (.istore 5, 2) := by decide +kernel
theorem dX6_rate_119 : decode cX6_rate 119 = .ok (.iload_n 1, 1) := by decide +kernel
theorem dX6_rate_120 : decode cX6_rate 120 = .ok (.ifCond .ne 7, 3) := by decide +kernel
theorem dX6_rate_123 : decode cX6_rate 123 = .ok (.iload_n 3, 1) := by decide +kernel
theorem dX6_rate_124 : decode cX6_rate 124 = .ok (.goto 55, 3) := by decide +kernel
theorem dX6_rate_127 : decode cX6_rate 127 = .ok (.iload_n 1, 1) := by decide +kernel
theorem dX6_rate_128 : decode cX6_rate 128 = .ok (.iconst 1, 1) := by decide +kernel
theorem dX6_rate_129 : decode cX6_rate 129 = .ok (.if_icmp .ne 8, 3) := by decide +kernel
theorem dX6_rate_132 : decode cX6_rate 132 = .ok (.iload 4, 2) := by decide +kernel
theorem dX6_rate_134 : decode cX6_rate 134 = .ok (.goto 45, 3) := by decide +kernel
theorem dX6_rate_137 : decode cX6_rate 137 = .ok (.iload_n 1, 1) := by decide +kernel
theorem dX6_rate_138 : decode cX6_rate 138 = .ok (.iconst 2, 1) := by decide +kernel
theorem dX6_rate_139 : decode cX6_rate 139 = .ok (.if_icmp .ne 8, 3) := by decide +kernel
theorem dX6_rate_142 : decode cX6_rate 142 = .ok (.iload 5, 2) := by decide +kernel
theorem dX6_rate_144 : decode cX6_rate 144 = .ok (.goto 35, 3) := by decide +kernel
theorem dX6_rate_147 : decode cX6_rate 147 = .ok (.iload_n 1, 1) := by decide +kernel
theorem dX6_rate_148 : decode cX6_rate 148 = .ok (.iconst 3, 1) := by decide +kernel
theorem dX6_rate_149 : decode cX6_rate 149 = .ok (.if_icmp .ne 10, 3) := by decide +kernel
theorem dX6_rate_152 : decode cX6_rate 152 = .ok (.iconst 2, 1) := by decide +kernel
theorem dX6_rate_153 : decode cX6_rate 153 = .ok (.iload 4, 2) := by decide +kernel
theorem dX6_rate_155 : decode cX6_rate 155 = .ok (.imul, 1) := by decide +kernel
theorem dX6_rate_156 : decode cX6_rate 156 = .ok (.goto 23, 3) := by decide +kernel
theorem dX6_rate_159 : decode cX6_rate 159 = .ok (.iload_n 1, 1) := by decide +kernel
theorem dX6_rate_160 : decode cX6_rate 160 = .ok (.iconst 4, 1) := by decide +kernel
theorem dX6_rate_161 : decode cX6_rate 161 = .ok (.if_icmp .ne 10, 3) := by decide +kernel
theorem dX6_rate_164 : decode cX6_rate 164 = .ok (.iload 5, 2) := by decide +kernel
theorem dX6_rate_166 : decode cX6_rate 166 = .ok (.iload_n 2, 1) := by decide +kernel
theorem dX6_rate_167 : decode cX6_rate 167 = .ok (.iadd, 1) := by decide +kernel
theorem dX6_rate_168 : decode cX6_rate 168 = .ok (.goto 11, 3) := by decide +kernel
theorem dX6_rate_171 : decode cX6_rate 171 = .ok (.iload_n 3, 1) := by decide +kernel
theorem dX6_rate_172 : decode cX6_rate 172 = .ok (.aload_n 0, 1) := by decide +kernel
theorem dX6_rate_173 : decode cX6_rate 173 = .ok (.getfield 19, 3) := by decide +kernel
theorem dX6_rate_176 : decode cX6_rate 176 = .ok (.iconst 0, 1) := by decide +kernel
theorem dX6_rate_177 : decode cX6_rate 177 = .ok (.iaload, 1) := by decide +kernel
theorem dX6_rate_178 : decode cX6_rate 178 = .ok (.iadd, 1) := by decide +kernel
theorem dX6_rate_179 : decode cX6_rate 179 = .ok (.ireturn, 1) := by decide +kernel
theorem dX6_keep_0 : decode cX6_keep 0 = .ok (.iload_n 1, 1) := by decide +kernel
theorem dX6_keep_1 : decode cX6_keep 1 = .ok (.iconst 0, 1) := by decide +kernel
theorem dX6_keep_2 : decode cX6_keep 2 = .ok (.iconst 1, 1) := by decide +kernel
theorem dX6_keep_3 : decode cX6_keep 3 = .ok (.invokestatic 52, 3) := by decide +kernel
theorem dX6_keep_6 : decode cX6_keep 6 = .ok (.ifCond .ne 5, 3) := by decide +kernel
theorem dX6_keep_9 : decode cX6_keep 9 = .ok (.iconst (-1), 1) := by decide +kernel
theorem dX6_keep_10 : decode cX6_keep 10 = .ok (.ireturn, 1) := by decide +kernel
theorem dX6_keep_11 : decode cX6_keep 11 = .ok (.iconst 0, 1) := by decide +kernel
theorem dX6_keep_12 : decode cX6_keep 12 = .ok (.istore_n 2, 1) := by decide +kernel
theorem dX6_keep_13 : decode cX6_keep 13 = .ok (.iload_n 2, 1) := by decide +kernel
theorem dX6_keep_14 : decode cX6_keep 14 = .ok (.bipush 18, 2) := by decide +kernel
theorem dX6_keep_16 : decode cX6_keep 16 = .ok (.if_icmp .ge 26, 3) := by decide +kernel
theorem dX6_keep_19 : decode cX6_keep 19 = .ok (.aload_n 0, 1) := by decide +kernel
theorem dX6_keep_20 : decode cX6_keep 20 = .ok (.getfield 25, 3) := by decide +kernel
theorem dX6_keep_23 : decode cX6_keep 23 = .ok (.bipush 18, 2) := by decide +kernel
theorem dX6_keep_25 : decode cX6_keep 25 = .ok (.iload_n 1, 1) := by decide +kernel
theorem dX6_keep_26 : decode cX6_keep 26 = .ok (.imul, 1) := by decide +kernel
theorem dX6_keep_27 : decode cX6_keep 27 = .ok (.iload_n 2, 1) := by decide +kernel
theorem dX6_keep_28 : decode cX6_keep 28 = .ok (.iadd, 1) := by decide +kernel
theorem dX6_keep_29 : decode cX6_keep 29 = .ok (.aload_n 0, 1) := by decide +kernel
theorem dX6_keep_30 : decode cX6_keep 30 = .ok (.getfield 19, 3) := by decide +kernel
theorem dX6_keep_33 : decode cX6_keep 33 = .ok (.iload_n 2, 1) := by decide +kernel
theorem dX6_keep_34 : decode cX6_keep 34 = .ok (.iaload, 1) := by decide +kernel
theorem dX6_keep_35 : decode cX6_keep 35 = .ok (.iastore, 1) := by decide +kernel
theorem dX6_keep_36 : decode cX6_keep 36 = .ok (.iinc 2 1, 3) := by decide +kernel
theorem dX6_keep_39 : decode cX6_keep 39 = .ok (.goto (-26), 3) := by decide +kernel
theorem dX6_keep_42 : decode cX6_keep 42 = .ok (.aload_n 0, 1) := by decide +kernel
theorem dX6_keep_43 : decode cX6_keep 43 = .ok (.getfield 28, 3) := by decide +kernel
theorem dX6_keep_46 : decode cX6_keep 46 = .ok (.iload_n 1, 1) := by decide +kernel
theorem dX6_keep_47 : decode cX6_keep 47 = .ok (.iconst 1, 1) := by decide +kernel
theorem dX6_keep_48 : decode cX6_keep 48 = .ok (.bastore, 1) := by decide +kernel
theorem dX6_keep_49 : decode cX6_keep 49 = .ok (.aload_n 0, 1) := by decide +kernel
theorem dX6_keep_50 : decode cX6_keep 50 = .ok (.getfield 19, 3) := by decide +kernel
theorem dX6_keep_53 : decode cX6_keep 53 = .ok (.iconst 0, 1) := by decide +kernel
theorem dX6_keep_54 : decode cX6_keep 54 = .ok (.iaload, 1) := by decide +kernel
theorem dX6_keep_55 : decode cX6_keep 55 = .ok (.ireturn, 1) := by decide +kernel
theorem dX6_back_0 : decode cX6_back 0 = .ok (.iload_n 1, 1) := by decide +kernel
theorem dX6_back_1 : decode cX6_back 1 = .ok (.iconst 0, 1) := by decide +kernel
theorem dX6_back_2 : decode cX6_back 2 = .ok (.iconst 1, 1) := by decide +kernel
theorem dX6_back_3 : decode cX6_back 3 = .ok (.invokestatic 52, 3) := by decide +kernel
theorem dX6_back_6 : decode cX6_back 6 = .ok (.ifCond .ne 5, 3) := by decide +kernel
theorem dX6_back_9 : decode cX6_back 9 = .ok (.iconst (-1), 1) := by decide +kernel
theorem dX6_back_10 : decode cX6_back 10 = .ok (.ireturn, 1) := by decide +kernel
theorem dX6_back_11 : decode cX6_back 11 = .ok (.aload_n 0, 1) := by decide +kernel
theorem dX6_back_12 : decode cX6_back 12 = .ok (.getfield 28, 3) := by decide +kernel
theorem dX6_back_15 : decode cX6_back 15 = .ok (.iload_n 1, 1) := by decide +kernel
theorem dX6_back_16 : decode cX6_back 16 = .ok (.baload, 1) := by decide +kernel
theorem dX6_back_17 : decode cX6_back 17 = .ok (.ifCond .ne 6, 3) := by decide +kernel
theorem dX6_back_20 : decode cX6_back 20 = .ok (.bipush (-2), 2) := by decide +kernel
theorem dX6_back_22 : decode cX6_back 22 = .ok (.ireturn, 1) := by decide +kernel
theorem dX6_back_23 : decode cX6_back 23 = .ok (.iconst 0, 1) := by decide +kernel
theorem dX6_back_24 : decode cX6_back 24 = .ok (.istore_n 2, 1) := by decide +kernel
theorem dX6_back_25 : decode cX6_back 25 = .ok (.iload_n 2, 1) := by decide +kernel
theorem dX6_back_26 : decode cX6_back 26 = .ok (.bipush 18, 2) := by decide +kernel
theorem dX6_back_28 : decode cX6_back 28 = .ok (.if_icmp .ge 26, 3) := by decide +kernel
theorem dX6_back_31 : decode cX6_back 31 = .ok (.aload_n 0, 1) := by decide +kernel
theorem dX6_back_32 : decode cX6_back 32 = .ok (.getfield 19, 3) := by decide +kernel
theorem dX6_back_35 : decode cX6_back 35 = .ok (.iload_n 2, 1) := by decide +kernel
theorem dX6_back_36 : decode cX6_back 36 = .ok (.aload_n 0, 1) := by decide +kernel
theorem dX6_back_37 : decode cX6_back 37 = .ok (.getfield 25, 3) := by decide +kernel
theorem dX6_back_40 : decode cX6_back 40 = .ok (.bipush 18, 2) := by decide +kernel
theorem dX6_back_42 : decode cX6_back 42 = .ok (.iload_n 1, 1) := by decide +kernel
theorem dX6_back_43 : decode cX6_back 43 = .ok (.imul, 1) := by decide +kernel
theorem dX6_back_44 : decode cX6_back 44 = .ok (.iload_n 2, 1) := by decide +kernel
theorem dX6_back_45 : decode cX6_back 45 = .ok (.iadd, 1) := by decide +kernel
theorem dX6_back_46 : decode cX6_back 46 = .ok (.iaload, 1) := by decide +kernel
theorem dX6_back_47 : decode cX6_back 47 = .ok (.iastore, 1) := by decide +kernel
theorem dX6_back_48 : decode cX6_back 48 = .ok (.iinc 2 1, 3) := by decide +kernel
end
section
theorem dX6_back_51 : decode cX6_back 51 = .ok (.goto (-26), 3) := by decide +kernel
theorem dX6_back_54 : decode cX6_back 54 = .ok (.aload_n 0, 1) := by decide +kernel
theorem dX6_back_55 : decode cX6_back 55 = .ok (.iconst 0, 1) := by decide +kernel
theorem dX6_back_56 : decode cX6_back 56 = .ok (.putfield 92, 3) := by decide +kernel
theorem dX6_back_59 : decode cX6_back 59 = .ok (.aload_n 0, 1) := by decide +kernel
theorem dX6_back_60 : decode cX6_back 60 = .ok (.getfield 19, 3) := by decide +kernel
theorem dX6_back_63 : decode cX6_back 63 = .ok (.iconst 0, 1) := by decide +kernel
theorem dX6_back_64 : decode cX6_back 64 = .ok (.iaload, 1) := by decide +kernel
theorem dX6_back_65 : decode cX6_back 65 = .ok (.ireturn, 1) := by decide +kernel
theorem dX6_count_0 : decode cX6_count 0 = .ok (.iload_n 1, 1) := by decide +kernel
theorem dX6_count_1 : decode cX6_count 1 = .ok (.iconst 0, 1) := by decide +kernel
theorem dX6_count_2 : decode cX6_count 2 = .ok (.iconst 3, 1) := by decide +kernel
theorem dX6_count_3 : decode cX6_count 3 = .ok (.invokestatic 52, 3) := by decide +kernel
theorem dX6_count_6 : decode cX6_count 6 = .ok (.ifCond .ne 5, 3) := by decide +kernel
theorem dX6_count_9 : decode cX6_count 9 = .ok (.iconst (-1), 1) := by decide +kernel
theorem dX6_count_10 : decode cX6_count 10 = .ok (.ireturn, 1) := by decide +kernel
theorem dX6_count_11 : decode cX6_count 11 = .ok (.iload_n 1, 1) := by decide +kernel
theorem dX6_count_12 : decode cX6_count 12 = .ok (.iconst 3, 1) := by decide +kernel
theorem dX6_count_13 : decode cX6_count 13 = .ok (.if_icmp .ge 12, 3) := by decide +kernel
theorem dX6_count_16 : decode cX6_count 16 = .ok (.aload_n 0, 1) := by decide +kernel
theorem dX6_count_17 : decode cX6_count 17 = .ok (.getfield 13, 3) := by decide +kernel
theorem dX6_count_20 : decode cX6_count 20 = .ok (.iload_n 1, 1) := by decide +kernel
theorem dX6_count_21 : decode cX6_count 21 = .ok (.iaload, 1) := by decide +kernel
theorem dX6_count_22 : decode cX6_count 22 = .ok (.goto 7, 3) := by decide +kernel
theorem dX6_count_25 : decode cX6_count 25 = .ok (.aload_n 0, 1) := by decide +kernel
theorem dX6_count_26 : decode cX6_count 26 = .ok (.getfield 56, 3) := by decide +kernel
theorem dX6_count_29 : decode cX6_count 29 = .ok (.ireturn, 1) := by decide +kernel
theorem dX6_trace_0 : decode cX6_trace 0 = .ok (.aload_n 0, 1) := by decide +kernel
theorem dX6_trace_1 : decode cX6_trace 1 = .ok (.getfield 158, 3) := by decide +kernel
theorem dX6_trace_4 : decode cX6_trace 4 = .ok (.lreturn, 1) := by decide +kernel
theorem dJ6_bitCount_0f7a4_0 : decode cJ6_bitCount_0f7a4 0 = .ok (.iload_n 0, 1) := by decide +kernel
theorem dJ6_bitCount_0f7a4_1 : decode cJ6_bitCount_0f7a4 1 = .ok (.iload_n 0, 1) := by decide +kernel
theorem dJ6_bitCount_0f7a4_2 : decode cJ6_bitCount_0f7a4 2 = .ok (.iconst 1, 1) := by decide +kernel
theorem dJ6_bitCount_0f7a4_3 : decode cJ6_bitCount_0f7a4 3 = .ok (.iushr, 1) := by decide +kernel
theorem dJ6_bitCount_0f7a4_4 : decode cJ6_bitCount_0f7a4 4 = .ok (.ldc_w 265, 3) := by decide +kernel
theorem dJ6_bitCount_0f7a4_7 : decode cJ6_bitCount_0f7a4 7 = .ok (.iand, 1) := by decide +kernel
theorem dJ6_bitCount_0f7a4_8 : decode cJ6_bitCount_0f7a4 8 = .ok (.isub, 1) := by decide +kernel
theorem dJ6_bitCount_0f7a4_9 : decode cJ6_bitCount_0f7a4 9 = .ok (.istore_n 0, 1) := by decide +kernel
theorem dJ6_bitCount_0f7a4_10 : decode cJ6_bitCount_0f7a4 10 = .ok (.iload_n 0, 1) := by decide +kernel
theorem dJ6_bitCount_0f7a4_11 : decode cJ6_bitCount_0f7a4 11 = .ok (.ldc_w 266, 3) := by decide +kernel
theorem dJ6_bitCount_0f7a4_14 : decode cJ6_bitCount_0f7a4 14 = .ok (.iand, 1) := by decide +kernel
theorem dJ6_bitCount_0f7a4_15 : decode cJ6_bitCount_0f7a4 15 = .ok (.iload_n 0, 1) := by decide +kernel
theorem dJ6_bitCount_0f7a4_16 : decode cJ6_bitCount_0f7a4 16 = .ok (.iconst 2, 1) := by decide +kernel
theorem dJ6_bitCount_0f7a4_17 : decode cJ6_bitCount_0f7a4 17 = .ok (.iushr, 1) := by decide +kernel
theorem dJ6_bitCount_0f7a4_18 : decode cJ6_bitCount_0f7a4 18 = .ok (.ldc_w 266, 3) := by decide +kernel
theorem dJ6_bitCount_0f7a4_21 : decode cJ6_bitCount_0f7a4 21 = .ok (.iand, 1) := by decide +kernel
theorem dJ6_bitCount_0f7a4_22 : decode cJ6_bitCount_0f7a4 22 = .ok (.iadd, 1) := by decide +kernel
theorem dJ6_bitCount_0f7a4_23 : decode cJ6_bitCount_0f7a4 23 = .ok (.istore_n 0, 1) := by decide +kernel
theorem dJ6_bitCount_0f7a4_24 : decode cJ6_bitCount_0f7a4 24 = .ok (.iload_n 0, 1) := by decide +kernel
theorem dJ6_bitCount_0f7a4_25 : decode cJ6_bitCount_0f7a4 25 = .ok (.iload_n 0, 1) := by decide +kernel
theorem dJ6_bitCount_0f7a4_26 : decode cJ6_bitCount_0f7a4 26 = .ok (.iconst 4, 1) := by decide +kernel
theorem dJ6_bitCount_0f7a4_27 : decode cJ6_bitCount_0f7a4 27 = .ok (.iushr, 1) := by decide +kernel
theorem dJ6_bitCount_0f7a4_28 : decode cJ6_bitCount_0f7a4 28 = .ok (.iadd, 1) := by decide +kernel
theorem dJ6_bitCount_0f7a4_29 : decode cJ6_bitCount_0f7a4 29 = .ok (.ldc_w 267, 3) := by decide +kernel
theorem dJ6_bitCount_0f7a4_32 : decode cJ6_bitCount_0f7a4 32 = .ok (.iand, 1) := by decide +kernel
theorem dJ6_bitCount_0f7a4_33 : decode cJ6_bitCount_0f7a4 33 = .ok (.istore_n 0, 1) := by decide +kernel
theorem dJ6_bitCount_0f7a4_34 : decode cJ6_bitCount_0f7a4 34 = .ok (.iload_n 0, 1) := by decide +kernel
theorem dJ6_bitCount_0f7a4_35 : decode cJ6_bitCount_0f7a4 35 = .ok (.iload_n 0, 1) := by decide +kernel
theorem dJ6_bitCount_0f7a4_36 : decode cJ6_bitCount_0f7a4 36 = .ok (.bipush 8, 2) := by decide +kernel
theorem dJ6_bitCount_0f7a4_38 : decode cJ6_bitCount_0f7a4 38 = .ok (.iushr, 1) := by decide +kernel
theorem dJ6_bitCount_0f7a4_39 : decode cJ6_bitCount_0f7a4 39 = .ok (.iadd, 1) := by decide +kernel
theorem dJ6_bitCount_0f7a4_40 : decode cJ6_bitCount_0f7a4 40 = .ok (.istore_n 0, 1) := by decide +kernel
theorem dJ6_bitCount_0f7a4_41 : decode cJ6_bitCount_0f7a4 41 = .ok (.iload_n 0, 1) := by decide +kernel
theorem dJ6_bitCount_0f7a4_42 : decode cJ6_bitCount_0f7a4 42 = .ok (.iload_n 0, 1) := by decide +kernel
theorem dJ6_bitCount_0f7a4_43 : decode cJ6_bitCount_0f7a4 43 = .ok (.bipush 16, 2) := by decide +kernel
theorem dJ6_bitCount_0f7a4_45 : decode cJ6_bitCount_0f7a4 45 = .ok (.iushr, 1) := by decide +kernel
theorem dJ6_bitCount_0f7a4_46 : decode cJ6_bitCount_0f7a4 46 = .ok (.iadd, 1) := by decide +kernel
theorem dJ6_bitCount_0f7a4_47 : decode cJ6_bitCount_0f7a4 47 = .ok (.istore_n 0, 1) := by decide +kernel
theorem dJ6_bitCount_0f7a4_48 : decode cJ6_bitCount_0f7a4 48 = .ok (.iload_n 0, 1) := by decide +kernel
theorem dJ6_bitCount_0f7a4_49 : decode cJ6_bitCount_0f7a4 49 = .ok (.bipush 63, 2) := by decide +kernel
theorem dJ6_bitCount_0f7a4_51 : decode cJ6_bitCount_0f7a4 51 = .ok (.iand, 1) := by decide +kernel
theorem dJ6_bitCount_0f7a4_52 : decode cJ6_bitCount_0f7a4 52 = .ok (.ireturn, 1) := by decide +kernel
theorem dJ9_max_7cf53_0 : decode cJ9_max_7cf53 0 = .ok (.iload_n 0, 1) := by decide +kernel
theorem dJ9_max_7cf53_1 : decode cJ9_max_7cf53 1 = .ok (.iload_n 1, 1) := by decide +kernel
theorem dJ9_max_7cf53_2 : decode cJ9_max_7cf53 2 = .ok (.if_icmp .lt 7, 3) := by decide +kernel
theorem dJ9_max_7cf53_5 : decode cJ9_max_7cf53 5 = .ok (.iload_n 0, 1) := by decide +kernel
theorem dJ9_max_7cf53_6 : decode cJ9_max_7cf53 6 = .ok (.goto 4, 3) := by decide +kernel
theorem dJ9_max_7cf53_9 : decode cJ9_max_7cf53 9 = .ok (.iload_n 1, 1) := by decide +kernel
theorem dJ9_max_7cf53_10 : decode cJ9_max_7cf53 10 = .ok (.ireturn, 1) := by decide +kernel
theorem dJ9_min_7cf53_0 : decode cJ9_min_7cf53 0 = .ok (.iload_n 0, 1) := by decide +kernel
theorem dJ9_min_7cf53_1 : decode cJ9_min_7cf53 1 = .ok (.iload_n 1, 1) := by decide +kernel
theorem dJ9_min_7cf53_2 : decode cJ9_min_7cf53 2 = .ok (.if_icmp .gt 7, 3) := by decide +kernel
theorem dJ9_min_7cf53_5 : decode cJ9_min_7cf53 5 = .ok (.iload_n 0, 1) := by decide +kernel
theorem dJ9_min_7cf53_6 : decode cJ9_min_7cf53 6 = .ok (.goto 4, 3) := by decide +kernel
theorem dJ9_min_7cf53_9 : decode cJ9_min_7cf53 9 = .ok (.iload_n 1, 1) := by decide +kernel
theorem dJ9_min_7cf53_10 : decode cJ9_min_7cf53 10 = .ok (.ireturn, 1) := by decide +kernel
theorem dJ7_fill_53178_0 : decode cJ7_fill_53178 0 = .ok (.iconst 0, 1) := by decide +kernel
theorem dJ7_fill_53178_1 : decode cJ7_fill_53178 1 = .ok (.istore_n 2, 1) := by decide +kernel
theorem dJ7_fill_53178_2 : decode cJ7_fill_53178 2 = .ok (.aload_n 0, 1) := by decide +kernel
theorem dJ7_fill_53178_3 : decode cJ7_fill_53178 3 = .ok (.arraylength, 1) := by decide +kernel
theorem dJ7_fill_53178_4 : decode cJ7_fill_53178 4 = .ok (.istore_n 3, 1) := by decide +kernel
theorem dJ7_fill_53178_5 : decode cJ7_fill_53178 5 = .ok (.iload_n 2, 1) := by decide +kernel
theorem dJ7_fill_53178_6 : decode cJ7_fill_53178 6 = .ok (.iload_n 3, 1) := by decide +kernel
theorem dJ7_fill_53178_7 : decode cJ7_fill_53178 7 = .ok (.if_icmp .ge 13, 3) := by decide +kernel
theorem dJ7_fill_53178_10 : decode cJ7_fill_53178 10 = .ok (.aload_n 0, 1) := by decide +kernel
theorem dJ7_fill_53178_11 : decode cJ7_fill_53178 11 = .ok (.iload_n 2, 1) := by decide +kernel
theorem dJ7_fill_53178_12 : decode cJ7_fill_53178 12 = .ok (.iload_n 1, 1) := by decide +kernel
theorem dJ7_fill_53178_13 : decode cJ7_fill_53178 13 = .ok (.iastore, 1) := by decide +kernel
theorem dJ7_fill_53178_14 : decode cJ7_fill_53178 14 = .ok (.iinc 2 1, 3) := by decide +kernel
theorem dJ7_fill_53178_17 : decode cJ7_fill_53178 17 = .ok (.goto (-12), 3) := by decide +kernel
theorem dJ7_fill_53178_20 : decode cJ7_fill_53178 20 = .ok (.return_, 1) := by decide +kernel
theorem dL_law_0 : decode cL_law 0 = .ok (.new 7, 3) := by decide +kernel
theorem dL_law_3 : decode cL_law 3 = .ok (.dup, 1) := by decide +kernel
theorem dL_law_4 : decode cL_law 4 = .ok (.invokespecial 9, 3) := by decide +kernel
theorem dL_law_7 : decode cL_law 7 = .ok (.astore_n 1, 1) := by decide +kernel
theorem dL_law_8 : decode cL_law 8 = .ok (.new 10, 3) := by decide +kernel
theorem dL_law_11 : decode cL_law 11 = .ok (.dup, 1) := by decide +kernel
theorem dL_law_12 : decode cL_law 12 = .ok (.invokespecial 12, 3) := by decide +kernel
theorem dL_law_15 : decode cL_law 15 = .ok (.astore_n 2, 1) := by decide +kernel
theorem dL_law_16 : decode cL_law 16 = .ok (.iconst 0, 1) := by decide +kernel
theorem dL_law_17 : decode cL_law 17 = .ok (.istore_n 3, 1) := by decide +kernel
theorem dL_law_18 : decode cL_law 18 = .ok (.iload_n 3, 1) := by decide +kernel
theorem dL_law_19 : decode cL_law 19 = .ok (.aload_n 0, 1) := by decide +kernel
theorem dL_law_20 : decode cL_law 20 = .ok (.arraylength, 1) := by decide +kernel
theorem dL_law_21 : decode cL_law 21 = .ok (.iconst 4, 1) := by decide +kernel
theorem dL_law_22 : decode cL_law 22 = .ok (.isub, 1) := by decide +kernel
theorem dL_law_23 : decode cL_law 23 = .ok (.if_icmp .gt 721, 3) := by decide +kernel
theorem dL_law_26 : decode cL_law 26 = .ok (.aload_n 0, 1) := by decide +kernel
theorem dL_law_27 : decode cL_law 27 = .ok (.iload_n 3, 1) := by decide +kernel
theorem dL_law_28 : decode cL_law 28 = .ok (.iaload, 1) := by decide +kernel
theorem dL_law_29 : decode cL_law 29 = .ok (.bipush 31, 2) := by decide +kernel
theorem dL_law_31 : decode cL_law 31 = .ok (.iand, 1) := by decide +kernel
theorem dL_law_32 : decode cL_law 32 = .ok (.tableswitch 706 0 26 #[124, 147, 160, 173, 206, 239, 262, 295, 308, 331, 344, 357, 370, 383, 396, 419, 452, 465, 478, 501, 544, 567, 590, 623, 646, 669, 692], 124) := by decide +kernel
theorem dL_law_156 : decode cL_law 156 = .ok (.aload_n 1, 1) := by decide +kernel
theorem dL_law_157 : decode cL_law 157 = .ok (.aload_n 0, 1) := by decide +kernel
theorem dL_law_158 : decode cL_law 158 = .ok (.iload_n 3, 1) := by decide +kernel
theorem dL_law_159 : decode cL_law 159 = .ok (.iconst 1, 1) := by decide +kernel
theorem dL_law_160 : decode cL_law 160 = .ok (.iadd, 1) := by decide +kernel
theorem dL_law_161 : decode cL_law 161 = .ok (.iaload, 1) := by decide +kernel
theorem dL_law_162 : decode cL_law 162 = .ok (.invokevirtual 13, 3) := by decide +kernel
theorem dL_law_165 : decode cL_law 165 = .ok (.aload_n 2, 1) := by decide +kernel
theorem dL_law_166 : decode cL_law 166 = .ok (.aload_n 0, 1) := by decide +kernel
theorem dL_law_167 : decode cL_law 167 = .ok (.iload_n 3, 1) := by decide +kernel
theorem dL_law_168 : decode cL_law 168 = .ok (.iconst 1, 1) := by decide +kernel
theorem dL_law_169 : decode cL_law 169 = .ok (.iadd, 1) := by decide +kernel
theorem dL_law_170 : decode cL_law 170 = .ok (.iaload, 1) := by decide +kernel
theorem dL_law_171 : decode cL_law 171 = .ok (.invokevirtual 17, 3) := by decide +kernel
theorem dL_law_174 : decode cL_law 174 = .ok (.if_icmp .eq 564, 3) := by decide +kernel
theorem dL_law_177 : decode cL_law 177 = .ok (.iconst 0, 1) := by decide +kernel
theorem dL_law_178 : decode cL_law 178 = .ok (.ireturn, 1) := by decide +kernel
theorem dL_law_179 : decode cL_law 179 = .ok (.aload_n 1, 1) := by decide +kernel
theorem dL_law_180 : decode cL_law 180 = .ok (.invokevirtual 18, 3) := by decide +kernel
theorem dL_law_183 : decode cL_law 183 = .ok (.aload_n 2, 1) := by decide +kernel
theorem dL_law_184 : decode cL_law 184 = .ok (.invokevirtual 22, 3) := by decide +kernel
theorem dL_law_187 : decode cL_law 187 = .ok (.if_icmp .eq 551, 3) := by decide +kernel
theorem dL_law_190 : decode cL_law 190 = .ok (.iconst 0, 1) := by decide +kernel
theorem dL_law_191 : decode cL_law 191 = .ok (.ireturn, 1) := by decide +kernel
theorem dL_law_192 : decode cL_law 192 = .ok (.aload_n 1, 1) := by decide +kernel
theorem dL_law_193 : decode cL_law 193 = .ok (.invokevirtual 23, 3) := by decide +kernel
theorem dL_law_196 : decode cL_law 196 = .ok (.aload_n 2, 1) := by decide +kernel
theorem dL_law_197 : decode cL_law 197 = .ok (.invokevirtual 26, 3) := by decide +kernel
theorem dL_law_200 : decode cL_law 200 = .ok (.if_icmp .eq 538, 3) := by decide +kernel
theorem dL_law_203 : decode cL_law 203 = .ok (.iconst 0, 1) := by decide +kernel
theorem dL_law_204 : decode cL_law 204 = .ok (.ireturn, 1) := by decide +kernel
theorem dL_law_205 : decode cL_law 205 = .ok (.aload_n 1, 1) := by decide +kernel
theorem dL_law_206 : decode cL_law 206 = .ok (.aload_n 0, 1) := by decide +kernel
theorem dL_law_207 : decode cL_law 207 = .ok (.iload_n 3, 1) := by decide +kernel
theorem dL_law_208 : decode cL_law 208 = .ok (.iconst 1, 1) := by decide +kernel
theorem dL_law_209 : decode cL_law 209 = .ok (.iadd, 1) := by decide +kernel
theorem dL_law_210 : decode cL_law 210 = .ok (.iaload, 1) := by decide +kernel
theorem dL_law_211 : decode cL_law 211 = .ok (.aload_n 0, 1) := by decide +kernel
theorem dL_law_212 : decode cL_law 212 = .ok (.iload_n 3, 1) := by decide +kernel
theorem dL_law_213 : decode cL_law 213 = .ok (.iconst 2, 1) := by decide +kernel
theorem dL_law_214 : decode cL_law 214 = .ok (.iadd, 1) := by decide +kernel
theorem dL_law_215 : decode cL_law 215 = .ok (.iaload, 1) := by decide +kernel
theorem dL_law_216 : decode cL_law 216 = .ok (.invokevirtual 27, 3) := by decide +kernel
theorem dL_law_219 : decode cL_law 219 = .ok (.aload_n 2, 1) := by decide +kernel
theorem dL_law_220 : decode cL_law 220 = .ok (.aload_n 0, 1) := by decide +kernel
theorem dL_law_221 : decode cL_law 221 = .ok (.iload_n 3, 1) := by decide +kernel
theorem dL_law_222 : decode cL_law 222 = .ok (.iconst 1, 1) := by decide +kernel
theorem dL_law_223 : decode cL_law 223 = .ok (.iadd, 1) := by decide +kernel
theorem dL_law_224 : decode cL_law 224 = .ok (.iaload, 1) := by decide +kernel
theorem dL_law_225 : decode cL_law 225 = .ok (.aload_n 0, 1) := by decide +kernel
theorem dL_law_226 : decode cL_law 226 = .ok (.iload_n 3, 1) := by decide +kernel
theorem dL_law_227 : decode cL_law 227 = .ok (.iconst 2, 1) := by decide +kernel
theorem dL_law_228 : decode cL_law 228 = .ok (.iadd, 1) := by decide +kernel
theorem dL_law_229 : decode cL_law 229 = .ok (.iaload, 1) := by decide +kernel
theorem dL_law_230 : decode cL_law 230 = .ok (.invokevirtual 31, 3) := by decide +kernel
theorem dL_law_233 : decode cL_law 233 = .ok (.if_icmp .eq 505, 3) := by decide +kernel
theorem dL_law_236 : decode cL_law 236 = .ok (.iconst 0, 1) := by decide +kernel
theorem dL_law_237 : decode cL_law 237 = .ok (.ireturn, 1) := by decide +kernel
theorem dL_law_238 : decode cL_law 238 = .ok (.aload_n 1, 1) := by decide +kernel
theorem dL_law_239 : decode cL_law 239 = .ok (.aload_n 0, 1) := by decide +kernel
theorem dL_law_240 : decode cL_law 240 = .ok (.iload_n 3, 1) := by decide +kernel
theorem dL_law_241 : decode cL_law 241 = .ok (.iconst 1, 1) := by decide +kernel
theorem dL_law_242 : decode cL_law 242 = .ok (.iadd, 1) := by decide +kernel
theorem dL_law_243 : decode cL_law 243 = .ok (.iaload, 1) := by decide +kernel
theorem dL_law_244 : decode cL_law 244 = .ok (.aload_n 0, 1) := by decide +kernel
theorem dL_law_245 : decode cL_law 245 = .ok (.iload_n 3, 1) := by decide +kernel
theorem dL_law_246 : decode cL_law 246 = .ok (.iconst 2, 1) := by decide +kernel
theorem dL_law_247 : decode cL_law 247 = .ok (.iadd, 1) := by decide +kernel
theorem dL_law_248 : decode cL_law 248 = .ok (.iaload, 1) := by decide +kernel
theorem dL_law_249 : decode cL_law 249 = .ok (.invokevirtual 32, 3) := by decide +kernel
theorem dL_law_252 : decode cL_law 252 = .ok (.aload_n 2, 1) := by decide +kernel
theorem dL_law_253 : decode cL_law 253 = .ok (.aload_n 0, 1) := by decide +kernel
theorem dL_law_254 : decode cL_law 254 = .ok (.iload_n 3, 1) := by decide +kernel
theorem dL_law_255 : decode cL_law 255 = .ok (.iconst 1, 1) := by decide +kernel
theorem dL_law_256 : decode cL_law 256 = .ok (.iadd, 1) := by decide +kernel
theorem dL_law_257 : decode cL_law 257 = .ok (.iaload, 1) := by decide +kernel
theorem dL_law_258 : decode cL_law 258 = .ok (.aload_n 0, 1) := by decide +kernel
theorem dL_law_259 : decode cL_law 259 = .ok (.iload_n 3, 1) := by decide +kernel
theorem dL_law_260 : decode cL_law 260 = .ok (.iconst 2, 1) := by decide +kernel
theorem dL_law_261 : decode cL_law 261 = .ok (.iadd, 1) := by decide +kernel
theorem dL_law_262 : decode cL_law 262 = .ok (.iaload, 1) := by decide +kernel
theorem dL_law_263 : decode cL_law 263 = .ok (.invokevirtual 35, 3) := by decide +kernel
theorem dL_law_266 : decode cL_law 266 = .ok (.if_icmp .eq 472, 3) := by decide +kernel
theorem dL_law_269 : decode cL_law 269 = .ok (.iconst 0, 1) := by decide +kernel
theorem dL_law_270 : decode cL_law 270 = .ok (.ireturn, 1) := by decide +kernel
theorem dL_law_271 : decode cL_law 271 = .ok (.aload_n 1, 1) := by decide +kernel
theorem dL_law_272 : decode cL_law 272 = .ok (.aload_n 0, 1) := by decide +kernel
theorem dL_law_273 : decode cL_law 273 = .ok (.iload_n 3, 1) := by decide +kernel
theorem dL_law_274 : decode cL_law 274 = .ok (.iconst 1, 1) := by decide +kernel
theorem dL_law_275 : decode cL_law 275 = .ok (.iadd, 1) := by decide +kernel
theorem dL_law_276 : decode cL_law 276 = .ok (.iaload, 1) := by decide +kernel
theorem dL_law_277 : decode cL_law 277 = .ok (.invokevirtual 36, 3) := by decide +kernel
theorem dL_law_280 : decode cL_law 280 = .ok (.aload_n 2, 1) := by decide +kernel
theorem dL_law_281 : decode cL_law 281 = .ok (.aload_n 0, 1) := by decide +kernel
theorem dL_law_282 : decode cL_law 282 = .ok (.iload_n 3, 1) := by decide +kernel
theorem dL_law_283 : decode cL_law 283 = .ok (.iconst 1, 1) := by decide +kernel
theorem dL_law_284 : decode cL_law 284 = .ok (.iadd, 1) := by decide +kernel
theorem dL_law_285 : decode cL_law 285 = .ok (.iaload, 1) := by decide +kernel
theorem dL_law_286 : decode cL_law 286 = .ok (.invokevirtual 39, 3) := by decide +kernel
theorem dL_law_289 : decode cL_law 289 = .ok (.if_icmp .eq 449, 3) := by decide +kernel
theorem dL_law_292 : decode cL_law 292 = .ok (.iconst 0, 1) := by decide +kernel
theorem dL_law_293 : decode cL_law 293 = .ok (.ireturn, 1) := by decide +kernel
theorem dL_law_294 : decode cL_law 294 = .ok (.aload_n 1, 1) := by decide +kernel
theorem dL_law_295 : decode cL_law 295 = .ok (.aload_n 0, 1) := by decide +kernel
theorem dL_law_296 : decode cL_law 296 = .ok (.iload_n 3, 1) := by decide +kernel
theorem dL_law_297 : decode cL_law 297 = .ok (.iconst 1, 1) := by decide +kernel
theorem dL_law_298 : decode cL_law 298 = .ok (.iadd, 1) := by decide +kernel
theorem dL_law_299 : decode cL_law 299 = .ok (.iaload, 1) := by decide +kernel
theorem dL_law_300 : decode cL_law 300 = .ok (.aload_n 0, 1) := by decide +kernel
theorem dL_law_301 : decode cL_law 301 = .ok (.iload_n 3, 1) := by decide +kernel
theorem dL_law_302 : decode cL_law 302 = .ok (.iconst 2, 1) := by decide +kernel
theorem dL_law_303 : decode cL_law 303 = .ok (.iadd, 1) := by decide +kernel
theorem dL_law_304 : decode cL_law 304 = .ok (.iaload, 1) := by decide +kernel
theorem dL_law_305 : decode cL_law 305 = .ok (.invokevirtual 40, 3) := by decide +kernel
theorem dL_law_308 : decode cL_law 308 = .ok (.aload_n 2, 1) := by decide +kernel
theorem dL_law_309 : decode cL_law 309 = .ok (.aload_n 0, 1) := by decide +kernel
theorem dL_law_310 : decode cL_law 310 = .ok (.iload_n 3, 1) := by decide +kernel
theorem dL_law_311 : decode cL_law 311 = .ok (.iconst 1, 1) := by decide +kernel
theorem dL_law_312 : decode cL_law 312 = .ok (.iadd, 1) := by decide +kernel
theorem dL_law_313 : decode cL_law 313 = .ok (.iaload, 1) := by decide +kernel
theorem dL_law_314 : decode cL_law 314 = .ok (.aload_n 0, 1) := by decide +kernel
theorem dL_law_315 : decode cL_law 315 = .ok (.iload_n 3, 1) := by decide +kernel
theorem dL_law_316 : decode cL_law 316 = .ok (.iconst 2, 1) := by decide +kernel
theorem dL_law_317 : decode cL_law 317 = .ok (.iadd, 1) := by decide +kernel
theorem dL_law_318 : decode cL_law 318 = .ok (.iaload, 1) := by decide +kernel
theorem dL_law_319 : decode cL_law 319 = .ok (.invokevirtual 43, 3) := by decide +kernel
theorem dL_law_322 : decode cL_law 322 = .ok (.if_icmp .eq 416, 3) := by decide +kernel
theorem dL_law_325 : decode cL_law 325 = .ok (.iconst 0, 1) := by decide +kernel
theorem dL_law_326 : decode cL_law 326 = .ok (.ireturn, 1) := by decide +kernel
theorem dL_law_327 : decode cL_law 327 = .ok (.aload_n 1, 1) := by decide +kernel
theorem dL_law_328 : decode cL_law 328 = .ok (.invokevirtual 44, 3) := by decide +kernel
theorem dL_law_331 : decode cL_law 331 = .ok (.aload_n 2, 1) := by decide +kernel
theorem dL_law_332 : decode cL_law 332 = .ok (.invokevirtual 47, 3) := by decide +kernel
theorem dL_law_335 : decode cL_law 335 = .ok (.if_icmp .eq 403, 3) := by decide +kernel
theorem dL_law_338 : decode cL_law 338 = .ok (.iconst 0, 1) := by decide +kernel
theorem dL_law_339 : decode cL_law 339 = .ok (.ireturn, 1) := by decide +kernel
theorem dL_law_340 : decode cL_law 340 = .ok (.aload_n 1, 1) := by decide +kernel
theorem dL_law_341 : decode cL_law 341 = .ok (.aload_n 0, 1) := by decide +kernel
theorem dL_law_342 : decode cL_law 342 = .ok (.iload_n 3, 1) := by decide +kernel
theorem dL_law_343 : decode cL_law 343 = .ok (.iconst 1, 1) := by decide +kernel
theorem dL_law_344 : decode cL_law 344 = .ok (.iadd, 1) := by decide +kernel
theorem dL_law_345 : decode cL_law 345 = .ok (.iaload, 1) := by decide +kernel
theorem dL_law_346 : decode cL_law 346 = .ok (.invokevirtual 48, 3) := by decide +kernel
theorem dL_law_349 : decode cL_law 349 = .ok (.aload_n 2, 1) := by decide +kernel
theorem dL_law_350 : decode cL_law 350 = .ok (.aload_n 0, 1) := by decide +kernel
theorem dL_law_351 : decode cL_law 351 = .ok (.iload_n 3, 1) := by decide +kernel
theorem dL_law_352 : decode cL_law 352 = .ok (.iconst 1, 1) := by decide +kernel
theorem dL_law_353 : decode cL_law 353 = .ok (.iadd, 1) := by decide +kernel
theorem dL_law_354 : decode cL_law 354 = .ok (.iaload, 1) := by decide +kernel
theorem dL_law_355 : decode cL_law 355 = .ok (.invokevirtual 51, 3) := by decide +kernel
theorem dL_law_358 : decode cL_law 358 = .ok (.if_icmp .eq 380, 3) := by decide +kernel
theorem dL_law_361 : decode cL_law 361 = .ok (.iconst 0, 1) := by decide +kernel
theorem dL_law_362 : decode cL_law 362 = .ok (.ireturn, 1) := by decide +kernel
theorem dL_law_363 : decode cL_law 363 = .ok (.aload_n 1, 1) := by decide +kernel
theorem dL_law_364 : decode cL_law 364 = .ok (.invokevirtual 52, 3) := by decide +kernel
theorem dL_law_367 : decode cL_law 367 = .ok (.aload_n 2, 1) := by decide +kernel
theorem dL_law_368 : decode cL_law 368 = .ok (.invokevirtual 55, 3) := by decide +kernel
theorem dL_law_371 : decode cL_law 371 = .ok (.if_icmp .eq 367, 3) := by decide +kernel
theorem dL_law_374 : decode cL_law 374 = .ok (.iconst 0, 1) := by decide +kernel
theorem dL_law_375 : decode cL_law 375 = .ok (.ireturn, 1) := by decide +kernel
theorem dL_law_376 : decode cL_law 376 = .ok (.aload_n 1, 1) := by decide +kernel
theorem dL_law_377 : decode cL_law 377 = .ok (.invokevirtual 56, 3) := by decide +kernel
theorem dL_law_380 : decode cL_law 380 = .ok (.aload_n 2, 1) := by decide +kernel
theorem dL_law_381 : decode cL_law 381 = .ok (.invokevirtual 59, 3) := by decide +kernel
theorem dL_law_384 : decode cL_law 384 = .ok (.if_icmp .eq 354, 3) := by decide +kernel
theorem dL_law_387 : decode cL_law 387 = .ok (.iconst 0, 1) := by decide +kernel
theorem dL_law_388 : decode cL_law 388 = .ok (.ireturn, 1) := by decide +kernel
theorem dL_law_389 : decode cL_law 389 = .ok (.aload_n 1, 1) := by decide +kernel
theorem dL_law_390 : decode cL_law 390 = .ok (.invokevirtual 60, 3) := by decide +kernel
theorem dL_law_393 : decode cL_law 393 = .ok (.aload_n 2, 1) := by decide +kernel
theorem dL_law_394 : decode cL_law 394 = .ok (.invokevirtual 63, 3) := by decide +kernel
theorem dL_law_397 : decode cL_law 397 = .ok (.if_icmp .eq 341, 3) := by decide +kernel
theorem dL_law_400 : decode cL_law 400 = .ok (.iconst 0, 1) := by decide +kernel
theorem dL_law_401 : decode cL_law 401 = .ok (.ireturn, 1) := by decide +kernel
theorem dL_law_402 : decode cL_law 402 = .ok (.aload_n 1, 1) := by decide +kernel
theorem dL_law_403 : decode cL_law 403 = .ok (.invokevirtual 64, 3) := by decide +kernel
theorem dL_law_406 : decode cL_law 406 = .ok (.aload_n 2, 1) := by decide +kernel
theorem dL_law_407 : decode cL_law 407 = .ok (.invokevirtual 67, 3) := by decide +kernel
theorem dL_law_410 : decode cL_law 410 = .ok (.if_icmp .eq 328, 3) := by decide +kernel
theorem dL_law_413 : decode cL_law 413 = .ok (.iconst 0, 1) := by decide +kernel
theorem dL_law_414 : decode cL_law 414 = .ok (.ireturn, 1) := by decide +kernel
theorem dL_law_415 : decode cL_law 415 = .ok (.aload_n 1, 1) := by decide +kernel
theorem dL_law_416 : decode cL_law 416 = .ok (.invokevirtual 68, 3) := by decide +kernel
theorem dL_law_419 : decode cL_law 419 = .ok (.aload_n 2, 1) := by decide +kernel
theorem dL_law_420 : decode cL_law 420 = .ok (.invokevirtual 71, 3) := by decide +kernel
theorem dL_law_423 : decode cL_law 423 = .ok (.if_icmp .eq 315, 3) := by decide +kernel
theorem dL_law_426 : decode cL_law 426 = .ok (.iconst 0, 1) := by decide +kernel
theorem dL_law_427 : decode cL_law 427 = .ok (.ireturn, 1) := by decide +kernel
theorem dL_law_428 : decode cL_law 428 = .ok (.aload_n 1, 1) := by decide +kernel
theorem dL_law_429 : decode cL_law 429 = .ok (.aload_n 0, 1) := by decide +kernel
theorem dL_law_430 : decode cL_law 430 = .ok (.iload_n 3, 1) := by decide +kernel
theorem dL_law_431 : decode cL_law 431 = .ok (.iconst 1, 1) := by decide +kernel
theorem dL_law_432 : decode cL_law 432 = .ok (.iadd, 1) := by decide +kernel
theorem dL_law_433 : decode cL_law 433 = .ok (.iaload, 1) := by decide +kernel
theorem dL_law_434 : decode cL_law 434 = .ok (.invokevirtual 72, 3) := by decide +kernel
theorem dL_law_437 : decode cL_law 437 = .ok (.aload_n 2, 1) := by decide +kernel
theorem dL_law_438 : decode cL_law 438 = .ok (.aload_n 0, 1) := by decide +kernel
theorem dL_law_439 : decode cL_law 439 = .ok (.iload_n 3, 1) := by decide +kernel
theorem dL_law_440 : decode cL_law 440 = .ok (.iconst 1, 1) := by decide +kernel
theorem dL_law_441 : decode cL_law 441 = .ok (.iadd, 1) := by decide +kernel
theorem dL_law_442 : decode cL_law 442 = .ok (.iaload, 1) := by decide +kernel
theorem dL_law_443 : decode cL_law 443 = .ok (.invokevirtual 75, 3) := by decide +kernel
theorem dL_law_446 : decode cL_law 446 = .ok (.if_icmp .eq 292, 3) := by decide +kernel
theorem dL_law_449 : decode cL_law 449 = .ok (.iconst 0, 1) := by decide +kernel
theorem dL_law_450 : decode cL_law 450 = .ok (.ireturn, 1) := by decide +kernel
theorem dL_law_451 : decode cL_law 451 = .ok (.aload_n 1, 1) := by decide +kernel
theorem dL_law_452 : decode cL_law 452 = .ok (.aload_n 0, 1) := by decide +kernel
theorem dL_law_453 : decode cL_law 453 = .ok (.iload_n 3, 1) := by decide +kernel
theorem dL_law_454 : decode cL_law 454 = .ok (.iconst 1, 1) := by decide +kernel
theorem dL_law_455 : decode cL_law 455 = .ok (.iadd, 1) := by decide +kernel
theorem dL_law_456 : decode cL_law 456 = .ok (.iaload, 1) := by decide +kernel
theorem dL_law_457 : decode cL_law 457 = .ok (.aload_n 0, 1) := by decide +kernel
theorem dL_law_458 : decode cL_law 458 = .ok (.iload_n 3, 1) := by decide +kernel
theorem dL_law_459 : decode cL_law 459 = .ok (.iconst 2, 1) := by decide +kernel
theorem dL_law_460 : decode cL_law 460 = .ok (.iadd, 1) := by decide +kernel
theorem dL_law_461 : decode cL_law 461 = .ok (.iaload, 1) := by decide +kernel
theorem dL_law_462 : decode cL_law 462 = .ok (.invokevirtual 76, 3) := by decide +kernel
theorem dL_law_465 : decode cL_law 465 = .ok (.aload_n 2, 1) := by decide +kernel
theorem dL_law_466 : decode cL_law 466 = .ok (.aload_n 0, 1) := by decide +kernel
theorem dL_law_467 : decode cL_law 467 = .ok (.iload_n 3, 1) := by decide +kernel
theorem dL_law_468 : decode cL_law 468 = .ok (.iconst 1, 1) := by decide +kernel
theorem dL_law_469 : decode cL_law 469 = .ok (.iadd, 1) := by decide +kernel
theorem dL_law_470 : decode cL_law 470 = .ok (.iaload, 1) := by decide +kernel
theorem dL_law_471 : decode cL_law 471 = .ok (.aload_n 0, 1) := by decide +kernel
theorem dL_law_472 : decode cL_law 472 = .ok (.iload_n 3, 1) := by decide +kernel
theorem dL_law_473 : decode cL_law 473 = .ok (.iconst 2, 1) := by decide +kernel
theorem dL_law_474 : decode cL_law 474 = .ok (.iadd, 1) := by decide +kernel
theorem dL_law_475 : decode cL_law 475 = .ok (.iaload, 1) := by decide +kernel
theorem dL_law_476 : decode cL_law 476 = .ok (.invokevirtual 79, 3) := by decide +kernel
theorem dL_law_479 : decode cL_law 479 = .ok (.if_icmp .eq 259, 3) := by decide +kernel
theorem dL_law_482 : decode cL_law 482 = .ok (.iconst 0, 1) := by decide +kernel
theorem dL_law_483 : decode cL_law 483 = .ok (.ireturn, 1) := by decide +kernel
theorem dL_law_484 : decode cL_law 484 = .ok (.aload_n 1, 1) := by decide +kernel
theorem dL_law_485 : decode cL_law 485 = .ok (.invokevirtual 80, 3) := by decide +kernel
theorem dL_law_488 : decode cL_law 488 = .ok (.aload_n 2, 1) := by decide +kernel
theorem dL_law_489 : decode cL_law 489 = .ok (.invokevirtual 83, 3) := by decide +kernel
theorem dL_law_492 : decode cL_law 492 = .ok (.if_icmp .eq 246, 3) := by decide +kernel
theorem dL_law_495 : decode cL_law 495 = .ok (.iconst 0, 1) := by decide +kernel
theorem dL_law_496 : decode cL_law 496 = .ok (.ireturn, 1) := by decide +kernel
theorem dL_law_497 : decode cL_law 497 = .ok (.aload_n 1, 1) := by decide +kernel
theorem dL_law_498 : decode cL_law 498 = .ok (.invokevirtual 84, 3) := by decide +kernel
theorem dL_law_501 : decode cL_law 501 = .ok (.aload_n 2, 1) := by decide +kernel
theorem dL_law_502 : decode cL_law 502 = .ok (.invokevirtual 87, 3) := by decide +kernel
theorem dL_law_505 : decode cL_law 505 = .ok (.if_icmp .eq 233, 3) := by decide +kernel
theorem dL_law_508 : decode cL_law 508 = .ok (.iconst 0, 1) := by decide +kernel
theorem dL_law_509 : decode cL_law 509 = .ok (.ireturn, 1) := by decide +kernel
theorem dL_law_510 : decode cL_law 510 = .ok (.aload_n 1, 1) := by decide +kernel
theorem dL_law_511 : decode cL_law 511 = .ok (.aload_n 0, 1) := by decide +kernel
theorem dL_law_512 : decode cL_law 512 = .ok (.iload_n 3, 1) := by decide +kernel
theorem dL_law_513 : decode cL_law 513 = .ok (.iconst 1, 1) := by decide +kernel
theorem dL_law_514 : decode cL_law 514 = .ok (.iadd, 1) := by decide +kernel
theorem dL_law_515 : decode cL_law 515 = .ok (.iaload, 1) := by decide +kernel
theorem dL_law_516 : decode cL_law 516 = .ok (.invokevirtual 88, 3) := by decide +kernel
theorem dL_law_519 : decode cL_law 519 = .ok (.aload_n 2, 1) := by decide +kernel
theorem dL_law_520 : decode cL_law 520 = .ok (.aload_n 0, 1) := by decide +kernel
theorem dL_law_521 : decode cL_law 521 = .ok (.iload_n 3, 1) := by decide +kernel
theorem dL_law_522 : decode cL_law 522 = .ok (.iconst 1, 1) := by decide +kernel
theorem dL_law_523 : decode cL_law 523 = .ok (.iadd, 1) := by decide +kernel
theorem dL_law_524 : decode cL_law 524 = .ok (.iaload, 1) := by decide +kernel
theorem dL_law_525 : decode cL_law 525 = .ok (.invokevirtual 91, 3) := by decide +kernel
theorem dL_law_528 : decode cL_law 528 = .ok (.if_icmp .eq 210, 3) := by decide +kernel
theorem dL_law_531 : decode cL_law 531 = .ok (.iconst 0, 1) := by decide +kernel
theorem dL_law_532 : decode cL_law 532 = .ok (.ireturn, 1) := by decide +kernel
theorem dL_law_533 : decode cL_law 533 = .ok (.aload_n 1, 1) := by decide +kernel
theorem dL_law_534 : decode cL_law 534 = .ok (.aload_n 0, 1) := by decide +kernel
theorem dL_law_535 : decode cL_law 535 = .ok (.iload_n 3, 1) := by decide +kernel
theorem dL_law_536 : decode cL_law 536 = .ok (.iconst 1, 1) := by decide +kernel
theorem dL_law_537 : decode cL_law 537 = .ok (.iadd, 1) := by decide +kernel
theorem dL_law_538 : decode cL_law 538 = .ok (.iaload, 1) := by decide +kernel
theorem dL_law_539 : decode cL_law 539 = .ok (.aload_n 0, 1) := by decide +kernel
theorem dL_law_540 : decode cL_law 540 = .ok (.iload_n 3, 1) := by decide +kernel
theorem dL_law_541 : decode cL_law 541 = .ok (.iconst 2, 1) := by decide +kernel
theorem dL_law_542 : decode cL_law 542 = .ok (.iadd, 1) := by decide +kernel
theorem dL_law_543 : decode cL_law 543 = .ok (.iaload, 1) := by decide +kernel
theorem dL_law_544 : decode cL_law 544 = .ok (.aload_n 0, 1) := by decide +kernel
theorem dL_law_545 : decode cL_law 545 = .ok (.iload_n 3, 1) := by decide +kernel
theorem dL_law_546 : decode cL_law 546 = .ok (.iconst 3, 1) := by decide +kernel
theorem dL_law_547 : decode cL_law 547 = .ok (.iadd, 1) := by decide +kernel
theorem dL_law_548 : decode cL_law 548 = .ok (.iaload, 1) := by decide +kernel
theorem dL_law_549 : decode cL_law 549 = .ok (.invokevirtual 92, 3) := by decide +kernel
theorem dL_law_552 : decode cL_law 552 = .ok (.aload_n 2, 1) := by decide +kernel
theorem dL_law_553 : decode cL_law 553 = .ok (.aload_n 0, 1) := by decide +kernel
theorem dL_law_554 : decode cL_law 554 = .ok (.iload_n 3, 1) := by decide +kernel
theorem dL_law_555 : decode cL_law 555 = .ok (.iconst 1, 1) := by decide +kernel
theorem dL_law_556 : decode cL_law 556 = .ok (.iadd, 1) := by decide +kernel
theorem dL_law_557 : decode cL_law 557 = .ok (.iaload, 1) := by decide +kernel
theorem dL_law_558 : decode cL_law 558 = .ok (.aload_n 0, 1) := by decide +kernel
theorem dL_law_559 : decode cL_law 559 = .ok (.iload_n 3, 1) := by decide +kernel
theorem dL_law_560 : decode cL_law 560 = .ok (.iconst 2, 1) := by decide +kernel
theorem dL_law_561 : decode cL_law 561 = .ok (.iadd, 1) := by decide +kernel
theorem dL_law_562 : decode cL_law 562 = .ok (.iaload, 1) := by decide +kernel
theorem dL_law_563 : decode cL_law 563 = .ok (.aload_n 0, 1) := by decide +kernel
theorem dL_law_564 : decode cL_law 564 = .ok (.iload_n 3, 1) := by decide +kernel
theorem dL_law_565 : decode cL_law 565 = .ok (.iconst 3, 1) := by decide +kernel
theorem dL_law_566 : decode cL_law 566 = .ok (.iadd, 1) := by decide +kernel
theorem dL_law_567 : decode cL_law 567 = .ok (.iaload, 1) := by decide +kernel
theorem dL_law_568 : decode cL_law 568 = .ok (.invokevirtual 96, 3) := by decide +kernel
theorem dL_law_571 : decode cL_law 571 = .ok (.if_icmp .eq 167, 3) := by decide +kernel
theorem dL_law_574 : decode cL_law 574 = .ok (.iconst 0, 1) := by decide +kernel
theorem dL_law_575 : decode cL_law 575 = .ok (.ireturn, 1) := by decide +kernel
theorem dL_law_576 : decode cL_law 576 = .ok (.aload_n 1, 1) := by decide +kernel
theorem dL_law_577 : decode cL_law 577 = .ok (.aload_n 0, 1) := by decide +kernel
theorem dL_law_578 : decode cL_law 578 = .ok (.iload_n 3, 1) := by decide +kernel
theorem dL_law_579 : decode cL_law 579 = .ok (.iconst 1, 1) := by decide +kernel
theorem dL_law_580 : decode cL_law 580 = .ok (.iadd, 1) := by decide +kernel
theorem dL_law_581 : decode cL_law 581 = .ok (.iaload, 1) := by decide +kernel
theorem dL_law_582 : decode cL_law 582 = .ok (.invokevirtual 97, 3) := by decide +kernel
theorem dL_law_585 : decode cL_law 585 = .ok (.aload_n 2, 1) := by decide +kernel
theorem dL_law_586 : decode cL_law 586 = .ok (.aload_n 0, 1) := by decide +kernel
theorem dL_law_587 : decode cL_law 587 = .ok (.iload_n 3, 1) := by decide +kernel
theorem dL_law_588 : decode cL_law 588 = .ok (.iconst 1, 1) := by decide +kernel
theorem dL_law_589 : decode cL_law 589 = .ok (.iadd, 1) := by decide +kernel
theorem dL_law_590 : decode cL_law 590 = .ok (.iaload, 1) := by decide +kernel
theorem dL_law_591 : decode cL_law 591 = .ok (.invokevirtual 100, 3) := by decide +kernel
theorem dL_law_594 : decode cL_law 594 = .ok (.if_icmp .eq 144, 3) := by decide +kernel
theorem dL_law_597 : decode cL_law 597 = .ok (.iconst 0, 1) := by decide +kernel
theorem dL_law_598 : decode cL_law 598 = .ok (.ireturn, 1) := by decide +kernel
theorem dL_law_599 : decode cL_law 599 = .ok (.aload_n 1, 1) := by decide +kernel
theorem dL_law_600 : decode cL_law 600 = .ok (.aload_n 0, 1) := by decide +kernel
theorem dL_law_601 : decode cL_law 601 = .ok (.iload_n 3, 1) := by decide +kernel
theorem dL_law_602 : decode cL_law 602 = .ok (.iconst 1, 1) := by decide +kernel
theorem dL_law_603 : decode cL_law 603 = .ok (.iadd, 1) := by decide +kernel
theorem dL_law_604 : decode cL_law 604 = .ok (.iaload, 1) := by decide +kernel
theorem dL_law_605 : decode cL_law 605 = .ok (.invokevirtual 101, 3) := by decide +kernel
theorem dL_law_608 : decode cL_law 608 = .ok (.aload_n 2, 1) := by decide +kernel
theorem dL_law_609 : decode cL_law 609 = .ok (.aload_n 0, 1) := by decide +kernel
theorem dL_law_610 : decode cL_law 610 = .ok (.iload_n 3, 1) := by decide +kernel
theorem dL_law_611 : decode cL_law 611 = .ok (.iconst 1, 1) := by decide +kernel
theorem dL_law_612 : decode cL_law 612 = .ok (.iadd, 1) := by decide +kernel
theorem dL_law_613 : decode cL_law 613 = .ok (.iaload, 1) := by decide +kernel
theorem dL_law_614 : decode cL_law 614 = .ok (.invokevirtual 104, 3) := by decide +kernel
theorem dL_law_617 : decode cL_law 617 = .ok (.if_icmp .eq 121, 3) := by decide +kernel
theorem dL_law_620 : decode cL_law 620 = .ok (.iconst 0, 1) := by decide +kernel
theorem dL_law_621 : decode cL_law 621 = .ok (.ireturn, 1) := by decide +kernel
theorem dL_law_622 : decode cL_law 622 = .ok (.aload_n 1, 1) := by decide +kernel
theorem dL_law_623 : decode cL_law 623 = .ok (.aload_n 0, 1) := by decide +kernel
theorem dL_law_624 : decode cL_law 624 = .ok (.iload_n 3, 1) := by decide +kernel
theorem dL_law_625 : decode cL_law 625 = .ok (.iconst 1, 1) := by decide +kernel
theorem dL_law_626 : decode cL_law 626 = .ok (.iadd, 1) := by decide +kernel
theorem dL_law_627 : decode cL_law 627 = .ok (.iaload, 1) := by decide +kernel
theorem dL_law_628 : decode cL_law 628 = .ok (.aload_n 0, 1) := by decide +kernel
theorem dL_law_629 : decode cL_law 629 = .ok (.iload_n 3, 1) := by decide +kernel
theorem dL_law_630 : decode cL_law 630 = .ok (.iconst 2, 1) := by decide +kernel
theorem dL_law_631 : decode cL_law 631 = .ok (.iadd, 1) := by decide +kernel
theorem dL_law_632 : decode cL_law 632 = .ok (.iaload, 1) := by decide +kernel
theorem dL_law_633 : decode cL_law 633 = .ok (.invokevirtual 105, 3) := by decide +kernel
theorem dL_law_636 : decode cL_law 636 = .ok (.aload_n 2, 1) := by decide +kernel
theorem dL_law_637 : decode cL_law 637 = .ok (.aload_n 0, 1) := by decide +kernel
theorem dL_law_638 : decode cL_law 638 = .ok (.iload_n 3, 1) := by decide +kernel
theorem dL_law_639 : decode cL_law 639 = .ok (.iconst 1, 1) := by decide +kernel
theorem dL_law_640 : decode cL_law 640 = .ok (.iadd, 1) := by decide +kernel
theorem dL_law_641 : decode cL_law 641 = .ok (.iaload, 1) := by decide +kernel
theorem dL_law_642 : decode cL_law 642 = .ok (.aload_n 0, 1) := by decide +kernel
theorem dL_law_643 : decode cL_law 643 = .ok (.iload_n 3, 1) := by decide +kernel
theorem dL_law_644 : decode cL_law 644 = .ok (.iconst 2, 1) := by decide +kernel
theorem dL_law_645 : decode cL_law 645 = .ok (.iadd, 1) := by decide +kernel
theorem dL_law_646 : decode cL_law 646 = .ok (.iaload, 1) := by decide +kernel
theorem dL_law_647 : decode cL_law 647 = .ok (.invokevirtual 108, 3) := by decide +kernel
theorem dL_law_650 : decode cL_law 650 = .ok (.if_icmp .eq 88, 3) := by decide +kernel
theorem dL_law_653 : decode cL_law 653 = .ok (.iconst 0, 1) := by decide +kernel
theorem dL_law_654 : decode cL_law 654 = .ok (.ireturn, 1) := by decide +kernel
theorem dL_law_655 : decode cL_law 655 = .ok (.aload_n 1, 1) := by decide +kernel
theorem dL_law_656 : decode cL_law 656 = .ok (.aload_n 0, 1) := by decide +kernel
theorem dL_law_657 : decode cL_law 657 = .ok (.iload_n 3, 1) := by decide +kernel
theorem dL_law_658 : decode cL_law 658 = .ok (.iconst 1, 1) := by decide +kernel
theorem dL_law_659 : decode cL_law 659 = .ok (.iadd, 1) := by decide +kernel
theorem dL_law_660 : decode cL_law 660 = .ok (.iaload, 1) := by decide +kernel
theorem dL_law_661 : decode cL_law 661 = .ok (.invokevirtual 109, 3) := by decide +kernel
theorem dL_law_664 : decode cL_law 664 = .ok (.aload_n 2, 1) := by decide +kernel
theorem dL_law_665 : decode cL_law 665 = .ok (.aload_n 0, 1) := by decide +kernel
theorem dL_law_666 : decode cL_law 666 = .ok (.iload_n 3, 1) := by decide +kernel
theorem dL_law_667 : decode cL_law 667 = .ok (.iconst 1, 1) := by decide +kernel
theorem dL_law_668 : decode cL_law 668 = .ok (.iadd, 1) := by decide +kernel
theorem dL_law_669 : decode cL_law 669 = .ok (.iaload, 1) := by decide +kernel
theorem dL_law_670 : decode cL_law 670 = .ok (.invokevirtual 112, 3) := by decide +kernel
theorem dL_law_673 : decode cL_law 673 = .ok (.if_icmp .eq 65, 3) := by decide +kernel
theorem dL_law_676 : decode cL_law 676 = .ok (.iconst 0, 1) := by decide +kernel
theorem dL_law_677 : decode cL_law 677 = .ok (.ireturn, 1) := by decide +kernel
theorem dL_law_678 : decode cL_law 678 = .ok (.aload_n 1, 1) := by decide +kernel
theorem dL_law_679 : decode cL_law 679 = .ok (.aload_n 0, 1) := by decide +kernel
theorem dL_law_680 : decode cL_law 680 = .ok (.iload_n 3, 1) := by decide +kernel
theorem dL_law_681 : decode cL_law 681 = .ok (.iconst 1, 1) := by decide +kernel
theorem dL_law_682 : decode cL_law 682 = .ok (.iadd, 1) := by decide +kernel
theorem dL_law_683 : decode cL_law 683 = .ok (.iaload, 1) := by decide +kernel
theorem dL_law_684 : decode cL_law 684 = .ok (.invokevirtual 113, 3) := by decide +kernel
theorem dL_law_687 : decode cL_law 687 = .ok (.aload_n 2, 1) := by decide +kernel
theorem dL_law_688 : decode cL_law 688 = .ok (.aload_n 0, 1) := by decide +kernel
theorem dL_law_689 : decode cL_law 689 = .ok (.iload_n 3, 1) := by decide +kernel
theorem dL_law_690 : decode cL_law 690 = .ok (.iconst 1, 1) := by decide +kernel
theorem dL_law_691 : decode cL_law 691 = .ok (.iadd, 1) := by decide +kernel
theorem dL_law_692 : decode cL_law 692 = .ok (.iaload, 1) := by decide +kernel
theorem dL_law_693 : decode cL_law 693 = .ok (.invokevirtual 116, 3) := by decide +kernel
theorem dL_law_696 : decode cL_law 696 = .ok (.if_icmp .eq 42, 3) := by decide +kernel
theorem dL_law_699 : decode cL_law 699 = .ok (.iconst 0, 1) := by decide +kernel
theorem dL_law_700 : decode cL_law 700 = .ok (.ireturn, 1) := by decide +kernel
theorem dL_law_701 : decode cL_law 701 = .ok (.aload_n 1, 1) := by decide +kernel
theorem dL_law_702 : decode cL_law 702 = .ok (.aload_n 0, 1) := by decide +kernel
theorem dL_law_703 : decode cL_law 703 = .ok (.iload_n 3, 1) := by decide +kernel
theorem dL_law_704 : decode cL_law 704 = .ok (.iconst 1, 1) := by decide +kernel
theorem dL_law_705 : decode cL_law 705 = .ok (.iadd, 1) := by decide +kernel
theorem dL_law_706 : decode cL_law 706 = .ok (.iaload, 1) := by decide +kernel
theorem dL_law_707 : decode cL_law 707 = .ok (.invokevirtual 117, 3) := by decide +kernel
theorem dL_law_710 : decode cL_law 710 = .ok (.aload_n 2, 1) := by decide +kernel
theorem dL_law_711 : decode cL_law 711 = .ok (.aload_n 0, 1) := by decide +kernel
theorem dL_law_712 : decode cL_law 712 = .ok (.iload_n 3, 1) := by decide +kernel
theorem dL_law_713 : decode cL_law 713 = .ok (.iconst 1, 1) := by decide +kernel
theorem dL_law_714 : decode cL_law 714 = .ok (.iadd, 1) := by decide +kernel
theorem dL_law_715 : decode cL_law 715 = .ok (.iaload, 1) := by decide +kernel
theorem dL_law_716 : decode cL_law 716 = .ok (.invokevirtual 120, 3) := by decide +kernel
theorem dL_law_719 : decode cL_law 719 = .ok (.if_icmp .eq 19, 3) := by decide +kernel
theorem dL_law_722 : decode cL_law 722 = .ok (.iconst 0, 1) := by decide +kernel
theorem dL_law_723 : decode cL_law 723 = .ok (.ireturn, 1) := by decide +kernel
theorem dL_law_724 : decode cL_law 724 = .ok (.aload_n 1, 1) := by decide +kernel
theorem dL_law_725 : decode cL_law 725 = .ok (.invokevirtual 121, 3) := by decide +kernel
theorem dL_law_728 : decode cL_law 728 = .ok (.aload_n 2, 1) := by decide +kernel
theorem dL_law_729 : decode cL_law 729 = .ok (.invokevirtual 125, 3) := by decide +kernel
theorem dL_law_732 : decode cL_law 732 = .ok (.lcmp, 1) := by decide +kernel
theorem dL_law_733 : decode cL_law 733 = .ok (.ifCond .eq 5, 3) := by decide +kernel
theorem dL_law_736 : decode cL_law 736 = .ok (.iconst 0, 1) := by decide +kernel
theorem dL_law_737 : decode cL_law 737 = .ok (.ireturn, 1) := by decide +kernel
theorem dL_law_738 : decode cL_law 738 = .ok (.iinc 3 4, 3) := by decide +kernel
theorem dL_law_741 : decode cL_law 741 = .ok (.goto (-723), 3) := by decide +kernel
theorem dL_law_744 : decode cL_law 744 = .ok (.iconst 1, 1) := by decide +kernel
theorem dL_law_745 : decode cL_law 745 = .ok (.ireturn, 1) := by decide +kernel
end
section
/-! A small program logic over the kit's W: worlds of numbered places, locals and stacks as lists -/
abbrev zG : Type := Launch × (Nat → ClassId) × (Nat → Nat → Nat) × (Nat → ClassId) × Nat × Nat
abbrev zF : Type := Nat ⊕ Option Nat
abbrev zS : Type := (Nat × Nat × (Nat → Option Nat)) ⊕ (Nat × List zF)
abbrev zW : Type := Nat × (Nat → zS) × (Nat → Nat → Int32) × (Nat → Int64)
abbrev zM : Type := MethodName × ByteArray × Nat × Option FieldType
abbrev zK : Type := Program × Env × Room × State × MethodId × Array Value × List Frame × Method × Code × (State → Prop) × Nat × Nat × Nat
def z_h (Γ : zG) : Nat := Γ.2.2.2.2.1
def z_D (Γ : zG) : va_G := (Γ.2.1, Γ.2.2.1)
def z_A (Γ : zG) : Nat → ClassId := Γ.2.2.2.1
def z_ad (Γ : zG) (k : Nat) : Nat := if k = 1000 then Γ.2.2.2.2.2 else z_h Γ + k
def z_tr (Γ : zG) : Value → Value
  | .ref k => .ref (z_ad Γ k)
  | v => v
theorem z_tr_cat (Γ : zG) (v : Value) : (z_tr Γ v).category = v.category := by cases v <;> rfl
theorem z_ad_lt {Γ : zG} {k : Nat} (h : k < 1000) : z_ad Γ k = z_h Γ + k := by
  unfold z_ad
  rw [if_neg (by omega)]
def z_fv (Γ : zG) (c : Nat → Int32) (t : Int64) (j : Nat) : zF → Value
  | .inl 0 => .int (c j)
  | .inl (_ + 1) => .long t
  | .inr r => va_rf (r.map (fun k => z_h Γ + k))
def z_ce (Γ : zG) (w : zW) (k : Nat) : va_E := match w.2.1 k with
  | .inl (0, n, _) => .inl (z_A Γ 0, n, .inl (w.2.2.1 k))
  | .inl (1, n, _) => .inl (z_A Γ 1, n, .inl (w.2.2.1 k))
  | .inl (_ + 2, n, f) => .inl (z_A Γ 2, n, .inr (.inr (.inr (.inr (fun j => (f j).map (fun k => z_h Γ + k))))))
  | .inr (ci, fs) => .inr (ci, fs.mapIdx fun j fd => z_fv Γ (w.2.2.1 k) (w.2.2.2 k) j fd)
def z_Rep (Γ : zG) (w : zW) (H : Heap) : Prop := H.size = z_h Γ + w.1 ∧ w.1 ≤ 100 ∧ ∀ k, k < w.1 → va_at (z_D Γ) vwCl (z_h Γ + k, z_ce Γ w k) H
def nestL : List (String × Nat × MethodName × String) := [(RX5, 9, yX4_init, RX5), (RX5, 18, yX0_init, RX5), (RX5, 48, yX2_init, RX5), (RX4, 19, yX5_put, RX5), (RX4, 76, yX5_at, RX5), (RX0, 31, yX5_put, RX5), (RX0, 38, yX5_at, RX5), (RX1, 31, yX5_at, RX5), (RX1, 39, yX5_put, RX5), (RX2, 37, yX5_at, RX5), (RX2, 42, yX5_put, RX5), (RX2, 61, yX5_has, RX5), (RX0, 67, yX5_has, RX5)]
def z_tys (Γ : zG) : List (ClassId × FieldType) := [(z_A Γ 0, .int), (z_A Γ 1, .boolean), (z_A Γ 2, .object RX1)]
def z_KK (Γ : zG) (U : State) : Prop := va_K (z_D Γ) vwCl (z_tys Γ) U ∧ va_AO RX1 U ∧ ∀ q ∈ nestL, va_Nw (.methodLinkNest q.1 q.2.1 q.2.2.1 q.2.2.2) U
theorem z_KK.warm {Γ : zG} {s U : State} (hW : s.WarmedH U.vm) (h : z_KK Γ s) : z_KK Γ U := ⟨h.1.moved hW.alike, h.2.1.moved hW.alike, fun q hq => va_Nw.warmM hW (h.2.2 q hq)⟩
theorem z_KK.vm {Γ : zG} {s U : State} (hv : s.vm = U.vm) (h : z_KK Γ s) : z_KK Γ U := ⟨h.1.moved (by rw [hv]; exact Vm.Alike.refl U.vm), h.2.1.moved (by rw [hv]; exact Vm.Alike.refl U.vm), fun q hq => va_Nw.same rfl hv (h.2.2 q hq)⟩
def tb : List Cond := lw_tbl.filter goodWord
theorem tb_in {w : Cond} (i : Nat) (h : lw_tbl[i]? = some w) (g : goodWord w = true) : w ∈ tb := List.mem_filter.mpr ⟨List.mem_of_getElem? h, g⟩
theorem tb_good {w : Cond} (h : w ∈ tb) : (w.onTables && w.keeps) = true ∨ ∃ ty, w = .arrayClass ty := good_of_word (List.mem_filter.mp h).2
def z_ws (μ : zM) : List Cond := .code μ.1 μ.2.1 μ.2.2.1 μ.2.2.2 :: tb
theorem z_goodIn {μ : zM} (h : Cond.code μ.1 μ.2.1 μ.2.2.1 μ.2.2.2 ∈ tb) : GoodIn tb (z_ws μ) := by
  intro w hw
  rcases List.mem_cons.mp hw with rfl | hw
  · exact ⟨h, tb_good h⟩
  · exact ⟨hw, tb_good hw⟩
/-- locals -/
def z_pr (Γ : zG) (L : List (Option Value)) : List (Nat × Value) := (List.range L.length).filterMap fun j => match L[j]? with
  | some (some v) => some (j, z_tr Γ v)
  | _ => none
theorem z_pr_mem {Γ : zG} {L : List (Option Value)} {j : Nat} {u : Value} : (j, u) ∈ z_pr Γ L ↔ ∃ v, L[j]? = some (some v) ∧ u = z_tr Γ v := by
  unfold z_pr
  rw [List.mem_filterMap]
  constructor
  · rintro ⟨i, hi, h⟩
    split at h
    · next v hv =>
      cases h
      exact ⟨v, hv, rfl⟩
    · cases h
  · rintro ⟨v, hv, rfl⟩
    refine ⟨j, List.mem_range.mpr (List.getElem?_eq_some_iff.mp hv).1, ?_⟩
    rw [hv]
def z_L (Γ : zG) (ls : Array Slot) (L : List (Option Value)) : Prop := lv_has ls L.length (z_pr Γ L) ∧ ∀ (j : Nat) (v : Value), L[j]? = some (some v) → v.category = 1
theorem z_L.at {Γ : zG} {ls : Array Slot} {L : List (Option Value)} (h : z_L Γ ls L) {j : Nat} {v : Value} (hj : L[j]? = some (some v)) : ls[j]? = some (.val (z_tr Γ v)) := h.1.2.2 (j, z_tr Γ v) (z_pr_mem.mpr ⟨v, hj, rfl⟩)
theorem lv_mono {ls : Array Slot} {n : Nat} {l l' : List (Nat × Value)} (h : lv_has ls n l) (hs : ∀ q ∈ l', q ∈ l) : lv_has ls n l' := ⟨h.1, h.2.1, fun q hq => h.2.2 q (hs q hq)⟩
theorem z_L.set {Γ : zG} {ls : Array Slot} {L : List (Option Value)} (h : z_L Γ ls L) {i : Nat} {v : Value} (hc : v.category = 1) {ls' : Array Slot} (h' : lv_has ls' L.length ((i, z_tr Γ v) :: (z_pr Γ L).filter (fun q => !(q.1 == i) && !(q.1 + 1 == i && q.2.category == 2)))) : z_L Γ ls' (L.set i (some v)) := by
  refine ⟨?_, ?_⟩
  · rw [List.length_set]
    refine lv_mono h' ?_
    rintro ⟨j, u⟩ hq
    obtain ⟨x, hx, rfl⟩ := z_pr_mem.mp hq
    rw [List.getElem?_set] at hx
    by_cases hij : i = j
    · subst hij
      rw [if_pos rfl] at hx
      split at hx
      · cases hx
        exact List.mem_cons_self
      · cases hx
    · rw [if_neg hij] at hx
      refine List.mem_cons_of_mem _ (List.mem_filter.mpr ⟨z_pr_mem.mpr ⟨x, hx, rfl⟩, ?_⟩)
      have := h.2 j x hx
      simp [z_tr_cat, this]
      exact fun e => hij e.symm
  · intro j x hx
    rw [List.getElem?_set] at hx
    by_cases hij : i = j
    · subst hij
      rw [if_pos rfl] at hx
      split at hx
      · cases hx
        exact hc
      · cases hx
    · rw [if_neg hij] at hx
      exact h.2 j x hx
theorem lg_sl_1 (vs : List Value) (h : ∀ v ∈ vs, v.category = 1) : lg_sl vs = vs.map Slot.val := by
  induction vs with
  | nil => rfl
  | cons v t ih =>
    have h1 := h v List.mem_cons_self
    have h2 := ih (fun x hx => h x (List.mem_cons_of_mem _ hx))
    unfold lg_sl at h2 ⊢
    rw [List.flatMap_cons, h2, if_neg (by omega)]
    rfl
theorem lv_args_1 (vs : List Value) (h : ∀ v ∈ vs, v.category = 1) : ∀ (i j : Nat) (v : Value), vs[j]? = some v → (i + j, v) ∈ lv_args i vs := by
  induction vs with
  | nil => intro i j v hv; simp at hv
  | cons x t ih =>
    intro i j v hv
    have h1 := h x List.mem_cons_self
    unfold lv_args
    rw [if_neg (by omega)]
    cases j with
    | zero =>
      simp at hv
      subst hv
      exact List.mem_cons_self
    | succ j =>
      refine List.mem_cons_of_mem _ ?_
      have := ih (fun x hx => h x (List.mem_cons_of_mem _ hx)) (i + 1) j v (by simpa using hv)
      rwa [show i + 1 + j = i + (j + 1) by omega] at this
theorem z_entry (Γ : zG) (A : List Value) (n k : Nat) (hn : A.length + k = n) (hA : ∀ v ∈ A, v.category = 1) : z_L Γ ((lg_sl (A.map (z_tr Γ)) ++ List.replicate (n - (lg_sl (A.map (z_tr Γ))).length) Slot.unset).toArray) (A.map some ++ List.replicate k none) := by
  have hA' : ∀ v ∈ A.map (z_tr Γ), v.category = 1 := by
    intro v hv
    obtain ⟨x, hx, rfl⟩ := List.mem_map.mp hv
    rw [z_tr_cat]
    exact hA x hx
  have e := lg_sl_1 _ hA'
  have h := lv_entry (A.map (z_tr Γ)) (n := n) (by rw [e]; simp; omega)
  have hlen : (A.map some ++ List.replicate k (none : Option Value)).length = n := by simp [hn]
  have get : ∀ (j : Nat) (v : Value), (A.map some ++ List.replicate k (none : Option Value))[j]? = some (some v) → A[j]? = some v := by
    intro j v hv
    by_cases hj : j < A.length
    · rw [List.getElem?_append_left (by simpa using hj), List.getElem?_map] at hv
      cases ha : A[j]? with
      | none => rw [ha] at hv; cases hv
      | some x => rw [ha] at hv; cases hv; rfl
    · rw [List.getElem?_append_right (by simp; omega)] at hv
      rw [List.getElem?_replicate] at hv
      split at hv <;> cases hv
  refine ⟨?_, ?_⟩
  · rw [hlen]
    refine lv_mono h ?_
    rintro ⟨j, u⟩ hq
    obtain ⟨v, hv, rfl⟩ := z_pr_mem.mp hq
    have := lv_args_1 _ hA' 0 j (z_tr Γ v) (by rw [List.getElem?_map, get j v hv]; rfl)
    simpa using this
  · intro j v hv
    exact hA v (List.mem_of_getElem? (get j v hv))
def z_d (K : zK) : Nat := K.2.2.2.2.2.2.2.2.2.2.1
/-- THE GOAL of a walk: from here, in any machine state that shows this world, these locals, this stack -/
def GG (Γ : zG) (K : zK) (kc ks : Nat) (w : zW) (pc : Nat) (L : List (Option Value)) (st : List Value) : Prop := match K with
  | (p, e, R, s, m, args, below, meth, c, Q, _, MC, MS) => ∀ (H : Heap) (locs : List Loc) (cells slots : Nat) (ls : Array Slot), z_Rep Γ w H → (∀ q, q < z_h Γ → H[q]? = s.heap[q]?) → (∀ x ∈ locs, z_h Γ ≤ x.base) → cells + kc ≤ MC → slots + ks ≤ MS → z_L Γ ls L → W p Γ.1 e R s m args below meth c H locs cells slots Q (F0 m pc ls (st.map (z_tr Γ)))
def z_C (Γ : zG) (K : zK) (cc : ByteArray) (own : String) (nL : Nat) : Prop := match K with
  | (p, _, R, s, m, args, _, _, c, _, d, MC, MS) => CallFix p m c cc nL s args tb own ∧ z_KK Γ s ∧ d ≤ R.frames ∧ 40 * d ≤ R.locals ∧ MC ≤ R.cells ∧ MS ≤ R.slots
def z_Qc (Γ : zG) (P : Option Value → zW → Prop) : Array Value → State → Outcome → State → Prop := fun _ st o t => (∃ (r : Option Value) (w : zW), o = .returned (r.map (z_tr Γ)) ∧ P r w ∧ z_Rep Γ w t.heap) ∧ ∀ q, q < z_h Γ → t.heap[q]? = st.heap[q]?
def z_Pc (Γ : zG) (A : List Value) (w : zW) : Array Value → State → Prop := fun v U => v = (A.map (z_tr Γ)).toArray ∧ z_Rep Γ w U.heap ∧ z_KK Γ U
def z_M (Γ : zG) (K : zK) (cc : ByteArray) (own : String) (nL : Nat) (ret : Option FieldType) (isI : Bool) (P : Option Value → zW → Prop) : Prop := z_C Γ K cc own nL ∧ match K with
  | (_, _, _, s, _, args, below, meth, _, Q, _, MC, MS) => meth.sig.returnType = ret ∧ meth.locks = false ∧ (isI = true → meth.name = "<init>") ∧ Q = MQ below (z_Qc Γ P) args s MC MS (fun q => z_h Γ ≤ q)
def Sp (Γ : zG) (d : Nat) (μ : zM) (A : List Value) (mc ms : Nat) (w : zW) (P : Option Value → zW → Prop) : Prop := Met Γ.1 μ.1 (z_ws μ) { frames := d, cells := mc, slots := ms, locals := 40 * d } (z_Pc Γ A w) (z_Qc Γ P) mc ms (fun q => z_h Γ ≤ q)
theorem z_blind {Γ : zG} {A : List Value} {w : zW} : FrameBlind (z_Pc Γ A w) := fun _ _ _ _ h => ⟨h.1, h.2.1, h.2.2.vm rfl⟩
/-- a method's contract out of its body's walk -/
theorem Sp.of {Γ : zG} {d : Nat} {own : String} {y : MethodName} {cc : ByteArray} {nL : Nat} {ret : Option FieldType} {A : List Value} {mc ms : Nat} {w : zW} {P : Option Value → zW → Prop} (k : Nat) (isI : Bool) (ho : y.cls = own) (hy : plainName y.cls = true) (hk : A.length + k = nL) (hA : A.all (fun v => v.category == 1) = true) (hI : isI = true → y.name = "<init>")
    (body : ∀ K : zK, z_d K = d → z_M Γ K cc own nL ret isI P → GG Γ K mc ms w 0 (A.map some ++ List.replicate k none) []) : Sp Γ d (y, cc, nL, ret) A mc ms w P := by
  subst ho
  refine Met.ofW (cc := cc) (maxL := nL) (ret := ret) hy rfl ?_
  intro p e s m args below meth c s₁ B hml hv
  obtain ⟨rfl, hR, hK⟩ := hv
  have hts := atoms_spec (ws := z_ws (y, cc, nL, ret)) B.pre
  have hown : s.vm.findClass y.cls = some m.cls := findClass_of_methodNamed B.named
  have hb := body (p, e, (headSpec (z_ws (y, cc, nL, ret)) { frames := d, cells := mc, slots := ms, locals := 40 * d }).room, s, m, (A.map (z_tr Γ)).toArray, below, meth, c, MQ below (z_Qc Γ P) (A.map (z_tr Γ)).toArray s mc ms (fun q => z_h Γ ≤ q), d, mc, ms) rfl
    ⟨⟨⟨B.exec, B.bytes, hml, hown, fun w hw => hts w (List.mem_cons_of_mem _ hw)⟩, hK, Nat.le_refl _, Nat.le_refl _, Nat.le_refl _, Nat.le_refl _⟩, B.returns, B.notSynchronized, fun h => (name_of_methodNamed B.named B.method).1.trans (hI h), rfl⟩
  have hA' : ∀ v ∈ A, v.category = 1 := fun v hv => by simpa using List.all_eq_true.mp hA v hv
  rw [lg_entry_eq]
  exact hb s.heap [] 0 0 _ hR (fun _ _ => rfl) (fun x hx => by cases hx) (by omega) (by omega) (z_entry Γ A nL k hk hA')
end
section
section ZB
theorem zb_and (a b : Nat) : nI a &&& nI b = nI (a &&& b) := by
  apply Int32.toBitVec_inj.mp
  simp [nI, Int32.toBitVec_ofNat']
theorem zb_or (a b : Nat) : nI a ||| nI b = nI (a ||| b) := by
  apply Int32.toBitVec_inj.mp
  simp [nI, Int32.toBitVec_ofNat']
theorem zb_xor (a b : Nat) : nI a ^^^ nI b = nI (a ^^^ b) := by
  apply Int32.toBitVec_inj.mp
  simp [nI, Int32.toBitVec_ofNat']
theorem zb_sm : ∀ b, b < 32 → ((nI b &&& 31).toBitVec.smod 32).toNat = b := by decide +kernel
theorem zb_su : ∀ b, b < 32 → (((nI b).toUInt32 &&& Int32.toUInt32 31).toBitVec % 32).toNat = b := by decide +kernel
theorem zb_tn (a : Nat) : (nI a).toBitVec = BitVec.ofNat 32 a := by simp [nI, Int32.toBitVec_ofNat']
theorem zb_shl (a : Nat) {b : Nat} (h : b < 32) : nI a <<< (nI b &&& 31) = nI (a <<< b) := by
  apply Int32.toBitVec_inj.mp
  apply BitVec.eq_of_toNat_eq
  rw [pk_shl _ _ b (zb_sm b h), zb_tn, zb_tn, BitVec.toNat_ofNat, BitVec.toNat_ofNat, Nat.shiftLeft_eq, Nat.mod_mul_mod]
theorem zb_shr {a b : Nat} (ha : a < 2 ^ 31) (h : b < 32) : nI a >>> (nI b &&& 31) = nI (a >>> b) := by
  rw [pk_shrN ha _ b (zb_sm b h), Nat.shiftRight_eq_div_pow]
theorem zb_ushr {a b : Nat} (ha : a < 2 ^ 31) (h : b < 32) : ((nI a).toUInt32 >>> ((nI b).toUInt32 &&& Int32.toUInt32 31)).toInt32 = nI (a >>> b) := by
  rw [pk_ushrN (by omega) _ b (zb_su b h), Nat.shiftRight_eq_div_pow]
theorem zb_inc1 (a : Nat) : nI a + Int32.ofInt 1 = nI (a + 1) := nI_1 a
theorem zb_0 {a : Nat} (ha : a < 2 ^ 31) : nI a = 0 ↔ a = 0 := by rw [← nI_0]; exact nI_eq ha (by decide)
theorem zb_if_eq_t {a : Nat} (ha : a < 2 ^ 31) (h : nI a = 0) : a = 0 := (zb_0 ha).mp h
theorem zb_if_eq_f {a : Nat} (ha : a < 2 ^ 31) (h : ¬ nI a = 0) : 0 < a := Nat.pos_of_ne_zero fun q => h ((zb_0 ha).mpr q)
theorem zb_if_ne_t {a : Nat} (ha : a < 2 ^ 31) (h : ¬ nI a = 0) : 0 < a := zb_if_eq_f ha h
theorem zb_if_ne_f {a : Nat} (ha : a < 2 ^ 31) (h : nI a = 0) : a = 0 := zb_if_eq_t ha h
theorem zb_if_gt_t {a : Nat} (ha : a < 2 ^ 31) (h : 0 < nI a) : 0 < a := Nat.pos_of_ne_zero fun q => absurd h (by rw [q]; decide)
theorem zb_if_gt_f {a : Nat} (ha : a < 2 ^ 31) (h : ¬ 0 < nI a) : a = 0 := Nat.eq_zero_of_not_pos fun q => h (by rw [← nI_0]; exact nI_lt q ha)
theorem zb_if_le_t {a : Nat} (ha : a < 2 ^ 31) (h : nI a ≤ 0) : a = 0 := Nat.eq_zero_of_not_pos fun q => nI_nle q ha h
theorem zb_if_le_f {a : Nat} (ha : a < 2 ^ 31) (h : ¬ nI a ≤ 0) : 0 < a := Nat.pos_of_ne_zero fun q => h (by rw [q]; decide)
theorem zb_if_lt_t {a : Nat} (ha : a < 2 ^ 31) (h : nI a < 0) : False := nI_pos ha h
theorem zb_if_lt_f {a : Nat} (_ : a < 2 ^ 31) (_ : ¬ nI a < 0) : True := trivial
theorem zb_if_ge_t {a : Nat} (_ : a < 2 ^ 31) (_ : 0 ≤ nI a) : True := trivial
theorem zb_if_ge_f {a : Nat} (ha : a < 2 ^ 31) (h : ¬ 0 ≤ nI a) : False := h (nI_pos' ha)
end ZB
section ZL
variable {p : Program} {e : Env} {R : Room} {s : State} {m : MethodId} {args : Array Value} {below : List Frame} {meth : Method} {c : Code} {H : Heap} {locs : List Loc} {cells slots : Nat} {Q : State → Prop} {Γ : zG} {pc : Nat} {ls : Array Slot} {rest : List Value} {cc : ByteArray}
theorem z_iinc (hx : p.tables.exec = Jvm.exec) (hb : c.code = cc) {L : List (Option Value)} {j : Nat} {n : Int} {x : Int32} (hd : decode cc pc = .ok (.iinc j n, 3)) (h : z_L Γ ls L) (hj : L[j]? = some (some (.int x)))
    (kk : ∀ ls' : Array Slot, z_L Γ ls' (L.set j (some (.int (x + Int32.ofInt n)))) → W p Γ.1 e R s m args below meth c H locs cells slots Q (F0 m (pc + 3) ls' rest)) : W p Γ.1 e R s m args below meth c H locs cells slots Q (F0 m pc ls rest) := by
  have hm : (j, z_tr Γ (.int x)) ∈ z_pr Γ L := z_pr_mem.mpr ⟨_, hj, rfl⟩
  obtain ⟨q, hq⟩ := List.getElem?_of_mem hm
  exact lv_iinc hx hb hd h.1 hq rfl (List.getElem?_eq_some_iff.mp hj).1 rfl (fun ls' h' => kk ls' (z_L.set (v := .int (x + Int32.ofInt n)) h rfl h'))
end ZL
section ZR
variable {Γ : zG} {K : zK} {kc ks : Nat} {w : zW} {pc : Nat} {L Lr : List (Option Value)} {st : List Value} {cc : ByteArray} {own : String} {nL : Nat}
theorem g_iconst (C : z_C Γ K cc own nL) {n : Int} (v : Int32) (hd : decode cc pc = .ok (.iconst n, 1)) (hv : Int32.ofInt n = v) (k : GG Γ K kc ks w (pc + 1) L (.int v :: st)) : GG Γ K kc ks w pc L (st) := by
  obtain ⟨p, e, R, s, m, args, below, meth, c, Q, d, MC, MS⟩ := K
  obtain ⟨⟨hx, hb, hml, hown, hts⟩, hKK, hdF, hdL, hMC, hMS⟩ := C
  intro H locs cells slots ls r1 r2 r3 r4 r5 r6
  exact lv_iconst hx hb hd hv (k H locs cells slots ls r1 r2 r3 r4 r5 r6)
theorem g_bipush (C : z_C Γ K cc own nL) {n : Int} (v : Int32) (hd : decode cc pc = .ok (.bipush n, 2)) (hv : (Int8.ofInt n).toInt32 = v) (k : GG Γ K kc ks w (pc + 2) L (.int v :: st)) : GG Γ K kc ks w pc L (st) := by
  obtain ⟨p, e, R, s, m, args, below, meth, c, Q, d, MC, MS⟩ := K
  obtain ⟨⟨hx, hb, hml, hown, hts⟩, hKK, hdF, hdL, hMC, hMS⟩ := C
  intro H locs cells slots ls r1 r2 r3 r4 r5 r6
  exact lv_bipush hx hb hd hv (k H locs cells slots ls r1 r2 r3 r4 r5 r6)
theorem g_sipush (C : z_C Γ K cc own nL) {n : Int} (v : Int32) (hd : decode cc pc = .ok (.sipush n, 3)) (hv : (Int16.ofInt n).toInt32 = v) (k : GG Γ K kc ks w (pc + 3) L (.int v :: st)) : GG Γ K kc ks w pc L (st) := by
  obtain ⟨p, e, R, s, m, args, below, meth, c, Q, d, MC, MS⟩ := K
  obtain ⟨⟨hx, hb, hml, hown, hts⟩, hKK, hdF, hdL, hMC, hMS⟩ := C
  intro H locs cells slots ls r1 r2 r3 r4 r5 r6
  exact lv_sipush hx hb hd hv (k H locs cells slots ls r1 r2 r3 r4 r5 r6)
theorem g_lconst (C : z_C Γ K cc own nL) {n : Fin 2} (v : Int64) (hd : decode cc pc = .ok (.lconst n, 1)) (hv : Int64.ofNat (n : Nat) = v) (k : GG Γ K kc ks w (pc + 1) L (.long v :: st)) : GG Γ K kc ks w pc L (st) := by
  obtain ⟨p, e, R, s, m, args, below, meth, c, Q, d, MC, MS⟩ := K
  obtain ⟨⟨hx, hb, hml, hown, hts⟩, hKK, hdF, hdL, hMC, hMS⟩ := C
  intro H locs cells slots ls r1 r2 r3 r4 r5 r6
  exact lv_lconst hx hb hd hv (k H locs cells slots ls r1 r2 r3 r4 r5 r6)
theorem g_null (C : z_C Γ K cc own nL)  (hd : decode cc pc = .ok (.aconst_null, 1))  (k : GG Γ K kc ks w (pc + 1) L (.null :: st)) : GG Γ K kc ks w pc L (st) := by
  obtain ⟨p, e, R, s, m, args, below, meth, c, Q, d, MC, MS⟩ := K
  obtain ⟨⟨hx, hb, hml, hown, hts⟩, hKK, hdF, hdL, hMC, hMS⟩ := C
  intro H locs cells slots ls r1 r2 r3 r4 r5 r6
  exact lv_null hx hb hd (k H locs cells slots ls r1 r2 r3 r4 r5 r6)
theorem g_ldc (C : z_C Γ K cc own nL) {n : Nat} (v : Int32) (hd : decode cc pc = .ok (.ldc n, 2)) (hc : Cond.constant own n v ∈ tb) (k : GG Γ K kc ks w (pc + 2) L (.int v :: st)) : GG Γ K kc ks w pc L (st) := by
  obtain ⟨p, e, R, s, m, args, below, meth, c, Q, d, MC, MS⟩ := K
  obtain ⟨⟨hx, hb, hml, hown, hts⟩, hKK, hdF, hdL, hMC, hMS⟩ := C
  intro H locs cells slots ls r1 r2 r3 r4 r5 r6
  exact lv_ldc hx hb hown (hts _ hc) hd (k H locs cells slots ls r1 r2 r3 r4 r5 r6)
theorem g_ldcw (C : z_C Γ K cc own nL) {n : Nat} (v : Int32) (hd : decode cc pc = .ok (.ldc_w n, 3)) (hc : Cond.constant own n v ∈ tb) (k : GG Γ K kc ks w (pc + 3) L (.int v :: st)) : GG Γ K kc ks w pc L (st) := by
  obtain ⟨p, e, R, s, m, args, below, meth, c, Q, d, MC, MS⟩ := K
  obtain ⟨⟨hx, hb, hml, hown, hts⟩, hKK, hdF, hdL, hMC, hMS⟩ := C
  intro H locs cells slots ls r1 r2 r3 r4 r5 r6
  exact lv_ldcw hx hb hown (hts _ hc) hd (k H locs cells slots ls r1 r2 r3 r4 r5 r6)
theorem g_ldc2 (C : z_C Γ K cc own nL) {n : Nat} (v : Int64) (hd : decode cc pc = .ok (.ldc2_w n, 3)) (hc : Cond.constantLong own n v ∈ tb) (k : GG Γ K kc ks w (pc + 3) L (.long v :: st)) : GG Γ K kc ks w pc L (st) := by
  obtain ⟨p, e, R, s, m, args, below, meth, c, Q, d, MC, MS⟩ := K
  obtain ⟨⟨hx, hb, hml, hown, hts⟩, hKK, hdF, hdL, hMC, hMS⟩ := C
  intro H locs cells slots ls r1 r2 r3 r4 r5 r6
  exact lv_ldc2 hx hb hown (hts _ hc) hd (k H locs cells slots ls r1 r2 r3 r4 r5 r6)
theorem g_iadd (C : z_C Γ K cc own nL) {x y : Int32} (hd : decode cc pc = .ok (.iadd, 1))  (k : GG Γ K kc ks w (pc + 1) L (.int (x + y) :: st)) : GG Γ K kc ks w pc L (.int y :: .int x :: st) := by
  obtain ⟨p, e, R, s, m, args, below, meth, c, Q, d, MC, MS⟩ := K
  obtain ⟨⟨hx, hb, hml, hown, hts⟩, hKK, hdF, hdL, hMC, hMS⟩ := C
  intro H locs cells slots ls r1 r2 r3 r4 r5 r6
  exact lv_iadd hx hb hd (k H locs cells slots ls r1 r2 r3 r4 r5 r6)
theorem g_isub (C : z_C Γ K cc own nL) {x y : Int32} (hd : decode cc pc = .ok (.isub, 1))  (k : GG Γ K kc ks w (pc + 1) L (.int (x - y) :: st)) : GG Γ K kc ks w pc L (.int y :: .int x :: st) := by
  obtain ⟨p, e, R, s, m, args, below, meth, c, Q, d, MC, MS⟩ := K
  obtain ⟨⟨hx, hb, hml, hown, hts⟩, hKK, hdF, hdL, hMC, hMS⟩ := C
  intro H locs cells slots ls r1 r2 r3 r4 r5 r6
  exact lv_isub hx hb hd (k H locs cells slots ls r1 r2 r3 r4 r5 r6)
theorem g_imul (C : z_C Γ K cc own nL) {x y : Int32} (hd : decode cc pc = .ok (.imul, 1))  (k : GG Γ K kc ks w (pc + 1) L (.int (x * y) :: st)) : GG Γ K kc ks w pc L (.int y :: .int x :: st) := by
  obtain ⟨p, e, R, s, m, args, below, meth, c, Q, d, MC, MS⟩ := K
  obtain ⟨⟨hx, hb, hml, hown, hts⟩, hKK, hdF, hdL, hMC, hMS⟩ := C
  intro H locs cells slots ls r1 r2 r3 r4 r5 r6
  exact lv_imul hx hb hd (k H locs cells slots ls r1 r2 r3 r4 r5 r6)
theorem g_iand (C : z_C Γ K cc own nL) {x y : Int32} (hd : decode cc pc = .ok (.iand, 1))  (k : GG Γ K kc ks w (pc + 1) L (.int (x &&& y) :: st)) : GG Γ K kc ks w pc L (.int y :: .int x :: st) := by
  obtain ⟨p, e, R, s, m, args, below, meth, c, Q, d, MC, MS⟩ := K
  obtain ⟨⟨hx, hb, hml, hown, hts⟩, hKK, hdF, hdL, hMC, hMS⟩ := C
  intro H locs cells slots ls r1 r2 r3 r4 r5 r6
  exact lv_iand hx hb hd (k H locs cells slots ls r1 r2 r3 r4 r5 r6)
theorem g_ior (C : z_C Γ K cc own nL) {x y : Int32} (hd : decode cc pc = .ok (.ior, 1))  (k : GG Γ K kc ks w (pc + 1) L (.int (x ||| y) :: st)) : GG Γ K kc ks w pc L (.int y :: .int x :: st) := by
  obtain ⟨p, e, R, s, m, args, below, meth, c, Q, d, MC, MS⟩ := K
  obtain ⟨⟨hx, hb, hml, hown, hts⟩, hKK, hdF, hdL, hMC, hMS⟩ := C
  intro H locs cells slots ls r1 r2 r3 r4 r5 r6
  exact lv_ior hx hb hd (k H locs cells slots ls r1 r2 r3 r4 r5 r6)
theorem g_ixor (C : z_C Γ K cc own nL) {x y : Int32} (hd : decode cc pc = .ok (.ixor, 1))  (k : GG Γ K kc ks w (pc + 1) L (.int (x ^^^ y) :: st)) : GG Γ K kc ks w pc L (.int y :: .int x :: st) := by
  obtain ⟨p, e, R, s, m, args, below, meth, c, Q, d, MC, MS⟩ := K
  obtain ⟨⟨hx, hb, hml, hown, hts⟩, hKK, hdF, hdL, hMC, hMS⟩ := C
  intro H locs cells slots ls r1 r2 r3 r4 r5 r6
  exact lv_ixor hx hb hd (k H locs cells slots ls r1 r2 r3 r4 r5 r6)
theorem g_ishl (C : z_C Γ K cc own nL) {x y : Int32} (hd : decode cc pc = .ok (.ishl, 1))  (k : GG Γ K kc ks w (pc + 1) L (.int (x <<< (y &&& 31)) :: st)) : GG Γ K kc ks w pc L (.int y :: .int x :: st) := by
  obtain ⟨p, e, R, s, m, args, below, meth, c, Q, d, MC, MS⟩ := K
  obtain ⟨⟨hx, hb, hml, hown, hts⟩, hKK, hdF, hdL, hMC, hMS⟩ := C
  intro H locs cells slots ls r1 r2 r3 r4 r5 r6
  exact lv_ishl hx hb hd (k H locs cells slots ls r1 r2 r3 r4 r5 r6)
theorem g_ishr (C : z_C Γ K cc own nL) {x y : Int32} (hd : decode cc pc = .ok (.ishr, 1))  (k : GG Γ K kc ks w (pc + 1) L (.int (x >>> (y &&& 31)) :: st)) : GG Γ K kc ks w pc L (.int y :: .int x :: st) := by
  obtain ⟨p, e, R, s, m, args, below, meth, c, Q, d, MC, MS⟩ := K
  obtain ⟨⟨hx, hb, hml, hown, hts⟩, hKK, hdF, hdL, hMC, hMS⟩ := C
  intro H locs cells slots ls r1 r2 r3 r4 r5 r6
  exact lv_ishr hx hb hd (k H locs cells slots ls r1 r2 r3 r4 r5 r6)
theorem g_idiv (C : z_C Γ K cc own nL) {x y : Int32} (hd : decode cc pc = .ok (.idiv, 1)) (hne : ¬ y = 0) (k : GG Γ K kc ks w (pc + 1) L (.int (x / y) :: st)) : GG Γ K kc ks w pc L (.int y :: .int x :: st) := by
  obtain ⟨p, e, R, s, m, args, below, meth, c, Q, d, MC, MS⟩ := K
  obtain ⟨⟨hx, hb, hml, hown, hts⟩, hKK, hdF, hdL, hMC, hMS⟩ := C
  intro H locs cells slots ls r1 r2 r3 r4 r5 r6
  exact lv_idiv hx hb hd hne (k H locs cells slots ls r1 r2 r3 r4 r5 r6)
theorem g_irem (C : z_C Γ K cc own nL) {x y : Int32} (hd : decode cc pc = .ok (.irem, 1)) (hne : ¬ y = 0) (k : GG Γ K kc ks w (pc + 1) L (.int (x - x / y * y) :: st)) : GG Γ K kc ks w pc L (.int y :: .int x :: st) := by
  obtain ⟨p, e, R, s, m, args, below, meth, c, Q, d, MC, MS⟩ := K
  obtain ⟨⟨hx, hb, hml, hown, hts⟩, hKK, hdF, hdL, hMC, hMS⟩ := C
  intro H locs cells slots ls r1 r2 r3 r4 r5 r6
  exact lv_irem hx hb hd hne (k H locs cells slots ls r1 r2 r3 r4 r5 r6)
theorem g_iushr (C : z_C Γ K cc own nL) {x y : Int32} (hd : decode cc pc = .ok (.iushr, 1))  (k : GG Γ K kc ks w (pc + 1) L (.int ((x.toUInt32 >>> (y.toUInt32 &&& Int32.toUInt32 31)).toInt32) :: st)) : GG Γ K kc ks w pc L (.int y :: .int x :: st) := by
  obtain ⟨p, e, R, s, m, args, below, meth, c, Q, d, MC, MS⟩ := K
  obtain ⟨⟨hx, hb, hml, hown, hts⟩, hKK, hdF, hdL, hMC, hMS⟩ := C
  intro H locs cells slots ls r1 r2 r3 r4 r5 r6
  exact lv_iushr hx hb hd rfl (k H locs cells slots ls r1 r2 r3 r4 r5 r6)
theorem g_ladd (C : z_C Γ K cc own nL) {x y : Int64} (hd : decode cc pc = .ok (.ladd, 1))  (k : GG Γ K kc ks w (pc + 1) L (.long (x + y) :: st)) : GG Γ K kc ks w pc L (.long y :: .long x :: st) := by
  obtain ⟨p, e, R, s, m, args, below, meth, c, Q, d, MC, MS⟩ := K
  obtain ⟨⟨hx, hb, hml, hown, hts⟩, hKK, hdF, hdL, hMC, hMS⟩ := C
  intro H locs cells slots ls r1 r2 r3 r4 r5 r6
  exact lv_ladd hx hb hd (k H locs cells slots ls r1 r2 r3 r4 r5 r6)
theorem g_lcmp (C : z_C Γ K cc own nL) {x y : Int64} (hd : decode cc pc = .ok (.lcmp, 1))  (k : GG Γ K kc ks w (pc + 1) L (.int (lg_cmp x y) :: st)) : GG Γ K kc ks w pc L (.long y :: .long x :: st) := by
  obtain ⟨p, e, R, s, m, args, below, meth, c, Q, d, MC, MS⟩ := K
  obtain ⟨⟨hx, hb, hml, hown, hts⟩, hKK, hdF, hdL, hMC, hMS⟩ := C
  intro H locs cells slots ls r1 r2 r3 r4 r5 r6
  exact W.lcmp hx hb hd (k H locs cells slots ls r1 r2 r3 r4 r5 r6)
theorem g_dup (C : z_C Γ K cc own nL) {v : Value} (hd : decode cc pc = .ok (.dup, 1)) (hv : v.category = 1) (k : GG Γ K kc ks w (pc + 1) L (v :: v :: st)) : GG Γ K kc ks w pc L (v :: st) := by
  obtain ⟨p, e, R, s, m, args, below, meth, c, Q, d, MC, MS⟩ := K
  obtain ⟨⟨hx, hb, hml, hown, hts⟩, hKK, hdF, hdL, hMC, hMS⟩ := C
  intro H locs cells slots ls r1 r2 r3 r4 r5 r6
  exact lv_dup hx hb hd (by rw [z_tr_cat]; exact hv) (k H locs cells slots ls r1 r2 r3 r4 r5 r6)
theorem g_dup2 (C : z_C Γ K cc own nL) {v u : Value} (hd : decode cc pc = .ok (.dup2, 1)) (hv : v.category = 1) (hu : u.category = 1) (k : GG Γ K kc ks w (pc + 1) L (v :: u :: v :: u :: st)) : GG Γ K kc ks w pc L (v :: u :: st) := by
  obtain ⟨p, e, R, s, m, args, below, meth, c, Q, d, MC, MS⟩ := K
  obtain ⟨⟨hx, hb, hml, hown, hts⟩, hKK, hdF, hdL, hMC, hMS⟩ := C
  intro H locs cells slots ls r1 r2 r3 r4 r5 r6
  exact lv_dup2_11 hx hb hd (by rw [z_tr_cat]; exact hv) (by rw [z_tr_cat]; exact hu) (k H locs cells slots ls r1 r2 r3 r4 r5 r6)
theorem g_pop (C : z_C Γ K cc own nL) {v : Value} (hd : decode cc pc = .ok (.pop, 1)) (hv : v.category = 1) (k : GG Γ K kc ks w (pc + 1) L (st)) : GG Γ K kc ks w pc L (v :: st) := by
  obtain ⟨p, e, R, s, m, args, below, meth, c, Q, d, MC, MS⟩ := K
  obtain ⟨⟨hx, hb, hml, hown, hts⟩, hKK, hdF, hdL, hMC, hMS⟩ := C
  intro H locs cells slots ls r1 r2 r3 r4 r5 r6
  exact lv_pop hx hb hd (by rw [z_tr_cat]; exact hv) (k H locs cells slots ls r1 r2 r3 r4 r5 r6)
theorem g_top {x y : Int32} (h : x = y) (k : GG Γ K kc ks w pc L (.int y :: st)) : GG Γ K kc ks w pc L (.int x :: st) := h ▸ k
theorem g_set {w' : zW} {L' : List (Option Value)} {st' : List Value} (hw : w = w') (hL : L = L') (hs : st = st') (k : GG Γ K kc ks w' pc L' st') : GG Γ K kc ks w pc L st := by subst hw hL hs; exact k
theorem g_iaddN (C : z_C Γ K cc own nL) {a b : Nat} (hd : decode cc pc = .ok (.iadd, 1))  (k : GG Γ K kc ks w (pc + 1) L (.int (nI (a + b)) :: st)) : GG Γ K kc ks w pc L (.int (nI b) :: .int (nI a) :: st) := g_iadd C hd (g_top (nI_add a b) k)
theorem g_isubN (C : z_C Γ K cc own nL) {a b : Nat} (hd : decode cc pc = .ok (.isub, 1)) (h : b ≤ a) (k : GG Γ K kc ks w (pc + 1) L (.int (nI (a - b)) :: st)) : GG Γ K kc ks w pc L (.int (nI b) :: .int (nI a) :: st) := g_isub C hd (g_top (pk_sub h) k)
theorem g_imulN (C : z_C Γ K cc own nL) {a b : Nat} (hd : decode cc pc = .ok (.imul, 1))  (k : GG Γ K kc ks w (pc + 1) L (.int (nI (a * b)) :: st)) : GG Γ K kc ks w pc L (.int (nI b) :: .int (nI a) :: st) := g_imul C hd (g_top (pk_mul a b) k)
theorem g_iandN (C : z_C Γ K cc own nL) {a b : Nat} (hd : decode cc pc = .ok (.iand, 1))  (k : GG Γ K kc ks w (pc + 1) L (.int (nI (a &&& b)) :: st)) : GG Γ K kc ks w pc L (.int (nI b) :: .int (nI a) :: st) := g_iand C hd (g_top (zb_and a b) k)
theorem g_iorN (C : z_C Γ K cc own nL) {a b : Nat} (hd : decode cc pc = .ok (.ior, 1))  (k : GG Γ K kc ks w (pc + 1) L (.int (nI (a ||| b)) :: st)) : GG Γ K kc ks w pc L (.int (nI b) :: .int (nI a) :: st) := g_ior C hd (g_top (zb_or a b) k)
theorem g_ixorN (C : z_C Γ K cc own nL) {a b : Nat} (hd : decode cc pc = .ok (.ixor, 1))  (k : GG Γ K kc ks w (pc + 1) L (.int (nI (a ^^^ b)) :: st)) : GG Γ K kc ks w pc L (.int (nI b) :: .int (nI a) :: st) := g_ixor C hd (g_top (zb_xor a b) k)
theorem g_ishlN (C : z_C Γ K cc own nL) {a b : Nat} (hd : decode cc pc = .ok (.ishl, 1)) (h : b < 32) (k : GG Γ K kc ks w (pc + 1) L (.int (nI (a <<< b)) :: st)) : GG Γ K kc ks w pc L (.int (nI b) :: .int (nI a) :: st) := g_ishl C hd (g_top (zb_shl a h) k)
theorem g_ishrN (C : z_C Γ K cc own nL) {a b : Nat} (hd : decode cc pc = .ok (.ishr, 1)) (h : b < 32) (ha : a < 2 ^ 31) (k : GG Γ K kc ks w (pc + 1) L (.int (nI (a >>> b)) :: st)) : GG Γ K kc ks w pc L (.int (nI b) :: .int (nI a) :: st) := g_ishr C hd (g_top (zb_shr ha h) k)
theorem g_iushrN (C : z_C Γ K cc own nL) {a b : Nat} (hd : decode cc pc = .ok (.iushr, 1)) (h : b < 32) (ha : a < 2 ^ 31) (k : GG Γ K kc ks w (pc + 1) L (.int (nI (a >>> b)) :: st)) : GG Γ K kc ks w pc L (.int (nI b) :: .int (nI a) :: st) := g_iushr C hd (g_top (zb_ushr ha h) k)
theorem g_idivN (C : z_C Γ K cc own nL) {a b : Nat} (hd : decode cc pc = .ok (.idiv, 1)) (ha : a < 2 ^ 31) (h0 : 0 < b) (hb : b < 2 ^ 31) (k : GG Γ K kc ks w (pc + 1) L (.int (nI (a / b)) :: st)) : GG Γ K kc ks w pc L (.int (nI b) :: .int (nI a) :: st) := g_idiv C hd (nI_ne0 h0 hb) (g_top (pk_div ha h0 hb) k)
theorem g_iremN (C : z_C Γ K cc own nL) {a b : Nat} (hd : decode cc pc = .ok (.irem, 1)) (ha : a < 2 ^ 31) (h0 : 0 < b) (hb : b < 2 ^ 31) (k : GG Γ K kc ks w (pc + 1) L (.int (nI (a % b)) :: st)) : GG Γ K kc ks w pc L (.int (nI b) :: .int (nI a) :: st) := g_irem C hd (nI_ne0 h0 hb) (g_top (pk_rem ha h0 hb) k)
theorem g_iload0 (C : z_C Γ K cc own nL)  {x : Int32} (hd : decode cc pc = .ok (.iload_n 0, 1)) (k : GG Γ K kc ks w (pc + 1) (some (.int x) :: Lr) (.int x :: st)) : GG Γ K kc ks w pc (some (.int x) :: Lr) (st) := by
  obtain ⟨p, e, R, s, m, args, below, meth, c, Q, d, MC, MS⟩ := K
  obtain ⟨⟨hx, hb, hml, hown, hts⟩, hKK, hdF, hdL, hMC, hMS⟩ := C
  intro H locs cells slots ls r1 r2 r3 r4 r5 r6
  exact lv_iload_n hx hb hd rfl (z_L.at r6 (j := 0) rfl) (k H locs cells slots ls r1 r2 r3 r4 r5 r6)
theorem g_istore0 (C : z_C Γ K cc own nL)  {b : Option Value} {x : Int32} (hd : decode cc pc = .ok (.istore_n 0, 1)) (k : GG Γ K kc ks w (pc + 1) (some (.int x) :: Lr) (st)) : GG Γ K kc ks w pc (b :: Lr) (.int x :: st) := by
  obtain ⟨p, e, R, s, m, args, below, meth, c, Q, d, MC, MS⟩ := K
  obtain ⟨⟨hx, hb, hml, hown, hts⟩, hKK, hdF, hdL, hMC, hMS⟩ := C
  intro H locs cells slots ls r1 r2 r3 r4 r5 r6
  exact lv_istore_n hx hb hd rfl r6.1 (by simp only [List.length_cons]; omega) rfl (fun ls' h' => k H locs cells slots ls' r1 r2 r3 r4 r5 (z_L.set (v := .int x) (i := 0) r6 rfl h'))
theorem g_aload0 (C : z_C Γ K cc own nL)  {x : Nat} (hd : decode cc pc = .ok (.aload_n 0, 1)) (k : GG Γ K kc ks w (pc + 1) (some (.ref x) :: Lr) (.ref x :: st)) : GG Γ K kc ks w pc (some (.ref x) :: Lr) (st) := by
  obtain ⟨p, e, R, s, m, args, below, meth, c, Q, d, MC, MS⟩ := K
  obtain ⟨⟨hx, hb, hml, hown, hts⟩, hKK, hdF, hdL, hMC, hMS⟩ := C
  intro H locs cells slots ls r1 r2 r3 r4 r5 r6
  exact lv_aload_n hx hb hd rfl (z_L.at r6 (j := 0) rfl) (k H locs cells slots ls r1 r2 r3 r4 r5 r6)
theorem g_astore0 (C : z_C Γ K cc own nL)  {b : Option Value} {x : Nat} (hd : decode cc pc = .ok (.astore_n 0, 1)) (k : GG Γ K kc ks w (pc + 1) (some (.ref x) :: Lr) (st)) : GG Γ K kc ks w pc (b :: Lr) (.ref x :: st) := by
  obtain ⟨p, e, R, s, m, args, below, meth, c, Q, d, MC, MS⟩ := K
  obtain ⟨⟨hx, hb, hml, hown, hts⟩, hKK, hdF, hdL, hMC, hMS⟩ := C
  intro H locs cells slots ls r1 r2 r3 r4 r5 r6
  exact lv_astore_n hx hb hd rfl r6.1 (by simp only [List.length_cons]; omega) rfl (fun ls' h' => k H locs cells slots ls' r1 r2 r3 r4 r5 (z_L.set (v := .ref x) (i := 0) r6 rfl h'))
theorem g_iinc0 (C : z_C Γ K cc own nL)  {x : Int32} {n : Int} (hd : decode cc pc = .ok (.iinc 0 n, 3)) (k : GG Γ K kc ks w (pc + 3) (some (.int (x + Int32.ofInt n)) :: Lr) (st)) : GG Γ K kc ks w pc (some (.int x) :: Lr) (st) := by
  obtain ⟨p, e, R, s, m, args, below, meth, c, Q, d, MC, MS⟩ := K
  obtain ⟨⟨hx, hb, hml, hown, hts⟩, hKK, hdF, hdL, hMC, hMS⟩ := C
  intro H locs cells slots ls r1 r2 r3 r4 r5 r6
  exact z_iinc hx hb hd r6 (j := 0) rfl (fun ls' h' => k H locs cells slots ls' r1 r2 r3 r4 r5 h')
theorem g_iinc0N (C : z_C Γ K cc own nL)  {a : Nat} (hd : decode cc pc = .ok (.iinc 0 1, 3)) (k : GG Γ K kc ks w (pc + 3) (some (.int (nI (a + 1))) :: Lr) (st)) : GG Γ K kc ks w pc (some (.int (nI a)) :: Lr) (st) := g_iinc0 C hd ((zb_inc1 a).symm ▸ k)
theorem g_iload1 (C : z_C Γ K cc own nL) {a0 : Option Value} {x : Int32} (hd : decode cc pc = .ok (.iload_n 1, 1)) (k : GG Γ K kc ks w (pc + 1) (a0 :: some (.int x) :: Lr) (.int x :: st)) : GG Γ K kc ks w pc (a0 :: some (.int x) :: Lr) (st) := by
  obtain ⟨p, e, R, s, m, args, below, meth, c, Q, d, MC, MS⟩ := K
  obtain ⟨⟨hx, hb, hml, hown, hts⟩, hKK, hdF, hdL, hMC, hMS⟩ := C
  intro H locs cells slots ls r1 r2 r3 r4 r5 r6
  exact lv_iload_n hx hb hd rfl (z_L.at r6 (j := 1) rfl) (k H locs cells slots ls r1 r2 r3 r4 r5 r6)
theorem g_istore1 (C : z_C Γ K cc own nL) {a0 : Option Value} {b : Option Value} {x : Int32} (hd : decode cc pc = .ok (.istore_n 1, 1)) (k : GG Γ K kc ks w (pc + 1) (a0 :: some (.int x) :: Lr) (st)) : GG Γ K kc ks w pc (a0 :: b :: Lr) (.int x :: st) := by
  obtain ⟨p, e, R, s, m, args, below, meth, c, Q, d, MC, MS⟩ := K
  obtain ⟨⟨hx, hb, hml, hown, hts⟩, hKK, hdF, hdL, hMC, hMS⟩ := C
  intro H locs cells slots ls r1 r2 r3 r4 r5 r6
  exact lv_istore_n hx hb hd rfl r6.1 (by simp only [List.length_cons]; omega) rfl (fun ls' h' => k H locs cells slots ls' r1 r2 r3 r4 r5 (z_L.set (v := .int x) (i := 1) r6 rfl h'))
theorem g_aload1 (C : z_C Γ K cc own nL) {a0 : Option Value} {x : Nat} (hd : decode cc pc = .ok (.aload_n 1, 1)) (k : GG Γ K kc ks w (pc + 1) (a0 :: some (.ref x) :: Lr) (.ref x :: st)) : GG Γ K kc ks w pc (a0 :: some (.ref x) :: Lr) (st) := by
  obtain ⟨p, e, R, s, m, args, below, meth, c, Q, d, MC, MS⟩ := K
  obtain ⟨⟨hx, hb, hml, hown, hts⟩, hKK, hdF, hdL, hMC, hMS⟩ := C
  intro H locs cells slots ls r1 r2 r3 r4 r5 r6
  exact lv_aload_n hx hb hd rfl (z_L.at r6 (j := 1) rfl) (k H locs cells slots ls r1 r2 r3 r4 r5 r6)
theorem g_astore1 (C : z_C Γ K cc own nL) {a0 : Option Value} {b : Option Value} {x : Nat} (hd : decode cc pc = .ok (.astore_n 1, 1)) (k : GG Γ K kc ks w (pc + 1) (a0 :: some (.ref x) :: Lr) (st)) : GG Γ K kc ks w pc (a0 :: b :: Lr) (.ref x :: st) := by
  obtain ⟨p, e, R, s, m, args, below, meth, c, Q, d, MC, MS⟩ := K
  obtain ⟨⟨hx, hb, hml, hown, hts⟩, hKK, hdF, hdL, hMC, hMS⟩ := C
  intro H locs cells slots ls r1 r2 r3 r4 r5 r6
  exact lv_astore_n hx hb hd rfl r6.1 (by simp only [List.length_cons]; omega) rfl (fun ls' h' => k H locs cells slots ls' r1 r2 r3 r4 r5 (z_L.set (v := .ref x) (i := 1) r6 rfl h'))
theorem g_iinc1 (C : z_C Γ K cc own nL) {a0 : Option Value} {x : Int32} {n : Int} (hd : decode cc pc = .ok (.iinc 1 n, 3)) (k : GG Γ K kc ks w (pc + 3) (a0 :: some (.int (x + Int32.ofInt n)) :: Lr) (st)) : GG Γ K kc ks w pc (a0 :: some (.int x) :: Lr) (st) := by
  obtain ⟨p, e, R, s, m, args, below, meth, c, Q, d, MC, MS⟩ := K
  obtain ⟨⟨hx, hb, hml, hown, hts⟩, hKK, hdF, hdL, hMC, hMS⟩ := C
  intro H locs cells slots ls r1 r2 r3 r4 r5 r6
  exact z_iinc hx hb hd r6 (j := 1) rfl (fun ls' h' => k H locs cells slots ls' r1 r2 r3 r4 r5 h')
theorem g_iinc1N (C : z_C Γ K cc own nL) {a0 : Option Value} {a : Nat} (hd : decode cc pc = .ok (.iinc 1 1, 3)) (k : GG Γ K kc ks w (pc + 3) (a0 :: some (.int (nI (a + 1))) :: Lr) (st)) : GG Γ K kc ks w pc (a0 :: some (.int (nI a)) :: Lr) (st) := g_iinc1 C hd ((zb_inc1 a).symm ▸ k)
theorem g_iload2 (C : z_C Γ K cc own nL) {a0 a1 : Option Value} {x : Int32} (hd : decode cc pc = .ok (.iload_n 2, 1)) (k : GG Γ K kc ks w (pc + 1) (a0 :: a1 :: some (.int x) :: Lr) (.int x :: st)) : GG Γ K kc ks w pc (a0 :: a1 :: some (.int x) :: Lr) (st) := by
  obtain ⟨p, e, R, s, m, args, below, meth, c, Q, d, MC, MS⟩ := K
  obtain ⟨⟨hx, hb, hml, hown, hts⟩, hKK, hdF, hdL, hMC, hMS⟩ := C
  intro H locs cells slots ls r1 r2 r3 r4 r5 r6
  exact lv_iload_n hx hb hd rfl (z_L.at r6 (j := 2) rfl) (k H locs cells slots ls r1 r2 r3 r4 r5 r6)
theorem g_istore2 (C : z_C Γ K cc own nL) {a0 a1 : Option Value} {b : Option Value} {x : Int32} (hd : decode cc pc = .ok (.istore_n 2, 1)) (k : GG Γ K kc ks w (pc + 1) (a0 :: a1 :: some (.int x) :: Lr) (st)) : GG Γ K kc ks w pc (a0 :: a1 :: b :: Lr) (.int x :: st) := by
  obtain ⟨p, e, R, s, m, args, below, meth, c, Q, d, MC, MS⟩ := K
  obtain ⟨⟨hx, hb, hml, hown, hts⟩, hKK, hdF, hdL, hMC, hMS⟩ := C
  intro H locs cells slots ls r1 r2 r3 r4 r5 r6
  exact lv_istore_n hx hb hd rfl r6.1 (by simp only [List.length_cons]; omega) rfl (fun ls' h' => k H locs cells slots ls' r1 r2 r3 r4 r5 (z_L.set (v := .int x) (i := 2) r6 rfl h'))
theorem g_aload2 (C : z_C Γ K cc own nL) {a0 a1 : Option Value} {x : Nat} (hd : decode cc pc = .ok (.aload_n 2, 1)) (k : GG Γ K kc ks w (pc + 1) (a0 :: a1 :: some (.ref x) :: Lr) (.ref x :: st)) : GG Γ K kc ks w pc (a0 :: a1 :: some (.ref x) :: Lr) (st) := by
  obtain ⟨p, e, R, s, m, args, below, meth, c, Q, d, MC, MS⟩ := K
  obtain ⟨⟨hx, hb, hml, hown, hts⟩, hKK, hdF, hdL, hMC, hMS⟩ := C
  intro H locs cells slots ls r1 r2 r3 r4 r5 r6
  exact lv_aload_n hx hb hd rfl (z_L.at r6 (j := 2) rfl) (k H locs cells slots ls r1 r2 r3 r4 r5 r6)
theorem g_astore2 (C : z_C Γ K cc own nL) {a0 a1 : Option Value} {b : Option Value} {x : Nat} (hd : decode cc pc = .ok (.astore_n 2, 1)) (k : GG Γ K kc ks w (pc + 1) (a0 :: a1 :: some (.ref x) :: Lr) (st)) : GG Γ K kc ks w pc (a0 :: a1 :: b :: Lr) (.ref x :: st) := by
  obtain ⟨p, e, R, s, m, args, below, meth, c, Q, d, MC, MS⟩ := K
  obtain ⟨⟨hx, hb, hml, hown, hts⟩, hKK, hdF, hdL, hMC, hMS⟩ := C
  intro H locs cells slots ls r1 r2 r3 r4 r5 r6
  exact lv_astore_n hx hb hd rfl r6.1 (by simp only [List.length_cons]; omega) rfl (fun ls' h' => k H locs cells slots ls' r1 r2 r3 r4 r5 (z_L.set (v := .ref x) (i := 2) r6 rfl h'))
theorem g_iinc2 (C : z_C Γ K cc own nL) {a0 a1 : Option Value} {x : Int32} {n : Int} (hd : decode cc pc = .ok (.iinc 2 n, 3)) (k : GG Γ K kc ks w (pc + 3) (a0 :: a1 :: some (.int (x + Int32.ofInt n)) :: Lr) (st)) : GG Γ K kc ks w pc (a0 :: a1 :: some (.int x) :: Lr) (st) := by
  obtain ⟨p, e, R, s, m, args, below, meth, c, Q, d, MC, MS⟩ := K
  obtain ⟨⟨hx, hb, hml, hown, hts⟩, hKK, hdF, hdL, hMC, hMS⟩ := C
  intro H locs cells slots ls r1 r2 r3 r4 r5 r6
  exact z_iinc hx hb hd r6 (j := 2) rfl (fun ls' h' => k H locs cells slots ls' r1 r2 r3 r4 r5 h')
theorem g_iinc2N (C : z_C Γ K cc own nL) {a0 a1 : Option Value} {a : Nat} (hd : decode cc pc = .ok (.iinc 2 1, 3)) (k : GG Γ K kc ks w (pc + 3) (a0 :: a1 :: some (.int (nI (a + 1))) :: Lr) (st)) : GG Γ K kc ks w pc (a0 :: a1 :: some (.int (nI a)) :: Lr) (st) := g_iinc2 C hd ((zb_inc1 a).symm ▸ k)
theorem g_iload3 (C : z_C Γ K cc own nL) {a0 a1 a2 : Option Value} {x : Int32} (hd : decode cc pc = .ok (.iload_n 3, 1)) (k : GG Γ K kc ks w (pc + 1) (a0 :: a1 :: a2 :: some (.int x) :: Lr) (.int x :: st)) : GG Γ K kc ks w pc (a0 :: a1 :: a2 :: some (.int x) :: Lr) (st) := by
  obtain ⟨p, e, R, s, m, args, below, meth, c, Q, d, MC, MS⟩ := K
  obtain ⟨⟨hx, hb, hml, hown, hts⟩, hKK, hdF, hdL, hMC, hMS⟩ := C
  intro H locs cells slots ls r1 r2 r3 r4 r5 r6
  exact lv_iload_n hx hb hd rfl (z_L.at r6 (j := 3) rfl) (k H locs cells slots ls r1 r2 r3 r4 r5 r6)
theorem g_istore3 (C : z_C Γ K cc own nL) {a0 a1 a2 : Option Value} {b : Option Value} {x : Int32} (hd : decode cc pc = .ok (.istore_n 3, 1)) (k : GG Γ K kc ks w (pc + 1) (a0 :: a1 :: a2 :: some (.int x) :: Lr) (st)) : GG Γ K kc ks w pc (a0 :: a1 :: a2 :: b :: Lr) (.int x :: st) := by
  obtain ⟨p, e, R, s, m, args, below, meth, c, Q, d, MC, MS⟩ := K
  obtain ⟨⟨hx, hb, hml, hown, hts⟩, hKK, hdF, hdL, hMC, hMS⟩ := C
  intro H locs cells slots ls r1 r2 r3 r4 r5 r6
  exact lv_istore_n hx hb hd rfl r6.1 (by simp only [List.length_cons]; omega) rfl (fun ls' h' => k H locs cells slots ls' r1 r2 r3 r4 r5 (z_L.set (v := .int x) (i := 3) r6 rfl h'))
theorem g_aload3 (C : z_C Γ K cc own nL) {a0 a1 a2 : Option Value} {x : Nat} (hd : decode cc pc = .ok (.aload_n 3, 1)) (k : GG Γ K kc ks w (pc + 1) (a0 :: a1 :: a2 :: some (.ref x) :: Lr) (.ref x :: st)) : GG Γ K kc ks w pc (a0 :: a1 :: a2 :: some (.ref x) :: Lr) (st) := by
  obtain ⟨p, e, R, s, m, args, below, meth, c, Q, d, MC, MS⟩ := K
  obtain ⟨⟨hx, hb, hml, hown, hts⟩, hKK, hdF, hdL, hMC, hMS⟩ := C
  intro H locs cells slots ls r1 r2 r3 r4 r5 r6
  exact lv_aload_n hx hb hd rfl (z_L.at r6 (j := 3) rfl) (k H locs cells slots ls r1 r2 r3 r4 r5 r6)
theorem g_astore3 (C : z_C Γ K cc own nL) {a0 a1 a2 : Option Value} {b : Option Value} {x : Nat} (hd : decode cc pc = .ok (.astore_n 3, 1)) (k : GG Γ K kc ks w (pc + 1) (a0 :: a1 :: a2 :: some (.ref x) :: Lr) (st)) : GG Γ K kc ks w pc (a0 :: a1 :: a2 :: b :: Lr) (.ref x :: st) := by
  obtain ⟨p, e, R, s, m, args, below, meth, c, Q, d, MC, MS⟩ := K
  obtain ⟨⟨hx, hb, hml, hown, hts⟩, hKK, hdF, hdL, hMC, hMS⟩ := C
  intro H locs cells slots ls r1 r2 r3 r4 r5 r6
  exact lv_astore_n hx hb hd rfl r6.1 (by simp only [List.length_cons]; omega) rfl (fun ls' h' => k H locs cells slots ls' r1 r2 r3 r4 r5 (z_L.set (v := .ref x) (i := 3) r6 rfl h'))
theorem g_iinc3 (C : z_C Γ K cc own nL) {a0 a1 a2 : Option Value} {x : Int32} {n : Int} (hd : decode cc pc = .ok (.iinc 3 n, 3)) (k : GG Γ K kc ks w (pc + 3) (a0 :: a1 :: a2 :: some (.int (x + Int32.ofInt n)) :: Lr) (st)) : GG Γ K kc ks w pc (a0 :: a1 :: a2 :: some (.int x) :: Lr) (st) := by
  obtain ⟨p, e, R, s, m, args, below, meth, c, Q, d, MC, MS⟩ := K
  obtain ⟨⟨hx, hb, hml, hown, hts⟩, hKK, hdF, hdL, hMC, hMS⟩ := C
  intro H locs cells slots ls r1 r2 r3 r4 r5 r6
  exact z_iinc hx hb hd r6 (j := 3) rfl (fun ls' h' => k H locs cells slots ls' r1 r2 r3 r4 r5 h')
theorem g_iinc3N (C : z_C Γ K cc own nL) {a0 a1 a2 : Option Value} {a : Nat} (hd : decode cc pc = .ok (.iinc 3 1, 3)) (k : GG Γ K kc ks w (pc + 3) (a0 :: a1 :: a2 :: some (.int (nI (a + 1))) :: Lr) (st)) : GG Γ K kc ks w pc (a0 :: a1 :: a2 :: some (.int (nI a)) :: Lr) (st) := g_iinc3 C hd ((zb_inc1 a).symm ▸ k)
theorem g_iload4 (C : z_C Γ K cc own nL) {a0 a1 a2 a3 : Option Value} {x : Int32} (hd : decode cc pc = .ok (.iload 4, 2)) (k : GG Γ K kc ks w (pc + 2) (a0 :: a1 :: a2 :: a3 :: some (.int x) :: Lr) (.int x :: st)) : GG Γ K kc ks w pc (a0 :: a1 :: a2 :: a3 :: some (.int x) :: Lr) (st) := by
  obtain ⟨p, e, R, s, m, args, below, meth, c, Q, d, MC, MS⟩ := K
  obtain ⟨⟨hx, hb, hml, hown, hts⟩, hKK, hdF, hdL, hMC, hMS⟩ := C
  intro H locs cells slots ls r1 r2 r3 r4 r5 r6
  exact lv_iload hx hb hd (z_L.at r6 (j := 4) rfl) (k H locs cells slots ls r1 r2 r3 r4 r5 r6)
theorem g_istore4 (C : z_C Γ K cc own nL) {a0 a1 a2 a3 : Option Value} {b : Option Value} {x : Int32} (hd : decode cc pc = .ok (.istore 4, 2)) (k : GG Γ K kc ks w (pc + 2) (a0 :: a1 :: a2 :: a3 :: some (.int x) :: Lr) (st)) : GG Γ K kc ks w pc (a0 :: a1 :: a2 :: a3 :: b :: Lr) (.int x :: st) := by
  obtain ⟨p, e, R, s, m, args, below, meth, c, Q, d, MC, MS⟩ := K
  obtain ⟨⟨hx, hb, hml, hown, hts⟩, hKK, hdF, hdL, hMC, hMS⟩ := C
  intro H locs cells slots ls r1 r2 r3 r4 r5 r6
  exact lv_istore hx hb hd r6.1 (by simp only [List.length_cons]; omega) rfl (fun ls' h' => k H locs cells slots ls' r1 r2 r3 r4 r5 (z_L.set (v := .int x) (i := 4) r6 rfl h'))
theorem g_aload4 (C : z_C Γ K cc own nL) {a0 a1 a2 a3 : Option Value} {x : Nat} (hd : decode cc pc = .ok (.aload 4, 2)) (k : GG Γ K kc ks w (pc + 2) (a0 :: a1 :: a2 :: a3 :: some (.ref x) :: Lr) (.ref x :: st)) : GG Γ K kc ks w pc (a0 :: a1 :: a2 :: a3 :: some (.ref x) :: Lr) (st) := by
  obtain ⟨p, e, R, s, m, args, below, meth, c, Q, d, MC, MS⟩ := K
  obtain ⟨⟨hx, hb, hml, hown, hts⟩, hKK, hdF, hdL, hMC, hMS⟩ := C
  intro H locs cells slots ls r1 r2 r3 r4 r5 r6
  exact lv_aload hx hb hd (z_L.at r6 (j := 4) rfl) (k H locs cells slots ls r1 r2 r3 r4 r5 r6)
theorem g_astore4 (C : z_C Γ K cc own nL) {a0 a1 a2 a3 : Option Value} {b : Option Value} {x : Nat} (hd : decode cc pc = .ok (.astore 4, 2)) (k : GG Γ K kc ks w (pc + 2) (a0 :: a1 :: a2 :: a3 :: some (.ref x) :: Lr) (st)) : GG Γ K kc ks w pc (a0 :: a1 :: a2 :: a3 :: b :: Lr) (.ref x :: st) := by
  obtain ⟨p, e, R, s, m, args, below, meth, c, Q, d, MC, MS⟩ := K
  obtain ⟨⟨hx, hb, hml, hown, hts⟩, hKK, hdF, hdL, hMC, hMS⟩ := C
  intro H locs cells slots ls r1 r2 r3 r4 r5 r6
  exact lv_astore hx hb hd r6.1 (by simp only [List.length_cons]; omega) rfl (fun ls' h' => k H locs cells slots ls' r1 r2 r3 r4 r5 (z_L.set (v := .ref x) (i := 4) r6 rfl h'))
theorem g_iinc4 (C : z_C Γ K cc own nL) {a0 a1 a2 a3 : Option Value} {x : Int32} {n : Int} (hd : decode cc pc = .ok (.iinc 4 n, 3)) (k : GG Γ K kc ks w (pc + 3) (a0 :: a1 :: a2 :: a3 :: some (.int (x + Int32.ofInt n)) :: Lr) (st)) : GG Γ K kc ks w pc (a0 :: a1 :: a2 :: a3 :: some (.int x) :: Lr) (st) := by
  obtain ⟨p, e, R, s, m, args, below, meth, c, Q, d, MC, MS⟩ := K
  obtain ⟨⟨hx, hb, hml, hown, hts⟩, hKK, hdF, hdL, hMC, hMS⟩ := C
  intro H locs cells slots ls r1 r2 r3 r4 r5 r6
  exact z_iinc hx hb hd r6 (j := 4) rfl (fun ls' h' => k H locs cells slots ls' r1 r2 r3 r4 r5 h')
theorem g_iinc4N (C : z_C Γ K cc own nL) {a0 a1 a2 a3 : Option Value} {a : Nat} (hd : decode cc pc = .ok (.iinc 4 1, 3)) (k : GG Γ K kc ks w (pc + 3) (a0 :: a1 :: a2 :: a3 :: some (.int (nI (a + 1))) :: Lr) (st)) : GG Γ K kc ks w pc (a0 :: a1 :: a2 :: a3 :: some (.int (nI a)) :: Lr) (st) := g_iinc4 C hd ((zb_inc1 a).symm ▸ k)
theorem g_iload5 (C : z_C Γ K cc own nL) {a0 a1 a2 a3 a4 : Option Value} {x : Int32} (hd : decode cc pc = .ok (.iload 5, 2)) (k : GG Γ K kc ks w (pc + 2) (a0 :: a1 :: a2 :: a3 :: a4 :: some (.int x) :: Lr) (.int x :: st)) : GG Γ K kc ks w pc (a0 :: a1 :: a2 :: a3 :: a4 :: some (.int x) :: Lr) (st) := by
  obtain ⟨p, e, R, s, m, args, below, meth, c, Q, d, MC, MS⟩ := K
  obtain ⟨⟨hx, hb, hml, hown, hts⟩, hKK, hdF, hdL, hMC, hMS⟩ := C
  intro H locs cells slots ls r1 r2 r3 r4 r5 r6
  exact lv_iload hx hb hd (z_L.at r6 (j := 5) rfl) (k H locs cells slots ls r1 r2 r3 r4 r5 r6)
theorem g_istore5 (C : z_C Γ K cc own nL) {a0 a1 a2 a3 a4 : Option Value} {b : Option Value} {x : Int32} (hd : decode cc pc = .ok (.istore 5, 2)) (k : GG Γ K kc ks w (pc + 2) (a0 :: a1 :: a2 :: a3 :: a4 :: some (.int x) :: Lr) (st)) : GG Γ K kc ks w pc (a0 :: a1 :: a2 :: a3 :: a4 :: b :: Lr) (.int x :: st) := by
  obtain ⟨p, e, R, s, m, args, below, meth, c, Q, d, MC, MS⟩ := K
  obtain ⟨⟨hx, hb, hml, hown, hts⟩, hKK, hdF, hdL, hMC, hMS⟩ := C
  intro H locs cells slots ls r1 r2 r3 r4 r5 r6
  exact lv_istore hx hb hd r6.1 (by simp only [List.length_cons]; omega) rfl (fun ls' h' => k H locs cells slots ls' r1 r2 r3 r4 r5 (z_L.set (v := .int x) (i := 5) r6 rfl h'))
theorem g_aload5 (C : z_C Γ K cc own nL) {a0 a1 a2 a3 a4 : Option Value} {x : Nat} (hd : decode cc pc = .ok (.aload 5, 2)) (k : GG Γ K kc ks w (pc + 2) (a0 :: a1 :: a2 :: a3 :: a4 :: some (.ref x) :: Lr) (.ref x :: st)) : GG Γ K kc ks w pc (a0 :: a1 :: a2 :: a3 :: a4 :: some (.ref x) :: Lr) (st) := by
  obtain ⟨p, e, R, s, m, args, below, meth, c, Q, d, MC, MS⟩ := K
  obtain ⟨⟨hx, hb, hml, hown, hts⟩, hKK, hdF, hdL, hMC, hMS⟩ := C
  intro H locs cells slots ls r1 r2 r3 r4 r5 r6
  exact lv_aload hx hb hd (z_L.at r6 (j := 5) rfl) (k H locs cells slots ls r1 r2 r3 r4 r5 r6)
theorem g_astore5 (C : z_C Γ K cc own nL) {a0 a1 a2 a3 a4 : Option Value} {b : Option Value} {x : Nat} (hd : decode cc pc = .ok (.astore 5, 2)) (k : GG Γ K kc ks w (pc + 2) (a0 :: a1 :: a2 :: a3 :: a4 :: some (.ref x) :: Lr) (st)) : GG Γ K kc ks w pc (a0 :: a1 :: a2 :: a3 :: a4 :: b :: Lr) (.ref x :: st) := by
  obtain ⟨p, e, R, s, m, args, below, meth, c, Q, d, MC, MS⟩ := K
  obtain ⟨⟨hx, hb, hml, hown, hts⟩, hKK, hdF, hdL, hMC, hMS⟩ := C
  intro H locs cells slots ls r1 r2 r3 r4 r5 r6
  exact lv_astore hx hb hd r6.1 (by simp only [List.length_cons]; omega) rfl (fun ls' h' => k H locs cells slots ls' r1 r2 r3 r4 r5 (z_L.set (v := .ref x) (i := 5) r6 rfl h'))
theorem g_iinc5 (C : z_C Γ K cc own nL) {a0 a1 a2 a3 a4 : Option Value} {x : Int32} {n : Int} (hd : decode cc pc = .ok (.iinc 5 n, 3)) (k : GG Γ K kc ks w (pc + 3) (a0 :: a1 :: a2 :: a3 :: a4 :: some (.int (x + Int32.ofInt n)) :: Lr) (st)) : GG Γ K kc ks w pc (a0 :: a1 :: a2 :: a3 :: a4 :: some (.int x) :: Lr) (st) := by
  obtain ⟨p, e, R, s, m, args, below, meth, c, Q, d, MC, MS⟩ := K
  obtain ⟨⟨hx, hb, hml, hown, hts⟩, hKK, hdF, hdL, hMC, hMS⟩ := C
  intro H locs cells slots ls r1 r2 r3 r4 r5 r6
  exact z_iinc hx hb hd r6 (j := 5) rfl (fun ls' h' => k H locs cells slots ls' r1 r2 r3 r4 r5 h')
theorem g_iinc5N (C : z_C Γ K cc own nL) {a0 a1 a2 a3 a4 : Option Value} {a : Nat} (hd : decode cc pc = .ok (.iinc 5 1, 3)) (k : GG Γ K kc ks w (pc + 3) (a0 :: a1 :: a2 :: a3 :: a4 :: some (.int (nI (a + 1))) :: Lr) (st)) : GG Γ K kc ks w pc (a0 :: a1 :: a2 :: a3 :: a4 :: some (.int (nI a)) :: Lr) (st) := g_iinc5 C hd ((zb_inc1 a).symm ▸ k)
theorem g_iload6 (C : z_C Γ K cc own nL) {a0 a1 a2 a3 a4 a5 : Option Value} {x : Int32} (hd : decode cc pc = .ok (.iload 6, 2)) (k : GG Γ K kc ks w (pc + 2) (a0 :: a1 :: a2 :: a3 :: a4 :: a5 :: some (.int x) :: Lr) (.int x :: st)) : GG Γ K kc ks w pc (a0 :: a1 :: a2 :: a3 :: a4 :: a5 :: some (.int x) :: Lr) (st) := by
  obtain ⟨p, e, R, s, m, args, below, meth, c, Q, d, MC, MS⟩ := K
  obtain ⟨⟨hx, hb, hml, hown, hts⟩, hKK, hdF, hdL, hMC, hMS⟩ := C
  intro H locs cells slots ls r1 r2 r3 r4 r5 r6
  exact lv_iload hx hb hd (z_L.at r6 (j := 6) rfl) (k H locs cells slots ls r1 r2 r3 r4 r5 r6)
theorem g_istore6 (C : z_C Γ K cc own nL) {a0 a1 a2 a3 a4 a5 : Option Value} {b : Option Value} {x : Int32} (hd : decode cc pc = .ok (.istore 6, 2)) (k : GG Γ K kc ks w (pc + 2) (a0 :: a1 :: a2 :: a3 :: a4 :: a5 :: some (.int x) :: Lr) (st)) : GG Γ K kc ks w pc (a0 :: a1 :: a2 :: a3 :: a4 :: a5 :: b :: Lr) (.int x :: st) := by
  obtain ⟨p, e, R, s, m, args, below, meth, c, Q, d, MC, MS⟩ := K
  obtain ⟨⟨hx, hb, hml, hown, hts⟩, hKK, hdF, hdL, hMC, hMS⟩ := C
  intro H locs cells slots ls r1 r2 r3 r4 r5 r6
  exact lv_istore hx hb hd r6.1 (by simp only [List.length_cons]; omega) rfl (fun ls' h' => k H locs cells slots ls' r1 r2 r3 r4 r5 (z_L.set (v := .int x) (i := 6) r6 rfl h'))
theorem g_aload6 (C : z_C Γ K cc own nL) {a0 a1 a2 a3 a4 a5 : Option Value} {x : Nat} (hd : decode cc pc = .ok (.aload 6, 2)) (k : GG Γ K kc ks w (pc + 2) (a0 :: a1 :: a2 :: a3 :: a4 :: a5 :: some (.ref x) :: Lr) (.ref x :: st)) : GG Γ K kc ks w pc (a0 :: a1 :: a2 :: a3 :: a4 :: a5 :: some (.ref x) :: Lr) (st) := by
  obtain ⟨p, e, R, s, m, args, below, meth, c, Q, d, MC, MS⟩ := K
  obtain ⟨⟨hx, hb, hml, hown, hts⟩, hKK, hdF, hdL, hMC, hMS⟩ := C
  intro H locs cells slots ls r1 r2 r3 r4 r5 r6
  exact lv_aload hx hb hd (z_L.at r6 (j := 6) rfl) (k H locs cells slots ls r1 r2 r3 r4 r5 r6)
theorem g_astore6 (C : z_C Γ K cc own nL) {a0 a1 a2 a3 a4 a5 : Option Value} {b : Option Value} {x : Nat} (hd : decode cc pc = .ok (.astore 6, 2)) (k : GG Γ K kc ks w (pc + 2) (a0 :: a1 :: a2 :: a3 :: a4 :: a5 :: some (.ref x) :: Lr) (st)) : GG Γ K kc ks w pc (a0 :: a1 :: a2 :: a3 :: a4 :: a5 :: b :: Lr) (.ref x :: st) := by
  obtain ⟨p, e, R, s, m, args, below, meth, c, Q, d, MC, MS⟩ := K
  obtain ⟨⟨hx, hb, hml, hown, hts⟩, hKK, hdF, hdL, hMC, hMS⟩ := C
  intro H locs cells slots ls r1 r2 r3 r4 r5 r6
  exact lv_astore hx hb hd r6.1 (by simp only [List.length_cons]; omega) rfl (fun ls' h' => k H locs cells slots ls' r1 r2 r3 r4 r5 (z_L.set (v := .ref x) (i := 6) r6 rfl h'))
theorem g_iinc6 (C : z_C Γ K cc own nL) {a0 a1 a2 a3 a4 a5 : Option Value} {x : Int32} {n : Int} (hd : decode cc pc = .ok (.iinc 6 n, 3)) (k : GG Γ K kc ks w (pc + 3) (a0 :: a1 :: a2 :: a3 :: a4 :: a5 :: some (.int (x + Int32.ofInt n)) :: Lr) (st)) : GG Γ K kc ks w pc (a0 :: a1 :: a2 :: a3 :: a4 :: a5 :: some (.int x) :: Lr) (st) := by
  obtain ⟨p, e, R, s, m, args, below, meth, c, Q, d, MC, MS⟩ := K
  obtain ⟨⟨hx, hb, hml, hown, hts⟩, hKK, hdF, hdL, hMC, hMS⟩ := C
  intro H locs cells slots ls r1 r2 r3 r4 r5 r6
  exact z_iinc hx hb hd r6 (j := 6) rfl (fun ls' h' => k H locs cells slots ls' r1 r2 r3 r4 r5 h')
theorem g_iinc6N (C : z_C Γ K cc own nL) {a0 a1 a2 a3 a4 a5 : Option Value} {a : Nat} (hd : decode cc pc = .ok (.iinc 6 1, 3)) (k : GG Γ K kc ks w (pc + 3) (a0 :: a1 :: a2 :: a3 :: a4 :: a5 :: some (.int (nI (a + 1))) :: Lr) (st)) : GG Γ K kc ks w pc (a0 :: a1 :: a2 :: a3 :: a4 :: a5 :: some (.int (nI a)) :: Lr) (st) := g_iinc6 C hd ((zb_inc1 a).symm ▸ k)
theorem g_iload7 (C : z_C Γ K cc own nL) {a0 a1 a2 a3 a4 a5 a6 : Option Value} {x : Int32} (hd : decode cc pc = .ok (.iload 7, 2)) (k : GG Γ K kc ks w (pc + 2) (a0 :: a1 :: a2 :: a3 :: a4 :: a5 :: a6 :: some (.int x) :: Lr) (.int x :: st)) : GG Γ K kc ks w pc (a0 :: a1 :: a2 :: a3 :: a4 :: a5 :: a6 :: some (.int x) :: Lr) (st) := by
  obtain ⟨p, e, R, s, m, args, below, meth, c, Q, d, MC, MS⟩ := K
  obtain ⟨⟨hx, hb, hml, hown, hts⟩, hKK, hdF, hdL, hMC, hMS⟩ := C
  intro H locs cells slots ls r1 r2 r3 r4 r5 r6
  exact lv_iload hx hb hd (z_L.at r6 (j := 7) rfl) (k H locs cells slots ls r1 r2 r3 r4 r5 r6)
theorem g_istore7 (C : z_C Γ K cc own nL) {a0 a1 a2 a3 a4 a5 a6 : Option Value} {b : Option Value} {x : Int32} (hd : decode cc pc = .ok (.istore 7, 2)) (k : GG Γ K kc ks w (pc + 2) (a0 :: a1 :: a2 :: a3 :: a4 :: a5 :: a6 :: some (.int x) :: Lr) (st)) : GG Γ K kc ks w pc (a0 :: a1 :: a2 :: a3 :: a4 :: a5 :: a6 :: b :: Lr) (.int x :: st) := by
  obtain ⟨p, e, R, s, m, args, below, meth, c, Q, d, MC, MS⟩ := K
  obtain ⟨⟨hx, hb, hml, hown, hts⟩, hKK, hdF, hdL, hMC, hMS⟩ := C
  intro H locs cells slots ls r1 r2 r3 r4 r5 r6
  exact lv_istore hx hb hd r6.1 (by simp only [List.length_cons]; omega) rfl (fun ls' h' => k H locs cells slots ls' r1 r2 r3 r4 r5 (z_L.set (v := .int x) (i := 7) r6 rfl h'))
theorem g_aload7 (C : z_C Γ K cc own nL) {a0 a1 a2 a3 a4 a5 a6 : Option Value} {x : Nat} (hd : decode cc pc = .ok (.aload 7, 2)) (k : GG Γ K kc ks w (pc + 2) (a0 :: a1 :: a2 :: a3 :: a4 :: a5 :: a6 :: some (.ref x) :: Lr) (.ref x :: st)) : GG Γ K kc ks w pc (a0 :: a1 :: a2 :: a3 :: a4 :: a5 :: a6 :: some (.ref x) :: Lr) (st) := by
  obtain ⟨p, e, R, s, m, args, below, meth, c, Q, d, MC, MS⟩ := K
  obtain ⟨⟨hx, hb, hml, hown, hts⟩, hKK, hdF, hdL, hMC, hMS⟩ := C
  intro H locs cells slots ls r1 r2 r3 r4 r5 r6
  exact lv_aload hx hb hd (z_L.at r6 (j := 7) rfl) (k H locs cells slots ls r1 r2 r3 r4 r5 r6)
theorem g_astore7 (C : z_C Γ K cc own nL) {a0 a1 a2 a3 a4 a5 a6 : Option Value} {b : Option Value} {x : Nat} (hd : decode cc pc = .ok (.astore 7, 2)) (k : GG Γ K kc ks w (pc + 2) (a0 :: a1 :: a2 :: a3 :: a4 :: a5 :: a6 :: some (.ref x) :: Lr) (st)) : GG Γ K kc ks w pc (a0 :: a1 :: a2 :: a3 :: a4 :: a5 :: a6 :: b :: Lr) (.ref x :: st) := by
  obtain ⟨p, e, R, s, m, args, below, meth, c, Q, d, MC, MS⟩ := K
  obtain ⟨⟨hx, hb, hml, hown, hts⟩, hKK, hdF, hdL, hMC, hMS⟩ := C
  intro H locs cells slots ls r1 r2 r3 r4 r5 r6
  exact lv_astore hx hb hd r6.1 (by simp only [List.length_cons]; omega) rfl (fun ls' h' => k H locs cells slots ls' r1 r2 r3 r4 r5 (z_L.set (v := .ref x) (i := 7) r6 rfl h'))
theorem g_iinc7 (C : z_C Γ K cc own nL) {a0 a1 a2 a3 a4 a5 a6 : Option Value} {x : Int32} {n : Int} (hd : decode cc pc = .ok (.iinc 7 n, 3)) (k : GG Γ K kc ks w (pc + 3) (a0 :: a1 :: a2 :: a3 :: a4 :: a5 :: a6 :: some (.int (x + Int32.ofInt n)) :: Lr) (st)) : GG Γ K kc ks w pc (a0 :: a1 :: a2 :: a3 :: a4 :: a5 :: a6 :: some (.int x) :: Lr) (st) := by
  obtain ⟨p, e, R, s, m, args, below, meth, c, Q, d, MC, MS⟩ := K
  obtain ⟨⟨hx, hb, hml, hown, hts⟩, hKK, hdF, hdL, hMC, hMS⟩ := C
  intro H locs cells slots ls r1 r2 r3 r4 r5 r6
  exact z_iinc hx hb hd r6 (j := 7) rfl (fun ls' h' => k H locs cells slots ls' r1 r2 r3 r4 r5 h')
theorem g_iinc7N (C : z_C Γ K cc own nL) {a0 a1 a2 a3 a4 a5 a6 : Option Value} {a : Nat} (hd : decode cc pc = .ok (.iinc 7 1, 3)) (k : GG Γ K kc ks w (pc + 3) (a0 :: a1 :: a2 :: a3 :: a4 :: a5 :: a6 :: some (.int (nI (a + 1))) :: Lr) (st)) : GG Γ K kc ks w pc (a0 :: a1 :: a2 :: a3 :: a4 :: a5 :: a6 :: some (.int (nI a)) :: Lr) (st) := g_iinc7 C hd ((zb_inc1 a).symm ▸ k)
theorem g_iload8 (C : z_C Γ K cc own nL) {a0 a1 a2 a3 a4 a5 a6 a7 : Option Value} {x : Int32} (hd : decode cc pc = .ok (.iload 8, 2)) (k : GG Γ K kc ks w (pc + 2) (a0 :: a1 :: a2 :: a3 :: a4 :: a5 :: a6 :: a7 :: some (.int x) :: Lr) (.int x :: st)) : GG Γ K kc ks w pc (a0 :: a1 :: a2 :: a3 :: a4 :: a5 :: a6 :: a7 :: some (.int x) :: Lr) (st) := by
  obtain ⟨p, e, R, s, m, args, below, meth, c, Q, d, MC, MS⟩ := K
  obtain ⟨⟨hx, hb, hml, hown, hts⟩, hKK, hdF, hdL, hMC, hMS⟩ := C
  intro H locs cells slots ls r1 r2 r3 r4 r5 r6
  exact lv_iload hx hb hd (z_L.at r6 (j := 8) rfl) (k H locs cells slots ls r1 r2 r3 r4 r5 r6)
theorem g_istore8 (C : z_C Γ K cc own nL) {a0 a1 a2 a3 a4 a5 a6 a7 : Option Value} {b : Option Value} {x : Int32} (hd : decode cc pc = .ok (.istore 8, 2)) (k : GG Γ K kc ks w (pc + 2) (a0 :: a1 :: a2 :: a3 :: a4 :: a5 :: a6 :: a7 :: some (.int x) :: Lr) (st)) : GG Γ K kc ks w pc (a0 :: a1 :: a2 :: a3 :: a4 :: a5 :: a6 :: a7 :: b :: Lr) (.int x :: st) := by
  obtain ⟨p, e, R, s, m, args, below, meth, c, Q, d, MC, MS⟩ := K
  obtain ⟨⟨hx, hb, hml, hown, hts⟩, hKK, hdF, hdL, hMC, hMS⟩ := C
  intro H locs cells slots ls r1 r2 r3 r4 r5 r6
  exact lv_istore hx hb hd r6.1 (by simp only [List.length_cons]; omega) rfl (fun ls' h' => k H locs cells slots ls' r1 r2 r3 r4 r5 (z_L.set (v := .int x) (i := 8) r6 rfl h'))
theorem g_aload8 (C : z_C Γ K cc own nL) {a0 a1 a2 a3 a4 a5 a6 a7 : Option Value} {x : Nat} (hd : decode cc pc = .ok (.aload 8, 2)) (k : GG Γ K kc ks w (pc + 2) (a0 :: a1 :: a2 :: a3 :: a4 :: a5 :: a6 :: a7 :: some (.ref x) :: Lr) (.ref x :: st)) : GG Γ K kc ks w pc (a0 :: a1 :: a2 :: a3 :: a4 :: a5 :: a6 :: a7 :: some (.ref x) :: Lr) (st) := by
  obtain ⟨p, e, R, s, m, args, below, meth, c, Q, d, MC, MS⟩ := K
  obtain ⟨⟨hx, hb, hml, hown, hts⟩, hKK, hdF, hdL, hMC, hMS⟩ := C
  intro H locs cells slots ls r1 r2 r3 r4 r5 r6
  exact lv_aload hx hb hd (z_L.at r6 (j := 8) rfl) (k H locs cells slots ls r1 r2 r3 r4 r5 r6)
theorem g_astore8 (C : z_C Γ K cc own nL) {a0 a1 a2 a3 a4 a5 a6 a7 : Option Value} {b : Option Value} {x : Nat} (hd : decode cc pc = .ok (.astore 8, 2)) (k : GG Γ K kc ks w (pc + 2) (a0 :: a1 :: a2 :: a3 :: a4 :: a5 :: a6 :: a7 :: some (.ref x) :: Lr) (st)) : GG Γ K kc ks w pc (a0 :: a1 :: a2 :: a3 :: a4 :: a5 :: a6 :: a7 :: b :: Lr) (.ref x :: st) := by
  obtain ⟨p, e, R, s, m, args, below, meth, c, Q, d, MC, MS⟩ := K
  obtain ⟨⟨hx, hb, hml, hown, hts⟩, hKK, hdF, hdL, hMC, hMS⟩ := C
  intro H locs cells slots ls r1 r2 r3 r4 r5 r6
  exact lv_astore hx hb hd r6.1 (by simp only [List.length_cons]; omega) rfl (fun ls' h' => k H locs cells slots ls' r1 r2 r3 r4 r5 (z_L.set (v := .ref x) (i := 8) r6 rfl h'))
theorem g_iinc8 (C : z_C Γ K cc own nL) {a0 a1 a2 a3 a4 a5 a6 a7 : Option Value} {x : Int32} {n : Int} (hd : decode cc pc = .ok (.iinc 8 n, 3)) (k : GG Γ K kc ks w (pc + 3) (a0 :: a1 :: a2 :: a3 :: a4 :: a5 :: a6 :: a7 :: some (.int (x + Int32.ofInt n)) :: Lr) (st)) : GG Γ K kc ks w pc (a0 :: a1 :: a2 :: a3 :: a4 :: a5 :: a6 :: a7 :: some (.int x) :: Lr) (st) := by
  obtain ⟨p, e, R, s, m, args, below, meth, c, Q, d, MC, MS⟩ := K
  obtain ⟨⟨hx, hb, hml, hown, hts⟩, hKK, hdF, hdL, hMC, hMS⟩ := C
  intro H locs cells slots ls r1 r2 r3 r4 r5 r6
  exact z_iinc hx hb hd r6 (j := 8) rfl (fun ls' h' => k H locs cells slots ls' r1 r2 r3 r4 r5 h')
theorem g_iinc8N (C : z_C Γ K cc own nL) {a0 a1 a2 a3 a4 a5 a6 a7 : Option Value} {a : Nat} (hd : decode cc pc = .ok (.iinc 8 1, 3)) (k : GG Γ K kc ks w (pc + 3) (a0 :: a1 :: a2 :: a3 :: a4 :: a5 :: a6 :: a7 :: some (.int (nI (a + 1))) :: Lr) (st)) : GG Γ K kc ks w pc (a0 :: a1 :: a2 :: a3 :: a4 :: a5 :: a6 :: a7 :: some (.int (nI a)) :: Lr) (st) := g_iinc8 C hd ((zb_inc1 a).symm ▸ k)
theorem g_iload9 (C : z_C Γ K cc own nL) {a0 a1 a2 a3 a4 a5 a6 a7 a8 : Option Value} {x : Int32} (hd : decode cc pc = .ok (.iload 9, 2)) (k : GG Γ K kc ks w (pc + 2) (a0 :: a1 :: a2 :: a3 :: a4 :: a5 :: a6 :: a7 :: a8 :: some (.int x) :: Lr) (.int x :: st)) : GG Γ K kc ks w pc (a0 :: a1 :: a2 :: a3 :: a4 :: a5 :: a6 :: a7 :: a8 :: some (.int x) :: Lr) (st) := by
  obtain ⟨p, e, R, s, m, args, below, meth, c, Q, d, MC, MS⟩ := K
  obtain ⟨⟨hx, hb, hml, hown, hts⟩, hKK, hdF, hdL, hMC, hMS⟩ := C
  intro H locs cells slots ls r1 r2 r3 r4 r5 r6
  exact lv_iload hx hb hd (z_L.at r6 (j := 9) rfl) (k H locs cells slots ls r1 r2 r3 r4 r5 r6)
theorem g_istore9 (C : z_C Γ K cc own nL) {a0 a1 a2 a3 a4 a5 a6 a7 a8 : Option Value} {b : Option Value} {x : Int32} (hd : decode cc pc = .ok (.istore 9, 2)) (k : GG Γ K kc ks w (pc + 2) (a0 :: a1 :: a2 :: a3 :: a4 :: a5 :: a6 :: a7 :: a8 :: some (.int x) :: Lr) (st)) : GG Γ K kc ks w pc (a0 :: a1 :: a2 :: a3 :: a4 :: a5 :: a6 :: a7 :: a8 :: b :: Lr) (.int x :: st) := by
  obtain ⟨p, e, R, s, m, args, below, meth, c, Q, d, MC, MS⟩ := K
  obtain ⟨⟨hx, hb, hml, hown, hts⟩, hKK, hdF, hdL, hMC, hMS⟩ := C
  intro H locs cells slots ls r1 r2 r3 r4 r5 r6
  exact lv_istore hx hb hd r6.1 (by simp only [List.length_cons]; omega) rfl (fun ls' h' => k H locs cells slots ls' r1 r2 r3 r4 r5 (z_L.set (v := .int x) (i := 9) r6 rfl h'))
theorem g_aload9 (C : z_C Γ K cc own nL) {a0 a1 a2 a3 a4 a5 a6 a7 a8 : Option Value} {x : Nat} (hd : decode cc pc = .ok (.aload 9, 2)) (k : GG Γ K kc ks w (pc + 2) (a0 :: a1 :: a2 :: a3 :: a4 :: a5 :: a6 :: a7 :: a8 :: some (.ref x) :: Lr) (.ref x :: st)) : GG Γ K kc ks w pc (a0 :: a1 :: a2 :: a3 :: a4 :: a5 :: a6 :: a7 :: a8 :: some (.ref x) :: Lr) (st) := by
  obtain ⟨p, e, R, s, m, args, below, meth, c, Q, d, MC, MS⟩ := K
  obtain ⟨⟨hx, hb, hml, hown, hts⟩, hKK, hdF, hdL, hMC, hMS⟩ := C
  intro H locs cells slots ls r1 r2 r3 r4 r5 r6
  exact lv_aload hx hb hd (z_L.at r6 (j := 9) rfl) (k H locs cells slots ls r1 r2 r3 r4 r5 r6)
theorem g_astore9 (C : z_C Γ K cc own nL) {a0 a1 a2 a3 a4 a5 a6 a7 a8 : Option Value} {b : Option Value} {x : Nat} (hd : decode cc pc = .ok (.astore 9, 2)) (k : GG Γ K kc ks w (pc + 2) (a0 :: a1 :: a2 :: a3 :: a4 :: a5 :: a6 :: a7 :: a8 :: some (.ref x) :: Lr) (st)) : GG Γ K kc ks w pc (a0 :: a1 :: a2 :: a3 :: a4 :: a5 :: a6 :: a7 :: a8 :: b :: Lr) (.ref x :: st) := by
  obtain ⟨p, e, R, s, m, args, below, meth, c, Q, d, MC, MS⟩ := K
  obtain ⟨⟨hx, hb, hml, hown, hts⟩, hKK, hdF, hdL, hMC, hMS⟩ := C
  intro H locs cells slots ls r1 r2 r3 r4 r5 r6
  exact lv_astore hx hb hd r6.1 (by simp only [List.length_cons]; omega) rfl (fun ls' h' => k H locs cells slots ls' r1 r2 r3 r4 r5 (z_L.set (v := .ref x) (i := 9) r6 rfl h'))
theorem g_iinc9 (C : z_C Γ K cc own nL) {a0 a1 a2 a3 a4 a5 a6 a7 a8 : Option Value} {x : Int32} {n : Int} (hd : decode cc pc = .ok (.iinc 9 n, 3)) (k : GG Γ K kc ks w (pc + 3) (a0 :: a1 :: a2 :: a3 :: a4 :: a5 :: a6 :: a7 :: a8 :: some (.int (x + Int32.ofInt n)) :: Lr) (st)) : GG Γ K kc ks w pc (a0 :: a1 :: a2 :: a3 :: a4 :: a5 :: a6 :: a7 :: a8 :: some (.int x) :: Lr) (st) := by
  obtain ⟨p, e, R, s, m, args, below, meth, c, Q, d, MC, MS⟩ := K
  obtain ⟨⟨hx, hb, hml, hown, hts⟩, hKK, hdF, hdL, hMC, hMS⟩ := C
  intro H locs cells slots ls r1 r2 r3 r4 r5 r6
  exact z_iinc hx hb hd r6 (j := 9) rfl (fun ls' h' => k H locs cells slots ls' r1 r2 r3 r4 r5 h')
theorem g_iinc9N (C : z_C Γ K cc own nL) {a0 a1 a2 a3 a4 a5 a6 a7 a8 : Option Value} {a : Nat} (hd : decode cc pc = .ok (.iinc 9 1, 3)) (k : GG Γ K kc ks w (pc + 3) (a0 :: a1 :: a2 :: a3 :: a4 :: a5 :: a6 :: a7 :: a8 :: some (.int (nI (a + 1))) :: Lr) (st)) : GG Γ K kc ks w pc (a0 :: a1 :: a2 :: a3 :: a4 :: a5 :: a6 :: a7 :: a8 :: some (.int (nI a)) :: Lr) (st) := g_iinc9 C hd ((zb_inc1 a).symm ▸ k)
theorem g_iload10 (C : z_C Γ K cc own nL) {a0 a1 a2 a3 a4 a5 a6 a7 a8 a9 : Option Value} {x : Int32} (hd : decode cc pc = .ok (.iload 10, 2)) (k : GG Γ K kc ks w (pc + 2) (a0 :: a1 :: a2 :: a3 :: a4 :: a5 :: a6 :: a7 :: a8 :: a9 :: some (.int x) :: Lr) (.int x :: st)) : GG Γ K kc ks w pc (a0 :: a1 :: a2 :: a3 :: a4 :: a5 :: a6 :: a7 :: a8 :: a9 :: some (.int x) :: Lr) (st) := by
  obtain ⟨p, e, R, s, m, args, below, meth, c, Q, d, MC, MS⟩ := K
  obtain ⟨⟨hx, hb, hml, hown, hts⟩, hKK, hdF, hdL, hMC, hMS⟩ := C
  intro H locs cells slots ls r1 r2 r3 r4 r5 r6
  exact lv_iload hx hb hd (z_L.at r6 (j := 10) rfl) (k H locs cells slots ls r1 r2 r3 r4 r5 r6)
theorem g_istore10 (C : z_C Γ K cc own nL) {a0 a1 a2 a3 a4 a5 a6 a7 a8 a9 : Option Value} {b : Option Value} {x : Int32} (hd : decode cc pc = .ok (.istore 10, 2)) (k : GG Γ K kc ks w (pc + 2) (a0 :: a1 :: a2 :: a3 :: a4 :: a5 :: a6 :: a7 :: a8 :: a9 :: some (.int x) :: Lr) (st)) : GG Γ K kc ks w pc (a0 :: a1 :: a2 :: a3 :: a4 :: a5 :: a6 :: a7 :: a8 :: a9 :: b :: Lr) (.int x :: st) := by
  obtain ⟨p, e, R, s, m, args, below, meth, c, Q, d, MC, MS⟩ := K
  obtain ⟨⟨hx, hb, hml, hown, hts⟩, hKK, hdF, hdL, hMC, hMS⟩ := C
  intro H locs cells slots ls r1 r2 r3 r4 r5 r6
  exact lv_istore hx hb hd r6.1 (by simp only [List.length_cons]; omega) rfl (fun ls' h' => k H locs cells slots ls' r1 r2 r3 r4 r5 (z_L.set (v := .int x) (i := 10) r6 rfl h'))
theorem g_aload10 (C : z_C Γ K cc own nL) {a0 a1 a2 a3 a4 a5 a6 a7 a8 a9 : Option Value} {x : Nat} (hd : decode cc pc = .ok (.aload 10, 2)) (k : GG Γ K kc ks w (pc + 2) (a0 :: a1 :: a2 :: a3 :: a4 :: a5 :: a6 :: a7 :: a8 :: a9 :: some (.ref x) :: Lr) (.ref x :: st)) : GG Γ K kc ks w pc (a0 :: a1 :: a2 :: a3 :: a4 :: a5 :: a6 :: a7 :: a8 :: a9 :: some (.ref x) :: Lr) (st) := by
  obtain ⟨p, e, R, s, m, args, below, meth, c, Q, d, MC, MS⟩ := K
  obtain ⟨⟨hx, hb, hml, hown, hts⟩, hKK, hdF, hdL, hMC, hMS⟩ := C
  intro H locs cells slots ls r1 r2 r3 r4 r5 r6
  exact lv_aload hx hb hd (z_L.at r6 (j := 10) rfl) (k H locs cells slots ls r1 r2 r3 r4 r5 r6)
theorem g_astore10 (C : z_C Γ K cc own nL) {a0 a1 a2 a3 a4 a5 a6 a7 a8 a9 : Option Value} {b : Option Value} {x : Nat} (hd : decode cc pc = .ok (.astore 10, 2)) (k : GG Γ K kc ks w (pc + 2) (a0 :: a1 :: a2 :: a3 :: a4 :: a5 :: a6 :: a7 :: a8 :: a9 :: some (.ref x) :: Lr) (st)) : GG Γ K kc ks w pc (a0 :: a1 :: a2 :: a3 :: a4 :: a5 :: a6 :: a7 :: a8 :: a9 :: b :: Lr) (.ref x :: st) := by
  obtain ⟨p, e, R, s, m, args, below, meth, c, Q, d, MC, MS⟩ := K
  obtain ⟨⟨hx, hb, hml, hown, hts⟩, hKK, hdF, hdL, hMC, hMS⟩ := C
  intro H locs cells slots ls r1 r2 r3 r4 r5 r6
  exact lv_astore hx hb hd r6.1 (by simp only [List.length_cons]; omega) rfl (fun ls' h' => k H locs cells slots ls' r1 r2 r3 r4 r5 (z_L.set (v := .ref x) (i := 10) r6 rfl h'))
theorem g_iinc10 (C : z_C Γ K cc own nL) {a0 a1 a2 a3 a4 a5 a6 a7 a8 a9 : Option Value} {x : Int32} {n : Int} (hd : decode cc pc = .ok (.iinc 10 n, 3)) (k : GG Γ K kc ks w (pc + 3) (a0 :: a1 :: a2 :: a3 :: a4 :: a5 :: a6 :: a7 :: a8 :: a9 :: some (.int (x + Int32.ofInt n)) :: Lr) (st)) : GG Γ K kc ks w pc (a0 :: a1 :: a2 :: a3 :: a4 :: a5 :: a6 :: a7 :: a8 :: a9 :: some (.int x) :: Lr) (st) := by
  obtain ⟨p, e, R, s, m, args, below, meth, c, Q, d, MC, MS⟩ := K
  obtain ⟨⟨hx, hb, hml, hown, hts⟩, hKK, hdF, hdL, hMC, hMS⟩ := C
  intro H locs cells slots ls r1 r2 r3 r4 r5 r6
  exact z_iinc hx hb hd r6 (j := 10) rfl (fun ls' h' => k H locs cells slots ls' r1 r2 r3 r4 r5 h')
theorem g_iinc10N (C : z_C Γ K cc own nL) {a0 a1 a2 a3 a4 a5 a6 a7 a8 a9 : Option Value} {a : Nat} (hd : decode cc pc = .ok (.iinc 10 1, 3)) (k : GG Γ K kc ks w (pc + 3) (a0 :: a1 :: a2 :: a3 :: a4 :: a5 :: a6 :: a7 :: a8 :: a9 :: some (.int (nI (a + 1))) :: Lr) (st)) : GG Γ K kc ks w pc (a0 :: a1 :: a2 :: a3 :: a4 :: a5 :: a6 :: a7 :: a8 :: a9 :: some (.int (nI a)) :: Lr) (st) := g_iinc10 C hd ((zb_inc1 a).symm ▸ k)
theorem g_iload11 (C : z_C Γ K cc own nL) {a0 a1 a2 a3 a4 a5 a6 a7 a8 a9 a10 : Option Value} {x : Int32} (hd : decode cc pc = .ok (.iload 11, 2)) (k : GG Γ K kc ks w (pc + 2) (a0 :: a1 :: a2 :: a3 :: a4 :: a5 :: a6 :: a7 :: a8 :: a9 :: a10 :: some (.int x) :: Lr) (.int x :: st)) : GG Γ K kc ks w pc (a0 :: a1 :: a2 :: a3 :: a4 :: a5 :: a6 :: a7 :: a8 :: a9 :: a10 :: some (.int x) :: Lr) (st) := by
  obtain ⟨p, e, R, s, m, args, below, meth, c, Q, d, MC, MS⟩ := K
  obtain ⟨⟨hx, hb, hml, hown, hts⟩, hKK, hdF, hdL, hMC, hMS⟩ := C
  intro H locs cells slots ls r1 r2 r3 r4 r5 r6
  exact lv_iload hx hb hd (z_L.at r6 (j := 11) rfl) (k H locs cells slots ls r1 r2 r3 r4 r5 r6)
theorem g_istore11 (C : z_C Γ K cc own nL) {a0 a1 a2 a3 a4 a5 a6 a7 a8 a9 a10 : Option Value} {b : Option Value} {x : Int32} (hd : decode cc pc = .ok (.istore 11, 2)) (k : GG Γ K kc ks w (pc + 2) (a0 :: a1 :: a2 :: a3 :: a4 :: a5 :: a6 :: a7 :: a8 :: a9 :: a10 :: some (.int x) :: Lr) (st)) : GG Γ K kc ks w pc (a0 :: a1 :: a2 :: a3 :: a4 :: a5 :: a6 :: a7 :: a8 :: a9 :: a10 :: b :: Lr) (.int x :: st) := by
  obtain ⟨p, e, R, s, m, args, below, meth, c, Q, d, MC, MS⟩ := K
  obtain ⟨⟨hx, hb, hml, hown, hts⟩, hKK, hdF, hdL, hMC, hMS⟩ := C
  intro H locs cells slots ls r1 r2 r3 r4 r5 r6
  exact lv_istore hx hb hd r6.1 (by simp only [List.length_cons]; omega) rfl (fun ls' h' => k H locs cells slots ls' r1 r2 r3 r4 r5 (z_L.set (v := .int x) (i := 11) r6 rfl h'))
theorem g_aload11 (C : z_C Γ K cc own nL) {a0 a1 a2 a3 a4 a5 a6 a7 a8 a9 a10 : Option Value} {x : Nat} (hd : decode cc pc = .ok (.aload 11, 2)) (k : GG Γ K kc ks w (pc + 2) (a0 :: a1 :: a2 :: a3 :: a4 :: a5 :: a6 :: a7 :: a8 :: a9 :: a10 :: some (.ref x) :: Lr) (.ref x :: st)) : GG Γ K kc ks w pc (a0 :: a1 :: a2 :: a3 :: a4 :: a5 :: a6 :: a7 :: a8 :: a9 :: a10 :: some (.ref x) :: Lr) (st) := by
  obtain ⟨p, e, R, s, m, args, below, meth, c, Q, d, MC, MS⟩ := K
  obtain ⟨⟨hx, hb, hml, hown, hts⟩, hKK, hdF, hdL, hMC, hMS⟩ := C
  intro H locs cells slots ls r1 r2 r3 r4 r5 r6
  exact lv_aload hx hb hd (z_L.at r6 (j := 11) rfl) (k H locs cells slots ls r1 r2 r3 r4 r5 r6)
theorem g_astore11 (C : z_C Γ K cc own nL) {a0 a1 a2 a3 a4 a5 a6 a7 a8 a9 a10 : Option Value} {b : Option Value} {x : Nat} (hd : decode cc pc = .ok (.astore 11, 2)) (k : GG Γ K kc ks w (pc + 2) (a0 :: a1 :: a2 :: a3 :: a4 :: a5 :: a6 :: a7 :: a8 :: a9 :: a10 :: some (.ref x) :: Lr) (st)) : GG Γ K kc ks w pc (a0 :: a1 :: a2 :: a3 :: a4 :: a5 :: a6 :: a7 :: a8 :: a9 :: a10 :: b :: Lr) (.ref x :: st) := by
  obtain ⟨p, e, R, s, m, args, below, meth, c, Q, d, MC, MS⟩ := K
  obtain ⟨⟨hx, hb, hml, hown, hts⟩, hKK, hdF, hdL, hMC, hMS⟩ := C
  intro H locs cells slots ls r1 r2 r3 r4 r5 r6
  exact lv_astore hx hb hd r6.1 (by simp only [List.length_cons]; omega) rfl (fun ls' h' => k H locs cells slots ls' r1 r2 r3 r4 r5 (z_L.set (v := .ref x) (i := 11) r6 rfl h'))
theorem g_iinc11 (C : z_C Γ K cc own nL) {a0 a1 a2 a3 a4 a5 a6 a7 a8 a9 a10 : Option Value} {x : Int32} {n : Int} (hd : decode cc pc = .ok (.iinc 11 n, 3)) (k : GG Γ K kc ks w (pc + 3) (a0 :: a1 :: a2 :: a3 :: a4 :: a5 :: a6 :: a7 :: a8 :: a9 :: a10 :: some (.int (x + Int32.ofInt n)) :: Lr) (st)) : GG Γ K kc ks w pc (a0 :: a1 :: a2 :: a3 :: a4 :: a5 :: a6 :: a7 :: a8 :: a9 :: a10 :: some (.int x) :: Lr) (st) := by
  obtain ⟨p, e, R, s, m, args, below, meth, c, Q, d, MC, MS⟩ := K
  obtain ⟨⟨hx, hb, hml, hown, hts⟩, hKK, hdF, hdL, hMC, hMS⟩ := C
  intro H locs cells slots ls r1 r2 r3 r4 r5 r6
  exact z_iinc hx hb hd r6 (j := 11) rfl (fun ls' h' => k H locs cells slots ls' r1 r2 r3 r4 r5 h')
theorem g_iinc11N (C : z_C Γ K cc own nL) {a0 a1 a2 a3 a4 a5 a6 a7 a8 a9 a10 : Option Value} {a : Nat} (hd : decode cc pc = .ok (.iinc 11 1, 3)) (k : GG Γ K kc ks w (pc + 3) (a0 :: a1 :: a2 :: a3 :: a4 :: a5 :: a6 :: a7 :: a8 :: a9 :: a10 :: some (.int (nI (a + 1))) :: Lr) (st)) : GG Γ K kc ks w pc (a0 :: a1 :: a2 :: a3 :: a4 :: a5 :: a6 :: a7 :: a8 :: a9 :: a10 :: some (.int (nI a)) :: Lr) (st) := g_iinc11 C hd ((zb_inc1 a).symm ▸ k)
theorem g_goto (C : z_C Γ K cc own nL) {off : Int} (tgt : Nat) (hd : decode cc pc = .ok (.goto off, 3)) (ht : (pc : Int) + off = (tgt : Int)) (k : GG Γ K kc ks w tgt L st) : GG Γ K kc ks w pc L st := by
  obtain ⟨p, e, R, s, m, args, below, meth, c, Q, d, MC, MS⟩ := K
  obtain ⟨⟨hx, hb, hml, hown, hts⟩, hKK, hdF, hdL, hMC, hMS⟩ := C
  intro H locs cells slots ls r1 r2 r3 r4 r5 r6
  exact lv_goto hx hb hd ht (k H locs cells slots ls r1 r2 r3 r4 r5 r6)
theorem g_if_eq (C : z_C Γ K cc own nL) {off : Int} {x : Int32} (tgt : Nat) (hd : decode cc pc = .ok (.ifCond .eq off, 3)) (ht : (pc : Int) + off = (tgt : Int)) (kt : x = 0 → GG Γ K kc ks w tgt L (st)) (kf : ¬ x = 0 → GG Γ K kc ks w (pc + 3) L (st)) : GG Γ K kc ks w pc L (.int x :: st) := by
  obtain ⟨p, e, R, s, m, args, below, meth, c, Q, d, MC, MS⟩ := K
  obtain ⟨⟨hx, hb, hml, hown, hts⟩, hKK, hdF, hdL, hMC, hMS⟩ := C
  intro H locs cells slots ls r1 r2 r3 r4 r5 r6
  exact lv_if_eq hx hb hd ht (fun h => kt h H locs cells slots ls r1 r2 r3 r4 r5 r6) (fun h => kf h H locs cells slots ls r1 r2 r3 r4 r5 r6)
theorem g_if_ne (C : z_C Γ K cc own nL) {off : Int} {x : Int32} (tgt : Nat) (hd : decode cc pc = .ok (.ifCond .ne off, 3)) (ht : (pc : Int) + off = (tgt : Int)) (kt : ¬ x = 0 → GG Γ K kc ks w tgt L (st)) (kf : x = 0 → GG Γ K kc ks w (pc + 3) L (st)) : GG Γ K kc ks w pc L (.int x :: st) := by
  obtain ⟨p, e, R, s, m, args, below, meth, c, Q, d, MC, MS⟩ := K
  obtain ⟨⟨hx, hb, hml, hown, hts⟩, hKK, hdF, hdL, hMC, hMS⟩ := C
  intro H locs cells slots ls r1 r2 r3 r4 r5 r6
  exact lv_if_ne hx hb hd ht (fun h => kt h H locs cells slots ls r1 r2 r3 r4 r5 r6) (fun h => kf h H locs cells slots ls r1 r2 r3 r4 r5 r6)
theorem g_if_lt (C : z_C Γ K cc own nL) {off : Int} {x : Int32} (tgt : Nat) (hd : decode cc pc = .ok (.ifCond .lt off, 3)) (ht : (pc : Int) + off = (tgt : Int)) (kt : x < 0 → GG Γ K kc ks w tgt L (st)) (kf : ¬ x < 0 → GG Γ K kc ks w (pc + 3) L (st)) : GG Γ K kc ks w pc L (.int x :: st) := by
  obtain ⟨p, e, R, s, m, args, below, meth, c, Q, d, MC, MS⟩ := K
  obtain ⟨⟨hx, hb, hml, hown, hts⟩, hKK, hdF, hdL, hMC, hMS⟩ := C
  intro H locs cells slots ls r1 r2 r3 r4 r5 r6
  exact lv_if_lt hx hb hd ht (fun h => kt h H locs cells slots ls r1 r2 r3 r4 r5 r6) (fun h => kf h H locs cells slots ls r1 r2 r3 r4 r5 r6)
theorem g_if_ge (C : z_C Γ K cc own nL) {off : Int} {x : Int32} (tgt : Nat) (hd : decode cc pc = .ok (.ifCond .ge off, 3)) (ht : (pc : Int) + off = (tgt : Int)) (kt : 0 ≤ x → GG Γ K kc ks w tgt L (st)) (kf : ¬ 0 ≤ x → GG Γ K kc ks w (pc + 3) L (st)) : GG Γ K kc ks w pc L (.int x :: st) := by
  obtain ⟨p, e, R, s, m, args, below, meth, c, Q, d, MC, MS⟩ := K
  obtain ⟨⟨hx, hb, hml, hown, hts⟩, hKK, hdF, hdL, hMC, hMS⟩ := C
  intro H locs cells slots ls r1 r2 r3 r4 r5 r6
  exact lv_if_ge hx hb hd ht (fun h => kt h H locs cells slots ls r1 r2 r3 r4 r5 r6) (fun h => kf h H locs cells slots ls r1 r2 r3 r4 r5 r6)
theorem g_if_gt (C : z_C Γ K cc own nL) {off : Int} {x : Int32} (tgt : Nat) (hd : decode cc pc = .ok (.ifCond .gt off, 3)) (ht : (pc : Int) + off = (tgt : Int)) (kt : 0 < x → GG Γ K kc ks w tgt L (st)) (kf : ¬ 0 < x → GG Γ K kc ks w (pc + 3) L (st)) : GG Γ K kc ks w pc L (.int x :: st) := by
  obtain ⟨p, e, R, s, m, args, below, meth, c, Q, d, MC, MS⟩ := K
  obtain ⟨⟨hx, hb, hml, hown, hts⟩, hKK, hdF, hdL, hMC, hMS⟩ := C
  intro H locs cells slots ls r1 r2 r3 r4 r5 r6
  exact lv_if_gt hx hb hd ht (fun h => kt h H locs cells slots ls r1 r2 r3 r4 r5 r6) (fun h => kf h H locs cells slots ls r1 r2 r3 r4 r5 r6)
theorem g_if_le (C : z_C Γ K cc own nL) {off : Int} {x : Int32} (tgt : Nat) (hd : decode cc pc = .ok (.ifCond .le off, 3)) (ht : (pc : Int) + off = (tgt : Int)) (kt : x ≤ 0 → GG Γ K kc ks w tgt L (st)) (kf : ¬ x ≤ 0 → GG Γ K kc ks w (pc + 3) L (st)) : GG Γ K kc ks w pc L (.int x :: st) := by
  obtain ⟨p, e, R, s, m, args, below, meth, c, Q, d, MC, MS⟩ := K
  obtain ⟨⟨hx, hb, hml, hown, hts⟩, hKK, hdF, hdL, hMC, hMS⟩ := C
  intro H locs cells slots ls r1 r2 r3 r4 r5 r6
  exact lv_if_le hx hb hd ht (fun h => kt h H locs cells slots ls r1 r2 r3 r4 r5 r6) (fun h => kf h H locs cells slots ls r1 r2 r3 r4 r5 r6)
theorem g_if_eqN (C : z_C Γ K cc own nL) {off : Int} {a : Nat} (tgt : Nat) (ha : a < 2 ^ 31) (hd : decode cc pc = .ok (.ifCond .eq off, 3)) (ht : (pc : Int) + off = (tgt : Int)) (kt : a = 0 → GG Γ K kc ks w tgt L (st)) (kf : 0 < a → GG Γ K kc ks w (pc + 3) L (st)) : GG Γ K kc ks w pc L (.int (nI a) :: st) := g_if_eq C tgt hd ht (fun h => kt (zb_if_eq_t ha h)) (fun h => kf (zb_if_eq_f ha h))
theorem g_if_neN (C : z_C Γ K cc own nL) {off : Int} {a : Nat} (tgt : Nat) (ha : a < 2 ^ 31) (hd : decode cc pc = .ok (.ifCond .ne off, 3)) (ht : (pc : Int) + off = (tgt : Int)) (kt : 0 < a → GG Γ K kc ks w tgt L (st)) (kf : a = 0 → GG Γ K kc ks w (pc + 3) L (st)) : GG Γ K kc ks w pc L (.int (nI a) :: st) := g_if_ne C tgt hd ht (fun h => kt (zb_if_ne_t ha h)) (fun h => kf (zb_if_ne_f ha h))
theorem g_if_gtN (C : z_C Γ K cc own nL) {off : Int} {a : Nat} (tgt : Nat) (ha : a < 2 ^ 31) (hd : decode cc pc = .ok (.ifCond .gt off, 3)) (ht : (pc : Int) + off = (tgt : Int)) (kt : 0 < a → GG Γ K kc ks w tgt L (st)) (kf : a = 0 → GG Γ K kc ks w (pc + 3) L (st)) : GG Γ K kc ks w pc L (.int (nI a) :: st) := g_if_gt C tgt hd ht (fun h => kt (zb_if_gt_t ha h)) (fun h => kf (zb_if_gt_f ha h))
theorem g_if_leN (C : z_C Γ K cc own nL) {off : Int} {a : Nat} (tgt : Nat) (ha : a < 2 ^ 31) (hd : decode cc pc = .ok (.ifCond .le off, 3)) (ht : (pc : Int) + off = (tgt : Int)) (kt : a = 0 → GG Γ K kc ks w tgt L (st)) (kf : 0 < a → GG Γ K kc ks w (pc + 3) L (st)) : GG Γ K kc ks w pc L (.int (nI a) :: st) := g_if_le C tgt hd ht (fun h => kt (zb_if_le_t ha h)) (fun h => kf (zb_if_le_f ha h))
theorem g_if_ltN (C : z_C Γ K cc own nL) {off : Int} {a : Nat} (tgt : Nat) (ha : a < 2 ^ 31) (hd : decode cc pc = .ok (.ifCond .lt off, 3)) (ht : (pc : Int) + off = (tgt : Int)) (kt : False → GG Γ K kc ks w tgt L (st)) (kf : True → GG Γ K kc ks w (pc + 3) L (st)) : GG Γ K kc ks w pc L (.int (nI a) :: st) := g_if_lt C tgt hd ht (fun h => kt (zb_if_lt_t ha h)) (fun h => kf (zb_if_lt_f ha h))
theorem g_if_geN (C : z_C Γ K cc own nL) {off : Int} {a : Nat} (tgt : Nat) (ha : a < 2 ^ 31) (hd : decode cc pc = .ok (.ifCond .ge off, 3)) (ht : (pc : Int) + off = (tgt : Int)) (kt : True → GG Γ K kc ks w tgt L (st)) (kf : False → GG Γ K kc ks w (pc + 3) L (st)) : GG Γ K kc ks w pc L (.int (nI a) :: st) := g_if_ge C tgt hd ht (fun h => kt (zb_if_ge_t ha h)) (fun h => kf (zb_if_ge_f ha h))
theorem g_icmp_eq (C : z_C Γ K cc own nL) {off : Int} {x y : Int32} (tgt : Nat) (hd : decode cc pc = .ok (.if_icmp .eq off, 3)) (ht : (pc : Int) + off = (tgt : Int)) (kt : x = y → GG Γ K kc ks w tgt L (st)) (kf : ¬ x = y → GG Γ K kc ks w (pc + 3) L (st)) : GG Γ K kc ks w pc L (.int y :: .int x :: st) := by
  obtain ⟨p, e, R, s, m, args, below, meth, c, Q, d, MC, MS⟩ := K
  obtain ⟨⟨hx, hb, hml, hown, hts⟩, hKK, hdF, hdL, hMC, hMS⟩ := C
  intro H locs cells slots ls r1 r2 r3 r4 r5 r6
  exact lv_icmp_eq hx hb hd ht (fun h => kt h H locs cells slots ls r1 r2 r3 r4 r5 r6) (fun h => kf h H locs cells slots ls r1 r2 r3 r4 r5 r6)
theorem g_icmp_ne (C : z_C Γ K cc own nL) {off : Int} {x y : Int32} (tgt : Nat) (hd : decode cc pc = .ok (.if_icmp .ne off, 3)) (ht : (pc : Int) + off = (tgt : Int)) (kt : ¬ x = y → GG Γ K kc ks w tgt L (st)) (kf : x = y → GG Γ K kc ks w (pc + 3) L (st)) : GG Γ K kc ks w pc L (.int y :: .int x :: st) := by
  obtain ⟨p, e, R, s, m, args, below, meth, c, Q, d, MC, MS⟩ := K
  obtain ⟨⟨hx, hb, hml, hown, hts⟩, hKK, hdF, hdL, hMC, hMS⟩ := C
  intro H locs cells slots ls r1 r2 r3 r4 r5 r6
  exact lv_icmp_ne hx hb hd ht (fun h => kt h H locs cells slots ls r1 r2 r3 r4 r5 r6) (fun h => kf h H locs cells slots ls r1 r2 r3 r4 r5 r6)
theorem g_icmp_lt (C : z_C Γ K cc own nL) {off : Int} {x y : Int32} (tgt : Nat) (hd : decode cc pc = .ok (.if_icmp .lt off, 3)) (ht : (pc : Int) + off = (tgt : Int)) (kt : x < y → GG Γ K kc ks w tgt L (st)) (kf : ¬ x < y → GG Γ K kc ks w (pc + 3) L (st)) : GG Γ K kc ks w pc L (.int y :: .int x :: st) := by
  obtain ⟨p, e, R, s, m, args, below, meth, c, Q, d, MC, MS⟩ := K
  obtain ⟨⟨hx, hb, hml, hown, hts⟩, hKK, hdF, hdL, hMC, hMS⟩ := C
  intro H locs cells slots ls r1 r2 r3 r4 r5 r6
  exact lv_icmp_lt hx hb hd ht (fun h => kt h H locs cells slots ls r1 r2 r3 r4 r5 r6) (fun h => kf h H locs cells slots ls r1 r2 r3 r4 r5 r6)
theorem g_icmp_ge (C : z_C Γ K cc own nL) {off : Int} {x y : Int32} (tgt : Nat) (hd : decode cc pc = .ok (.if_icmp .ge off, 3)) (ht : (pc : Int) + off = (tgt : Int)) (kt : y ≤ x → GG Γ K kc ks w tgt L (st)) (kf : ¬ y ≤ x → GG Γ K kc ks w (pc + 3) L (st)) : GG Γ K kc ks w pc L (.int y :: .int x :: st) := by
  obtain ⟨p, e, R, s, m, args, below, meth, c, Q, d, MC, MS⟩ := K
  obtain ⟨⟨hx, hb, hml, hown, hts⟩, hKK, hdF, hdL, hMC, hMS⟩ := C
  intro H locs cells slots ls r1 r2 r3 r4 r5 r6
  exact lv_icmp_ge hx hb hd ht (fun h => kt h H locs cells slots ls r1 r2 r3 r4 r5 r6) (fun h => kf h H locs cells slots ls r1 r2 r3 r4 r5 r6)
theorem g_icmp_gt (C : z_C Γ K cc own nL) {off : Int} {x y : Int32} (tgt : Nat) (hd : decode cc pc = .ok (.if_icmp .gt off, 3)) (ht : (pc : Int) + off = (tgt : Int)) (kt : y < x → GG Γ K kc ks w tgt L (st)) (kf : ¬ y < x → GG Γ K kc ks w (pc + 3) L (st)) : GG Γ K kc ks w pc L (.int y :: .int x :: st) := by
  obtain ⟨p, e, R, s, m, args, below, meth, c, Q, d, MC, MS⟩ := K
  obtain ⟨⟨hx, hb, hml, hown, hts⟩, hKK, hdF, hdL, hMC, hMS⟩ := C
  intro H locs cells slots ls r1 r2 r3 r4 r5 r6
  exact lv_icmp_gt hx hb hd ht (fun h => kt h H locs cells slots ls r1 r2 r3 r4 r5 r6) (fun h => kf h H locs cells slots ls r1 r2 r3 r4 r5 r6)
theorem g_icmp_le (C : z_C Γ K cc own nL) {off : Int} {x y : Int32} (tgt : Nat) (hd : decode cc pc = .ok (.if_icmp .le off, 3)) (ht : (pc : Int) + off = (tgt : Int)) (kt : x ≤ y → GG Γ K kc ks w tgt L (st)) (kf : ¬ x ≤ y → GG Γ K kc ks w (pc + 3) L (st)) : GG Γ K kc ks w pc L (.int y :: .int x :: st) := by
  obtain ⟨p, e, R, s, m, args, below, meth, c, Q, d, MC, MS⟩ := K
  obtain ⟨⟨hx, hb, hml, hown, hts⟩, hKK, hdF, hdL, hMC, hMS⟩ := C
  intro H locs cells slots ls r1 r2 r3 r4 r5 r6
  exact lv_icmp_le hx hb hd ht (fun h => kt h H locs cells slots ls r1 r2 r3 r4 r5 r6) (fun h => kf h H locs cells slots ls r1 r2 r3 r4 r5 r6)
theorem g_icmp_eqN (C : z_C Γ K cc own nL) {off : Int} {a b : Nat} (tgt : Nat) (ha : a < 2 ^ 31) (hb : b < 2 ^ 31) (hd : decode cc pc = .ok (.if_icmp .eq off, 3)) (ht : (pc : Int) + off = (tgt : Int)) (kt : a = b → GG Γ K kc ks w tgt L (st)) (kf : a ≠ b → GG Γ K kc ks w (pc + 3) L (st)) : GG Γ K kc ks w pc L (.int (nI b) :: .int (nI a) :: st) := g_icmp_eq C tgt hd ht (fun h => kt ((nI_eq ha hb).mp h)) (fun h => kf (fun q => h ((nI_eq ha hb).mpr q)))
theorem g_icmp_neN (C : z_C Γ K cc own nL) {off : Int} {a b : Nat} (tgt : Nat) (ha : a < 2 ^ 31) (hb : b < 2 ^ 31) (hd : decode cc pc = .ok (.if_icmp .ne off, 3)) (ht : (pc : Int) + off = (tgt : Int)) (kt : a ≠ b → GG Γ K kc ks w tgt L (st)) (kf : a = b → GG Γ K kc ks w (pc + 3) L (st)) : GG Γ K kc ks w pc L (.int (nI b) :: .int (nI a) :: st) := g_icmp_ne C tgt hd ht (fun h => kt (fun q => h ((nI_eq ha hb).mpr q))) (fun h => kf ((nI_eq ha hb).mp h))
theorem g_icmp_ltN (C : z_C Γ K cc own nL) {off : Int} {a b : Nat} (tgt : Nat) (ha : a < 2 ^ 31) (hb : b < 2 ^ 31) (hd : decode cc pc = .ok (.if_icmp .lt off, 3)) (ht : (pc : Int) + off = (tgt : Int)) (kt : a < b → GG Γ K kc ks w tgt L (st)) (kf : b ≤ a → GG Γ K kc ks w (pc + 3) L (st)) : GG Γ K kc ks w pc L (.int (nI b) :: .int (nI a) :: st) := g_icmp_lt C tgt hd ht (fun h => kt ((nI_ltI ha hb).mp h)) (fun h => kf (Nat.not_lt.mp fun q => h ((nI_ltI ha hb).mpr q)))
theorem g_icmp_geN (C : z_C Γ K cc own nL) {off : Int} {a b : Nat} (tgt : Nat) (ha : a < 2 ^ 31) (hb : b < 2 ^ 31) (hd : decode cc pc = .ok (.if_icmp .ge off, 3)) (ht : (pc : Int) + off = (tgt : Int)) (kt : b ≤ a → GG Γ K kc ks w tgt L (st)) (kf : a < b → GG Γ K kc ks w (pc + 3) L (st)) : GG Γ K kc ks w pc L (.int (nI b) :: .int (nI a) :: st) := g_icmp_ge C tgt hd ht (fun h => kt ((nI_leI hb ha).mp h)) (fun h => kf (Nat.not_le.mp fun q => h ((nI_leI hb ha).mpr q)))
theorem g_icmp_gtN (C : z_C Γ K cc own nL) {off : Int} {a b : Nat} (tgt : Nat) (ha : a < 2 ^ 31) (hb : b < 2 ^ 31) (hd : decode cc pc = .ok (.if_icmp .gt off, 3)) (ht : (pc : Int) + off = (tgt : Int)) (kt : b < a → GG Γ K kc ks w tgt L (st)) (kf : a ≤ b → GG Γ K kc ks w (pc + 3) L (st)) : GG Γ K kc ks w pc L (.int (nI b) :: .int (nI a) :: st) := g_icmp_gt C tgt hd ht (fun h => kt ((nI_ltI hb ha).mp h)) (fun h => kf (Nat.not_lt.mp fun q => h ((nI_ltI hb ha).mpr q)))
theorem g_icmp_leN (C : z_C Γ K cc own nL) {off : Int} {a b : Nat} (tgt : Nat) (ha : a < 2 ^ 31) (hb : b < 2 ^ 31) (hd : decode cc pc = .ok (.if_icmp .le off, 3)) (ht : (pc : Int) + off = (tgt : Int)) (kt : a ≤ b → GG Γ K kc ks w tgt L (st)) (kf : b < a → GG Γ K kc ks w (pc + 3) L (st)) : GG Γ K kc ks w pc L (.int (nI b) :: .int (nI a) :: st) := g_icmp_le C tgt hd ht (fun h => kt ((nI_leI ha hb).mp h)) (fun h => kf (Nat.not_le.mp fun q => h ((nI_leI ha hb).mpr q)))
theorem g_ifnonnull (C : z_C Γ K cc own nL) {off : Int} {x : Nat} (tgt : Nat) (hd : decode cc pc = .ok (.ifnonnull off, 3)) (ht : (pc : Int) + off = (tgt : Int)) (k : GG Γ K kc ks w tgt L st) : GG Γ K kc ks w pc L (.ref x :: st) := by
  obtain ⟨p, e, R, s, m, args, below, meth, c, Q, d, MC, MS⟩ := K
  obtain ⟨⟨hx, hb, hml, hown, hts⟩, hKK, hdF, hdL, hMC, hMS⟩ := C
  intro H locs cells slots ls r1 r2 r3 r4 r5 r6
  exact lv_ifnonnull hx hb hd ht (k H locs cells slots ls r1 r2 r3 r4 r5 r6)
theorem g_ifnonnullN (C : z_C Γ K cc own nL) {off : Int} (hd : decode cc pc = .ok (.ifnonnull off, 3)) (k : GG Γ K kc ks w (pc + 3) L st) : GG Γ K kc ks w pc L (.null :: st) := by
  obtain ⟨p, e, R, s, m, args, below, meth, c, Q, d, MC, MS⟩ := K
  obtain ⟨⟨hx, hb, hml, hown, hts⟩, hKK, hdF, hdL, hMC, hMS⟩ := C
  intro H locs cells slots ls r1 r2 r3 r4 r5 r6
  exact lv_ifnonnullN hx hb hd (k H locs cells slots ls r1 r2 r3 r4 r5 r6)
theorem g_tswIn (C : z_C Γ K cc own nL) {dflt hi off : Int} {offs : Array Int} {len : Nat} (j tgt : Nat) (hd : decode cc pc = .ok (.tableswitch dflt 0 hi offs, len)) (hj : j < 2 ^ 31 ∧ (j : Int) ≤ hi) (ho : offs[j]? = some off) (ht : (pc : Int) + off = (tgt : Int)) (k : GG Γ K kc ks w tgt L st) : GG Γ K kc ks w pc L (.int (nI j) :: st) := by
  obtain ⟨p, e, R, s, m, args, below, meth, c, Q, d, MC, MS⟩ := K
  obtain ⟨⟨hx, hb, hml, hown, hts⟩, hKK, hdF, hdL, hMC, hMS⟩ := C
  intro H locs cells slots ls r1 r2 r3 r4 r5 r6
  have e : (nI j).toInt = (j : Int) := nI_toInt hj.1
  exact lv_tableIn hx hb hd (by rw [e]; omega) (by rw [e]; have := hj.2; omega) (by rw [e]; simpa using ho) ht (k H locs cells slots ls r1 r2 r3 r4 r5 r6)
theorem g_tswOut (C : z_C Γ K cc own nL) {dflt : Int} {offs : Array Int} {len : Nat} {x : Int32} (hi : Nat) (tgt : Nat) (hd : decode cc pc = .ok (.tableswitch dflt 0 hi offs, len)) (hx' : ∀ j, j ≤ hi → x ≠ nI j) (hh : hi < 1000) (ht : (pc : Int) + dflt = (tgt : Int)) (k : GG Γ K kc ks w tgt L st) : GG Γ K kc ks w pc L (.int x :: st) := by
  obtain ⟨p, e, R, s, m, args, below, meth, c, Q, d, MC, MS⟩ := K
  obtain ⟨⟨hx, hb, hml, hown, hts⟩, hKK, hdF, hdL, hMC, hMS⟩ := C
  intro H locs cells slots ls r1 r2 r3 r4 r5 r6
  refine lv_tableOut hx hb hd ?_ ht (k H locs cells slots ls r1 r2 r3 r4 r5 r6)
  rcases pk_ix x (n := hi + 1) (by omega) with h | h | ⟨j, hj, e⟩
  · have h1 := Int32.lt_iff_toInt_lt.mp h
    rw [Int32.toInt_zero] at h1
    exact Or.inl h1
  · refine Or.inr ?_
    have h1 := Int32.le_iff_toInt_le.mp h
    rw [nI_toInt (by omega)] at h1
    omega
  · exact absurd e (hx' j (by omega))
theorem g_lsw (C : z_C Γ K cc own nL) {dflt : Int} {ps : Array (Int × Int)} {len : Nat} {x : Int32} {off : Int} (tgt : Nat) (hd : decode cc pc = .ok (.lookupswitch dflt ps, len)) (hp : (ps.toList.zip (ps.toList.drop 1)).all (fun (a, next) => a.1 < next.1) = true) (ho : Op.lookupswitch.offset ps.toList dflt x.toInt = off) (ht : (pc : Int) + off = (tgt : Int)) (k : GG Γ K kc ks w tgt L st) : GG Γ K kc ks w pc L (.int x :: st) := by
  obtain ⟨p, e, R, s, m, args, below, meth, c, Q, d, MC, MS⟩ := K
  obtain ⟨⟨hx, hb, hml, hown, hts⟩, hKK, hdF, hdL, hMC, hMS⟩ := C
  intro H locs cells slots ls r1 r2 r3 r4 r5 r6
  exact lv_lookup hx hb hd hp ho ht (k H locs cells slots ls r1 r2 r3 r4 r5 r6)
end ZR
end
section
/-! heap rows -/
def z_up (c : Nat → Nat → Int32) (k j : Nat) (v : Int32) : Nat → Nat → Int32 := fun a b => if a = k then (if b = j then v else c a b) else c a b
def z_upS (σ : Nat → zS) (k : Nat) (x : zS) : Nat → zS := fun a => if a = k then x else σ a
def z_upL (t : Nat → Int64) (k : Nat) (v : Int64) : Nat → Int64 := fun a => if a = k then v else t a
def z_row (c : Nat → Nat → Int32) (k : Nat) (f : Nat → Int32) : Nat → Nat → Int32 := fun a => if a = k then f else c a
set_option maxRecDepth 100000 in
theorem z_cl0 : ∀ w ∈ wsX00, w ∈ tb := by decide +kernel
set_option maxRecDepth 100000 in
theorem z_cl1 : ∀ w ∈ wsX10, w ∈ tb := by decide +kernel
set_option maxRecDepth 100000 in
theorem z_cl2 : ∀ w ∈ wsX20, w ∈ tb := by decide +kernel
set_option maxRecDepth 100000 in
theorem z_cl3 : ∀ w ∈ wsX30, w ∈ tb := by decide +kernel
set_option maxRecDepth 100000 in
theorem z_cl4 : ∀ w ∈ wsX40, w ∈ tb := by decide +kernel
set_option maxRecDepth 100000 in
theorem z_cl5 : ∀ w ∈ wsX50, w ∈ tb := by decide +kernel
set_option maxRecDepth 100000 in
theorem z_cl6 : ∀ w ∈ wsX60, w ∈ tb := by decide +kernel
theorem z_cls {ci : Nat} {q : vw_C} (h : vwCl[ci]? = some q) : (∀ w ∈ u_ws q.1 q.2.1 q.2.2, w ∈ tb) ∧ (∃ ty : Nat → FieldType, ∀ k, k < q.2.2 → parseFieldDescriptor (q.2.1 k).2.2.1 = some (ty k)) ∧ (∀ a, a < q.2.2 → ∀ b, b < q.2.2 → a ≠ b → (q.2.1 a).2.1 ≠ (q.2.1 b).2.1) := by
  match ci, h with
  | 0, h => cases h; exact ⟨z_cl0, ⟨tyX0, tyX0_ok⟩, nmX0⟩
  | 1, h => cases h; exact ⟨z_cl1, ⟨tyX1, tyX1_ok⟩, nmX1⟩
  | 2, h => cases h; exact ⟨z_cl2, ⟨tyX2, tyX2_ok⟩, nmX2⟩
  | 3, h => cases h; exact ⟨z_cl3, ⟨tyX3, tyX3_ok⟩, nmX3⟩
  | 4, h => cases h; exact ⟨z_cl4, ⟨tyX4, tyX4_ok⟩, nmX4⟩
  | 5, h => cases h; exact ⟨z_cl5, ⟨tyX5, tyX5_ok⟩, nmX5⟩
  | 6, h => cases h; exact ⟨z_cl6, ⟨tyX6, tyX6_ok⟩, nmX6⟩
  | k + 7, h => simp [vwCl] at h
/-- a field's entry in a class's pool: kind of object, slot -/
def z_FL (own : String) (idx ci j : Nat) : Prop := ∃ q : vw_C, vwCl[ci]? = some q ∧ j < q.2.2 ∧ Cond.fieldLink own idx (q.2.1 j).1 (q.2.1 j).2.1 (q.2.1 j).2.2.1 ∈ tb
/-- one that is written -/
def z_FP (own : String) (idx ci j : Nat) (ty : FieldType) (fin : Bool) : Prop := ∃ q : vw_C, vwCl[ci]? = some q ∧ j < q.2.2 ∧ Cond.fieldLink own idx (q.2.1 j).1 (q.2.1 j).2.1 (q.2.1 j).2.2.1 ∈ tb ∧ parseFieldDescriptor (q.2.1 j).2.2.1 = some ty ∧ (q.2.1 j).2.2.2 = fin ∧ (fin = true → (q.2.1 j).1 = own)
section ZH
variable {Γ : zG} {K : zK} {kc ks : Nat} {w : zW} {pc : Nat} {L Lr : List (Option Value)} {st : List Value} {cc : ByteArray} {own : String} {nL : Nat}
theorem z_P1 {H : Heap} {k : Nat} (r1 : z_Rep Γ w H) (hk : k < w.1) {E : va_E} (hE : z_ce Γ w k = E) : va_P (z_D Γ) vwCl [(z_h Γ + k, E)] H := by
  intro q x hx
  have hq : q < 1 := (List.getElem?_eq_some_iff.mp hx).1
  rw [show q = 0 by omega] at hx
  cases hx
  rw [← hE]
  exact r1.2.2 k hk
theorem z_ltK {H : Heap} {k : Nat} (r1 : z_Rep Γ w H) (hk : k < w.1) : k < 1000 := by have := r1.2.1; omega
theorem z_get (C : z_C Γ K cc own nL) {idx ci j k : Nat} {fs : List zF} {fd : zF} (v : Value) (hd : decode cc pc = .ok (.getfield idx, 3)) (hf : z_FL own idx ci j) (hk : k < w.1) (hs : w.2.1 k = .inr (ci, fs)) (hj : fs[j]? = some fd) (hv : z_fv Γ (w.2.2.1 k) (w.2.2.2 k) j fd = z_tr Γ v) (kk : GG Γ K kc ks w (pc + 3) L (v :: st)) : GG Γ K kc ks w pc L (.ref k :: st) := by
  obtain ⟨p, e, R, s, m, args, below, meth, c, Q, d, MC, MS⟩ := K
  obtain ⟨⟨hx, hb, hml, hown, hts⟩, hKK, hdF, hdL, hMC, hMS⟩ := C
  intro H locs cells slots ls r1 r2 r3 r4 r5 r6
  obtain ⟨q, hc, hjN, hl⟩ := hf
  have hP := z_P1 r1 hk (E := .inr (ci, fs.mapIdx fun j fd => z_fv Γ (w.2.2.1 k) (w.2.2.2 k) j fd)) (by unfold z_ce; rw [hs])
  show W p Γ.1 e R s m args below meth c H locs cells slots Q (F0 m pc ls (.ref (z_ad Γ k) :: st.map (z_tr Γ)))
  rw [z_ad_lt (z_ltK r1 hk)]
  refine va_get (D := z_D Γ) (cl := vwCl) (tys := z_tys Γ) hx hb hts (z_cls hc).1 hown hKK.1 hP 0 rfl hc j hjN (hts _ hl) (fun _ h => h) (v := z_tr Γ v) ?_ hd (kk H locs cells slots ls r1 r2 r3 r4 r5 r6)
  rw [List.getElem?_mapIdx, hj, ← hv]
  rfl
theorem g_getI (C : z_C Γ K cc own nL) {idx ci j k : Nat} {fs : List zF} (hd : decode cc pc = .ok (.getfield idx, 3)) (hf : z_FL own idx ci j) (hk : k < w.1) (hs : w.2.1 k = .inr (ci, fs)) (hj : fs[j]? = some (.inl 0)) (kk : GG Γ K kc ks w (pc + 3) L (.int (w.2.2.1 k j) :: st)) : GG Γ K kc ks w pc L (.ref k :: st) := z_get C _ hd hf hk hs hj rfl kk
theorem g_getL (C : z_C Γ K cc own nL) {idx ci j k : Nat} {fs : List zF} (hd : decode cc pc = .ok (.getfield idx, 3)) (hf : z_FL own idx ci j) (hk : k < w.1) (hs : w.2.1 k = .inr (ci, fs)) (hj : fs[j]? = some (.inl 1)) (kk : GG Γ K kc ks w (pc + 3) L (.long (w.2.2.2 k) :: st)) : GG Γ K kc ks w pc L (.ref k :: st) := z_get C _ hd hf hk hs hj rfl kk
theorem g_getR (C : z_C Γ K cc own nL) {idx ci j k p : Nat} {fs : List zF} (hd : decode cc pc = .ok (.getfield idx, 3)) (hf : z_FL own idx ci j) (hk : k < w.1) (hs : w.2.1 k = .inr (ci, fs)) (hj : fs[j]? = some (.inr (some p))) (hp : p < 1000) (kk : GG Γ K kc ks w (pc + 3) L (.ref p :: st)) : GG Γ K kc ks w pc L (.ref k :: st) := z_get C (.ref p) hd hf hk hs hj (by show Value.ref _ = Value.ref _; rw [z_ad_lt hp]) kk
/-- the world behind a store into one place -/
theorem z_Rep.put {w' : zW} {H H1 : Heap} {k : Nat} (r1 : z_Rep Γ w H) (hk : k < w.1) (h1 : w'.1 = w.1) (h2 : ∀ q, q < w.1 → q ≠ k → z_ce Γ w' q = z_ce Γ w q) (h3 : va_at (z_D Γ) vwCl (z_h Γ + k, z_ce Γ w' k) H1) (e2 : H1.size = H.size) (e3 : ∀ q, q ≠ z_h Γ + k → H1[q]? = H[q]?) : z_Rep Γ w' H1 := by
  refine ⟨by rw [e2, h1]; exact r1.1, by rw [h1]; exact r1.2.1, fun q hq => ?_⟩
  rw [h1] at hq
  by_cases hqk : q = k
  · subst hqk; exact h3
  · rw [h2 q hq hqk]
    exact (r1.2.2 q hq).kept (e3 _ (by show z_h Γ + q ≠ z_h Γ + k; omega))
theorem z_put (C : z_C Γ K cc own nL) {idx ci j k : Nat} {fs : List zF} {ty : FieldType} {v : Value} {w' : zW} (hd : decode cc pc = .ok (.putfield idx, 3)) (hf : z_FP own idx ci j ty false) (hk : k < w.1) (hs : w.2.1 k = .inr (ci, fs)) (hj : j < fs.length) (hn : narrow ty (z_tr Γ v) = z_tr Γ v) (hfit : fits ty (z_tr Γ v) = true)
    (h1 : w'.1 = w.1) (h2 : ∀ q, q < w.1 → q ≠ k → z_ce Γ w' q = z_ce Γ w q) (h3 : z_ce Γ w' k = .inr (ci, (fs.mapIdx fun j fd => z_fv Γ (w.2.2.1 k) (w.2.2.2 k) j fd).set j (z_tr Γ v)))
    (kk : GG Γ K kc ks w' (pc + 3) L st) : GG Γ K kc ks w pc L (v :: .ref k :: st) := by
  obtain ⟨p, e, R, s, m, args, below, meth, c, Q, d, MC, MS⟩ := K
  obtain ⟨⟨hx, hb, hml, hown, hts⟩, hKK, hdF, hdL, hMC, hMS⟩ := C
  intro H locs cells slots ls r1 r2 r3 r4 r5 r6
  obtain ⟨q, hc, hjN, hl, hpt, hfin, -⟩ := hf
  obtain ⟨hin, ⟨ty0, hty⟩, hnm⟩ := z_cls hc
  have hP := z_P1 r1 hk (E := .inr (ci, fs.mapIdx fun j fd => z_fv Γ (w.2.2.1 k) (w.2.2.2 k) j fd)) (by unfold z_ce; rw [hs])
  show W p Γ.1 e R s m args below meth c H locs cells slots Q (F0 m pc ls (z_tr Γ v :: .ref (z_ad Γ k) :: st.map (z_tr Γ)))
  rw [z_ad_lt (z_ltK r1 hk)]
  have hap := va_apart (own := own) hts hin ty0 hty hnm hKK.1 hc
  obtain ⟨r, g1, cell, q1, q2, q3, q4⟩ := hP 0 _ rfl
  have hr : r = q := Option.some.inj (g1.symm.trans hc)
  subst hr
  obtain ⟨hS, hfc, kC, hkC, hkind⟩ := hKK.1.1 ci _ hc
  obtain ⟨cf, kf, fi, f, hi, hsl⟩ := hS j hjN
  have hlay := hts _ (hin _ (u_in_lay hjN))
  unfold u_lay at hlay
  rw [if_neg (by rw [hfin]; decide)] at hlay
  have hst := (u_facts hfc hkC (u_lays hts hin hjN) hi).1
  have h6 := u_store hfc hkC hkind hlay hi hpt hn hfit
  refine W.putK hx hb (f := f) ⟨hown, hts _ hl, ⟨_, _, _, hi⟩, hst⟩ (by rw [q2]; exact h6) q1 q3 (by rw [hsl]; exact k2_hasslot (q4 j hjN)) rfl rfl hd fun H' e1 e2 e3 => ?_
  rw [hsl] at e1 ⊢
  refine kk H' _ cells slots ls ?_ (fun a ha => ?_) ?_ r4 r5 r6
  · refine r1.put hk h1 h2 ?_ e2 e3
    rw [h3]
    exact ⟨_, hc, t_OB.to (V := updV (vp_V (fs.mapIdx fun j fd => z_fv Γ (w.2.2.1 k) (w.2.2.2 k) j fd)) j (z_tr Γ v)) ⟨_, e1, q2, q3, t_set q4 hap hjN _⟩ (fun i _ => vp_updV_set (by simpa using hj) _ i)⟩
  · exact (e3 a (by show a ≠ z_h Γ + k; omega)).trans (r2 a ha)
  · intro x hx
    rcases List.mem_append.mp hx with h | h
    · exact r3 x h
    · rw [List.mem_singleton.mp h]
      show z_h Γ ≤ z_h Γ + k
      omega
theorem z_putF (C : z_C Γ K cc own nL) {ret : Option FieldType} {P : Option Value → zW → Prop} (M : z_M Γ K cc own nL ret true P) {idx ci j k : Nat} {fs : List zF} {ty : FieldType} {v : Value} {w' : zW} (hd : decode cc pc = .ok (.putfield idx, 3)) (hf : z_FP own idx ci j ty true) (hk : k < w.1) (hs : w.2.1 k = .inr (ci, fs)) (hj : j < fs.length) (hn : narrow ty (z_tr Γ v) = z_tr Γ v) (hfit : fits ty (z_tr Γ v) = true)
    (h1 : w'.1 = w.1) (h2 : ∀ q, q < w.1 → q ≠ k → z_ce Γ w' q = z_ce Γ w q) (h3 : z_ce Γ w' k = .inr (ci, (fs.mapIdx fun j fd => z_fv Γ (w.2.2.1 k) (w.2.2.2 k) j fd).set j (z_tr Γ v)))
    (kk : GG Γ K kc ks w' (pc + 3) L st) : GG Γ K kc ks w pc L (v :: .ref k :: st) := by
  obtain ⟨p, e, R, s, m, args, below, meth, c, Q, d, MC, MS⟩ := K
  obtain ⟨⟨hx, hb, hml, hown, hts⟩, hKK, hdF, hdL, hMC, hMS⟩ := C
  obtain ⟨-, -, -, hI, -⟩ := M
  intro H locs cells slots ls r1 r2 r3 r4 r5 r6
  obtain ⟨q, hc, hjN, hl, hpt, hfin, hdecl⟩ := hf
  obtain ⟨hin, ⟨ty0, hty⟩, hnm⟩ := z_cls hc
  have hP := z_P1 r1 hk (E := .inr (ci, fs.mapIdx fun j fd => z_fv Γ (w.2.2.1 k) (w.2.2.2 k) j fd)) (by unfold z_ce; rw [hs])
  show W p Γ.1 e R s m args below meth c H locs cells slots Q (F0 m pc ls (z_tr Γ v :: .ref (z_ad Γ k) :: st.map (z_tr Γ)))
  rw [z_ad_lt (z_ltK r1 hk)]
  have hap := va_apart (own := own) hts hin ty0 hty hnm hKK.1 hc
  obtain ⟨r, g1, cell, q1, q2, q3, q4⟩ := hP 0 _ rfl
  have hr : r = q := Option.some.inj (g1.symm.trans hc)
  subst hr
  obtain ⟨hS, hfc, kC, hkC, hkind⟩ := hKK.1.1 ci _ hc
  obtain ⟨cf, kf, fi, f, hi, hsl⟩ := hS j hjN
  have hlay := hts _ (hin _ (u_in_lay hjN))
  unfold u_lay at hlay
  rw [if_pos hfin] at hlay
  have hst := (u_facts hfc hkC (u_lays hts hin hjN) hi).1
  have hcf : m.cls = cf := by
    obtain ⟨_, _, c', _, _, _, -, -, hf', -, -, -, hown2, -⟩ := Cond.laysFinal_spec hlay
    have e1 : c' = cf := by have := hi.symm.trans hf'; simp at this; exact this.1.symm
    rw [hdecl rfl] at hown2
    rw [← e1]; exact Option.some.inj (hown.symm.trans hown2)
  have h6 := u_fits hfc hkC hkind (Or.inr hlay) hi hpt hn hfit
  refine W.putFinK hx hb hown (hts _ hl) hi hst hcf (hI rfl) (by rw [q2]; exact h6) q1 q3 (by rw [hsl]; exact k2_hasslot (q4 j hjN)) rfl rfl hd fun H' e1 e2 e3 => ?_
  rw [hsl] at e1 ⊢
  refine kk H' _ cells slots ls ?_ (fun a ha => ?_) ?_ r4 r5 r6
  · refine r1.put hk h1 h2 ?_ e2 e3
    rw [h3]
    exact ⟨_, hc, t_OB.to (V := updV (vp_V (fs.mapIdx fun j fd => z_fv Γ (w.2.2.1 k) (w.2.2.2 k) j fd)) j (z_tr Γ v)) ⟨_, e1, q2, q3, t_set q4 hap hjN _⟩ (fun i _ => vp_updV_set (by simpa using hj) _ i)⟩
  · exact (e3 a (by show a ≠ z_h Γ + k; omega)).trans (r2 a ha)
  · intro x hx
    rcases List.mem_append.mp hx with h | h
    · exact r3 x h
    · rw [List.mem_singleton.mp h]
      show z_h Γ ≤ z_h Γ + k
      omega
theorem z_ce_congr {w w' : zW} {q : Nat} (h1 : w'.2.1 q = w.2.1 q) (h2 : w'.2.2.1 q = w.2.2.1 q) (h3 : w'.2.2.2 q = w.2.2.2 q) : z_ce Γ w' q = z_ce Γ w q := by
  unfold z_ce
  rw [h1, h2, h3]
theorem z_mapIdx_set {α β : Type} (fs : List α) (f g : Nat → α → β) (j : Nat) (fd : α) (v : β) (hj : fs[j]? = some fd) (h : ∀ i x, fs[i]? = some x → i ≠ j → g i x = f i x) (hv : g j fd = v) : fs.mapIdx g = (fs.mapIdx f).set j v := by
  apply List.ext_getElem?
  intro i
  rw [List.getElem?_set, List.getElem?_mapIdx, List.getElem?_mapIdx]
  by_cases hij : j = i
  · subst hij
    have hl := (List.getElem?_eq_some_iff.mp hj).1
    rw [if_pos rfl, if_pos (by simpa using hl), hj]
    show some (g j fd) = _
    rw [hv]
  · rw [if_neg hij]
    cases hx : fs[i]? with
    | none => rfl
    | some x =>
      show some (g i x) = some (f i x)
      rw [h i x hx (fun e => hij e.symm)]
theorem g_putI (C : z_C Γ K cc own nL) {σ : Nat → zS} {n : Nat} {c : Nat → Nat → Int32} {t : Nat → Int64} {idx ci j k : Nat} {fs : List zF} {ty : FieldType} {x : Int32} (hd : decode cc pc = .ok (.putfield idx, 3)) (hf : z_FP own idx ci j ty false) (hk : k < n) (hs : σ k = .inr (ci, fs)) (hj : fs[j]? = some (.inl 0)) (hn : narrow ty (.int x) = .int x) (hfit : fits ty (.int x) = true)
    (kk : GG Γ K kc ks (n, σ, z_up c k j x, t) (pc + 3) L st) : GG Γ K kc ks (n, σ, c, t) pc L (.int x :: .ref k :: st) := by
  refine z_put (w' := (n, σ, z_up c k j x, t)) C hd hf hk hs (List.getElem?_eq_some_iff.mp hj).1 hn hfit rfl (fun q _ hq => z_ce_congr rfl ?_ rfl) ?_ kk
  · funext b; show z_up c k j x q b = c q b; unfold z_up; rw [if_neg hq]
  · unfold z_ce
    rw [show ((n, σ, z_up c k j x, t) : zW).2.1 k = .inr (ci, fs) from hs]
    show (Sum.inr (ci, _) : va_E) = _
    refine congrArg (fun l => Sum.inr (ci, l)) (z_mapIdx_set fs _ _ j (.inl 0) _ hj (fun i fd _ hi => ?_) ?_)
    · cases fd with
      | inl m => cases m with
        | zero => show Value.int (z_up c k j x k i) = Value.int (c k i); unfold z_up; rw [if_pos rfl, if_neg hi]
        | succ m => rfl
      | inr r => rfl
    · show Value.int (z_up c k j x k j) = Value.int x; unfold z_up; rw [if_pos rfl, if_pos rfl]
theorem g_putL (C : z_C Γ K cc own nL) {σ : Nat → zS} {n : Nat} {c : Nat → Nat → Int32} {t : Nat → Int64} {idx ci j k : Nat} {fs : List zF} {x : Int64} (hd : decode cc pc = .ok (.putfield idx, 3)) (hf : z_FP own idx ci j .long false) (hk : k < n) (hs : σ k = .inr (ci, fs)) (hj : fs[j]? = some (.inl 1)) (h1 : ∀ i m, fs[i]? = some (.inl (m + 1)) → i = j)
    (kk : GG Γ K kc ks (n, σ, c, z_upL t k x) (pc + 3) L st) : GG Γ K kc ks (n, σ, c, t) pc L (.long x :: .ref k :: st) := by
  refine z_put (w' := (n, σ, c, z_upL t k x)) C hd hf hk hs (List.getElem?_eq_some_iff.mp hj).1 rfl rfl rfl (fun q _ hq => z_ce_congr rfl rfl ?_) ?_ kk
  · show z_upL t k x q = t q; unfold z_upL; rw [if_neg hq]
  · unfold z_ce
    rw [show ((n, σ, c, z_upL t k x) : zW).2.1 k = .inr (ci, fs) from hs]
    show (Sum.inr (ci, _) : va_E) = _
    refine congrArg (fun l => Sum.inr (ci, l)) (z_mapIdx_set fs _ _ j (.inl 1) _ hj (fun i fd hfd hi => ?_) ?_)
    · cases fd with
      | inl m => cases m with
        | zero => rfl
        | succ m => exact absurd (h1 i m hfd) hi
      | inr r => rfl
    · show Value.long (z_upL t k x k) = Value.long x; unfold z_upL; rw [if_pos rfl]
theorem z_putRef {σ : Nat → zS} {n : Nat} {c : Nat → Nat → Int32} {t : Nat → Int64} {ci j k q : Nat} {fs : List zF} {r0 : Option Nat} (hq : q < 1000) (hs : σ k = .inr (ci, fs)) (hj : fs[j]? = some (.inr r0)) : z_ce Γ ((n, z_upS σ k (.inr (ci, fs.set j (.inr (some q)))), c, t) : zW) k = .inr (ci, (fs.mapIdx fun j fd => z_fv Γ (c k) (t k) j fd).set j (z_tr Γ (.ref q))) := by
  have hl := (List.getElem?_eq_some_iff.mp hj).1
  unfold z_ce
  rw [show ((n, z_upS σ k (.inr (ci, fs.set j (.inr (some q)))), c, t) : zW).2.1 k = .inr (ci, fs.set j (.inr (some q))) by show z_upS _ _ _ k = _; unfold z_upS; rw [if_pos rfl]]
  show (Sum.inr (ci, _) : va_E) = _
  refine congrArg (fun l => Sum.inr (ci, l)) ?_
  apply List.ext_getElem?
  intro i
  rw [List.getElem?_set, List.getElem?_mapIdx, List.getElem?_mapIdx, List.getElem?_set]
  by_cases hij : j = i
  · subst hij
    rw [if_pos rfl, if_pos hl, if_pos rfl, if_pos (by simpa using hl)]
    show some (Value.ref (z_h Γ + q)) = some (Value.ref (z_ad Γ q))
    rw [z_ad_lt hq]
  · rw [if_neg hij, if_neg hij]
/-- a final reference field in a constructor -/
theorem g_putR (C : z_C Γ K cc own nL) {ret : Option FieldType} {P : Option Value → zW → Prop} (M : z_M Γ K cc own nL ret true P) {σ : Nat → zS} {n : Nat} {c : Nat → Nat → Int32} {t : Nat → Int64} {idx ci j k q : Nat} {fs : List zF} {ty : FieldType} {r0 : Option Nat} (hd : decode cc pc = .ok (.putfield idx, 3)) (hf : z_FP own idx ci j ty true) (hk : k < n) (hq : q < 1000) (hs : σ k = .inr (ci, fs)) (hj : fs[j]? = some (.inr r0)) (hn : ∀ a, narrow ty (.ref a) = .ref a) (hfit : ∀ a, fits ty (.ref a) = true)
    (kk : GG Γ K kc ks (n, z_upS σ k (.inr (ci, fs.set j (.inr (some q)))), c, t) (pc + 3) L st) : GG Γ K kc ks (n, σ, c, t) pc L (.ref q :: .ref k :: st) := by
  refine z_putF (w' := (n, z_upS σ k (.inr (ci, fs.set j (.inr (some q)))), c, t)) C M hd hf hk hs (List.getElem?_eq_some_iff.mp hj).1 (hn _) (hfit _) rfl (fun a _ ha => z_ce_congr ?_ rfl rfl) (z_putRef hq hs hj) kk
  show z_upS _ _ _ a = _
  unfold z_upS
  rw [if_neg ha]
theorem z_iald (C : z_C Γ K cc own nL) {k n : Nat} {f : Nat → Option Nat} {i : Int32} (hd : decode cc pc = .ok (.iaload, 1)) (hk : k < w.1) (hs : w.2.1 k = .inl (0, n, f)) (hi : vp_in i n) (kk : GG Γ K kc ks w (pc + 1) L (.int (w.2.2.1 k i.toNatClampNeg) :: st)) : GG Γ K kc ks w pc L (.int i :: .ref k :: st) := by
  obtain ⟨p, e, R, s, m, args, below, meth, c, Q, d, MC, MS⟩ := K
  obtain ⟨⟨hx, hb, hml, hown, hts⟩, hKK, hdF, hdL, hMC, hMS⟩ := C
  intro H locs cells slots ls r1 r2 r3 r4 r5 r6
  have hP := z_P1 r1 hk (E := .inl (z_A Γ 0, n, .inl (w.2.2.1 k))) (by unfold z_ce; rw [hs])
  show W p Γ.1 e R s m args below meth c H locs cells slots Q (F0 m pc ls (.int i :: .ref (z_ad Γ k) :: st.map (z_tr Γ)))
  rw [z_ad_lt (z_ltK r1 hk)]
  exact va_iald hx hb hKK.1 hP 0 0 rfl rfl hi hd (kk H locs cells slots ls r1 r2 r3 r4 r5 r6)
theorem z_bald (C : z_C Γ K cc own nL) {k n : Nat} {f : Nat → Option Nat} {i : Int32} (hd : decode cc pc = .ok (.baload, 1)) (hk : k < w.1) (hs : w.2.1 k = .inl (1, n, f)) (hi : vp_in i n) (kk : GG Γ K kc ks w (pc + 1) L (.int (w.2.2.1 k i.toNatClampNeg) :: st)) : GG Γ K kc ks w pc L (.int i :: .ref k :: st) := by
  obtain ⟨p, e, R, s, m, args, below, meth, c, Q, d, MC, MS⟩ := K
  obtain ⟨⟨hx, hb, hml, hown, hts⟩, hKK, hdF, hdL, hMC, hMS⟩ := C
  intro H locs cells slots ls r1 r2 r3 r4 r5 r6
  have hP := z_P1 r1 hk (E := .inl (z_A Γ 1, n, .inl (w.2.2.1 k))) (by unfold z_ce; rw [hs])
  show W p Γ.1 e R s m args below meth c H locs cells slots Q (F0 m pc ls (.int i :: .ref (z_ad Γ k) :: st.map (z_tr Γ)))
  rw [z_ad_lt (z_ltK r1 hk)]
  exact va_zald hx hb hKK.1 hP 0 1 rfl rfl hi hd (kk H locs cells slots ls r1 r2 r3 r4 r5 r6)
theorem z_aald (C : z_C Γ K cc own nL) {k n q : Nat} {f : Nat → Option Nat} {i : Int32} (hd : decode cc pc = .ok (.aaload, 1)) (hk : k < w.1) (hs : w.2.1 k = .inl (2, n, f)) (hi : vp_in i n) (hf : f i.toNatClampNeg = some q) (hq : q < 1000) (kk : GG Γ K kc ks w (pc + 1) L (.ref q :: st)) : GG Γ K kc ks w pc L (.int i :: .ref k :: st) := by
  obtain ⟨p, e, R, s, m, args, below, meth, c, Q, d, MC, MS⟩ := K
  obtain ⟨⟨hx, hb, hml, hown, hts⟩, hKK, hdF, hdL, hMC, hMS⟩ := C
  intro H locs cells slots ls r1 r2 r3 r4 r5 r6
  have hP := z_P1 r1 hk (E := .inl (z_A Γ 2, n, .inr (.inr (.inr (.inr (fun j => (f j).map (fun k => z_h Γ + k))))))) (by unfold z_ce; rw [hs])
  show W p Γ.1 e R s m args below meth c H locs cells slots Q (F0 m pc ls (.int i :: .ref (z_ad Γ k) :: st.map (z_tr Γ)))
  rw [z_ad_lt (z_ltK r1 hk)]
  refine va_aldq hx hb hKK.1 hP 0 2 rfl rfl hi hd ?_
  have e : va_rf ((f i.toNatClampNeg).map (fun k => z_h Γ + k)) = z_tr Γ (.ref q) := by
    rw [hf]; show Value.ref _ = Value.ref _; rw [z_ad_lt hq]
  rw [e]
  exact kk H locs cells slots ls r1 r2 r3 r4 r5 r6
theorem z_alen (C : z_C Γ K cc own nL) {k n q : Nat} {f : Nat → Option Nat} (hd : decode cc pc = .ok (.arraylength, 1)) (hk : k < w.1) (hs : w.2.1 k = .inl (q, n, f)) (kk : GG Γ K kc ks w (pc + 1) L (.int (nI n) :: st)) : GG Γ K kc ks w pc L (.ref k :: st) := by
  obtain ⟨p, e, R, s, m, args, below, meth, c, Q, d, MC, MS⟩ := K
  obtain ⟨⟨hx, hb, hml, hown, hts⟩, hKK, hdF, hdL, hMC, hMS⟩ := C
  intro H locs cells slots ls r1 r2 r3 r4 r5 r6
  show W p Γ.1 e R s m args below meth c H locs cells slots Q (F0 m pc ls (.ref (z_ad Γ k) :: st.map (z_tr Γ)))
  rw [z_ad_lt (z_ltK r1 hk)]
  match q, hs with
  | 0, hs => exact va_alen hx hb hKK.1 (z_P1 r1 hk (E := .inl (z_A Γ 0, n, .inl (w.2.2.1 k))) (by unfold z_ce; rw [hs])) 0 0 rfl rfl rfl hd (kk H locs cells slots ls r1 r2 r3 r4 r5 r6)
  | 1, hs => exact va_alen hx hb hKK.1 (z_P1 r1 hk (E := .inl (z_A Γ 1, n, .inl (w.2.2.1 k))) (by unfold z_ce; rw [hs])) 0 1 rfl rfl rfl hd (kk H locs cells slots ls r1 r2 r3 r4 r5 r6)
  | q + 2, hs => exact va_alen hx hb hKK.1 (z_P1 r1 hk (E := .inl (z_A Γ 2, n, .inr (.inr (.inr (.inr (fun j => (f j).map (fun k => z_h Γ + k))))))) (by unfold z_ce; rw [hs])) 0 2 rfl rfl rfl hd (kk H locs cells slots ls r1 r2 r3 r4 r5 r6)
theorem z_iast (C : z_C Γ K cc own nL) {σ : Nat → zS} {N : Nat} {c : Nat → Nat → Int32} {t : Nat → Int64} {k n : Nat} {f : Nat → Option Nat} {i x : Int32} (hd : decode cc pc = .ok (.iastore, 1)) (hk : k < N) (hs : σ k = .inl (0, n, f)) (hi : vp_in i n) (kk : GG Γ K kc ks (N, σ, z_up c k i.toNatClampNeg x, t) (pc + 1) L st) : GG Γ K kc ks (N, σ, c, t) pc L (.int x :: .int i :: .ref k :: st) := by
  obtain ⟨p, e, R, s, m, args, below, meth, c0, Q, d, MC, MS⟩ := K
  obtain ⟨⟨hx, hb, hml, hown, hts⟩, hKK, hdF, hdL, hMC, hMS⟩ := C
  intro H locs cells slots ls r1 r2 r3 r4 r5 r6
  have hP := z_P1 r1 hk (E := .inl (z_A Γ 0, n, .inl (c k))) (by unfold z_ce; rw [show ((N, σ, c, t) : zW).2.1 k = _ from hs])
  show W p Γ.1 e R s m args below meth c0 H locs cells slots Q (F0 m pc ls (.int x :: .int i :: .ref (z_ad Γ k) :: st.map (z_tr Γ)))
  rw [z_ad_lt (z_ltK r1 hk)]
  refine W.iast hx hb (hP 0 _ rfl) ((hKK.1.2 0 _ rfl).1 n (fun j => .int (c k j))) (fun q => by cases q) (by show ¬ (i < 0 ∨ (arrV _ _ _).slots.size ≤ _); rw [arrV_size]; exact hi) rfl rfl hd fun H1 e1 e2 e3 => ?_
  refine kk H1 _ cells slots ls ?_ (fun a ha => ?_) ?_ r4 r5 r6
  · refine r1.put hk rfl (fun q _ hq => z_ce_congr rfl ?_ rfl) ?_ e2 e3
    · funext b; show z_up c k i.toNatClampNeg x q b = c q b; unfold z_up; rw [if_neg hq]
    · unfold z_ce
      rw [show ((N, σ, z_up c k i.toNatClampNeg x, t) : zW).2.1 k = _ from hs]
      show H1[z_h Γ + k]? = some (vp_cell _ _)
      rw [e1, vp_cell_i, vp_cell_i, arrV_store]
      congr 2
      funext q
      show updV _ _ _ q = Value.int (z_up c k i.toNatClampNeg x k q)
      unfold updV z_up
      rw [if_pos rfl]
      split <;> rfl
  · exact (e3 a (by show a ≠ z_h Γ + k; omega)).trans (r2 a ha)
  · intro y hy
    rcases List.mem_append.mp hy with h | h
    · exact r3 y h
    · rw [List.mem_singleton.mp h]
      show z_h Γ ≤ z_h Γ + k
      omega
theorem z_bast (C : z_C Γ K cc own nL) {σ : Nat → zS} {N : Nat} {c : Nat → Nat → Int32} {t : Nat → Int64} {k n : Nat} {f : Nat → Option Nat} {i x : Int32} (hd : decode cc pc = .ok (.bastore, 1)) (hk : k < N) (hs : σ k = .inl (1, n, f)) (hi : vp_in i n) (hn : narrow .boolean (.int x) = .int x) (kk : GG Γ K kc ks (N, σ, z_up c k i.toNatClampNeg x, t) (pc + 1) L st) : GG Γ K kc ks (N, σ, c, t) pc L (.int x :: .int i :: .ref k :: st) := by
  obtain ⟨p, e, R, s, m, args, below, meth, c0, Q, d, MC, MS⟩ := K
  obtain ⟨⟨hx, hb, hml, hown, hts⟩, hKK, hdF, hdL, hMC, hMS⟩ := C
  intro H locs cells slots ls r1 r2 r3 r4 r5 r6
  have hP := z_P1 r1 hk (E := .inl (z_A Γ 1, n, .inl (c k))) (by unfold z_ce; rw [show ((N, σ, c, t) : zW).2.1 k = _ from hs])
  show W p Γ.1 e R s m args below meth c0 H locs cells slots Q (F0 m pc ls (.int x :: .int i :: .ref (z_ad Γ k) :: st.map (z_tr Γ)))
  rw [z_ad_lt (z_ltK r1 hk)]
  refine W.zast hx hb (hP 0 _ rfl) ((hKK.1.2 1 _ rfl).1 n (fun j => .int (c k j))) (fun q => by cases q) (by show ¬ (i < 0 ∨ (arrV _ _ _).slots.size ≤ _); rw [arrV_size]; exact hi) rfl rfl hd fun H1 e1 e2 e3 => ?_
  refine kk H1 _ cells slots ls ?_ (fun a ha => ?_) ?_ r4 r5 r6
  · refine r1.put hk rfl (fun q _ hq => z_ce_congr rfl ?_ rfl) ?_ e2 e3
    · funext b; show z_up c k i.toNatClampNeg x q b = c q b; unfold z_up; rw [if_neg hq]
    · unfold z_ce
      rw [show ((N, σ, z_up c k i.toNatClampNeg x, t) : zW).2.1 k = _ from hs]
      show H1[z_h Γ + k]? = some (vp_cell _ _)
      rw [e1, hn, vp_cell_i, vp_cell_i, arrV_store]
      congr 2
      funext q
      show updV _ _ _ q = Value.int (z_up c k i.toNatClampNeg x k q)
      unfold updV z_up
      rw [if_pos rfl]
      split <;> rfl
  · exact (e3 a (by show a ≠ z_h Γ + k; omega)).trans (r2 a ha)
  · intro y hy
    rcases List.mem_append.mp hy with h | h
    · exact r3 y h
    · rw [List.mem_singleton.mp h]
      show z_h Γ ≤ z_h Γ + k
      omega
end ZH
end
section
/-! calls, returns, what is made -/
/-- an instance method of a class of ours, by an entry of the caller's pool -/
def z_mOK (μ : zM) (n : Nat) : Prop := (μ.1.cls ≠ "java/lang/invoke/MethodHandle" ∧ μ.1.cls ≠ "java/lang/invoke/VarHandle" ∧ (parseMethodDescriptor μ.1.desc).map (fun d => d.parameters.length) = some n) ∧ μ.2.2.1 ≤ 20
def z_lk (own : String) (idx : Nat) (y : MethodName) : Prop := Cond.methodLink own idx y ∈ tb ∨ ∃ host, (own, idx, y, host) ∈ nestL
def z_VL (own : String) (idx ci : Nat) (μ : zM) (n : Nat) : Prop := (∃ q : vw_C, vwCl[ci]? = some q ∧ μ.1.cls = q.1) ∧ Cond.methodLink own idx μ.1 ∈ tb ∧ Cond.instanceMethod μ.1 ∈ tb ∧ Cond.selects μ.1.cls μ.1 μ.1 ∈ tb ∧ Cond.initialized μ.1.cls ∈ tb ∧ Cond.code μ.1 μ.2.1 μ.2.2.1 μ.2.2.2 ∈ tb ∧ z_mOK μ n
def z_SL (own : String) (idx : Nat) (μ : zM) (n : Nat) : Prop := z_lk own idx μ.1 ∧ Cond.static μ.1 ∈ tb ∧ Cond.initialized μ.1.cls ∈ tb ∧ Cond.code μ.1 μ.2.1 μ.2.2.1 μ.2.2.2 ∈ tb ∧ z_mOK μ n
def z_IL (own : String) (idx : Nat) (μ : zM) (n : Nat) : Prop := z_lk own idx μ.1 ∧ Cond.instanceMethod μ.1 ∈ tb ∧ μ.1.name = "<init>" ∧ μ.2.2.2 = none ∧ Cond.initialized μ.1.cls ∈ tb ∧ Cond.code μ.1 μ.2.1 μ.2.2.1 μ.2.2.2 ∈ tb ∧ z_mOK μ n
section ZC
variable {Γ : zG} {K : zK} {kc ks : Nat} {w : zW} {pc : Nat} {L Lr : List (Option Value)} {st : List Value} {cc : ByteArray} {own : String} {nL : Nat}
theorem z_after {p : Program} {e : Env} {R : Room} {s : State} {m : MethodId} {args : Array Value} {below : List Frame} {meth : Method} {c : Code} {Q : State → Prop} {d MC MS : Nat} {H : Heap} {locs : List Loc} {cells slots : Nat} {ls : Array Slot} {st0 : List Value} {P : Option Value → zW → Prop} {mc ms : Nat} {a : Array Value}
    (hr : va_Run p Γ.1 e R s m args below meth c H locs cells slots mc ms (F0 m pc ls st0) (st.map (z_tr Γ)) (z_Qc Γ P a) (fun q => z_h Γ ≤ q))
    (r2 : ∀ q, q < z_h Γ → H[q]? = s.heap[q]?) (r3 : ∀ x ∈ locs, z_h Γ ≤ x.base) (r4 : cells + kc ≤ MC) (r5 : slots + ks ≤ MS) (r6 : z_L Γ ls L) (hmc : mc ≤ kc) (hms : ms ≤ ks)
    (kk : ∀ r w', P r w' → GG Γ (p, e, R, s, m, args, below, meth, c, Q, d, MC, MS) (kc - mc) (ks - ms) w' (pc + 3) L (r.toList ++ st)) : W p Γ.1 e R s m args below meth c H locs cells slots Q (F0 m pc ls st0) := by
  intro T hT X
  obtain ⟨v, s0, t, T', Lx, h0, X', hL, e1, e2, ⟨⟨r, w', hv, hP, hR⟩, hk⟩, stp⟩ := hr T hT X
  have hv' : v = r.map (z_tr Γ) := Outcome.returned.inj hv
  subst hv'
  obtain ⟨t2, a1, b1⟩ := kk r w' hP T'.heap (locs ++ Lx) (cells + mc) (slots + ms) ls (by rw [e1]; exact hR) (fun q hq => by rw [e1, hk q hq, h0]; exact r2 q hq) (fun x hx => by
    rcases List.mem_append.mp hx with h | h
    · exact r3 x h
    · exact hL x h) (by omega) (by omega) r6 T' rfl X'
  refine ⟨t2, stp t2 ?_, b1⟩
  cases r <;> exact a1
theorem z_room {R : Room} {d d' x : Nat} (h1 : d ≤ R.frames) (h2 : 40 * d ≤ R.locals) (h3 : d' < d) (h4 : x ≤ 20) : d' + 1 ≤ R.frames ∧ 8 + (x + 11) + 40 * d' ≤ R.locals := by omega
theorem z_hW {m : MethodId} {pc : Nat} {ls : Array Slot} {st0 : List Value} (h : (st.map fun v => v.category).sum ≤ 8) : 2 * (F0 m pc ls st0).monitorRoom + ((st.map (z_tr Γ)).map fun v => v.category).sum ≤ 8 := by
  refine lv_room ?_
  rw [List.map_map, show ((fun v : Value => v.category) ∘ z_tr Γ) = fun v => v.category from funext fun v => z_tr_cat Γ v]
  exact h
theorem z_callV (C : z_C Γ K cc own nL) {idx ci n k d d' mc ms : Nat} {μ : zM} {As : List Value} {fs : List zF} {P : Option Value → zW → Prop} (hd : decode cc pc = .ok (.invokevirtual idx, 3)) (hl : z_VL own idx ci μ n) (hS : Sp Γ d' μ (.ref k :: As) mc ms w P) (hKd : z_d K = d) (hdd : d' < d) (hmc : mc ≤ kc) (hms : ms ≤ ks) (hk : k < w.1) (hs : w.2.1 k = .inr (ci, fs)) (hn : As.length = n) (hL : L.length = nL) (hW : (st.map fun v => v.category).sum ≤ 8)
    (kk : ∀ r w', P r w' → GG Γ K (kc - mc) (ks - ms) w' (pc + 3) L (r.toList ++ st)) : GG Γ K kc ks w pc L (As.reverse ++ .ref k :: st) := by
  obtain ⟨p, e, R, s, m, args, below, meth, c, Q, d0, MC, MS⟩ := K
  obtain ⟨⟨hx, hb, hml, hown, hts⟩, hKK, hdF, hdL, hMC, hMS⟩ := C
  obtain rfl : d0 = d := hKd
  obtain ⟨⟨q, hc, hq⟩, l1, l2, l3, l4, l5, l6, l7⟩ := hl
  intro H locs cells slots ls r1 r2 r3 r4 r5 r6
  have hP := z_P1 r1 hk (E := .inr (ci, fs.mapIdx fun j fd => z_fv Γ (w.2.2.1 k) (w.2.2.2 k) j fd)) (by unfold z_ce; rw [hs])
  have hst : (As.reverse ++ Value.ref k :: st).map (z_tr Γ) = (As.map (z_tr Γ)).reverse ++ .ref (z_h Γ + k) :: st.map (z_tr Γ) := by
    rw [List.map_append, List.map_reverse, List.map_cons, show z_tr Γ (.ref k) = .ref (z_h Γ + k) from by show Value.ref _ = _; rw [z_ad_lt (z_ltK r1 hk)]]
  rw [hst]
  have hlen : ls.size = nL := by rw [← hL]; exact r6.1.1
  have hAs : ((Value.ref (z_h Γ + k) :: As.map (z_tr Γ)) : List Value) = (Value.ref k :: As).map (z_tr Γ) := by
    rw [List.map_cons, show z_tr Γ (.ref k) = .ref (z_h Γ + k) from by show Value.ref _ = _; rw [z_ad_lt (z_ltK r1 hk)]]
  obtain ⟨cellB, c1, c2, c3⟩ := va_recv hKK.1 hP hc (he := rfl) (q0 := 0)
  refine z_after (va_runV (As := As.map (z_tr Γ)) (C := q.1) ⟨hx, hb, hml, hown, hts⟩ hS ⟨callB_of n hts (z_goodIn l5) rfl rfl rfl (hts _ l4) (hts _ l1) l6 (z_room hdF hdL hdd l7), hts _ l2, by rw [← hq]; exact hts _ l3⟩ ⟨z_blind, ⟨cellB, c1, c2, c3⟩, fun U hU hW2 => ⟨by rw [hAs], by rw [hU]; exact r1, hKK.warm hW2⟩⟩ rfl (by rw [List.length_map]; exact hn) hlen rfl (z_hW hW) hd ⟨by omega, by omega⟩) r2 r3 r4 r5 r6 hmc hms kk
theorem z_callS (C : z_C Γ K cc own nL) {idx n d d' mc ms : Nat} {μ : zM} {As : List Value} {P : Option Value → zW → Prop} (hd : decode cc pc = .ok (.invokestatic idx, 3)) (hl : z_SL own idx μ n) (hS : Sp Γ d' μ As mc ms w P) (hKd : z_d K = d) (hdd : d' < d) (hmc : mc ≤ kc) (hms : ms ≤ ks) (hn : As.length = n) (hL : L.length = nL) (hW : (st.map fun v => v.category).sum ≤ 8)
    (kk : ∀ r w', P r w' → GG Γ K (kc - mc) (ks - ms) w' (pc + 3) L (r.toList ++ st)) : GG Γ K kc ks w pc L (As.reverse ++ st) := by
  obtain ⟨p, e, R, s, m, args, below, meth, c, Q, d0, MC, MS⟩ := K
  obtain ⟨⟨hx, hb, hml, hown, hts⟩, hKK, hdF, hdL, hMC, hMS⟩ := C
  obtain rfl : d0 = d := hKd
  obtain ⟨l1, l2, l4, l5, l6, l7⟩ := hl
  intro H locs cells slots ls r1 r2 r3 r4 r5 r6
  have hst : (As.reverse ++ st).map (z_tr Γ) = (As.map (z_tr Γ)).reverse ++ st.map (z_tr Γ) := by rw [List.map_append, List.map_reverse]
  rw [hst]
  have hlen : ls.size = nL := by rw [← hL]; exact r6.1.1
  rcases l1 with l1 | ⟨host, l1⟩
  · exact z_after (va_runS (As := As.map (z_tr Γ)) ⟨hx, hb, hml, hown, hts⟩ hS ⟨callB_of n hts (z_goodIn l5) rfl rfl rfl (hts _ l4) (hts _ l1) l6 (z_room hdF hdL hdd l7), hts _ l2⟩ ⟨z_blind, fun U hU hW2 => ⟨rfl, by rw [hU]; exact r1, hKK.warm hW2⟩⟩ rfl (by rw [List.length_map]; exact hn) hlen rfl (z_hW hW) hd ⟨by omega, by omega⟩) r2 r3 r4 r5 r6 hmc hms kk
  · exact z_after (va_runSN (As := As.map (z_tr Γ)) (host := host) ⟨hx, hb, hml, hown, hts⟩ hS ⟨va_cnB n hts (z_goodIn l5) rfl rfl rfl (hKK.2.2 _ l1) (hts _ l4) l6 (z_room hdF hdL hdd l7), hts _ l2, trivial⟩ ⟨z_blind, fun U hU hW2 => ⟨rfl, by rw [hU]; exact r1, hKK.warm hW2⟩⟩ rfl (by rw [List.length_map]; exact hn) hlen rfl (z_hW hW) hd ⟨by omega, by omega⟩) r2 r3 r4 r5 r6 hmc hms kk
theorem z_callI (C : z_C Γ K cc own nL) {idx n k d d' mc ms : Nat} {y : MethodName} {bs : ByteArray} {mL : Nat} {As : List Value} {P : Option Value → zW → Prop} (hd : decode cc pc = .ok (.invokespecial idx, 3)) (hl : z_IL own idx (y, bs, mL, none) n) (hS : Sp Γ d' (y, bs, mL, none) (.ref k :: As) mc ms w P) (hKd : z_d K = d) (hdd : d' < d) (hmc : mc ≤ kc) (hms : ms ≤ ks) (hk : k < w.1) (hn : As.length = n) (hL : L.length = nL) (hW : (st.map fun v => v.category).sum ≤ 8)
    (kk : ∀ r w', P r w' → GG Γ K (kc - mc) (ks - ms) w' (pc + 3) L (r.toList ++ st)) : GG Γ K kc ks w pc L (As.reverse ++ .ref k :: st) := by
  obtain ⟨p, e, R, s, m, args, below, meth, c, Q, d0, MC, MS⟩ := K
  obtain ⟨⟨hx, hb, hml, hown, hts⟩, hKK, hdF, hdL, hMC, hMS⟩ := C
  obtain rfl : d0 = d := hKd
  obtain ⟨l1, l2, l3, -, l4, l5, l6, l7⟩ := hl
  intro H locs cells slots ls r1 r2 r3 r4 r5 r6
  have hst : (As.reverse ++ Value.ref k :: st).map (z_tr Γ) = (As.map (z_tr Γ)).reverse ++ .ref (z_h Γ + k) :: st.map (z_tr Γ) := by
    rw [List.map_append, List.map_reverse, List.map_cons, show z_tr Γ (.ref k) = .ref (z_h Γ + k) from by show Value.ref _ = _; rw [z_ad_lt (z_ltK r1 hk)]]
  rw [hst]
  have hlen : ls.size = nL := by rw [← hL]; exact r6.1.1
  have hAs : ((Value.ref (z_h Γ + k) :: As.map (z_tr Γ)) : List Value) = (Value.ref k :: As).map (z_tr Γ) := by
    rw [List.map_cons, show z_tr Γ (.ref k) = .ref (z_h Γ + k) from by show Value.ref _ = _; rw [z_ad_lt (z_ltK r1 hk)]]
  rcases l1 with l1 | ⟨host, l1⟩
  · exact z_after (va_runI (As := As.map (z_tr Γ)) ⟨hx, hb, hml, hown, hts⟩ hS ⟨callB_of n hts (z_goodIn l5) rfl rfl rfl (hts _ l4) (hts _ l1) l6 (z_room hdF hdL hdd l7), l3, hts _ l2⟩ ⟨z_blind, fun U hU hW2 => ⟨by rw [hAs], by rw [hU]; exact r1, hKK.warm hW2⟩⟩ rfl (by rw [List.length_map]; exact hn) hlen rfl (z_hW hW) hd ⟨by omega, by omega⟩) r2 r3 r4 r5 r6 hmc hms kk
  · exact z_after (va_runIN (As := As.map (z_tr Γ)) (host := host) ⟨hx, hb, hml, hown, hts⟩ hS ⟨va_cnB n hts (z_goodIn l5) rfl rfl rfl (hKK.2.2 _ l1) (hts _ l4) l6 (z_room hdF hdL hdd l7), l3, hts _ l2⟩ ⟨z_blind, fun U hU hW2 => ⟨by rw [hAs], by rw [hU]; exact r1, hKK.warm hW2⟩⟩ rfl (by rw [List.length_map]; exact hn) hlen rfl (z_hW hW) hd ⟨by omega, by omega⟩) r2 r3 r4 r5 r6 hmc hms kk
theorem g_callV0 (C : z_C Γ K cc own nL)  {idx ci k d d' : Nat} {μ : zM} {fs : List zF} {P : Option Value → zW → Prop} (hd : decode cc pc = .ok (.invokevirtual idx, 3)) (hl : z_VL own idx ci μ 0) (hS : Sp Γ d' μ [.ref k] 0 0 w P) (hKd : z_d K = d) (hdd : d' < d) (hL : L.length = nL) (hW : (st.map fun v => v.category).sum ≤ 8) (hk : k < w.1) (hs : w.2.1 k = .inr (ci, fs)) (kk : ∀ r w', P r w' → GG Γ K kc ks w' (pc + 3) L (r.toList ++ st)) : GG Γ K kc ks w pc L (.ref k :: st) := z_callV C (As := []) hd hl hS hKd hdd (Nat.zero_le _) (Nat.zero_le _) hk hs rfl hL hW kk
theorem g_callV1 (C : z_C Γ K cc own nL) {a0 : Value} {idx ci k d d' : Nat} {μ : zM} {fs : List zF} {P : Option Value → zW → Prop} (hd : decode cc pc = .ok (.invokevirtual idx, 3)) (hl : z_VL own idx ci μ 1) (hS : Sp Γ d' μ [.ref k, a0] 0 0 w P) (hKd : z_d K = d) (hdd : d' < d) (hL : L.length = nL) (hW : (st.map fun v => v.category).sum ≤ 8) (hk : k < w.1) (hs : w.2.1 k = .inr (ci, fs)) (kk : ∀ r w', P r w' → GG Γ K kc ks w' (pc + 3) L (r.toList ++ st)) : GG Γ K kc ks w pc L (a0 :: .ref k :: st) := z_callV C (As := [a0]) hd hl hS hKd hdd (Nat.zero_le _) (Nat.zero_le _) hk hs rfl hL hW kk
theorem g_callS1 (C : z_C Γ K cc own nL) {a0 : Value} {idx d d' : Nat} {μ : zM} {P : Option Value → zW → Prop} (hd : decode cc pc = .ok (.invokestatic idx, 3)) (hl : z_SL own idx μ 1) (hS : Sp Γ d' μ [a0] 0 0 w P) (hKd : z_d K = d) (hdd : d' < d) (hL : L.length = nL) (hW : (st.map fun v => v.category).sum ≤ 8) (kk : ∀ r w', P r w' → GG Γ K kc ks w' (pc + 3) L (r.toList ++ st)) : GG Γ K kc ks w pc L (a0 :: st) := z_callS C (As := [a0]) hd hl hS hKd hdd (Nat.zero_le _) (Nat.zero_le _) rfl hL hW kk
theorem g_callV2 (C : z_C Γ K cc own nL) {a0 a1 : Value} {idx ci k d d' : Nat} {μ : zM} {fs : List zF} {P : Option Value → zW → Prop} (hd : decode cc pc = .ok (.invokevirtual idx, 3)) (hl : z_VL own idx ci μ 2) (hS : Sp Γ d' μ [.ref k, a0, a1] 0 0 w P) (hKd : z_d K = d) (hdd : d' < d) (hL : L.length = nL) (hW : (st.map fun v => v.category).sum ≤ 8) (hk : k < w.1) (hs : w.2.1 k = .inr (ci, fs)) (kk : ∀ r w', P r w' → GG Γ K kc ks w' (pc + 3) L (r.toList ++ st)) : GG Γ K kc ks w pc L (a1 :: a0 :: .ref k :: st) := z_callV C (As := [a0, a1]) hd hl hS hKd hdd (Nat.zero_le _) (Nat.zero_le _) hk hs rfl hL hW kk
theorem g_callS2 (C : z_C Γ K cc own nL) {a0 a1 : Value} {idx d d' : Nat} {μ : zM} {P : Option Value → zW → Prop} (hd : decode cc pc = .ok (.invokestatic idx, 3)) (hl : z_SL own idx μ 2) (hS : Sp Γ d' μ [a0, a1] 0 0 w P) (hKd : z_d K = d) (hdd : d' < d) (hL : L.length = nL) (hW : (st.map fun v => v.category).sum ≤ 8) (kk : ∀ r w', P r w' → GG Γ K kc ks w' (pc + 3) L (r.toList ++ st)) : GG Γ K kc ks w pc L (a1 :: a0 :: st) := z_callS C (As := [a0, a1]) hd hl hS hKd hdd (Nat.zero_le _) (Nat.zero_le _) rfl hL hW kk
theorem g_callV3 (C : z_C Γ K cc own nL) {a0 a1 a2 : Value} {idx ci k d d' : Nat} {μ : zM} {fs : List zF} {P : Option Value → zW → Prop} (hd : decode cc pc = .ok (.invokevirtual idx, 3)) (hl : z_VL own idx ci μ 3) (hS : Sp Γ d' μ [.ref k, a0, a1, a2] 0 0 w P) (hKd : z_d K = d) (hdd : d' < d) (hL : L.length = nL) (hW : (st.map fun v => v.category).sum ≤ 8) (hk : k < w.1) (hs : w.2.1 k = .inr (ci, fs)) (kk : ∀ r w', P r w' → GG Γ K kc ks w' (pc + 3) L (r.toList ++ st)) : GG Γ K kc ks w pc L (a2 :: a1 :: a0 :: .ref k :: st) := z_callV C (As := [a0, a1, a2]) hd hl hS hKd hdd (Nat.zero_le _) (Nat.zero_le _) hk hs rfl hL hW kk
theorem g_callS3 (C : z_C Γ K cc own nL) {a0 a1 a2 : Value} {idx d d' : Nat} {μ : zM} {P : Option Value → zW → Prop} (hd : decode cc pc = .ok (.invokestatic idx, 3)) (hl : z_SL own idx μ 3) (hS : Sp Γ d' μ [a0, a1, a2] 0 0 w P) (hKd : z_d K = d) (hdd : d' < d) (hL : L.length = nL) (hW : (st.map fun v => v.category).sum ≤ 8) (kk : ∀ r w', P r w' → GG Γ K kc ks w' (pc + 3) L (r.toList ++ st)) : GG Γ K kc ks w pc L (a2 :: a1 :: a0 :: st) := z_callS C (As := [a0, a1, a2]) hd hl hS hKd hdd (Nat.zero_le _) (Nat.zero_le _) rfl hL hW kk
theorem g_callV4 (C : z_C Γ K cc own nL) {a0 a1 a2 a3 : Value} {idx ci k d d' : Nat} {μ : zM} {fs : List zF} {P : Option Value → zW → Prop} (hd : decode cc pc = .ok (.invokevirtual idx, 3)) (hl : z_VL own idx ci μ 4) (hS : Sp Γ d' μ [.ref k, a0, a1, a2, a3] 0 0 w P) (hKd : z_d K = d) (hdd : d' < d) (hL : L.length = nL) (hW : (st.map fun v => v.category).sum ≤ 8) (hk : k < w.1) (hs : w.2.1 k = .inr (ci, fs)) (kk : ∀ r w', P r w' → GG Γ K kc ks w' (pc + 3) L (r.toList ++ st)) : GG Γ K kc ks w pc L (a3 :: a2 :: a1 :: a0 :: .ref k :: st) := z_callV C (As := [a0, a1, a2, a3]) hd hl hS hKd hdd (Nat.zero_le _) (Nat.zero_le _) hk hs rfl hL hW kk
theorem g_callS4 (C : z_C Γ K cc own nL) {a0 a1 a2 a3 : Value} {idx d d' : Nat} {μ : zM} {P : Option Value → zW → Prop} (hd : decode cc pc = .ok (.invokestatic idx, 3)) (hl : z_SL own idx μ 4) (hS : Sp Γ d' μ [a0, a1, a2, a3] 0 0 w P) (hKd : z_d K = d) (hdd : d' < d) (hL : L.length = nL) (hW : (st.map fun v => v.category).sum ≤ 8) (kk : ∀ r w', P r w' → GG Γ K kc ks w' (pc + 3) L (r.toList ++ st)) : GG Γ K kc ks w pc L (a3 :: a2 :: a1 :: a0 :: st) := z_callS C (As := [a0, a1, a2, a3]) hd hl hS hKd hdd (Nat.zero_le _) (Nat.zero_le _) rfl hL hW kk
theorem g_callS5 (C : z_C Γ K cc own nL) {a0 a1 a2 a3 a4 : Value} {idx d d' : Nat} {μ : zM} {P : Option Value → zW → Prop} (hd : decode cc pc = .ok (.invokestatic idx, 3)) (hl : z_SL own idx μ 5) (hS : Sp Γ d' μ [a0, a1, a2, a3, a4] 0 0 w P) (hKd : z_d K = d) (hdd : d' < d) (hL : L.length = nL) (hW : (st.map fun v => v.category).sum ≤ 8) (kk : ∀ r w', P r w' → GG Γ K kc ks w' (pc + 3) L (r.toList ++ st)) : GG Γ K kc ks w pc L (a4 :: a3 :: a2 :: a1 :: a0 :: st) := z_callS C (As := [a0, a1, a2, a3, a4]) hd hl hS hKd hdd (Nat.zero_le _) (Nat.zero_le _) rfl hL hW kk
theorem g_callS6 (C : z_C Γ K cc own nL) {a0 a1 a2 a3 a4 a5 : Value} {idx d d' : Nat} {μ : zM} {P : Option Value → zW → Prop} (hd : decode cc pc = .ok (.invokestatic idx, 3)) (hl : z_SL own idx μ 6) (hS : Sp Γ d' μ [a0, a1, a2, a3, a4, a5] 0 0 w P) (hKd : z_d K = d) (hdd : d' < d) (hL : L.length = nL) (hW : (st.map fun v => v.category).sum ≤ 8) (kk : ∀ r w', P r w' → GG Γ K kc ks w' (pc + 3) L (r.toList ++ st)) : GG Γ K kc ks w pc L (a5 :: a4 :: a3 :: a2 :: a1 :: a0 :: st) := z_callS C (As := [a0, a1, a2, a3, a4, a5]) hd hl hS hKd hdd (Nat.zero_le _) (Nat.zero_le _) rfl hL hW kk
theorem g_callI0 (C : z_C Γ K cc own nL) {idx k d d' mc ms : Nat} {y : MethodName} {bs : ByteArray} {mL : Nat} {P : Option Value → zW → Prop} (hd : decode cc pc = .ok (.invokespecial idx, 3)) (hl : z_IL own idx (y, bs, mL, none) 0) (hS : Sp Γ d' (y, bs, mL, none) [.ref k] mc ms w P) (hKd : z_d K = d) (hdd : d' < d) (hL : L.length = nL) (hW : (st.map fun v => v.category).sum ≤ 8) (hmc : mc ≤ kc) (hms : ms ≤ ks) (hk : k < w.1) (kk : ∀ r w', P r w' → GG Γ K (kc - mc) (ks - ms) w' (pc + 3) L (r.toList ++ st)) : GG Γ K kc ks w pc L (.ref k :: st) := z_callI C (As := []) hd hl hS hKd hdd hmc hms hk rfl hL hW kk
/-- returns -/
theorem z_ret {isI : Bool} {ret : Option FieldType} {P : Option Value → zW → Prop} {r : Option Value} {p : Program} {e : Env} {R : Room} {s : State} {m : MethodId} {args : Array Value} {below : List Frame} {meth : Method} {c : Code} {Q : State → Prop} {d MC MS : Nat} (M : z_M Γ (p, e, R, s, m, args, below, meth, c, Q, d, MC, MS) cc own nL ret isI P) {H : Heap} {locs : List Loc} {cells slots : Nat} {g : JFrame} (r1 : z_Rep Γ w H) (r2 : ∀ q, q < z_h Γ → H[q]? = s.heap[q]?) (r4 : cells + kc ≤ MC) (r5 : slots + ks ≤ MS) (hP : P r w)
    (k : meth.locks = false → p.tables.exec = Jvm.exec → c.code = cc → meth.sig.returnType = ret → (∀ t : State, t.heap = H → s.WarmedH t.vm → z_Qc Γ P args s (.returned (r.map (z_tr Γ))) t) → W p Γ.1 e R s m args below meth c H locs MC MS (MQ below (z_Qc Γ P) args s MC MS (fun q => z_h Γ ≤ q)) g) : W p Γ.1 e R s m args below meth c H locs cells slots Q g := by
  obtain ⟨⟨⟨hx, hb, hml, hown, hts⟩, hKK, hdF, hdL, hMC, hMS⟩, hr, hlk, -, hQ⟩ := M
  rw [hQ]
  exact W.widen (k := MC) (n := MS) (by omega) (by omega) (k hlk hx hb hr (fun t ht _ => ⟨⟨r, w, rfl, hP, by rw [ht]; exact r1⟩, fun q hq => by rw [ht]; exact r2 q hq⟩))
theorem g_ireturn {isI : Bool} {P : Option Value → zW → Prop} (M : z_M Γ K cc own nL (some .int) isI P) {v : Int32} (hd : decode cc pc = .ok (.ireturn, 1)) (hP : P (some (.int v)) w) : GG Γ K kc ks w pc L [.int v] := by
  obtain ⟨p, e, R, s, m, args, below, meth, c, Q, d, MC, MS⟩ := K
  intro H locs cells slots ls r1 r2 r3 r4 r5 r6
  exact z_ret M r1 r2 r4 r5 hP (fun hlk hx hb hr hq => W.iret hx hb hr hq r3 hd hlk)
theorem g_zreturn {isI : Bool} {P : Option Value → zW → Prop} (M : z_M Γ K cc own nL (some .boolean) isI P) {v : Int32} (hv : narrow .boolean (.int v) = .int v) (hd : decode cc pc = .ok (.ireturn, 1)) (hP : P (some (.int v)) w) : GG Γ K kc ks w pc L [.int v] := by
  obtain ⟨p, e, R, s, m, args, below, meth, c, Q, d, MC, MS⟩ := K
  intro H locs cells slots ls r1 r2 r3 r4 r5 r6
  exact z_ret M r1 r2 r4 r5 hP (fun hlk hx hb hr hq => W.zret hx hb hr hv hq r3 hd hlk)
theorem g_lreturn {isI : Bool} {P : Option Value → zW → Prop} (M : z_M Γ K cc own nL (some .long) isI P) {v : Int64} (hd : decode cc pc = .ok (.lreturn, 1)) (hP : P (some (.long v)) w) : GG Γ K kc ks w pc L [.long v] := by
  obtain ⟨p, e, R, s, m, args, below, meth, c, Q, d, MC, MS⟩ := K
  intro H locs cells slots ls r1 r2 r3 r4 r5 r6
  exact z_ret M r1 r2 r4 r5 hP (fun hlk hx hb hr hq => W.lret hx hb hr hq r3 hd hlk)
theorem g_return {isI : Bool} {P : Option Value → zW → Prop} (M : z_M Γ K cc own nL none isI P) (hd : decode cc pc = .ok (.return_, 1)) (hP : P none w) : GG Γ K kc ks w pc L [] := by
  obtain ⟨p, e, R, s, m, args, below, meth, c, Q, d, MC, MS⟩ := K
  intro H locs cells slots ls r1 r2 r3 r4 r5 r6
  exact z_ret M r1 r2 r4 r5 hP (fun hlk hx hb hr hq => W.vret hx hb hr hq r3 hd hlk)
theorem g_areturn {isI : Bool} {P : Option Value → zW → Prop} {N : String} (M : z_M Γ K cc own nL (some (.object N)) isI P) {q : Nat} (hd : decode cc pc = .ok (.areturn, 1)) (hP : P (some (.ref q)) w) : GG Γ K kc ks w pc L [.ref q] := by
  obtain ⟨p, e, R, s, m, args, below, meth, c, Q, d, MC, MS⟩ := K
  intro H locs cells slots ls r1 r2 r3 r4 r5 r6
  exact z_ret M r1 r2 r4 r5 hP (fun hlk hx hb hr hq => W.aret hx hb hr (Or.inl ⟨_, rfl⟩) (Or.inr ⟨_, rfl⟩) hq r3 hd hlk)
/-- Math.min -/
theorem g_mmin (C : z_C Γ K cc own nL) {idx d : Nat} {x y : Int32} (hd : decode cc pc = .ok (.invokestatic idx, 3)) (hl : Cond.methodLink own idx Lib.Math.min.name ∈ tb ∧ Cond.static Lib.Math.min.name ∈ tb ∧ Cond.initialized "java/lang/Math" ∈ tb ∧ Cond.code Lib.Math.min.name Lib.Math.min.code 2 (some .int) ∈ tb) (hKd : z_d K = d) (hdd : 1 ≤ d) (hL : L.length = nL) (hW : (st.map fun v => v.category).sum ≤ 8) (k : GG Γ K kc ks w (pc + 3) L (.int (if y < x then y else x) :: st)) : GG Γ K kc ks w pc L (.int y :: .int x :: st) := by
  obtain ⟨p, e, R, s, m, args, below, meth, c, Q, d0, MC, MS⟩ := K
  obtain ⟨⟨hx, hb, hml, hown, hts⟩, hKK, hdF, hdL, hMC, hMS⟩ := C
  obtain rfl : d0 = d := hKd
  intro H locs cells slots ls r1 r2 r3 r4 r5 r6
  have hlen : ls.size = nL := by rw [← hL]; exact r6.1.1
  have hcat : ((st.map (z_tr Γ)).map fun v => v.category).sum ≤ 8 := by
    have := z_hW (Γ := Γ) (m := m) (pc := 0) (ls := ls) (st0 := []) hW
    simpa [JFrame.monitorRoom] using this
  exact va_mmin hx hb (hml.trans hlen.symm) hown (hts _ hl.1) (hts _ hl.2.1) (hts _ hl.2.2.1) (hts _ hl.2.2.2) (by omega) (by omega) (by omega) (by omega) hd (k H locs cells slots ls r1 r2 r3 r4 r5 r6)
/-- Math.max -/
theorem g_mmax (C : z_C Γ K cc own nL) {idx d : Nat} {x y : Int32} (hd : decode cc pc = .ok (.invokestatic idx, 3)) (hl : Cond.methodLink own idx Lib.Math.max.name ∈ tb ∧ Cond.static Lib.Math.max.name ∈ tb ∧ Cond.initialized "java/lang/Math" ∈ tb ∧ Cond.code Lib.Math.max.name Lib.Math.max.code 2 (some .int) ∈ tb) (hKd : z_d K = d) (hdd : 1 ≤ d) (hL : L.length = nL) (hW : (st.map fun v => v.category).sum ≤ 8) (k : GG Γ K kc ks w (pc + 3) L (.int (if x < y then y else x) :: st)) : GG Γ K kc ks w pc L (.int y :: .int x :: st) := by
  obtain ⟨p, e, R, s, m, args, below, meth, c, Q, d0, MC, MS⟩ := K
  obtain ⟨⟨hx, hb, hml, hown, hts⟩, hKK, hdF, hdL, hMC, hMS⟩ := C
  obtain rfl : d0 = d := hKd
  intro H locs cells slots ls r1 r2 r3 r4 r5 r6
  have hlen : ls.size = nL := by rw [← hL]; exact r6.1.1
  have hcat : ((st.map (z_tr Γ)).map fun v => v.category).sum ≤ 8 := by
    have := z_hW (Γ := Γ) (m := m) (pc := 0) (ls := ls) (st0 := []) hW
    simpa [JFrame.monitorRoom] using this
  exact va_mmax hx hb (hml.trans hlen.symm) hown (hts _ hl.1) (hts _ hl.2.1) (hts _ hl.2.2.1) (hts _ hl.2.2.2) (by omega) (by omega) (by omega) (by omega) hd (k H locs cells slots ls r1 r2 r3 r4 r5 r6)
end ZC
end
section
/-! what is made: objects, arrays; Object.<init>; a store of a reference into an array -/
def z_def : zF → Value
  | .inl 0 => .int 0
  | .inl (_ + 1) => .long 0
  | .inr _ => .null
def z_nr : zF → Bool
  | .inr (some _) => false
  | _ => true
def z_NL (own : String) (idx ci : Nat) (fs : List zF) (N : Nat) : Prop := ∃ q : vw_C, vwCl[ci]? = some q ∧ q.2.2 = N ∧ fs.length = N ∧ Cond.classLink own idx q.1 ∈ tb ∧ Cond.instantiable q.1 N ∈ tb ∧ Cond.initialized q.1 ∈ tb ∧ fs.all z_nr = true ∧ ∀ j, j < N → (parseFieldDescriptor (q.2.1 j).2.2.1).map defaultValue = fs[j]?.map z_def
def z_OL (own : String) (idx : Nat) : Prop := Cond.methodLink own idx objectInit ∈ tb ∧ Cond.instanceMethod objectInit ∈ tb ∧ Cond.code objectInit ⟨#[0xb1]⟩ 1 none ∈ tb
section ZN
variable {Γ : zG} {K : zK} {kc ks : Nat} {w : zW} {pc : Nat} {L Lr : List (Option Value)} {st : List Value} {cc : ByteArray} {own : String} {nL : Nat}
theorem g_objInit (C : z_C Γ K cc own nL) {idx k d : Nat} (hd : decode cc pc = .ok (.invokespecial idx, 3)) (hl : z_OL own idx) (hKd : z_d K = d) (hdd : 1 ≤ d) (hL : L.length = nL) (hW : (st.map fun v => v.category).sum ≤ 8) (kk : GG Γ K kc ks w (pc + 3) L st) : GG Γ K kc ks w pc L (.ref k :: st) := by
  obtain ⟨p, e, R, s, m, args, below, meth, c, Q, d0, MC, MS⟩ := K
  obtain ⟨⟨hx, hb, hml, hown, hts⟩, hKK, hdF, hdL, hMC, hMS⟩ := C
  obtain rfl : d0 = d := hKd
  intro H locs cells slots ls r1 r2 r3 r4 r5 r6
  have hlen : ls.size = nL := by rw [← hL]; exact r6.1.1
  have hcat := z_hW (Γ := Γ) (m := m) (pc := 0) (ls := ls) (st0 := []) hW
  have hc2 : 2 * (F0 m pc ls (Value.ref (z_ad Γ k) :: st.map (z_tr Γ))).monitorRoom + ((st.map (z_tr Γ)).map fun v => v.category).sum ≤ 8 := hcat
  have hc3 : 2 * (F0 m pc ls (Value.ref (z_ad Γ k) :: st.map (z_tr Γ))).monitorRoom + ((st.map (z_tr Γ)).map fun v => v.category).sum + 12 ≤ R.locals := by omega
  exact W.objInit hx hb hown (hts _ hl.1) (hts _ hl.2.1) (hts _ hl.2.2) rfl (by rw [hml]; exact hlen) rfl hd (by omega) hc3 (kk H locs cells slots ls r1 r2 r3 r4 r5 r6)
/-- the world behind a new place -/
theorem z_Rep.push {w' : zW} {H H1 : Heap} (r1 : z_Rep Γ w H) (hn : w.1 < 100) (h1 : w'.1 = w.1 + 1) (h2 : ∀ q, q < w.1 → z_ce Γ w' q = z_ce Γ w q) (h3 : va_at (z_D Γ) vwCl (z_h Γ + w.1, z_ce Γ w' w.1) H1) (e2 : H1.size = H.size + 1) (e3 : ∀ q, q < H.size → H1[q]? = H[q]?) : z_Rep Γ w' H1 := by
  refine ⟨by rw [e2, h1, r1.1]; omega, by omega, fun q hq => ?_⟩
  by_cases hqk : q = w.1
  · subst hqk; exact h3
  · rw [h2 q (by omega)]
    exact (r1.2.2 q (by omega)).kept (e3 _ (by show z_h Γ + q < _; rw [r1.1]; omega))
theorem g_new (C : z_C Γ K cc own nL) {σ : Nat → zS} {n : Nat} {c : Nat → Nat → Int32} {t : Nat → Int64} {idx ci N : Nat} {fs : List zF} (hd : decode cc pc = .ok (.new idx, 3)) (hl : z_NL own idx ci fs N) (hn : n < 100) (hkc : 1 ≤ kc) (hks : N ≤ ks)
    (kk : GG Γ K (kc - 1) (ks - N) (n + 1, z_upS σ n (.inr (ci, fs)), z_row c n (fun _ => 0), z_upL t n 0) (pc + 3) L (.ref n :: st)) : GG Γ K kc ks (n, σ, c, t) pc L st := by
  obtain ⟨p, e, R, s, m, args, below, meth, c0, Q, d, MC, MS⟩ := K
  obtain ⟨⟨hx, hb, hml, hown, hts⟩, hKK, hdF, hdL, hMC, hMS⟩ := C
  intro H locs cells slots ls r1 r2 r3 r4 r5 r6
  obtain ⟨q, hc, hqN, hfl, l1, l2, l3, hnr, hdf⟩ := hl
  obtain ⟨hin, ⟨ty0, hty⟩, hnm⟩ := z_cls hc
  have hKn := hKK.1.1 ci _ hc
  refine W.newcK hx hb hown (hts _ l1) (hts _ l2) (hts _ l3) rfl hd (by omega) (by omega) hKn.2.1 r1.1 fun H1 kC hkC e1 z1 o1 => ?_
  have hstk : (Value.ref (z_h Γ + n)) :: st.map (z_tr Γ) = (Value.ref n :: st).map (z_tr Γ) := by
    rw [List.map_cons]; show _ = Value.ref _ :: _; rw [z_ad_lt (by omega)]
  have hz : H.size = z_h Γ + n := r1.1
  have e0 : ∀ x, x < H.size → H1[x]? = H[x]? := fun x hx => o1 x (by rw [← hz]; exact hx)
  show W p Γ.1 e R s m args below meth c0 H1 locs (cells + 1) (slots + N) Q (F0 m (pc + 3) ls (Value.ref (z_h Γ + n) :: st.map (z_tr Γ)))
  rw [hstk]
  refine kk H1 locs (cells + 1) (slots + N) ls ?_ (fun x hx => (o1 x (by show x < z_h Γ + n; omega)).trans (r2 x hx)) r3 (by omega) (by omega) r6
  refine r1.push (w := (n, σ, c, t)) hn rfl (fun x hx => z_ce_congr ?_ ?_ ?_) ?_ (by rw [z1, hz]) e0
  · show z_upS _ _ _ x = _; unfold z_upS; rw [if_neg (by have : x < n := hx; omega)]
  · show z_row c n _ x = c x; unfold z_row; rw [if_neg (by have : x < n := hx; omega)]
  · show z_upL t n 0 x = t x; unfold z_upL; rw [if_neg (by have : x < n := hx; omega)]
  · show va_at _ _ (z_h Γ + n, _) H1
    unfold z_ce
    rw [show ((n + 1, z_upS σ n (.inr (ci, fs)), z_row c n (fun _ => 0), z_upL t n 0) : zW).2.1 (n, σ, c, t).1 = .inr (ci, fs) by show z_upS _ _ _ n = _; unfold z_upS; rw [if_pos rfl]]
    refine ⟨_, hc, (u_born ty0 hts hin hKn hkC e1 hty).to fun j hj => ?_⟩
    show defaultValue (ty0 j) = ((fs.mapIdx fun j fd => z_fv Γ (z_row c n (fun _ => 0) n) (z_upL t n 0 n) j fd)).getD j .null
    have h9 := hdf j (by omega)
    rw [hty j hj] at h9
    have hfd : fs[j]? = some (fs[j]'(by omega)) := List.getElem?_eq_getElem (by omega)
    rw [hfd] at h9
    rw [List.getD_eq_getElem?_getD, List.getElem?_mapIdx, hfd]
    have h10 := List.all_eq_true.mp hnr _ (List.mem_of_getElem? hfd)
    have h11 : defaultValue (ty0 j) = z_def (fs[j]'(by omega)) := Option.some.inj h9
    rw [h11]
    generalize fs[j]'(by omega) = fd at h10
    match fd, h10 with
    | .inl 0, _ => show Value.int 0 = Value.int (z_row c n (fun _ => 0) n j); unfold z_row; rw [if_pos rfl]
    | .inl (_ + 1), _ => show Value.long 0 = Value.long (z_upL t n 0 n); unfold z_upL; rw [if_pos rfl]
    | .inr none, _ => rfl
    | .inr (some _), h => exact absurd h Bool.false_ne_true
theorem z_newA (C : z_C Γ K cc own nL) {σ : Nat → zS} {n N : Nat} {c : Nat → Nat → Int32} {t : Nat → Int64} {atype : ArrayType} (q : Nat) (hat : (q = 0 ∧ atype = .int) ∨ (q = 1 ∧ atype = .boolean)) (hd : decode cc pc = .ok (.newarray atype, 2)) (hw : Cond.arrayClass (newarray.typeOf atype) ∈ tb) (hN : N < 100000) (hn : n < 100) (hkc : 1 ≤ kc) (hks : N ≤ ks)
    (kk : GG Γ K (kc - 1) (ks - N) (n + 1, z_upS σ n (.inl (q, N, fun _ => none)), z_row c n (fun _ => 0), z_upL t n 0) (pc + 2) L (.ref n :: st)) : GG Γ K kc ks (n, σ, c, t) pc L (.int (nI N) :: st) := by
  obtain ⟨p, e, R, s, m, args, below, meth, c0, Q, d, MC, MS⟩ := K
  obtain ⟨⟨hx, hb, hml, hown, hts⟩, hKK, hdF, hdL, hMC, hMS⟩ := C
  intro H locs cells slots ls r1 r2 r3 r4 r5 r6
  have hz : H.size = z_h Γ + n := r1.1
  refine va_newaK hx hb (hts _ hw) rfl hd (n := nI N) (N := N) (rest := st.map (z_tr Γ)) rfl (nI_pos (by omega)) (nI_clamp (by omega)) ?_ (by omega) (by omega) hz (fun H1 cA e1 z1 o1 hAr hNm => ?_)
  · have h4 : componentBytes (newarray.typeOf atype) ≤ 4 := by
      rcases hat with ⟨-, rfl⟩ | ⟨-, rfl⟩ <;> decide
    exact Nat.le_trans (Nat.mul_le_mul (Nat.le_of_lt hN) h4) (by decide)
  · have hstk : (Value.ref (z_h Γ + n)) :: st.map (z_tr Γ) = (Value.ref n :: st).map (z_tr Γ) := by
      rw [List.map_cons]; show _ = Value.ref _ :: _; rw [z_ad_lt (by omega)]
    show W p Γ.1 e R s m args below meth c0 H1 locs (cells + 1) (slots + N) Q (F0 m (pc + 2) ls (Value.ref (z_h Γ + n) :: st.map (z_tr Γ)))
    rw [hstk]
    refine kk H1 locs (cells + 1) (slots + N) ls ?_ (fun x hx => (o1 x (by omega)).trans (r2 x hx)) r3 (by omega) (by omega) r6
    refine r1.push (w := (n, σ, c, t)) hn rfl (fun x hx => z_ce_congr ?_ ?_ ?_) ?_ (by rw [z1, hz]) (fun x hx => o1 x (by omega))
    · show z_upS _ _ _ x = _; unfold z_upS; rw [if_neg (by have : x < n := hx; omega)]
    · show z_row c n _ x = c x; unfold z_row; rw [if_neg (by have : x < n := hx; omega)]
    · show z_upL t n 0 x = t x; unfold z_upL; rw [if_neg (by have : x < n := hx; omega)]
    · show va_at _ _ (z_h Γ + n, _) H1
      unfold z_ce
      rw [show ((n + 1, z_upS σ n (.inl (q, N, fun _ => none)), z_row c n (fun _ => 0), z_upL t n 0) : zW).2.1 (n, σ, c, t).1 = .inl (q, N, fun _ => none) by show z_upS _ _ _ n = _; unfold z_upS; rw [if_pos rfl]]
      have hrow : z_row c n (fun _ => 0) n = fun _ => 0 := by unfold z_row; rw [if_pos rfl]
      rcases hat with ⟨rfl, rfl⟩ | ⟨rfl, rfl⟩
      · have hA : z_A Γ 0 = cA := Option.some.inj ((hKK.1.2 0 _ rfl).2.symm.trans hNm)
        show H1[z_h Γ + n]? = some (vp_cell (z_A Γ 0) (N, .inl (z_row c n (fun _ => 0) n)))
        rw [hrow, hA, e1]
        rfl
      · have hA : z_A Γ 1 = cA := Option.some.inj ((hKK.1.2 1 _ rfl).2.symm.trans hNm)
        show H1[z_h Γ + n]? = some (vp_cell (z_A Γ 1) (N, .inl (z_row c n (fun _ => 0) n)))
        rw [hrow, hA, e1]
        rfl
theorem g_anew (C : z_C Γ K cc own nL) {σ : Nat → zS} {n N idx : Nat} {c : Nat → Nat → Int32} {t : Nat → Int64} (hd : decode cc pc = .ok (.anewarray idx, 3)) (hw : Cond.classLink own idx RX1 ∈ tb) (hN : N < 100000) (hn : n < 100) (hkc : 1 ≤ kc) (hks : N ≤ ks)
    (kk : GG Γ K (kc - 1) (ks - N) (n + 1, z_upS σ n (.inl (2, N, fun _ => none)), z_row c n (fun _ => 0), z_upL t n 0) (pc + 3) L (.ref n :: st)) : GG Γ K kc ks (n, σ, c, t) pc L (.int (nI N) :: st) := by
  obtain ⟨p, e, R, s, m, args, below, meth, c0, Q, d, MC, MS⟩ := K
  obtain ⟨⟨hx, hb, hml, hown, hts⟩, hKK, hdF, hdL, hMC, hMS⟩ := C
  intro H locs cells slots ls r1 r2 r3 r4 r5 r6
  have hz : H.size = z_h Γ + n := r1.1
  have hcl : (nI N).toNatClampNeg = N := nI_clamp (by omega)
  refine W.anew hx hb hown (hts _ hw) (va_AO.use hKK.2.1) rfl hd (n := nI N) (rest := st.map (z_tr Γ)) rfl (nI_pos (by omega)) (by rw [hcl]; omega) (by omega) (by rw [hcl]; omega) (fun cA kA comp f1 f2 f3 f4 => ?_)
  rw [hcl, hz]
  have hstk : (Value.ref (z_h Γ + n)) :: st.map (z_tr Γ) = (Value.ref n :: st).map (z_tr Γ) := by
    rw [List.map_cons]; show _ = Value.ref _ :: _; rw [z_ad_lt (by omega)]
  generalize hH1 : H.push ({ cls := cA, slots := Array.replicate N .null, vm := .none } : Cell) = H1
  have z1 : H1.size = H.size + 1 := by rw [← hH1, Array.size_push]
  have e1 : H1[H.size]? = some (arrV cA N (fun _ => .null)) := by rw [← hH1, Array.getElem?_push_size, ← arrV_new]
  have o1 : ∀ q : Nat, q < H.size → H1[q]? = H[q]? := fun q hq => by rw [← hH1, Array.getElem?_push, if_neg (Nat.ne_of_lt hq)]
  show W p Γ.1 e R s m args below meth c0 H1 locs (cells + 1) (slots + N) Q (F0 m (pc + 3) ls (Value.ref (z_h Γ + n) :: st.map (z_tr Γ)))
  rw [hstk]
  refine kk H1 locs (cells + 1) (slots + N) ls ?_ (fun x hx => (o1 x (by omega)).trans (r2 x hx)) r3 (by omega) (by omega) r6
  refine r1.push (w := (n, σ, c, t)) hn rfl (fun x hx => z_ce_congr ?_ ?_ ?_) ?_ z1 o1
  · show z_upS _ _ _ x = _; unfold z_upS; rw [if_neg (by have : x < n := hx; omega)]
  · show z_row c n _ x = c x; unfold z_row; rw [if_neg (by have : x < n := hx; omega)]
  · show z_upL t n 0 x = t x; unfold z_upL; rw [if_neg (by have : x < n := hx; omega)]
  · show va_at _ _ (z_h Γ + n, _) H1
    unfold z_ce
    rw [show ((n + 1, z_upS σ n (.inl (2, N, fun _ => none)), z_row c n (fun _ => 0), z_upL t n 0) : zW).2.1 (n, σ, c, t).1 = .inl (2, N, fun _ => none) by show z_upS _ _ _ n = _; unfold z_upS; rw [if_pos rfl]]
    obtain ⟨_, _, -, -, -, h4⟩ := (hKK.1.2 2 _ rfl).2
    have hA : z_A Γ 2 = cA := Option.some.inj (h4.symm.trans f1)
    show H1[z_h Γ + n]? = some (vp_cell (z_A Γ 2) (N, .inr (.inr (.inr (.inr (fun _ => none))))))
    rw [hA, ← hz, e1]
    rfl
theorem g_aast (C : z_C Γ K cc own nL) {σ : Nat → zS} {N : Nat} {c : Nat → Nat → Int32} {t : Nat → Int64} {k n v j : Nat} {f : Nat → Option Nat} {fs : List zF} (hd : decode cc pc = .ok (.aastore, 1)) (hk : k < N) (hs : σ k = .inl (2, n, f)) (hj : j < n) (hn : n < 2 ^ 31) (hv : v < N) (hsv : σ v = .inr (1, fs)) (kk : GG Γ K kc ks (N, z_upS σ k (.inl (2, n, fun b => if b = j then some v else f b)), c, t) (pc + 1) L st) : GG Γ K kc ks (N, σ, c, t) pc L (.ref v :: .int (nI j) :: .ref k :: st) := by
  obtain ⟨p, e, R, s, m, args, below, meth, c0, Q, d, MC, MS⟩ := K
  obtain ⟨⟨hx, hb, hml, hown, hts⟩, hKK, hdF, hdL, hMC, hMS⟩ := C
  intro H locs cells slots ls r1 r2 r3 r4 r5 r6
  have hP := z_P1 r1 hk (E := .inl (z_A Γ 2, n, .inr (.inr (.inr (.inr (fun j => (f j).map (fun k => z_h Γ + k))))))) (by unfold z_ce; rw [show ((N, σ, c, t) : zW).2.1 k = _ from hs])
  have hV := z_P1 r1 hv (E := .inr (1, fs.mapIdx fun j fd => z_fv Γ (c v) (t v) j fd)) (by unfold z_ce; rw [show ((N, σ, c, t) : zW).2.1 v = _ from hsv])
  show W p Γ.1 e R s m args below meth c0 H locs cells slots Q (F0 m pc ls (.ref (z_ad Γ v) :: .int (nI j) :: .ref (z_ad Γ k) :: st.map (z_tr Γ)))
  rw [z_ad_lt (z_ltK r1 hk), z_ad_lt (z_ltK r1 hv)]
  have hcj : (nI j).toNatClampNeg = j := nI_clamp (by omega)
  obtain ⟨r', hr', cellV, g1, g2, g3, -⟩ := hV 0 _ rfl
  have hcls := (hKK.1.1 1 _ hr').2
  obtain ⟨kA, comp, k1, k2, k3, -⟩ := (hKK.1.2 2 _ rfl).2
  have hr1 : r'.1 = RX1 := by cases hr'; rfl
  rw [hr1] at hcls
  have hcomp : comp = (z_D Γ).1 1 := Option.some.inj (k3.symm.trans hcls.1)
  subst hcomp
  obtain ⟨kC, hkC, -⟩ := hcls.2
  refine W.aast hx hb (hP 0 _ rfl) (fun q h => by cases h) (fun h => by cases h) k1 k2 rfl hkC ⟨nI_pos (by omega), by rw [hcj]; show j < (arrV _ _ _).slots.size; rw [arrV_size]; exact hj⟩ g1 (fun q h => by rw [g3] at h; cases h) (by rw [g2]; exact hkC) (by rw [g2]; exact va_assign hcls) rfl rfl hd fun H1 e1 e2 e3 => ?_
  rw [hcj] at e1 ⊢
  refine kk H1 _ cells slots ls ?_ (fun a ha => ?_) ?_ r4 r5 r6
  · refine r1.put hk rfl (fun q _ hq => z_ce_congr ?_ rfl rfl) ?_ e2 e3
    · show z_upS _ _ _ q = _; unfold z_upS; rw [if_neg hq]
    · unfold z_ce
      rw [show ((N, z_upS σ k (.inl (2, n, fun b => if b = j then some v else f b)), c, t) : zW).2.1 k = .inl (2, n, fun b => if b = j then some v else f b) by show z_upS _ _ _ k = _; unfold z_upS; rw [if_pos rfl]]
      show H1[z_h Γ + k]? = some (vp_cell _ _)
      rw [e1, vp_cell_q, vp_cell_q, arrV_store]
      congr 2
      funext q
      show updV _ _ _ q = va_rf ((if q = j then some v else f q).map _)
      unfold updV
      by_cases hq : q = j
      · rw [if_pos hq, if_pos hq]; rfl
      · rw [if_neg hq, if_neg hq]
  · exact (e3 a (by show a ≠ z_h Γ + k; omega)).trans (r2 a ha)
  · intro y hy
    rcases List.mem_append.mp hy with h | h
    · exact r3 y h
    · rw [List.mem_singleton.mp h]
      show z_h Γ ≤ z_h Γ + k
      omega
end ZN
end
section
/-! what each entry of a pool links: by the words' places in the tables -/
abbrev mX0_init : zM := (yX0_init, cX0_init, 1, none)
abbrev mX0_restart : zM := (yX0_restart, cX0_restart, 1, none)
abbrev mX0_enlist : zM := (yX0_enlist, cX0_enlist, 4, none)
abbrev mX0_become : zM := (yX0_become, cX0_become, 3, none)
abbrev mX0_all : zM := (yX0_all, cX0_all, 1, some .int)
abbrev mX0_trusted : zM := (yX0_trusted, cX0_trusted, 2, some .int)
abbrev mX0_isOnDeck : zM := (yX0_isOnDeck, cX0_isOnDeck, 3, some .boolean)
abbrev mX0_dares : zM := (yX0_dares, cX0_dares, 4, some .boolean)
abbrev mX0_inkBehind : zM := (yX0_inkBehind, cX0_inkBehind, 2, some .int)
abbrev mX0_signedInTheEnd : zM := (yX0_signedInTheEnd, cX0_signedInTheEnd, 5, some .int)
abbrev mX0_largestClique : zM := (yX0_largestClique, cX0_largestClique, 3, some .int)
abbrev mX0_isClique : zM := (yX0_isClique, cX0_isClique, 3, some .boolean)
abbrev mX1_init : zM := (yX1_init, cX1_init, 1, none)
abbrev mX1_restart : zM := (yX1_restart, cX1_restart, 1, none)
abbrev mX1_become : zM := (yX1_become, cX1_become, 3, none)
abbrev mX1_write : zM := (yX1_write, cX1_write, 4, none)
abbrev mX1_there : zM := (yX1_there, cX1_there, 4, some .int)
abbrev mX1_seatOf : zM := (yX1_seatOf, cX1_seatOf, 3, some .int)
abbrev mX1_inkOf : zM := (yX1_inkOf, cX1_inkOf, 3, some .int)
abbrev mX2_init : zM := (yX2_init, cX2_init, 1, none)
abbrev mX2_find : zM := (yX2_find, cX2_find, 6, none)
abbrev mX2_extend : zM := (yX2_extend, cX2_extend, 10, none)
abbrev mX2_add : zM := (yX2_add, cX2_add, 2, none)
abbrev mX2_placeOf : zM := (yX2_placeOf, cX2_placeOf, 2, some .int)
abbrev mX2_firstOf : zM := (yX2_firstOf, cX2_firstOf, 1, some .int)
abbrev mX2_firsts : zM := (yX2_firsts, cX2_firsts, 3, some .int)
abbrev mX2_timesFirst : zM := (yX2_timesFirst, cX2_timesFirst, 4, some .int)
abbrev mX2_likeliestFirst : zM := (yX2_likeliestFirst, cX2_likeliestFirst, 5, some .int)
abbrev mX2_alwaysAheadOf : zM := (yX2_alwaysAheadOf, cX2_alwaysAheadOf, 4, some .int)
abbrev mX2_aheadOf : zM := (yX2_aheadOf, cX2_aheadOf, 6, some .int)
abbrev mX2_fewestToAsk : zM := (yX2_fewestToAsk, cX2_fewestToAsk, 3, some .int)
abbrev mX2_tellWhoWasFirst : zM := (yX2_tellWhoWasFirst, cX2_tellWhoWasFirst, 7, some .boolean)
abbrev mX2_rankOfPlaces : zM := (yX2_rankOfPlaces, cX2_rankOfPlaces, 8, some .int)
abbrev mX3_init : zM := (yX3_init, cX3_init, 2, none)
abbrev mX3_remember : zM := (yX3_remember, cX3_remember, 3, none)
abbrev mX3_giveBack : zM := (yX3_giveBack, cX3_giveBack, 4, some .boolean)
abbrev mX3_forget : zM := (yX3_forget, cX3_forget, 1, none)
abbrev mX3_slotAt : zM := (yX3_slotAt, cX3_slotAt, 2, some (.object RX1))
abbrev mX4_init : zM := (yX4_init, cX4_init, 1, none)
abbrev mX4_append : zM := (yX4_append, cX4_append, 2, some .boolean)
abbrev mX4_readInto : zM := (yX4_readInto, cX4_readInto, 4, some .int)
abbrev mX4_readSailor : zM := (yX4_readSailor, cX4_readSailor, 5, some .boolean)
abbrev mX4_readDip : zM := (yX4_readDip, cX4_readDip, 2, some .boolean)
abbrev mX4_readSeats : zM := (yX4_readSeats, cX4_readSeats, 2, some .boolean)
abbrev mX4_itemEnds : zM := (yX4_itemEnds, cX4_itemEnds, 1, some .boolean)
abbrev mX4_numberFrom : zM := (yX4_numberFrom, cX4_numberFrom, 4, some .int)
abbrev mX4_next : zM := (yX4_next, cX4_next, 3, some .int)
abbrev mX4_nextNumber : zM := (yX4_nextNumber, cX4_nextNumber, 4, some .int)
abbrev mX4_isDigit : zM := (yX4_isDigit, cX4_isDigit, 1, some .boolean)
abbrev mX5_init : zM := (yX5_init, cX5_init, 1, none)
abbrev mX5_type : zM := (yX5_type, cX5_type, 2, some .int)
abbrev mX5_clear : zM := (yX5_clear, cX5_clear, 2, some .int)
abbrev mX5_crew : zM := (yX5_crew, cX5_crew, 2, some .int)
abbrev mX5_sailor : zM := (yX5_sailor, cX5_sailor, 3, some .int)
abbrev mX5_seat : zM := (yX5_seat, cX5_seat, 3, some .int)
abbrev mX5_now : zM := (yX5_now, cX5_now, 2, some .int)
abbrev mX5_signs : zM := (yX5_signs, cX5_signs, 4, some .int)
abbrev mX5_hour : zM := (yX5_hour, cX5_hour, 1, some .int)
abbrev mX5_scrape : zM := (yX5_scrape, cX5_scrape, 3, some .int)
abbrev mX5_undo : zM := (yX5_undo, cX5_undo, 1, some .int)
abbrev mX5_will : zM := (yX5_will, cX5_will, 1, some .int)
abbrev mX5_begin : zM := (yX5_begin, cX5_begin, 5, some .int)
abbrev mX5_orders : zM := (yX5_orders, cX5_orders, 1, some .int)
abbrev mX5_first : zM := (yX5_first, cX5_first, 1, some .int)
abbrev mX5_sure : zM := (yX5_sure, cX5_sure, 2, some .int)
abbrev mX5_chance : zM := (yX5_chance, cX5_chance, 3, some .int)
abbrev mX5_ask : zM := (yX5_ask, cX5_ask, 1, some .int)
abbrev mX5_hang : zM := (yX5_hang, cX5_hang, 1, some .int)
abbrev mX5_shift : zM := (yX5_shift, cX5_shift, 6, some .int)
abbrev mX5_odds : zM := (yX5_odds, cX5_odds, 8, some .int)
abbrev mX5_bold : zM := (yX5_bold, cX5_bold, 4, some .int)
abbrev mX5_clique : zM := (yX5_clique, cX5_clique, 3, some .int)
abbrev mX5_rate : zM := (yX5_rate, cX5_rate, 3, some .int)
abbrev mX5_keep : zM := (yX5_keep, cX5_keep, 2, some .int)
abbrev mX5_back : zM := (yX5_back, cX5_back, 2, some .int)
abbrev mX5_count : zM := (yX5_count, cX5_count, 2, some .int)
abbrev mX5_trace : zM := (yX5_trace, cX5_trace, 1, some .long)
abbrev mX5_isSailor : zM := (yX5_isSailor, cX5_isSailor, 2, some .boolean)
abbrev mX5_isSeat : zM := (yX5_isSeat, cX5_isSeat, 2, some .boolean)
abbrev mX5_isThere : zM := (yX5_isThere, cX5_isThere, 2, some .boolean)
abbrev mX5_isPart : zM := (yX5_isPart, cX5_isPart, 1, some .boolean)
abbrev mX5_wouldSign : zM := (yX5_wouldSign, cX5_wouldSign, 2, some .boolean)
abbrev mX5_thoseWhoWould : zM := (yX5_thoseWhoWould, cX5_thoseWhoWould, 3, some .int)
abbrev mX5_imageAt : zM := (yX5_imageAt, cX5_imageAt, 2, some (.object RX1))
abbrev mX5_asSailor : zM := (yX5_asSailor, cX5_asSailor, 2, some .int)
abbrev mX5_asCook : zM := (yX5_asCook, cX5_asCook, 2, some .int)
abbrev mX5_asMate : zM := (yX5_asMate, cX5_asMate, 2, some .int)
abbrev mX5_asBosun : zM := (yX5_asBosun, cX5_asBosun, 2, some .int)
abbrev mX5_asGunner : zM := (yX5_asGunner, cX5_asGunner, 2, some .int)
abbrev mX5_asBoy : zM := (yX5_asBoy, cX5_asBoy, 2, some .int)
abbrev mX5_has : zM := (yX5_has, cX5_has, 2, some .boolean)
abbrev mX5_at : zM := (yX5_at, cX5_at, 2, some .int)
abbrev mX5_put : zM := (yX5_put, cX5_put, 3, none)
abbrev mX5_power : zM := (yX5_power, cX5_power, 4, some .int)
abbrev mX5_inLeastTerms : zM := (yX5_inLeastTerms, cX5_inLeastTerms, 5, some .int)
abbrev mX5_commonDivisor : zM := (yX5_commonDivisor, cX5_commonDivisor, 6, some .int)
abbrev mX6_init : zM := (yX6_init, cX6_init, 1, none)
abbrev mX6_in : zM := (yX6_in, cX6_in, 3, some .boolean)
abbrev mX6_isSailor : zM := (yX6_isSailor, cX6_isSailor, 2, some .boolean)
abbrev mX6_isSeat : zM := (yX6_isSeat, cX6_isSeat, 2, some .boolean)
abbrev mX6_ones : zM := (yX6_ones, cX6_ones, 3, some .int)
abbrev mX6_type : zM := (yX6_type, cX6_type, 2, some .int)
abbrev mX6_clear : zM := (yX6_clear, cX6_clear, 2, some .int)
abbrev mX6_letterAt : zM := (yX6_letterAt, cX6_letterAt, 2, some .int)
abbrev mX6_isDigit : zM := (yX6_isDigit, cX6_isDigit, 1, some .boolean)
abbrev mX6_token : zM := (yX6_token, cX6_token, 2, none)
abbrev mX6_number : zM := (yX6_number, cX6_number, 4, some .boolean)
abbrev mX6_once : zM := (yX6_once, cX6_once, 4, some .boolean)
abbrev mX6_readsItem : zM := (yX6_readsItem, cX6_readsItem, 3, some .boolean)
abbrev mX6_reads : zM := (yX6_reads, cX6_reads, 2, some .boolean)
abbrev mX6_tells : zM := (yX6_tells, cX6_tells, 2, none)
abbrev mX6_crew : zM := (yX6_crew, cX6_crew, 1, some .int)
abbrev mX6_seatOf : zM := (yX6_seatOf, cX6_seatOf, 4, some .int)
abbrev mX6_would : zM := (yX6_would, cX6_would, 3, some .boolean)
abbrev mX6_wouldNow : zM := (yX6_wouldNow, cX6_wouldNow, 2, some .boolean)
abbrev mX6_sailor : zM := (yX6_sailor, cX6_sailor, 3, some .int)
abbrev mX6_seat : zM := (yX6_seat, cX6_seat, 3, some .int)
abbrev mX6_there : zM := (yX6_there, cX6_there, 3, some .int)
abbrev mX6_now : zM := (yX6_now, cX6_now, 4, some .int)
abbrev mX6_keeps : zM := (yX6_keeps, cX6_keeps, 2, none)
abbrev mX6_signs : zM := (yX6_signs, cX6_signs, 3, some .int)
abbrev mX6_hour : zM := (yX6_hour, cX6_hour, 1, some .int)
abbrev mX6_scrape : zM := (yX6_scrape, cX6_scrape, 3, some .int)
abbrev mX6_undo : zM := (yX6_undo, cX6_undo, 2, some .int)
abbrev mX6_closed : zM := (yX6_closed, cX6_closed, 5, some .int)
abbrev mX6_will : zM := (yX6_will, cX6_will, 1, some .int)
abbrev mX6_begin : zM := (yX6_begin, cX6_begin, 5, some .int)
abbrev mX6_inkOf : zM := (yX6_inkOf, cX6_inkOf, 2, some .int)
abbrev mX6_lays : zM := (yX6_lays, cX6_lays, 9, none)
abbrev mX6_of : zM := (yX6_of, cX6_of, 2, some .int)
abbrev mX6_placeIn : zM := (yX6_placeIn, cX6_placeIn, 5, some .int)
abbrev mX6_orders : zM := (yX6_orders, cX6_orders, 1, some .int)
abbrev mX6_firsts : zM := (yX6_firsts, cX6_firsts, 4, some .int)
abbrev mX6_first : zM := (yX6_first, cX6_first, 1, some .int)
abbrev mX6_isThere : zM := (yX6_isThere, cX6_isThere, 2, some .boolean)
abbrev mX6_sure : zM := (yX6_sure, cX6_sure, 7, some .int)
abbrev mX6_leads : zM := (yX6_leads, cX6_leads, 4, some .int)
abbrev mX6_common : zM := (yX6_common, cX6_common, 5, some .int)
abbrev mX6_chance : zM := (yX6_chance, cX6_chance, 6, some .int)
abbrev mX6_isKnown : zM := (yX6_isKnown, cX6_isKnown, 7, some .boolean)
abbrev mX6_ask : zM := (yX6_ask, cX6_ask, 6, some .int)
abbrev mX6_hang : zM := (yX6_hang, cX6_hang, 5, some .int)
abbrev mX6_shift : zM := (yX6_shift, cX6_shift, 7, some .int)
abbrev mX6_odds : zM := (yX6_odds, cX6_odds, 10, some .int)
abbrev mX6_bold : zM := (yX6_bold, cX6_bold, 4, some .int)
abbrev mX6_clique : zM := (yX6_clique, cX6_clique, 6, some .int)
abbrev mX6_rate : zM := (yX6_rate, cX6_rate, 6, some .int)
abbrev mX6_keep : zM := (yX6_keep, cX6_keep, 3, some .int)
abbrev mX6_back : zM := (yX6_back, cX6_back, 3, some .int)
abbrev mX6_count : zM := (yX6_count, cX6_count, 2, some .int)
abbrev mX6_trace : zM := (yX6_trace, cX6_trace, 1, some .long)
abbrev mJ6_bitCount_0f7a4 : zM := (yJ6_bitCount_0f7a4, cJ6_bitCount_0f7a4, 1, some .int)
abbrev mJ9_max_7cf53 : zM := (yJ9_max_7cf53, cJ9_max_7cf53, 2, some .int)
abbrev mJ9_min_7cf53 : zM := (yJ9_min_7cf53, cJ9_min_7cf53, 2, some .int)
abbrev mJ7_fill_53178 : zM := (yJ7_fill_53178, cJ7_fill_53178, 4, none)

set_option maxRecDepth 100000 in
theorem kcX0_init : Cond.code mX0_init.1 mX0_init.2.1 mX0_init.2.2.1 mX0_init.2.2.2 ∈ tb := tb_in 96 (by decide +kernel) rfl
set_option maxRecDepth 100000 in
theorem kiX0_init : Cond.initialized mX0_init.1.cls ∈ tb := tb_in 49 (by decide +kernel) rfl
theorem koX0_init : z_mOK mX0_init 0 := ⟨by decide +kernel, by decide⟩
set_option maxRecDepth 100000 in
theorem kcX0_restart : Cond.code mX0_restart.1 mX0_restart.2.1 mX0_restart.2.2.1 mX0_restart.2.2.2 ∈ tb := tb_in 257 (by decide +kernel) rfl
set_option maxRecDepth 100000 in
theorem kiX0_restart : Cond.initialized mX0_restart.1.cls ∈ tb := tb_in 49 (by decide +kernel) rfl
theorem koX0_restart : z_mOK mX0_restart 0 := ⟨by decide +kernel, by decide⟩
set_option maxRecDepth 100000 in
theorem kcX0_enlist : Cond.code mX0_enlist.1 mX0_enlist.2.1 mX0_enlist.2.2.1 mX0_enlist.2.2.2 ∈ tb := tb_in 286 (by decide +kernel) rfl
set_option maxRecDepth 100000 in
theorem kiX0_enlist : Cond.initialized mX0_enlist.1.cls ∈ tb := tb_in 49 (by decide +kernel) rfl
theorem koX0_enlist : z_mOK mX0_enlist 3 := ⟨by decide +kernel, by decide⟩
set_option maxRecDepth 100000 in
theorem kcX0_become : Cond.code mX0_become.1 mX0_become.2.1 mX0_become.2.2.1 mX0_become.2.2.2 ∈ tb := tb_in 303 (by decide +kernel) rfl
set_option maxRecDepth 100000 in
theorem kiX0_become : Cond.initialized mX0_become.1.cls ∈ tb := tb_in 49 (by decide +kernel) rfl
theorem koX0_become : z_mOK mX0_become 1 := ⟨by decide +kernel, by decide⟩
set_option maxRecDepth 100000 in
theorem kcX0_all : Cond.code mX0_all.1 mX0_all.2.1 mX0_all.2.2.1 mX0_all.2.2.2 ∈ tb := tb_in 331 (by decide +kernel) rfl
set_option maxRecDepth 100000 in
theorem kiX0_all : Cond.initialized mX0_all.1.cls ∈ tb := tb_in 49 (by decide +kernel) rfl
theorem koX0_all : z_mOK mX0_all 0 := ⟨by decide +kernel, by decide⟩
set_option maxRecDepth 100000 in
theorem kcX0_trusted : Cond.code mX0_trusted.1 mX0_trusted.2.1 mX0_trusted.2.2.1 mX0_trusted.2.2.2 ∈ tb := tb_in 327 (by decide +kernel) rfl
set_option maxRecDepth 100000 in
theorem kiX0_trusted : Cond.initialized mX0_trusted.1.cls ∈ tb := tb_in 49 (by decide +kernel) rfl
theorem koX0_trusted : z_mOK mX0_trusted 1 := ⟨by decide +kernel, by decide⟩
set_option maxRecDepth 100000 in
theorem kcX0_isOnDeck : Cond.code mX0_isOnDeck.1 mX0_isOnDeck.2.1 mX0_isOnDeck.2.2.1 mX0_isOnDeck.2.2.2 ∈ tb := tb_in 347 (by decide +kernel) rfl
set_option maxRecDepth 100000 in
theorem kiX0_isOnDeck : Cond.initialized mX0_isOnDeck.1.cls ∈ tb := tb_in 49 (by decide +kernel) rfl
theorem koX0_isOnDeck : z_mOK mX0_isOnDeck 2 := ⟨by decide +kernel, by decide⟩
set_option maxRecDepth 100000 in
theorem kcX0_dares : Cond.code mX0_dares.1 mX0_dares.2.1 mX0_dares.2.2.1 mX0_dares.2.2.2 ∈ tb := tb_in 351 (by decide +kernel) rfl
set_option maxRecDepth 100000 in
theorem kiX0_dares : Cond.initialized mX0_dares.1.cls ∈ tb := tb_in 49 (by decide +kernel) rfl
theorem koX0_dares : z_mOK mX0_dares 2 := ⟨by decide +kernel, by decide⟩
set_option maxRecDepth 100000 in
theorem kcX0_inkBehind : Cond.code mX0_inkBehind.1 mX0_inkBehind.2.1 mX0_inkBehind.2.2.1 mX0_inkBehind.2.2.2 ∈ tb := tb_in 405 (by decide +kernel) rfl
set_option maxRecDepth 100000 in
theorem kiX0_inkBehind : Cond.initialized mX0_inkBehind.1.cls ∈ tb := tb_in 49 (by decide +kernel) rfl
theorem koX0_inkBehind : z_mOK mX0_inkBehind 1 := ⟨by decide +kernel, by decide⟩
set_option maxRecDepth 100000 in
theorem kcX0_signedInTheEnd : Cond.code mX0_signedInTheEnd.1 mX0_signedInTheEnd.2.1 mX0_signedInTheEnd.2.2.1 mX0_signedInTheEnd.2.2.2 ∈ tb := tb_in 430 (by decide +kernel) rfl
set_option maxRecDepth 100000 in
theorem kiX0_signedInTheEnd : Cond.initialized mX0_signedInTheEnd.1.cls ∈ tb := tb_in 49 (by decide +kernel) rfl
theorem koX0_signedInTheEnd : z_mOK mX0_signedInTheEnd 1 := ⟨by decide +kernel, by decide⟩
set_option maxRecDepth 100000 in
theorem kcX0_largestClique : Cond.code mX0_largestClique.1 mX0_largestClique.2.1 mX0_largestClique.2.2.1 mX0_largestClique.2.2.2 ∈ tb := tb_in 558 (by decide +kernel) rfl
set_option maxRecDepth 100000 in
theorem kiX0_largestClique : Cond.initialized mX0_largestClique.1.cls ∈ tb := tb_in 49 (by decide +kernel) rfl
theorem koX0_largestClique : z_mOK mX0_largestClique 0 := ⟨by decide +kernel, by decide⟩
set_option maxRecDepth 100000 in
theorem kcX0_isClique : Cond.code mX0_isClique.1 mX0_isClique.2.1 mX0_isClique.2.2.1 mX0_isClique.2.2.2 ∈ tb := tb_in 562 (by decide +kernel) rfl
set_option maxRecDepth 100000 in
theorem kiX0_isClique : Cond.initialized mX0_isClique.1.cls ∈ tb := tb_in 49 (by decide +kernel) rfl
theorem koX0_isClique : z_mOK mX0_isClique 1 := ⟨by decide +kernel, by decide⟩
set_option maxRecDepth 100000 in
theorem kcX1_init : Cond.code mX1_init.1 mX1_init.2.1 mX1_init.2.2.1 mX1_init.2.2.2 ∈ tb := tb_in 129 (by decide +kernel) rfl
set_option maxRecDepth 100000 in
theorem kiX1_init : Cond.initialized mX1_init.1.cls ∈ tb := tb_in 50 (by decide +kernel) rfl
theorem koX1_init : z_mOK mX1_init 0 := ⟨by decide +kernel, by decide⟩
set_option maxRecDepth 100000 in
theorem kcX1_restart : Cond.code mX1_restart.1 mX1_restart.2.1 mX1_restart.2.2.1 mX1_restart.2.2.2 ∈ tb := tb_in 310 (by decide +kernel) rfl
set_option maxRecDepth 100000 in
theorem kiX1_restart : Cond.initialized mX1_restart.1.cls ∈ tb := tb_in 50 (by decide +kernel) rfl
theorem koX1_restart : z_mOK mX1_restart 0 := ⟨by decide +kernel, by decide⟩
set_option maxRecDepth 100000 in
theorem kcX1_become : Cond.code mX1_become.1 mX1_become.2.1 mX1_become.2.2.1 mX1_become.2.2.2 ∈ tb := tb_in 394 (by decide +kernel) rfl
set_option maxRecDepth 100000 in
theorem kiX1_become : Cond.initialized mX1_become.1.cls ∈ tb := tb_in 50 (by decide +kernel) rfl
theorem koX1_become : z_mOK mX1_become 1 := ⟨by decide +kernel, by decide⟩
set_option maxRecDepth 100000 in
theorem kcX1_write : Cond.code mX1_write.1 mX1_write.2.1 mX1_write.2.2.1 mX1_write.2.2.2 ∈ tb := tb_in 398 (by decide +kernel) rfl
set_option maxRecDepth 100000 in
theorem kiX1_write : Cond.initialized mX1_write.1.cls ∈ tb := tb_in 50 (by decide +kernel) rfl
theorem koX1_write : z_mOK mX1_write 3 := ⟨by decide +kernel, by decide⟩
set_option maxRecDepth 100000 in
theorem kcX1_there : Cond.code mX1_there.1 mX1_there.2.1 mX1_there.2.2.1 mX1_there.2.2.2 ∈ tb := tb_in 374 (by decide +kernel) rfl
set_option maxRecDepth 100000 in
theorem kiX1_there : Cond.initialized mX1_there.1.cls ∈ tb := tb_in 50 (by decide +kernel) rfl
theorem koX1_there : z_mOK mX1_there 0 := ⟨by decide +kernel, by decide⟩
set_option maxRecDepth 100000 in
theorem kcX1_seatOf : Cond.code mX1_seatOf.1 mX1_seatOf.2.1 mX1_seatOf.2.2.1 mX1_seatOf.2.2.2 ∈ tb := tb_in 338 (by decide +kernel) rfl
set_option maxRecDepth 100000 in
theorem kiX1_seatOf : Cond.initialized mX1_seatOf.1.cls ∈ tb := tb_in 50 (by decide +kernel) rfl
theorem koX1_seatOf : z_mOK mX1_seatOf 1 := ⟨by decide +kernel, by decide⟩
set_option maxRecDepth 100000 in
theorem kcX1_inkOf : Cond.code mX1_inkOf.1 mX1_inkOf.2.1 mX1_inkOf.2.2.1 mX1_inkOf.2.2.2 ∈ tb := tb_in 581 (by decide +kernel) rfl
set_option maxRecDepth 100000 in
theorem kiX1_inkOf : Cond.initialized mX1_inkOf.1.cls ∈ tb := tb_in 50 (by decide +kernel) rfl
theorem koX1_inkOf : z_mOK mX1_inkOf 1 := ⟨by decide +kernel, by decide⟩
set_option maxRecDepth 100000 in
theorem kcX2_init : Cond.code mX2_init.1 mX2_init.2.1 mX2_init.2.2.1 mX2_init.2.2.2 ∈ tb := tb_in 178 (by decide +kernel) rfl
set_option maxRecDepth 100000 in
theorem kiX2_init : Cond.initialized mX2_init.1.cls ∈ tb := tb_in 53 (by decide +kernel) rfl
theorem koX2_init : z_mOK mX2_init 0 := ⟨by decide +kernel, by decide⟩
set_option maxRecDepth 100000 in
theorem kcX2_find : Cond.code mX2_find.1 mX2_find.2.1 mX2_find.2.2.1 mX2_find.2.2.2 ∈ tb := tb_in 444 (by decide +kernel) rfl
set_option maxRecDepth 100000 in
theorem kiX2_find : Cond.initialized mX2_find.1.cls ∈ tb := tb_in 53 (by decide +kernel) rfl
theorem koX2_find : z_mOK mX2_find 3 := ⟨by decide +kernel, by decide⟩
set_option maxRecDepth 100000 in
theorem kcX2_extend : Cond.code mX2_extend.1 mX2_extend.2.1 mX2_extend.2.2.1 mX2_extend.2.2.2 ∈ tb := tb_in 450 (by decide +kernel) rfl
set_option maxRecDepth 100000 in
theorem kiX2_extend : Cond.initialized mX2_extend.1.cls ∈ tb := tb_in 53 (by decide +kernel) rfl
theorem koX2_extend : z_mOK mX2_extend 6 := ⟨by decide +kernel, by decide⟩
set_option maxRecDepth 100000 in
theorem kcX2_add : Cond.code mX2_add.1 mX2_add.2.1 mX2_add.2.2.1 mX2_add.2.2.2 ∈ tb := tb_in 454 (by decide +kernel) rfl
set_option maxRecDepth 100000 in
theorem kiX2_add : Cond.initialized mX2_add.1.cls ∈ tb := tb_in 53 (by decide +kernel) rfl
theorem koX2_add : z_mOK mX2_add 1 := ⟨by decide +kernel, by decide⟩
set_option maxRecDepth 100000 in
theorem kcX2_placeOf : Cond.code mX2_placeOf.1 mX2_placeOf.2.1 mX2_placeOf.2.2.1 mX2_placeOf.2.2.2 ∈ tb := tb_in 488 (by decide +kernel) rfl
set_option maxRecDepth 100000 in
theorem kiX2_placeOf : Cond.initialized mX2_placeOf.1.cls ∈ tb := tb_in 53 (by decide +kernel) rfl
theorem koX2_placeOf : z_mOK mX2_placeOf 2 := ⟨by decide +kernel, by decide⟩
set_option maxRecDepth 100000 in
theorem kcX2_firstOf : Cond.code mX2_firstOf.1 mX2_firstOf.2.1 mX2_firstOf.2.2.1 mX2_firstOf.2.2.2 ∈ tb := tb_in 469 (by decide +kernel) rfl
set_option maxRecDepth 100000 in
theorem kiX2_firstOf : Cond.initialized mX2_firstOf.1.cls ∈ tb := tb_in 53 (by decide +kernel) rfl
theorem koX2_firstOf : z_mOK mX2_firstOf 1 := ⟨by decide +kernel, by decide⟩
set_option maxRecDepth 100000 in
theorem kcX2_firsts : Cond.code mX2_firsts.1 mX2_firsts.2.1 mX2_firsts.2.2.1 mX2_firsts.2.2.2 ∈ tb := tb_in 466 (by decide +kernel) rfl
set_option maxRecDepth 100000 in
theorem kiX2_firsts : Cond.initialized mX2_firsts.1.cls ∈ tb := tb_in 53 (by decide +kernel) rfl
theorem koX2_firsts : z_mOK mX2_firsts 0 := ⟨by decide +kernel, by decide⟩
set_option maxRecDepth 100000 in
theorem kcX2_timesFirst : Cond.code mX2_timesFirst.1 mX2_timesFirst.2.1 mX2_timesFirst.2.2.1 mX2_timesFirst.2.2.2 ∈ tb := tb_in 499 (by decide +kernel) rfl
set_option maxRecDepth 100000 in
theorem kiX2_timesFirst : Cond.initialized mX2_timesFirst.1.cls ∈ tb := tb_in 53 (by decide +kernel) rfl
theorem koX2_timesFirst : z_mOK mX2_timesFirst 1 := ⟨by decide +kernel, by decide⟩
set_option maxRecDepth 100000 in
theorem kcX2_likeliestFirst : Cond.code mX2_likeliestFirst.1 mX2_likeliestFirst.2.1 mX2_likeliestFirst.2.2.1 mX2_likeliestFirst.2.2.2 ∈ tb := tb_in 534 (by decide +kernel) rfl
set_option maxRecDepth 100000 in
theorem kiX2_likeliestFirst : Cond.initialized mX2_likeliestFirst.1.cls ∈ tb := tb_in 53 (by decide +kernel) rfl
theorem koX2_likeliestFirst : z_mOK mX2_likeliestFirst 0 := ⟨by decide +kernel, by decide⟩
set_option maxRecDepth 100000 in
theorem kcX2_alwaysAheadOf : Cond.code mX2_alwaysAheadOf.1 mX2_alwaysAheadOf.2.1 mX2_alwaysAheadOf.2.2.1 mX2_alwaysAheadOf.2.2.2 ∈ tb := tb_in 481 (by decide +kernel) rfl
set_option maxRecDepth 100000 in
theorem kiX2_alwaysAheadOf : Cond.initialized mX2_alwaysAheadOf.1.cls ∈ tb := tb_in 53 (by decide +kernel) rfl
theorem koX2_alwaysAheadOf : z_mOK mX2_alwaysAheadOf 1 := ⟨by decide +kernel, by decide⟩
set_option maxRecDepth 100000 in
theorem kcX2_aheadOf : Cond.code mX2_aheadOf.1 mX2_aheadOf.2.1 mX2_aheadOf.2.2.1 mX2_aheadOf.2.2.2 ∈ tb := tb_in 485 (by decide +kernel) rfl
set_option maxRecDepth 100000 in
theorem kiX2_aheadOf : Cond.initialized mX2_aheadOf.1.cls ∈ tb := tb_in 53 (by decide +kernel) rfl
theorem koX2_aheadOf : z_mOK mX2_aheadOf 2 := ⟨by decide +kernel, by decide⟩
set_option maxRecDepth 100000 in
theorem kcX2_fewestToAsk : Cond.code mX2_fewestToAsk.1 mX2_fewestToAsk.2.1 mX2_fewestToAsk.2.2.1 mX2_fewestToAsk.2.2.2 ∈ tb := tb_in 516 (by decide +kernel) rfl
set_option maxRecDepth 100000 in
theorem kiX2_fewestToAsk : Cond.initialized mX2_fewestToAsk.1.cls ∈ tb := tb_in 53 (by decide +kernel) rfl
theorem koX2_fewestToAsk : z_mOK mX2_fewestToAsk 0 := ⟨by decide +kernel, by decide⟩
set_option maxRecDepth 100000 in
theorem kcX2_tellWhoWasFirst : Cond.code mX2_tellWhoWasFirst.1 mX2_tellWhoWasFirst.2.1 mX2_tellWhoWasFirst.2.2.1 mX2_tellWhoWasFirst.2.2.2 ∈ tb := tb_in 522 (by decide +kernel) rfl
set_option maxRecDepth 100000 in
theorem kiX2_tellWhoWasFirst : Cond.initialized mX2_tellWhoWasFirst.1.cls ∈ tb := tb_in 53 (by decide +kernel) rfl
theorem koX2_tellWhoWasFirst : z_mOK mX2_tellWhoWasFirst 1 := ⟨by decide +kernel, by decide⟩
set_option maxRecDepth 100000 in
theorem kcX2_rankOfPlaces : Cond.code mX2_rankOfPlaces.1 mX2_rankOfPlaces.2.1 mX2_rankOfPlaces.2.2.1 mX2_rankOfPlaces.2.2.2 ∈ tb := tb_in 526 (by decide +kernel) rfl
set_option maxRecDepth 100000 in
theorem kiX2_rankOfPlaces : Cond.initialized mX2_rankOfPlaces.1.cls ∈ tb := tb_in 53 (by decide +kernel) rfl
theorem koX2_rankOfPlaces : z_mOK mX2_rankOfPlaces 2 := ⟨by decide +kernel, by decide⟩
set_option maxRecDepth 100000 in
theorem kcX3_init : Cond.code mX3_init.1 mX3_init.2.1 mX3_init.2.2.1 mX3_init.2.2.2 ∈ tb := tb_in 158 (by decide +kernel) rfl
set_option maxRecDepth 100000 in
theorem kiX3_init : Cond.initialized mX3_init.1.cls ∈ tb := tb_in 52 (by decide +kernel) rfl
theorem koX3_init : z_mOK mX3_init 0 := ⟨by decide +kernel, by decide⟩
set_option maxRecDepth 100000 in
theorem kcX3_remember : Cond.code mX3_remember.1 mX3_remember.2.1 mX3_remember.2.2.1 mX3_remember.2.2.2 ∈ tb := tb_in 386 (by decide +kernel) rfl
set_option maxRecDepth 100000 in
theorem kiX3_remember : Cond.initialized mX3_remember.1.cls ∈ tb := tb_in 52 (by decide +kernel) rfl
theorem koX3_remember : z_mOK mX3_remember 1 := ⟨by decide +kernel, by decide⟩
set_option maxRecDepth 100000 in
theorem kcX3_giveBack : Cond.code mX3_giveBack.1 mX3_giveBack.2.1 mX3_giveBack.2.2.1 mX3_giveBack.2.2.2 ∈ tb := tb_in 422 (by decide +kernel) rfl
set_option maxRecDepth 100000 in
theorem kiX3_giveBack : Cond.initialized mX3_giveBack.1.cls ∈ tb := tb_in 52 (by decide +kernel) rfl
theorem koX3_giveBack : z_mOK mX3_giveBack 1 := ⟨by decide +kernel, by decide⟩
set_option maxRecDepth 100000 in
theorem kcX3_forget : Cond.code mX3_forget.1 mX3_forget.2.1 mX3_forget.2.2.1 mX3_forget.2.2.2 ∈ tb := tb_in 314 (by decide +kernel) rfl
set_option maxRecDepth 100000 in
theorem kiX3_forget : Cond.initialized mX3_forget.1.cls ∈ tb := tb_in 52 (by decide +kernel) rfl
theorem koX3_forget : z_mOK mX3_forget 0 := ⟨by decide +kernel, by decide⟩
set_option maxRecDepth 100000 in
theorem kcX3_slotAt : Cond.code mX3_slotAt.1 mX3_slotAt.2.1 mX3_slotAt.2.2.1 mX3_slotAt.2.2.2 ∈ tb := tb_in 390 (by decide +kernel) rfl
set_option maxRecDepth 100000 in
theorem kiX3_slotAt : Cond.initialized mX3_slotAt.1.cls ∈ tb := tb_in 52 (by decide +kernel) rfl
theorem koX3_slotAt : z_mOK mX3_slotAt 1 := ⟨by decide +kernel, by decide⟩
set_option maxRecDepth 100000 in
theorem kcX4_init : Cond.code mX4_init.1 mX4_init.2.1 mX4_init.2.2.1 mX4_init.2.2.2 ∈ tb := tb_in 69 (by decide +kernel) rfl
set_option maxRecDepth 100000 in
theorem kiX4_init : Cond.initialized mX4_init.1.cls ∈ tb := tb_in 48 (by decide +kernel) rfl
theorem koX4_init : z_mOK mX4_init 0 := ⟨by decide +kernel, by decide⟩
set_option maxRecDepth 100000 in
theorem kcX4_append : Cond.code mX4_append.1 mX4_append.2.1 mX4_append.2.2.1 mX4_append.2.2.2 ∈ tb := tb_in 238 (by decide +kernel) rfl
set_option maxRecDepth 100000 in
theorem kiX4_append : Cond.initialized mX4_append.1.cls ∈ tb := tb_in 48 (by decide +kernel) rfl
theorem koX4_append : z_mOK mX4_append 1 := ⟨by decide +kernel, by decide⟩
set_option maxRecDepth 100000 in
theorem kcX4_readInto : Cond.code mX4_readInto.1 mX4_readInto.2.1 mX4_readInto.2.2.1 mX4_readInto.2.2.2 ∈ tb := tb_in 253 (by decide +kernel) rfl
set_option maxRecDepth 100000 in
theorem kiX4_readInto : Cond.initialized mX4_readInto.1.cls ∈ tb := tb_in 48 (by decide +kernel) rfl
theorem koX4_readInto : z_mOK mX4_readInto 1 := ⟨by decide +kernel, by decide⟩
set_option maxRecDepth 100000 in
theorem kcX4_readSailor : Cond.code mX4_readSailor.1 mX4_readSailor.2.1 mX4_readSailor.2.2.1 mX4_readSailor.2.2.2 ∈ tb := tb_in 278 (by decide +kernel) rfl
set_option maxRecDepth 100000 in
theorem kiX4_readSailor : Cond.initialized mX4_readSailor.1.cls ∈ tb := tb_in 48 (by decide +kernel) rfl
theorem koX4_readSailor : z_mOK mX4_readSailor 1 := ⟨by decide +kernel, by decide⟩
set_option maxRecDepth 100000 in
theorem kcX4_readDip : Cond.code mX4_readDip.1 mX4_readDip.2.1 mX4_readDip.2.2.1 mX4_readDip.2.2.2 ∈ tb := tb_in 295 (by decide +kernel) rfl
set_option maxRecDepth 100000 in
theorem kiX4_readDip : Cond.initialized mX4_readDip.1.cls ∈ tb := tb_in 48 (by decide +kernel) rfl
theorem koX4_readDip : z_mOK mX4_readDip 1 := ⟨by decide +kernel, by decide⟩
set_option maxRecDepth 100000 in
theorem kcX4_readSeats : Cond.code mX4_readSeats.1 mX4_readSeats.2.1 mX4_readSeats.2.2.1 mX4_readSeats.2.2.2 ∈ tb := tb_in 299 (by decide +kernel) rfl
set_option maxRecDepth 100000 in
theorem kiX4_readSeats : Cond.initialized mX4_readSeats.1.cls ∈ tb := tb_in 48 (by decide +kernel) rfl
theorem koX4_readSeats : z_mOK mX4_readSeats 1 := ⟨by decide +kernel, by decide⟩
set_option maxRecDepth 100000 in
theorem kcX4_itemEnds : Cond.code mX4_itemEnds.1 mX4_itemEnds.2.1 mX4_itemEnds.2.2.1 mX4_itemEnds.2.2.2 ∈ tb := tb_in 291 (by decide +kernel) rfl
set_option maxRecDepth 100000 in
theorem kiX4_itemEnds : Cond.initialized mX4_itemEnds.1.cls ∈ tb := tb_in 48 (by decide +kernel) rfl
theorem koX4_itemEnds : z_mOK mX4_itemEnds 0 := ⟨by decide +kernel, by decide⟩
set_option maxRecDepth 100000 in
theorem kcX4_numberFrom : Cond.code mX4_numberFrom.1 mX4_numberFrom.2.1 mX4_numberFrom.2.2.1 mX4_numberFrom.2.2.2 ∈ tb := tb_in 282 (by decide +kernel) rfl
set_option maxRecDepth 100000 in
theorem kiX4_numberFrom : Cond.initialized mX4_numberFrom.1.cls ∈ tb := tb_in 48 (by decide +kernel) rfl
theorem koX4_numberFrom : z_mOK mX4_numberFrom 2 := ⟨by decide +kernel, by decide⟩
set_option maxRecDepth 100000 in
theorem kcX4_next : Cond.code mX4_next.1 mX4_next.2.1 mX4_next.2.2.1 mX4_next.2.2.2 ∈ tb := tb_in 261 (by decide +kernel) rfl
set_option maxRecDepth 100000 in
theorem kiX4_next : Cond.initialized mX4_next.1.cls ∈ tb := tb_in 48 (by decide +kernel) rfl
theorem koX4_next : z_mOK mX4_next 0 := ⟨by decide +kernel, by decide⟩
set_option maxRecDepth 100000 in
theorem kcX4_nextNumber : Cond.code mX4_nextNumber.1 mX4_nextNumber.2.1 mX4_nextNumber.2.2.1 mX4_nextNumber.2.2.2 ∈ tb := tb_in 271 (by decide +kernel) rfl
set_option maxRecDepth 100000 in
theorem kiX4_nextNumber : Cond.initialized mX4_nextNumber.1.cls ∈ tb := tb_in 48 (by decide +kernel) rfl
theorem koX4_nextNumber : z_mOK mX4_nextNumber 0 := ⟨by decide +kernel, by decide⟩
set_option maxRecDepth 100000 in
theorem kcX4_isDigit : Cond.code mX4_isDigit.1 mX4_isDigit.2.1 mX4_isDigit.2.2.1 mX4_isDigit.2.2.2 ∈ tb := tb_in 267 (by decide +kernel) rfl
set_option maxRecDepth 100000 in
theorem kiX4_isDigit : Cond.initialized mX4_isDigit.1.cls ∈ tb := tb_in 48 (by decide +kernel) rfl
theorem koX4_isDigit : z_mOK mX4_isDigit 1 := ⟨by decide +kernel, by decide⟩
set_option maxRecDepth 100000 in
theorem kcX5_init : Cond.code mX5_init.1 mX5_init.2.1 mX5_init.2.2.1 mX5_init.2.2.2 ∈ tb := tb_in 61 (by decide +kernel) rfl
set_option maxRecDepth 100000 in
theorem kiX5_init : Cond.initialized mX5_init.1.cls ∈ tb := tb_in 47 (by decide +kernel) rfl
theorem koX5_init : z_mOK mX5_init 0 := ⟨by decide +kernel, by decide⟩
set_option maxRecDepth 100000 in
theorem kcX5_type : Cond.code mX5_type.1 mX5_type.2.1 mX5_type.2.2.1 mX5_type.2.2.2 ∈ tb := tb_in 234 (by decide +kernel) rfl
set_option maxRecDepth 100000 in
theorem kiX5_type : Cond.initialized mX5_type.1.cls ∈ tb := tb_in 47 (by decide +kernel) rfl
theorem koX5_type : z_mOK mX5_type 1 := ⟨by decide +kernel, by decide⟩
set_option maxRecDepth 100000 in
theorem kcX5_clear : Cond.code mX5_clear.1 mX5_clear.2.1 mX5_clear.2.2.1 mX5_clear.2.2.2 ∈ tb := tb_in 245 (by decide +kernel) rfl
set_option maxRecDepth 100000 in
theorem kiX5_clear : Cond.initialized mX5_clear.1.cls ∈ tb := tb_in 47 (by decide +kernel) rfl
theorem koX5_clear : z_mOK mX5_clear 0 := ⟨by decide +kernel, by decide⟩
set_option maxRecDepth 100000 in
theorem kcX5_crew : Cond.code mX5_crew.1 mX5_crew.2.1 mX5_crew.2.2.1 mX5_crew.2.2.2 ∈ tb := tb_in 249 (by decide +kernel) rfl
set_option maxRecDepth 100000 in
theorem kiX5_crew : Cond.initialized mX5_crew.1.cls ∈ tb := tb_in 47 (by decide +kernel) rfl
theorem koX5_crew : z_mOK mX5_crew 0 := ⟨by decide +kernel, by decide⟩
set_option maxRecDepth 100000 in
theorem kcX5_sailor : Cond.code mX5_sailor.1 mX5_sailor.2.1 mX5_sailor.2.2.1 mX5_sailor.2.2.2 ∈ tb := tb_in 318 (by decide +kernel) rfl
set_option maxRecDepth 100000 in
theorem kiX5_sailor : Cond.initialized mX5_sailor.1.cls ∈ tb := tb_in 47 (by decide +kernel) rfl
theorem koX5_sailor : z_mOK mX5_sailor 2 := ⟨by decide +kernel, by decide⟩
set_option maxRecDepth 100000 in
theorem kcX5_seat : Cond.code mX5_seat.1 mX5_seat.2.1 mX5_seat.2.2.1 mX5_seat.2.2.2 ∈ tb := tb_in 362 (by decide +kernel) rfl
set_option maxRecDepth 100000 in
theorem kiX5_seat : Cond.initialized mX5_seat.1.cls ∈ tb := tb_in 47 (by decide +kernel) rfl
theorem koX5_seat : z_mOK mX5_seat 2 := ⟨by decide +kernel, by decide⟩
set_option maxRecDepth 100000 in
theorem kcX5_now : Cond.code mX5_now.1 mX5_now.2.1 mX5_now.2.2.1 mX5_now.2.2.2 ∈ tb := tb_in 370 (by decide +kernel) rfl
set_option maxRecDepth 100000 in
theorem kiX5_now : Cond.initialized mX5_now.1.cls ∈ tb := tb_in 47 (by decide +kernel) rfl
theorem koX5_now : z_mOK mX5_now 1 := ⟨by decide +kernel, by decide⟩
set_option maxRecDepth 100000 in
theorem kcX5_signs : Cond.code mX5_signs.1 mX5_signs.2.1 mX5_signs.2.2.1 mX5_signs.2.2.2 ∈ tb := tb_in 382 (by decide +kernel) rfl
set_option maxRecDepth 100000 in
theorem kiX5_signs : Cond.initialized mX5_signs.1.cls ∈ tb := tb_in 47 (by decide +kernel) rfl
theorem koX5_signs : z_mOK mX5_signs 2 := ⟨by decide +kernel, by decide⟩
set_option maxRecDepth 100000 in
theorem kcX5_hour : Cond.code mX5_hour.1 mX5_hour.2.1 mX5_hour.2.2.1 mX5_hour.2.2.2 ∈ tb := tb_in 410 (by decide +kernel) rfl
set_option maxRecDepth 100000 in
theorem kiX5_hour : Cond.initialized mX5_hour.1.cls ∈ tb := tb_in 47 (by decide +kernel) rfl
theorem koX5_hour : z_mOK mX5_hour 0 := ⟨by decide +kernel, by decide⟩
set_option maxRecDepth 100000 in
theorem kcX5_scrape : Cond.code mX5_scrape.1 mX5_scrape.2.1 mX5_scrape.2.2.1 mX5_scrape.2.2.2 ∈ tb := tb_in 414 (by decide +kernel) rfl
set_option maxRecDepth 100000 in
theorem kiX5_scrape : Cond.initialized mX5_scrape.1.cls ∈ tb := tb_in 47 (by decide +kernel) rfl
theorem koX5_scrape : z_mOK mX5_scrape 1 := ⟨by decide +kernel, by decide⟩
set_option maxRecDepth 100000 in
theorem kcX5_undo : Cond.code mX5_undo.1 mX5_undo.2.1 mX5_undo.2.2.1 mX5_undo.2.2.2 ∈ tb := tb_in 418 (by decide +kernel) rfl
set_option maxRecDepth 100000 in
theorem kiX5_undo : Cond.initialized mX5_undo.1.cls ∈ tb := tb_in 47 (by decide +kernel) rfl
theorem koX5_undo : z_mOK mX5_undo 0 := ⟨by decide +kernel, by decide⟩
set_option maxRecDepth 100000 in
theorem kcX5_will : Cond.code mX5_will.1 mX5_will.2.1 mX5_will.2.2.1 mX5_will.2.2.2 ∈ tb := tb_in 426 (by decide +kernel) rfl
set_option maxRecDepth 100000 in
theorem kiX5_will : Cond.initialized mX5_will.1.cls ∈ tb := tb_in 47 (by decide +kernel) rfl
theorem koX5_will : z_mOK mX5_will 0 := ⟨by decide +kernel, by decide⟩
set_option maxRecDepth 100000 in
theorem kcX5_begin : Cond.code mX5_begin.1 mX5_begin.2.1 mX5_begin.2.2.1 mX5_begin.2.2.2 ∈ tb := tb_in 435 (by decide +kernel) rfl
set_option maxRecDepth 100000 in
theorem kiX5_begin : Cond.initialized mX5_begin.1.cls ∈ tb := tb_in 47 (by decide +kernel) rfl
theorem koX5_begin : z_mOK mX5_begin 0 := ⟨by decide +kernel, by decide⟩
set_option maxRecDepth 100000 in
theorem kcX5_orders : Cond.code mX5_orders.1 mX5_orders.2.1 mX5_orders.2.2.1 mX5_orders.2.2.2 ∈ tb := tb_in 440 (by decide +kernel) rfl
set_option maxRecDepth 100000 in
theorem kiX5_orders : Cond.initialized mX5_orders.1.cls ∈ tb := tb_in 47 (by decide +kernel) rfl
theorem koX5_orders : z_mOK mX5_orders 0 := ⟨by decide +kernel, by decide⟩
set_option maxRecDepth 100000 in
theorem kcX5_first : Cond.code mX5_first.1 mX5_first.2.1 mX5_first.2.2.1 mX5_first.2.2.2 ∈ tb := tb_in 462 (by decide +kernel) rfl
set_option maxRecDepth 100000 in
theorem kiX5_first : Cond.initialized mX5_first.1.cls ∈ tb := tb_in 47 (by decide +kernel) rfl
theorem koX5_first : z_mOK mX5_first 0 := ⟨by decide +kernel, by decide⟩
set_option maxRecDepth 100000 in
theorem kcX5_sure : Cond.code mX5_sure.1 mX5_sure.2.1 mX5_sure.2.2.1 mX5_sure.2.2.2 ∈ tb := tb_in 473 (by decide +kernel) rfl
set_option maxRecDepth 100000 in
theorem kiX5_sure : Cond.initialized mX5_sure.1.cls ∈ tb := tb_in 47 (by decide +kernel) rfl
theorem koX5_sure : z_mOK mX5_sure 1 := ⟨by decide +kernel, by decide⟩
set_option maxRecDepth 100000 in
theorem kcX5_chance : Cond.code mX5_chance.1 mX5_chance.2.1 mX5_chance.2.2.1 mX5_chance.2.2.2 ∈ tb := tb_in 492 (by decide +kernel) rfl
set_option maxRecDepth 100000 in
theorem kiX5_chance : Cond.initialized mX5_chance.1.cls ∈ tb := tb_in 47 (by decide +kernel) rfl
theorem koX5_chance : z_mOK mX5_chance 2 := ⟨by decide +kernel, by decide⟩
set_option maxRecDepth 100000 in
theorem kcX5_ask : Cond.code mX5_ask.1 mX5_ask.2.1 mX5_ask.2.2.1 mX5_ask.2.2.2 ∈ tb := tb_in 512 (by decide +kernel) rfl
set_option maxRecDepth 100000 in
theorem kiX5_ask : Cond.initialized mX5_ask.1.cls ∈ tb := tb_in 47 (by decide +kernel) rfl
theorem koX5_ask : z_mOK mX5_ask 0 := ⟨by decide +kernel, by decide⟩
set_option maxRecDepth 100000 in
theorem kcX5_hang : Cond.code mX5_hang.1 mX5_hang.2.1 mX5_hang.2.2.1 mX5_hang.2.2.2 ∈ tb := tb_in 530 (by decide +kernel) rfl
set_option maxRecDepth 100000 in
theorem kiX5_hang : Cond.initialized mX5_hang.1.cls ∈ tb := tb_in 47 (by decide +kernel) rfl
theorem koX5_hang : z_mOK mX5_hang 0 := ⟨by decide +kernel, by decide⟩
set_option maxRecDepth 100000 in
theorem kcX5_shift : Cond.code mX5_shift.1 mX5_shift.2.1 mX5_shift.2.2.1 mX5_shift.2.2.2 ∈ tb := tb_in 539 (by decide +kernel) rfl
set_option maxRecDepth 100000 in
theorem kiX5_shift : Cond.initialized mX5_shift.1.cls ∈ tb := tb_in 47 (by decide +kernel) rfl
theorem koX5_shift : z_mOK mX5_shift 1 := ⟨by decide +kernel, by decide⟩
set_option maxRecDepth 100000 in
theorem kcX5_odds : Cond.code mX5_odds.1 mX5_odds.2.1 mX5_odds.2.2.1 mX5_odds.2.2.2 ∈ tb := tb_in 543 (by decide +kernel) rfl
set_option maxRecDepth 100000 in
theorem kiX5_odds : Cond.initialized mX5_odds.1.cls ∈ tb := tb_in 47 (by decide +kernel) rfl
theorem koX5_odds : z_mOK mX5_odds 3 := ⟨by decide +kernel, by decide⟩
set_option maxRecDepth 100000 in
theorem kcX5_bold : Cond.code mX5_bold.1 mX5_bold.2.1 mX5_bold.2.2.1 mX5_bold.2.2.2 ∈ tb := tb_in 550 (by decide +kernel) rfl
set_option maxRecDepth 100000 in
theorem kiX5_bold : Cond.initialized mX5_bold.1.cls ∈ tb := tb_in 47 (by decide +kernel) rfl
theorem koX5_bold : z_mOK mX5_bold 1 := ⟨by decide +kernel, by decide⟩
set_option maxRecDepth 100000 in
theorem kcX5_clique : Cond.code mX5_clique.1 mX5_clique.2.1 mX5_clique.2.2.1 mX5_clique.2.2.2 ∈ tb := tb_in 554 (by decide +kernel) rfl
set_option maxRecDepth 100000 in
theorem kiX5_clique : Cond.initialized mX5_clique.1.cls ∈ tb := tb_in 47 (by decide +kernel) rfl
theorem koX5_clique : z_mOK mX5_clique 1 := ⟨by decide +kernel, by decide⟩
set_option maxRecDepth 100000 in
theorem kcX5_rate : Cond.code mX5_rate.1 mX5_rate.2.1 mX5_rate.2.2.1 mX5_rate.2.2.2 ∈ tb := tb_in 567 (by decide +kernel) rfl
set_option maxRecDepth 100000 in
theorem kiX5_rate : Cond.initialized mX5_rate.1.cls ∈ tb := tb_in 47 (by decide +kernel) rfl
theorem koX5_rate : z_mOK mX5_rate 2 := ⟨by decide +kernel, by decide⟩
set_option maxRecDepth 100000 in
theorem kcX5_keep : Cond.code mX5_keep.1 mX5_keep.2.1 mX5_keep.2.2.1 mX5_keep.2.2.2 ∈ tb := tb_in 606 (by decide +kernel) rfl
set_option maxRecDepth 100000 in
theorem kiX5_keep : Cond.initialized mX5_keep.1.cls ∈ tb := tb_in 47 (by decide +kernel) rfl
theorem koX5_keep : z_mOK mX5_keep 1 := ⟨by decide +kernel, by decide⟩
set_option maxRecDepth 100000 in
theorem kcX5_back : Cond.code mX5_back.1 mX5_back.2.1 mX5_back.2.2.1 mX5_back.2.2.2 ∈ tb := tb_in 615 (by decide +kernel) rfl
set_option maxRecDepth 100000 in
theorem kiX5_back : Cond.initialized mX5_back.1.cls ∈ tb := tb_in 47 (by decide +kernel) rfl
theorem koX5_back : z_mOK mX5_back 1 := ⟨by decide +kernel, by decide⟩
set_option maxRecDepth 100000 in
theorem kcX5_count : Cond.code mX5_count.1 mX5_count.2.1 mX5_count.2.2.1 mX5_count.2.2.2 ∈ tb := tb_in 619 (by decide +kernel) rfl
set_option maxRecDepth 100000 in
theorem kiX5_count : Cond.initialized mX5_count.1.cls ∈ tb := tb_in 47 (by decide +kernel) rfl
theorem koX5_count : z_mOK mX5_count 1 := ⟨by decide +kernel, by decide⟩
set_option maxRecDepth 100000 in
theorem kcX5_trace : Cond.code mX5_trace.1 mX5_trace.2.1 mX5_trace.2.2.1 mX5_trace.2.2.2 ∈ tb := tb_in 623 (by decide +kernel) rfl
set_option maxRecDepth 100000 in
theorem kiX5_trace : Cond.initialized mX5_trace.1.cls ∈ tb := tb_in 47 (by decide +kernel) rfl
theorem koX5_trace : z_mOK mX5_trace 0 := ⟨by decide +kernel, by decide⟩
set_option maxRecDepth 100000 in
theorem kcX5_isSailor : Cond.code mX5_isSailor.1 mX5_isSailor.2.1 mX5_isSailor.2.2.1 mX5_isSailor.2.2.2 ∈ tb := tb_in 322 (by decide +kernel) rfl
set_option maxRecDepth 100000 in
theorem kiX5_isSailor : Cond.initialized mX5_isSailor.1.cls ∈ tb := tb_in 47 (by decide +kernel) rfl
theorem koX5_isSailor : z_mOK mX5_isSailor 1 := ⟨by decide +kernel, by decide⟩
set_option maxRecDepth 100000 in
theorem kcX5_isSeat : Cond.code mX5_isSeat.1 mX5_isSeat.2.1 mX5_isSeat.2.2.1 mX5_isSeat.2.2.2 ∈ tb := tb_in 366 (by decide +kernel) rfl
set_option maxRecDepth 100000 in
theorem kiX5_isSeat : Cond.initialized mX5_isSeat.1.cls ∈ tb := tb_in 47 (by decide +kernel) rfl
theorem koX5_isSeat : z_mOK mX5_isSeat 1 := ⟨by decide +kernel, by decide⟩
set_option maxRecDepth 100000 in
theorem kcX5_isThere : Cond.code mX5_isThere.1 mX5_isThere.2.1 mX5_isThere.2.2.1 mX5_isThere.2.2.2 ∈ tb := tb_in 477 (by decide +kernel) rfl
set_option maxRecDepth 100000 in
theorem kiX5_isThere : Cond.initialized mX5_isThere.1.cls ∈ tb := tb_in 47 (by decide +kernel) rfl
theorem koX5_isThere : z_mOK mX5_isThere 1 := ⟨by decide +kernel, by decide⟩
set_option maxRecDepth 100000 in
theorem kcX5_isPart : Cond.code mX5_isPart.1 mX5_isPart.2.1 mX5_isPart.2.2.1 mX5_isPart.2.2.2 ∈ tb := tb_in 495 (by decide +kernel) rfl
set_option maxRecDepth 100000 in
theorem kiX5_isPart : Cond.initialized mX5_isPart.1.cls ∈ tb := tb_in 47 (by decide +kernel) rfl
theorem koX5_isPart : z_mOK mX5_isPart 1 := ⟨by decide +kernel, by decide⟩
set_option maxRecDepth 100000 in
theorem kcX5_wouldSign : Cond.code mX5_wouldSign.1 mX5_wouldSign.2.1 mX5_wouldSign.2.2.1 mX5_wouldSign.2.2.2 ∈ tb := tb_in 343 (by decide +kernel) rfl
set_option maxRecDepth 100000 in
theorem kiX5_wouldSign : Cond.initialized mX5_wouldSign.1.cls ∈ tb := tb_in 47 (by decide +kernel) rfl
theorem koX5_wouldSign : z_mOK mX5_wouldSign 1 := ⟨by decide +kernel, by decide⟩
set_option maxRecDepth 100000 in
theorem kcX5_thoseWhoWould : Cond.code mX5_thoseWhoWould.1 mX5_thoseWhoWould.2.1 mX5_thoseWhoWould.2.2.1 mX5_thoseWhoWould.2.2.2 ∈ tb := tb_in 378 (by decide +kernel) rfl
set_option maxRecDepth 100000 in
theorem kiX5_thoseWhoWould : Cond.initialized mX5_thoseWhoWould.1.cls ∈ tb := tb_in 47 (by decide +kernel) rfl
theorem koX5_thoseWhoWould : z_mOK mX5_thoseWhoWould 0 := ⟨by decide +kernel, by decide⟩
set_option maxRecDepth 100000 in
theorem kcX5_imageAt : Cond.code mX5_imageAt.1 mX5_imageAt.2.1 mX5_imageAt.2.2.1 mX5_imageAt.2.2.2 ∈ tb := tb_in 610 (by decide +kernel) rfl
set_option maxRecDepth 100000 in
theorem kiX5_imageAt : Cond.initialized mX5_imageAt.1.cls ∈ tb := tb_in 47 (by decide +kernel) rfl
theorem koX5_imageAt : z_mOK mX5_imageAt 1 := ⟨by decide +kernel, by decide⟩
set_option maxRecDepth 100000 in
theorem kcX5_asSailor : Cond.code mX5_asSailor.1 mX5_asSailor.2.1 mX5_asSailor.2.2.1 mX5_asSailor.2.2.2 ∈ tb := tb_in 572 (by decide +kernel) rfl
set_option maxRecDepth 100000 in
theorem kiX5_asSailor : Cond.initialized mX5_asSailor.1.cls ∈ tb := tb_in 47 (by decide +kernel) rfl
theorem koX5_asSailor : z_mOK mX5_asSailor 1 := ⟨by decide +kernel, by decide⟩
set_option maxRecDepth 100000 in
theorem kcX5_asCook : Cond.code mX5_asCook.1 mX5_asCook.2.1 mX5_asCook.2.2.1 mX5_asCook.2.2.2 ∈ tb := tb_in 576 (by decide +kernel) rfl
set_option maxRecDepth 100000 in
theorem kiX5_asCook : Cond.initialized mX5_asCook.1.cls ∈ tb := tb_in 47 (by decide +kernel) rfl
theorem koX5_asCook : z_mOK mX5_asCook 1 := ⟨by decide +kernel, by decide⟩
set_option maxRecDepth 100000 in
theorem kcX5_asMate : Cond.code mX5_asMate.1 mX5_asMate.2.1 mX5_asMate.2.2.1 mX5_asMate.2.2.2 ∈ tb := tb_in 586 (by decide +kernel) rfl
set_option maxRecDepth 100000 in
theorem kiX5_asMate : Cond.initialized mX5_asMate.1.cls ∈ tb := tb_in 47 (by decide +kernel) rfl
theorem koX5_asMate : z_mOK mX5_asMate 1 := ⟨by decide +kernel, by decide⟩
set_option maxRecDepth 100000 in
theorem kcX5_asBosun : Cond.code mX5_asBosun.1 mX5_asBosun.2.1 mX5_asBosun.2.2.1 mX5_asBosun.2.2.2 ∈ tb := tb_in 591 (by decide +kernel) rfl
set_option maxRecDepth 100000 in
theorem kiX5_asBosun : Cond.initialized mX5_asBosun.1.cls ∈ tb := tb_in 47 (by decide +kernel) rfl
theorem koX5_asBosun : z_mOK mX5_asBosun 1 := ⟨by decide +kernel, by decide⟩
set_option maxRecDepth 100000 in
theorem kcX5_asGunner : Cond.code mX5_asGunner.1 mX5_asGunner.2.1 mX5_asGunner.2.2.1 mX5_asGunner.2.2.2 ∈ tb := tb_in 596 (by decide +kernel) rfl
set_option maxRecDepth 100000 in
theorem kiX5_asGunner : Cond.initialized mX5_asGunner.1.cls ∈ tb := tb_in 47 (by decide +kernel) rfl
theorem koX5_asGunner : z_mOK mX5_asGunner 1 := ⟨by decide +kernel, by decide⟩
set_option maxRecDepth 100000 in
theorem kcX5_asBoy : Cond.code mX5_asBoy.1 mX5_asBoy.2.1 mX5_asBoy.2.2.1 mX5_asBoy.2.2.2 ∈ tb := tb_in 601 (by decide +kernel) rfl
set_option maxRecDepth 100000 in
theorem kiX5_asBoy : Cond.initialized mX5_asBoy.1.cls ∈ tb := tb_in 47 (by decide +kernel) rfl
theorem koX5_asBoy : z_mOK mX5_asBoy 1 := ⟨by decide +kernel, by decide⟩
set_option maxRecDepth 100000 in
theorem kcX5_has : Cond.code mX5_has.1 mX5_has.2.1 mX5_has.2.2.1 mX5_has.2.2.2 ∈ tb := tb_in 334 (by decide +kernel) rfl
set_option maxRecDepth 100000 in
theorem kiX5_has : Cond.initialized mX5_has.1.cls ∈ tb := tb_in 47 (by decide +kernel) rfl
theorem koX5_has : z_mOK mX5_has 2 := ⟨by decide +kernel, by decide⟩
set_option maxRecDepth 100000 in
theorem kcX5_at : Cond.code mX5_at.1 mX5_at.2.1 mX5_at.2.2.1 mX5_at.2.2.2 ∈ tb := tb_in 264 (by decide +kernel) rfl
set_option maxRecDepth 100000 in
theorem kiX5_at : Cond.initialized mX5_at.1.cls ∈ tb := tb_in 47 (by decide +kernel) rfl
theorem koX5_at : z_mOK mX5_at 2 := ⟨by decide +kernel, by decide⟩
set_option maxRecDepth 100000 in
theorem kcX5_put : Cond.code mX5_put.1 mX5_put.2.1 mX5_put.2.2.1 mX5_put.2.2.2 ∈ tb := tb_in 241 (by decide +kernel) rfl
set_option maxRecDepth 100000 in
theorem kiX5_put : Cond.initialized mX5_put.1.cls ∈ tb := tb_in 47 (by decide +kernel) rfl
theorem koX5_put : z_mOK mX5_put 3 := ⟨by decide +kernel, by decide⟩
set_option maxRecDepth 100000 in
theorem kcX5_power : Cond.code mX5_power.1 mX5_power.2.1 mX5_power.2.2.1 mX5_power.2.2.2 ∈ tb := tb_in 546 (by decide +kernel) rfl
set_option maxRecDepth 100000 in
theorem kiX5_power : Cond.initialized mX5_power.1.cls ∈ tb := tb_in 47 (by decide +kernel) rfl
theorem koX5_power : z_mOK mX5_power 2 := ⟨by decide +kernel, by decide⟩
set_option maxRecDepth 100000 in
theorem kcX5_inLeastTerms : Cond.code mX5_inLeastTerms.1 mX5_inLeastTerms.2.1 mX5_inLeastTerms.2.2.1 mX5_inLeastTerms.2.2.2 ∈ tb := tb_in 505 (by decide +kernel) rfl
set_option maxRecDepth 100000 in
theorem kiX5_inLeastTerms : Cond.initialized mX5_inLeastTerms.1.cls ∈ tb := tb_in 47 (by decide +kernel) rfl
theorem koX5_inLeastTerms : z_mOK mX5_inLeastTerms 3 := ⟨by decide +kernel, by decide⟩
set_option maxRecDepth 100000 in
theorem kcX5_commonDivisor : Cond.code mX5_commonDivisor.1 mX5_commonDivisor.2.1 mX5_commonDivisor.2.2.1 mX5_commonDivisor.2.2.2 ∈ tb := tb_in 508 (by decide +kernel) rfl
set_option maxRecDepth 100000 in
theorem kiX5_commonDivisor : Cond.initialized mX5_commonDivisor.1.cls ∈ tb := tb_in 47 (by decide +kernel) rfl
theorem koX5_commonDivisor : z_mOK mX5_commonDivisor 2 := ⟨by decide +kernel, by decide⟩
set_option maxRecDepth 100000 in
theorem kcX6_init : Cond.code mX6_init.1 mX6_init.2.1 mX6_init.2.2.1 mX6_init.2.2.2 ∈ tb := tb_in 628 (by decide +kernel) rfl
set_option maxRecDepth 100000 in
theorem kiX6_init : Cond.initialized mX6_init.1.cls ∈ tb := tb_in 54 (by decide +kernel) rfl
theorem koX6_init : z_mOK mX6_init 0 := ⟨by decide +kernel, by decide⟩
set_option maxRecDepth 100000 in
theorem kcX6_in : Cond.code mX6_in.1 mX6_in.2.1 mX6_in.2.2.1 mX6_in.2.2.2 ∈ tb := tb_in 648 (by decide +kernel) rfl
set_option maxRecDepth 100000 in
theorem kiX6_in : Cond.initialized mX6_in.1.cls ∈ tb := tb_in 54 (by decide +kernel) rfl
theorem koX6_in : z_mOK mX6_in 3 := ⟨by decide +kernel, by decide⟩
set_option maxRecDepth 100000 in
theorem kcX6_isSailor : Cond.code mX6_isSailor.1 mX6_isSailor.2.1 mX6_isSailor.2.2.1 mX6_isSailor.2.2.2 ∈ tb := tb_in 743 (by decide +kernel) rfl
set_option maxRecDepth 100000 in
theorem kiX6_isSailor : Cond.initialized mX6_isSailor.1.cls ∈ tb := tb_in 54 (by decide +kernel) rfl
theorem koX6_isSailor : z_mOK mX6_isSailor 1 := ⟨by decide +kernel, by decide⟩
set_option maxRecDepth 100000 in
theorem kcX6_isSeat : Cond.code mX6_isSeat.1 mX6_isSeat.2.1 mX6_isSeat.2.2.1 mX6_isSeat.2.2.2 ∈ tb := tb_in 766 (by decide +kernel) rfl
set_option maxRecDepth 100000 in
theorem kiX6_isSeat : Cond.initialized mX6_isSeat.1.cls ∈ tb := tb_in 54 (by decide +kernel) rfl
theorem koX6_isSeat : z_mOK mX6_isSeat 1 := ⟨by decide +kernel, by decide⟩
set_option maxRecDepth 100000 in
theorem kcX6_ones : Cond.code mX6_ones.1 mX6_ones.2.1 mX6_ones.2.2.1 mX6_ones.2.2.2 ∈ tb := tb_in 758 (by decide +kernel) rfl
set_option maxRecDepth 100000 in
theorem kiX6_ones : Cond.initialized mX6_ones.1.cls ∈ tb := tb_in 54 (by decide +kernel) rfl
theorem koX6_ones : z_mOK mX6_ones 1 := ⟨by decide +kernel, by decide⟩
set_option maxRecDepth 100000 in
theorem kcX6_type : Cond.code mX6_type.1 mX6_type.2.1 mX6_type.2.2.1 mX6_type.2.2.2 ∈ tb := tb_in 727 (by decide +kernel) rfl
set_option maxRecDepth 100000 in
theorem kiX6_type : Cond.initialized mX6_type.1.cls ∈ tb := tb_in 54 (by decide +kernel) rfl
theorem koX6_type : z_mOK mX6_type 1 := ⟨by decide +kernel, by decide⟩
set_option maxRecDepth 100000 in
theorem kcX6_clear : Cond.code mX6_clear.1 mX6_clear.2.1 mX6_clear.2.2.1 mX6_clear.2.2.2 ∈ tb := tb_in 731 (by decide +kernel) rfl
set_option maxRecDepth 100000 in
theorem kiX6_clear : Cond.initialized mX6_clear.1.cls ∈ tb := tb_in 54 (by decide +kernel) rfl
theorem koX6_clear : z_mOK mX6_clear 0 := ⟨by decide +kernel, by decide⟩
set_option maxRecDepth 100000 in
theorem kcX6_letterAt : Cond.code mX6_letterAt.1 mX6_letterAt.2.1 mX6_letterAt.2.2.1 mX6_letterAt.2.2.2 ∈ tb := tb_in 642 (by decide +kernel) rfl
set_option maxRecDepth 100000 in
theorem kiX6_letterAt : Cond.initialized mX6_letterAt.1.cls ∈ tb := tb_in 54 (by decide +kernel) rfl
theorem koX6_letterAt : z_mOK mX6_letterAt 1 := ⟨by decide +kernel, by decide⟩
set_option maxRecDepth 100000 in
theorem kcX6_isDigit : Cond.code mX6_isDigit.1 mX6_isDigit.2.1 mX6_isDigit.2.2.1 mX6_isDigit.2.2.2 ∈ tb := tb_in 645 (by decide +kernel) rfl
set_option maxRecDepth 100000 in
theorem kiX6_isDigit : Cond.initialized mX6_isDigit.1.cls ∈ tb := tb_in 54 (by decide +kernel) rfl
theorem koX6_isDigit : z_mOK mX6_isDigit 1 := ⟨by decide +kernel, by decide⟩
set_option maxRecDepth 100000 in
theorem kcX6_token : Cond.code mX6_token.1 mX6_token.2.1 mX6_token.2.2.1 mX6_token.2.2.2 ∈ tb := tb_in 638 (by decide +kernel) rfl
set_option maxRecDepth 100000 in
theorem kiX6_token : Cond.initialized mX6_token.1.cls ∈ tb := tb_in 54 (by decide +kernel) rfl
theorem koX6_token : z_mOK mX6_token 0 := ⟨by decide +kernel, by decide⟩
set_option maxRecDepth 100000 in
theorem kcX6_number : Cond.code mX6_number.1 mX6_number.2.1 mX6_number.2.2.1 mX6_number.2.2.2 ∈ tb := tb_in 656 (by decide +kernel) rfl
set_option maxRecDepth 100000 in
theorem kiX6_number : Cond.initialized mX6_number.1.cls ∈ tb := tb_in 54 (by decide +kernel) rfl
theorem koX6_number : z_mOK mX6_number 3 := ⟨by decide +kernel, by decide⟩
set_option maxRecDepth 100000 in
theorem kcX6_once : Cond.code mX6_once.1 mX6_once.2.1 mX6_once.2.2.1 mX6_once.2.2.2 ∈ tb := tb_in 660 (by decide +kernel) rfl
set_option maxRecDepth 100000 in
theorem kiX6_once : Cond.initialized mX6_once.1.cls ∈ tb := tb_in 54 (by decide +kernel) rfl
theorem koX6_once : z_mOK mX6_once 3 := ⟨by decide +kernel, by decide⟩
set_option maxRecDepth 100000 in
theorem kcX6_readsItem : Cond.code mX6_readsItem.1 mX6_readsItem.2.1 mX6_readsItem.2.2.1 mX6_readsItem.2.2.2 ∈ tb := tb_in 652 (by decide +kernel) rfl
set_option maxRecDepth 100000 in
theorem kiX6_readsItem : Cond.initialized mX6_readsItem.1.cls ∈ tb := tb_in 54 (by decide +kernel) rfl
theorem koX6_readsItem : z_mOK mX6_readsItem 0 := ⟨by decide +kernel, by decide⟩
set_option maxRecDepth 100000 in
theorem kcX6_reads : Cond.code mX6_reads.1 mX6_reads.2.1 mX6_reads.2.2.1 mX6_reads.2.2.2 ∈ tb := tb_in 634 (by decide +kernel) rfl
set_option maxRecDepth 100000 in
theorem kiX6_reads : Cond.initialized mX6_reads.1.cls ∈ tb := tb_in 54 (by decide +kernel) rfl
theorem koX6_reads : z_mOK mX6_reads 0 := ⟨by decide +kernel, by decide⟩
set_option maxRecDepth 100000 in
theorem kcX6_tells : Cond.code mX6_tells.1 mX6_tells.2.1 mX6_tells.2.2.1 mX6_tells.2.2.2 ∈ tb := tb_in 664 (by decide +kernel) rfl
set_option maxRecDepth 100000 in
theorem kiX6_tells : Cond.initialized mX6_tells.1.cls ∈ tb := tb_in 54 (by decide +kernel) rfl
theorem koX6_tells : z_mOK mX6_tells 0 := ⟨by decide +kernel, by decide⟩
set_option maxRecDepth 100000 in
theorem kcX6_crew : Cond.code mX6_crew.1 mX6_crew.2.1 mX6_crew.2.2.1 mX6_crew.2.2.2 ∈ tb := tb_in 735 (by decide +kernel) rfl
set_option maxRecDepth 100000 in
theorem kiX6_crew : Cond.initialized mX6_crew.1.cls ∈ tb := tb_in 54 (by decide +kernel) rfl
theorem koX6_crew : z_mOK mX6_crew 0 := ⟨by decide +kernel, by decide⟩
set_option maxRecDepth 100000 in
theorem kcX6_seatOf : Cond.code mX6_seatOf.1 mX6_seatOf.2.1 mX6_seatOf.2.2.1 mX6_seatOf.2.2.2 ∈ tb := tb_in 747 (by decide +kernel) rfl
set_option maxRecDepth 100000 in
theorem kiX6_seatOf : Cond.initialized mX6_seatOf.1.cls ∈ tb := tb_in 54 (by decide +kernel) rfl
theorem koX6_seatOf : z_mOK mX6_seatOf 1 := ⟨by decide +kernel, by decide⟩
set_option maxRecDepth 100000 in
theorem kcX6_would : Cond.code mX6_would.1 mX6_would.2.1 mX6_would.2.2.1 mX6_would.2.2.2 ∈ tb := tb_in 755 (by decide +kernel) rfl
set_option maxRecDepth 100000 in
theorem kiX6_would : Cond.initialized mX6_would.1.cls ∈ tb := tb_in 54 (by decide +kernel) rfl
theorem koX6_would : z_mOK mX6_would 2 := ⟨by decide +kernel, by decide⟩
set_option maxRecDepth 100000 in
theorem kcX6_wouldNow : Cond.code mX6_wouldNow.1 mX6_wouldNow.2.1 mX6_wouldNow.2.2.1 mX6_wouldNow.2.2.2 ∈ tb := tb_in 751 (by decide +kernel) rfl
set_option maxRecDepth 100000 in
theorem kiX6_wouldNow : Cond.initialized mX6_wouldNow.1.cls ∈ tb := tb_in 54 (by decide +kernel) rfl
theorem koX6_wouldNow : z_mOK mX6_wouldNow 1 := ⟨by decide +kernel, by decide⟩
set_option maxRecDepth 100000 in
theorem kcX6_sailor : Cond.code mX6_sailor.1 mX6_sailor.2.1 mX6_sailor.2.2.1 mX6_sailor.2.2.2 ∈ tb := tb_in 739 (by decide +kernel) rfl
set_option maxRecDepth 100000 in
theorem kiX6_sailor : Cond.initialized mX6_sailor.1.cls ∈ tb := tb_in 54 (by decide +kernel) rfl
theorem koX6_sailor : z_mOK mX6_sailor 2 := ⟨by decide +kernel, by decide⟩
set_option maxRecDepth 100000 in
theorem kcX6_seat : Cond.code mX6_seat.1 mX6_seat.2.1 mX6_seat.2.2.1 mX6_seat.2.2.2 ∈ tb := tb_in 762 (by decide +kernel) rfl
set_option maxRecDepth 100000 in
theorem kiX6_seat : Cond.initialized mX6_seat.1.cls ∈ tb := tb_in 54 (by decide +kernel) rfl
theorem koX6_seat : z_mOK mX6_seat 2 := ⟨by decide +kernel, by decide⟩
set_option maxRecDepth 100000 in
theorem kcX6_there : Cond.code mX6_there.1 mX6_there.2.1 mX6_there.2.2.1 mX6_there.2.2.2 ∈ tb := tb_in 774 (by decide +kernel) rfl
set_option maxRecDepth 100000 in
theorem kiX6_there : Cond.initialized mX6_there.1.cls ∈ tb := tb_in 54 (by decide +kernel) rfl
theorem koX6_there : z_mOK mX6_there 0 := ⟨by decide +kernel, by decide⟩
set_option maxRecDepth 100000 in
theorem kcX6_now : Cond.code mX6_now.1 mX6_now.2.1 mX6_now.2.2.1 mX6_now.2.2.2 ∈ tb := tb_in 770 (by decide +kernel) rfl
set_option maxRecDepth 100000 in
theorem kiX6_now : Cond.initialized mX6_now.1.cls ∈ tb := tb_in 54 (by decide +kernel) rfl
theorem koX6_now : z_mOK mX6_now 1 := ⟨by decide +kernel, by decide⟩
set_option maxRecDepth 100000 in
theorem kcX6_keeps : Cond.code mX6_keeps.1 mX6_keeps.2.1 mX6_keeps.2.2.1 mX6_keeps.2.2.2 ∈ tb := tb_in 782 (by decide +kernel) rfl
set_option maxRecDepth 100000 in
theorem kiX6_keeps : Cond.initialized mX6_keeps.1.cls ∈ tb := tb_in 54 (by decide +kernel) rfl
theorem koX6_keeps : z_mOK mX6_keeps 0 := ⟨by decide +kernel, by decide⟩
set_option maxRecDepth 100000 in
theorem kcX6_signs : Cond.code mX6_signs.1 mX6_signs.2.1 mX6_signs.2.2.1 mX6_signs.2.2.2 ∈ tb := tb_in 778 (by decide +kernel) rfl
set_option maxRecDepth 100000 in
theorem kiX6_signs : Cond.initialized mX6_signs.1.cls ∈ tb := tb_in 54 (by decide +kernel) rfl
theorem koX6_signs : z_mOK mX6_signs 2 := ⟨by decide +kernel, by decide⟩
set_option maxRecDepth 100000 in
theorem kcX6_hour : Cond.code mX6_hour.1 mX6_hour.2.1 mX6_hour.2.2.1 mX6_hour.2.2.2 ∈ tb := tb_in 786 (by decide +kernel) rfl
set_option maxRecDepth 100000 in
theorem kiX6_hour : Cond.initialized mX6_hour.1.cls ∈ tb := tb_in 54 (by decide +kernel) rfl
theorem koX6_hour : z_mOK mX6_hour 0 := ⟨by decide +kernel, by decide⟩
set_option maxRecDepth 100000 in
theorem kcX6_scrape : Cond.code mX6_scrape.1 mX6_scrape.2.1 mX6_scrape.2.2.1 mX6_scrape.2.2.2 ∈ tb := tb_in 790 (by decide +kernel) rfl
set_option maxRecDepth 100000 in
theorem kiX6_scrape : Cond.initialized mX6_scrape.1.cls ∈ tb := tb_in 54 (by decide +kernel) rfl
theorem koX6_scrape : z_mOK mX6_scrape 1 := ⟨by decide +kernel, by decide⟩
set_option maxRecDepth 100000 in
theorem kcX6_undo : Cond.code mX6_undo.1 mX6_undo.2.1 mX6_undo.2.2.1 mX6_undo.2.2.2 ∈ tb := tb_in 794 (by decide +kernel) rfl
set_option maxRecDepth 100000 in
theorem kiX6_undo : Cond.initialized mX6_undo.1.cls ∈ tb := tb_in 54 (by decide +kernel) rfl
theorem koX6_undo : z_mOK mX6_undo 0 := ⟨by decide +kernel, by decide⟩
set_option maxRecDepth 100000 in
theorem kcX6_closed : Cond.code mX6_closed.1 mX6_closed.2.1 mX6_closed.2.2.1 mX6_closed.2.2.2 ∈ tb := tb_in 802 (by decide +kernel) rfl
set_option maxRecDepth 100000 in
theorem kiX6_closed : Cond.initialized mX6_closed.1.cls ∈ tb := tb_in 54 (by decide +kernel) rfl
theorem koX6_closed : z_mOK mX6_closed 1 := ⟨by decide +kernel, by decide⟩
set_option maxRecDepth 100000 in
theorem kcX6_will : Cond.code mX6_will.1 mX6_will.2.1 mX6_will.2.2.1 mX6_will.2.2.2 ∈ tb := tb_in 798 (by decide +kernel) rfl
set_option maxRecDepth 100000 in
theorem kiX6_will : Cond.initialized mX6_will.1.cls ∈ tb := tb_in 54 (by decide +kernel) rfl
theorem koX6_will : z_mOK mX6_will 0 := ⟨by decide +kernel, by decide⟩
set_option maxRecDepth 100000 in
theorem kcX6_begin : Cond.code mX6_begin.1 mX6_begin.2.1 mX6_begin.2.2.1 mX6_begin.2.2.2 ∈ tb := tb_in 806 (by decide +kernel) rfl
set_option maxRecDepth 100000 in
theorem kiX6_begin : Cond.initialized mX6_begin.1.cls ∈ tb := tb_in 54 (by decide +kernel) rfl
theorem koX6_begin : z_mOK mX6_begin 0 := ⟨by decide +kernel, by decide⟩
set_option maxRecDepth 100000 in
theorem kcX6_inkOf : Cond.code mX6_inkOf.1 mX6_inkOf.2.1 mX6_inkOf.2.2.1 mX6_inkOf.2.2.2 ∈ tb := tb_in 818 (by decide +kernel) rfl
set_option maxRecDepth 100000 in
theorem kiX6_inkOf : Cond.initialized mX6_inkOf.1.cls ∈ tb := tb_in 54 (by decide +kernel) rfl
theorem koX6_inkOf : z_mOK mX6_inkOf 1 := ⟨by decide +kernel, by decide⟩
set_option maxRecDepth 100000 in
theorem kcX6_lays : Cond.code mX6_lays.1 mX6_lays.2.1 mX6_lays.2.2.1 mX6_lays.2.2.2 ∈ tb := tb_in 814 (by decide +kernel) rfl
set_option maxRecDepth 100000 in
theorem kiX6_lays : Cond.initialized mX6_lays.1.cls ∈ tb := tb_in 54 (by decide +kernel) rfl
theorem koX6_lays : z_mOK mX6_lays 1 := ⟨by decide +kernel, by decide⟩
set_option maxRecDepth 100000 in
theorem kcX6_of : Cond.code mX6_of.1 mX6_of.2.1 mX6_of.2.2.1 mX6_of.2.2.2 ∈ tb := tb_in 829 (by decide +kernel) rfl
set_option maxRecDepth 100000 in
theorem kiX6_of : Cond.initialized mX6_of.1.cls ∈ tb := tb_in 54 (by decide +kernel) rfl
theorem koX6_of : z_mOK mX6_of 2 := ⟨by decide +kernel, by decide⟩
set_option maxRecDepth 100000 in
theorem kcX6_placeIn : Cond.code mX6_placeIn.1 mX6_placeIn.2.1 mX6_placeIn.2.2.1 mX6_placeIn.2.2.2 ∈ tb := tb_in 840 (by decide +kernel) rfl
set_option maxRecDepth 100000 in
theorem kiX6_placeIn : Cond.initialized mX6_placeIn.1.cls ∈ tb := tb_in 54 (by decide +kernel) rfl
theorem koX6_placeIn : z_mOK mX6_placeIn 3 := ⟨by decide +kernel, by decide⟩
set_option maxRecDepth 100000 in
theorem kcX6_orders : Cond.code mX6_orders.1 mX6_orders.2.1 mX6_orders.2.2.1 mX6_orders.2.2.2 ∈ tb := tb_in 810 (by decide +kernel) rfl
set_option maxRecDepth 100000 in
theorem kiX6_orders : Cond.initialized mX6_orders.1.cls ∈ tb := tb_in 54 (by decide +kernel) rfl
theorem koX6_orders : z_mOK mX6_orders 0 := ⟨by decide +kernel, by decide⟩
set_option maxRecDepth 100000 in
theorem kcX6_firsts : Cond.code mX6_firsts.1 mX6_firsts.2.1 mX6_firsts.2.2.1 mX6_firsts.2.2.2 ∈ tb := tb_in 826 (by decide +kernel) rfl
set_option maxRecDepth 100000 in
theorem kiX6_firsts : Cond.initialized mX6_firsts.1.cls ∈ tb := tb_in 54 (by decide +kernel) rfl
theorem koX6_firsts : z_mOK mX6_firsts 1 := ⟨by decide +kernel, by decide⟩
set_option maxRecDepth 100000 in
theorem kcX6_first : Cond.code mX6_first.1 mX6_first.2.1 mX6_first.2.2.1 mX6_first.2.2.2 ∈ tb := tb_in 822 (by decide +kernel) rfl
set_option maxRecDepth 100000 in
theorem kiX6_first : Cond.initialized mX6_first.1.cls ∈ tb := tb_in 54 (by decide +kernel) rfl
theorem koX6_first : z_mOK mX6_first 0 := ⟨by decide +kernel, by decide⟩
set_option maxRecDepth 100000 in
theorem kcX6_isThere : Cond.code mX6_isThere.1 mX6_isThere.2.1 mX6_isThere.2.2.1 mX6_isThere.2.2.2 ∈ tb := tb_in 837 (by decide +kernel) rfl
set_option maxRecDepth 100000 in
theorem kiX6_isThere : Cond.initialized mX6_isThere.1.cls ∈ tb := tb_in 54 (by decide +kernel) rfl
theorem koX6_isThere : z_mOK mX6_isThere 1 := ⟨by decide +kernel, by decide⟩
set_option maxRecDepth 100000 in
theorem kcX6_sure : Cond.code mX6_sure.1 mX6_sure.2.1 mX6_sure.2.2.1 mX6_sure.2.2.2 ∈ tb := tb_in 833 (by decide +kernel) rfl
set_option maxRecDepth 100000 in
theorem kiX6_sure : Cond.initialized mX6_sure.1.cls ∈ tb := tb_in 54 (by decide +kernel) rfl
theorem koX6_sure : z_mOK mX6_sure 1 := ⟨by decide +kernel, by decide⟩
set_option maxRecDepth 100000 in
theorem kcX6_leads : Cond.code mX6_leads.1 mX6_leads.2.1 mX6_leads.2.2.1 mX6_leads.2.2.2 ∈ tb := tb_in 848 (by decide +kernel) rfl
set_option maxRecDepth 100000 in
theorem kiX6_leads : Cond.initialized mX6_leads.1.cls ∈ tb := tb_in 54 (by decide +kernel) rfl
theorem koX6_leads : z_mOK mX6_leads 1 := ⟨by decide +kernel, by decide⟩
set_option maxRecDepth 100000 in
theorem kcX6_common : Cond.code mX6_common.1 mX6_common.2.1 mX6_common.2.2.1 mX6_common.2.2.2 ∈ tb := tb_in 851 (by decide +kernel) rfl
set_option maxRecDepth 100000 in
theorem kiX6_common : Cond.initialized mX6_common.1.cls ∈ tb := tb_in 54 (by decide +kernel) rfl
theorem koX6_common : z_mOK mX6_common 2 := ⟨by decide +kernel, by decide⟩
set_option maxRecDepth 100000 in
theorem kcX6_chance : Cond.code mX6_chance.1 mX6_chance.2.1 mX6_chance.2.2.1 mX6_chance.2.2.2 ∈ tb := tb_in 844 (by decide +kernel) rfl
set_option maxRecDepth 100000 in
theorem kiX6_chance : Cond.initialized mX6_chance.1.cls ∈ tb := tb_in 54 (by decide +kernel) rfl
theorem koX6_chance : z_mOK mX6_chance 2 := ⟨by decide +kernel, by decide⟩
set_option maxRecDepth 100000 in
theorem kcX6_isKnown : Cond.code mX6_isKnown.1 mX6_isKnown.2.1 mX6_isKnown.2.2.1 mX6_isKnown.2.2.2 ∈ tb := tb_in 859 (by decide +kernel) rfl
set_option maxRecDepth 100000 in
theorem kiX6_isKnown : Cond.initialized mX6_isKnown.1.cls ∈ tb := tb_in 54 (by decide +kernel) rfl
theorem koX6_isKnown : z_mOK mX6_isKnown 2 := ⟨by decide +kernel, by decide⟩
set_option maxRecDepth 100000 in
theorem kcX6_ask : Cond.code mX6_ask.1 mX6_ask.2.1 mX6_ask.2.2.1 mX6_ask.2.2.2 ∈ tb := tb_in 855 (by decide +kernel) rfl
set_option maxRecDepth 100000 in
theorem kiX6_ask : Cond.initialized mX6_ask.1.cls ∈ tb := tb_in 54 (by decide +kernel) rfl
theorem koX6_ask : z_mOK mX6_ask 0 := ⟨by decide +kernel, by decide⟩
set_option maxRecDepth 100000 in
theorem kcX6_hang : Cond.code mX6_hang.1 mX6_hang.2.1 mX6_hang.2.2.1 mX6_hang.2.2.2 ∈ tb := tb_in 863 (by decide +kernel) rfl
set_option maxRecDepth 100000 in
theorem kiX6_hang : Cond.initialized mX6_hang.1.cls ∈ tb := tb_in 54 (by decide +kernel) rfl
theorem koX6_hang : z_mOK mX6_hang 0 := ⟨by decide +kernel, by decide⟩
set_option maxRecDepth 100000 in
theorem kcX6_shift : Cond.code mX6_shift.1 mX6_shift.2.1 mX6_shift.2.2.1 mX6_shift.2.2.2 ∈ tb := tb_in 867 (by decide +kernel) rfl
set_option maxRecDepth 100000 in
theorem kiX6_shift : Cond.initialized mX6_shift.1.cls ∈ tb := tb_in 54 (by decide +kernel) rfl
theorem koX6_shift : z_mOK mX6_shift 1 := ⟨by decide +kernel, by decide⟩
set_option maxRecDepth 100000 in
theorem kcX6_odds : Cond.code mX6_odds.1 mX6_odds.2.1 mX6_odds.2.2.1 mX6_odds.2.2.2 ∈ tb := tb_in 871 (by decide +kernel) rfl
set_option maxRecDepth 100000 in
theorem kiX6_odds : Cond.initialized mX6_odds.1.cls ∈ tb := tb_in 54 (by decide +kernel) rfl
theorem koX6_odds : z_mOK mX6_odds 3 := ⟨by decide +kernel, by decide⟩
set_option maxRecDepth 100000 in
theorem kcX6_bold : Cond.code mX6_bold.1 mX6_bold.2.1 mX6_bold.2.2.1 mX6_bold.2.2.2 ∈ tb := tb_in 875 (by decide +kernel) rfl
set_option maxRecDepth 100000 in
theorem kiX6_bold : Cond.initialized mX6_bold.1.cls ∈ tb := tb_in 54 (by decide +kernel) rfl
theorem koX6_bold : z_mOK mX6_bold 1 := ⟨by decide +kernel, by decide⟩
set_option maxRecDepth 100000 in
theorem kcX6_clique : Cond.code mX6_clique.1 mX6_clique.2.1 mX6_clique.2.2.1 mX6_clique.2.2.2 ∈ tb := tb_in 879 (by decide +kernel) rfl
set_option maxRecDepth 100000 in
theorem kiX6_clique : Cond.initialized mX6_clique.1.cls ∈ tb := tb_in 54 (by decide +kernel) rfl
theorem koX6_clique : z_mOK mX6_clique 1 := ⟨by decide +kernel, by decide⟩
set_option maxRecDepth 100000 in
theorem kcX6_rate : Cond.code mX6_rate.1 mX6_rate.2.1 mX6_rate.2.2.1 mX6_rate.2.2.2 ∈ tb := tb_in 883 (by decide +kernel) rfl
set_option maxRecDepth 100000 in
theorem kiX6_rate : Cond.initialized mX6_rate.1.cls ∈ tb := tb_in 54 (by decide +kernel) rfl
theorem koX6_rate : z_mOK mX6_rate 2 := ⟨by decide +kernel, by decide⟩
set_option maxRecDepth 100000 in
theorem kcX6_keep : Cond.code mX6_keep.1 mX6_keep.2.1 mX6_keep.2.2.1 mX6_keep.2.2.2 ∈ tb := tb_in 893 (by decide +kernel) rfl
set_option maxRecDepth 100000 in
theorem kiX6_keep : Cond.initialized mX6_keep.1.cls ∈ tb := tb_in 54 (by decide +kernel) rfl
theorem koX6_keep : z_mOK mX6_keep 1 := ⟨by decide +kernel, by decide⟩
set_option maxRecDepth 100000 in
theorem kcX6_back : Cond.code mX6_back.1 mX6_back.2.1 mX6_back.2.2.1 mX6_back.2.2.2 ∈ tb := tb_in 897 (by decide +kernel) rfl
set_option maxRecDepth 100000 in
theorem kiX6_back : Cond.initialized mX6_back.1.cls ∈ tb := tb_in 54 (by decide +kernel) rfl
theorem koX6_back : z_mOK mX6_back 1 := ⟨by decide +kernel, by decide⟩
set_option maxRecDepth 100000 in
theorem kcX6_count : Cond.code mX6_count.1 mX6_count.2.1 mX6_count.2.2.1 mX6_count.2.2.2 ∈ tb := tb_in 901 (by decide +kernel) rfl
set_option maxRecDepth 100000 in
theorem kiX6_count : Cond.initialized mX6_count.1.cls ∈ tb := tb_in 54 (by decide +kernel) rfl
theorem koX6_count : z_mOK mX6_count 1 := ⟨by decide +kernel, by decide⟩
set_option maxRecDepth 100000 in
theorem kcX6_trace : Cond.code mX6_trace.1 mX6_trace.2.1 mX6_trace.2.2.1 mX6_trace.2.2.2 ∈ tb := tb_in 905 (by decide +kernel) rfl
set_option maxRecDepth 100000 in
theorem kiX6_trace : Cond.initialized mX6_trace.1.cls ∈ tb := tb_in 54 (by decide +kernel) rfl
theorem koX6_trace : z_mOK mX6_trace 0 := ⟨by decide +kernel, by decide⟩
set_option maxRecDepth 100000 in
theorem kcJ6_bitCount_0f7a4 : Cond.code mJ6_bitCount_0f7a4.1 mJ6_bitCount_0f7a4.2.1 mJ6_bitCount_0f7a4.2.2.1 mJ6_bitCount_0f7a4.2.2.2 ∈ tb := tb_in 354 (by decide +kernel) rfl
set_option maxRecDepth 100000 in
theorem kiJ6_bitCount_0f7a4 : Cond.initialized mJ6_bitCount_0f7a4.1.cls ∈ tb := tb_in 56 (by decide +kernel) rfl
theorem koJ6_bitCount_0f7a4 : z_mOK mJ6_bitCount_0f7a4 1 := ⟨by decide +kernel, by decide⟩
set_option maxRecDepth 100000 in
theorem kcJ9_max_7cf53 : Cond.code mJ9_max_7cf53.1 mJ9_max_7cf53.2.1 mJ9_max_7cf53.2.2.1 mJ9_max_7cf53.2.2.2 ∈ tb := tb_in 502 (by decide +kernel) rfl
set_option maxRecDepth 100000 in
theorem kiJ9_max_7cf53 : Cond.initialized mJ9_max_7cf53.1.cls ∈ tb := tb_in 55 (by decide +kernel) rfl
theorem koJ9_max_7cf53 : z_mOK mJ9_max_7cf53 2 := ⟨by decide +kernel, by decide⟩
set_option maxRecDepth 100000 in
theorem kcJ9_min_7cf53 : Cond.code mJ9_min_7cf53.1 mJ9_min_7cf53.2.1 mJ9_min_7cf53.2.2.1 mJ9_min_7cf53.2.2.2 ∈ tb := tb_in 274 (by decide +kernel) rfl
set_option maxRecDepth 100000 in
theorem kiJ9_min_7cf53 : Cond.initialized mJ9_min_7cf53.1.cls ∈ tb := tb_in 55 (by decide +kernel) rfl
theorem koJ9_min_7cf53 : z_mOK mJ9_min_7cf53 2 := ⟨by decide +kernel, by decide⟩
set_option maxRecDepth 100000 in
theorem kcJ7_fill_53178 : Cond.code mJ7_fill_53178.1 mJ7_fill_53178.2.1 mJ7_fill_53178.2.2.1 mJ7_fill_53178.2.2.2 ∈ tb := tb_in 133 (by decide +kernel) rfl
set_option maxRecDepth 100000 in
theorem kiJ7_fill_53178 : Cond.initialized mJ7_fill_53178.1.cls ∈ tb := tb_in 51 (by decide +kernel) rfl
theorem koJ7_fill_53178 : z_mOK mJ7_fill_53178 2 := ⟨by decide +kernel, by decide⟩
set_option maxRecDepth 100000 in
theorem flX4_9 : z_FL RX4 9 4 0 := ⟨(RX4, TX4, 6), rfl, by decide, tb_in 71 (by decide +kernel) rfl⟩
set_option maxRecDepth 100000 in
theorem fpX4_9 : z_FP RX4 9 4 0 (.array .int) true := ⟨(RX4, TX4, 6), rfl, by decide, tb_in 71 (by decide +kernel) rfl, by decide +kernel, rfl, fun h => by first | cases h; done | rfl⟩
set_option maxRecDepth 100000 in
theorem flX4_15 : z_FL RX4 15 4 1 := ⟨(RX4, TX4, 6), rfl, by decide, tb_in 72 (by decide +kernel) rfl⟩
set_option maxRecDepth 100000 in
theorem fpX4_15 : z_FP RX4 15 4 1 (.int) false := ⟨(RX4, TX4, 6), rfl, by decide, tb_in 72 (by decide +kernel) rfl, by decide +kernel, rfl, fun h => by first | cases h; done | rfl⟩
set_option maxRecDepth 100000 in
theorem flX5_57 : z_FL RX5 57 4 1 := ⟨(RX4, TX4, 6), rfl, by decide, tb_in 73 (by decide +kernel) rfl⟩
set_option maxRecDepth 100000 in
theorem fpX5_57 : z_FP RX5 57 4 1 (.int) false := ⟨(RX4, TX4, 6), rfl, by decide, tb_in 73 (by decide +kernel) rfl, by decide +kernel, rfl, fun h => by first | cases h; done | rfl⟩
set_option maxRecDepth 100000 in
theorem flX4_28 : z_FL RX4 28 4 2 := ⟨(RX4, TX4, 6), rfl, by decide, tb_in 74 (by decide +kernel) rfl⟩
set_option maxRecDepth 100000 in
theorem fpX4_28 : z_FP RX4 28 4 2 (.int) false := ⟨(RX4, TX4, 6), rfl, by decide, tb_in 74 (by decide +kernel) rfl, by decide +kernel, rfl, fun h => by first | cases h; done | rfl⟩
set_option maxRecDepth 100000 in
theorem flX4_52 : z_FL RX4 52 4 3 := ⟨(RX4, TX4, 6), rfl, by decide, tb_in 75 (by decide +kernel) rfl⟩
set_option maxRecDepth 100000 in
theorem fpX4_52 : z_FP RX4 52 4 3 (.int) false := ⟨(RX4, TX4, 6), rfl, by decide, tb_in 75 (by decide +kernel) rfl, by decide +kernel, rfl, fun h => by first | cases h; done | rfl⟩
set_option maxRecDepth 100000 in
theorem flX4_31 : z_FL RX4 31 4 4 := ⟨(RX4, TX4, 6), rfl, by decide, tb_in 76 (by decide +kernel) rfl⟩
set_option maxRecDepth 100000 in
theorem fpX4_31 : z_FP RX4 31 4 4 (.boolean) false := ⟨(RX4, TX4, 6), rfl, by decide, tb_in 76 (by decide +kernel) rfl, by decide +kernel, rfl, fun h => by first | cases h; done | rfl⟩
set_option maxRecDepth 100000 in
theorem flX4_35 : z_FL RX4 35 4 5 := ⟨(RX4, TX4, 6), rfl, by decide, tb_in 77 (by decide +kernel) rfl⟩
set_option maxRecDepth 100000 in
theorem fpX4_35 : z_FP RX4 35 4 5 (.boolean) false := ⟨(RX4, TX4, 6), rfl, by decide, tb_in 77 (by decide +kernel) rfl, by decide +kernel, rfl, fun h => by first | cases h; done | rfl⟩
set_option maxRecDepth 100000 in
theorem flX0_9 : z_FL RX0 9 0 0 := ⟨(RX0, TX0, 6), rfl, by decide, tb_in 98 (by decide +kernel) rfl⟩
set_option maxRecDepth 100000 in
theorem fpX0_9 : z_FP RX0 9 0 0 (.array .int) true := ⟨(RX0, TX0, 6), rfl, by decide, tb_in 98 (by decide +kernel) rfl, by decide +kernel, rfl, fun h => by first | cases h; done | rfl⟩
set_option maxRecDepth 100000 in
theorem flX5_81 : z_FL RX5 81 0 0 := ⟨(RX0, TX0, 6), rfl, by decide, tb_in 99 (by decide +kernel) rfl⟩
set_option maxRecDepth 100000 in
theorem flX0_15 : z_FL RX0 15 0 1 := ⟨(RX0, TX0, 6), rfl, by decide, tb_in 100 (by decide +kernel) rfl⟩
set_option maxRecDepth 100000 in
theorem fpX0_15 : z_FP RX0 15 0 1 (.array .int) true := ⟨(RX0, TX0, 6), rfl, by decide, tb_in 100 (by decide +kernel) rfl, by decide +kernel, rfl, fun h => by first | cases h; done | rfl⟩
set_option maxRecDepth 100000 in
theorem flX5_89 : z_FL RX5 89 0 1 := ⟨(RX0, TX0, 6), rfl, by decide, tb_in 101 (by decide +kernel) rfl⟩
set_option maxRecDepth 100000 in
theorem flX0_18 : z_FL RX0 18 0 2 := ⟨(RX0, TX0, 6), rfl, by decide, tb_in 102 (by decide +kernel) rfl⟩
set_option maxRecDepth 100000 in
theorem fpX0_18 : z_FP RX0 18 0 2 (.array .int) true := ⟨(RX0, TX0, 6), rfl, by decide, tb_in 102 (by decide +kernel) rfl, by decide +kernel, rfl, fun h => by first | cases h; done | rfl⟩
set_option maxRecDepth 100000 in
theorem flX0_28 : z_FL RX0 28 0 3 := ⟨(RX0, TX0, 6), rfl, by decide, tb_in 103 (by decide +kernel) rfl⟩
set_option maxRecDepth 100000 in
theorem fpX0_28 : z_FP RX0 28 0 3 (.int) false := ⟨(RX0, TX0, 6), rfl, by decide, tb_in 103 (by decide +kernel) rfl, by decide +kernel, rfl, fun h => by first | cases h; done | rfl⟩
set_option maxRecDepth 100000 in
theorem flX4_55 : z_FL RX4 55 0 3 := ⟨(RX0, TX0, 6), rfl, by decide, tb_in 104 (by decide +kernel) rfl⟩
set_option maxRecDepth 100000 in
theorem fpX4_55 : z_FP RX4 55 0 3 (.int) false := ⟨(RX0, TX0, 6), rfl, by decide, tb_in 104 (by decide +kernel) rfl, by decide +kernel, rfl, fun h => by first | cases h; done | rfl⟩
set_option maxRecDepth 100000 in
theorem flX5_196 : z_FL RX5 196 0 3 := ⟨(RX0, TX0, 6), rfl, by decide, tb_in 105 (by decide +kernel) rfl⟩
set_option maxRecDepth 100000 in
theorem fpX5_196 : z_FP RX5 196 0 3 (.int) false := ⟨(RX0, TX0, 6), rfl, by decide, tb_in 105 (by decide +kernel) rfl, by decide +kernel, rfl, fun h => by first | cases h; done | rfl⟩
set_option maxRecDepth 100000 in
theorem flX0_21 : z_FL RX0 21 0 4 := ⟨(RX0, TX0, 6), rfl, by decide, tb_in 106 (by decide +kernel) rfl⟩
set_option maxRecDepth 100000 in
theorem fpX0_21 : z_FP RX0 21 0 4 (.int) false := ⟨(RX0, TX0, 6), rfl, by decide, tb_in 106 (by decide +kernel) rfl, by decide +kernel, rfl, fun h => by first | cases h; done | rfl⟩
set_option maxRecDepth 100000 in
theorem flX4_70 : z_FL RX4 70 0 4 := ⟨(RX0, TX0, 6), rfl, by decide, tb_in 107 (by decide +kernel) rfl⟩
set_option maxRecDepth 100000 in
theorem fpX4_70 : z_FP RX4 70 0 4 (.int) false := ⟨(RX0, TX0, 6), rfl, by decide, tb_in 107 (by decide +kernel) rfl, by decide +kernel, rfl, fun h => by first | cases h; done | rfl⟩
set_option maxRecDepth 100000 in
theorem flX5_225 : z_FL RX5 225 0 4 := ⟨(RX0, TX0, 6), rfl, by decide, tb_in 108 (by decide +kernel) rfl⟩
set_option maxRecDepth 100000 in
theorem fpX5_225 : z_FP RX5 225 0 4 (.int) false := ⟨(RX0, TX0, 6), rfl, by decide, tb_in 108 (by decide +kernel) rfl, by decide +kernel, rfl, fun h => by first | cases h; done | rfl⟩
set_option maxRecDepth 100000 in
theorem flX0_25 : z_FL RX0 25 0 5 := ⟨(RX0, TX0, 6), rfl, by decide, tb_in 109 (by decide +kernel) rfl⟩
set_option maxRecDepth 100000 in
theorem fpX0_25 : z_FP RX0 25 0 5 (.int) false := ⟨(RX0, TX0, 6), rfl, by decide, tb_in 109 (by decide +kernel) rfl, by decide +kernel, rfl, fun h => by first | cases h; done | rfl⟩
set_option maxRecDepth 100000 in
theorem flX4_73 : z_FL RX4 73 0 5 := ⟨(RX0, TX0, 6), rfl, by decide, tb_in 110 (by decide +kernel) rfl⟩
set_option maxRecDepth 100000 in
theorem fpX4_73 : z_FP RX4 73 0 5 (.int) false := ⟨(RX0, TX0, 6), rfl, by decide, tb_in 110 (by decide +kernel) rfl, by decide +kernel, rfl, fun h => by first | cases h; done | rfl⟩
set_option maxRecDepth 100000 in
theorem flX5_228 : z_FL RX5 228 0 5 := ⟨(RX0, TX0, 6), rfl, by decide, tb_in 111 (by decide +kernel) rfl⟩
set_option maxRecDepth 100000 in
theorem fpX5_228 : z_FP RX5 228 0 5 (.int) false := ⟨(RX0, TX0, 6), rfl, by decide, tb_in 111 (by decide +kernel) rfl, by decide +kernel, rfl, fun h => by first | cases h; done | rfl⟩
set_option maxRecDepth 100000 in
theorem flX1_9 : z_FL RX1 9 1 0 := ⟨(RX1, TX1, 4), rfl, by decide, tb_in 134 (by decide +kernel) rfl⟩
set_option maxRecDepth 100000 in
theorem fpX1_9 : z_FP RX1 9 1 0 (.array .int) true := ⟨(RX1, TX1, 4), rfl, by decide, tb_in 134 (by decide +kernel) rfl, by decide +kernel, rfl, fun h => by first | cases h; done | rfl⟩
set_option maxRecDepth 100000 in
theorem flX2_34 : z_FL RX2 34 1 0 := ⟨(RX1, TX1, 4), rfl, by decide, tb_in 135 (by decide +kernel) rfl⟩
set_option maxRecDepth 100000 in
theorem flX5_112 : z_FL RX5 112 1 0 := ⟨(RX1, TX1, 4), rfl, by decide, tb_in 136 (by decide +kernel) rfl⟩
set_option maxRecDepth 100000 in
theorem flX1_15 : z_FL RX1 15 1 1 := ⟨(RX1, TX1, 4), rfl, by decide, tb_in 137 (by decide +kernel) rfl⟩
set_option maxRecDepth 100000 in
theorem fpX1_15 : z_FP RX1 15 1 1 (.array .int) true := ⟨(RX1, TX1, 4), rfl, by decide, tb_in 137 (by decide +kernel) rfl, by decide +kernel, rfl, fun h => by first | cases h; done | rfl⟩
set_option maxRecDepth 100000 in
theorem flX2_41 : z_FL RX2 41 1 1 := ⟨(RX1, TX1, 4), rfl, by decide, tb_in 138 (by decide +kernel) rfl⟩
set_option maxRecDepth 100000 in
theorem flX5_115 : z_FL RX5 115 1 1 := ⟨(RX1, TX1, 4), rfl, by decide, tb_in 139 (by decide +kernel) rfl⟩
set_option maxRecDepth 100000 in
theorem flX2_28 : z_FL RX2 28 1 2 := ⟨(RX1, TX1, 4), rfl, by decide, tb_in 140 (by decide +kernel) rfl⟩
set_option maxRecDepth 100000 in
theorem fpX2_28 : z_FP RX2 28 1 2 (.int) false := ⟨(RX1, TX1, 4), rfl, by decide, tb_in 140 (by decide +kernel) rfl, by decide +kernel, rfl, fun h => by first | cases h; done | rfl⟩
set_option maxRecDepth 100000 in
theorem flX1_24 : z_FL RX1 24 1 2 := ⟨(RX1, TX1, 4), rfl, by decide, tb_in 141 (by decide +kernel) rfl⟩
set_option maxRecDepth 100000 in
theorem fpX1_24 : z_FP RX1 24 1 2 (.int) false := ⟨(RX1, TX1, 4), rfl, by decide, tb_in 141 (by decide +kernel) rfl, by decide +kernel, rfl, fun h => by first | cases h; done | rfl⟩
set_option maxRecDepth 100000 in
theorem flX5_118 : z_FL RX5 118 1 2 := ⟨(RX1, TX1, 4), rfl, by decide, tb_in 142 (by decide +kernel) rfl⟩
set_option maxRecDepth 100000 in
theorem fpX5_118 : z_FP RX5 118 1 2 (.int) false := ⟨(RX1, TX1, 4), rfl, by decide, tb_in 142 (by decide +kernel) rfl, by decide +kernel, rfl, fun h => by first | cases h; done | rfl⟩
set_option maxRecDepth 100000 in
theorem flX1_28 : z_FL RX1 28 1 3 := ⟨(RX1, TX1, 4), rfl, by decide, tb_in 143 (by decide +kernel) rfl⟩
set_option maxRecDepth 100000 in
theorem fpX1_28 : z_FP RX1 28 1 3 (.int) false := ⟨(RX1, TX1, 4), rfl, by decide, tb_in 143 (by decide +kernel) rfl, by decide +kernel, rfl, fun h => by first | cases h; done | rfl⟩
set_option maxRecDepth 100000 in
theorem flX5_96 : z_FL RX5 96 1 3 := ⟨(RX1, TX1, 4), rfl, by decide, tb_in 144 (by decide +kernel) rfl⟩
set_option maxRecDepth 100000 in
theorem fpX5_96 : z_FP RX5 96 1 3 (.int) false := ⟨(RX1, TX1, 4), rfl, by decide, tb_in 144 (by decide +kernel) rfl, by decide +kernel, rfl, fun h => by first | cases h; done | rfl⟩
set_option maxRecDepth 100000 in
theorem flX3_11 : z_FL RX3 11 3 0 := ⟨(RX3, TX3, 3), rfl, by decide, tb_in 163 (by decide +kernel) rfl⟩
set_option maxRecDepth 100000 in
theorem fpX3_11 : z_FP RX3 11 3 0 (.array (.object RX1)) true := ⟨(RX3, TX3, 3), rfl, by decide, tb_in 163 (by decide +kernel) rfl, by decide +kernel, rfl, fun h => by first | cases h; done | rfl⟩
set_option maxRecDepth 100000 in
theorem flX3_18 : z_FL RX3 18 3 1 := ⟨(RX3, TX3, 3), rfl, by decide, tb_in 164 (by decide +kernel) rfl⟩
set_option maxRecDepth 100000 in
theorem fpX3_18 : z_FP RX3 18 3 1 (.int) false := ⟨(RX3, TX3, 3), rfl, by decide, tb_in 164 (by decide +kernel) rfl, by decide +kernel, rfl, fun h => by first | cases h; done | rfl⟩
set_option maxRecDepth 100000 in
theorem flX3_30 : z_FL RX3 30 3 2 := ⟨(RX3, TX3, 3), rfl, by decide, tb_in 165 (by decide +kernel) rfl⟩
set_option maxRecDepth 100000 in
theorem fpX3_30 : z_FP RX3 30 3 2 (.int) false := ⟨(RX3, TX3, 3), rfl, by decide, tb_in 165 (by decide +kernel) rfl, by decide +kernel, rfl, fun h => by first | cases h; done | rfl⟩
set_option maxRecDepth 100000 in
theorem flX5_128 : z_FL RX5 128 3 2 := ⟨(RX3, TX3, 3), rfl, by decide, tb_in 166 (by decide +kernel) rfl⟩
set_option maxRecDepth 100000 in
theorem fpX5_128 : z_FP RX5 128 3 2 (.int) false := ⟨(RX3, TX3, 3), rfl, by decide, tb_in 166 (by decide +kernel) rfl, by decide +kernel, rfl, fun h => by first | cases h; done | rfl⟩
set_option maxRecDepth 100000 in
theorem flX2_11 : z_FL RX2 11 2 0 := ⟨(RX2, TX2, 6), rfl, by decide, tb_in 180 (by decide +kernel) rfl⟩
set_option maxRecDepth 100000 in
theorem fpX2_11 : z_FP RX2 11 2 0 (.array .int) true := ⟨(RX2, TX2, 6), rfl, by decide, tb_in 180 (by decide +kernel) rfl, by decide +kernel, rfl, fun h => by first | cases h; done | rfl⟩
set_option maxRecDepth 100000 in
theorem flX2_15 : z_FL RX2 15 2 1 := ⟨(RX2, TX2, 6), rfl, by decide, tb_in 181 (by decide +kernel) rfl⟩
set_option maxRecDepth 100000 in
theorem fpX2_15 : z_FP RX2 15 2 1 (.array .int) true := ⟨(RX2, TX2, 6), rfl, by decide, tb_in 181 (by decide +kernel) rfl, by decide +kernel, rfl, fun h => by first | cases h; done | rfl⟩
set_option maxRecDepth 100000 in
theorem flX2_18 : z_FL RX2 18 2 2 := ⟨(RX2, TX2, 6), rfl, by decide, tb_in 182 (by decide +kernel) rfl⟩
set_option maxRecDepth 100000 in
theorem fpX2_18 : z_FP RX2 18 2 2 (.array .int) true := ⟨(RX2, TX2, 6), rfl, by decide, tb_in 182 (by decide +kernel) rfl, by decide +kernel, rfl, fun h => by first | cases h; done | rfl⟩
set_option maxRecDepth 100000 in
theorem flX2_21 : z_FL RX2 21 2 3 := ⟨(RX2, TX2, 6), rfl, by decide, tb_in 183 (by decide +kernel) rfl⟩
set_option maxRecDepth 100000 in
theorem fpX2_21 : z_FP RX2 21 2 3 (.int) false := ⟨(RX2, TX2, 6), rfl, by decide, tb_in 183 (by decide +kernel) rfl, by decide +kernel, rfl, fun h => by first | cases h; done | rfl⟩
set_option maxRecDepth 100000 in
theorem flX5_161 : z_FL RX5 161 2 3 := ⟨(RX2, TX2, 6), rfl, by decide, tb_in 184 (by decide +kernel) rfl⟩
set_option maxRecDepth 100000 in
theorem fpX5_161 : z_FP RX5 161 2 3 (.int) false := ⟨(RX2, TX2, 6), rfl, by decide, tb_in 184 (by decide +kernel) rfl, by decide +kernel, rfl, fun h => by first | cases h; done | rfl⟩
set_option maxRecDepth 100000 in
theorem flX2_25 : z_FL RX2 25 2 4 := ⟨(RX2, TX2, 6), rfl, by decide, tb_in 185 (by decide +kernel) rfl⟩
set_option maxRecDepth 100000 in
theorem fpX2_25 : z_FP RX2 25 2 4 (.int) false := ⟨(RX2, TX2, 6), rfl, by decide, tb_in 185 (by decide +kernel) rfl, by decide +kernel, rfl, fun h => by first | cases h; done | rfl⟩
set_option maxRecDepth 100000 in
theorem flX2_33 : z_FL RX2 33 2 5 := ⟨(RX2, TX2, 6), rfl, by decide, tb_in 186 (by decide +kernel) rfl⟩
set_option maxRecDepth 100000 in
theorem fpX2_33 : z_FP RX2 33 2 5 (.int) false := ⟨(RX2, TX2, 6), rfl, by decide, tb_in 186 (by decide +kernel) rfl, by decide +kernel, rfl, fun h => by first | cases h; done | rfl⟩
set_option maxRecDepth 100000 in
theorem flX5_10 : z_FL RX5 10 5 0 := ⟨(RX5, TX5, 10), rfl, by decide, tb_in 200 (by decide +kernel) rfl⟩
set_option maxRecDepth 100000 in
theorem fpX5_10 : z_FP RX5 10 5 0 (.object RX4) true := ⟨(RX5, TX5, 10), rfl, by decide, tb_in 200 (by decide +kernel) rfl, by decide +kernel, rfl, fun h => by first | cases h; done | rfl⟩
set_option maxRecDepth 100000 in
theorem flX5_19 : z_FL RX5 19 5 1 := ⟨(RX5, TX5, 10), rfl, by decide, tb_in 201 (by decide +kernel) rfl⟩
set_option maxRecDepth 100000 in
theorem fpX5_19 : z_FP RX5 19 5 1 (.object RX0) true := ⟨(RX5, TX5, 10), rfl, by decide, tb_in 201 (by decide +kernel) rfl, by decide +kernel, rfl, fun h => by first | cases h; done | rfl⟩
set_option maxRecDepth 100000 in
theorem flX5_23 : z_FL RX5 23 5 2 := ⟨(RX5, TX5, 10), rfl, by decide, tb_in 202 (by decide +kernel) rfl⟩
set_option maxRecDepth 100000 in
theorem fpX5_23 : z_FP RX5 23 5 2 (.object RX0) true := ⟨(RX5, TX5, 10), rfl, by decide, tb_in 202 (by decide +kernel) rfl, by decide +kernel, rfl, fun h => by first | cases h; done | rfl⟩
set_option maxRecDepth 100000 in
theorem flX5_29 : z_FL RX5 29 5 3 := ⟨(RX5, TX5, 10), rfl, by decide, tb_in 203 (by decide +kernel) rfl⟩
set_option maxRecDepth 100000 in
theorem fpX5_29 : z_FP RX5 29 5 3 (.object RX1) true := ⟨(RX5, TX5, 10), rfl, by decide, tb_in 203 (by decide +kernel) rfl, by decide +kernel, rfl, fun h => by first | cases h; done | rfl⟩
set_option maxRecDepth 100000 in
theorem flX5_36 : z_FL RX5 36 5 4 := ⟨(RX5, TX5, 10), rfl, by decide, tb_in 204 (by decide +kernel) rfl⟩
set_option maxRecDepth 100000 in
theorem fpX5_36 : z_FP RX5 36 5 4 (.object RX3) true := ⟨(RX5, TX5, 10), rfl, by decide, tb_in 204 (by decide +kernel) rfl, by decide +kernel, rfl, fun h => by first | cases h; done | rfl⟩
set_option maxRecDepth 100000 in
theorem flX5_40 : z_FL RX5 40 5 5 := ⟨(RX5, TX5, 10), rfl, by decide, tb_in 205 (by decide +kernel) rfl⟩
set_option maxRecDepth 100000 in
theorem fpX5_40 : z_FP RX5 40 5 5 (.object RX1) true := ⟨(RX5, TX5, 10), rfl, by decide, tb_in 205 (by decide +kernel) rfl, by decide +kernel, rfl, fun h => by first | cases h; done | rfl⟩
set_option maxRecDepth 100000 in
theorem flX5_43 : z_FL RX5 43 5 6 := ⟨(RX5, TX5, 10), rfl, by decide, tb_in 206 (by decide +kernel) rfl⟩
set_option maxRecDepth 100000 in
theorem fpX5_43 : z_FP RX5 43 5 6 (.object RX1) true := ⟨(RX5, TX5, 10), rfl, by decide, tb_in 206 (by decide +kernel) rfl, by decide +kernel, rfl, fun h => by first | cases h; done | rfl⟩
set_option maxRecDepth 100000 in
theorem flX5_75 : z_FL RX5 75 5 7 := ⟨(RX5, TX5, 10), rfl, by decide, tb_in 207 (by decide +kernel) rfl⟩
set_option maxRecDepth 100000 in
theorem fpX5_75 : z_FP RX5 75 5 7 (.int) false := ⟨(RX5, TX5, 10), rfl, by decide, tb_in 207 (by decide +kernel) rfl, by decide +kernel, rfl, fun h => by first | cases h; done | rfl⟩
set_option maxRecDepth 100000 in
theorem flX5_49 : z_FL RX5 49 5 8 := ⟨(RX5, TX5, 10), rfl, by decide, tb_in 208 (by decide +kernel) rfl⟩
set_option maxRecDepth 100000 in
theorem fpX5_49 : z_FP RX5 49 5 8 (.object RX2) true := ⟨(RX5, TX5, 10), rfl, by decide, tb_in 208 (by decide +kernel) rfl, by decide +kernel, rfl, fun h => by first | cases h; done | rfl⟩
set_option maxRecDepth 100000 in
theorem flX5_231 : z_FL RX5 231 5 9 := ⟨(RX5, TX5, 10), rfl, by decide, tb_in 209 (by decide +kernel) rfl⟩
set_option maxRecDepth 100000 in
theorem fpX5_231 : z_FP RX5 231 5 9 (.long) false := ⟨(RX5, TX5, 10), rfl, by decide, tb_in 209 (by decide +kernel) rfl, by decide +kernel, rfl, fun h => by first | cases h; done | rfl⟩
set_option maxRecDepth 100000 in
theorem flX6_158 : z_FL RX6 158 6 0 := ⟨(RX6, TX6, 19), rfl, by decide, tb_in 665 (by decide +kernel) rfl⟩
set_option maxRecDepth 100000 in
theorem fpX6_158 : z_FP RX6 158 6 0 (.long) false := ⟨(RX6, TX6, 19), rfl, by decide, tb_in 665 (by decide +kernel) rfl, by decide +kernel, rfl, fun h => by first | cases h; done | rfl⟩
set_option maxRecDepth 100000 in
theorem flX6_7 : z_FL RX6 7 6 1 := ⟨(RX6, TX6, 19), rfl, by decide, tb_in 666 (by decide +kernel) rfl⟩
set_option maxRecDepth 100000 in
theorem fpX6_7 : z_FP RX6 7 6 1 (.array .int) true := ⟨(RX6, TX6, 19), rfl, by decide, tb_in 666 (by decide +kernel) rfl, by decide +kernel, rfl, fun h => by first | cases h; done | rfl⟩
set_option maxRecDepth 100000 in
theorem flX6_56 : z_FL RX6 56 6 2 := ⟨(RX6, TX6, 19), rfl, by decide, tb_in 667 (by decide +kernel) rfl⟩
set_option maxRecDepth 100000 in
theorem fpX6_56 : z_FP RX6 56 6 2 (.int) false := ⟨(RX6, TX6, 19), rfl, by decide, tb_in 667 (by decide +kernel) rfl, by decide +kernel, rfl, fun h => by first | cases h; done | rfl⟩
set_option maxRecDepth 100000 in
theorem flX6_13 : z_FL RX6 13 6 3 := ⟨(RX6, TX6, 19), rfl, by decide, tb_in 668 (by decide +kernel) rfl⟩
set_option maxRecDepth 100000 in
theorem fpX6_13 : z_FP RX6 13 6 3 (.array .int) true := ⟨(RX6, TX6, 19), rfl, by decide, tb_in 668 (by decide +kernel) rfl, by decide +kernel, rfl, fun h => by first | cases h; done | rfl⟩
set_option maxRecDepth 100000 in
theorem flX6_16 : z_FL RX6 16 6 4 := ⟨(RX6, TX6, 19), rfl, by decide, tb_in 669 (by decide +kernel) rfl⟩
set_option maxRecDepth 100000 in
theorem fpX6_16 : z_FP RX6 16 6 4 (.array .int) true := ⟨(RX6, TX6, 19), rfl, by decide, tb_in 669 (by decide +kernel) rfl, by decide +kernel, rfl, fun h => by first | cases h; done | rfl⟩
set_option maxRecDepth 100000 in
theorem flX6_19 : z_FL RX6 19 6 5 := ⟨(RX6, TX6, 19), rfl, by decide, tb_in 670 (by decide +kernel) rfl⟩
set_option maxRecDepth 100000 in
theorem fpX6_19 : z_FP RX6 19 6 5 (.array .int) true := ⟨(RX6, TX6, 19), rfl, by decide, tb_in 670 (by decide +kernel) rfl, by decide +kernel, rfl, fun h => by first | cases h; done | rfl⟩
set_option maxRecDepth 100000 in
theorem flX6_22 : z_FL RX6 22 6 6 := ⟨(RX6, TX6, 19), rfl, by decide, tb_in 671 (by decide +kernel) rfl⟩
set_option maxRecDepth 100000 in
theorem fpX6_22 : z_FP RX6 22 6 6 (.array .int) true := ⟨(RX6, TX6, 19), rfl, by decide, tb_in 671 (by decide +kernel) rfl, by decide +kernel, rfl, fun h => by first | cases h; done | rfl⟩
set_option maxRecDepth 100000 in
theorem flX6_92 : z_FL RX6 92 6 7 := ⟨(RX6, TX6, 19), rfl, by decide, tb_in 672 (by decide +kernel) rfl⟩
set_option maxRecDepth 100000 in
theorem fpX6_92 : z_FP RX6 92 6 7 (.int) false := ⟨(RX6, TX6, 19), rfl, by decide, tb_in 672 (by decide +kernel) rfl, by decide +kernel, rfl, fun h => by first | cases h; done | rfl⟩
set_option maxRecDepth 100000 in
theorem flX6_25 : z_FL RX6 25 6 8 := ⟨(RX6, TX6, 19), rfl, by decide, tb_in 673 (by decide +kernel) rfl⟩
set_option maxRecDepth 100000 in
theorem fpX6_25 : z_FP RX6 25 6 8 (.array .int) true := ⟨(RX6, TX6, 19), rfl, by decide, tb_in 673 (by decide +kernel) rfl, by decide +kernel, rfl, fun h => by first | cases h; done | rfl⟩
set_option maxRecDepth 100000 in
theorem flX6_28 : z_FL RX6 28 6 9 := ⟨(RX6, TX6, 19), rfl, by decide, tb_in 674 (by decide +kernel) rfl⟩
set_option maxRecDepth 100000 in
theorem fpX6_28 : z_FP RX6 28 6 9 (.array .boolean) true := ⟨(RX6, TX6, 19), rfl, by decide, tb_in 674 (by decide +kernel) rfl, by decide +kernel, rfl, fun h => by first | cases h; done | rfl⟩
set_option maxRecDepth 100000 in
theorem flX6_60 : z_FL RX6 60 6 10 := ⟨(RX6, TX6, 19), rfl, by decide, tb_in 675 (by decide +kernel) rfl⟩
set_option maxRecDepth 100000 in
theorem fpX6_60 : z_FP RX6 60 6 10 (.int) false := ⟨(RX6, TX6, 19), rfl, by decide, tb_in 675 (by decide +kernel) rfl, by decide +kernel, rfl, fun h => by first | cases h; done | rfl⟩
set_option maxRecDepth 100000 in
theorem flX6_74 : z_FL RX6 74 6 11 := ⟨(RX6, TX6, 19), rfl, by decide, tb_in 676 (by decide +kernel) rfl⟩
set_option maxRecDepth 100000 in
theorem fpX6_74 : z_FP RX6 74 6 11 (.int) false := ⟨(RX6, TX6, 19), rfl, by decide, tb_in 676 (by decide +kernel) rfl, by decide +kernel, rfl, fun h => by first | cases h; done | rfl⟩
set_option maxRecDepth 100000 in
theorem flX6_67 : z_FL RX6 67 6 12 := ⟨(RX6, TX6, 19), rfl, by decide, tb_in 677 (by decide +kernel) rfl⟩
set_option maxRecDepth 100000 in
theorem fpX6_67 : z_FP RX6 67 6 12 (.int) false := ⟨(RX6, TX6, 19), rfl, by decide, tb_in 677 (by decide +kernel) rfl, by decide +kernel, rfl, fun h => by first | cases h; done | rfl⟩
set_option maxRecDepth 100000 in
theorem flX6_77 : z_FL RX6 77 6 13 := ⟨(RX6, TX6, 19), rfl, by decide, tb_in 678 (by decide +kernel) rfl⟩
set_option maxRecDepth 100000 in
theorem fpX6_77 : z_FP RX6 77 6 13 (.int) false := ⟨(RX6, TX6, 19), rfl, by decide, tb_in 678 (by decide +kernel) rfl, by decide +kernel, rfl, fun h => by first | cases h; done | rfl⟩
set_option maxRecDepth 100000 in
theorem flX6_32 : z_FL RX6 32 6 14 := ⟨(RX6, TX6, 19), rfl, by decide, tb_in 679 (by decide +kernel) rfl⟩
set_option maxRecDepth 100000 in
theorem fpX6_32 : z_FP RX6 32 6 14 (.array .int) true := ⟨(RX6, TX6, 19), rfl, by decide, tb_in 679 (by decide +kernel) rfl, by decide +kernel, rfl, fun h => by first | cases h; done | rfl⟩
set_option maxRecDepth 100000 in
theorem flX6_124 : z_FL RX6 124 6 15 := ⟨(RX6, TX6, 19), rfl, by decide, tb_in 680 (by decide +kernel) rfl⟩
set_option maxRecDepth 100000 in
theorem fpX6_124 : z_FP RX6 124 6 15 (.int) false := ⟨(RX6, TX6, 19), rfl, by decide, tb_in 680 (by decide +kernel) rfl, by decide +kernel, rfl, fun h => by first | cases h; done | rfl⟩
set_option maxRecDepth 100000 in
theorem flX6_35 : z_FL RX6 35 6 16 := ⟨(RX6, TX6, 19), rfl, by decide, tb_in 681 (by decide +kernel) rfl⟩
set_option maxRecDepth 100000 in
theorem fpX6_35 : z_FP RX6 35 6 16 (.array .int) true := ⟨(RX6, TX6, 19), rfl, by decide, tb_in 681 (by decide +kernel) rfl, by decide +kernel, rfl, fun h => by first | cases h; done | rfl⟩
set_option maxRecDepth 100000 in
theorem flX6_38 : z_FL RX6 38 6 17 := ⟨(RX6, TX6, 19), rfl, by decide, tb_in 682 (by decide +kernel) rfl⟩
set_option maxRecDepth 100000 in
theorem fpX6_38 : z_FP RX6 38 6 17 (.array .int) true := ⟨(RX6, TX6, 19), rfl, by decide, tb_in 682 (by decide +kernel) rfl, by decide +kernel, rfl, fun h => by first | cases h; done | rfl⟩
set_option maxRecDepth 100000 in
theorem flX6_42 : z_FL RX6 42 6 18 := ⟨(RX6, TX6, 19), rfl, by decide, tb_in 683 (by decide +kernel) rfl⟩
set_option maxRecDepth 100000 in
theorem fpX6_42 : z_FP RX6 42 6 18 (.array .int) true := ⟨(RX6, TX6, 19), rfl, by decide, tb_in 683 (by decide +kernel) rfl, by decide +kernel, rfl, fun h => by first | cases h; done | rfl⟩
set_option maxRecDepth 100000 in
theorem ilL_9 : z_IL RL 9 mX5_init 0 := ⟨Or.inl (tb_in 59 (by decide +kernel) rfl), tb_in 60 (by decide +kernel) rfl, rfl, rfl, kiX5_init, kcX5_init, koX5_init⟩
set_option maxRecDepth 100000 in
theorem olX5_1 : z_OL RX5 1 := ⟨tb_in 62 (by decide +kernel) rfl, tb_in 63 (by decide +kernel) rfl, tb_in 64 (by decide +kernel) rfl⟩
set_option maxRecDepth 100000 in
theorem ilX5_9 : z_IL RX5 9 mX4_init 0 := ⟨Or.inr ⟨RX5, by decide +kernel⟩, tb_in 68 (by decide +kernel) rfl, rfl, rfl, kiX4_init, kcX4_init, koX4_init⟩
set_option maxRecDepth 100000 in
theorem olX4_3 : z_OL RX4 3 := ⟨tb_in 70 (by decide +kernel) rfl, tb_in 63 (by decide +kernel) rfl, tb_in 64 (by decide +kernel) rfl⟩
set_option maxRecDepth 100000 in
theorem ilX5_18 : z_IL RX5 18 mX0_init 0 := ⟨Or.inr ⟨RX5, by decide +kernel⟩, tb_in 95 (by decide +kernel) rfl, rfl, rfl, kiX0_init, kcX0_init, koX0_init⟩
set_option maxRecDepth 100000 in
theorem olX0_3 : z_OL RX0 3 := ⟨tb_in 97 (by decide +kernel) rfl, tb_in 63 (by decide +kernel) rfl, tb_in 64 (by decide +kernel) rfl⟩
set_option maxRecDepth 100000 in
theorem ilX5_28 : z_IL RX5 28 mX1_init 0 := ⟨Or.inl (tb_in 127 (by decide +kernel) rfl), tb_in 128 (by decide +kernel) rfl, rfl, rfl, kiX1_init, kcX1_init, koX1_init⟩
set_option maxRecDepth 100000 in
theorem olX1_3 : z_OL RX1 3 := ⟨tb_in 130 (by decide +kernel) rfl, tb_in 63 (by decide +kernel) rfl, tb_in 64 (by decide +kernel) rfl⟩
set_option maxRecDepth 100000 in
theorem slX1_18 : z_SL RX1 18 mJ7_fill_53178 2 := ⟨Or.inl (tb_in 131 (by decide +kernel) rfl), tb_in 132 (by decide +kernel) rfl, kiJ7_fill_53178, kcJ7_fill_53178, koJ7_fill_53178⟩
set_option maxRecDepth 100000 in
theorem ilX5_35 : z_IL RX5 35 mX3_init 0 := ⟨Or.inl (tb_in 156 (by decide +kernel) rfl), tb_in 157 (by decide +kernel) rfl, rfl, rfl, kiX3_init, kcX3_init, koX3_init⟩
set_option maxRecDepth 100000 in
theorem olX3_3 : z_OL RX3 3 := ⟨tb_in 159 (by decide +kernel) rfl, tb_in 63 (by decide +kernel) rfl, tb_in 64 (by decide +kernel) rfl⟩
set_option maxRecDepth 100000 in
theorem ilX3_17 : z_IL RX3 17 mX1_init 0 := ⟨Or.inl (tb_in 162 (by decide +kernel) rfl), tb_in 128 (by decide +kernel) rfl, rfl, rfl, kiX1_init, kcX1_init, koX1_init⟩
set_option maxRecDepth 100000 in
theorem ilX5_48 : z_IL RX5 48 mX2_init 0 := ⟨Or.inr ⟨RX5, by decide +kernel⟩, tb_in 177 (by decide +kernel) rfl, rfl, rfl, kiX2_init, kcX2_init, koX2_init⟩
set_option maxRecDepth 100000 in
theorem olX2_5 : z_OL RX2 5 := ⟨tb_in 179 (by decide +kernel) rfl, tb_in 63 (by decide +kernel) rfl, tb_in 64 (by decide +kernel) rfl⟩
set_option maxRecDepth 100000 in
theorem vlL_13 : z_VL RL 13 5 mX5_type 1 := ⟨⟨(RX5, TX5, 10), rfl, rfl⟩, tb_in 231 (by decide +kernel) rfl, tb_in 232 (by decide +kernel) rfl, tb_in 233 (by decide +kernel) rfl, kiX5_type, kcX5_type, koX5_type⟩
set_option maxRecDepth 100000 in
theorem vlX5_53 : z_VL RX5 53 4 mX4_append 1 := ⟨⟨(RX4, TX4, 6), rfl, rfl⟩, tb_in 235 (by decide +kernel) rfl, tb_in 236 (by decide +kernel) rfl, tb_in 237 (by decide +kernel) rfl, kiX4_append, kcX4_append, koX4_append⟩
set_option maxRecDepth 100000 in
theorem slX4_19 : z_SL RX4 19 mX5_put 3 := ⟨Or.inr ⟨RX5, by decide +kernel⟩, tb_in 240 (by decide +kernel) rfl, kiX5_put, kcX5_put, koX5_put⟩
set_option maxRecDepth 100000 in
theorem vlL_18 : z_VL RL 18 5 mX5_clear 0 := ⟨⟨(RX5, TX5, 10), rfl, rfl⟩, tb_in 242 (by decide +kernel) rfl, tb_in 243 (by decide +kernel) rfl, tb_in 244 (by decide +kernel) rfl, kiX5_clear, kcX5_clear, koX5_clear⟩
set_option maxRecDepth 100000 in
theorem vlL_23 : z_VL RL 23 5 mX5_crew 0 := ⟨⟨(RX5, TX5, 10), rfl, rfl⟩, tb_in 246 (by decide +kernel) rfl, tb_in 247 (by decide +kernel) rfl, tb_in 248 (by decide +kernel) rfl, kiX5_crew, kcX5_crew, koX5_crew⟩
set_option maxRecDepth 100000 in
theorem vlX5_61 : z_VL RX5 61 4 mX4_readInto 1 := ⟨⟨(RX4, TX4, 6), rfl, rfl⟩, tb_in 250 (by decide +kernel) rfl, tb_in 251 (by decide +kernel) rfl, tb_in 252 (by decide +kernel) rfl, kiX4_readInto, kcX4_readInto, koX4_readInto⟩
set_option maxRecDepth 100000 in
theorem vlX4_23 : z_VL RX4 23 0 mX0_restart 0 := ⟨⟨(RX0, TX0, 6), rfl, rfl⟩, tb_in 254 (by decide +kernel) rfl, tb_in 255 (by decide +kernel) rfl, tb_in 256 (by decide +kernel) rfl, kiX0_restart, kcX0_restart, koX0_restart⟩
set_option maxRecDepth 100000 in
theorem vlX4_38 : z_VL RX4 38 4 mX4_next 0 := ⟨⟨(RX4, TX4, 6), rfl, rfl⟩, tb_in 258 (by decide +kernel) rfl, tb_in 260 (by decide +kernel) rfl, tb_in 0 (by decide +kernel) rfl, kiX4_next, kcX4_next, koX4_next⟩
set_option maxRecDepth 100000 in
theorem slX4_76 : z_SL RX4 76 mX5_at 2 := ⟨Or.inr ⟨RX5, by decide +kernel⟩, tb_in 263 (by decide +kernel) rfl, kiX5_at, kcX5_at, koX5_at⟩
set_option maxRecDepth 100000 in
theorem slX4_80 : z_SL RX4 80 mX4_isDigit 1 := ⟨Or.inl (tb_in 265 (by decide +kernel) rfl), tb_in 266 (by decide +kernel) rfl, kiX4_isDigit, kcX4_isDigit, koX4_isDigit⟩
set_option maxRecDepth 100000 in
theorem vlX4_84 : z_VL RX4 84 4 mX4_nextNumber 0 := ⟨⟨(RX4, TX4, 6), rfl, rfl⟩, tb_in 268 (by decide +kernel) rfl, tb_in 270 (by decide +kernel) rfl, tb_in 1 (by decide +kernel) rfl, kiX4_nextNumber, kcX4_nextNumber, koX4_nextNumber⟩
set_option maxRecDepth 100000 in
theorem slX4_87 : z_SL RX4 87 mJ9_min_7cf53 2 := ⟨Or.inl (tb_in 272 (by decide +kernel) rfl), tb_in 273 (by decide +kernel) rfl, kiJ9_min_7cf53, kcJ9_min_7cf53, koJ9_min_7cf53⟩
set_option maxRecDepth 100000 in
theorem vlX4_42 : z_VL RX4 42 4 mX4_readSailor 1 := ⟨⟨(RX4, TX4, 6), rfl, rfl⟩, tb_in 275 (by decide +kernel) rfl, tb_in 277 (by decide +kernel) rfl, tb_in 2 (by decide +kernel) rfl, kiX4_readSailor, kcX4_readSailor, koX4_readSailor⟩
set_option maxRecDepth 100000 in
theorem vlX4_58 : z_VL RX4 58 4 mX4_numberFrom 2 := ⟨⟨(RX4, TX4, 6), rfl, rfl⟩, tb_in 279 (by decide +kernel) rfl, tb_in 281 (by decide +kernel) rfl, tb_in 3 (by decide +kernel) rfl, kiX4_numberFrom, kcX4_numberFrom, koX4_numberFrom⟩
set_option maxRecDepth 100000 in
theorem vlX4_62 : z_VL RX4 62 0 mX0_enlist 3 := ⟨⟨(RX0, TX0, 6), rfl, rfl⟩, tb_in 283 (by decide +kernel) rfl, tb_in 284 (by decide +kernel) rfl, tb_in 285 (by decide +kernel) rfl, kiX0_enlist, kcX0_enlist, koX0_enlist⟩
set_option maxRecDepth 100000 in
theorem slX0_31 : z_SL RX0 31 mX5_put 3 := ⟨Or.inr ⟨RX5, by decide +kernel⟩, tb_in 240 (by decide +kernel) rfl, kiX5_put, kcX5_put, koX5_put⟩
set_option maxRecDepth 100000 in
theorem vlX4_66 : z_VL RX4 66 4 mX4_itemEnds 0 := ⟨⟨(RX4, TX4, 6), rfl, rfl⟩, tb_in 288 (by decide +kernel) rfl, tb_in 290 (by decide +kernel) rfl, tb_in 4 (by decide +kernel) rfl, kiX4_itemEnds, kcX4_itemEnds, koX4_itemEnds⟩
set_option maxRecDepth 100000 in
theorem vlX4_46 : z_VL RX4 46 4 mX4_readDip 1 := ⟨⟨(RX4, TX4, 6), rfl, rfl⟩, tb_in 292 (by decide +kernel) rfl, tb_in 294 (by decide +kernel) rfl, tb_in 5 (by decide +kernel) rfl, kiX4_readDip, kcX4_readDip, koX4_readDip⟩
set_option maxRecDepth 100000 in
theorem vlX4_49 : z_VL RX4 49 4 mX4_readSeats 1 := ⟨⟨(RX4, TX4, 6), rfl, rfl⟩, tb_in 296 (by decide +kernel) rfl, tb_in 298 (by decide +kernel) rfl, tb_in 6 (by decide +kernel) rfl, kiX4_readSeats, kcX4_readSeats, koX4_readSeats⟩
set_option maxRecDepth 100000 in
theorem vlX5_65 : z_VL RX5 65 0 mX0_become 1 := ⟨⟨(RX0, TX0, 6), rfl, rfl⟩, tb_in 300 (by decide +kernel) rfl, tb_in 301 (by decide +kernel) rfl, tb_in 302 (by decide +kernel) rfl, kiX0_become, kcX0_become, koX0_become⟩
set_option maxRecDepth 100000 in
theorem vlX0_35 : z_VL RX0 35 0 mX0_restart 0 := ⟨⟨(RX0, TX0, 6), rfl, rfl⟩, tb_in 304 (by decide +kernel) rfl, tb_in 255 (by decide +kernel) rfl, tb_in 256 (by decide +kernel) rfl, kiX0_restart, kcX0_restart, koX0_restart⟩
set_option maxRecDepth 100000 in
theorem slX0_38 : z_SL RX0 38 mX5_at 2 := ⟨Or.inr ⟨RX5, by decide +kernel⟩, tb_in 263 (by decide +kernel) rfl, kiX5_at, kcX5_at, koX5_at⟩
set_option maxRecDepth 100000 in
theorem vlX0_42 : z_VL RX0 42 0 mX0_enlist 3 := ⟨⟨(RX0, TX0, 6), rfl, rfl⟩, tb_in 306 (by decide +kernel) rfl, tb_in 284 (by decide +kernel) rfl, tb_in 285 (by decide +kernel) rfl, kiX0_enlist, kcX0_enlist, koX0_enlist⟩
set_option maxRecDepth 100000 in
theorem vlX5_69 : z_VL RX5 69 1 mX1_restart 0 := ⟨⟨(RX1, TX1, 4), rfl, rfl⟩, tb_in 307 (by decide +kernel) rfl, tb_in 308 (by decide +kernel) rfl, tb_in 309 (by decide +kernel) rfl, kiX1_restart, kcX1_restart, koX1_restart⟩
set_option maxRecDepth 100000 in
theorem vlX5_72 : z_VL RX5 72 3 mX3_forget 0 := ⟨⟨(RX3, TX3, 3), rfl, rfl⟩, tb_in 311 (by decide +kernel) rfl, tb_in 312 (by decide +kernel) rfl, tb_in 313 (by decide +kernel) rfl, kiX3_forget, kcX3_forget, koX3_forget⟩
set_option maxRecDepth 100000 in
theorem vlL_27 : z_VL RL 27 5 mX5_sailor 2 := ⟨⟨(RX5, TX5, 10), rfl, rfl⟩, tb_in 315 (by decide +kernel) rfl, tb_in 316 (by decide +kernel) rfl, tb_in 317 (by decide +kernel) rfl, kiX5_sailor, kcX5_sailor, koX5_sailor⟩
set_option maxRecDepth 100000 in
theorem vlX5_78 : z_VL RX5 78 5 mX5_isSailor 1 := ⟨⟨(RX5, TX5, 10), rfl, rfl⟩, tb_in 319 (by decide +kernel) rfl, tb_in 321 (by decide +kernel) rfl, tb_in 7 (by decide +kernel) rfl, kiX5_isSailor, kcX5_isSailor, koX5_isSailor⟩
set_option maxRecDepth 100000 in
theorem slX5_85 : z_SL RX5 85 mX5_at 2 := ⟨Or.inl (tb_in 323 (by decide +kernel) rfl), tb_in 263 (by decide +kernel) rfl, kiX5_at, kcX5_at, koX5_at⟩
set_option maxRecDepth 100000 in
theorem vlX5_92 : z_VL RX5 92 0 mX0_trusted 1 := ⟨⟨(RX0, TX0, 6), rfl, rfl⟩, tb_in 324 (by decide +kernel) rfl, tb_in 325 (by decide +kernel) rfl, tb_in 326 (by decide +kernel) rfl, kiX0_trusted, kcX0_trusted, koX0_trusted⟩
set_option maxRecDepth 100000 in
theorem vlX0_46 : z_VL RX0 46 0 mX0_all 0 := ⟨⟨(RX0, TX0, 6), rfl, rfl⟩, tb_in 328 (by decide +kernel) rfl, tb_in 329 (by decide +kernel) rfl, tb_in 330 (by decide +kernel) rfl, kiX0_all, kcX0_all, koX0_all⟩
set_option maxRecDepth 100000 in
theorem slX5_99 : z_SL RX5 99 mX5_has 2 := ⟨Or.inl (tb_in 332 (by decide +kernel) rfl), tb_in 333 (by decide +kernel) rfl, kiX5_has, kcX5_has, koX5_has⟩
set_option maxRecDepth 100000 in
theorem vlX5_103 : z_VL RX5 103 1 mX1_seatOf 1 := ⟨⟨(RX1, TX1, 4), rfl, rfl⟩, tb_in 335 (by decide +kernel) rfl, tb_in 336 (by decide +kernel) rfl, tb_in 337 (by decide +kernel) rfl, kiX1_seatOf, kcX1_seatOf, koX1_seatOf⟩
set_option maxRecDepth 100000 in
theorem slX1_31 : z_SL RX1 31 mX5_at 2 := ⟨Or.inr ⟨RX5, by decide +kernel⟩, tb_in 263 (by decide +kernel) rfl, kiX5_at, kcX5_at, koX5_at⟩
set_option maxRecDepth 100000 in
theorem vlX5_106 : z_VL RX5 106 5 mX5_wouldSign 1 := ⟨⟨(RX5, TX5, 10), rfl, rfl⟩, tb_in 340 (by decide +kernel) rfl, tb_in 342 (by decide +kernel) rfl, tb_in 8 (by decide +kernel) rfl, kiX5_wouldSign, kcX5_wouldSign, koX5_wouldSign⟩
set_option maxRecDepth 100000 in
theorem vlX5_235 : z_VL RX5 235 0 mX0_isOnDeck 2 := ⟨⟨(RX0, TX0, 6), rfl, rfl⟩, tb_in 344 (by decide +kernel) rfl, tb_in 345 (by decide +kernel) rfl, tb_in 346 (by decide +kernel) rfl, kiX0_isOnDeck, kcX0_isOnDeck, koX0_isOnDeck⟩
set_option maxRecDepth 100000 in
theorem vlX5_238 : z_VL RX5 238 0 mX0_dares 2 := ⟨⟨(RX0, TX0, 6), rfl, rfl⟩, tb_in 348 (by decide +kernel) rfl, tb_in 349 (by decide +kernel) rfl, tb_in 350 (by decide +kernel) rfl, kiX0_dares, kcX0_dares, koX0_dares⟩
set_option maxRecDepth 100000 in
theorem slX0_50 : z_SL RX0 50 mJ6_bitCount_0f7a4 1 := ⟨Or.inl (tb_in 352 (by decide +kernel) rfl), tb_in 353 (by decide +kernel) rfl, kiJ6_bitCount_0f7a4, kcJ6_bitCount_0f7a4, koJ6_bitCount_0f7a4⟩
set_option maxRecDepth 100000 in
theorem vlX0_56 : z_VL RX0 56 0 mX0_trusted 1 := ⟨⟨(RX0, TX0, 6), rfl, rfl⟩, tb_in 358 (by decide +kernel) rfl, tb_in 325 (by decide +kernel) rfl, tb_in 326 (by decide +kernel) rfl, kiX0_trusted, kcX0_trusted, koX0_trusted⟩
set_option maxRecDepth 100000 in
theorem vlL_32 : z_VL RL 32 5 mX5_seat 2 := ⟨⟨(RX5, TX5, 10), rfl, rfl⟩, tb_in 359 (by decide +kernel) rfl, tb_in 360 (by decide +kernel) rfl, tb_in 361 (by decide +kernel) rfl, kiX5_seat, kcX5_seat, koX5_seat⟩
set_option maxRecDepth 100000 in
theorem vlX5_109 : z_VL RX5 109 5 mX5_isSeat 1 := ⟨⟨(RX5, TX5, 10), rfl, rfl⟩, tb_in 363 (by decide +kernel) rfl, tb_in 365 (by decide +kernel) rfl, tb_in 9 (by decide +kernel) rfl, kiX5_isSeat, kcX5_isSeat, koX5_isSeat⟩
set_option maxRecDepth 100000 in
theorem vlL_36 : z_VL RL 36 5 mX5_now 1 := ⟨⟨(RX5, TX5, 10), rfl, rfl⟩, tb_in 367 (by decide +kernel) rfl, tb_in 368 (by decide +kernel) rfl, tb_in 369 (by decide +kernel) rfl, kiX5_now, kcX5_now, koX5_now⟩
set_option maxRecDepth 100000 in
theorem vlX5_121 : z_VL RX5 121 1 mX1_there 0 := ⟨⟨(RX1, TX1, 4), rfl, rfl⟩, tb_in 371 (by decide +kernel) rfl, tb_in 372 (by decide +kernel) rfl, tb_in 373 (by decide +kernel) rfl, kiX1_there, kcX1_there, koX1_there⟩
set_option maxRecDepth 100000 in
theorem vlX5_125 : z_VL RX5 125 5 mX5_thoseWhoWould 0 := ⟨⟨(RX5, TX5, 10), rfl, rfl⟩, tb_in 375 (by decide +kernel) rfl, tb_in 377 (by decide +kernel) rfl, tb_in 10 (by decide +kernel) rfl, kiX5_thoseWhoWould, kcX5_thoseWhoWould, koX5_thoseWhoWould⟩
set_option maxRecDepth 100000 in
theorem vlL_40 : z_VL RL 40 5 mX5_signs 2 := ⟨⟨(RX5, TX5, 10), rfl, rfl⟩, tb_in 379 (by decide +kernel) rfl, tb_in 380 (by decide +kernel) rfl, tb_in 381 (by decide +kernel) rfl, kiX5_signs, kcX5_signs, koX5_signs⟩
set_option maxRecDepth 100000 in
theorem vlX5_131 : z_VL RX5 131 3 mX3_remember 1 := ⟨⟨(RX3, TX3, 3), rfl, rfl⟩, tb_in 383 (by decide +kernel) rfl, tb_in 384 (by decide +kernel) rfl, tb_in 385 (by decide +kernel) rfl, kiX3_remember, kcX3_remember, koX3_remember⟩
set_option maxRecDepth 100000 in
theorem vlX3_22 : z_VL RX3 22 3 mX3_slotAt 1 := ⟨⟨(RX3, TX3, 3), rfl, rfl⟩, tb_in 387 (by decide +kernel) rfl, tb_in 389 (by decide +kernel) rfl, tb_in 11 (by decide +kernel) rfl, kiX3_slotAt, kcX3_slotAt, koX3_slotAt⟩
set_option maxRecDepth 100000 in
theorem vlX3_26 : z_VL RX3 26 1 mX1_become 1 := ⟨⟨(RX1, TX1, 4), rfl, rfl⟩, tb_in 391 (by decide +kernel) rfl, tb_in 392 (by decide +kernel) rfl, tb_in 393 (by decide +kernel) rfl, kiX1_become, kcX1_become, koX1_become⟩
set_option maxRecDepth 100000 in
theorem vlX1_35 : z_VL RX1 35 1 mX1_write 3 := ⟨⟨(RX1, TX1, 4), rfl, rfl⟩, tb_in 395 (by decide +kernel) rfl, tb_in 396 (by decide +kernel) rfl, tb_in 397 (by decide +kernel) rfl, kiX1_write, kcX1_write, koX1_write⟩
set_option maxRecDepth 100000 in
theorem slX1_39 : z_SL RX1 39 mX5_put 3 := ⟨Or.inr ⟨RX5, by decide +kernel⟩, tb_in 240 (by decide +kernel) rfl, kiX5_put, kcX5_put, koX5_put⟩
set_option maxRecDepth 100000 in
theorem slX3_33 : z_SL RX3 33 mJ9_min_7cf53 2 := ⟨Or.inl (tb_in 400 (by decide +kernel) rfl), tb_in 273 (by decide +kernel) rfl, kiJ9_min_7cf53, kcJ9_min_7cf53, koJ9_min_7cf53⟩
set_option maxRecDepth 100000 in
theorem slX5_135 : z_SL RX5 135 mJ6_bitCount_0f7a4 1 := ⟨Or.inl (tb_in 401 (by decide +kernel) rfl), tb_in 353 (by decide +kernel) rfl, kiJ6_bitCount_0f7a4, kcJ6_bitCount_0f7a4, koJ6_bitCount_0f7a4⟩
set_option maxRecDepth 100000 in
theorem vlX5_140 : z_VL RX5 140 0 mX0_inkBehind 1 := ⟨⟨(RX0, TX0, 6), rfl, rfl⟩, tb_in 402 (by decide +kernel) rfl, tb_in 403 (by decide +kernel) rfl, tb_in 404 (by decide +kernel) rfl, kiX0_inkBehind, kcX0_inkBehind, koX0_inkBehind⟩
set_option maxRecDepth 100000 in
theorem vlX5_143 : z_VL RX5 143 1 mX1_write 3 := ⟨⟨(RX1, TX1, 4), rfl, rfl⟩, tb_in 406 (by decide +kernel) rfl, tb_in 396 (by decide +kernel) rfl, tb_in 397 (by decide +kernel) rfl, kiX1_write, kcX1_write, koX1_write⟩
set_option maxRecDepth 100000 in
theorem vlL_44 : z_VL RL 44 5 mX5_hour 0 := ⟨⟨(RX5, TX5, 10), rfl, rfl⟩, tb_in 407 (by decide +kernel) rfl, tb_in 408 (by decide +kernel) rfl, tb_in 409 (by decide +kernel) rfl, kiX5_hour, kcX5_hour, koX5_hour⟩
set_option maxRecDepth 100000 in
theorem vlL_48 : z_VL RL 48 5 mX5_scrape 1 := ⟨⟨(RX5, TX5, 10), rfl, rfl⟩, tb_in 411 (by decide +kernel) rfl, tb_in 412 (by decide +kernel) rfl, tb_in 413 (by decide +kernel) rfl, kiX5_scrape, kcX5_scrape, koX5_scrape⟩
set_option maxRecDepth 100000 in
theorem vlL_52 : z_VL RL 52 5 mX5_undo 0 := ⟨⟨(RX5, TX5, 10), rfl, rfl⟩, tb_in 415 (by decide +kernel) rfl, tb_in 416 (by decide +kernel) rfl, tb_in 417 (by decide +kernel) rfl, kiX5_undo, kcX5_undo, koX5_undo⟩
set_option maxRecDepth 100000 in
theorem vlX5_147 : z_VL RX5 147 3 mX3_giveBack 1 := ⟨⟨(RX3, TX3, 3), rfl, rfl⟩, tb_in 419 (by decide +kernel) rfl, tb_in 420 (by decide +kernel) rfl, tb_in 421 (by decide +kernel) rfl, kiX3_giveBack, kcX3_giveBack, koX3_giveBack⟩
set_option maxRecDepth 100000 in
theorem vlL_56 : z_VL RL 56 5 mX5_will 0 := ⟨⟨(RX5, TX5, 10), rfl, rfl⟩, tb_in 423 (by decide +kernel) rfl, tb_in 424 (by decide +kernel) rfl, tb_in 425 (by decide +kernel) rfl, kiX5_will, kcX5_will, koX5_will⟩
set_option maxRecDepth 100000 in
theorem vlX5_151 : z_VL RX5 151 0 mX0_signedInTheEnd 1 := ⟨⟨(RX0, TX0, 6), rfl, rfl⟩, tb_in 427 (by decide +kernel) rfl, tb_in 428 (by decide +kernel) rfl, tb_in 429 (by decide +kernel) rfl, kiX0_signedInTheEnd, kcX0_signedInTheEnd, koX0_signedInTheEnd⟩
set_option maxRecDepth 100000 in
theorem vlX0_59 : z_VL RX0 59 0 mX0_dares 2 := ⟨⟨(RX0, TX0, 6), rfl, rfl⟩, tb_in 431 (by decide +kernel) rfl, tb_in 349 (by decide +kernel) rfl, tb_in 350 (by decide +kernel) rfl, kiX0_dares, kcX0_dares, koX0_dares⟩
set_option maxRecDepth 100000 in
theorem vlL_60 : z_VL RL 60 5 mX5_begin 0 := ⟨⟨(RX5, TX5, 10), rfl, rfl⟩, tb_in 432 (by decide +kernel) rfl, tb_in 433 (by decide +kernel) rfl, tb_in 434 (by decide +kernel) rfl, kiX5_begin, kcX5_begin, koX5_begin⟩
set_option maxRecDepth 100000 in
theorem vlX5_154 : z_VL RX5 154 0 mX0_all 0 := ⟨⟨(RX0, TX0, 6), rfl, rfl⟩, tb_in 436 (by decide +kernel) rfl, tb_in 329 (by decide +kernel) rfl, tb_in 330 (by decide +kernel) rfl, kiX0_all, kcX0_all, koX0_all⟩
set_option maxRecDepth 100000 in
theorem vlL_64 : z_VL RL 64 5 mX5_orders 0 := ⟨⟨(RX5, TX5, 10), rfl, rfl⟩, tb_in 437 (by decide +kernel) rfl, tb_in 438 (by decide +kernel) rfl, tb_in 439 (by decide +kernel) rfl, kiX5_orders, kcX5_orders, koX5_orders⟩
set_option maxRecDepth 100000 in
theorem vlX5_157 : z_VL RX5 157 2 mX2_find 3 := ⟨⟨(RX2, TX2, 6), rfl, rfl⟩, tb_in 441 (by decide +kernel) rfl, tb_in 442 (by decide +kernel) rfl, tb_in 443 (by decide +kernel) rfl, kiX2_find, kcX2_find, koX2_find⟩
set_option maxRecDepth 100000 in
theorem slX2_37 : z_SL RX2 37 mX5_at 2 := ⟨Or.inr ⟨RX5, by decide +kernel⟩, tb_in 263 (by decide +kernel) rfl, kiX5_at, kcX5_at, koX5_at⟩
set_option maxRecDepth 100000 in
theorem slX2_42 : z_SL RX2 42 mX5_put 3 := ⟨Or.inr ⟨RX5, by decide +kernel⟩, tb_in 240 (by decide +kernel) rfl, kiX5_put, kcX5_put, koX5_put⟩
set_option maxRecDepth 100000 in
theorem slX2_47 : z_SL RX2 47 mX2_extend 6 := ⟨Or.inl (tb_in 448 (by decide +kernel) rfl), tb_in 449 (by decide +kernel) rfl, kiX2_extend, kcX2_extend, koX2_extend⟩
set_option maxRecDepth 100000 in
theorem vlX2_51 : z_VL RX2 51 2 mX2_add 1 := ⟨⟨(RX2, TX2, 6), rfl, rfl⟩, tb_in 451 (by decide +kernel) rfl, tb_in 453 (by decide +kernel) rfl, tb_in 12 (by decide +kernel) rfl, kiX2_add, kcX2_add, koX2_add⟩
set_option maxRecDepth 100000 in
theorem vlX2_55 : z_VL RX2 55 0 mX0_inkBehind 1 := ⟨⟨(RX0, TX0, 6), rfl, rfl⟩, tb_in 455 (by decide +kernel) rfl, tb_in 403 (by decide +kernel) rfl, tb_in 404 (by decide +kernel) rfl, kiX0_inkBehind, kcX0_inkBehind, koX0_inkBehind⟩
set_option maxRecDepth 100000 in
theorem slX2_61 : z_SL RX2 61 mX5_has 2 := ⟨Or.inr ⟨RX5, by decide +kernel⟩, tb_in 333 (by decide +kernel) rfl, kiX5_has, kcX5_has, koX5_has⟩
set_option maxRecDepth 100000 in
theorem vlX2_65 : z_VL RX2 65 0 mX0_dares 2 := ⟨⟨(RX0, TX0, 6), rfl, rfl⟩, tb_in 457 (by decide +kernel) rfl, tb_in 349 (by decide +kernel) rfl, tb_in 350 (by decide +kernel) rfl, kiX0_dares, kcX0_dares, koX0_dares⟩
set_option maxRecDepth 100000 in
theorem vlX2_68 : z_VL RX2 68 0 mX0_isOnDeck 2 := ⟨⟨(RX0, TX0, 6), rfl, rfl⟩, tb_in 458 (by decide +kernel) rfl, tb_in 345 (by decide +kernel) rfl, tb_in 346 (by decide +kernel) rfl, kiX0_isOnDeck, kcX0_isOnDeck, koX0_isOnDeck⟩
set_option maxRecDepth 100000 in
theorem vlL_68 : z_VL RL 68 5 mX5_first 0 := ⟨⟨(RX5, TX5, 10), rfl, rfl⟩, tb_in 459 (by decide +kernel) rfl, tb_in 460 (by decide +kernel) rfl, tb_in 461 (by decide +kernel) rfl, kiX5_first, kcX5_first, koX5_first⟩
set_option maxRecDepth 100000 in
theorem vlX5_162 : z_VL RX5 162 2 mX2_firsts 0 := ⟨⟨(RX2, TX2, 6), rfl, rfl⟩, tb_in 463 (by decide +kernel) rfl, tb_in 464 (by decide +kernel) rfl, tb_in 465 (by decide +kernel) rfl, kiX2_firsts, kcX2_firsts, koX2_firsts⟩
set_option maxRecDepth 100000 in
theorem slX2_71 : z_SL RX2 71 mX2_firstOf 1 := ⟨Or.inl (tb_in 467 (by decide +kernel) rfl), tb_in 468 (by decide +kernel) rfl, kiX2_firstOf, kcX2_firstOf, koX2_firstOf⟩
set_option maxRecDepth 100000 in
theorem vlL_72 : z_VL RL 72 5 mX5_sure 1 := ⟨⟨(RX5, TX5, 10), rfl, rfl⟩, tb_in 470 (by decide +kernel) rfl, tb_in 471 (by decide +kernel) rfl, tb_in 472 (by decide +kernel) rfl, kiX5_sure, kcX5_sure, koX5_sure⟩
set_option maxRecDepth 100000 in
theorem vlX5_165 : z_VL RX5 165 5 mX5_isThere 1 := ⟨⟨(RX5, TX5, 10), rfl, rfl⟩, tb_in 474 (by decide +kernel) rfl, tb_in 476 (by decide +kernel) rfl, tb_in 13 (by decide +kernel) rfl, kiX5_isThere, kcX5_isThere, koX5_isThere⟩
set_option maxRecDepth 100000 in
theorem vlX5_168 : z_VL RX5 168 2 mX2_alwaysAheadOf 1 := ⟨⟨(RX2, TX2, 6), rfl, rfl⟩, tb_in 478 (by decide +kernel) rfl, tb_in 479 (by decide +kernel) rfl, tb_in 480 (by decide +kernel) rfl, kiX2_alwaysAheadOf, kcX2_alwaysAheadOf, koX2_alwaysAheadOf⟩
set_option maxRecDepth 100000 in
theorem vlX2_77 : z_VL RX2 77 2 mX2_aheadOf 2 := ⟨⟨(RX2, TX2, 6), rfl, rfl⟩, tb_in 482 (by decide +kernel) rfl, tb_in 484 (by decide +kernel) rfl, tb_in 14 (by decide +kernel) rfl, kiX2_aheadOf, kcX2_aheadOf, koX2_aheadOf⟩
set_option maxRecDepth 100000 in
theorem slX2_81 : z_SL RX2 81 mX2_placeOf 2 := ⟨Or.inl (tb_in 486 (by decide +kernel) rfl), tb_in 487 (by decide +kernel) rfl, kiX2_placeOf, kcX2_placeOf, koX2_placeOf⟩
set_option maxRecDepth 100000 in
theorem vlL_76 : z_VL RL 76 5 mX5_chance 2 := ⟨⟨(RX5, TX5, 10), rfl, rfl⟩, tb_in 489 (by decide +kernel) rfl, tb_in 490 (by decide +kernel) rfl, tb_in 491 (by decide +kernel) rfl, kiX5_chance, kcX5_chance, koX5_chance⟩
set_option maxRecDepth 100000 in
theorem slX5_171 : z_SL RX5 171 mX5_isPart 1 := ⟨Or.inl (tb_in 493 (by decide +kernel) rfl), tb_in 494 (by decide +kernel) rfl, kiX5_isPart, kcX5_isPart, koX5_isPart⟩
set_option maxRecDepth 100000 in
theorem vlX5_174 : z_VL RX5 174 2 mX2_timesFirst 1 := ⟨⟨(RX2, TX2, 6), rfl, rfl⟩, tb_in 496 (by decide +kernel) rfl, tb_in 497 (by decide +kernel) rfl, tb_in 498 (by decide +kernel) rfl, kiX2_timesFirst, kcX2_timesFirst, koX2_timesFirst⟩
set_option maxRecDepth 100000 in
theorem slX5_177 : z_SL RX5 177 mJ9_max_7cf53 2 := ⟨Or.inl (tb_in 500 (by decide +kernel) rfl), tb_in 501 (by decide +kernel) rfl, kiJ9_max_7cf53, kcJ9_max_7cf53, koJ9_max_7cf53⟩
set_option maxRecDepth 100000 in
theorem slX5_183 : z_SL RX5 183 mX5_inLeastTerms 3 := ⟨Or.inl (tb_in 503 (by decide +kernel) rfl), tb_in 504 (by decide +kernel) rfl, kiX5_inLeastTerms, kcX5_inLeastTerms, koX5_inLeastTerms⟩
set_option maxRecDepth 100000 in
theorem slX5_254 : z_SL RX5 254 mX5_commonDivisor 2 := ⟨Or.inl (tb_in 506 (by decide +kernel) rfl), tb_in 507 (by decide +kernel) rfl, kiX5_commonDivisor, kcX5_commonDivisor, koX5_commonDivisor⟩
set_option maxRecDepth 100000 in
theorem vlL_80 : z_VL RL 80 5 mX5_ask 0 := ⟨⟨(RX5, TX5, 10), rfl, rfl⟩, tb_in 509 (by decide +kernel) rfl, tb_in 510 (by decide +kernel) rfl, tb_in 511 (by decide +kernel) rfl, kiX5_ask, kcX5_ask, koX5_ask⟩
set_option maxRecDepth 100000 in
theorem vlX5_187 : z_VL RX5 187 2 mX2_fewestToAsk 0 := ⟨⟨(RX2, TX2, 6), rfl, rfl⟩, tb_in 513 (by decide +kernel) rfl, tb_in 514 (by decide +kernel) rfl, tb_in 515 (by decide +kernel) rfl, kiX2_fewestToAsk, kcX2_fewestToAsk, koX2_fewestToAsk⟩
set_option maxRecDepth 100000 in
theorem slX2_84 : z_SL RX2 84 mJ7_fill_53178 2 := ⟨Or.inl (tb_in 517 (by decide +kernel) rfl), tb_in 132 (by decide +kernel) rfl, kiJ7_fill_53178, kcJ7_fill_53178, koJ7_fill_53178⟩
set_option maxRecDepth 100000 in
theorem slX2_90 : z_SL RX2 90 mJ6_bitCount_0f7a4 1 := ⟨Or.inl (tb_in 518 (by decide +kernel) rfl), tb_in 353 (by decide +kernel) rfl, kiJ6_bitCount_0f7a4, kcJ6_bitCount_0f7a4, koJ6_bitCount_0f7a4⟩
set_option maxRecDepth 100000 in
theorem vlX2_95 : z_VL RX2 95 2 mX2_tellWhoWasFirst 1 := ⟨⟨(RX2, TX2, 6), rfl, rfl⟩, tb_in 519 (by decide +kernel) rfl, tb_in 521 (by decide +kernel) rfl, tb_in 15 (by decide +kernel) rfl, kiX2_tellWhoWasFirst, kcX2_tellWhoWasFirst, koX2_tellWhoWasFirst⟩
set_option maxRecDepth 100000 in
theorem vlX2_99 : z_VL RX2 99 2 mX2_rankOfPlaces 2 := ⟨⟨(RX2, TX2, 6), rfl, rfl⟩, tb_in 523 (by decide +kernel) rfl, tb_in 525 (by decide +kernel) rfl, tb_in 16 (by decide +kernel) rfl, kiX2_rankOfPlaces, kcX2_rankOfPlaces, koX2_rankOfPlaces⟩
set_option maxRecDepth 100000 in
theorem vlL_84 : z_VL RL 84 5 mX5_hang 0 := ⟨⟨(RX5, TX5, 10), rfl, rfl⟩, tb_in 527 (by decide +kernel) rfl, tb_in 528 (by decide +kernel) rfl, tb_in 529 (by decide +kernel) rfl, kiX5_hang, kcX5_hang, koX5_hang⟩
set_option maxRecDepth 100000 in
theorem vlX5_190 : z_VL RX5 190 2 mX2_likeliestFirst 0 := ⟨⟨(RX2, TX2, 6), rfl, rfl⟩, tb_in 531 (by decide +kernel) rfl, tb_in 532 (by decide +kernel) rfl, tb_in 533 (by decide +kernel) rfl, kiX2_likeliestFirst, kcX2_likeliestFirst, koX2_likeliestFirst⟩
set_option maxRecDepth 100000 in
theorem vlX2_74 : z_VL RX2 74 2 mX2_timesFirst 1 := ⟨⟨(RX2, TX2, 6), rfl, rfl⟩, tb_in 535 (by decide +kernel) rfl, tb_in 497 (by decide +kernel) rfl, tb_in 498 (by decide +kernel) rfl, kiX2_timesFirst, kcX2_timesFirst, koX2_timesFirst⟩
set_option maxRecDepth 100000 in
theorem vlL_88 : z_VL RL 88 5 mX5_shift 1 := ⟨⟨(RX5, TX5, 10), rfl, rfl⟩, tb_in 536 (by decide +kernel) rfl, tb_in 537 (by decide +kernel) rfl, tb_in 538 (by decide +kernel) rfl, kiX5_shift, kcX5_shift, koX5_shift⟩
set_option maxRecDepth 100000 in
theorem vlL_92 : z_VL RL 92 5 mX5_odds 3 := ⟨⟨(RX5, TX5, 10), rfl, rfl⟩, tb_in 540 (by decide +kernel) rfl, tb_in 541 (by decide +kernel) rfl, tb_in 542 (by decide +kernel) rfl, kiX5_odds, kcX5_odds, koX5_odds⟩
set_option maxRecDepth 100000 in
theorem slX5_193 : z_SL RX5 193 mX5_power 2 := ⟨Or.inl (tb_in 544 (by decide +kernel) rfl), tb_in 545 (by decide +kernel) rfl, kiX5_power, kcX5_power, koX5_power⟩
set_option maxRecDepth 100000 in
theorem vlL_97 : z_VL RL 97 5 mX5_bold 1 := ⟨⟨(RX5, TX5, 10), rfl, rfl⟩, tb_in 547 (by decide +kernel) rfl, tb_in 548 (by decide +kernel) rfl, tb_in 549 (by decide +kernel) rfl, kiX5_bold, kcX5_bold, koX5_bold⟩
set_option maxRecDepth 100000 in
theorem vlL_101 : z_VL RL 101 5 mX5_clique 1 := ⟨⟨(RX5, TX5, 10), rfl, rfl⟩, tb_in 551 (by decide +kernel) rfl, tb_in 552 (by decide +kernel) rfl, tb_in 553 (by decide +kernel) rfl, kiX5_clique, kcX5_clique, koX5_clique⟩
set_option maxRecDepth 100000 in
theorem vlX5_197 : z_VL RX5 197 0 mX0_largestClique 0 := ⟨⟨(RX0, TX0, 6), rfl, rfl⟩, tb_in 555 (by decide +kernel) rfl, tb_in 556 (by decide +kernel) rfl, tb_in 557 (by decide +kernel) rfl, kiX0_largestClique, kcX0_largestClique, koX0_largestClique⟩
set_option maxRecDepth 100000 in
theorem vlX0_63 : z_VL RX0 63 0 mX0_isClique 1 := ⟨⟨(RX0, TX0, 6), rfl, rfl⟩, tb_in 559 (by decide +kernel) rfl, tb_in 561 (by decide +kernel) rfl, tb_in 17 (by decide +kernel) rfl, kiX0_isClique, kcX0_isClique, koX0_isClique⟩
set_option maxRecDepth 100000 in
theorem slX0_67 : z_SL RX0 67 mX5_has 2 := ⟨Or.inr ⟨RX5, by decide +kernel⟩, tb_in 333 (by decide +kernel) rfl, kiX5_has, kcX5_has, koX5_has⟩
set_option maxRecDepth 100000 in
theorem vlL_105 : z_VL RL 105 5 mX5_rate 2 := ⟨⟨(RX5, TX5, 10), rfl, rfl⟩, tb_in 564 (by decide +kernel) rfl, tb_in 565 (by decide +kernel) rfl, tb_in 566 (by decide +kernel) rfl, kiX5_rate, kcX5_rate, koX5_rate⟩
set_option maxRecDepth 100000 in
theorem vlX5_201 : z_VL RX5 201 5 mX5_asSailor 1 := ⟨⟨(RX5, TX5, 10), rfl, rfl⟩, tb_in 569 (by decide +kernel) rfl, tb_in 571 (by decide +kernel) rfl, tb_in 18 (by decide +kernel) rfl, kiX5_asSailor, kcX5_asSailor, koX5_asSailor⟩
set_option maxRecDepth 100000 in
theorem vlX5_204 : z_VL RX5 204 5 mX5_asCook 1 := ⟨⟨(RX5, TX5, 10), rfl, rfl⟩, tb_in 573 (by decide +kernel) rfl, tb_in 575 (by decide +kernel) rfl, tb_in 19 (by decide +kernel) rfl, kiX5_asCook, kcX5_asCook, koX5_asCook⟩
set_option maxRecDepth 100000 in
theorem vlX5_243 : z_VL RX5 243 1 mX1_inkOf 1 := ⟨⟨(RX1, TX1, 4), rfl, rfl⟩, tb_in 578 (by decide +kernel) rfl, tb_in 579 (by decide +kernel) rfl, tb_in 580 (by decide +kernel) rfl, kiX1_inkOf, kcX1_inkOf, koX1_inkOf⟩
set_option maxRecDepth 100000 in
theorem vlX1_43 : z_VL RX1 43 1 mX1_seatOf 1 := ⟨⟨(RX1, TX1, 4), rfl, rfl⟩, tb_in 582 (by decide +kernel) rfl, tb_in 336 (by decide +kernel) rfl, tb_in 337 (by decide +kernel) rfl, kiX1_seatOf, kcX1_seatOf, koX1_seatOf⟩
set_option maxRecDepth 100000 in
theorem vlX5_207 : z_VL RX5 207 5 mX5_asMate 1 := ⟨⟨(RX5, TX5, 10), rfl, rfl⟩, tb_in 583 (by decide +kernel) rfl, tb_in 585 (by decide +kernel) rfl, tb_in 20 (by decide +kernel) rfl, kiX5_asMate, kcX5_asMate, koX5_asMate⟩
set_option maxRecDepth 100000 in
theorem vlX5_210 : z_VL RX5 210 5 mX5_asBosun 1 := ⟨⟨(RX5, TX5, 10), rfl, rfl⟩, tb_in 588 (by decide +kernel) rfl, tb_in 590 (by decide +kernel) rfl, tb_in 21 (by decide +kernel) rfl, kiX5_asBosun, kcX5_asBosun, koX5_asBosun⟩
set_option maxRecDepth 100000 in
theorem vlX5_213 : z_VL RX5 213 5 mX5_asGunner 1 := ⟨⟨(RX5, TX5, 10), rfl, rfl⟩, tb_in 593 (by decide +kernel) rfl, tb_in 595 (by decide +kernel) rfl, tb_in 22 (by decide +kernel) rfl, kiX5_asGunner, kcX5_asGunner, koX5_asGunner⟩
set_option maxRecDepth 100000 in
theorem vlX5_216 : z_VL RX5 216 5 mX5_asBoy 1 := ⟨⟨(RX5, TX5, 10), rfl, rfl⟩, tb_in 598 (by decide +kernel) rfl, tb_in 600 (by decide +kernel) rfl, tb_in 23 (by decide +kernel) rfl, kiX5_asBoy, kcX5_asBoy, koX5_asBoy⟩
set_option maxRecDepth 100000 in
theorem vlL_109 : z_VL RL 109 5 mX5_keep 1 := ⟨⟨(RX5, TX5, 10), rfl, rfl⟩, tb_in 603 (by decide +kernel) rfl, tb_in 604 (by decide +kernel) rfl, tb_in 605 (by decide +kernel) rfl, kiX5_keep, kcX5_keep, koX5_keep⟩
set_option maxRecDepth 100000 in
theorem vlX5_219 : z_VL RX5 219 5 mX5_imageAt 1 := ⟨⟨(RX5, TX5, 10), rfl, rfl⟩, tb_in 607 (by decide +kernel) rfl, tb_in 609 (by decide +kernel) rfl, tb_in 24 (by decide +kernel) rfl, kiX5_imageAt, kcX5_imageAt, koX5_imageAt⟩
set_option maxRecDepth 100000 in
theorem vlX5_223 : z_VL RX5 223 1 mX1_become 1 := ⟨⟨(RX1, TX1, 4), rfl, rfl⟩, tb_in 611 (by decide +kernel) rfl, tb_in 392 (by decide +kernel) rfl, tb_in 393 (by decide +kernel) rfl, kiX1_become, kcX1_become, koX1_become⟩
set_option maxRecDepth 100000 in
theorem vlL_113 : z_VL RL 113 5 mX5_back 1 := ⟨⟨(RX5, TX5, 10), rfl, rfl⟩, tb_in 612 (by decide +kernel) rfl, tb_in 613 (by decide +kernel) rfl, tb_in 614 (by decide +kernel) rfl, kiX5_back, kcX5_back, koX5_back⟩
set_option maxRecDepth 100000 in
theorem vlL_117 : z_VL RL 117 5 mX5_count 1 := ⟨⟨(RX5, TX5, 10), rfl, rfl⟩, tb_in 616 (by decide +kernel) rfl, tb_in 617 (by decide +kernel) rfl, tb_in 618 (by decide +kernel) rfl, kiX5_count, kcX5_count, koX5_count⟩
set_option maxRecDepth 100000 in
theorem vlL_121 : z_VL RL 121 5 mX5_trace 0 := ⟨⟨(RX5, TX5, 10), rfl, rfl⟩, tb_in 620 (by decide +kernel) rfl, tb_in 621 (by decide +kernel) rfl, tb_in 622 (by decide +kernel) rfl, kiX5_trace, kcX5_trace, koX5_trace⟩
set_option maxRecDepth 100000 in
theorem ilL_12 : z_IL RL 12 mX6_init 0 := ⟨Or.inl (tb_in 626 (by decide +kernel) rfl), tb_in 627 (by decide +kernel) rfl, rfl, rfl, kiX6_init, kcX6_init, koX6_init⟩
set_option maxRecDepth 100000 in
theorem olX6_1 : z_OL RX6 1 := ⟨tb_in 629 (by decide +kernel) rfl, tb_in 63 (by decide +kernel) rfl, tb_in 64 (by decide +kernel) rfl⟩
set_option maxRecDepth 100000 in
theorem vlX6_45 : z_VL RX6 45 6 mX6_reads 0 := ⟨⟨(RX6, TX6, 19), rfl, rfl⟩, tb_in 631 (by decide +kernel) rfl, tb_in 633 (by decide +kernel) rfl, tb_in 25 (by decide +kernel) rfl, kiX6_reads, kcX6_reads, koX6_reads⟩
set_option maxRecDepth 100000 in
theorem vlX6_80 : z_VL RX6 80 6 mX6_token 0 := ⟨⟨(RX6, TX6, 19), rfl, rfl⟩, tb_in 635 (by decide +kernel) rfl, tb_in 637 (by decide +kernel) rfl, tb_in 26 (by decide +kernel) rfl, kiX6_token, kcX6_token, koX6_token⟩
set_option maxRecDepth 100000 in
theorem vlX6_63 : z_VL RX6 63 6 mX6_letterAt 1 := ⟨⟨(RX6, TX6, 19), rfl, rfl⟩, tb_in 639 (by decide +kernel) rfl, tb_in 641 (by decide +kernel) rfl, tb_in 27 (by decide +kernel) rfl, kiX6_letterAt, kcX6_letterAt, koX6_letterAt⟩
set_option maxRecDepth 100000 in
theorem slX6_70 : z_SL RX6 70 mX6_isDigit 1 := ⟨Or.inl (tb_in 643 (by decide +kernel) rfl), tb_in 644 (by decide +kernel) rfl, kiX6_isDigit, kcX6_isDigit, koX6_isDigit⟩
set_option maxRecDepth 100000 in
theorem slX6_52 : z_SL RX6 52 mX6_in 3 := ⟨Or.inl (tb_in 646 (by decide +kernel) rfl), tb_in 647 (by decide +kernel) rfl, kiX6_in, kcX6_in, koX6_in⟩
set_option maxRecDepth 100000 in
theorem vlX6_89 : z_VL RX6 89 6 mX6_readsItem 0 := ⟨⟨(RX6, TX6, 19), rfl, rfl⟩, tb_in 649 (by decide +kernel) rfl, tb_in 651 (by decide +kernel) rfl, tb_in 28 (by decide +kernel) rfl, kiX6_readsItem, kcX6_readsItem, koX6_readsItem⟩
set_option maxRecDepth 100000 in
theorem vlX6_83 : z_VL RX6 83 6 mX6_number 3 := ⟨⟨(RX6, TX6, 19), rfl, rfl⟩, tb_in 653 (by decide +kernel) rfl, tb_in 655 (by decide +kernel) rfl, tb_in 29 (by decide +kernel) rfl, kiX6_number, kcX6_number, koX6_number⟩
set_option maxRecDepth 100000 in
theorem vlX6_86 : z_VL RX6 86 6 mX6_once 3 := ⟨⟨(RX6, TX6, 19), rfl, rfl⟩, tb_in 657 (by decide +kernel) rfl, tb_in 659 (by decide +kernel) rfl, tb_in 30 (by decide +kernel) rfl, kiX6_once, kcX6_once, koX6_once⟩
set_option maxRecDepth 100000 in
theorem vlX6_49 : z_VL RX6 49 6 mX6_tells 0 := ⟨⟨(RX6, TX6, 19), rfl, rfl⟩, tb_in 661 (by decide +kernel) rfl, tb_in 663 (by decide +kernel) rfl, tb_in 31 (by decide +kernel) rfl, kiX6_tells, kcX6_tells, koX6_tells⟩
set_option maxRecDepth 100000 in
theorem vlL_17 : z_VL RL 17 6 mX6_type 1 := ⟨⟨(RX6, TX6, 19), rfl, rfl⟩, tb_in 724 (by decide +kernel) rfl, tb_in 725 (by decide +kernel) rfl, tb_in 726 (by decide +kernel) rfl, kiX6_type, kcX6_type, koX6_type⟩
set_option maxRecDepth 100000 in
theorem vlL_22 : z_VL RL 22 6 mX6_clear 0 := ⟨⟨(RX6, TX6, 19), rfl, rfl⟩, tb_in 728 (by decide +kernel) rfl, tb_in 729 (by decide +kernel) rfl, tb_in 730 (by decide +kernel) rfl, kiX6_clear, kcX6_clear, koX6_clear⟩
set_option maxRecDepth 100000 in
theorem vlL_26 : z_VL RL 26 6 mX6_crew 0 := ⟨⟨(RX6, TX6, 19), rfl, rfl⟩, tb_in 732 (by decide +kernel) rfl, tb_in 733 (by decide +kernel) rfl, tb_in 734 (by decide +kernel) rfl, kiX6_crew, kcX6_crew, koX6_crew⟩
set_option maxRecDepth 100000 in
theorem vlL_31 : z_VL RL 31 6 mX6_sailor 2 := ⟨⟨(RX6, TX6, 19), rfl, rfl⟩, tb_in 736 (by decide +kernel) rfl, tb_in 737 (by decide +kernel) rfl, tb_in 738 (by decide +kernel) rfl, kiX6_sailor, kcX6_sailor, koX6_sailor⟩
set_option maxRecDepth 100000 in
theorem vlX6_102 : z_VL RX6 102 6 mX6_isSailor 1 := ⟨⟨(RX6, TX6, 19), rfl, rfl⟩, tb_in 740 (by decide +kernel) rfl, tb_in 742 (by decide +kernel) rfl, tb_in 32 (by decide +kernel) rfl, kiX6_isSailor, kcX6_isSailor, koX6_isSailor⟩
set_option maxRecDepth 100000 in
theorem vlX6_105 : z_VL RX6 105 6 mX6_seatOf 1 := ⟨⟨(RX6, TX6, 19), rfl, rfl⟩, tb_in 744 (by decide +kernel) rfl, tb_in 746 (by decide +kernel) rfl, tb_in 33 (by decide +kernel) rfl, kiX6_seatOf, kcX6_seatOf, koX6_seatOf⟩
set_option maxRecDepth 100000 in
theorem vlX6_108 : z_VL RX6 108 6 mX6_wouldNow 1 := ⟨⟨(RX6, TX6, 19), rfl, rfl⟩, tb_in 748 (by decide +kernel) rfl, tb_in 750 (by decide +kernel) rfl, tb_in 34 (by decide +kernel) rfl, kiX6_wouldNow, kcX6_wouldNow, koX6_wouldNow⟩
set_option maxRecDepth 100000 in
theorem vlX6_98 : z_VL RX6 98 6 mX6_would 2 := ⟨⟨(RX6, TX6, 19), rfl, rfl⟩, tb_in 752 (by decide +kernel) rfl, tb_in 754 (by decide +kernel) rfl, tb_in 35 (by decide +kernel) rfl, kiX6_would, kcX6_would, koX6_would⟩
set_option maxRecDepth 100000 in
theorem slX6_95 : z_SL RX6 95 mX6_ones 1 := ⟨Or.inl (tb_in 756 (by decide +kernel) rfl), tb_in 757 (by decide +kernel) rfl, kiX6_ones, kcX6_ones, koX6_ones⟩
set_option maxRecDepth 100000 in
theorem vlL_35 : z_VL RL 35 6 mX6_seat 2 := ⟨⟨(RX6, TX6, 19), rfl, rfl⟩, tb_in 759 (by decide +kernel) rfl, tb_in 760 (by decide +kernel) rfl, tb_in 761 (by decide +kernel) rfl, kiX6_seat, kcX6_seat, koX6_seat⟩
set_option maxRecDepth 100000 in
theorem vlX6_111 : z_VL RX6 111 6 mX6_isSeat 1 := ⟨⟨(RX6, TX6, 19), rfl, rfl⟩, tb_in 763 (by decide +kernel) rfl, tb_in 765 (by decide +kernel) rfl, tb_in 36 (by decide +kernel) rfl, kiX6_isSeat, kcX6_isSeat, koX6_isSeat⟩
set_option maxRecDepth 100000 in
theorem vlL_39 : z_VL RL 39 6 mX6_now 1 := ⟨⟨(RX6, TX6, 19), rfl, rfl⟩, tb_in 767 (by decide +kernel) rfl, tb_in 768 (by decide +kernel) rfl, tb_in 769 (by decide +kernel) rfl, kiX6_now, kcX6_now, koX6_now⟩
set_option maxRecDepth 100000 in
theorem vlX6_114 : z_VL RX6 114 6 mX6_there 0 := ⟨⟨(RX6, TX6, 19), rfl, rfl⟩, tb_in 771 (by decide +kernel) rfl, tb_in 773 (by decide +kernel) rfl, tb_in 37 (by decide +kernel) rfl, kiX6_there, kcX6_there, koX6_there⟩
set_option maxRecDepth 100000 in
theorem vlL_43 : z_VL RL 43 6 mX6_signs 2 := ⟨⟨(RX6, TX6, 19), rfl, rfl⟩, tb_in 775 (by decide +kernel) rfl, tb_in 776 (by decide +kernel) rfl, tb_in 777 (by decide +kernel) rfl, kiX6_signs, kcX6_signs, koX6_signs⟩
set_option maxRecDepth 100000 in
theorem vlX6_118 : z_VL RX6 118 6 mX6_keeps 0 := ⟨⟨(RX6, TX6, 19), rfl, rfl⟩, tb_in 779 (by decide +kernel) rfl, tb_in 781 (by decide +kernel) rfl, tb_in 38 (by decide +kernel) rfl, kiX6_keeps, kcX6_keeps, koX6_keeps⟩
set_option maxRecDepth 100000 in
theorem vlL_47 : z_VL RL 47 6 mX6_hour 0 := ⟨⟨(RX6, TX6, 19), rfl, rfl⟩, tb_in 783 (by decide +kernel) rfl, tb_in 784 (by decide +kernel) rfl, tb_in 785 (by decide +kernel) rfl, kiX6_hour, kcX6_hour, koX6_hour⟩
set_option maxRecDepth 100000 in
theorem vlL_51 : z_VL RL 51 6 mX6_scrape 1 := ⟨⟨(RX6, TX6, 19), rfl, rfl⟩, tb_in 787 (by decide +kernel) rfl, tb_in 788 (by decide +kernel) rfl, tb_in 789 (by decide +kernel) rfl, kiX6_scrape, kcX6_scrape, koX6_scrape⟩
set_option maxRecDepth 100000 in
theorem vlL_55 : z_VL RL 55 6 mX6_undo 0 := ⟨⟨(RX6, TX6, 19), rfl, rfl⟩, tb_in 791 (by decide +kernel) rfl, tb_in 792 (by decide +kernel) rfl, tb_in 793 (by decide +kernel) rfl, kiX6_undo, kcX6_undo, koX6_undo⟩
set_option maxRecDepth 100000 in
theorem vlL_59 : z_VL RL 59 6 mX6_will 0 := ⟨⟨(RX6, TX6, 19), rfl, rfl⟩, tb_in 795 (by decide +kernel) rfl, tb_in 796 (by decide +kernel) rfl, tb_in 797 (by decide +kernel) rfl, kiX6_will, kcX6_will, koX6_will⟩
set_option maxRecDepth 100000 in
theorem vlX6_121 : z_VL RX6 121 6 mX6_closed 1 := ⟨⟨(RX6, TX6, 19), rfl, rfl⟩, tb_in 799 (by decide +kernel) rfl, tb_in 801 (by decide +kernel) rfl, tb_in 39 (by decide +kernel) rfl, kiX6_closed, kcX6_closed, koX6_closed⟩
set_option maxRecDepth 100000 in
theorem vlL_63 : z_VL RL 63 6 mX6_begin 0 := ⟨⟨(RX6, TX6, 19), rfl, rfl⟩, tb_in 803 (by decide +kernel) rfl, tb_in 804 (by decide +kernel) rfl, tb_in 805 (by decide +kernel) rfl, kiX6_begin, kcX6_begin, koX6_begin⟩
set_option maxRecDepth 100000 in
theorem vlL_67 : z_VL RL 67 6 mX6_orders 0 := ⟨⟨(RX6, TX6, 19), rfl, rfl⟩, tb_in 807 (by decide +kernel) rfl, tb_in 808 (by decide +kernel) rfl, tb_in 809 (by decide +kernel) rfl, kiX6_orders, kcX6_orders, koX6_orders⟩
set_option maxRecDepth 100000 in
theorem vlX6_130 : z_VL RX6 130 6 mX6_lays 1 := ⟨⟨(RX6, TX6, 19), rfl, rfl⟩, tb_in 811 (by decide +kernel) rfl, tb_in 813 (by decide +kernel) rfl, tb_in 40 (by decide +kernel) rfl, kiX6_lays, kcX6_lays, koX6_lays⟩
set_option maxRecDepth 100000 in
theorem vlX6_127 : z_VL RX6 127 6 mX6_inkOf 1 := ⟨⟨(RX6, TX6, 19), rfl, rfl⟩, tb_in 815 (by decide +kernel) rfl, tb_in 817 (by decide +kernel) rfl, tb_in 41 (by decide +kernel) rfl, kiX6_inkOf, kcX6_inkOf, koX6_inkOf⟩
set_option maxRecDepth 100000 in
theorem vlL_71 : z_VL RL 71 6 mX6_first 0 := ⟨⟨(RX6, TX6, 19), rfl, rfl⟩, tb_in 819 (by decide +kernel) rfl, tb_in 820 (by decide +kernel) rfl, tb_in 821 (by decide +kernel) rfl, kiX6_first, kcX6_first, koX6_first⟩
set_option maxRecDepth 100000 in
theorem vlX6_138 : z_VL RX6 138 6 mX6_firsts 1 := ⟨⟨(RX6, TX6, 19), rfl, rfl⟩, tb_in 823 (by decide +kernel) rfl, tb_in 825 (by decide +kernel) rfl, tb_in 42 (by decide +kernel) rfl, kiX6_firsts, kcX6_firsts, koX6_firsts⟩
set_option maxRecDepth 100000 in
theorem slX6_134 : z_SL RX6 134 mX6_of 2 := ⟨Or.inl (tb_in 827 (by decide +kernel) rfl), tb_in 828 (by decide +kernel) rfl, kiX6_of, kcX6_of, koX6_of⟩
set_option maxRecDepth 100000 in
theorem vlL_75 : z_VL RL 75 6 mX6_sure 1 := ⟨⟨(RX6, TX6, 19), rfl, rfl⟩, tb_in 830 (by decide +kernel) rfl, tb_in 831 (by decide +kernel) rfl, tb_in 832 (by decide +kernel) rfl, kiX6_sure, kcX6_sure, koX6_sure⟩
set_option maxRecDepth 100000 in
theorem vlX6_141 : z_VL RX6 141 6 mX6_isThere 1 := ⟨⟨(RX6, TX6, 19), rfl, rfl⟩, tb_in 834 (by decide +kernel) rfl, tb_in 836 (by decide +kernel) rfl, tb_in 43 (by decide +kernel) rfl, kiX6_isThere, kcX6_isThere, koX6_isThere⟩
set_option maxRecDepth 100000 in
theorem slX6_144 : z_SL RX6 144 mX6_placeIn 3 := ⟨Or.inl (tb_in 838 (by decide +kernel) rfl), tb_in 839 (by decide +kernel) rfl, kiX6_placeIn, kcX6_placeIn, koX6_placeIn⟩
set_option maxRecDepth 100000 in
theorem vlL_79 : z_VL RL 79 6 mX6_chance 2 := ⟨⟨(RX6, TX6, 19), rfl, rfl⟩, tb_in 841 (by decide +kernel) rfl, tb_in 842 (by decide +kernel) rfl, tb_in 843 (by decide +kernel) rfl, kiX6_chance, kcX6_chance, koX6_chance⟩
set_option maxRecDepth 100000 in
theorem vlX6_148 : z_VL RX6 148 6 mX6_leads 1 := ⟨⟨(RX6, TX6, 19), rfl, rfl⟩, tb_in 845 (by decide +kernel) rfl, tb_in 847 (by decide +kernel) rfl, tb_in 44 (by decide +kernel) rfl, kiX6_leads, kcX6_leads, koX6_leads⟩
set_option maxRecDepth 100000 in
theorem slX6_151 : z_SL RX6 151 mX6_common 2 := ⟨Or.inl (tb_in 849 (by decide +kernel) rfl), tb_in 850 (by decide +kernel) rfl, kiX6_common, kcX6_common, koX6_common⟩
set_option maxRecDepth 100000 in
theorem vlL_83 : z_VL RL 83 6 mX6_ask 0 := ⟨⟨(RX6, TX6, 19), rfl, rfl⟩, tb_in 852 (by decide +kernel) rfl, tb_in 853 (by decide +kernel) rfl, tb_in 854 (by decide +kernel) rfl, kiX6_ask, kcX6_ask, koX6_ask⟩
set_option maxRecDepth 100000 in
theorem vlX6_154 : z_VL RX6 154 6 mX6_isKnown 2 := ⟨⟨(RX6, TX6, 19), rfl, rfl⟩, tb_in 856 (by decide +kernel) rfl, tb_in 858 (by decide +kernel) rfl, tb_in 45 (by decide +kernel) rfl, kiX6_isKnown, kcX6_isKnown, koX6_isKnown⟩
set_option maxRecDepth 100000 in
theorem vlL_87 : z_VL RL 87 6 mX6_hang 0 := ⟨⟨(RX6, TX6, 19), rfl, rfl⟩, tb_in 860 (by decide +kernel) rfl, tb_in 861 (by decide +kernel) rfl, tb_in 862 (by decide +kernel) rfl, kiX6_hang, kcX6_hang, koX6_hang⟩
set_option maxRecDepth 100000 in
theorem vlL_91 : z_VL RL 91 6 mX6_shift 1 := ⟨⟨(RX6, TX6, 19), rfl, rfl⟩, tb_in 864 (by decide +kernel) rfl, tb_in 865 (by decide +kernel) rfl, tb_in 866 (by decide +kernel) rfl, kiX6_shift, kcX6_shift, koX6_shift⟩
set_option maxRecDepth 100000 in
theorem vlL_96 : z_VL RL 96 6 mX6_odds 3 := ⟨⟨(RX6, TX6, 19), rfl, rfl⟩, tb_in 868 (by decide +kernel) rfl, tb_in 869 (by decide +kernel) rfl, tb_in 870 (by decide +kernel) rfl, kiX6_odds, kcX6_odds, koX6_odds⟩
set_option maxRecDepth 100000 in
theorem vlL_100 : z_VL RL 100 6 mX6_bold 1 := ⟨⟨(RX6, TX6, 19), rfl, rfl⟩, tb_in 872 (by decide +kernel) rfl, tb_in 873 (by decide +kernel) rfl, tb_in 874 (by decide +kernel) rfl, kiX6_bold, kcX6_bold, koX6_bold⟩
set_option maxRecDepth 100000 in
theorem vlL_104 : z_VL RL 104 6 mX6_clique 1 := ⟨⟨(RX6, TX6, 19), rfl, rfl⟩, tb_in 876 (by decide +kernel) rfl, tb_in 877 (by decide +kernel) rfl, tb_in 878 (by decide +kernel) rfl, kiX6_clique, kcX6_clique, koX6_clique⟩
set_option maxRecDepth 100000 in
theorem vlL_108 : z_VL RL 108 6 mX6_rate 2 := ⟨⟨(RX6, TX6, 19), rfl, rfl⟩, tb_in 880 (by decide +kernel) rfl, tb_in 881 (by decide +kernel) rfl, tb_in 882 (by decide +kernel) rfl, kiX6_rate, kcX6_rate, koX6_rate⟩
set_option maxRecDepth 100000 in
theorem vlL_112 : z_VL RL 112 6 mX6_keep 1 := ⟨⟨(RX6, TX6, 19), rfl, rfl⟩, tb_in 890 (by decide +kernel) rfl, tb_in 891 (by decide +kernel) rfl, tb_in 892 (by decide +kernel) rfl, kiX6_keep, kcX6_keep, koX6_keep⟩
set_option maxRecDepth 100000 in
theorem vlL_116 : z_VL RL 116 6 mX6_back 1 := ⟨⟨(RX6, TX6, 19), rfl, rfl⟩, tb_in 894 (by decide +kernel) rfl, tb_in 895 (by decide +kernel) rfl, tb_in 896 (by decide +kernel) rfl, kiX6_back, kcX6_back, koX6_back⟩
set_option maxRecDepth 100000 in
theorem vlL_120 : z_VL RL 120 6 mX6_count 1 := ⟨⟨(RX6, TX6, 19), rfl, rfl⟩, tb_in 898 (by decide +kernel) rfl, tb_in 899 (by decide +kernel) rfl, tb_in 900 (by decide +kernel) rfl, kiX6_count, kcX6_count, koX6_count⟩
set_option maxRecDepth 100000 in
theorem vlL_125 : z_VL RL 125 6 mX6_trace 0 := ⟨⟨(RX6, TX6, 19), rfl, rfl⟩, tb_in 902 (by decide +kernel) rfl, tb_in 903 (by decide +kernel) rfl, tb_in 904 (by decide +kernel) rfl, kiX6_trace, kcX6_trace, koX6_trace⟩
set_option maxRecDepth 100000 in
theorem nlL_7 : z_NL RL 7 5 [.inr none, .inr none, .inr none, .inr none, .inr none, .inr none, .inr none, .inl 0, .inr none, .inl 1] 10 := ⟨(RX5, TX5, 10), rfl, rfl, rfl, tb_in 57 (by decide +kernel) rfl, tb_in 58 (by decide +kernel) rfl, tb_in 47 (by decide +kernel) rfl, rfl, by decide +kernel⟩
set_option maxRecDepth 100000 in
theorem klL_7 : Cond.classLink RL 7 RX5 ∈ tb := tb_in 57 (by decide +kernel) rfl
set_option maxRecDepth 100000 in
theorem nlX5_7 : z_NL RX5 7 4 [.inr none, .inl 0, .inl 0, .inl 0, .inl 0, .inl 0] 6 := ⟨(RX4, TX4, 6), rfl, rfl, rfl, tb_in 65 (by decide +kernel) rfl, tb_in 66 (by decide +kernel) rfl, tb_in 48 (by decide +kernel) rfl, rfl, by decide +kernel⟩
set_option maxRecDepth 100000 in
theorem klX5_7 : Cond.classLink RX5 7 RX4 ∈ tb := tb_in 65 (by decide +kernel) rfl
set_option maxRecDepth 100000 in
theorem nlX5_16 : z_NL RX5 16 0 [.inr none, .inr none, .inr none, .inl 0, .inl 0, .inl 0] 6 := ⟨(RX0, TX0, 6), rfl, rfl, rfl, tb_in 92 (by decide +kernel) rfl, tb_in 93 (by decide +kernel) rfl, tb_in 49 (by decide +kernel) rfl, rfl, by decide +kernel⟩
set_option maxRecDepth 100000 in
theorem klX5_16 : Cond.classLink RX5 16 RX0 ∈ tb := tb_in 92 (by decide +kernel) rfl
set_option maxRecDepth 100000 in
theorem nlX5_26 : z_NL RX5 26 1 [.inr none, .inr none, .inl 0, .inl 0] 4 := ⟨(RX1, TX1, 4), rfl, rfl, rfl, tb_in 125 (by decide +kernel) rfl, tb_in 126 (by decide +kernel) rfl, tb_in 50 (by decide +kernel) rfl, rfl, by decide +kernel⟩
set_option maxRecDepth 100000 in
theorem klX5_26 : Cond.classLink RX5 26 RX1 ∈ tb := tb_in 125 (by decide +kernel) rfl
set_option maxRecDepth 100000 in
theorem nlX5_33 : z_NL RX5 33 3 [.inr none, .inl 0, .inl 0] 3 := ⟨(RX3, TX3, 3), rfl, rfl, rfl, tb_in 154 (by decide +kernel) rfl, tb_in 155 (by decide +kernel) rfl, tb_in 52 (by decide +kernel) rfl, rfl, by decide +kernel⟩
set_option maxRecDepth 100000 in
theorem klX5_33 : Cond.classLink RX5 33 RX3 ∈ tb := tb_in 154 (by decide +kernel) rfl
set_option maxRecDepth 100000 in
theorem nlX3_9 : z_NL RX3 9 1 [.inr none, .inr none, .inl 0, .inl 0] 4 := ⟨(RX1, TX1, 4), rfl, rfl, rfl, tb_in 160 (by decide +kernel) rfl, tb_in 126 (by decide +kernel) rfl, tb_in 50 (by decide +kernel) rfl, rfl, by decide +kernel⟩
set_option maxRecDepth 100000 in
theorem klX3_9 : Cond.classLink RX3 9 RX1 ∈ tb := tb_in 160 (by decide +kernel) rfl
set_option maxRecDepth 100000 in
theorem nlX5_46 : z_NL RX5 46 2 [.inr none, .inr none, .inr none, .inl 0, .inl 0, .inl 0] 6 := ⟨(RX2, TX2, 6), rfl, rfl, rfl, tb_in 174 (by decide +kernel) rfl, tb_in 175 (by decide +kernel) rfl, tb_in 53 (by decide +kernel) rfl, rfl, by decide +kernel⟩
set_option maxRecDepth 100000 in
theorem klX5_46 : Cond.classLink RX5 46 RX2 ∈ tb := tb_in 174 (by decide +kernel) rfl
set_option maxRecDepth 100000 in
theorem kkJ6_265 : Cond.constant RJ6 265 (1431655765) ∈ tb := tb_in 355 (by decide +kernel) rfl
set_option maxRecDepth 100000 in
theorem kkJ6_266 : Cond.constant RJ6 266 (858993459) ∈ tb := tb_in 356 (by decide +kernel) rfl
set_option maxRecDepth 100000 in
theorem kkJ6_267 : Cond.constant RJ6 267 (252645135) ∈ tb := tb_in 357 (by decide +kernel) rfl
set_option maxRecDepth 100000 in
theorem kkX2_46 : Cond.constant RX2 46 (14680064) ∈ tb := tb_in 447 (by decide +kernel) rfl
set_option maxRecDepth 100000 in
theorem kkX5_200 : Cond.constant RX5 200 (-1000000) ∈ tb := tb_in 568 (by decide +kernel) rfl
set_option maxRecDepth 100000 in
theorem kkX5_241 : Cond.constantLong RX5 241 (10) ∈ tb := tb_in 577 (by decide +kernel) rfl
set_option maxRecDepth 100000 in
theorem kkX5_246 : Cond.constantLong RX5 246 (100) ∈ tb := tb_in 587 (by decide +kernel) rfl
set_option maxRecDepth 100000 in
theorem kkX5_248 : Cond.constantLong RX5 248 (1000) ∈ tb := tb_in 592 (by decide +kernel) rfl
set_option maxRecDepth 100000 in
theorem kkX5_250 : Cond.constantLong RX5 250 (10000) ∈ tb := tb_in 597 (by decide +kernel) rfl
set_option maxRecDepth 100000 in
theorem kkX5_252 : Cond.constantLong RX5 252 (100000) ∈ tb := tb_in 602 (by decide +kernel) rfl
set_option maxRecDepth 100000 in
theorem nlL_10 : z_NL RL 10 6 [.inl 1, .inr none, .inl 0, .inr none, .inr none, .inr none, .inr none, .inl 0, .inr none, .inr none, .inl 0, .inl 0, .inl 0, .inl 0, .inr none, .inl 0, .inr none, .inr none, .inr none] 19 := ⟨(RX6, TX6, 19), rfl, rfl, rfl, tb_in 624 (by decide +kernel) rfl, tb_in 625 (by decide +kernel) rfl, tb_in 54 (by decide +kernel) rfl, rfl, by decide +kernel⟩
set_option maxRecDepth 100000 in
theorem klL_10 : Cond.classLink RL 10 RX6 ∈ tb := tb_in 624 (by decide +kernel) rfl
set_option maxRecDepth 100000 in
theorem kkX6_41 : Cond.constant RX6 41 (32768) ∈ tb := tb_in 630 (by decide +kernel) rfl
set_option maxRecDepth 100000 in
theorem kkX6_157 : Cond.constant RX6 157 (-1000000) ∈ tb := tb_in 884 (by decide +kernel) rfl
set_option maxRecDepth 100000 in
theorem kkX6_162 : Cond.constantLong RX6 162 (11) ∈ tb := tb_in 885 (by decide +kernel) rfl
set_option maxRecDepth 100000 in
theorem kkX6_164 : Cond.constantLong RX6 164 (101) ∈ tb := tb_in 886 (by decide +kernel) rfl
set_option maxRecDepth 100000 in
theorem kkX6_166 : Cond.constantLong RX6 166 (1011) ∈ tb := tb_in 887 (by decide +kernel) rfl
set_option maxRecDepth 100000 in
theorem kkX6_168 : Cond.constantLong RX6 168 (10101) ∈ tb := tb_in 888 (by decide +kernel) rfl
set_option maxRecDepth 100000 in
theorem kkX6_170 : Cond.constantLong RX6 170 (100001) ∈ tb := tb_in 889 (by decide +kernel) rfl
set_option maxRecDepth 100000 in
theorem ka_int : Cond.arrayClass .int ∈ tb := tb_in 91 (by decide +kernel) rfl
set_option maxRecDepth 100000 in
theorem ka_boolean : Cond.arrayClass .boolean ∈ tb := tb_in 723 (by decide +kernel) rfl
end
section
/-! the forms of contracts: what a method answers -/
def z_pi (Q : Int32 → zW → Prop) : Option Value → zW → Prop := fun r w => ∃ v, r = some (.int v) ∧ Q v w
def z_pl (Q : Int64 → zW → Prop) : Option Value → zW → Prop := fun r w => ∃ v, r = some (.long v) ∧ Q v w
def z_pv (Q : zW → Prop) : Option Value → zW → Prop := fun r w => r = none ∧ Q w
def z_pr' (Q : Nat → zW → Prop) : Option Value → zW → Prop := fun r w => ∃ v, r = some (.ref v) ∧ Q v w
section ZQ
variable {Γ : zG} {K : zK} {kc ks : Nat} {w : zW} {pc : Nat} {L Lr : List (Option Value)} {st : List Value} {cc : ByteArray} {own : String} {nL : Nat}
theorem g_reti {isI : Bool} {P : Int32 → zW → Prop} (M : z_M Γ K cc own nL (some .int) isI (z_pi P)) {v : Int32} (hd : decode cc pc = .ok (.ireturn, 1)) (hP : P v w) : GG Γ K kc ks w pc L [.int v] := g_ireturn M hd ⟨v, rfl, hP⟩
theorem z_nar (b : Bool) : narrow .boolean (.int (nI b.toNat)) = .int (nI b.toNat) := by cases b <;> decide
theorem g_retb {isI : Bool} {P : Int32 → zW → Prop} (M : z_M Γ K cc own nL (some .boolean) isI (z_pi P)) {b : Bool} (hd : decode cc pc = .ok (.ireturn, 1)) (hP : P (nI b.toNat) w) : GG Γ K kc ks w pc L [.int (nI b.toNat)] := g_zreturn M (z_nar b) hd ⟨_, rfl, hP⟩
theorem g_ret1 {isI : Bool} {P : Int32 → zW → Prop} (M : z_M Γ K cc own nL (some .boolean) isI (z_pi P)) (hd : decode cc pc = .ok (.ireturn, 1)) (hP : P (nI 1) w) : GG Γ K kc ks w pc L [.int (nI 1)] := g_retb (b := true) M hd hP
theorem g_ret0 {isI : Bool} {P : Int32 → zW → Prop} (M : z_M Γ K cc own nL (some .boolean) isI (z_pi P)) (hd : decode cc pc = .ok (.ireturn, 1)) (hP : P (nI 0) w) : GG Γ K kc ks w pc L [.int (nI 0)] := g_retb (b := false) M hd hP
theorem g_retl {isI : Bool} {P : Int64 → zW → Prop} (M : z_M Γ K cc own nL (some .long) isI (z_pl P)) {v : Int64} (hd : decode cc pc = .ok (.lreturn, 1)) (hP : P v w) : GG Γ K kc ks w pc L [.long v] := g_lreturn M hd ⟨v, rfl, hP⟩
theorem g_retv {isI : Bool} {P : zW → Prop} (M : z_M Γ K cc own nL none isI (z_pv P)) (hd : decode cc pc = .ok (.return_, 1)) (hP : P w) : GG Γ K kc ks w pc L [] := g_return M hd ⟨rfl, hP⟩
theorem g_reta {isI : Bool} {N : String} {P : Nat → zW → Prop} (M : z_M Γ K cc own nL (some (.object N)) isI (z_pr' P)) {q : Nat} (hd : decode cc pc = .ok (.areturn, 1)) (hP : P q w) : GG Γ K kc ks w pc L [.ref q] := g_areturn M hd ⟨q, rfl, hP⟩
theorem g_if_eqB (C : z_C Γ K cc own nL) {off : Int} {b : Bool} (tgt : Nat) (hd : decode cc pc = .ok (.ifCond .eq off, 3)) (ht : (pc : Int) + off = (tgt : Int)) (kt : b = false → GG Γ K kc ks w tgt L st) (kf : b = true → GG Γ K kc ks w (pc + 3) L st) : GG Γ K kc ks w pc L (.int (nI b.toNat) :: st) := g_if_eqN C tgt (by cases b <;> decide) hd ht (fun h => kt (by cases b <;> simp_all)) (fun h => kf (by cases b <;> simp_all))
theorem g_if_neB (C : z_C Γ K cc own nL) {off : Int} {b : Bool} (tgt : Nat) (hd : decode cc pc = .ok (.ifCond .ne off, 3)) (ht : (pc : Int) + off = (tgt : Int)) (kt : b = true → GG Γ K kc ks w tgt L st) (kf : b = false → GG Γ K kc ks w (pc + 3) L st) : GG Γ K kc ks w pc L (.int (nI b.toNat) :: st) := g_if_neN C tgt (by cases b <;> decide) hd ht (fun h => kt (by cases b <;> simp_all)) (fun h => kf (by cases b <;> simp_all))
theorem g_callV0i (C : z_C Γ K cc own nL)  {idx ci k d d' : Nat} {μ : zM} {fs : List zF} {P : Int32 → zW → Prop} (hd : decode cc pc = .ok (.invokevirtual idx, 3)) (hl : z_VL own idx ci μ 0) (hS : Sp Γ d' μ [.ref k] 0 0 w (z_pi P)) (hKd : z_d K = d) (hdd : d' < d) (hL : L.length = nL) (hW : (st.map fun v => v.category).sum ≤ 8) (hk : k < w.1) (hs : w.2.1 k = .inr (ci, fs)) (kk : ∀ v w', P v w' → GG Γ K kc ks w' (pc + 3) L (.int v :: st)) : GG Γ K kc ks w pc L (.ref k :: st) := g_callV0 C hd hl hS hKd hdd hL hW hk hs (fun r w' ⟨v, e, h⟩ => by subst e; exact kk v w' h)
theorem g_callV0l (C : z_C Γ K cc own nL)  {idx ci k d d' : Nat} {μ : zM} {fs : List zF} {P : Int64 → zW → Prop} (hd : decode cc pc = .ok (.invokevirtual idx, 3)) (hl : z_VL own idx ci μ 0) (hS : Sp Γ d' μ [.ref k] 0 0 w (z_pl P)) (hKd : z_d K = d) (hdd : d' < d) (hL : L.length = nL) (hW : (st.map fun v => v.category).sum ≤ 8) (hk : k < w.1) (hs : w.2.1 k = .inr (ci, fs)) (kk : ∀ v w', P v w' → GG Γ K kc ks w' (pc + 3) L (.long v :: st)) : GG Γ K kc ks w pc L (.ref k :: st) := g_callV0 C hd hl hS hKd hdd hL hW hk hs (fun r w' ⟨v, e, h⟩ => by subst e; exact kk v w' h)
theorem g_callV0r (C : z_C Γ K cc own nL)  {idx ci k d d' : Nat} {μ : zM} {fs : List zF} {P : Nat → zW → Prop} (hd : decode cc pc = .ok (.invokevirtual idx, 3)) (hl : z_VL own idx ci μ 0) (hS : Sp Γ d' μ [.ref k] 0 0 w (z_pr' P)) (hKd : z_d K = d) (hdd : d' < d) (hL : L.length = nL) (hW : (st.map fun v => v.category).sum ≤ 8) (hk : k < w.1) (hs : w.2.1 k = .inr (ci, fs)) (kk : ∀ v w', P v w' → GG Γ K kc ks w' (pc + 3) L (.ref v :: st)) : GG Γ K kc ks w pc L (.ref k :: st) := g_callV0 C hd hl hS hKd hdd hL hW hk hs (fun r w' ⟨v, e, h⟩ => by subst e; exact kk v w' h)
theorem g_callV0v (C : z_C Γ K cc own nL)  {idx ci k d d' : Nat} {μ : zM} {fs : List zF} {P : zW → Prop} (hd : decode cc pc = .ok (.invokevirtual idx, 3)) (hl : z_VL own idx ci μ 0) (hS : Sp Γ d' μ [.ref k] 0 0 w (z_pv P)) (hKd : z_d K = d) (hdd : d' < d) (hL : L.length = nL) (hW : (st.map fun v => v.category).sum ≤ 8) (hk : k < w.1) (hs : w.2.1 k = .inr (ci, fs)) (kk : ∀ w', P w' → GG Γ K kc ks w' (pc + 3) L (st)) : GG Γ K kc ks w pc L (.ref k :: st) := g_callV0 C hd hl hS hKd hdd hL hW hk hs (fun r w' ⟨e, h⟩ => by subst e; exact kk w' h)
theorem g_callV1i (C : z_C Γ K cc own nL) {a0 : Value} {idx ci k d d' : Nat} {μ : zM} {fs : List zF} {P : Int32 → zW → Prop} (hd : decode cc pc = .ok (.invokevirtual idx, 3)) (hl : z_VL own idx ci μ 1) (hS : Sp Γ d' μ [.ref k, a0] 0 0 w (z_pi P)) (hKd : z_d K = d) (hdd : d' < d) (hL : L.length = nL) (hW : (st.map fun v => v.category).sum ≤ 8) (hk : k < w.1) (hs : w.2.1 k = .inr (ci, fs)) (kk : ∀ v w', P v w' → GG Γ K kc ks w' (pc + 3) L (.int v :: st)) : GG Γ K kc ks w pc L (a0 :: .ref k :: st) := g_callV1 C hd hl hS hKd hdd hL hW hk hs (fun r w' ⟨v, e, h⟩ => by subst e; exact kk v w' h)
theorem g_callS1i (C : z_C Γ K cc own nL) {a0 : Value} {idx d d' : Nat} {μ : zM} {P : Int32 → zW → Prop} (hd : decode cc pc = .ok (.invokestatic idx, 3)) (hl : z_SL own idx μ 1) (hS : Sp Γ d' μ [a0] 0 0 w (z_pi P)) (hKd : z_d K = d) (hdd : d' < d) (hL : L.length = nL) (hW : (st.map fun v => v.category).sum ≤ 8) (kk : ∀ v w', P v w' → GG Γ K kc ks w' (pc + 3) L (.int v :: st)) : GG Γ K kc ks w pc L (a0 :: st) := g_callS1 C hd hl hS hKd hdd hL hW (fun r w' ⟨v, e, h⟩ => by subst e; exact kk v w' h)
theorem g_callV1l (C : z_C Γ K cc own nL) {a0 : Value} {idx ci k d d' : Nat} {μ : zM} {fs : List zF} {P : Int64 → zW → Prop} (hd : decode cc pc = .ok (.invokevirtual idx, 3)) (hl : z_VL own idx ci μ 1) (hS : Sp Γ d' μ [.ref k, a0] 0 0 w (z_pl P)) (hKd : z_d K = d) (hdd : d' < d) (hL : L.length = nL) (hW : (st.map fun v => v.category).sum ≤ 8) (hk : k < w.1) (hs : w.2.1 k = .inr (ci, fs)) (kk : ∀ v w', P v w' → GG Γ K kc ks w' (pc + 3) L (.long v :: st)) : GG Γ K kc ks w pc L (a0 :: .ref k :: st) := g_callV1 C hd hl hS hKd hdd hL hW hk hs (fun r w' ⟨v, e, h⟩ => by subst e; exact kk v w' h)
theorem g_callV1r (C : z_C Γ K cc own nL) {a0 : Value} {idx ci k d d' : Nat} {μ : zM} {fs : List zF} {P : Nat → zW → Prop} (hd : decode cc pc = .ok (.invokevirtual idx, 3)) (hl : z_VL own idx ci μ 1) (hS : Sp Γ d' μ [.ref k, a0] 0 0 w (z_pr' P)) (hKd : z_d K = d) (hdd : d' < d) (hL : L.length = nL) (hW : (st.map fun v => v.category).sum ≤ 8) (hk : k < w.1) (hs : w.2.1 k = .inr (ci, fs)) (kk : ∀ v w', P v w' → GG Γ K kc ks w' (pc + 3) L (.ref v :: st)) : GG Γ K kc ks w pc L (a0 :: .ref k :: st) := g_callV1 C hd hl hS hKd hdd hL hW hk hs (fun r w' ⟨v, e, h⟩ => by subst e; exact kk v w' h)
theorem g_callS1r (C : z_C Γ K cc own nL) {a0 : Value} {idx d d' : Nat} {μ : zM} {P : Nat → zW → Prop} (hd : decode cc pc = .ok (.invokestatic idx, 3)) (hl : z_SL own idx μ 1) (hS : Sp Γ d' μ [a0] 0 0 w (z_pr' P)) (hKd : z_d K = d) (hdd : d' < d) (hL : L.length = nL) (hW : (st.map fun v => v.category).sum ≤ 8) (kk : ∀ v w', P v w' → GG Γ K kc ks w' (pc + 3) L (.ref v :: st)) : GG Γ K kc ks w pc L (a0 :: st) := g_callS1 C hd hl hS hKd hdd hL hW (fun r w' ⟨v, e, h⟩ => by subst e; exact kk v w' h)
theorem g_callV1v (C : z_C Γ K cc own nL) {a0 : Value} {idx ci k d d' : Nat} {μ : zM} {fs : List zF} {P : zW → Prop} (hd : decode cc pc = .ok (.invokevirtual idx, 3)) (hl : z_VL own idx ci μ 1) (hS : Sp Γ d' μ [.ref k, a0] 0 0 w (z_pv P)) (hKd : z_d K = d) (hdd : d' < d) (hL : L.length = nL) (hW : (st.map fun v => v.category).sum ≤ 8) (hk : k < w.1) (hs : w.2.1 k = .inr (ci, fs)) (kk : ∀ w', P w' → GG Γ K kc ks w' (pc + 3) L (st)) : GG Γ K kc ks w pc L (a0 :: .ref k :: st) := g_callV1 C hd hl hS hKd hdd hL hW hk hs (fun r w' ⟨e, h⟩ => by subst e; exact kk w' h)
theorem g_callS1v (C : z_C Γ K cc own nL) {a0 : Value} {idx d d' : Nat} {μ : zM} {P : zW → Prop} (hd : decode cc pc = .ok (.invokestatic idx, 3)) (hl : z_SL own idx μ 1) (hS : Sp Γ d' μ [a0] 0 0 w (z_pv P)) (hKd : z_d K = d) (hdd : d' < d) (hL : L.length = nL) (hW : (st.map fun v => v.category).sum ≤ 8) (kk : ∀ w', P w' → GG Γ K kc ks w' (pc + 3) L (st)) : GG Γ K kc ks w pc L (a0 :: st) := g_callS1 C hd hl hS hKd hdd hL hW (fun r w' ⟨e, h⟩ => by subst e; exact kk w' h)
theorem g_callV2i (C : z_C Γ K cc own nL) {a0 a1 : Value} {idx ci k d d' : Nat} {μ : zM} {fs : List zF} {P : Int32 → zW → Prop} (hd : decode cc pc = .ok (.invokevirtual idx, 3)) (hl : z_VL own idx ci μ 2) (hS : Sp Γ d' μ [.ref k, a0, a1] 0 0 w (z_pi P)) (hKd : z_d K = d) (hdd : d' < d) (hL : L.length = nL) (hW : (st.map fun v => v.category).sum ≤ 8) (hk : k < w.1) (hs : w.2.1 k = .inr (ci, fs)) (kk : ∀ v w', P v w' → GG Γ K kc ks w' (pc + 3) L (.int v :: st)) : GG Γ K kc ks w pc L (a1 :: a0 :: .ref k :: st) := g_callV2 C hd hl hS hKd hdd hL hW hk hs (fun r w' ⟨v, e, h⟩ => by subst e; exact kk v w' h)
theorem g_callS2i (C : z_C Γ K cc own nL) {a0 a1 : Value} {idx d d' : Nat} {μ : zM} {P : Int32 → zW → Prop} (hd : decode cc pc = .ok (.invokestatic idx, 3)) (hl : z_SL own idx μ 2) (hS : Sp Γ d' μ [a0, a1] 0 0 w (z_pi P)) (hKd : z_d K = d) (hdd : d' < d) (hL : L.length = nL) (hW : (st.map fun v => v.category).sum ≤ 8) (kk : ∀ v w', P v w' → GG Γ K kc ks w' (pc + 3) L (.int v :: st)) : GG Γ K kc ks w pc L (a1 :: a0 :: st) := g_callS2 C hd hl hS hKd hdd hL hW (fun r w' ⟨v, e, h⟩ => by subst e; exact kk v w' h)
theorem g_callV2l (C : z_C Γ K cc own nL) {a0 a1 : Value} {idx ci k d d' : Nat} {μ : zM} {fs : List zF} {P : Int64 → zW → Prop} (hd : decode cc pc = .ok (.invokevirtual idx, 3)) (hl : z_VL own idx ci μ 2) (hS : Sp Γ d' μ [.ref k, a0, a1] 0 0 w (z_pl P)) (hKd : z_d K = d) (hdd : d' < d) (hL : L.length = nL) (hW : (st.map fun v => v.category).sum ≤ 8) (hk : k < w.1) (hs : w.2.1 k = .inr (ci, fs)) (kk : ∀ v w', P v w' → GG Γ K kc ks w' (pc + 3) L (.long v :: st)) : GG Γ K kc ks w pc L (a1 :: a0 :: .ref k :: st) := g_callV2 C hd hl hS hKd hdd hL hW hk hs (fun r w' ⟨v, e, h⟩ => by subst e; exact kk v w' h)
theorem g_callV2r (C : z_C Γ K cc own nL) {a0 a1 : Value} {idx ci k d d' : Nat} {μ : zM} {fs : List zF} {P : Nat → zW → Prop} (hd : decode cc pc = .ok (.invokevirtual idx, 3)) (hl : z_VL own idx ci μ 2) (hS : Sp Γ d' μ [.ref k, a0, a1] 0 0 w (z_pr' P)) (hKd : z_d K = d) (hdd : d' < d) (hL : L.length = nL) (hW : (st.map fun v => v.category).sum ≤ 8) (hk : k < w.1) (hs : w.2.1 k = .inr (ci, fs)) (kk : ∀ v w', P v w' → GG Γ K kc ks w' (pc + 3) L (.ref v :: st)) : GG Γ K kc ks w pc L (a1 :: a0 :: .ref k :: st) := g_callV2 C hd hl hS hKd hdd hL hW hk hs (fun r w' ⟨v, e, h⟩ => by subst e; exact kk v w' h)
theorem g_callS2r (C : z_C Γ K cc own nL) {a0 a1 : Value} {idx d d' : Nat} {μ : zM} {P : Nat → zW → Prop} (hd : decode cc pc = .ok (.invokestatic idx, 3)) (hl : z_SL own idx μ 2) (hS : Sp Γ d' μ [a0, a1] 0 0 w (z_pr' P)) (hKd : z_d K = d) (hdd : d' < d) (hL : L.length = nL) (hW : (st.map fun v => v.category).sum ≤ 8) (kk : ∀ v w', P v w' → GG Γ K kc ks w' (pc + 3) L (.ref v :: st)) : GG Γ K kc ks w pc L (a1 :: a0 :: st) := g_callS2 C hd hl hS hKd hdd hL hW (fun r w' ⟨v, e, h⟩ => by subst e; exact kk v w' h)
theorem g_callV2v (C : z_C Γ K cc own nL) {a0 a1 : Value} {idx ci k d d' : Nat} {μ : zM} {fs : List zF} {P : zW → Prop} (hd : decode cc pc = .ok (.invokevirtual idx, 3)) (hl : z_VL own idx ci μ 2) (hS : Sp Γ d' μ [.ref k, a0, a1] 0 0 w (z_pv P)) (hKd : z_d K = d) (hdd : d' < d) (hL : L.length = nL) (hW : (st.map fun v => v.category).sum ≤ 8) (hk : k < w.1) (hs : w.2.1 k = .inr (ci, fs)) (kk : ∀ w', P w' → GG Γ K kc ks w' (pc + 3) L (st)) : GG Γ K kc ks w pc L (a1 :: a0 :: .ref k :: st) := g_callV2 C hd hl hS hKd hdd hL hW hk hs (fun r w' ⟨e, h⟩ => by subst e; exact kk w' h)
theorem g_callS2v (C : z_C Γ K cc own nL) {a0 a1 : Value} {idx d d' : Nat} {μ : zM} {P : zW → Prop} (hd : decode cc pc = .ok (.invokestatic idx, 3)) (hl : z_SL own idx μ 2) (hS : Sp Γ d' μ [a0, a1] 0 0 w (z_pv P)) (hKd : z_d K = d) (hdd : d' < d) (hL : L.length = nL) (hW : (st.map fun v => v.category).sum ≤ 8) (kk : ∀ w', P w' → GG Γ K kc ks w' (pc + 3) L (st)) : GG Γ K kc ks w pc L (a1 :: a0 :: st) := g_callS2 C hd hl hS hKd hdd hL hW (fun r w' ⟨e, h⟩ => by subst e; exact kk w' h)
theorem g_callV3i (C : z_C Γ K cc own nL) {a0 a1 a2 : Value} {idx ci k d d' : Nat} {μ : zM} {fs : List zF} {P : Int32 → zW → Prop} (hd : decode cc pc = .ok (.invokevirtual idx, 3)) (hl : z_VL own idx ci μ 3) (hS : Sp Γ d' μ [.ref k, a0, a1, a2] 0 0 w (z_pi P)) (hKd : z_d K = d) (hdd : d' < d) (hL : L.length = nL) (hW : (st.map fun v => v.category).sum ≤ 8) (hk : k < w.1) (hs : w.2.1 k = .inr (ci, fs)) (kk : ∀ v w', P v w' → GG Γ K kc ks w' (pc + 3) L (.int v :: st)) : GG Γ K kc ks w pc L (a2 :: a1 :: a0 :: .ref k :: st) := g_callV3 C hd hl hS hKd hdd hL hW hk hs (fun r w' ⟨v, e, h⟩ => by subst e; exact kk v w' h)
theorem g_callS3i (C : z_C Γ K cc own nL) {a0 a1 a2 : Value} {idx d d' : Nat} {μ : zM} {P : Int32 → zW → Prop} (hd : decode cc pc = .ok (.invokestatic idx, 3)) (hl : z_SL own idx μ 3) (hS : Sp Γ d' μ [a0, a1, a2] 0 0 w (z_pi P)) (hKd : z_d K = d) (hdd : d' < d) (hL : L.length = nL) (hW : (st.map fun v => v.category).sum ≤ 8) (kk : ∀ v w', P v w' → GG Γ K kc ks w' (pc + 3) L (.int v :: st)) : GG Γ K kc ks w pc L (a2 :: a1 :: a0 :: st) := g_callS3 C hd hl hS hKd hdd hL hW (fun r w' ⟨v, e, h⟩ => by subst e; exact kk v w' h)
theorem g_callV3l (C : z_C Γ K cc own nL) {a0 a1 a2 : Value} {idx ci k d d' : Nat} {μ : zM} {fs : List zF} {P : Int64 → zW → Prop} (hd : decode cc pc = .ok (.invokevirtual idx, 3)) (hl : z_VL own idx ci μ 3) (hS : Sp Γ d' μ [.ref k, a0, a1, a2] 0 0 w (z_pl P)) (hKd : z_d K = d) (hdd : d' < d) (hL : L.length = nL) (hW : (st.map fun v => v.category).sum ≤ 8) (hk : k < w.1) (hs : w.2.1 k = .inr (ci, fs)) (kk : ∀ v w', P v w' → GG Γ K kc ks w' (pc + 3) L (.long v :: st)) : GG Γ K kc ks w pc L (a2 :: a1 :: a0 :: .ref k :: st) := g_callV3 C hd hl hS hKd hdd hL hW hk hs (fun r w' ⟨v, e, h⟩ => by subst e; exact kk v w' h)
theorem g_callV3r (C : z_C Γ K cc own nL) {a0 a1 a2 : Value} {idx ci k d d' : Nat} {μ : zM} {fs : List zF} {P : Nat → zW → Prop} (hd : decode cc pc = .ok (.invokevirtual idx, 3)) (hl : z_VL own idx ci μ 3) (hS : Sp Γ d' μ [.ref k, a0, a1, a2] 0 0 w (z_pr' P)) (hKd : z_d K = d) (hdd : d' < d) (hL : L.length = nL) (hW : (st.map fun v => v.category).sum ≤ 8) (hk : k < w.1) (hs : w.2.1 k = .inr (ci, fs)) (kk : ∀ v w', P v w' → GG Γ K kc ks w' (pc + 3) L (.ref v :: st)) : GG Γ K kc ks w pc L (a2 :: a1 :: a0 :: .ref k :: st) := g_callV3 C hd hl hS hKd hdd hL hW hk hs (fun r w' ⟨v, e, h⟩ => by subst e; exact kk v w' h)
theorem g_callS3r (C : z_C Γ K cc own nL) {a0 a1 a2 : Value} {idx d d' : Nat} {μ : zM} {P : Nat → zW → Prop} (hd : decode cc pc = .ok (.invokestatic idx, 3)) (hl : z_SL own idx μ 3) (hS : Sp Γ d' μ [a0, a1, a2] 0 0 w (z_pr' P)) (hKd : z_d K = d) (hdd : d' < d) (hL : L.length = nL) (hW : (st.map fun v => v.category).sum ≤ 8) (kk : ∀ v w', P v w' → GG Γ K kc ks w' (pc + 3) L (.ref v :: st)) : GG Γ K kc ks w pc L (a2 :: a1 :: a0 :: st) := g_callS3 C hd hl hS hKd hdd hL hW (fun r w' ⟨v, e, h⟩ => by subst e; exact kk v w' h)
theorem g_callV3v (C : z_C Γ K cc own nL) {a0 a1 a2 : Value} {idx ci k d d' : Nat} {μ : zM} {fs : List zF} {P : zW → Prop} (hd : decode cc pc = .ok (.invokevirtual idx, 3)) (hl : z_VL own idx ci μ 3) (hS : Sp Γ d' μ [.ref k, a0, a1, a2] 0 0 w (z_pv P)) (hKd : z_d K = d) (hdd : d' < d) (hL : L.length = nL) (hW : (st.map fun v => v.category).sum ≤ 8) (hk : k < w.1) (hs : w.2.1 k = .inr (ci, fs)) (kk : ∀ w', P w' → GG Γ K kc ks w' (pc + 3) L (st)) : GG Γ K kc ks w pc L (a2 :: a1 :: a0 :: .ref k :: st) := g_callV3 C hd hl hS hKd hdd hL hW hk hs (fun r w' ⟨e, h⟩ => by subst e; exact kk w' h)
theorem g_callS3v (C : z_C Γ K cc own nL) {a0 a1 a2 : Value} {idx d d' : Nat} {μ : zM} {P : zW → Prop} (hd : decode cc pc = .ok (.invokestatic idx, 3)) (hl : z_SL own idx μ 3) (hS : Sp Γ d' μ [a0, a1, a2] 0 0 w (z_pv P)) (hKd : z_d K = d) (hdd : d' < d) (hL : L.length = nL) (hW : (st.map fun v => v.category).sum ≤ 8) (kk : ∀ w', P w' → GG Γ K kc ks w' (pc + 3) L (st)) : GG Γ K kc ks w pc L (a2 :: a1 :: a0 :: st) := g_callS3 C hd hl hS hKd hdd hL hW (fun r w' ⟨e, h⟩ => by subst e; exact kk w' h)
theorem g_callV4i (C : z_C Γ K cc own nL) {a0 a1 a2 a3 : Value} {idx ci k d d' : Nat} {μ : zM} {fs : List zF} {P : Int32 → zW → Prop} (hd : decode cc pc = .ok (.invokevirtual idx, 3)) (hl : z_VL own idx ci μ 4) (hS : Sp Γ d' μ [.ref k, a0, a1, a2, a3] 0 0 w (z_pi P)) (hKd : z_d K = d) (hdd : d' < d) (hL : L.length = nL) (hW : (st.map fun v => v.category).sum ≤ 8) (hk : k < w.1) (hs : w.2.1 k = .inr (ci, fs)) (kk : ∀ v w', P v w' → GG Γ K kc ks w' (pc + 3) L (.int v :: st)) : GG Γ K kc ks w pc L (a3 :: a2 :: a1 :: a0 :: .ref k :: st) := g_callV4 C hd hl hS hKd hdd hL hW hk hs (fun r w' ⟨v, e, h⟩ => by subst e; exact kk v w' h)
theorem g_callS4i (C : z_C Γ K cc own nL) {a0 a1 a2 a3 : Value} {idx d d' : Nat} {μ : zM} {P : Int32 → zW → Prop} (hd : decode cc pc = .ok (.invokestatic idx, 3)) (hl : z_SL own idx μ 4) (hS : Sp Γ d' μ [a0, a1, a2, a3] 0 0 w (z_pi P)) (hKd : z_d K = d) (hdd : d' < d) (hL : L.length = nL) (hW : (st.map fun v => v.category).sum ≤ 8) (kk : ∀ v w', P v w' → GG Γ K kc ks w' (pc + 3) L (.int v :: st)) : GG Γ K kc ks w pc L (a3 :: a2 :: a1 :: a0 :: st) := g_callS4 C hd hl hS hKd hdd hL hW (fun r w' ⟨v, e, h⟩ => by subst e; exact kk v w' h)
theorem g_callV4l (C : z_C Γ K cc own nL) {a0 a1 a2 a3 : Value} {idx ci k d d' : Nat} {μ : zM} {fs : List zF} {P : Int64 → zW → Prop} (hd : decode cc pc = .ok (.invokevirtual idx, 3)) (hl : z_VL own idx ci μ 4) (hS : Sp Γ d' μ [.ref k, a0, a1, a2, a3] 0 0 w (z_pl P)) (hKd : z_d K = d) (hdd : d' < d) (hL : L.length = nL) (hW : (st.map fun v => v.category).sum ≤ 8) (hk : k < w.1) (hs : w.2.1 k = .inr (ci, fs)) (kk : ∀ v w', P v w' → GG Γ K kc ks w' (pc + 3) L (.long v :: st)) : GG Γ K kc ks w pc L (a3 :: a2 :: a1 :: a0 :: .ref k :: st) := g_callV4 C hd hl hS hKd hdd hL hW hk hs (fun r w' ⟨v, e, h⟩ => by subst e; exact kk v w' h)
theorem g_callV4r (C : z_C Γ K cc own nL) {a0 a1 a2 a3 : Value} {idx ci k d d' : Nat} {μ : zM} {fs : List zF} {P : Nat → zW → Prop} (hd : decode cc pc = .ok (.invokevirtual idx, 3)) (hl : z_VL own idx ci μ 4) (hS : Sp Γ d' μ [.ref k, a0, a1, a2, a3] 0 0 w (z_pr' P)) (hKd : z_d K = d) (hdd : d' < d) (hL : L.length = nL) (hW : (st.map fun v => v.category).sum ≤ 8) (hk : k < w.1) (hs : w.2.1 k = .inr (ci, fs)) (kk : ∀ v w', P v w' → GG Γ K kc ks w' (pc + 3) L (.ref v :: st)) : GG Γ K kc ks w pc L (a3 :: a2 :: a1 :: a0 :: .ref k :: st) := g_callV4 C hd hl hS hKd hdd hL hW hk hs (fun r w' ⟨v, e, h⟩ => by subst e; exact kk v w' h)
theorem g_callS4r (C : z_C Γ K cc own nL) {a0 a1 a2 a3 : Value} {idx d d' : Nat} {μ : zM} {P : Nat → zW → Prop} (hd : decode cc pc = .ok (.invokestatic idx, 3)) (hl : z_SL own idx μ 4) (hS : Sp Γ d' μ [a0, a1, a2, a3] 0 0 w (z_pr' P)) (hKd : z_d K = d) (hdd : d' < d) (hL : L.length = nL) (hW : (st.map fun v => v.category).sum ≤ 8) (kk : ∀ v w', P v w' → GG Γ K kc ks w' (pc + 3) L (.ref v :: st)) : GG Γ K kc ks w pc L (a3 :: a2 :: a1 :: a0 :: st) := g_callS4 C hd hl hS hKd hdd hL hW (fun r w' ⟨v, e, h⟩ => by subst e; exact kk v w' h)
theorem g_callV4v (C : z_C Γ K cc own nL) {a0 a1 a2 a3 : Value} {idx ci k d d' : Nat} {μ : zM} {fs : List zF} {P : zW → Prop} (hd : decode cc pc = .ok (.invokevirtual idx, 3)) (hl : z_VL own idx ci μ 4) (hS : Sp Γ d' μ [.ref k, a0, a1, a2, a3] 0 0 w (z_pv P)) (hKd : z_d K = d) (hdd : d' < d) (hL : L.length = nL) (hW : (st.map fun v => v.category).sum ≤ 8) (hk : k < w.1) (hs : w.2.1 k = .inr (ci, fs)) (kk : ∀ w', P w' → GG Γ K kc ks w' (pc + 3) L (st)) : GG Γ K kc ks w pc L (a3 :: a2 :: a1 :: a0 :: .ref k :: st) := g_callV4 C hd hl hS hKd hdd hL hW hk hs (fun r w' ⟨e, h⟩ => by subst e; exact kk w' h)
theorem g_callS4v (C : z_C Γ K cc own nL) {a0 a1 a2 a3 : Value} {idx d d' : Nat} {μ : zM} {P : zW → Prop} (hd : decode cc pc = .ok (.invokestatic idx, 3)) (hl : z_SL own idx μ 4) (hS : Sp Γ d' μ [a0, a1, a2, a3] 0 0 w (z_pv P)) (hKd : z_d K = d) (hdd : d' < d) (hL : L.length = nL) (hW : (st.map fun v => v.category).sum ≤ 8) (kk : ∀ w', P w' → GG Γ K kc ks w' (pc + 3) L (st)) : GG Γ K kc ks w pc L (a3 :: a2 :: a1 :: a0 :: st) := g_callS4 C hd hl hS hKd hdd hL hW (fun r w' ⟨e, h⟩ => by subst e; exact kk w' h)
theorem g_callS5i (C : z_C Γ K cc own nL) {a0 a1 a2 a3 a4 : Value} {idx d d' : Nat} {μ : zM} {P : Int32 → zW → Prop} (hd : decode cc pc = .ok (.invokestatic idx, 3)) (hl : z_SL own idx μ 5) (hS : Sp Γ d' μ [a0, a1, a2, a3, a4] 0 0 w (z_pi P)) (hKd : z_d K = d) (hdd : d' < d) (hL : L.length = nL) (hW : (st.map fun v => v.category).sum ≤ 8) (kk : ∀ v w', P v w' → GG Γ K kc ks w' (pc + 3) L (.int v :: st)) : GG Γ K kc ks w pc L (a4 :: a3 :: a2 :: a1 :: a0 :: st) := g_callS5 C hd hl hS hKd hdd hL hW (fun r w' ⟨v, e, h⟩ => by subst e; exact kk v w' h)
theorem g_callS5r (C : z_C Γ K cc own nL) {a0 a1 a2 a3 a4 : Value} {idx d d' : Nat} {μ : zM} {P : Nat → zW → Prop} (hd : decode cc pc = .ok (.invokestatic idx, 3)) (hl : z_SL own idx μ 5) (hS : Sp Γ d' μ [a0, a1, a2, a3, a4] 0 0 w (z_pr' P)) (hKd : z_d K = d) (hdd : d' < d) (hL : L.length = nL) (hW : (st.map fun v => v.category).sum ≤ 8) (kk : ∀ v w', P v w' → GG Γ K kc ks w' (pc + 3) L (.ref v :: st)) : GG Γ K kc ks w pc L (a4 :: a3 :: a2 :: a1 :: a0 :: st) := g_callS5 C hd hl hS hKd hdd hL hW (fun r w' ⟨v, e, h⟩ => by subst e; exact kk v w' h)
theorem g_callS5v (C : z_C Γ K cc own nL) {a0 a1 a2 a3 a4 : Value} {idx d d' : Nat} {μ : zM} {P : zW → Prop} (hd : decode cc pc = .ok (.invokestatic idx, 3)) (hl : z_SL own idx μ 5) (hS : Sp Γ d' μ [a0, a1, a2, a3, a4] 0 0 w (z_pv P)) (hKd : z_d K = d) (hdd : d' < d) (hL : L.length = nL) (hW : (st.map fun v => v.category).sum ≤ 8) (kk : ∀ w', P w' → GG Γ K kc ks w' (pc + 3) L (st)) : GG Γ K kc ks w pc L (a4 :: a3 :: a2 :: a1 :: a0 :: st) := g_callS5 C hd hl hS hKd hdd hL hW (fun r w' ⟨e, h⟩ => by subst e; exact kk w' h)
theorem g_callS6i (C : z_C Γ K cc own nL) {a0 a1 a2 a3 a4 a5 : Value} {idx d d' : Nat} {μ : zM} {P : Int32 → zW → Prop} (hd : decode cc pc = .ok (.invokestatic idx, 3)) (hl : z_SL own idx μ 6) (hS : Sp Γ d' μ [a0, a1, a2, a3, a4, a5] 0 0 w (z_pi P)) (hKd : z_d K = d) (hdd : d' < d) (hL : L.length = nL) (hW : (st.map fun v => v.category).sum ≤ 8) (kk : ∀ v w', P v w' → GG Γ K kc ks w' (pc + 3) L (.int v :: st)) : GG Γ K kc ks w pc L (a5 :: a4 :: a3 :: a2 :: a1 :: a0 :: st) := g_callS6 C hd hl hS hKd hdd hL hW (fun r w' ⟨v, e, h⟩ => by subst e; exact kk v w' h)
theorem g_callS6r (C : z_C Γ K cc own nL) {a0 a1 a2 a3 a4 a5 : Value} {idx d d' : Nat} {μ : zM} {P : Nat → zW → Prop} (hd : decode cc pc = .ok (.invokestatic idx, 3)) (hl : z_SL own idx μ 6) (hS : Sp Γ d' μ [a0, a1, a2, a3, a4, a5] 0 0 w (z_pr' P)) (hKd : z_d K = d) (hdd : d' < d) (hL : L.length = nL) (hW : (st.map fun v => v.category).sum ≤ 8) (kk : ∀ v w', P v w' → GG Γ K kc ks w' (pc + 3) L (.ref v :: st)) : GG Γ K kc ks w pc L (a5 :: a4 :: a3 :: a2 :: a1 :: a0 :: st) := g_callS6 C hd hl hS hKd hdd hL hW (fun r w' ⟨v, e, h⟩ => by subst e; exact kk v w' h)
theorem g_callS6v (C : z_C Γ K cc own nL) {a0 a1 a2 a3 a4 a5 : Value} {idx d d' : Nat} {μ : zM} {P : zW → Prop} (hd : decode cc pc = .ok (.invokestatic idx, 3)) (hl : z_SL own idx μ 6) (hS : Sp Γ d' μ [a0, a1, a2, a3, a4, a5] 0 0 w (z_pv P)) (hKd : z_d K = d) (hdd : d' < d) (hL : L.length = nL) (hW : (st.map fun v => v.category).sum ≤ 8) (kk : ∀ w', P w' → GG Γ K kc ks w' (pc + 3) L (st)) : GG Γ K kc ks w pc L (a5 :: a4 :: a3 :: a2 :: a1 :: a0 :: st) := g_callS6 C hd hl hS hKd hdd hL hW (fun r w' ⟨e, h⟩ => by subst e; exact kk w' h)
end ZQ
/-- a contract may say less -/
theorem Sp.weak {Γ : zG} {d : Nat} {μ : zM} {A : List Value} {mc ms : Nat} {w : zW} {P P' : Option Value → zW → Prop} (h : Sp Γ d μ A mc ms w P) (hP : ∀ r w', P r w' → P' r w') : Sp Γ d μ A mc ms w P' := by
  unfold Sp at h ⊢
  unfold Met at h ⊢
  intro p e ha hc hk s m args below h1 h2 h3 h4
  obtain ⟨k, o, g1, g2, g3, ⟨⟨r, w', e1, e2, e3⟩, e4⟩, e5⟩ := h p e ha hc hk s m args below h1 h2 h3 h4
  exact ⟨k, o, g1, g2, g3, ⟨⟨r, w', e1, hP r w' e2, e3⟩, e4⟩, e5⟩
end
section
/-! the places of the run, once all is made: 0 .. 55 the class, 56 .. 67 the reference -/
def z_ar (q n : Nat) : zS := .inl (q, n, fun _ => none)
def z_mo (m : Nat) : zS := .inr (1, [.inr (some (m + 1)), .inr (some (m + 2)), .inl 0, .inl 0])
def z_shapes : List zS := [.inr (5, [.inr (some 1), .inr (some 3), .inr (some 7), .inr (some 11), .inr (some 14), .inr (some 46), .inr (some 49), .inl 0, .inr (some 52), .inl 1]),
  .inr (4, [.inr (some 2), .inl 0, .inl 0, .inl 0, .inl 0, .inl 0]), z_ar 0 200,
  .inr (0, [.inr (some 4), .inr (some 5), .inr (some 6), .inl 0, .inl 0, .inl 0]), z_ar 0 7, z_ar 0 7, z_ar 0 7,
  .inr (0, [.inr (some 8), .inr (some 9), .inr (some 10), .inl 0, .inl 0, .inl 0]), z_ar 0 7, z_ar 0 7, z_ar 0 7,
  z_mo 11, z_ar 0 8, z_ar 0 8,
  .inr (3, [.inr (some 15), .inl 0, .inl 0]), .inl (2, 10, fun j => if j < 10 then some (16 + 3 * j) else none),
  z_mo 16, z_ar 0 8, z_ar 0 8, z_mo 19, z_ar 0 8, z_ar 0 8, z_mo 22, z_ar 0 8, z_ar 0 8, z_mo 25, z_ar 0 8, z_ar 0 8, z_mo 28, z_ar 0 8, z_ar 0 8,
  z_mo 31, z_ar 0 8, z_ar 0 8, z_mo 34, z_ar 0 8, z_ar 0 8, z_mo 37, z_ar 0 8, z_ar 0 8, z_mo 40, z_ar 0 8, z_ar 0 8, z_mo 43, z_ar 0 8, z_ar 0 8,
  z_mo 46, z_ar 0 8, z_ar 0 8, z_mo 49, z_ar 0 8, z_ar 0 8,
  .inr (2, [.inr (some 53), .inr (some 54), .inr (some 55), .inl 0, .inl 0, .inl 0]), z_ar 0 5040, z_ar 0 5040, z_ar 0 7,
  .inr (6, [.inl 1, .inr (some 57), .inl 0, .inr (some 58), .inr (some 59), .inr (some 60), .inr (some 61), .inl 0, .inr (some 62), .inr (some 63), .inl 0, .inl 0, .inl 0, .inl 0, .inr (some 64), .inl 0, .inr (some 65), .inr (some 66), .inr (some 67)]),
  z_ar 0 200, z_ar 0 26, z_ar 0 26, z_ar 0 18, z_ar 0 180, z_ar 0 36, z_ar 1 2, z_ar 0 5040, z_ar 0 8, z_ar 0 8, z_ar 0 32768]
def sF (k : Nat) : zS := z_shapes.getD k (z_ar 0 0)
abbrev wF (c : Nat → Nat → Int32) (t : Nat → Int64) : zW := (68, sF, c, t)
/-- the places of Moments -/
def zMo (m : Nat) : Prop := m < 66 ∧ sF m = z_mo m ∧ sF (m + 1) = z_ar 0 8 ∧ sF (m + 2) = z_ar 0 8
theorem zMo_11 : zMo 11 := ⟨by decide, rfl, rfl, rfl⟩
theorem zMo_46 : zMo 46 := ⟨by decide, rfl, rfl, rfl⟩
theorem zMo_49 : zMo 49 := ⟨by decide, rfl, rfl, rfl⟩
theorem zMo_past : ∀ j, j < 10 → zMo (16 + 3 * j) := by
  intro j hj
  match j, hj with
  | 0, _ => exact ⟨by decide, rfl, rfl, rfl⟩
  | 1, _ => exact ⟨by decide, rfl, rfl, rfl⟩
  | 2, _ => exact ⟨by decide, rfl, rfl, rfl⟩
  | 3, _ => exact ⟨by decide, rfl, rfl, rfl⟩
  | 4, _ => exact ⟨by decide, rfl, rfl, rfl⟩
  | 5, _ => exact ⟨by decide, rfl, rfl, rfl⟩
  | 6, _ => exact ⟨by decide, rfl, rfl, rfl⟩
  | 7, _ => exact ⟨by decide, rfl, rfl, rfl⟩
  | 8, _ => exact ⟨by decide, rfl, rfl, rfl⟩
  | 9, _ => exact ⟨by decide, rfl, rfl, rfl⟩
  | n + 10, h => omega
section ZT
variable {Γ : zG} {K : zK} {kc ks : Nat} {pc : Nat} {L Lr : List (Option Value)} {st : List Value} {cc : ByteArray} {own : String} {nL : Nat} {N : Nat} {σ : Nat → zS} {c : Nat → Nat → Int32} {t : Nat → Int64}
theorem g_getIT (C : z_C Γ K cc own nL) {idx ci j k : Nat} {fs : List zF} (hd : decode cc pc = .ok (.getfield idx, 3)) (hf : z_FL own idx ci j) (hk : k < N) (hs : σ k = .inr (ci, fs)) (hj : fs[j]? = some (.inl 0)) (kk : GG Γ K kc ks (N, σ, c, t) (pc + 3) L (.int (c k j) :: st)) : GG Γ K kc ks (N, σ, c, t) pc L (.ref k :: st) := g_getI (w := (N, σ, c, t)) C hd hf hk hs hj kk
theorem g_getIE (C : z_C Γ K cc own nL) {idx ci j k : Nat} {fs : List zF} {x : Int32} (hx : c k j = x) (hd : decode cc pc = .ok (.getfield idx, 3)) (hf : z_FL own idx ci j) (hk : k < N) (hs : σ k = .inr (ci, fs)) (hj : fs[j]? = some (.inl 0)) (kk : GG Γ K kc ks (N, σ, c, t) (pc + 3) L (.int x :: st)) : GG Γ K kc ks (N, σ, c, t) pc L (.ref k :: st) := by subst hx; exact g_getI (w := (N, σ, c, t)) C hd hf hk hs hj kk
theorem g_getLT (C : z_C Γ K cc own nL) {idx ci j k : Nat} {fs : List zF} (hd : decode cc pc = .ok (.getfield idx, 3)) (hf : z_FL own idx ci j) (hk : k < N) (hs : σ k = .inr (ci, fs)) (hj : fs[j]? = some (.inl 1)) (kk : GG Γ K kc ks (N, σ, c, t) (pc + 3) L (.long (t k) :: st)) : GG Γ K kc ks (N, σ, c, t) pc L (.ref k :: st) := g_getL (w := (N, σ, c, t)) C hd hf hk hs hj kk
theorem g_getRT (C : z_C Γ K cc own nL) {idx ci j k p : Nat} {fs : List zF} (hd : decode cc pc = .ok (.getfield idx, 3)) (hf : z_FL own idx ci j) (hk : k < N) (hs : σ k = .inr (ci, fs)) (hj : fs[j]? = some (.inr (some p))) (hp : p < 1000) (kk : GG Γ K kc ks (N, σ, c, t) (pc + 3) L (.ref p :: st)) : GG Γ K kc ks (N, σ, c, t) pc L (.ref k :: st) := g_getR (w := (N, σ, c, t)) C hd hf hk hs hj hp kk
theorem g_iald (C : z_C Γ K cc own nL) {k n : Nat} {f : Nat → Option Nat} {i : Int32} (hi : vp_in i n) (hd : decode cc pc = .ok (.iaload, 1)) (hk : k < N) (hs : σ k = .inl (0, n, f)) (kk : GG Γ K kc ks (N, σ, c, t) (pc + 1) L (.int (c k i.toNatClampNeg) :: st)) : GG Γ K kc ks (N, σ, c, t) pc L (.int i :: .ref k :: st) := z_iald (w := (N, σ, c, t)) C hd hk hs hi kk
theorem g_ialdE (C : z_C Γ K cc own nL) {j k n : Nat} {f : Nat → Option Nat} {x : Int32} (hx : c k j = x) (hj : j < n) (hn : n < 2 ^ 31) (hd : decode cc pc = .ok (.iaload, 1)) (hk : k < N) (hs : σ k = .inl (0, n, f)) (kk : GG Γ K kc ks (N, σ, c, t) (pc + 1) L (.int x :: st)) : GG Γ K kc ks (N, σ, c, t) pc L (.int (nI j) :: .ref k :: st) := by subst hx; exact z_iald (w := (N, σ, c, t)) C hd hk hs (vp_in_nI hj hn) (by rw [nI_clamp (by omega)]; exact kk)
theorem g_baldE (C : z_C Γ K cc own nL) {j k n : Nat} {f : Nat → Option Nat} {x : Int32} (hx : c k j = x) (hj : j < n) (hn : n < 2 ^ 31) (hd : decode cc pc = .ok (.baload, 1)) (hk : k < N) (hs : σ k = .inl (1, n, f)) (kk : GG Γ K kc ks (N, σ, c, t) (pc + 1) L (.int x :: st)) : GG Γ K kc ks (N, σ, c, t) pc L (.int (nI j) :: .ref k :: st) := by subst hx; exact z_bald (w := (N, σ, c, t)) C hd hk hs (vp_in_nI hj hn) (by rw [nI_clamp (by omega)]; exact kk)
theorem g_aaldE (C : z_C Γ K cc own nL) {j k n q : Nat} {f : Nat → Option Nat} (hf : f j = some q) (hq : q < 1000) (hj : j < n) (hn : n < 2 ^ 31) (hd : decode cc pc = .ok (.aaload, 1)) (hk : k < N) (hs : σ k = .inl (2, n, f)) (kk : GG Γ K kc ks (N, σ, c, t) (pc + 1) L (.ref q :: st)) : GG Γ K kc ks (N, σ, c, t) pc L (.int (nI j) :: .ref k :: st) := z_aald (w := (N, σ, c, t)) C hd hk hs (vp_in_nI hj hn) (by rw [nI_clamp (by omega)]; exact hf) hq kk
theorem g_alen (C : z_C Γ K cc own nL) {k n q : Nat} {f : Nat → Option Nat} (hd : decode cc pc = .ok (.arraylength, 1)) (hk : k < N) (hs : σ k = .inl (q, n, f)) (kk : GG Γ K kc ks (N, σ, c, t) (pc + 1) L (.int (nI n) :: st)) : GG Γ K kc ks (N, σ, c, t) pc L (.ref k :: st) := z_alen (w := (N, σ, c, t)) C hd hk hs kk
theorem g_iastN (C : z_C Γ K cc own nL) {j k n : Nat} {f : Nat → Option Nat} {x : Int32} (hj : j < n) (hn : n < 2 ^ 31) (hd : decode cc pc = .ok (.iastore, 1)) (hk : k < N) (hs : σ k = .inl (0, n, f)) (kk : GG Γ K kc ks (N, σ, z_up c k j x, t) (pc + 1) L st) : GG Γ K kc ks (N, σ, c, t) pc L (.int x :: .int (nI j) :: .ref k :: st) := z_iast C hd hk hs (vp_in_nI hj hn) (by rw [nI_clamp (by omega)]; exact kk)
theorem g_bastN (C : z_C Γ K cc own nL) {j k n : Nat} {f : Nat → Option Nat} {b : Bool} (hj : j < n) (hn : n < 2 ^ 31) (hd : decode cc pc = .ok (.bastore, 1)) (hk : k < N) (hs : σ k = .inl (1, n, f)) (kk : GG Γ K kc ks (N, σ, z_up c k j (nI b.toNat), t) (pc + 1) L st) : GG Γ K kc ks (N, σ, c, t) pc L (.int (nI b.toNat) :: .int (nI j) :: .ref k :: st) := z_bast C hd hk hs (vp_in_nI hj hn) (z_nar b) (by rw [nI_clamp (by omega)]; exact kk)
/-- the content gets another name -/
theorem g_con {c' : Nat → Nat → Int32} {t' : Nat → Int64} (h : c = c') (h2 : t = t') (kk : GG Γ K kc ks (N, σ, c', t') pc L st) : GG Γ K kc ks (N, σ, c, t) pc L st := by subst h h2; exact kk
theorem g_named (kk : ∀ c', c' = c → GG Γ K kc ks (N, σ, c', t) pc L st) : GG Γ K kc ks (N, σ, c, t) pc L st := kk c rfl
end ZT
theorem up_s (c : Nat → Nat → Int32) (k j : Nat) (v : Int32) : z_up c k j v k j = v := by unfold z_up; rw [if_pos rfl, if_pos rfl]
theorem up_k {c : Nat → Nat → Int32} {k j a : Nat} {v : Int32} (h : a ≠ k) (b : Nat) : z_up c k j v a b = c a b := by unfold z_up; rw [if_neg h]
theorem up_j {c : Nat → Nat → Int32} {k j b : Nat} {v : Int32} (a : Nat) (h : b ≠ j) : z_up c k j v a b = c a b := by
  unfold z_up
  rw [if_neg h]
  split <;> rfl
theorem up_K {c : Nat → Nat → Int32} {k j a : Nat} {v : Int32} (h : a ≠ k) : z_up c k j v a = c a := by funext b; exact up_k h b
theorem upL_s (t : Nat → Int64) (k : Nat) (v : Int64) : z_upL t k v k = v := by unfold z_upL; rw [if_pos rfl]
theorem upL_k {t : Nat → Int64} {k a : Nat} {v : Int64} (h : a ≠ k) : z_upL t k v a = t a := by unfold z_upL; rw [if_neg h]
end
section
/-! numbers as bits -/
theorem zn_bit (a i : Nat) : (a >>> i) &&& 1 = (a.testBit i).toNat := by
  rw [Nat.and_one_is_mod, Nat.toNat_testBit, Nat.shiftRight_eq_div_pow]
def zpc : Nat → Nat → Nat
  | 0, _ => 0
  | k + 1, a => zpc k a + (a.testBit k).toNat
abbrev zp8 (a : Nat) : Nat := zpc 8 a
def z_bc (x : Int32) : Int32 :=
  let u (y : Int32) (k : Nat) : Int32 := (y.toUInt32 >>> ((nI k).toUInt32 &&& Int32.toUInt32 31)).toInt32
  let x1 := x - (u x 1 &&& nI 1431655765)
  let x2 := (x1 &&& nI 858993459) + (u x1 2 &&& nI 858993459)
  let x3 := (x2 + u x2 4) &&& nI 252645135
  let x4 := x3 + u x3 8
  let x5 := x4 + u x4 16
  x5 &&& nI 63
theorem z_bc8 : ∀ a, a < 256 → z_bc (nI a) = nI (zp8 a) := by decide +kernel
theorem zp8_le : ∀ k a, zpc k a ≤ k
  | 0, _ => Nat.le_refl 0
  | k + 1, a => by
    have := zp8_le k a
    unfold zpc
    cases a.testBit k <;> simp <;> omega
theorem zp8_8 (a : Nat) : zp8 a ≤ 8 := zp8_le 8 a
/-- a row filled up to i -/
def z_fill (c : Nat → Nat → Int32) (k n : Nat) (x : Int32) : Nat → Nat → Int32 := fun a b => if a = k then (if b < n then x else c a b) else c a b
theorem z_fill_0 (c : Nat → Nat → Int32) (k : Nat) (x : Int32) : z_fill c k 0 x = c := by
  funext a b
  unfold z_fill
  split
  · rw [if_neg (by omega)]
  · rfl
theorem z_fill_s (c : Nat → Nat → Int32) (k n : Nat) (x : Int32) : z_up (z_fill c k n x) k n x = z_fill c k (n + 1) x := by
  funext a b
  unfold z_up z_fill
  by_cases h1 : a = k
  · simp only [if_pos h1]
    by_cases h2 : b = n
    · rw [if_pos h2, if_pos (by omega)]
    · rw [if_neg h2]
      by_cases h3 : b < n
      · rw [if_pos h3, if_pos (by omega)]
      · rw [if_neg h3, if_neg (by omega)]
  · simp only [if_neg h1]
theorem z_fill_k {c : Nat → Nat → Int32} {k n a : Nat} {x : Int32} (h : a ≠ k) : z_fill c k n x a = c a := by
  funext b
  unfold z_fill
  rw [if_neg h]
theorem z_fill_i {c : Nat → Nat → Int32} {k n b : Nat} {x : Int32} (h : b < n) : z_fill c k n x k b = x := by
  unfold z_fill
  rw [if_pos rfl, if_pos h]
set_option maxRecDepth 100000 in
theorem mmlX3_33 : Cond.methodLink RX3 33 Lib.Math.min.name ∈ tb ∧ Cond.static Lib.Math.min.name ∈ tb ∧ Cond.initialized "java/lang/Math" ∈ tb ∧ Cond.code Lib.Math.min.name Lib.Math.min.code 2 (some .int) ∈ tb := by decide +kernel
set_option maxRecDepth 100000 in
theorem mmlX4_87 : Cond.methodLink RX4 87 Lib.Math.min.name ∈ tb ∧ Cond.static Lib.Math.min.name ∈ tb ∧ Cond.initialized "java/lang/Math" ∈ tb ∧ Cond.code Lib.Math.min.name Lib.Math.min.code 2 (some .int) ∈ tb := by decide +kernel
set_option maxRecDepth 100000 in
theorem mmlX5_177 : Cond.methodLink RX5 177 Lib.Math.max.name ∈ tb ∧ Cond.static Lib.Math.max.name ∈ tb ∧ Cond.initialized "java/lang/Math" ∈ tb ∧ Cond.code Lib.Math.max.name Lib.Math.max.code 2 (some .int) ∈ tb := by decide +kernel
end
section
/-! the crew: what is told; who would sign -/
abbrev zCr : Type := Nat × (Nat → Nat) × (Nat → Nat) × (Nat → Nat) × Nat × Nat
abbrev cN (A : zCr) : Nat := A.1
abbrev cW (A : zCr) : Nat → Nat := A.2.1
abbrev cC (A : zCr) : Nat → Nat := A.2.2.1
abbrev cT (A : zCr) : Nat → Nat := A.2.2.2.1
abbrev cD (A : zCr) : Nat := A.2.2.2.2.1
abbrev cS (A : zCr) : Nat := A.2.2.2.2.2
def OkA (A : zCr) : Prop := cN A ≤ 7 ∧ (∀ i, i < cN A → cW A i ≤ 2) ∧ (∀ i, i < cN A → cC A i ≤ 7) ∧ (∀ i, i < cN A → cT A i ≤ 127) ∧ (1 ≤ cD A ∧ cD A ≤ 4) ∧ 1 ≤ cS A ∧ cS A ≤ 8
/-- the class's crew at a place -/
def CrC (p : Nat) (c : Nat → Nat → Int32) (A : zCr) : Prop := c p 3 = nI (cN A) ∧ c p 4 = nI (cD A) ∧ c p 5 = nI (cS A) ∧ (∀ i, i < cN A → c (p + 1) i = nI (cW A i)) ∧ (∀ i, i < cN A → c (p + 2) i = nI (cC A i)) ∧ ∀ i, i < cN A → c (p + 3) i = nI (cT A i)
def zAll (n : Nat) : Nat := (1 <<< n) - 1
def zTm (A : zCr) (s : Nat) : Nat := (cT A s &&& zAll (cN A)) &&& ((1 <<< s) ^^^ 4294967295)
def zDare (A : zCr) (s m : Nat) : Bool := decide (cC A s ≤ zp8 m) && (decide (cC A s = 0) || decide (0 < zTm A s &&& m))
def zInk (A : zCr) (k : Nat) : Nat := cD A - k % cD A
def zWi (A : zCr) : Nat → Nat → Nat
  | 0, b => b
  | s + 1, b => if zDare A s (zWi A s b) = true then zWi A s b ||| (1 <<< s) else zWi A s b
def zWr (A : zCr) : Nat → Nat → Nat
  | 0, b => b
  | r + 1, b => zWi A (cN A) (zWr A r b)
def zNC (A : zCr) (k s : Nat) : Nat := (k &&& ((1 <<< s) ^^^ 4294967295)) &&& (zTm A s ^^^ 4294967295)
def zIsC (A : zCr) (k : Nat) : Bool := decide (∀ s, s < cN A → k.testBit s = true → zNC A k s = 0)
def zCl (A : zCr) : Nat → Nat
  | 0 => 0
  | k + 1 => if zp8 (zCl A k) < zp8 k ∧ zIsC A k = true then k else zCl A k
theorem zs_pos (n : Nat) : 1 ≤ 1 <<< n := by rw [Nat.shiftLeft_eq, Nat.one_mul]; exact Nat.one_le_two_pow
theorem zs_le {n : Nat} (h : n ≤ 7) : 1 <<< n ≤ 128 := by
  rw [Nat.shiftLeft_eq, Nat.one_mul]
  exact Nat.pow_le_pow_right (by decide) h
theorem zAll_lt {n : Nat} (h : n ≤ 7) : zAll n < 128 := by
  have := zs_le h
  have := zs_pos n
  unfold zAll
  omega
theorem zor_lt {a s : Nat} (ha : a < 128) (hs : s < 7) : a ||| (1 <<< s) < 128 := by
  refine Nat.or_lt_two_pow (n := 7) ha ?_
  rw [Nat.shiftLeft_eq, Nat.one_mul]
  exact Nat.pow_lt_pow_right (by decide) hs
theorem zor_lt8 {a s : Nat} (ha : a < 256) (hs : s < 8) : a ||| (1 <<< s) < 256 := by
  refine Nat.or_lt_two_pow (n := 8) ha ?_
  rw [Nat.shiftLeft_eq, Nat.one_mul]
  exact Nat.pow_lt_pow_right (by decide) hs
theorem zand_r {a b n : Nat} (h : b < n) : a &&& b < n := Nat.lt_of_le_of_lt Nat.and_le_right h
theorem zand_l {a b n : Nat} (h : a < n) : a &&& b < n := Nat.lt_of_le_of_lt Nat.and_le_left h
theorem zTm_lt {A : zCr} (ok : OkA A) (s : Nat) : zTm A s < 128 := zand_l (zand_r (zAll_lt ok.1))
theorem zWi_lt {A : zCr} {b : Nat} (hb : b < 128) : ∀ s, s ≤ 7 → zWi A s b < 128
  | 0, _ => hb
  | s + 1, h => by
    have ih := zWi_lt (A := A) hb s (by omega)
    unfold zWi
    split
    · exact zor_lt ih (by omega)
    · exact ih
theorem zWr_lt {A : zCr} (ok : OkA A) {b : Nat} (hb : b < 128) : ∀ r, zWr A r b < 128
  | 0 => hb
  | r + 1 => zWi_lt (zWr_lt ok hb r) _ ok.1
theorem zCl_lt {A : zCr} : ∀ k, 0 < k → zCl A k < k
  | 0, h => absurd h (by decide)
  | k + 1, _ => by
    unfold zCl
    split
    · omega
    · by_cases hk : k = 0
      · subst hk; unfold zCl; omega
      · have := zCl_lt (A := A) k (by omega); omega
theorem zCl_le {A : zCr} (k : Nat) : zCl A k ≤ k := by
  by_cases h : 0 < k
  · exact Nat.le_of_lt (zCl_lt k h)
  · rw [show k = 0 by omega]; exact Nat.le_refl 0
theorem z_b1 {p : Prop} [Decidable p] (h : p) : nI 1 = nI (decide p).toNat := by rw [decide_eq_true h]; rfl
theorem z_b0 {p : Prop} [Decidable p] (h : ¬ p) : nI 0 = nI (decide p).toNat := by rw [decide_eq_false h]; rfl
theorem z_t1 {b : Bool} (h : b = true) : nI 1 = nI b.toNat := by rw [h]; rfl
theorem z_t0 {b : Bool} (h : b = false) : nI 0 = nI b.toNat := by rw [h]; rfl
end
section
/-! leaves: rows, bits, small numbers -/
set_option maxRecDepth 100000 in
set_option maxHeartbeats 4000000 in
theorem s_at {Γ : zG} {c : Nat → Nat → Int32} {t : Nat → Int64} {k n j : Nat} {x : Int32} {f : Nat → Option Nat} (hk : k < 68) (hs : sF k = .inl (0, n, f)) (hj : j < n) (hn : n < 2 ^ 31) (hx : c k j = x) : Sp Γ 0 mX5_at [.ref k, .int (nI j)] 0 0 (wF c t) (z_pi (fun v w => w = wF c t ∧ v = x)) := by
  refine Sp.of (own := RX5) 0 false rfl (by decide +kernel) rfl rfl (fun h => by cases h) (fun K hKd M => ?_)
  have C := M.1
  show GG Γ K 0 0 (wF c t) 0 [some (.ref k), some (.int (nI j))] []
  refine g_iload1 C dX5_at_0 ?_
  refine g_if_ltN C 16 (by omega) dX5_at_1 (by decide) (fun h => h.elim) (fun _ => ?_)
  refine g_iload1 C dX5_at_4 ?_
  refine g_aload0 C dX5_at_5 ?_
  refine g_alen C dX5_at_6 hk hs ?_
  refine g_icmp_geN C 16 (by omega) (by omega) dX5_at_7 (by decide) (fun h7 => absurd h7 (by omega)) (fun h7 => ?_)
  refine g_aload0 C dX5_at_10 ?_
  refine g_iload1 C dX5_at_11 ?_
  refine g_ialdE C hx (by omega) hn dX5_at_12 hk hs ?_
  refine g_goto C 17 dX5_at_13 (by decide) ?_
  exact g_reti M dX5_at_17 (⟨rfl, rfl⟩)
set_option maxRecDepth 100000 in
set_option maxHeartbeats 4000000 in
theorem s_put {Γ : zG} {c : Nat → Nat → Int32} {t : Nat → Int64} {k n j : Nat} {x : Int32} {f : Nat → Option Nat} (hk : k < 68) (hs : sF k = .inl (0, n, f)) (hj : j < n) (hn : n < 2 ^ 31) : Sp Γ 0 mX5_put [.ref k, .int (nI j), .int x] 0 0 (wF c t) (z_pv (fun w => w = wF (z_up c k j x) t)) := by
  refine Sp.of (own := RX5) 0 false rfl (by decide +kernel) rfl rfl (fun h => by cases h) (fun K hKd M => ?_)
  have C := M.1
  show GG Γ K 0 0 (wF c t) 0 [some (.ref k), some (.int (nI j)), some (.int x)] []
  refine g_iload1 C dX5_put_0 ?_
  refine g_if_ltN C 14 (by omega) dX5_put_1 (by decide) (fun h => h.elim) (fun _ => ?_)
  refine g_iload1 C dX5_put_4 ?_
  refine g_aload0 C dX5_put_5 ?_
  refine g_alen C dX5_put_6 hk hs ?_
  refine g_icmp_geN C 14 (by omega) (by omega) dX5_put_7 (by decide) (fun h7 => absurd h7 (by omega)) (fun h7 => ?_)
  refine g_aload0 C dX5_put_10 ?_
  refine g_iload1 C dX5_put_11 ?_
  refine g_iload2 C dX5_put_12 ?_
  refine g_iastN C (by omega) hn dX5_put_13 hk hs ?_
  exact g_retv M dX5_put_14 (rfl)
set_option maxRecDepth 100000 in
set_option maxHeartbeats 4000000 in
theorem s_has {Γ : zG} {w0 : zW} {a i : Nat} (ha : a < 2 ^ 31) (hi : i < 32) : Sp Γ 0 mX5_has [.int (nI a), .int (nI i)] 0 0 (w0) (z_pi (fun v w => w = w0 ∧ v = nI (a.testBit i).toNat)) := by
  refine Sp.of (own := RX5) 0 false rfl (by decide +kernel) rfl rfl (fun h => by cases h) (fun K hKd M => ?_)
  have C := M.1
  show GG Γ K 0 0 (w0) 0 [some (.int (nI a)), some (.int (nI i))] []
  refine g_iload1 C dX5_has_0 ?_
  refine g_if_ltN C 22 (by omega) dX5_has_1 (by decide) (fun h => h.elim) (fun _ => ?_)
  refine g_iload1 C dX5_has_4 ?_
  refine g_bipush C (nI 32) dX5_has_5 (by decide) ?_
  refine g_icmp_geN C 22 (by omega) (by omega) dX5_has_7 (by decide) (fun h7 => absurd h7 (by omega)) (fun h7 => ?_)
  refine g_iload0 C dX5_has_10 ?_
  refine g_iload1 C dX5_has_11 ?_
  refine g_iushrN C dX5_has_12 (by omega) (by omega) ?_
  refine g_iconst C (nI 1) dX5_has_13 (by decide) ?_
  refine g_iandN C dX5_has_14 ?_
  refine g_top (by rw [zn_bit]) ?_
  refine g_if_eqB C 22 dX5_has_15 (by decide) (fun h15 => ?_) (fun h15 => ?_)
  · -- X5_has 15t
    
    refine g_iconst C (nI 0) dX5_has_22 (by decide) ?_
    exact g_ret0 M dX5_has_23 (⟨rfl, by rw [h15]; rfl⟩)
  · -- X5_has 15f
    
    refine g_iconst C (nI 1) dX5_has_18 (by decide) ?_
    refine g_goto C 23 dX5_has_19 (by decide) ?_
    exact g_ret1 M dX5_has_23 (⟨rfl, by rw [h15]; rfl⟩)
set_option maxRecDepth 100000 in
set_option maxHeartbeats 4000000 in
theorem s_isPart {Γ : zG} {w0 : zW} {x : Int32} : Sp Γ 0 mX5_isPart [.int x] 0 0 (w0) (z_pi (fun v w => w = w0 ∧ v = nI (decide (x = nI 0 ∨ x = nI 1)).toNat)) := by
  refine Sp.of (own := RX5) 0 false rfl (by decide +kernel) rfl rfl (fun h => by cases h) (fun K hKd M => ?_)
  have C := M.1
  show GG Γ K 0 0 (w0) 0 [some (.int x)] []
  refine g_iload0 C dX5_isPart_0 ?_
  refine g_if_eq C 9 dX5_isPart_1 (by decide) (fun h1 => ?_) (fun h1 => ?_)
  · -- X5_isPart 1t
    refine g_iconst C (nI 1) dX5_isPart_9 (by decide) ?_
    refine g_goto C 14 dX5_isPart_10 (by decide) ?_
    exact g_ret1 M dX5_isPart_14 ⟨rfl, by rw [decide_eq_true (Or.inl (show x = nI 0 from h1))]; rfl⟩
  · -- X5_isPart 1f
    refine g_iload0 C dX5_isPart_4 ?_
    refine g_iconst C (nI 1) dX5_isPart_5 (by decide) ?_
    refine g_icmp_ne C 13 dX5_isPart_6 (by decide) (fun h6 => ?_) (fun h6 => ?_)
    · -- X5_isPart 6t
      refine g_iconst C (nI 0) dX5_isPart_13 (by decide) ?_
      exact g_ret0 M dX5_isPart_14 ⟨rfl, by rw [decide_eq_false (by rintro (h | h); exact h1 h; exact h6 h)]; rfl⟩
    · -- X5_isPart 6f
      refine g_iconst C (nI 1) dX5_isPart_9 (by decide) ?_
      refine g_goto C 14 dX5_isPart_10 (by decide) ?_
      exact g_ret1 M dX5_isPart_14 (⟨rfl, by rw [decide_eq_true (Or.inr h6)]; rfl⟩)
set_option maxRecDepth 100000 in
set_option maxHeartbeats 4000000 in
theorem s_bc {Γ : zG} {w0 : zW} {a : Nat} (ha : a < 256) : Sp Γ 0 mJ6_bitCount_0f7a4 [.int (nI a)] 0 0 (w0) (z_pi (fun v w => w = w0 ∧ v = nI (zp8 a))) := by
  refine Sp.of (own := RJ6) 0 false rfl (by decide +kernel) rfl rfl (fun h => by cases h) (fun K hKd M => ?_)
  have C := M.1
  show GG Γ K 0 0 (w0) 0 [some (.int (nI a))] []
  refine g_iload0 C dJ6_bitCount_0f7a4_0 ?_
  refine g_iload0 C dJ6_bitCount_0f7a4_1 ?_
  refine g_iconst C (nI 1) dJ6_bitCount_0f7a4_2 (by decide) ?_
  refine g_iushr C dJ6_bitCount_0f7a4_3 ?_
  refine g_ldcw C _ dJ6_bitCount_0f7a4_4 kkJ6_265 ?_
  refine g_top (show (1431655765 : Int32) = nI 1431655765 by decide) ?_
  refine g_iand C dJ6_bitCount_0f7a4_7 ?_
  refine g_isub C dJ6_bitCount_0f7a4_8 ?_
  refine g_istore0 C dJ6_bitCount_0f7a4_9 ?_
  refine g_iload0 C dJ6_bitCount_0f7a4_10 ?_
  refine g_ldcw C _ dJ6_bitCount_0f7a4_11 kkJ6_266 ?_
  refine g_top (show (858993459 : Int32) = nI 858993459 by decide) ?_
  refine g_iand C dJ6_bitCount_0f7a4_14 ?_
  refine g_iload0 C dJ6_bitCount_0f7a4_15 ?_
  refine g_iconst C (nI 2) dJ6_bitCount_0f7a4_16 (by decide) ?_
  refine g_iushr C dJ6_bitCount_0f7a4_17 ?_
  refine g_ldcw C _ dJ6_bitCount_0f7a4_18 kkJ6_266 ?_
  refine g_top (show (858993459 : Int32) = nI 858993459 by decide) ?_
  refine g_iand C dJ6_bitCount_0f7a4_21 ?_
  refine g_iadd C dJ6_bitCount_0f7a4_22 ?_
  refine g_istore0 C dJ6_bitCount_0f7a4_23 ?_
  refine g_iload0 C dJ6_bitCount_0f7a4_24 ?_
  refine g_iload0 C dJ6_bitCount_0f7a4_25 ?_
  refine g_iconst C (nI 4) dJ6_bitCount_0f7a4_26 (by decide) ?_
  refine g_iushr C dJ6_bitCount_0f7a4_27 ?_
  refine g_iadd C dJ6_bitCount_0f7a4_28 ?_
  refine g_ldcw C _ dJ6_bitCount_0f7a4_29 kkJ6_267 ?_
  refine g_top (show (252645135 : Int32) = nI 252645135 by decide) ?_
  refine g_iand C dJ6_bitCount_0f7a4_32 ?_
  refine g_istore0 C dJ6_bitCount_0f7a4_33 ?_
  refine g_iload0 C dJ6_bitCount_0f7a4_34 ?_
  refine g_iload0 C dJ6_bitCount_0f7a4_35 ?_
  refine g_bipush C (nI 8) dJ6_bitCount_0f7a4_36 (by decide) ?_
  refine g_iushr C dJ6_bitCount_0f7a4_38 ?_
  refine g_iadd C dJ6_bitCount_0f7a4_39 ?_
  refine g_istore0 C dJ6_bitCount_0f7a4_40 ?_
  refine g_iload0 C dJ6_bitCount_0f7a4_41 ?_
  refine g_iload0 C dJ6_bitCount_0f7a4_42 ?_
  refine g_bipush C (nI 16) dJ6_bitCount_0f7a4_43 (by decide) ?_
  refine g_iushr C dJ6_bitCount_0f7a4_45 ?_
  refine g_iadd C dJ6_bitCount_0f7a4_46 ?_
  refine g_istore0 C dJ6_bitCount_0f7a4_47 ?_
  refine g_iload0 C dJ6_bitCount_0f7a4_48 ?_
  refine g_bipush C (nI 63) dJ6_bitCount_0f7a4_49 (by decide) ?_
  refine g_iand C dJ6_bitCount_0f7a4_51 ?_
  exact g_reti M dJ6_bitCount_0f7a4_52 (⟨rfl, z_bc8 a ha⟩)
set_option maxRecDepth 100000 in
set_option maxHeartbeats 4000000 in
theorem s_fill {Γ : zG} {c : Nat → Nat → Int32} {t : Nat → Int64} {k n0 : Nat} {x : Int32} {f : Nat → Option Nat} (hk : k < 68) (hs : sF k = .inl (0, n0, f)) (hn : n0 < 2 ^ 31) : Sp Γ 0 mJ7_fill_53178 [.ref k, .int x] 0 0 (wF c t) (z_pv (fun w => w = wF (z_fill c k n0 x) t)) := by
  refine Sp.of (own := RJ7) 2 false rfl (by decide +kernel) rfl rfl (fun h => by cases h) (fun K hKd M => ?_)
  have C := M.1
  show GG Γ K 0 0 (wF c t) 0 [some (.ref k), some (.int x), none, none] []
  have H5 : ∀ (n : Nat) (i : Nat), i ≤ n0 → n0 - i < n → GG Γ K 0 0 (wF (z_fill c k i x) t) 5 [some (.ref k), some (.int x), some (.int (nI i)), some (.int (nI n0))] [] := by
    intro n
    induction n with
    | zero => intro i hi hm; exact absurd hm (by omega)
    | succ n ih =>
      intro i hi hm
      refine g_iload2 C dJ7_fill_53178_5 ?_
      refine g_iload3 C dJ7_fill_53178_6 ?_
      refine g_icmp_geN C 20 (by omega) (by omega) dJ7_fill_53178_7 (by decide) (fun h7 => ?_) (fun h7 => ?_)
      · -- J7_fill_53178 7t
        have : i = n0 := by omega
        subst this
        exact g_retv M dJ7_fill_53178_20 rfl
      · -- J7_fill_53178 7f
        refine g_aload0 C dJ7_fill_53178_10 ?_
        refine g_iload2 C dJ7_fill_53178_11 ?_
        refine g_iload1 C dJ7_fill_53178_12 ?_
        refine g_iastN C (by omega) hn dJ7_fill_53178_13 hk hs ?_
        refine g_con (z_fill_s c k _ x) rfl ?_
        refine g_iinc2N C dJ7_fill_53178_14 ?_
        refine g_goto C 5 dJ7_fill_53178_17 (by decide) ?_
        exact ih (i + 1) (by omega) (by omega)
  refine g_iconst C (nI 0) dJ7_fill_53178_0 (by decide) ?_
  refine g_istore2 C dJ7_fill_53178_1 ?_
  refine g_aload0 C dJ7_fill_53178_2 ?_
  refine g_alen C dJ7_fill_53178_3 hk hs ?_
  refine g_istore3 C dJ7_fill_53178_4 ?_
  refine g_con (z_fill_0 c k x).symm rfl ?_
  exact H5 (n0 + 1) 0 (by omega) (by omega)
end
section
/-! the crew -/
set_option maxRecDepth 100000 in
set_option maxHeartbeats 4000000 in
theorem s_all {Γ : zG} {c : Nat → Nat → Int32} {t : Nat → Int64} {A : zCr} (ok : OkA A) (hA : CrC 3 c A)  : Sp Γ 0 mX0_all [.ref 3] 0 0 (wF c t) (z_pi (fun v w => w = wF c t ∧ v = nI (zAll (cN A)))) := by
  refine Sp.of (own := RX0) 0 false rfl (by decide +kernel) rfl rfl (fun h => by cases h) (fun K hKd M => ?_)
  have C := M.1
  show GG Γ K 0 0 (wF c t) 0 [some (.ref 3)] []
  refine g_iconst C (nI 1) dX0_all_0 (by decide) ?_
  refine g_aload0 C dX0_all_1 ?_
  refine g_getIE C hA.1 dX0_all_2 flX0_28 (show 3 < 68 by decide) rfl rfl ?_
  refine g_ishlN C dX0_all_5 (by have := ok.1; omega) ?_
  refine g_iconst C (nI 1) dX0_all_6 (by decide) ?_
  refine g_isubN C dX0_all_7 (zs_pos _) ?_
  exact g_reti M dX0_all_8 (⟨rfl, rfl⟩)
set_option maxRecDepth 100000 in
set_option maxHeartbeats 4000000 in
theorem s_trusted {Γ : zG} {c : Nat → Nat → Int32} {t : Nat → Int64} {A : zCr} (ok : OkA A) (hA : CrC 3 c A) {s : Nat} (hs : s < cN A) : Sp Γ 1 mX0_trusted [.ref 3, .int (nI s)] 0 0 (wF c t) (z_pi (fun v w => w = wF c t ∧ v = nI (zTm A s))) := by
  refine Sp.of (own := RX0) 0 false rfl (by decide +kernel) rfl rfl (fun h => by cases h) (fun K hKd M => ?_)
  have C := M.1
  show GG Γ K 0 0 (wF c t) 0 [some (.ref 3), some (.int (nI s))] []
  refine g_aload0 C dX0_trusted_0 ?_
  refine g_getRT C dX0_trusted_1 flX0_18 (show 3 < 68 by decide) rfl rfl (by decide) ?_
  refine g_iload1 C dX0_trusted_4 ?_
  refine g_callS2i C dX0_trusted_5 slX0_38 (s_at (by decide) rfl (by have := ok.1; omega) (by decide) (hA.2.2.2.2.2 s hs)) hKd (by first | decide | omega) rfl (Nat.le_of_ble_eq_true rfl) ?_
  rintro _ _ ⟨rfl, rfl⟩
  refine g_aload0 C dX0_trusted_8 ?_
  refine g_callV0i C dX0_trusted_9 vlX0_46 (s_all ok hA) hKd (by first | decide | omega) rfl (Nat.le_of_ble_eq_true rfl) (show 3 < 68 by decide) rfl ?_
  rintro _ _ ⟨rfl, rfl⟩
  refine g_iandN C dX0_trusted_12 ?_
  refine g_iconst C (nI 1) dX0_trusted_13 (by decide) ?_
  refine g_iload1 C dX0_trusted_14 ?_
  refine g_ishlN C dX0_trusted_15 (by have := ok.1; omega) ?_
  refine g_iconst C (nI 4294967295) dX0_trusted_16 (by decide) ?_
  refine g_ixorN C dX0_trusted_17 ?_
  refine g_iandN C dX0_trusted_18 ?_
  exact g_reti M dX0_trusted_19 (⟨rfl, rfl⟩)
set_option maxRecDepth 100000 in
set_option maxHeartbeats 4000000 in
theorem s_isOnDeck {Γ : zG} {c : Nat → Nat → Int32} {t : Nat → Int64} {A : zCr} (ok : OkA A) (hA : CrC 3 c A) {s h : Nat} (hs : s < cN A) (hh : h < 2 ^ 31) : Sp Γ 1 mX0_isOnDeck [.ref 3, .int (nI s), .int (nI h)] 0 0 (wF c t) (z_pi (fun v w => w = wF c t ∧ v = nI (decide (h % 3 = cW A s)).toNat)) := by
  refine Sp.of (own := RX0) 0 false rfl (by decide +kernel) rfl rfl (fun h => by cases h) (fun K hKd M => ?_)
  have C := M.1
  show GG Γ K 0 0 (wF c t) 0 [some (.ref 3), some (.int (nI s)), some (.int (nI h))] []
  refine g_iload2 C dX0_isOnDeck_0 ?_
  refine g_iconst C (nI 3) dX0_isOnDeck_1 (by decide) ?_
  refine g_iremN C dX0_isOnDeck_2 (by omega) (by omega) (by omega) ?_
  refine g_aload0 C dX0_isOnDeck_3 ?_
  refine g_getRT C dX0_isOnDeck_4 flX0_9 (show 3 < 68 by decide) rfl rfl (by decide) ?_
  refine g_iload1 C dX0_isOnDeck_7 ?_
  refine g_callS2i C dX0_isOnDeck_8 slX0_38 (s_at (by decide) rfl (by have := ok.1; omega) (by decide) (hA.2.2.2.1 s hs)) hKd (by first | decide | omega) rfl (Nat.le_of_ble_eq_true rfl) ?_
  rintro _ _ ⟨rfl, rfl⟩
  refine g_icmp_neN C 18 (by omega) (by have := ok.2.1 s hs; omega) dX0_isOnDeck_11 (by decide) (fun h11 => ?_) (fun h11 => ?_)
  · -- X0_isOnDeck 11t
    refine g_iconst C (nI 0) dX0_isOnDeck_18 (by decide) ?_
    exact g_ret0 M dX0_isOnDeck_19 (⟨rfl, z_b0 h11⟩)
  · -- X0_isOnDeck 11f
    refine g_iconst C (nI 1) dX0_isOnDeck_14 (by decide) ?_
    refine g_goto C 19 dX0_isOnDeck_15 (by decide) ?_
    exact g_ret1 M dX0_isOnDeck_19 (⟨rfl, z_b1 h11⟩)
set_option maxRecDepth 100000 in
set_option maxHeartbeats 4000000 in
theorem s_dares {Γ : zG} {c : Nat → Nat → Int32} {t : Nat → Int64} {A : zCr} (ok : OkA A) (hA : CrC 3 c A) {s m : Nat} (hs : s < cN A) (hm : m < 128) : Sp Γ 2 mX0_dares [.ref 3, .int (nI s), .int (nI m)] 0 0 (wF c t) (z_pi (fun v w => w = wF c t ∧ v = nI (zDare A s m).toNat)) := by
  refine Sp.of (own := RX0) 1 false rfl (by decide +kernel) rfl rfl (fun h => by cases h) (fun K hKd M => ?_)
  have C := M.1
  show GG Γ K 0 0 (wF c t) 0 [some (.ref 3), some (.int (nI s)), some (.int (nI m)), none] []
  refine g_aload0 C dX0_dares_0 ?_
  refine g_getRT C dX0_dares_1 flX0_15 (show 3 < 68 by decide) rfl rfl (by decide) ?_
  refine g_iload1 C dX0_dares_4 ?_
  refine g_callS2i C dX0_dares_5 slX0_38 (s_at (by decide) rfl (by have := ok.1; omega) (by decide) (hA.2.2.2.2.1 s hs)) hKd (by first | decide | omega) rfl (Nat.le_of_ble_eq_true rfl) ?_
  rintro _ _ ⟨rfl, rfl⟩
  refine g_istore3 C dX0_dares_8 ?_
  refine g_iload2 C dX0_dares_9 ?_
  refine g_callS1i C dX0_dares_10 slX0_50 (s_bc (by omega)) hKd (by first | decide | omega) rfl (Nat.le_of_ble_eq_true rfl) ?_
  rintro _ _ ⟨rfl, rfl⟩
  refine g_iload3 C dX0_dares_13 ?_
  refine g_icmp_ltN C 35 (by have := zp8_8 m; omega) (by have := ok.2.2.1 s hs; omega) dX0_dares_14 (by decide) (fun h14 => ?_) (fun h14 => ?_)
  · -- X0_dares 14t
    
    refine g_iconst C (nI 0) dX0_dares_35 (by decide) ?_
    exact g_ret0 M dX0_dares_36 (⟨rfl, z_t0 (by unfold zDare; simp; omega)⟩)
  · -- X0_dares 14f
    refine g_iload3 C dX0_dares_17 ?_
    refine g_if_eqN C 31 (by have := ok.2.2.1 s hs; omega) dX0_dares_18 (by decide) (fun h18 => ?_) (fun h18 => ?_)
    · -- X0_dares 18t
      refine g_iconst C (nI 1) dX0_dares_31 (by decide) ?_
      refine g_goto C 36 dX0_dares_32 (by decide) ?_
      exact g_ret1 M dX0_dares_36 (⟨rfl, z_t1 (by unfold zDare; simp; omega)⟩)
    · -- X0_dares 18f
      refine g_aload0 C dX0_dares_21 ?_
      refine g_iload1 C dX0_dares_22 ?_
      refine g_callV1i C dX0_dares_23 vlX0_56 (s_trusted ok hA hs) hKd (by first | decide | omega) rfl (Nat.le_of_ble_eq_true rfl) (show 3 < 68 by decide) rfl ?_
      rintro _ _ ⟨rfl, rfl⟩
      refine g_iload2 C dX0_dares_26 ?_
      refine g_iandN C dX0_dares_27 ?_
      refine g_if_eqN C 35 (zand_r (by omega)) dX0_dares_28 (by decide) (fun h28 => ?_) (fun h28 => ?_)
      · -- X0_dares 28t
        refine g_iconst C (nI 0) dX0_dares_35 (by decide) ?_
        exact g_ret0 M dX0_dares_36 (⟨rfl, z_t0 (by unfold zDare; simp; omega)⟩)
      · -- X0_dares 28f
        refine g_iconst C (nI 1) dX0_dares_31 (by decide) ?_
        refine g_goto C 36 dX0_dares_32 (by decide) ?_
        exact g_ret1 M dX0_dares_36 (⟨rfl, z_t1 (by unfold zDare; simp; omega)⟩)
set_option maxRecDepth 100000 in
set_option maxHeartbeats 4000000 in
theorem s_inkBehind {Γ : zG} {c : Nat → Nat → Int32} {t : Nat → Int64} {A : zCr} (ok : OkA A) (hA : CrC 3 c A) {k : Nat} (hk : k < 2 ^ 31) : Sp Γ 0 mX0_inkBehind [.ref 3, .int (nI k)] 0 0 (wF c t) (z_pi (fun v w => w = wF c t ∧ v = nI (zInk A k))) := by
  refine Sp.of (own := RX0) 0 false rfl (by decide +kernel) rfl rfl (fun h => by cases h) (fun K hKd M => ?_)
  have C := M.1
  show GG Γ K 0 0 (wF c t) 0 [some (.ref 3), some (.int (nI k))] []
  refine g_aload0 C dX0_inkBehind_0 ?_
  refine g_getIE C hA.2.1 dX0_inkBehind_1 flX0_21 (show 3 < 68 by decide) rfl rfl ?_
  refine g_if_leN C 21 (by have := ok.2.2.2.2.1; omega) dX0_inkBehind_4 (by decide) (fun h4 => absurd h4 (by have := ok.2.2.2.2.1; omega)) (fun h4 => ?_)
  refine g_aload0 C dX0_inkBehind_7 ?_
  refine g_getIE C hA.2.1 dX0_inkBehind_8 flX0_21 (show 3 < 68 by decide) rfl rfl ?_
  refine g_iload1 C dX0_inkBehind_11 ?_
  refine g_aload0 C dX0_inkBehind_12 ?_
  refine g_getIE C hA.2.1 dX0_inkBehind_13 flX0_21 (show 3 < 68 by decide) rfl rfl ?_
  refine g_iremN C dX0_inkBehind_16 (by omega) (by have := ok.2.2.2.2.1; omega) (by have := ok.2.2.2.2.1; omega) ?_
  refine g_isubN C dX0_inkBehind_17 (Nat.le_of_lt (Nat.mod_lt _ (by have := ok.2.2.2.2.1; omega))) ?_
  refine g_goto C 22 dX0_inkBehind_18 (by decide) ?_
  exact g_reti M dX0_inkBehind_22 (⟨rfl, rfl⟩)
set_option maxRecDepth 100000 in
set_option maxHeartbeats 4000000 in
theorem s_send {Γ : zG} {c : Nat → Nat → Int32} {t : Nat → Int64} {A : zCr} (ok : OkA A) (hA : CrC 3 c A) {m : Nat} (hm : m < 128) : Sp Γ 3 mX0_signedInTheEnd [.ref 3, .int (nI m)] 0 0 (wF c t) (z_pi (fun v w => w = wF c t ∧ v = nI (zWr A 7 m))) := by
  refine Sp.of (own := RX0) 3 false rfl (by decide +kernel) rfl rfl (fun h => by cases h) (fun K hKd M => ?_)
  have C := M.1
  show GG Γ K 0 0 (wF c t) 0 [some (.ref 3), some (.int (nI m)), none, none, none] []
  have H13a : ∀ r, r < 7 → GG Γ K 0 0 (wF c t) 45 [some (.ref 3), some (.int (nI m)), some (.int (nI (zWr A (r + 1) m))), some (.int (nI r)), some (.int (nI (cN A)))] [] → GG Γ K 0 0 (wF c t) 13 [some (.ref 3), some (.int (nI m)), some (.int (nI (zWr A r m))), some (.int (nI r)), some (.int (nI 0))] [] := by
    intro r hr hexit
    have H13 : ∀ (n : Nat) (s : Nat), s ≤ cN A → cN A - s < n → GG Γ K 0 0 (wF c t) 13 [some (.ref 3), some (.int (nI m)), some (.int (nI (zWi A s (zWr A r m)))), some (.int (nI r)), some (.int (nI s))] [] := by
      intro n
      induction n with
      | zero => intro s hs hm2; exact absurd hm2 (by omega)
      | succ n ih =>
        intro s hs hm2
        refine g_iload4 C dX0_signedInTheEnd_13 ?_
        refine g_aload0 C dX0_signedInTheEnd_15 ?_
        refine g_getIE C hA.1 dX0_signedInTheEnd_16 flX0_28 (show 3 < 68 by decide) rfl rfl ?_
        refine g_icmp_geN C 45 (by have := ok.1; omega) (by have := ok.1; omega) dX0_signedInTheEnd_19 (by decide) (fun h19 => ?_) (fun h19 => ?_)
        · -- X0_signedInTheEnd 19t
          obtain rfl : s = cN A := by omega
          exact hexit
        · -- X0_signedInTheEnd 19f
          refine g_aload0 C dX0_signedInTheEnd_22 ?_
          refine g_iload4 C dX0_signedInTheEnd_23 ?_
          refine g_iload2 C dX0_signedInTheEnd_25 ?_
          refine g_callV2i C dX0_signedInTheEnd_26 vlX0_59 (s_dares ok hA (by omega) (zWi_lt (zWr_lt ok hm r) s (by have := ok.1; omega))) hKd (by first | decide | omega) rfl (Nat.le_of_ble_eq_true rfl) (show 3 < 68 by decide) rfl ?_
          rintro _ _ ⟨rfl, rfl⟩
          refine g_if_eqB C 39 dX0_signedInTheEnd_29 (by decide) (fun h29 => ?_) (fun h29 => ?_)
          · -- X0_signedInTheEnd 29t
            refine g_set (L' := [some (.ref 3), some (.int (nI m)), some (.int (nI (zWi A (s + 1) (zWr A r m)))), some (.int (nI r)), some (.int (nI s))]) rfl (by rw [show zWi A (s + 1) (zWr A r m) = zWi A s (zWr A r m) by rw [zWi, if_neg (by rw [h29]; decide)]]) rfl ?_
            refine g_iinc4N C dX0_signedInTheEnd_39 ?_
            refine g_goto C 13 dX0_signedInTheEnd_42 (by decide) ?_
            exact ih (s + 1) (by omega) (by omega)
          · -- X0_signedInTheEnd 29f
            
            refine g_iload2 C dX0_signedInTheEnd_32 ?_
            refine g_iconst C (nI 1) dX0_signedInTheEnd_33 (by decide) ?_
            refine g_iload4 C dX0_signedInTheEnd_34 ?_
            refine g_ishlN C dX0_signedInTheEnd_36 (by have := ok.1; omega) ?_
            refine g_iorN C dX0_signedInTheEnd_37 ?_
            refine g_istore2 C dX0_signedInTheEnd_38 ?_
            refine g_set (L' := [some (.ref 3), some (.int (nI m)), some (.int (nI (zWi A (s + 1) (zWr A r m)))), some (.int (nI r)), some (.int (nI s))]) rfl (by rw [show zWi A (s + 1) (zWr A r m) = zWi A s (zWr A r m) ||| (1 <<< s) by rw [zWi, if_pos h29]]) rfl ?_
            refine g_iinc4N C dX0_signedInTheEnd_39 ?_
            refine g_goto C 13 dX0_signedInTheEnd_42 (by decide) ?_
            exact ih (s + 1) (by omega) (by omega)
    exact H13 (cN A + 1) 0 (Nat.zero_le _) (by omega)
  have H4 : ∀ (n : Nat) (r : Nat) (x : Option Value), r ≤ 7 → 7 - r < n → GG Γ K 0 0 (wF c t) 4 [some (.ref 3), some (.int (nI m)), some (.int (nI (zWr A r m))), some (.int (nI r)), x] [] := by
    intro n
    induction n with
    | zero => intro r x hr hm3; exact absurd hm3 (by omega)
    | succ n ih =>
      intro r x hr hm3
      refine g_iload3 C dX0_signedInTheEnd_4 ?_
      refine g_bipush C (nI 7) dX0_signedInTheEnd_5 (by decide) ?_
      refine g_icmp_geN C 51 (by omega) (by omega) dX0_signedInTheEnd_7 (by decide) (fun h7 => ?_) (fun h7 => ?_)
      · -- X0_signedInTheEnd 7t
        obtain rfl : r = 7 := by omega
        refine g_iload2 C dX0_signedInTheEnd_51 ?_
        exact g_reti M dX0_signedInTheEnd_52 (⟨rfl, rfl⟩)
      · -- X0_signedInTheEnd 7f
        refine g_iconst C (nI 0) dX0_signedInTheEnd_10 (by decide) ?_
        refine g_istore4 C dX0_signedInTheEnd_11 ?_
        refine H13a r (by omega) ?_
        refine g_iinc3N C dX0_signedInTheEnd_45 ?_
        refine g_goto C 4 dX0_signedInTheEnd_48 (by decide) ?_
        exact ih (r + 1) _ (by omega) (by omega)
  refine g_iload1 C dX0_signedInTheEnd_0 ?_
  refine g_istore2 C dX0_signedInTheEnd_1 ?_
  refine g_iconst C (nI 0) dX0_signedInTheEnd_2 (by decide) ?_
  refine g_istore3 C dX0_signedInTheEnd_3 ?_
  exact H4 8 0 _ (by omega) (by omega)
set_option maxRecDepth 100000 in
set_option maxHeartbeats 4000000 in
theorem s_isClique {Γ : zG} {c : Nat → Nat → Int32} {t : Nat → Int64} {A : zCr} (ok : OkA A) (hA : CrC 3 c A) {k : Nat} (hk : k < 128) : Sp Γ 2 mX0_isClique [.ref 3, .int (nI k)] 0 0 (wF c t) (z_pi (fun v w => w = wF c t ∧ v = nI (zIsC A k).toNat)) := by
  refine Sp.of (own := RX0) 1 false rfl (by decide +kernel) rfl rfl (fun h => by cases h) (fun K hKd M => ?_)
  have C := M.1
  show GG Γ K 0 0 (wF c t) 0 [some (.ref 3), some (.int (nI k)), none] []
  have H2 : ∀ (n : Nat) (s : Nat), s ≤ cN A → (∀ q, q < s → k.testBit q = true → zNC A k q = 0) → cN A - s < n → GG Γ K 0 0 (wF c t) 2 [some (.ref 3), some (.int (nI k)), some (.int (nI s))] [] := by
    intro n
    induction n with
    | zero => intro s hs hq hm2; exact absurd hm2 (by omega)
    | succ n ih =>
      intro s hs hq hm2
      refine g_iload2 C dX0_isClique_2 ?_
      refine g_aload0 C dX0_isClique_3 ?_
      refine g_getIE C hA.1 dX0_isClique_4 flX0_28 (show 3 < 68 by decide) rfl rfl ?_
      refine g_icmp_geN C 44 (by have := ok.1; omega) (by have := ok.1; omega) dX0_isClique_7 (by decide) (fun h7 => ?_) (fun h7 => ?_)
      · -- X0_isClique 7t
        refine g_iconst C (nI 1) dX0_isClique_44 (by decide) ?_
        exact g_ret1 M dX0_isClique_45 (⟨rfl, z_b1 (fun q h1 h2 => hq q (by omega) h2)⟩)
      · -- X0_isClique 7f
        refine g_iload1 C dX0_isClique_10 ?_
        refine g_iload2 C dX0_isClique_11 ?_
        refine g_callS2i C dX0_isClique_12 slX0_67 (s_has (by omega) (by have := ok.1; omega)) hKd (by first | decide | omega) rfl (Nat.le_of_ble_eq_true rfl) ?_
        rintro _ _ ⟨rfl, rfl⟩
        refine g_if_eqB C 38 dX0_isClique_15 (by decide) (fun h15 => ?_) (fun h15 => ?_)
        · -- X0_isClique 15t
          refine g_iinc2N C dX0_isClique_38 ?_
          refine g_goto C 2 dX0_isClique_41 (by decide) ?_
          exact ih (s + 1) (by omega) (fun q h1 h2 => by by_cases e : q = s; (subst e; rw [h15] at h2; cases h2); exact hq q (by omega) h2) (by omega)
        · -- X0_isClique 15f
          refine g_iload1 C dX0_isClique_18 ?_
          refine g_iconst C (nI 1) dX0_isClique_19 (by decide) ?_
          refine g_iload2 C dX0_isClique_20 ?_
          refine g_ishlN C dX0_isClique_21 (by have := ok.1; omega) ?_
          refine g_iconst C (nI 4294967295) dX0_isClique_22 (by decide) ?_
          refine g_ixorN C dX0_isClique_23 ?_
          refine g_iandN C dX0_isClique_24 ?_
          refine g_aload0 C dX0_isClique_25 ?_
          refine g_iload2 C dX0_isClique_26 ?_
          refine g_callV1i C dX0_isClique_27 vlX0_56 (s_trusted ok hA (by omega)) hKd (by first | decide | omega) rfl (Nat.le_of_ble_eq_true rfl) (show 3 < 68 by decide) rfl ?_
          rintro _ _ ⟨rfl, rfl⟩
          refine g_iconst C (nI 4294967295) dX0_isClique_30 (by decide) ?_
          refine g_ixorN C dX0_isClique_31 ?_
          refine g_iandN C dX0_isClique_32 ?_
          refine g_if_eqN C 38 (zand_l (zand_l (by omega))) dX0_isClique_33 (by decide) (fun h33 => ?_) (fun h33 => ?_)
          · -- X0_isClique 33t
            refine g_iinc2N C dX0_isClique_38 ?_
            refine g_goto C 2 dX0_isClique_41 (by decide) ?_
            exact ih (s + 1) (by omega) (fun q h1 h2 => by by_cases e : q = s; (subst e; exact h33); exact hq q (by omega) h2) (by omega)
          · -- X0_isClique 33f
            refine g_iconst C (nI 0) dX0_isClique_36 (by decide) ?_
            exact g_ret0 M dX0_isClique_37 (⟨rfl, z_b0 (fun q => absurd (q s (by omega) h15) (by unfold zNC; omega))⟩)
  refine g_iconst C (nI 0) dX0_isClique_0 (by decide) ?_
  refine g_istore2 C dX0_isClique_1 ?_
  exact H2 (cN A + 1) 0 (Nat.zero_le _) (fun q h => absurd h (by omega)) (by omega)
set_option maxRecDepth 100000 in
set_option maxHeartbeats 4000000 in
theorem s_lcl {Γ : zG} {c : Nat → Nat → Int32} {t : Nat → Int64} {A : zCr} (ok : OkA A) (hA : CrC 3 c A)  : Sp Γ 3 mX0_largestClique [.ref 3] 0 0 (wF c t) (z_pi (fun v w => w = wF c t ∧ v = nI (zCl A (zAll (cN A) + 1)))) := by
  refine Sp.of (own := RX0) 2 false rfl (by decide +kernel) rfl rfl (fun h => by cases h) (fun K hKd M => ?_)
  have C := M.1
  show GG Γ K 0 0 (wF c t) 0 [some (.ref 3), none, none] []
  have H4 : ∀ (n : Nat) (k : Nat), k ≤ zAll (cN A) + 1 → zAll (cN A) + 1 - k < n → GG Γ K 0 0 (wF c t) 4 [some (.ref 3), some (.int (nI (zCl A k))), some (.int (nI k))] [] := by
    intro n
    induction n with
    | zero => intro k hk hm2; exact absurd hm2 (by omega)
    | succ n ih =>
      intro k hk hm2
      have hal := zAll_lt ok.1
      refine g_iload2 C dX0_largestClique_4 ?_
      refine g_aload0 C dX0_largestClique_5 ?_
      refine g_callV0i C dX0_largestClique_6 vlX0_46 (s_all ok hA) hKd (by first | decide | omega) rfl (Nat.le_of_ble_eq_true rfl) (show 3 < 68 by decide) rfl ?_
      rintro _ _ ⟨rfl, rfl⟩
      refine g_icmp_gtN C 39 (by omega) (by omega) dX0_largestClique_9 (by decide) (fun h9 => ?_) (fun h9 => ?_)
      · -- X0_largestClique 9t
        obtain rfl : k = zAll (cN A) + 1 := by omega
        refine g_iload1 C dX0_largestClique_39 ?_
        exact g_reti M dX0_largestClique_40 (⟨rfl, rfl⟩)
      · -- X0_largestClique 9f
        have hcl := zCl_le (A := A) k
        refine g_iload2 C dX0_largestClique_12 ?_
        refine g_callS1i C dX0_largestClique_13 slX0_50 (s_bc (by omega)) hKd (by first | decide | omega) rfl (Nat.le_of_ble_eq_true rfl) ?_
        rintro _ _ ⟨rfl, rfl⟩
        refine g_iload1 C dX0_largestClique_16 ?_
        refine g_callS1i C dX0_largestClique_17 slX0_50 (s_bc (by omega)) hKd (by first | decide | omega) rfl (Nat.le_of_ble_eq_true rfl) ?_
        rintro _ _ ⟨rfl, rfl⟩
        refine g_icmp_leN C 33 (by have := zp8_8 k; omega) (by have := zp8_8 (zCl A k); omega) dX0_largestClique_20 (by decide) (fun h20 => ?_) (fun h20 => ?_)
        · -- X0_largestClique 20t
          refine g_set (L' := [some (.ref 3), some (.int (nI (zCl A (k + 1)))), some (.int (nI k))]) rfl (by rw [show zCl A (k + 1) = zCl A k by rw [zCl, if_neg (by omega)]]) rfl ?_
          refine g_iinc2N C dX0_largestClique_33 ?_
          refine g_goto C 4 dX0_largestClique_36 (by decide) ?_
          exact ih (k + 1) (by omega) (by omega)
        · -- X0_largestClique 20f
          refine g_aload0 C dX0_largestClique_23 ?_
          refine g_iload2 C dX0_largestClique_24 ?_
          refine g_callV1i C dX0_largestClique_25 vlX0_63 (s_isClique ok hA (by omega)) hKd (by first | decide | omega) rfl (Nat.le_of_ble_eq_true rfl) (show 3 < 68 by decide) rfl ?_
          rintro _ _ ⟨rfl, rfl⟩
          refine g_if_eqB C 33 dX0_largestClique_28 (by decide) (fun h28 => ?_) (fun h28 => ?_)
          · -- X0_largestClique 28t
            refine g_set (L' := [some (.ref 3), some (.int (nI (zCl A (k + 1)))), some (.int (nI k))]) rfl (by rw [show zCl A (k + 1) = zCl A k by rw [zCl, if_neg (by rw [h28]; simp)]]) rfl ?_
            refine g_iinc2N C dX0_largestClique_33 ?_
            refine g_goto C 4 dX0_largestClique_36 (by decide) ?_
            exact ih (k + 1) (by omega) (by omega)
          · -- X0_largestClique 28f
            
            refine g_iload2 C dX0_largestClique_31 ?_
            refine g_istore1 C dX0_largestClique_32 ?_
            refine g_set (L' := [some (.ref 3), some (.int (nI (zCl A (k + 1)))), some (.int (nI k))]) rfl (by rw [show zCl A (k + 1) = k by rw [zCl, if_pos ⟨h20, h28⟩]]) rfl ?_
            refine g_iinc2N C dX0_largestClique_33 ?_
            refine g_goto C 4 dX0_largestClique_36 (by decide) ?_
            exact ih (k + 1) (by omega) (by omega)
  refine g_iconst C (nI 0) dX0_largestClique_0 (by decide) ?_
  refine g_istore1 C dX0_largestClique_1 ?_
  refine g_iconst C (nI 0) dX0_largestClique_2 (by decide) ?_
  refine g_istore2 C dX0_largestClique_3 ?_
  exact H4 (zAll (cN A) + 2) 0 (by omega) (by omega)
end
section
/-! moments: the hour, the ring, who signed -/
abbrev zMm : Type := Nat × Nat × (Nat → Option Nat) × (Nat → Nat)
abbrev mH (M : zMm) : Nat := M.1
abbrev mG (M : zMm) : Nat := M.2.1
abbrev mW (M : zMm) : Nat → Option Nat := M.2.2.1
abbrev mI (M : zMm) : Nat → Nat := M.2.2.2
def zE : Option Nat → Int32
  | none => -9
  | some s => nI s
def MoC (m : Nat) (c : Nat → Nat → Int32) (M : zMm) : Prop := c m 2 = nI (mH M) ∧ c m 3 = nI (mG M) ∧ (∀ k, k < 8 → c (m + 1) k = zE (mW M k)) ∧ ∀ k, k < 8 → c (m + 2) k = nI (mI M k)
/-- what holds of every moment -/
def OkM (n seats : Nat) (M : zMm) : Prop := mH M ≤ 99 ∧ mG M < 1 <<< n ∧ (∀ k s, k < 8 → mW M k = some s → s < n ∧ k < seats ∧ (mG M).testBit s = true) ∧ (∀ k j s, k < 8 → j < 8 → mW M k = some s → mW M j = some s → k = j) ∧ (∀ k, k < 8 → mI M k ≤ 4) ∧ ∀ k, k < 8 → mW M k = none → mI M k = 0
def zTh (w : Nat → Option Nat) : Nat → Nat
  | 0 => 0
  | k + 1 => match w k with
    | none => zTh w k
    | some s => zTh w k ||| (1 <<< s)
abbrev zThere (M : zMm) : Nat := zTh (mW M) 8
/-- the seat of a sailor -/
def zSeat (w : Nat → Option Nat) (s : Nat) : Nat → Option Nat
  | 0 => none
  | k + 1 => match zSeat w s k with
    | some j => some j
    | none => if w k = some s then some k else none
theorem zE_n {o : Option Nat} (h : zE o = -9) (ho : ∀ s, o = some s → s < 8) : o = none := by
  cases o with
  | none => rfl
  | some s =>
    have h8 := ho s rfl
    exact absurd h ((by decide : ∀ s, s < 8 → nI s ≠ -9) s h8)
theorem zE_s {o : Option Nat} (h : ¬ zE o = -9) : ∃ s, o = some s := by
  cases o with
  | none => exact absurd rfl h
  | some s => exact ⟨s, rfl⟩
theorem zE_i {o : Option Nat} {s : Nat} (hs : s < 8) (h : zE o = nI s) (ho : ∀ s, o = some s → s < 8) : o = some s := by
  cases o with
  | none => exact absurd h ((by decide : ∀ s, s < 8 → (-9 : Int32) ≠ nI s) s hs)
  | some j =>
    have h8 := ho j rfl
    exact congrArg some ((nI_eq (by omega) (by omega)).mp h)
theorem zTh_lt {w : Nat → Option Nat} (h : ∀ k s, k < 8 → w k = some s → s < 7) : ∀ k, k ≤ 8 → zTh w k < 128
  | 0, _ => by show 0 < 128; decide
  | k + 1, hk => by
    have ih := zTh_lt h k (by omega)
    unfold zTh
    split
    · exact ih
    · next s hs => exact zor_lt ih (h k s (by omega) hs)
theorem zSeat_lt {w : Nat → Option Nat} {s : Nat} : ∀ k j, zSeat w s k = some j → j < k ∧ w j = some s
  | 0, j, h => by cases h
  | k + 1, j, h => by
    unfold zSeat at h
    cases hk : zSeat w s k with
    | some i =>
      rw [hk] at h
      cases h
      have := zSeat_lt k _ hk
      exact ⟨by omega, this.2⟩
    | none =>
      rw [hk] at h
      simp only at h
      split at h
      · cases h
        exact ⟨by omega, by assumption⟩
      · cases h
theorem zSeat_none {w : Nat → Option Nat} {s : Nat} : ∀ k, zSeat w s k = none → ∀ j, j < k → w j ≠ some s
  | 0, _, j, h => absurd h (by omega)
  | k + 1, h, j, hj => by
    unfold zSeat at h
    cases hk : zSeat w s k with
    | some i => rw [hk] at h; cases h
    | none =>
      rw [hk] at h
      simp only at h
      split at h
      · cases h
      · next hn =>
        by_cases e : j = k
        · subst e; exact hn
        · exact zSeat_none k hk j (by omega)
theorem zSeat_keep {w : Nat → Option Nat} {s : Nat} {k j : Nat} (h : zSeat w s k = some j) : ∀ d, zSeat w s (k + d) = some j
  | 0 => h
  | d + 1 => by
    show zSeat w s (k + d + 1) = some j
    unfold zSeat
    rw [zSeat_keep h d]
def zInkS (M : zMm) (s : Nat) : Nat := match zSeat (mW M) s 8 with
  | some k => mI M k
  | none => 0
/-- a moment's content copied to another's place -/
def zBk (c : Nat → Nat → Int32) (m o k : Nat) : Nat → Nat → Int32 := fun a b => if a = m + 1 ∧ b < k then c (o + 1) b else if a = m + 2 ∧ b < k then c (o + 2) b else c a b
def zBec (c : Nat → Nat → Int32) (m o : Nat) : Nat → Nat → Int32 := z_up (z_up (zBk c m o 8) m 2 (c o 2)) m 3 (c o 3)
theorem zBk_0 (c : Nat → Nat → Int32) (m o : Nat) : zBk c m o 0 = c := by
  funext a b
  unfold zBk
  rw [if_neg (by omega), if_neg (by omega)]
theorem zBk_s (c : Nat → Nat → Int32) (m o k : Nat) : z_up (z_up (zBk c m o k) (m + 1) k (c (o + 1) k)) (m + 2) k (c (o + 2) k) = zBk c m o (k + 1) := by
  funext a b
  unfold z_up zBk
  by_cases h1 : a = m + 1
  · subst h1
    by_cases h2 : b = k
    · subst h2; simp
    · simp [h2]
      by_cases h3 : b < k
      · rw [if_pos h3, if_pos (by omega)]
      · rw [if_neg h3, if_neg (by omega)]
  · by_cases h4 : a = m + 2
    · subst h4
      by_cases h2 : b = k
      · subst h2; simp
      · simp [h2]
        by_cases h3 : b < k
        · rw [if_pos h3, if_pos (by omega)]
        · rw [if_neg h3, if_neg (by omega)]
    · simp [h1, h4]
theorem zBk_o {c : Nat → Nat → Int32} {m o k a : Nat} (h : a ≠ m + 1) (h2 : a ≠ m + 2) : zBk c m o k a = c a := by
  funext b
  unfold zBk
  rw [if_neg (by omega), if_neg (by omega)]
theorem zBec_o {c : Nat → Nat → Int32} {m o a : Nat} (h : a < m ∨ m + 2 < a) : zBec c m o a = c a := by
  unfold zBec
  rw [up_K (by omega), up_K (by omega), zBk_o (by omega) (by omega)]
theorem zBec_mo {c : Nat → Nat → Int32} {m o : Nat} {M : zMm} (h : MoC o c M) : MoC m (zBec c m o) M := by
  obtain ⟨h1, h2, h3, h4⟩ := h
  refine ⟨?_, ?_, fun k hk => ?_, fun k hk => ?_⟩
  · unfold zBec; rw [up_j _ (by decide), up_s]; exact h1
  · unfold zBec; rw [up_s]; exact h2
  · unfold zBec; rw [up_k (by omega), up_k (by omega)]; unfold zBk; rw [if_pos ⟨rfl, hk⟩]; exact h3 k hk
  · unfold zBec; rw [up_k (by omega), up_k (by omega)]; unfold zBk; rw [if_neg (by omega), if_pos ⟨rfl, hk⟩]; exact h4 k hk
theorem MoC.eq {m : Nat} {c c' : Nat → Nat → Int32} {M : zMm} (h : MoC m c M) (h0 : c' m = c m) (h1 : c' (m + 1) = c (m + 1)) (h2 : c' (m + 2) = c (m + 2)) : MoC m c' M := by
  unfold MoC
  rw [h0, h1, h2]
  exact h
theorem zmin {a b : Nat} (ha : a < 2 ^ 31) (hb : b < 2 ^ 31) : (if nI b < nI a then nI b else nI a) = nI (min a b) := by
  by_cases h : b < a
  · rw [if_pos ((nI_ltI hb ha).mpr h), Nat.min_eq_right (by omega)]
  · rw [if_neg (fun q => h ((nI_ltI hb ha).mp q)), Nat.min_eq_left (by omega)]
theorem zmax {a b : Nat} (ha : a < 2 ^ 31) (hb : b < 2 ^ 31) : (if nI a < nI b then nI b else nI a) = nI (max a b) := by
  by_cases h : a < b
  · rw [if_pos ((nI_ltI ha hb).mpr h), Nat.max_eq_right (by omega)]
  · rw [if_neg (fun q => h ((nI_ltI ha hb).mp q)), Nat.max_eq_left (by omega)]
end
section
/-! crew: told anew; moments; the past -/
set_option maxRecDepth 100000 in
set_option maxHeartbeats 4000000 in
theorem s_crst3 {Γ : zG} {c : Nat → Nat → Int32} {t : Nat → Int64}  : Sp Γ 0 mX0_restart [.ref 3] 0 0 (wF c t) (z_pv (fun w => w = wF (z_up (z_up (z_up c 3 3 (nI 0)) 3 4 (nI 3)) 3 5 (nI 8)) t)) := by
  refine Sp.of (own := RX0) 0 false rfl (by decide +kernel) rfl rfl (fun h => by cases h) (fun K hKd M => ?_)
  have C := M.1
  show GG Γ K 0 0 (wF c t) 0 [some (.ref 3)] []
  refine g_aload0 C dX0_restart_0 ?_
  refine g_iconst C (nI 0) dX0_restart_1 (by decide) ?_
  refine g_putI C dX0_restart_2 fpX0_28 (show 3 < 68 by decide) rfl rfl rfl rfl ?_
  refine g_aload0 C dX0_restart_5 ?_
  refine g_iconst C (nI 3) dX0_restart_6 (by decide) ?_
  refine g_putI C dX0_restart_7 fpX0_21 (show 3 < 68 by decide) rfl rfl rfl rfl ?_
  refine g_aload0 C dX0_restart_10 ?_
  refine g_bipush C (nI 8) dX0_restart_11 (by decide) ?_
  refine g_putI C dX0_restart_13 fpX0_25 (show 3 < 68 by decide) rfl rfl rfl rfl ?_
  exact g_retv M dX0_restart_16 (rfl)
set_option maxRecDepth 100000 in
set_option maxHeartbeats 4000000 in
theorem s_enl3 {Γ : zG} {c : Nat → Nat → Int32} {t : Nat → Int64} {n : Nat} {x y z : Int32} (hn : n < 7) (h0 : c 3 3 = nI n) : Sp Γ 1 mX0_enlist [.ref 3, .int x, .int y, .int z] 0 0 (wF c t) (z_pv (fun w => w = wF (z_up (z_up (z_up (z_up c 4 n x) 5 n y) 6 n z) 3 3 (nI (n + 1))) t)) := by
  refine Sp.of (own := RX0) 0 false rfl (by decide +kernel) rfl rfl (fun h => by cases h) (fun K hKd M => ?_)
  have C := M.1
  show GG Γ K 0 0 (wF c t) 0 [some (.ref 3), some (.int x), some (.int y), some (.int z)] []
  refine g_aload0 C dX0_enlist_0 ?_
  refine g_getRT C dX0_enlist_1 flX0_9 (show 3 < 68 by decide) rfl rfl (by decide) ?_
  refine g_aload0 C dX0_enlist_4 ?_
  refine g_getIE C h0 dX0_enlist_5 flX0_28 (show 3 < 68 by decide) rfl rfl ?_
  refine g_iload1 C dX0_enlist_8 ?_
  refine g_callS3v C dX0_enlist_9 slX0_31 (s_put (show 4 < 68 by decide) rfl hn (by decide)) hKd (by first | decide | omega) rfl (Nat.le_of_ble_eq_true rfl) ?_
  rintro _ rfl
  refine g_aload0 C dX0_enlist_12 ?_
  refine g_getRT C dX0_enlist_13 flX0_15 (show 3 < 68 by decide) rfl rfl (by decide) ?_
  refine g_aload0 C dX0_enlist_16 ?_
  refine g_getIE C ((up_k (by decide) _).trans h0) dX0_enlist_17 flX0_28 (show 3 < 68 by decide) rfl rfl ?_
  refine g_iload2 C dX0_enlist_20 ?_
  refine g_callS3v C dX0_enlist_21 slX0_31 (s_put (show 5 < 68 by decide) rfl hn (by decide)) hKd (by first | decide | omega) rfl (Nat.le_of_ble_eq_true rfl) ?_
  rintro _ rfl
  refine g_aload0 C dX0_enlist_24 ?_
  refine g_getRT C dX0_enlist_25 flX0_18 (show 3 < 68 by decide) rfl rfl (by decide) ?_
  refine g_aload0 C dX0_enlist_28 ?_
  refine g_getIE C ((up_k (by decide) _).trans ((up_k (by decide) _).trans h0)) dX0_enlist_29 flX0_28 (show 3 < 68 by decide) rfl rfl ?_
  refine g_iload3 C dX0_enlist_32 ?_
  refine g_callS3v C dX0_enlist_33 slX0_31 (s_put (show 6 < 68 by decide) rfl hn (by decide)) hKd (by first | decide | omega) rfl (Nat.le_of_ble_eq_true rfl) ?_
  rintro _ rfl
  refine g_aload0 C dX0_enlist_36 ?_
  refine g_dup C dX0_enlist_37 rfl ?_
  refine g_getIE C ((up_k (by decide) _).trans ((up_k (by decide) _).trans ((up_k (by decide) _).trans h0))) dX0_enlist_38 flX0_28 (show 3 < 68 by decide) rfl rfl ?_
  refine g_iconst C (nI 1) dX0_enlist_41 (by decide) ?_
  refine g_iaddN C dX0_enlist_42 ?_
  refine g_putI C dX0_enlist_43 fpX0_28 (show 3 < 68 by decide) rfl rfl rfl rfl ?_
  exact g_retv M dX0_enlist_46 (rfl)
set_option maxRecDepth 100000 in
set_option maxHeartbeats 4000000 in
theorem s_crst7 {Γ : zG} {c : Nat → Nat → Int32} {t : Nat → Int64}  : Sp Γ 0 mX0_restart [.ref 7] 0 0 (wF c t) (z_pv (fun w => w = wF (z_up (z_up (z_up c 7 3 (nI 0)) 7 4 (nI 3)) 7 5 (nI 8)) t)) := by
  refine Sp.of (own := RX0) 0 false rfl (by decide +kernel) rfl rfl (fun h => by cases h) (fun K hKd M => ?_)
  have C := M.1
  show GG Γ K 0 0 (wF c t) 0 [some (.ref 7)] []
  refine g_aload0 C dX0_restart_0 ?_
  refine g_iconst C (nI 0) dX0_restart_1 (by decide) ?_
  refine g_putI C dX0_restart_2 fpX0_28 (show 7 < 68 by decide) rfl rfl rfl rfl ?_
  refine g_aload0 C dX0_restart_5 ?_
  refine g_iconst C (nI 3) dX0_restart_6 (by decide) ?_
  refine g_putI C dX0_restart_7 fpX0_21 (show 7 < 68 by decide) rfl rfl rfl rfl ?_
  refine g_aload0 C dX0_restart_10 ?_
  refine g_bipush C (nI 8) dX0_restart_11 (by decide) ?_
  refine g_putI C dX0_restart_13 fpX0_25 (show 7 < 68 by decide) rfl rfl rfl rfl ?_
  exact g_retv M dX0_restart_16 (rfl)
set_option maxRecDepth 100000 in
set_option maxHeartbeats 4000000 in
theorem s_enl7 {Γ : zG} {c : Nat → Nat → Int32} {t : Nat → Int64} {n : Nat} {x y z : Int32} (hn : n < 7) (h0 : c 7 3 = nI n) : Sp Γ 1 mX0_enlist [.ref 7, .int x, .int y, .int z] 0 0 (wF c t) (z_pv (fun w => w = wF (z_up (z_up (z_up (z_up c 8 n x) 9 n y) 10 n z) 7 3 (nI (n + 1))) t)) := by
  refine Sp.of (own := RX0) 0 false rfl (by decide +kernel) rfl rfl (fun h => by cases h) (fun K hKd M => ?_)
  have C := M.1
  show GG Γ K 0 0 (wF c t) 0 [some (.ref 7), some (.int x), some (.int y), some (.int z)] []
  refine g_aload0 C dX0_enlist_0 ?_
  refine g_getRT C dX0_enlist_1 flX0_9 (show 7 < 68 by decide) rfl rfl (by decide) ?_
  refine g_aload0 C dX0_enlist_4 ?_
  refine g_getIE C h0 dX0_enlist_5 flX0_28 (show 7 < 68 by decide) rfl rfl ?_
  refine g_iload1 C dX0_enlist_8 ?_
  refine g_callS3v C dX0_enlist_9 slX0_31 (s_put (show 8 < 68 by decide) rfl hn (by decide)) hKd (by first | decide | omega) rfl (Nat.le_of_ble_eq_true rfl) ?_
  rintro _ rfl
  refine g_aload0 C dX0_enlist_12 ?_
  refine g_getRT C dX0_enlist_13 flX0_15 (show 7 < 68 by decide) rfl rfl (by decide) ?_
  refine g_aload0 C dX0_enlist_16 ?_
  refine g_getIE C ((up_k (by decide) _).trans h0) dX0_enlist_17 flX0_28 (show 7 < 68 by decide) rfl rfl ?_
  refine g_iload2 C dX0_enlist_20 ?_
  refine g_callS3v C dX0_enlist_21 slX0_31 (s_put (show 9 < 68 by decide) rfl hn (by decide)) hKd (by first | decide | omega) rfl (Nat.le_of_ble_eq_true rfl) ?_
  rintro _ rfl
  refine g_aload0 C dX0_enlist_24 ?_
  refine g_getRT C dX0_enlist_25 flX0_18 (show 7 < 68 by decide) rfl rfl (by decide) ?_
  refine g_aload0 C dX0_enlist_28 ?_
  refine g_getIE C ((up_k (by decide) _).trans ((up_k (by decide) _).trans h0)) dX0_enlist_29 flX0_28 (show 7 < 68 by decide) rfl rfl ?_
  refine g_iload3 C dX0_enlist_32 ?_
  refine g_callS3v C dX0_enlist_33 slX0_31 (s_put (show 10 < 68 by decide) rfl hn (by decide)) hKd (by first | decide | omega) rfl (Nat.le_of_ble_eq_true rfl) ?_
  rintro _ rfl
  refine g_aload0 C dX0_enlist_36 ?_
  refine g_dup C dX0_enlist_37 rfl ?_
  refine g_getIE C ((up_k (by decide) _).trans ((up_k (by decide) _).trans ((up_k (by decide) _).trans h0))) dX0_enlist_38 flX0_28 (show 7 < 68 by decide) rfl rfl ?_
  refine g_iconst C (nI 1) dX0_enlist_41 (by decide) ?_
  refine g_iaddN C dX0_enlist_42 ?_
  refine g_putI C dX0_enlist_43 fpX0_28 (show 7 < 68 by decide) rfl rfl rfl rfl ?_
  exact g_retv M dX0_enlist_46 (rfl)
set_option maxRecDepth 100000 in
set_option maxHeartbeats 4000000 in
theorem s_write {Γ : zG} {c : Nat → Nat → Int32} {t : Nat → Int64} {m : Nat} (hm : zMo m) {k : Nat} {x y : Int32} (hk : k < 8) : Sp Γ 1 mX1_write [.ref m, .int (nI k), .int x, .int y] 0 0 (wF c t) (z_pv (fun w => w = wF (z_up (z_up c (m + 1) k x) (m + 2) k y) t)) := by
  refine Sp.of (own := RX1) 0 false rfl (by decide +kernel) rfl rfl (fun h => by cases h) (fun K hKd M => ?_)
  have C := M.1
  show GG Γ K 0 0 (wF c t) 0 [some (.ref m), some (.int (nI k)), some (.int x), some (.int y)] []
  refine g_aload0 C dX1_write_0 ?_
  refine g_getRT C dX1_write_1 flX1_9 (show m < 68 by have := hm.1; omega) hm.2.1 rfl (by have := hm.1; omega) ?_
  refine g_iload1 C dX1_write_4 ?_
  refine g_iload2 C dX1_write_5 ?_
  refine g_callS3v C dX1_write_6 slX1_39 (s_put (by have := hm.1; omega) hm.2.2.1 hk (by decide)) hKd (by first | decide | omega) rfl (Nat.le_of_ble_eq_true rfl) ?_
  rintro _ rfl
  refine g_aload0 C dX1_write_9 ?_
  refine g_getRT C dX1_write_10 flX1_15 (show m < 68 by have := hm.1; omega) hm.2.1 rfl (by have := hm.1; omega) ?_
  refine g_iload1 C dX1_write_13 ?_
  refine g_iload3 C dX1_write_14 ?_
  refine g_callS3v C dX1_write_15 slX1_39 (s_put (by have := hm.1; omega) hm.2.2.2 hk (by decide)) hKd (by first | decide | omega) rfl (Nat.le_of_ble_eq_true rfl) ?_
  rintro _ rfl
  exact g_retv M dX1_write_18 (rfl)
set_option maxRecDepth 100000 in
set_option maxHeartbeats 4000000 in
theorem s_mrst {Γ : zG} {c : Nat → Nat → Int32} {t : Nat → Int64} {m : Nat} (hm : zMo m)  : Sp Γ 1 mX1_restart [.ref m] 0 0 (wF c t) (z_pv (fun w => w = wF (z_up (z_up (z_fill (z_fill c (m + 1) 8 (-9)) (m + 2) 8 (nI 0)) m 2 (nI 0)) m 3 (nI 0)) t)) := by
  refine Sp.of (own := RX1) 0 false rfl (by decide +kernel) rfl rfl (fun h => by cases h) (fun K hKd M => ?_)
  have C := M.1
  show GG Γ K 0 0 (wF c t) 0 [some (.ref m)] []
  refine g_aload0 C dX1_restart_0 ?_
  refine g_getRT C dX1_restart_1 flX1_9 (show m < 68 by have := hm.1; omega) hm.2.1 rfl (by have := hm.1; omega) ?_
  refine g_bipush C (-9) dX1_restart_4 (by decide) ?_
  refine g_callS2v C dX1_restart_6 slX1_18 (s_fill (by have := hm.1; omega) hm.2.2.1 (by decide)) hKd (by first | decide | omega) rfl (Nat.le_of_ble_eq_true rfl) ?_
  rintro _ rfl
  refine g_aload0 C dX1_restart_9 ?_
  refine g_getRT C dX1_restart_10 flX1_15 (show m < 68 by have := hm.1; omega) hm.2.1 rfl (by have := hm.1; omega) ?_
  refine g_iconst C (nI 0) dX1_restart_13 (by decide) ?_
  refine g_callS2v C dX1_restart_14 slX1_18 (s_fill (by have := hm.1; omega) hm.2.2.2 (by decide)) hKd (by first | decide | omega) rfl (Nat.le_of_ble_eq_true rfl) ?_
  rintro _ rfl
  refine g_aload0 C dX1_restart_17 ?_
  refine g_iconst C (nI 0) dX1_restart_18 (by decide) ?_
  refine g_putI C dX1_restart_19 fpX1_24 (show m < 68 by have := hm.1; omega) hm.2.1 rfl rfl rfl ?_
  refine g_aload0 C dX1_restart_22 ?_
  refine g_iconst C (nI 0) dX1_restart_23 (by decide) ?_
  refine g_putI C dX1_restart_24 fpX1_28 (show m < 68 by have := hm.1; omega) hm.2.1 rfl rfl rfl ?_
  exact g_retv M dX1_restart_27 (rfl)
set_option maxRecDepth 100000 in
set_option maxHeartbeats 4000000 in
theorem s_mbec {Γ : zG} {c : Nat → Nat → Int32} {t : Nat → Int64} {m : Nat} (hm : zMo m) {o : Nat} (ho : zMo o) (hd : m + 2 < o ∨ o + 2 < m) : Sp Γ 2 mX1_become [.ref m, .ref o] 0 0 (wF c t) (z_pv (fun w => w = wF (zBec c m o) t)) := by
  refine Sp.of (own := RX1) 1 false rfl (by decide +kernel) rfl rfl (fun h => by cases h) (fun K hKd M => ?_)
  have C := M.1
  show GG Γ K 0 0 (wF c t) 0 [some (.ref m), some (.ref o), none] []
  have H2 : ∀ (n : Nat) (k : Nat), k ≤ 8 → 8 - k < n → GG Γ K 0 0 (wF (zBk c m o k) t) 2 [some (.ref m), some (.ref o), some (.int (nI k))] [] := by
    intro n
    induction n with
    | zero => intro k hk hn; exact absurd hn (by omega)
    | succ n ih =>
      intro k hk hn
      refine g_iload2 C dX1_become_2 ?_
      refine g_bipush C (nI 8) dX1_become_3 (by decide) ?_
      refine g_icmp_geN C 35 (by omega) (by omega) dX1_become_5 (by decide) (fun h5 => ?_) (fun h5 => ?_)
      · -- X1_become 5t
        obtain rfl : k = 8 := by omega
        refine g_aload0 C dX1_become_35 ?_
        refine g_aload1 C dX1_become_36 ?_
        refine g_getIE C (congrFun (zBk_o (by omega) (by omega)) 2) dX1_become_37 flX1_24 (show o < 68 by have := ho.1; omega) ho.2.1 rfl ?_
        refine g_putI C dX1_become_40 fpX1_24 (show m < 68 by have := hm.1; omega) hm.2.1 rfl rfl rfl ?_
        refine g_aload0 C dX1_become_43 ?_
        refine g_aload1 C dX1_become_44 ?_
        refine g_getIE C ((up_k (by omega) 3).trans (congrFun (zBk_o (by omega) (by omega)) 3)) dX1_become_45 flX1_28 (show o < 68 by have := ho.1; omega) ho.2.1 rfl ?_
        refine g_putI C dX1_become_48 fpX1_28 (show m < 68 by have := hm.1; omega) hm.2.1 rfl rfl rfl ?_
        exact g_retv M dX1_become_51 (rfl)
      · -- X1_become 5f
        refine g_aload0 C dX1_become_8 ?_
        refine g_iload2 C dX1_become_9 ?_
        refine g_aload1 C dX1_become_10 ?_
        refine g_getRT C dX1_become_11 flX1_9 (show o < 68 by have := ho.1; omega) ho.2.1 rfl (by have := ho.1; omega) ?_
        refine g_iload2 C dX1_become_14 ?_
        refine g_callS2i C dX1_become_15 slX1_31 (s_at (by have := ho.1; omega) ho.2.2.1 h5 (by decide) (congrFun (zBk_o (by omega) (by omega)) k)) hKd (by first | decide | omega) rfl (Nat.le_of_ble_eq_true rfl) ?_
        rintro _ _ ⟨rfl, rfl⟩
        refine g_aload1 C dX1_become_18 ?_
        refine g_getRT C dX1_become_19 flX1_15 (show o < 68 by have := ho.1; omega) ho.2.1 rfl (by have := ho.1; omega) ?_
        refine g_iload2 C dX1_become_22 ?_
        refine g_callS2i C dX1_become_23 slX1_31 (s_at (by have := ho.1; omega) ho.2.2.2 h5 (by decide) (congrFun (zBk_o (by omega) (by omega)) k)) hKd (by first | decide | omega) rfl (Nat.le_of_ble_eq_true rfl) ?_
        rintro _ _ ⟨rfl, rfl⟩
        refine g_callV3v C dX1_become_26 vlX1_35 (s_write hm h5) hKd (by first | decide | omega) rfl (Nat.le_of_ble_eq_true rfl) (show m < 68 by have := hm.1; omega) hm.2.1 ?_
        rintro _ rfl
        refine g_con (zBk_s c m o k) rfl ?_
        refine g_iinc2N C dX1_become_29 ?_
        refine g_goto C 2 dX1_become_32 (by decide) ?_
        exact ih (k + 1) (by omega) (by omega)
  refine g_iconst C (nI 0) dX1_become_0 (by decide) ?_
  refine g_istore2 C dX1_become_1 ?_
  refine g_con (zBk_0 c m o).symm rfl ?_
  exact H2 9 0 (by omega) (by omega)
set_option maxRecDepth 100000 in
set_option maxHeartbeats 4000000 in
theorem s_there {Γ : zG} {c : Nat → Nat → Int32} {t : Nat → Int64} {m : Nat} (hm : zMo m) {Y : zMm} (hM : MoC m c Y) (hw : ∀ k s, k < 8 → mW Y k = some s → s < 7) : Sp Γ 1 mX1_there [.ref m] 0 0 (wF c t) (z_pi (fun v w => w = wF c t ∧ v = nI (zThere Y))) := by
  refine Sp.of (own := RX1) 3 false rfl (by decide +kernel) rfl rfl (fun h => by cases h) (fun K hKd M => ?_)
  have C := M.1
  show GG Γ K 0 0 (wF c t) 0 [some (.ref m), none, none, none] []
  have H4 : ∀ (n : Nat) (k : Nat) (x : Option Value), k ≤ 8 → 8 - k < n → GG Γ K 0 0 (wF c t) 4 [some (.ref m), some (.int (nI (zTh (mW Y) k))), some (.int (nI k)), x] [] := by
    intro n
    induction n with
    | zero => intro k x hk hn; exact absurd hn (by omega)
    | succ n ih =>
      intro k x hk hn
      refine g_iload2 C dX1_there_4 ?_
      refine g_bipush C (nI 8) dX1_there_5 (by decide) ?_
      refine g_icmp_geN C 37 (by omega) (by omega) dX1_there_7 (by decide) (fun h7 => ?_) (fun h7 => ?_)
      · -- X1_there 7t
        obtain rfl : k = 8 := by omega
        refine g_iload1 C dX1_there_37 ?_
        exact g_reti M dX1_there_38 (⟨rfl, rfl⟩)
      · -- X1_there 7f
        refine g_aload0 C dX1_there_10 ?_
        refine g_getRT C dX1_there_11 flX1_9 (show m < 68 by have := hm.1; omega) hm.2.1 rfl (by have := hm.1; omega) ?_
        refine g_iload2 C dX1_there_14 ?_
        refine g_callS2i C dX1_there_15 slX1_31 (s_at (by have := hm.1; omega) hm.2.2.1 h7 (by decide) (hM.2.2.1 k h7)) hKd (by first | decide | omega) rfl (Nat.le_of_ble_eq_true rfl) ?_
        rintro _ _ ⟨rfl, rfl⟩
        refine g_istore3 C dX1_there_18 ?_
        refine g_iload3 C dX1_there_19 ?_
        refine g_bipush C (-9) dX1_there_20 (by decide) ?_
        refine g_icmp_eq C 31 dX1_there_22 (by decide) (fun h22 => ?_) (fun h22 => ?_)
        · -- X1_there 22t
          have hq := zE_n h22 (fun s h => by have := hw k s h7 h; omega)
          refine g_set (L' := [some (.ref m), some (.int (nI (zTh (mW Y) (k + 1)))), some (.int (nI k)), some (.int (zE (mW Y k)))]) rfl (by rw [show zTh (mW Y) (k + 1) = zTh (mW Y) k by rw [zTh, hq]]) rfl ?_
          refine g_iinc2N C dX1_there_31 ?_
          refine g_goto C 4 dX1_there_34 (by decide) ?_
          exact ih (k + 1) _ (by omega) (by omega)
        · -- X1_there 22f
          obtain ⟨s, hq⟩ := zE_s h22
          rw [hq]
          have hs7 := hw k s h7 hq
          refine g_iload1 C dX1_there_25 ?_
          refine g_iconst C (nI 1) dX1_there_26 (by decide) ?_
          refine g_iload3 C dX1_there_27 ?_
          refine g_ishlN C dX1_there_28 (by omega) ?_
          refine g_iorN C dX1_there_29 ?_
          refine g_istore1 C dX1_there_30 ?_
          refine g_set (L' := [some (.ref m), some (.int (nI (zTh (mW Y) (k + 1)))), some (.int (nI k)), some (.int (zE (some s)))]) rfl (by rw [show zTh (mW Y) (k + 1) = zTh (mW Y) k ||| (1 <<< s) by rw [zTh, hq]]) rfl ?_
          refine g_iinc2N C dX1_there_31 ?_
          refine g_goto C 4 dX1_there_34 (by decide) ?_
          exact ih (k + 1) _ (by omega) (by omega)
  refine g_iconst C (nI 0) dX1_there_0 (by decide) ?_
  refine g_istore1 C dX1_there_1 ?_
  refine g_iconst C (nI 0) dX1_there_2 (by decide) ?_
  refine g_istore2 C dX1_there_3 ?_
  exact H4 9 0 _ (by omega) (by omega)
set_option maxRecDepth 100000 in
set_option maxHeartbeats 4000000 in
theorem s_seatOf {Γ : zG} {c : Nat → Nat → Int32} {t : Nat → Int64} {m : Nat} (hm : zMo m) {Y : zMm} (hM : MoC m c Y) (hw : ∀ k s, k < 8 → mW Y k = some s → s < 7) {s : Nat} (hs : s < 7) : Sp Γ 1 mX1_seatOf [.ref m, .int (nI s)] 0 0 (wF c t) (z_pi (fun v w => w = wF c t ∧ v = zE (zSeat (mW Y) s 8))) := by
  refine Sp.of (own := RX1) 1 false rfl (by decide +kernel) rfl rfl (fun h => by cases h) (fun K hKd M => ?_)
  have C := M.1
  show GG Γ K 0 0 (wF c t) 0 [some (.ref m), some (.int (nI s)), none] []
  have H2 : ∀ (n : Nat) (k : Nat), k ≤ 8 → zSeat (mW Y) s k = none → 8 - k < n → GG Γ K 0 0 (wF c t) 2 [some (.ref m), some (.int (nI s)), some (.int (nI k))] [] := by
    intro n
    induction n with
    | zero => intro k hk hz hn; exact absurd hn (by omega)
    | succ n ih =>
      intro k hk hz hn
      refine g_iload2 C dX1_seatOf_2 ?_
      refine g_bipush C (nI 8) dX1_seatOf_3 (by decide) ?_
      refine g_icmp_geN C 28 (by omega) (by omega) dX1_seatOf_5 (by decide) (fun h5 => ?_) (fun h5 => ?_)
      · -- X1_seatOf 5t
        obtain rfl : k = 8 := by omega
        refine g_bipush C (-9) dX1_seatOf_28 (by decide) ?_
        exact g_reti M dX1_seatOf_30 (⟨rfl, by rw [hz]; rfl⟩)
      · -- X1_seatOf 5f
        refine g_aload0 C dX1_seatOf_8 ?_
        refine g_getRT C dX1_seatOf_9 flX1_9 (show m < 68 by have := hm.1; omega) hm.2.1 rfl (by have := hm.1; omega) ?_
        refine g_iload2 C dX1_seatOf_12 ?_
        refine g_callS2i C dX1_seatOf_13 slX1_31 (s_at (by have := hm.1; omega) hm.2.2.1 h5 (by decide) (hM.2.2.1 k h5)) hKd (by first | decide | omega) rfl (Nat.le_of_ble_eq_true rfl) ?_
        rintro _ _ ⟨rfl, rfl⟩
        refine g_iload1 C dX1_seatOf_16 ?_
        refine g_icmp_ne C 22 dX1_seatOf_17 (by decide) (fun h17 => ?_) (fun h17 => ?_)
        · -- X1_seatOf 17t
          refine g_iinc2N C dX1_seatOf_22 ?_
          refine g_goto C 2 dX1_seatOf_25 (by decide) ?_
          exact ih (k + 1) (by omega) (by rw [zSeat, hz]; exact if_neg (fun q => h17 (by rw [q]; rfl))) (by omega)
        · -- X1_seatOf 17f
          have hq := zE_i (by omega) h17 (fun j h => by have := hw k j h5 h; omega)
          refine g_iload2 C dX1_seatOf_20 ?_
          exact g_reti M dX1_seatOf_21 (⟨rfl, by rw [show zSeat (mW Y) s 8 = some k from (show k + 1 + (7 - k) = 8 by omega) ▸ zSeat_keep (k := k + 1) (by rw [zSeat, hz]; exact if_pos hq) (7 - k)]; rfl⟩)
  refine g_iconst C (nI 0) dX1_seatOf_0 (by decide) ?_
  refine g_istore2 C dX1_seatOf_1 ?_
  exact H2 9 0 (by omega) rfl (by omega)
set_option maxRecDepth 100000 in
set_option maxHeartbeats 4000000 in
theorem s_inkOf {Γ : zG} {c : Nat → Nat → Int32} {t : Nat → Int64} {m : Nat} (hm : zMo m) {Y : zMm} (hM : MoC m c Y) (hw : ∀ k s, k < 8 → mW Y k = some s → s < 7) {s : Nat} (hs : s < 7) : Sp Γ 2 mX1_inkOf [.ref m, .int (nI s)] 0 0 (wF c t) (z_pi (fun v w => w = wF c t ∧ v = nI (zInkS Y s))) := by
  refine Sp.of (own := RX1) 1 false rfl (by decide +kernel) rfl rfl (fun h => by cases h) (fun K hKd M => ?_)
  have C := M.1
  show GG Γ K 0 0 (wF c t) 0 [some (.ref m), some (.int (nI s)), none] []
  refine g_aload0 C dX1_inkOf_0 ?_
  refine g_iload1 C dX1_inkOf_1 ?_
  refine g_callV1i C dX1_inkOf_2 vlX1_43 (s_seatOf hm hM hw hs) hKd (by first | decide | omega) rfl (Nat.le_of_ble_eq_true rfl) (show m < 68 by have := hm.1; omega) hm.2.1 ?_
  rintro _ _ ⟨rfl, rfl⟩
  refine g_istore2 C dX1_inkOf_5 ?_
  refine g_iload2 C dX1_inkOf_6 ?_
  refine g_bipush C (-9) dX1_inkOf_7 (by decide) ?_
  refine g_icmp_ne C 16 dX1_inkOf_9 (by decide) (fun h9 => ?_) (fun h9 => ?_)
  · -- X1_inkOf 9t
    obtain ⟨k, hk⟩ := zE_s h9
    have hk8 := (zSeat_lt 8 k hk).1
    rw [hk]
    refine g_aload0 C dX1_inkOf_16 ?_
    refine g_getRT C dX1_inkOf_17 flX1_15 (show m < 68 by have := hm.1; omega) hm.2.1 rfl (by have := hm.1; omega) ?_
    refine g_iload2 C dX1_inkOf_20 ?_
    refine g_callS2i C dX1_inkOf_21 slX1_31 (s_at (by have := hm.1; omega) hm.2.2.2 hk8 (by decide) (hM.2.2.2 k hk8)) hKd (by first | decide | omega) rfl (Nat.le_of_ble_eq_true rfl) ?_
    rintro _ _ ⟨rfl, rfl⟩
    exact g_reti M dX1_inkOf_24 (⟨rfl, by unfold zInkS; rw [hk]⟩)
  · -- X1_inkOf 9f
    have hk := zE_n h9 (fun s h => (zSeat_lt 8 s h).1)
    refine g_iconst C (nI 0) dX1_inkOf_12 (by decide) ?_
    refine g_goto C 24 dX1_inkOf_13 (by decide) ?_
    exact g_reti M dX1_inkOf_24 (⟨rfl, by unfold zInkS; rw [hk]⟩)
set_option maxRecDepth 100000 in
set_option maxHeartbeats 4000000 in
theorem s_slotAt {Γ : zG} {c : Nat → Nat → Int32} {t : Nat → Int64} {i : Nat} (hi : i < 10) : Sp Γ 0 mX3_slotAt [.ref 14, .int (nI i)] 0 0 (wF c t) (z_pr' (fun v w => w = wF c t ∧ v = 16 + 3 * i)) := by
  refine Sp.of (own := RX3) 0 false rfl (by decide +kernel) rfl rfl (fun h => by cases h) (fun K hKd M => ?_)
  have C := M.1
  show GG Γ K 0 0 (wF c t) 0 [some (.ref 14), some (.int (nI i))] []
  refine g_iload1 C dX3_slotAt_0 ?_
  refine g_if_ltN C 22 (by omega) dX3_slotAt_1 (by decide) (fun h => h.elim) (fun _ => ?_)
  refine g_iload1 C dX3_slotAt_4 ?_
  refine g_aload0 C dX3_slotAt_5 ?_
  refine g_getRT C dX3_slotAt_6 flX3_11 (show 14 < 68 by decide) rfl rfl (by decide) ?_
  refine g_alen C dX3_slotAt_9 (show 15 < 68 by decide) rfl ?_
  refine g_icmp_geN C 22 (by omega) (by omega) dX3_slotAt_10 (by decide) (fun h10 => absurd h10 (by omega)) (fun h10 => ?_)
  refine g_aload0 C dX3_slotAt_13 ?_
  refine g_getRT C dX3_slotAt_14 flX3_11 (show 14 < 68 by decide) rfl rfl (by decide) ?_
  refine g_iload1 C dX3_slotAt_17 ?_
  refine g_aaldE C (if_pos hi) (by omega) (by omega) (by decide) dX3_slotAt_18 (show 15 < 68 by decide) rfl ?_
  refine g_goto C 23 dX3_slotAt_19 (by decide) ?_
  exact g_reta M dX3_slotAt_23 (⟨rfl, rfl⟩)
set_option maxRecDepth 100000 in
set_option maxHeartbeats 4000000 in
theorem s_remember {Γ : zG} {c : Nat → Nat → Int32} {t : Nat → Int64} {nx sz : Nat} (hn : nx < 10) (hsz : sz ≤ 10) (h1 : c 14 1 = nI nx) (h2 : c 14 2 = nI sz) {mo : Nat} (hmo : zMo mo) (hp : mo + 2 < 14 ∨ 45 < mo)  : Sp Γ 3 mX3_remember [.ref 14, .ref mo] 0 0 (wF c t) (z_pv (fun w => w = wF (z_up (z_up (zBec c (16 + 3 * nx) mo) 14 1 (nI ((nx + 1) % 10))) 14 2 (nI (min (sz + 1) 10))) t)) := by
  refine Sp.of (own := RX3) 1 false rfl (by decide +kernel) rfl rfl (fun h => by cases h) (fun K hKd M => ?_)
  have C := M.1
  show GG Γ K 0 0 (wF c t) 0 [some (.ref 14), some (.ref mo), none] []
  refine g_aload0 C dX3_remember_0 ?_
  refine g_aload0 C dX3_remember_1 ?_
  refine g_getIE C h1 dX3_remember_2 flX3_18 (show 14 < 68 by decide) rfl rfl ?_
  refine g_callV1r C dX3_remember_5 vlX3_22 (s_slotAt hn) hKd (by first | decide | omega) rfl (Nat.le_of_ble_eq_true rfl) (show 14 < 68 by decide) rfl ?_
  rintro _ _ ⟨rfl, rfl⟩
  refine g_astore2 C dX3_remember_8 ?_
  refine g_aload2 C dX3_remember_9 ?_
  refine g_ifnonnull C 14 dX3_remember_10 (by decide) ?_
  refine g_aload2 C dX3_remember_14 ?_
  refine g_aload1 C dX3_remember_15 ?_
  refine g_callV1v C dX3_remember_16 vlX3_26 (s_mbec (zMo_past nx hn) hmo (by omega)) hKd (by first | decide | omega) rfl (Nat.le_of_ble_eq_true rfl) (show (16 + 3 * nx) < 68 by have := (zMo_past nx hn).1; omega) (zMo_past nx hn).2.1 ?_
  rintro _ rfl
  refine g_aload0 C dX3_remember_19 ?_
  refine g_aload0 C dX3_remember_20 ?_
  refine g_getIE C ((congrFun (zBec_o (by omega)) 1).trans h1) dX3_remember_21 flX3_18 (show 14 < 68 by decide) rfl rfl ?_
  refine g_iconst C (nI 1) dX3_remember_24 (by decide) ?_
  refine g_iaddN C dX3_remember_25 ?_
  refine g_bipush C (nI 10) dX3_remember_26 (by decide) ?_
  refine g_icmp_geN C 40 (by omega) (by omega) dX3_remember_28 (by decide) (fun h28 => ?_) (fun h28 => ?_)
  · -- X3_remember 28t
    
    refine g_iconst C (nI 0) dX3_remember_40 (by decide) ?_
    refine g_putI C dX3_remember_41 fpX3_18 (show 14 < 68 by decide) rfl rfl rfl rfl ?_
    refine g_con (by first | rw [show nx + 1 = (nx + 1) % 10 by omega] | rw [show (0 : Nat) = (nx + 1) % 10 by omega]) rfl ?_
    refine g_aload0 C dX3_remember_44 ?_
    refine g_aload0 C dX3_remember_45 ?_
    refine g_getIE C ((up_j _ (by decide)).trans ((congrFun (zBec_o (by omega)) 2).trans h2)) dX3_remember_46 flX3_30 (show 14 < 68 by decide) rfl rfl ?_
    refine g_iconst C (nI 1) dX3_remember_49 (by decide) ?_
    refine g_iaddN C dX3_remember_50 ?_
    refine g_bipush C (nI 10) dX3_remember_51 (by decide) ?_
    refine g_mmin C dX3_remember_53 mmlX3_33 hKd (by decide) rfl (Nat.le_of_ble_eq_true rfl) ?_
    refine g_top (zmin (by omega) (by omega)) ?_
    refine g_putI C dX3_remember_56 fpX3_30 (show 14 < 68 by decide) rfl rfl rfl rfl ?_
    exact g_retv M dX3_remember_59 (rfl)
  · -- X3_remember 28f
    
    refine g_aload0 C dX3_remember_31 ?_
    refine g_getIE C ((congrFun (zBec_o (by omega)) 1).trans h1) dX3_remember_32 flX3_18 (show 14 < 68 by decide) rfl rfl ?_
    refine g_iconst C (nI 1) dX3_remember_35 (by decide) ?_
    refine g_iaddN C dX3_remember_36 ?_
    refine g_goto C 41 dX3_remember_37 (by decide) ?_
    refine g_putI C dX3_remember_41 fpX3_18 (show 14 < 68 by decide) rfl rfl rfl rfl ?_
    refine g_con (by first | rw [show nx + 1 = (nx + 1) % 10 by omega] | rw [show (0 : Nat) = (nx + 1) % 10 by omega]) rfl ?_
    refine g_aload0 C dX3_remember_44 ?_
    refine g_aload0 C dX3_remember_45 ?_
    refine g_getIE C ((up_j _ (by decide)).trans ((congrFun (zBec_o (by omega)) 2).trans h2)) dX3_remember_46 flX3_30 (show 14 < 68 by decide) rfl rfl ?_
    refine g_iconst C (nI 1) dX3_remember_49 (by decide) ?_
    refine g_iaddN C dX3_remember_50 ?_
    refine g_bipush C (nI 10) dX3_remember_51 (by decide) ?_
    refine g_mmin C dX3_remember_53 mmlX3_33 hKd (by decide) rfl (Nat.le_of_ble_eq_true rfl) ?_
    refine g_top (zmin (by omega) (by omega)) ?_
    refine g_putI C dX3_remember_56 fpX3_30 (show 14 < 68 by decide) rfl rfl rfl rfl ?_
    exact g_retv M dX3_remember_59 (rfl)
set_option maxRecDepth 100000 in
set_option maxHeartbeats 4000000 in
theorem s_forget {Γ : zG} {c : Nat → Nat → Int32} {t : Nat → Int64}  : Sp Γ 0 mX3_forget [.ref 14] 0 0 (wF c t) (z_pv (fun w => w = wF (z_up c 14 2 (nI 0)) t)) := by
  refine Sp.of (own := RX3) 0 false rfl (by decide +kernel) rfl rfl (fun h => by cases h) (fun K hKd M => ?_)
  have C := M.1
  show GG Γ K 0 0 (wF c t) 0 [some (.ref 14)] []
  refine g_aload0 C dX3_forget_0 ?_
  refine g_iconst C (nI 0) dX3_forget_1 (by decide) ?_
  refine g_putI C dX3_forget_2 fpX3_30 (show 14 < 68 by decide) rfl rfl rfl rfl ?_
  exact g_retv M dX3_forget_5 (rfl)
set_option maxRecDepth 100000 in
set_option maxHeartbeats 4000000 in
theorem s_giveBack {Γ : zG} {c : Nat → Nat → Int32} {t : Nat → Int64} {nx sz : Nat} (hn : nx < 10) (hsz : sz ≤ 10) (h1 : c 14 1 = nI nx) (h2 : c 14 2 = nI sz) {mo : Nat} (hmo : zMo mo) (hp : mo + 2 < 14 ∨ 45 < mo)  : Sp Γ 3 mX3_giveBack [.ref 14, .ref mo] 0 0 (wF c t) (z_pi (fun v w => v = nI (decide (0 < sz)).toNat ∧ w = wF (if 0 < sz then z_up (z_up (zBec c mo (16 + 3 * ((nx + 9) % 10))) 14 1 (nI ((nx + 9) % 10))) 14 2 (nI (sz - 1)) else c) t)) := by
  refine Sp.of (own := RX3) 2 false rfl (by decide +kernel) rfl rfl (fun h => by cases h) (fun K hKd M => ?_)
  have C := M.1
  show GG Γ K 0 0 (wF c t) 0 [some (.ref 14), some (.ref mo), none, none] []
  refine g_aload0 C dX3_giveBack_0 ?_
  refine g_getIE C h1 dX3_giveBack_1 flX3_18 (show 14 < 68 by decide) rfl rfl ?_
  refine g_if_leN C 16 (by omega) dX3_giveBack_4 (by decide) (fun h4 => ?_) (fun h4 => ?_)
  · -- X3_giveBack 4t
    
    refine g_bipush C (nI 9) dX3_giveBack_16 (by decide) ?_
    refine g_istore2 C dX3_giveBack_18 ?_
    refine g_set (L' := [some (.ref 14), some (.ref mo), some (.int (nI ((nx + 9) % 10))), none]) rfl (by first | rw [show nx - 1 = (nx + 9) % 10 by omega] | rw [show (nx + 9) % 10 = 9 by omega]) rfl ?_
    refine g_aload0 C dX3_giveBack_19 ?_
    refine g_iload2 C dX3_giveBack_20 ?_
    refine g_callV1r C dX3_giveBack_21 vlX3_22 (s_slotAt (by omega)) hKd (by first | decide | omega) rfl (Nat.le_of_ble_eq_true rfl) (show 14 < 68 by decide) rfl ?_
    rintro _ _ ⟨rfl, rfl⟩
    refine g_astore3 C dX3_giveBack_24 ?_
    refine g_aload0 C dX3_giveBack_25 ?_
    refine g_getIE C h2 dX3_giveBack_26 flX3_30 (show 14 < 68 by decide) rfl rfl ?_
    refine g_if_leN C 36 (by omega) dX3_giveBack_29 (by decide) (fun h29 => ?_) (fun h29 => ?_)
    · -- X3_giveBack 29t
      
      refine g_iconst C (nI 0) dX3_giveBack_36 (by decide) ?_
      exact g_ret0 M dX3_giveBack_37 (⟨z_b0 (by omega), by rw [if_neg (by omega)]⟩)
    · -- X3_giveBack 29f
      
      refine g_aload3 C dX3_giveBack_32 ?_
      refine g_ifnonnull C 38 dX3_giveBack_33 (by decide) ?_
      refine g_aload1 C dX3_giveBack_38 ?_
      refine g_aload3 C dX3_giveBack_39 ?_
      refine g_callV1v C dX3_giveBack_40 vlX3_26 (s_mbec hmo (zMo_past _ (by omega)) (by omega)) hKd (by first | decide | omega) rfl (Nat.le_of_ble_eq_true rfl) (show mo < 68 by have := hmo.1; omega) hmo.2.1 ?_
      rintro _ rfl
      refine g_aload0 C dX3_giveBack_43 ?_
      refine g_iload2 C dX3_giveBack_44 ?_
      refine g_putI C dX3_giveBack_45 fpX3_18 (show 14 < 68 by decide) rfl rfl rfl rfl ?_
      refine g_aload0 C dX3_giveBack_48 ?_
      refine g_dup C dX3_giveBack_49 rfl ?_
      refine g_getIE C ((up_j _ (by decide)).trans ((congrFun (zBec_o (by omega)) 2).trans h2)) dX3_giveBack_50 flX3_30 (show 14 < 68 by decide) rfl rfl ?_
      refine g_iconst C (nI 1) dX3_giveBack_53 (by decide) ?_
      refine g_isubN C dX3_giveBack_54 (by omega) ?_
      refine g_putI C dX3_giveBack_55 fpX3_30 (show 14 < 68 by decide) rfl rfl rfl rfl ?_
      refine g_iconst C (nI 1) dX3_giveBack_58 (by decide) ?_
      exact g_ret1 M dX3_giveBack_59 (⟨z_b1 h29, by rw [if_pos h29]⟩)
  · -- X3_giveBack 4f
    
    refine g_aload0 C dX3_giveBack_7 ?_
    refine g_getIE C h1 dX3_giveBack_8 flX3_18 (show 14 < 68 by decide) rfl rfl ?_
    refine g_iconst C (nI 1) dX3_giveBack_11 (by decide) ?_
    refine g_isubN C dX3_giveBack_12 (by omega) ?_
    refine g_goto C 18 dX3_giveBack_13 (by decide) ?_
    refine g_istore2 C dX3_giveBack_18 ?_
    refine g_set (L' := [some (.ref 14), some (.ref mo), some (.int (nI ((nx + 9) % 10))), none]) rfl (by first | rw [show nx - 1 = (nx + 9) % 10 by omega] | rw [show (nx + 9) % 10 = 9 by omega]) rfl ?_
    refine g_aload0 C dX3_giveBack_19 ?_
    refine g_iload2 C dX3_giveBack_20 ?_
    refine g_callV1r C dX3_giveBack_21 vlX3_22 (s_slotAt (by omega)) hKd (by first | decide | omega) rfl (Nat.le_of_ble_eq_true rfl) (show 14 < 68 by decide) rfl ?_
    rintro _ _ ⟨rfl, rfl⟩
    refine g_astore3 C dX3_giveBack_24 ?_
    refine g_aload0 C dX3_giveBack_25 ?_
    refine g_getIE C h2 dX3_giveBack_26 flX3_30 (show 14 < 68 by decide) rfl rfl ?_
    refine g_if_leN C 36 (by omega) dX3_giveBack_29 (by decide) (fun h29 => ?_) (fun h29 => ?_)
    · -- X3_giveBack 29t
      
      refine g_iconst C (nI 0) dX3_giveBack_36 (by decide) ?_
      exact g_ret0 M dX3_giveBack_37 (⟨z_b0 (by omega), by rw [if_neg (by omega)]⟩)
    · -- X3_giveBack 29f
      
      refine g_aload3 C dX3_giveBack_32 ?_
      refine g_ifnonnull C 38 dX3_giveBack_33 (by decide) ?_
      refine g_aload1 C dX3_giveBack_38 ?_
      refine g_aload3 C dX3_giveBack_39 ?_
      refine g_callV1v C dX3_giveBack_40 vlX3_26 (s_mbec hmo (zMo_past _ (by omega)) (by omega)) hKd (by first | decide | omega) rfl (Nat.le_of_ble_eq_true rfl) (show mo < 68 by have := hmo.1; omega) hmo.2.1 ?_
      rintro _ rfl
      refine g_aload0 C dX3_giveBack_43 ?_
      refine g_iload2 C dX3_giveBack_44 ?_
      refine g_putI C dX3_giveBack_45 fpX3_18 (show 14 < 68 by decide) rfl rfl rfl rfl ?_
      refine g_aload0 C dX3_giveBack_48 ?_
      refine g_dup C dX3_giveBack_49 rfl ?_
      refine g_getIE C ((up_j _ (by decide)).trans ((congrFun (zBec_o (by omega)) 2).trans h2)) dX3_giveBack_50 flX3_30 (show 14 < 68 by decide) rfl rfl ?_
      refine g_iconst C (nI 1) dX3_giveBack_53 (by decide) ?_
      refine g_isubN C dX3_giveBack_54 (by omega) ?_
      refine g_putI C dX3_giveBack_55 fpX3_30 (show 14 < 68 by decide) rfl rfl rfl rfl ?_
      refine g_iconst C (nI 1) dX3_giveBack_58 (by decide) ?_
      exact g_ret1 M dX3_giveBack_59 (⟨z_b1 h29, by rw [if_pos h29]⟩)
end
section
/-! orders: as lists of sailors; as the class writes them -/
def zSg (A : zCr) (h s : Nat) : Nat := if h % 3 = cW A s then h + 1 else h
def zOk (A : zCr) (ik : Nat → Nat) (T H d m h s : Nat) : Bool := (T &&& (m ^^^ 4294967295)).testBit s && (decide (ik s = zInk A d) && (zDare A s m && decide (zSg A h s < H)))
def zOx (A : zCr) (ik : Nat → Nat) (T H : Nat) : Nat → Nat → Nat → Nat → List (List Nat)
  | 0, _, m, _ => if m = T then [[]] else []
  | f + 1, d, m, h => if m = T then [[]] else (List.range 7).flatMap fun s => if zOk A ik T H d m h s = true then (zOx A ik T H f (d + 1) (m ||| (1 <<< s)) (zSg A h s + 1)).map (s :: ·) else []
def zOs (A : zCr) (ik : Nat → Nat) (T H f d m h n : Nat) : List (List Nat) := (List.range n).flatMap fun s => if zOk A ik T H d m h s = true then (zOx A ik T H f (d + 1) (m ||| (1 <<< s)) (zSg A h s + 1)).map (s :: ·) else []
theorem zOs_0 (A : zCr) (ik : Nat → Nat) (T H f d m h : Nat) : zOs A ik T H f d m h 0 = [] := rfl
theorem zOs_s (A : zCr) (ik : Nat → Nat) (T H f d m h n : Nat) : zOs A ik T H f d m h (n + 1) = zOs A ik T H f d m h n ++ if zOk A ik T H d m h n = true then (zOx A ik T H f (d + 1) (m ||| (1 <<< n)) (zSg A h n + 1)).map (n :: ·) else [] := by
  unfold zOs
  rw [List.range_succ, List.flatMap_append, List.flatMap_singleton]
theorem zOs_mono (A : zCr) (ik : Nat → Nat) (T H f d m h n : Nat) : ∀ k, (zOs A ik T H f d m h n).length ≤ (zOs A ik T H f d m h (n + k)).length
  | 0 => Nat.le_refl _
  | k + 1 => by
    rw [← Nat.add_assoc, zOs_s, List.length_append]
    have := zOs_mono A ik T H f d m h n k
    omega
theorem zOx_s (A : zCr) (ik : Nat → Nat) (T H f d m h : Nat) (hm : m ≠ T) : zOx A ik T H (f + 1) d m h = zOs A ik T H f d m h 7 := by
  show (if m = T then _ else _) = _
  rw [if_neg hm]
  rfl
/-- an order as one number: each one's place, above them the first one -/
def zEn : Nat → Nat → List Nat → Nat
  | _, o, [] => o
  | d, o, s :: l => zEn (d + 1) (if d = 0 then s <<< 21 else o ||| (d <<< (3 * s))) l
def zNob : Nat := 7 <<< 21
abbrev zCod (l : List Nat) : Nat := zEn 0 zNob l
def OrC (c : Nat → Nat → Int32) (l : List Nat) : Prop := c 52 3 = nI l.length ∧ ∀ i v, l[i]? = some v → c 53 i = nI v
theorem OrC.push {c : Nat → Nat → Int32} {l : List Nat} {v : Nat} (h : OrC c l) : OrC (z_up (z_up c 53 l.length (nI v)) 52 3 (nI (l.length + 1))) (l ++ [v]) := by
  refine ⟨by rw [up_s, List.length_append]; rfl, fun i x hi => ?_⟩
  rw [up_k (by decide)]
  by_cases hl : i < l.length
  · rw [List.getElem?_append_left hl] at hi
    rw [up_j _ (by omega)]
    exact h.2 i x hi
  · rw [List.getElem?_append_right (by omega)] at hi
    have hz := (List.getElem?_eq_some_iff.mp hi).1
    simp at hz
    obtain rfl : i = l.length := by omega
    rw [Nat.sub_self] at hi
    cases hi
    exact up_s _ _ _ _
/-- what else of the orders' object the search does not change -/
def OrK (c c' : Nat → Nat → Int32) : Prop := (∀ a, a ≠ 52 → a ≠ 53 → c' a = c a) ∧ ∀ b, b ≠ 3 → c' 52 b = c 52 b
theorem OrK.rf (c : Nat → Nat → Int32) : OrK c c := ⟨fun _ _ _ => rfl, fun _ _ => rfl⟩
theorem OrK.tr {a b c : Nat → Nat → Int32} (h : OrK a b) (h2 : OrK b c) : OrK a c := ⟨fun x h3 h4 => (h2.1 x h3 h4).trans (h.1 x h3 h4), fun x h3 => (h2.2 x h3).trans (h.2 x h3)⟩
theorem OrK.push (c : Nat → Nat → Int32) (i : Nat) (v w : Int32) : OrK c (z_up (z_up c 53 i v) 52 3 w) := ⟨fun a h1 h2 => by rw [up_K h1, up_K h2], fun b hb => by rw [up_j _ hb, up_k (by decide)]⟩
/-- what the search reads -/
def SeC (A : zCr) (ik : Nat → Nat) (T H : Nat) (c : Nat → Nat → Int32) : Prop := CrC 3 c A ∧ c 52 4 = nI T ∧ c 52 5 = nI H ∧ ∀ s, s < 7 → T.testBit s = true → c 55 s = nI (ik s)
theorem CrC.eq {p : Nat} {c c' : Nat → Nat → Int32} {A : zCr} (h : CrC p c A) (h0 : c' p = c p) (h1 : c' (p + 1) = c (p + 1)) (h2 : c' (p + 2) = c (p + 2)) (h3 : c' (p + 3) = c (p + 3)) : CrC p c' A := by
  unfold CrC
  rw [h0, h1, h2, h3]
  exact h
theorem SeC.k {A : zCr} {ik : Nat → Nat} {T H : Nat} {c c' : Nat → Nat → Int32} (h : SeC A ik T H c) (hk : OrK c c') : SeC A ik T H c' := by
  obtain ⟨h1, h2, h3, h4⟩ := h
  refine ⟨h1.eq (hk.1 _ (by decide) (by decide)) (hk.1 _ (by decide) (by decide)) (hk.1 _ (by decide) (by decide)) (hk.1 _ (by decide) (by decide)), (hk.2 4 (by decide)).trans h2, (hk.2 5 (by decide)).trans h3, fun s hs ht => ?_⟩
  rw [hk.1 55 (by decide) (by decide)]
  exact h4 s hs ht
theorem zM_bit {s : Nat} (h : s < 32) : Nat.testBit 4294967295 s = true := by
  rw [show 4294967295 = 2 ^ 32 - 1 from rfl, Nat.testBit_two_pow_sub_one]
  exact decide_eq_true h
theorem zan_bit (T m : Nat) {s : Nat} (h : s < 32) : (T &&& (m ^^^ 4294967295)).testBit s = (T.testBit s && !m.testBit s) := by
  rw [Nat.testBit_and, Nat.testBit_xor, zM_bit h]
  cases m.testBit s <;> simp
end
section
/-! the search for all orders -/
set_option maxRecDepth 100000 in
set_option maxHeartbeats 4000000 in
theorem s_placeOf {Γ : zG} {w0 : zW} {o s : Nat} (ho : o < 2 ^ 31) (hs : s < 7) : Sp Γ 0 mX2_placeOf [.int (nI o), .int (nI s)] 0 0 (w0) (z_pi (fun v w => w = w0 ∧ v = nI ((o >>> (3 * s)) &&& 7))) := by
  refine Sp.of (own := RX2) 0 false rfl (by decide +kernel) rfl rfl (fun h => by cases h) (fun K hKd M => ?_)
  have C := M.1
  show GG Γ K 0 0 (w0) 0 [some (.int (nI o)), some (.int (nI s))] []
  refine g_iload0 C dX2_placeOf_0 ?_
  refine g_iconst C (nI 3) dX2_placeOf_1 (by decide) ?_
  refine g_iload1 C dX2_placeOf_2 ?_
  refine g_imulN C dX2_placeOf_3 ?_
  refine g_iushrN C dX2_placeOf_4 (by omega) (by omega) ?_
  refine g_bipush C (nI 7) dX2_placeOf_5 (by decide) ?_
  refine g_iandN C dX2_placeOf_7 ?_
  exact g_reti M dX2_placeOf_8 (⟨rfl, rfl⟩)
set_option maxRecDepth 100000 in
set_option maxHeartbeats 4000000 in
theorem s_firstOf {Γ : zG} {w0 : zW} {o : Nat} (ho : o < 2 ^ 31) : Sp Γ 0 mX2_firstOf [.int (nI o)] 0 0 (w0) (z_pi (fun v w => w = w0 ∧ v = nI (o >>> 21))) := by
  refine Sp.of (own := RX2) 0 false rfl (by decide +kernel) rfl rfl (fun h => by cases h) (fun K hKd M => ?_)
  have C := M.1
  show GG Γ K 0 0 (w0) 0 [some (.int (nI o))] []
  refine g_iload0 C dX2_firstOf_0 ?_
  refine g_bipush C (nI 21) dX2_firstOf_1 (by decide) ?_
  refine g_iushrN C dX2_firstOf_3 (by omega) (by omega) ?_
  exact g_reti M dX2_firstOf_4 (⟨rfl, rfl⟩)
set_option maxRecDepth 100000 in
set_option maxHeartbeats 4000000 in
theorem s_add {Γ : zG} {c : Nat → Nat → Int32} {t : Nat → Int64} {l : List Nat} {v : Nat} (h : OrC c l) (hl : l.length < 5040) : Sp Γ 1 mX2_add [.ref 52, .int (nI v)] 0 0 (wF c t) (z_pv (fun w => w = wF (z_up (z_up c 53 l.length (nI v)) 52 3 (nI (l.length + 1))) t)) := by
  refine Sp.of (own := RX2) 0 false rfl (by decide +kernel) rfl rfl (fun h => by cases h) (fun K hKd M => ?_)
  have C := M.1
  show GG Γ K 0 0 (wF c t) 0 [some (.ref 52), some (.int (nI v))] []
  refine g_aload0 C dX2_add_0 ?_
  refine g_getIE C h.1 dX2_add_1 flX2_21 (show 52 < 68 by decide) rfl rfl ?_
  refine g_sipush C (nI 5040) dX2_add_4 (by decide) ?_
  refine g_icmp_geN C 32 (by omega) (by omega) dX2_add_7 (by decide) (fun h7 => absurd h7 (by omega)) (fun h7 => ?_)
  refine g_aload0 C dX2_add_10 ?_
  refine g_getRT C dX2_add_11 flX2_11 (show 52 < 68 by decide) rfl rfl (by decide) ?_
  refine g_aload0 C dX2_add_14 ?_
  refine g_getIE C h.1 dX2_add_15 flX2_21 (show 52 < 68 by decide) rfl rfl ?_
  refine g_iload1 C dX2_add_18 ?_
  refine g_callS3v C dX2_add_19 slX2_42 (s_put (show 53 < 68 by decide) rfl hl (by decide)) hKd (by first | decide | omega) rfl (Nat.le_of_ble_eq_true rfl) ?_
  rintro _ rfl
  refine g_aload0 C dX2_add_22 ?_
  refine g_dup C dX2_add_23 rfl ?_
  refine g_getIE C ((up_k (by decide) _).trans h.1) dX2_add_24 flX2_21 (show 52 < 68 by decide) rfl rfl ?_
  refine g_iconst C (nI 1) dX2_add_27 (by decide) ?_
  refine g_iaddN C dX2_add_28 ?_
  refine g_putI C dX2_add_29 fpX2_21 (show 52 < 68 by decide) rfl rfl rfl rfl ?_
  exact g_retv M dX2_add_32 (rfl)
set_option maxRecDepth 100000 in
set_option maxHeartbeats 4000000 in
theorem s_extend {Γ : zG} {t : Nat → Int64} {A : zCr} (ok : OkA A) {ik : Nat → Nat} {T H : Nat} (hT : T < 128) (hTn : ∀ s, s < 7 → T.testBit s = true → s < cN A) (hH : H ≤ 99) (hik : ∀ s, s < 7 → T.testBit s = true → ik s ≤ 4) : ∀ (f : Nat) (c : Nat → Nat → Int32) (l : List Nat) (d m h o : Nat), d + f = 7 → SeC A ik T H c → OrC c l → m < 128 → h ≤ 100 → (l ++ (zOx A ik T H f d m h).map (zEn d o)).length ≤ 5040 → Sp Γ (3 + f) mX2_extend [.ref 52, .ref 3, .int (nI d), .int (nI m), .int (nI h), .int (nI o)] 0 0 (wF c t) (z_pv (fun w => ∃ c', w = wF c' t ∧ OrC c' (l ++ (zOx A ik T H f d m h).map (zEn d o)) ∧ OrK c c')) := by
  intro f
  induction f with
  | zero =>
    intro c l d m h o hd hS hO hm hh hlen
    refine Sp.of (own := RX2) 4 false rfl (by decide +kernel) rfl rfl (fun h => by cases h) (fun K hKd M => ?_)
    have C := M.1
    show GG Γ K 0 0 (wF c t) 0 [some (.ref 52), some (.ref 3), some (.int (nI d)), some (.int (nI m)), some (.int (nI h)), some (.int (nI o)), none, none, none, none] []
    refine g_iload3 C dX2_extend_0 ?_
    refine g_aload0 C dX2_extend_1 ?_
    refine g_getIE C hS.2.1 dX2_extend_2 flX2_25 (show 52 < 68 by decide) rfl rfl ?_
    refine g_icmp_neN C 15 (by omega) (by omega) dX2_extend_5 (by decide) (fun h5 => ?_) (fun h5 => ?_)
    · -- X2_extend 5t
      have hx : (zOx A ik T H 0 d m h).map (zEn d o) = [] := by show (if m = T then _ else _ : List (List Nat)).map _ = _; rw [if_neg h5]; rfl
      refine g_iload2 C dX2_extend_15 ?_
      refine g_bipush C (nI 7) dX2_extend_16 (by decide) ?_
      refine g_icmp_ltN C 22 (by omega) (by omega) dX2_extend_18 (by decide) (fun h18 => absurd h18 (by omega)) (fun h18 => ?_)
      exact g_retv M dX2_extend_21 (⟨_, rfl, by rw [hx, List.append_nil]; exact hO, OrK.rf c⟩)
    · -- X2_extend 5f
      have hx : (zOx A ik T H 0 d m h).map (zEn d o) = [o] := by show (if m = T then _ else _ : List (List Nat)).map _ = _; rw [if_pos h5]; rfl
      refine g_aload0 C dX2_extend_8 ?_
      refine g_iload5 C dX2_extend_9 ?_
      refine g_callV1v C dX2_extend_11 vlX2_51 (s_add hO (by rw [hx, List.length_append] at hlen; simp at hlen; omega)) hKd (by first | decide | omega) rfl (Nat.le_of_ble_eq_true rfl) (show 52 < 68 by decide) rfl ?_
      rintro _ rfl
      exact g_retv M dX2_extend_14 (⟨_, rfl, by rw [hx]; exact hO.push, OrK.push c _ _ _⟩)
  | succ f ihf =>
    intro c l d m h o hd hS hO hm hh hlen
    refine Sp.of (own := RX2) 4 false rfl (by decide +kernel) rfl rfl (fun h => by cases h) (fun K hKd M => ?_)
    have C := M.1
    show GG Γ K 0 0 (wF c t) 0 [some (.ref 52), some (.ref 3), some (.int (nI d)), some (.int (nI m)), some (.int (nI h)), some (.int (nI o)), none, none, none, none] []
    have H32 : ∀ (n : Nat) (c' : Nat → Nat → Int32) (s : Nat) (x y : Option Value), m ≠ T → s ≤ 7 → OrC c' (l ++ (zOs A ik T H f d m h s).map (zEn d o)) → OrK c c' → 7 - s < n → GG Γ K 0 0 (wF c' t) 32 [some (.ref 52), some (.ref 3), some (.int (nI d)), some (.int (nI m)), some (.int (nI h)), some (.int (nI o)), some (.int (nI (zInk A d))), some (.int (nI s)), x, y] [] := by
      intro n
      induction n with
      | zero => intro c' s x y hne hs hO' hK' hn; exact absurd hn (by omega)
      | succ n ih =>
        intro c' s x y hne hs hO' hK' hn
        have hS' := hS.k hK'
        have hx := zOx_s A ik T H f d m h hne
        refine g_iload7 C dX2_extend_32 ?_
        refine g_bipush C (nI 7) dX2_extend_34 (by decide) ?_
        refine g_icmp_geN C 159 (by omega) (by omega) dX2_extend_36 (by decide) (fun h36 => ?_) (fun h36 => ?_)
        · -- X2_extend 36t
          obtain rfl : s = 7 := by omega
          exact g_retv M dX2_extend_159 (⟨c', rfl, by rw [hx]; exact hO', hK'⟩)
        · -- X2_extend 36f
          refine g_aload0 C dX2_extend_39 ?_
          refine g_getIE C hS'.2.1 dX2_extend_40 flX2_25 (show 52 < 68 by decide) rfl rfl ?_
          refine g_iload3 C dX2_extend_43 ?_
          refine g_iconst C (nI 4294967295) dX2_extend_44 (by decide) ?_
          refine g_ixorN C dX2_extend_45 ?_
          refine g_iandN C dX2_extend_46 ?_
          refine g_iload7 C dX2_extend_47 ?_
          refine g_callS2i C dX2_extend_49 slX2_61 (s_has (zand_l (by omega)) (by omega)) hKd (by first | decide | omega) rfl (Nat.le_of_ble_eq_true rfl) ?_
          rintro _ _ ⟨rfl, rfl⟩
          refine g_if_eqB C 153 dX2_extend_52 (by decide) (fun h52 => ?_) (fun h52 => ?_)
          · -- X2_extend 52t
            --
            refine g_iinc7N C dX2_extend_153 ?_
            refine g_goto C 32 dX2_extend_156 (by decide) ?_
            exact ih c' (s + 1) _ _ hne (by omega) (by rw [zOs_s, if_neg (by unfold zOk; rw [h52]; simp), List.append_nil]; exact hO') hK' (by omega)
          · -- X2_extend 52f
            have hb := h52
            rw [zan_bit T m (by omega)] at hb
            have hTs : T.testBit s = true := by revert hb; cases T.testBit s <;> simp
            have hsn := hTn s h36 hTs
            refine g_aload0 C dX2_extend_55 ?_
            refine g_getRT C dX2_extend_56 flX2_18 (show 52 < 68 by decide) rfl rfl (by decide) ?_
            refine g_iload7 C dX2_extend_59 ?_
            refine g_callS2i C dX2_extend_61 slX2_37 (s_at (show 55 < 68 by decide) rfl h36 (by decide) (hS'.2.2.2 s h36 hTs)) hKd (by first | decide | omega) rfl (Nat.le_of_ble_eq_true rfl) ?_
            rintro _ _ ⟨rfl, rfl⟩
            refine g_iload6 C dX2_extend_64 ?_
            refine g_icmp_ne C 153 dX2_extend_66 (by decide) (fun h66 => ?_) (fun h66 => ?_)
            · -- X2_extend 66t
              --
              refine g_iinc7N C dX2_extend_153 ?_
              refine g_goto C 32 dX2_extend_156 (by decide) ?_
              exact ih c' (s + 1) _ _ hne (by omega) (by rw [zOs_s, if_neg (by unfold zOk; rw [decide_eq_false (fun e => h66 (by rw [e]))]; simp), List.append_nil]; exact hO') hK' (by omega)
            · -- X2_extend 66f
              have hi := (nI_eq (by have := hik s h36 hTs; omega) (by have := ok.2.2.2.2.1; unfold zInk; omega)).mp h66
              refine g_aload1 C dX2_extend_69 ?_
              refine g_iload7 C dX2_extend_70 ?_
              refine g_iload3 C dX2_extend_72 ?_
              refine g_callV2i C dX2_extend_73 vlX2_65 (s_dares ok hS'.1 hsn hm) hKd (by first | decide | omega) rfl (Nat.le_of_ble_eq_true rfl) (show 3 < 68 by decide) rfl ?_
              rintro _ _ ⟨rfl, rfl⟩
              refine g_if_eqB C 153 dX2_extend_76 (by decide) (fun h76 => ?_) (fun h76 => ?_)
              · -- X2_extend 76t
                --
                refine g_iinc7N C dX2_extend_153 ?_
                refine g_goto C 32 dX2_extend_156 (by decide) ?_
                exact ih c' (s + 1) _ _ hne (by omega) (by rw [zOs_s, if_neg (by unfold zOk; rw [h76]; simp), List.append_nil]; exact hO') hK' (by omega)
              · -- X2_extend 76f
                
                refine g_aload1 C dX2_extend_79 ?_
                refine g_iload7 C dX2_extend_80 ?_
                refine g_iload4 C dX2_extend_82 ?_
                refine g_callV2i C dX2_extend_84 vlX2_68 (s_isOnDeck ok hS'.1 hsn (by omega)) hKd (by first | decide | omega) rfl (Nat.le_of_ble_eq_true rfl) (show 3 < 68 by decide) rfl ?_
                rintro _ _ ⟨rfl, rfl⟩
                refine g_if_eqB C 97 dX2_extend_87 (by decide) (fun h87 => ?_) (fun h87 => ?_)
                · -- X2_extend 87t
                  have hg : zSg A h s = h := by unfold zSg; rw [if_neg (by simpa using h87)]
                  refine g_iload4 C dX2_extend_97 ?_
                  refine g_istore8 C dX2_extend_99 ?_
                  refine g_iload2 C dX2_extend_101 ?_
                  refine g_if_neN C 113 (by omega) dX2_extend_102 (by decide) (fun h102 => ?_) (fun h102 => ?_)
                  · -- X2_extend 102t
                    have he : ∀ q, zEn d o (s :: q) = zEn (d + 1) (o ||| (d <<< (3 * s))) q := fun q => by rw [zEn, if_neg (by omega)]
                    refine g_iload5 C dX2_extend_113 ?_
                    refine g_iload2 C dX2_extend_115 ?_
                    refine g_iconst C (nI 3) dX2_extend_116 (by decide) ?_
                    refine g_iload7 C dX2_extend_117 ?_
                    refine g_imulN C dX2_extend_119 ?_
                    refine g_ishlN C dX2_extend_120 (by omega) ?_
                    refine g_iorN C dX2_extend_121 ?_
                    refine g_istore9 C dX2_extend_122 ?_
                    refine g_iload8 C dX2_extend_124 ?_
                    refine g_aload0 C dX2_extend_126 ?_
                    refine g_getIE C hS'.2.2.1 dX2_extend_127 flX2_33 (show 52 < 68 by decide) rfl rfl ?_
                    refine g_icmp_geN C 153 (by omega) (by omega) dX2_extend_130 (by decide) (fun h130 => ?_) (fun h130 => ?_)
                    · -- X2_extend 130t
                      --
                      refine g_iinc7N C dX2_extend_153 ?_
                      refine g_goto C 32 dX2_extend_156 (by decide) ?_
                      exact ih c' (s + 1) _ _ hne (by omega) (by rw [zOs_s, if_neg (by unfold zOk; rw [decide_eq_false (show ¬ zSg A h s < H by omega)]; simp), List.append_nil]; exact hO') hK' (by omega)
                    · -- X2_extend 130f
                      have hok : zOk A ik T H d m h s = true := by unfold zOk; rw [h52, decide_eq_true hi, h76, decide_eq_true (by omega)]; rfl
                      refine g_aload0 C dX2_extend_133 ?_
                      refine g_aload1 C dX2_extend_134 ?_
                      refine g_iload2 C dX2_extend_135 ?_
                      refine g_iconst C (nI 1) dX2_extend_136 (by decide) ?_
                      refine g_iaddN C dX2_extend_137 ?_
                      refine g_iload3 C dX2_extend_138 ?_
                      refine g_iconst C (nI 1) dX2_extend_139 (by decide) ?_
                      refine g_iload7 C dX2_extend_140 ?_
                      refine g_ishlN C dX2_extend_142 (by omega) ?_
                      refine g_iorN C dX2_extend_143 ?_
                      refine g_iload8 C dX2_extend_144 ?_
                      refine g_iconst C (nI 1) dX2_extend_146 (by decide) ?_
                      refine g_iaddN C dX2_extend_147 ?_
                      refine g_iload9 C dX2_extend_148 ?_
                      refine g_callS6v C dX2_extend_150 slX2_47 (ihf c' (l ++ (zOs A ik T H f d m h s).map (zEn d o)) (d + 1) (m ||| (1 <<< s)) _ _ (by omega) hS' hO' (zor_lt hm h36) (by omega) (by have e := hlen; rw [hx] at e; have e2 := zOs_mono A ik T H f d m h (s + 1) (6 - s); rw [show s + 1 + (6 - s) = 7 by omega, zOs_s, if_pos hok] at e2; simp only [List.length_append, List.length_map] at e e2 ⊢; rw [hg] at e2; omega)) hKd (by first | decide | omega) rfl (Nat.le_of_ble_eq_true rfl) ?_
                      rintro _ ⟨c2, rfl, hO2, hK2⟩
                      refine g_iinc7N C dX2_extend_153 ?_
                      refine g_goto C 32 dX2_extend_156 (by decide) ?_
                      exact ih c2 (s + 1) _ _ hne (by omega) (by rw [zOs_s, if_pos hok, List.map_append, ← List.append_assoc, hg, List.map_map]; rw [show zEn d o ∘ (fun q => s :: q) = zEn (d + 1) _ from funext fun q => he q]; exact hO2) (hK'.tr hK2) (by omega)
                  · -- X2_extend 102f
                    have he : ∀ q, zEn d o (s :: q) = zEn (d + 1) (s <<< 21) q := fun q => by rw [zEn, if_pos h102]
                    refine g_iload7 C dX2_extend_105 ?_
                    refine g_bipush C (nI 21) dX2_extend_107 (by decide) ?_
                    refine g_ishlN C dX2_extend_109 (by decide) ?_
                    refine g_goto C 122 dX2_extend_110 (by decide) ?_
                    refine g_istore9 C dX2_extend_122 ?_
                    refine g_iload8 C dX2_extend_124 ?_
                    refine g_aload0 C dX2_extend_126 ?_
                    refine g_getIE C hS'.2.2.1 dX2_extend_127 flX2_33 (show 52 < 68 by decide) rfl rfl ?_
                    refine g_icmp_geN C 153 (by omega) (by omega) dX2_extend_130 (by decide) (fun h130 => ?_) (fun h130 => ?_)
                    · -- X2_extend 130t
                      --
                      refine g_iinc7N C dX2_extend_153 ?_
                      refine g_goto C 32 dX2_extend_156 (by decide) ?_
                      exact ih c' (s + 1) _ _ hne (by omega) (by rw [zOs_s, if_neg (by unfold zOk; rw [decide_eq_false (show ¬ zSg A h s < H by omega)]; simp), List.append_nil]; exact hO') hK' (by omega)
                    · -- X2_extend 130f
                      have hok : zOk A ik T H d m h s = true := by unfold zOk; rw [h52, decide_eq_true hi, h76, decide_eq_true (by omega)]; rfl
                      refine g_aload0 C dX2_extend_133 ?_
                      refine g_aload1 C dX2_extend_134 ?_
                      refine g_iload2 C dX2_extend_135 ?_
                      refine g_iconst C (nI 1) dX2_extend_136 (by decide) ?_
                      refine g_iaddN C dX2_extend_137 ?_
                      refine g_iload3 C dX2_extend_138 ?_
                      refine g_iconst C (nI 1) dX2_extend_139 (by decide) ?_
                      refine g_iload7 C dX2_extend_140 ?_
                      refine g_ishlN C dX2_extend_142 (by omega) ?_
                      refine g_iorN C dX2_extend_143 ?_
                      refine g_iload8 C dX2_extend_144 ?_
                      refine g_iconst C (nI 1) dX2_extend_146 (by decide) ?_
                      refine g_iaddN C dX2_extend_147 ?_
                      refine g_iload9 C dX2_extend_148 ?_
                      refine g_callS6v C dX2_extend_150 slX2_47 (ihf c' (l ++ (zOs A ik T H f d m h s).map (zEn d o)) (d + 1) (m ||| (1 <<< s)) _ _ (by omega) hS' hO' (zor_lt hm h36) (by omega) (by have e := hlen; rw [hx] at e; have e2 := zOs_mono A ik T H f d m h (s + 1) (6 - s); rw [show s + 1 + (6 - s) = 7 by omega, zOs_s, if_pos hok] at e2; simp only [List.length_append, List.length_map] at e e2 ⊢; rw [hg] at e2; omega)) hKd (by first | decide | omega) rfl (Nat.le_of_ble_eq_true rfl) ?_
                      rintro _ ⟨c2, rfl, hO2, hK2⟩
                      refine g_iinc7N C dX2_extend_153 ?_
                      refine g_goto C 32 dX2_extend_156 (by decide) ?_
                      exact ih c2 (s + 1) _ _ hne (by omega) (by rw [zOs_s, if_pos hok, List.map_append, ← List.append_assoc, hg, List.map_map]; rw [show zEn d o ∘ (fun q => s :: q) = zEn (d + 1) _ from funext fun q => he q]; exact hO2) (hK'.tr hK2) (by omega)
                · -- X2_extend 87f
                  have hg : zSg A h s = h + 1 := by unfold zSg; rw [if_pos (by simpa using h87)]
                  refine g_iload4 C dX2_extend_90 ?_
                  refine g_iconst C (nI 1) dX2_extend_92 (by decide) ?_
                  refine g_iaddN C dX2_extend_93 ?_
                  refine g_goto C 99 dX2_extend_94 (by decide) ?_
                  refine g_istore8 C dX2_extend_99 ?_
                  refine g_iload2 C dX2_extend_101 ?_
                  refine g_if_neN C 113 (by omega) dX2_extend_102 (by decide) (fun h102 => ?_) (fun h102 => ?_)
                  · -- X2_extend 102t
                    have he : ∀ q, zEn d o (s :: q) = zEn (d + 1) (o ||| (d <<< (3 * s))) q := fun q => by rw [zEn, if_neg (by omega)]
                    refine g_iload5 C dX2_extend_113 ?_
                    refine g_iload2 C dX2_extend_115 ?_
                    refine g_iconst C (nI 3) dX2_extend_116 (by decide) ?_
                    refine g_iload7 C dX2_extend_117 ?_
                    refine g_imulN C dX2_extend_119 ?_
                    refine g_ishlN C dX2_extend_120 (by omega) ?_
                    refine g_iorN C dX2_extend_121 ?_
                    refine g_istore9 C dX2_extend_122 ?_
                    refine g_iload8 C dX2_extend_124 ?_
                    refine g_aload0 C dX2_extend_126 ?_
                    refine g_getIE C hS'.2.2.1 dX2_extend_127 flX2_33 (show 52 < 68 by decide) rfl rfl ?_
                    refine g_icmp_geN C 153 (by omega) (by omega) dX2_extend_130 (by decide) (fun h130 => ?_) (fun h130 => ?_)
                    · -- X2_extend 130t
                      --
                      refine g_iinc7N C dX2_extend_153 ?_
                      refine g_goto C 32 dX2_extend_156 (by decide) ?_
                      exact ih c' (s + 1) _ _ hne (by omega) (by rw [zOs_s, if_neg (by unfold zOk; rw [decide_eq_false (show ¬ zSg A h s < H by omega)]; simp), List.append_nil]; exact hO') hK' (by omega)
                    · -- X2_extend 130f
                      have hok : zOk A ik T H d m h s = true := by unfold zOk; rw [h52, decide_eq_true hi, h76, decide_eq_true (by omega)]; rfl
                      refine g_aload0 C dX2_extend_133 ?_
                      refine g_aload1 C dX2_extend_134 ?_
                      refine g_iload2 C dX2_extend_135 ?_
                      refine g_iconst C (nI 1) dX2_extend_136 (by decide) ?_
                      refine g_iaddN C dX2_extend_137 ?_
                      refine g_iload3 C dX2_extend_138 ?_
                      refine g_iconst C (nI 1) dX2_extend_139 (by decide) ?_
                      refine g_iload7 C dX2_extend_140 ?_
                      refine g_ishlN C dX2_extend_142 (by omega) ?_
                      refine g_iorN C dX2_extend_143 ?_
                      refine g_iload8 C dX2_extend_144 ?_
                      refine g_iconst C (nI 1) dX2_extend_146 (by decide) ?_
                      refine g_iaddN C dX2_extend_147 ?_
                      refine g_iload9 C dX2_extend_148 ?_
                      refine g_callS6v C dX2_extend_150 slX2_47 (ihf c' (l ++ (zOs A ik T H f d m h s).map (zEn d o)) (d + 1) (m ||| (1 <<< s)) _ _ (by omega) hS' hO' (zor_lt hm h36) (by omega) (by have e := hlen; rw [hx] at e; have e2 := zOs_mono A ik T H f d m h (s + 1) (6 - s); rw [show s + 1 + (6 - s) = 7 by omega, zOs_s, if_pos hok] at e2; simp only [List.length_append, List.length_map] at e e2 ⊢; rw [hg] at e2; omega)) hKd (by first | decide | omega) rfl (Nat.le_of_ble_eq_true rfl) ?_
                      rintro _ ⟨c2, rfl, hO2, hK2⟩
                      refine g_iinc7N C dX2_extend_153 ?_
                      refine g_goto C 32 dX2_extend_156 (by decide) ?_
                      exact ih c2 (s + 1) _ _ hne (by omega) (by rw [zOs_s, if_pos hok, List.map_append, ← List.append_assoc, hg, List.map_map]; rw [show zEn d o ∘ (fun q => s :: q) = zEn (d + 1) _ from funext fun q => he q]; exact hO2) (hK'.tr hK2) (by omega)
                  · -- X2_extend 102f
                    have he : ∀ q, zEn d o (s :: q) = zEn (d + 1) (s <<< 21) q := fun q => by rw [zEn, if_pos h102]
                    refine g_iload7 C dX2_extend_105 ?_
                    refine g_bipush C (nI 21) dX2_extend_107 (by decide) ?_
                    refine g_ishlN C dX2_extend_109 (by decide) ?_
                    refine g_goto C 122 dX2_extend_110 (by decide) ?_
                    refine g_istore9 C dX2_extend_122 ?_
                    refine g_iload8 C dX2_extend_124 ?_
                    refine g_aload0 C dX2_extend_126 ?_
                    refine g_getIE C hS'.2.2.1 dX2_extend_127 flX2_33 (show 52 < 68 by decide) rfl rfl ?_
                    refine g_icmp_geN C 153 (by omega) (by omega) dX2_extend_130 (by decide) (fun h130 => ?_) (fun h130 => ?_)
                    · -- X2_extend 130t
                      --
                      refine g_iinc7N C dX2_extend_153 ?_
                      refine g_goto C 32 dX2_extend_156 (by decide) ?_
                      exact ih c' (s + 1) _ _ hne (by omega) (by rw [zOs_s, if_neg (by unfold zOk; rw [decide_eq_false (show ¬ zSg A h s < H by omega)]; simp), List.append_nil]; exact hO') hK' (by omega)
                    · -- X2_extend 130f
                      have hok : zOk A ik T H d m h s = true := by unfold zOk; rw [h52, decide_eq_true hi, h76, decide_eq_true (by omega)]; rfl
                      refine g_aload0 C dX2_extend_133 ?_
                      refine g_aload1 C dX2_extend_134 ?_
                      refine g_iload2 C dX2_extend_135 ?_
                      refine g_iconst C (nI 1) dX2_extend_136 (by decide) ?_
                      refine g_iaddN C dX2_extend_137 ?_
                      refine g_iload3 C dX2_extend_138 ?_
                      refine g_iconst C (nI 1) dX2_extend_139 (by decide) ?_
                      refine g_iload7 C dX2_extend_140 ?_
                      refine g_ishlN C dX2_extend_142 (by omega) ?_
                      refine g_iorN C dX2_extend_143 ?_
                      refine g_iload8 C dX2_extend_144 ?_
                      refine g_iconst C (nI 1) dX2_extend_146 (by decide) ?_
                      refine g_iaddN C dX2_extend_147 ?_
                      refine g_iload9 C dX2_extend_148 ?_
                      refine g_callS6v C dX2_extend_150 slX2_47 (ihf c' (l ++ (zOs A ik T H f d m h s).map (zEn d o)) (d + 1) (m ||| (1 <<< s)) _ _ (by omega) hS' hO' (zor_lt hm h36) (by omega) (by have e := hlen; rw [hx] at e; have e2 := zOs_mono A ik T H f d m h (s + 1) (6 - s); rw [show s + 1 + (6 - s) = 7 by omega, zOs_s, if_pos hok] at e2; simp only [List.length_append, List.length_map] at e e2 ⊢; rw [hg] at e2; omega)) hKd (by first | decide | omega) rfl (Nat.le_of_ble_eq_true rfl) ?_
                      rintro _ ⟨c2, rfl, hO2, hK2⟩
                      refine g_iinc7N C dX2_extend_153 ?_
                      refine g_goto C 32 dX2_extend_156 (by decide) ?_
                      exact ih c2 (s + 1) _ _ hne (by omega) (by rw [zOs_s, if_pos hok, List.map_append, ← List.append_assoc, hg, List.map_map]; rw [show zEn d o ∘ (fun q => s :: q) = zEn (d + 1) _ from funext fun q => he q]; exact hO2) (hK'.tr hK2) (by omega)
    refine g_iload3 C dX2_extend_0 ?_
    refine g_aload0 C dX2_extend_1 ?_
    refine g_getIE C hS.2.1 dX2_extend_2 flX2_25 (show 52 < 68 by decide) rfl rfl ?_
    refine g_icmp_neN C 15 (by omega) (by omega) dX2_extend_5 (by decide) (fun h5 => ?_) (fun h5 => ?_)
    · -- X2_extend 5t
      have hx := zOx_s A ik T H f d m h h5
      refine g_iload2 C dX2_extend_15 ?_
      refine g_bipush C (nI 7) dX2_extend_16 (by decide) ?_
      refine g_icmp_ltN C 22 (by omega) (by omega) dX2_extend_18 (by decide) (fun h18 => ?_) (fun h18 => absurd h18 (by omega))
      refine g_aload1 C dX2_extend_22 ?_
      refine g_iload2 C dX2_extend_23 ?_
      refine g_callV1i C dX2_extend_24 vlX2_55 (s_inkBehind ok hS.1 (by omega)) hKd (by first | decide | omega) rfl (Nat.le_of_ble_eq_true rfl) (show 3 < 68 by decide) rfl ?_
      rintro _ _ ⟨rfl, rfl⟩
      refine g_istore6 C dX2_extend_27 ?_
      refine g_iconst C (nI 0) dX2_extend_29 (by decide) ?_
      refine g_istore7 C dX2_extend_30 ?_
      exact H32 8 c 0 _ _ h5 (by omega) (by rw [zOs_0, List.map_nil, List.append_nil]; exact hO) (OrK.rf c) (by omega)
    · -- X2_extend 5f
      have hx : (zOx A ik T H (f + 1) d m h).map (zEn d o) = [o] := by show (if m = T then _ else _ : List (List Nat)).map _ = _; rw [if_pos h5]; rfl
      refine g_aload0 C dX2_extend_8 ?_
      refine g_iload5 C dX2_extend_9 ?_
      refine g_callV1v C dX2_extend_11 vlX2_51 (s_add hO (by rw [hx, List.length_append] at hlen; simp at hlen; omega)) hKd (by first | decide | omega) rfl (Nat.le_of_ble_eq_true rfl) (show 52 < 68 by decide) rfl ?_
      rintro _ rfl
      exact g_retv M dX2_extend_14 (⟨_, rfl, by rw [hx]; exact hO.push, OrK.push c _ _ _⟩)
end
section
/-! orders as numbers, read again; how many they are -/
theorem zor_bit (m s q : Nat) : (m ||| (1 <<< s)).testBit q = (m.testBit q || decide (q = s)) := by
  rw [Nat.testBit_or, Nat.shiftLeft_eq, Nat.one_mul, Nat.testBit_two_pow]
  congr 1
  exact decide_eq_decide.mpr ⟨fun h => h.symm, fun h => h.symm⟩
theorem zd_sh : ∀ d, d < 8 → ∀ s, s < 7 → ∀ q, q < 7 → ((d <<< (3 * s)) >>> (3 * q)) &&& 7 = if q = s then d else 0 := by decide +kernel
theorem zd_sh21 : ∀ d, d < 8 → ∀ s, s < 7 → (d <<< (3 * s)) >>> 21 = 0 ∧ d <<< (3 * s) < 2 ^ 24 := by decide +kernel
theorem zf_sh21 : ∀ s, s < 8 → (s <<< 21) >>> 21 = s ∧ s <<< 21 < 2 ^ 24 ∧ ∀ q, q < 7 → ((s <<< 21) >>> (3 * q)) &&& 7 = 0 := by decide +kernel
theorem zor_sh (o : Nat) {d s q : Nat} (hd : d < 8) (hs : s < 7) (hq : q < 7) : ((o ||| (d <<< (3 * s))) >>> (3 * q)) &&& 7 = ((o >>> (3 * q)) &&& 7) ||| if q = s then d else 0 := by
  rw [Nat.shiftRight_or_distrib, Nat.and_or_distrib_right, zd_sh d hd s hs q hq]
theorem zor_21 (o : Nat) {d s : Nat} (hd : d < 8) (hs : s < 7) : (o ||| (d <<< (3 * s))) >>> 21 = o >>> 21 := by
  rw [Nat.shiftRight_or_distrib, (zd_sh21 d hd s hs).1, Nat.or_zero]
def zIx : List Nat → Nat → Nat
  | [], _ => 0
  | s :: l, q => if q = s then 0 else zIx l q + 1
/-- a sailor's place in an order, 0 for who is not in it -/
def zPl (l : List Nat) (q : Nat) : Nat := if q ∈ l then zIx l q else 0
def zHd (l : List Nat) : Nat := l.headD 7
def zVal (l : List Nat) : Prop := (∀ s ∈ l, s < 7) ∧ l.Nodup ∧ l.length ≤ 7
theorem zEn_first : ∀ (l : List Nat) (d o : Nat), 0 < d → (∀ s ∈ l, s < 7) → d + l.length ≤ 8 → zEn d o l >>> 21 = o >>> 21
  | [], _, _, _, _, _ => rfl
  | s :: l, d, o, hd, hs, hl => by
    unfold zEn
    rw [if_neg (by omega), zEn_first l (d + 1) _ (by omega) (fun x hx => hs x (List.mem_cons_of_mem _ hx)) (by simp at hl; omega), zor_21 o (by simp at hl; omega) (hs s List.mem_cons_self)]
theorem zEn_place : ∀ (l : List Nat) (d o q : Nat), 0 < d → (∀ s ∈ l, s < 7) → l.Nodup → d + l.length ≤ 8 → q < 7 → (zEn d o l >>> (3 * q)) &&& 7 = ((o >>> (3 * q)) &&& 7) ||| if q ∈ l then d + zIx l q else 0
  | [], d, o, q, _, _, _, _, _ => by simp [zEn]
  | s :: l, d, o, q, hd, hs, hn, hl, hq => by
    unfold zEn
    rw [if_neg (by omega), zEn_place l (d + 1) _ q (by omega) (fun x hx => hs x (List.mem_cons_of_mem _ hx)) (List.nodup_cons.mp hn).2 (by simp at hl; omega) hq, zor_sh o (by simp at hl; omega) (hs s List.mem_cons_self) hq, Nat.or_assoc]
    congr 1
    by_cases h : q = s
    · subst h
      rw [if_pos rfl, if_neg (List.nodup_cons.mp hn).1, if_pos List.mem_cons_self, Nat.or_zero, zIx, if_pos rfl]
      rfl
    · rw [if_neg h, Nat.zero_or]
      by_cases h2 : q ∈ l
      · rw [if_pos h2, if_pos (List.mem_cons_of_mem _ h2), zIx, if_neg h]
        omega
      · rw [if_neg h2, if_neg (by simp [h, h2])]
theorem zEn_lt : ∀ (l : List Nat) (d o : Nat), 0 < d → (∀ s ∈ l, s < 7) → d + l.length ≤ 8 → o < 2 ^ 24 → zEn d o l < 2 ^ 24
  | [], _, _, _, _, _, ho => ho
  | s :: l, d, o, hd, hs, hl, ho => by
    unfold zEn
    rw [if_neg (by omega)]
    exact zEn_lt l (d + 1) _ (by omega) (fun x hx => hs x (List.mem_cons_of_mem _ hx)) (by simp at hl; omega) (Nat.or_lt_two_pow ho (zd_sh21 d (by simp at hl; omega) s (hs s List.mem_cons_self)).2)
theorem zCod_cons (s : Nat) (l : List Nat) : zCod (s :: l) = zEn 1 (s <<< 21) l := by
  show zEn 0 zNob (s :: l) = _
  rw [zEn, if_pos rfl]
theorem zCod_first {l : List Nat} (h : zVal l) : zCod l >>> 21 = zHd l := by
  cases l with
  | nil => rfl
  | cons s l =>
    have hs := h.1 s List.mem_cons_self
    rw [zCod_cons, zEn_first l 1 _ (by decide) (fun x hx => h.1 x (List.mem_cons_of_mem _ hx)) (by have := h.2.2; simp at this; omega), (zf_sh21 s (by omega)).1]
    rfl
theorem zCod_place {l : List Nat} (h : zVal l) {q : Nat} (hq : q < 7) : (zCod l >>> (3 * q)) &&& 7 = zPl l q := by
  cases l with
  | nil => exact ((zf_sh21 7 (by decide)).2.2 q hq).trans (by simp [zPl])
  | cons s l =>
    have hs := h.1 s List.mem_cons_self
    have hn := List.nodup_cons.mp h.2.1
    rw [zCod_cons, zEn_place l 1 _ q (by decide) (fun x hx => h.1 x (List.mem_cons_of_mem _ hx)) hn.2 (by have := h.2.2; simp at this; omega) hq, (zf_sh21 s (by omega)).2.2 q hq, Nat.zero_or]
    unfold zPl
    by_cases e : q = s
    · subst e
      rw [if_neg hn.1, if_pos List.mem_cons_self, zIx, if_pos rfl]
    · by_cases h2 : q ∈ l
      · rw [if_pos h2, if_pos (List.mem_cons_of_mem _ h2), zIx, if_neg e]
        omega
      · rw [if_neg h2, if_neg (by simp [e, h2])]
theorem zCod_lt {l : List Nat} (h : zVal l) : zCod l < 2 ^ 24 := by
  cases l with
  | nil => decide
  | cons s l =>
    rw [zCod_cons]
    exact zEn_lt l 1 _ (by decide) (fun x hx => h.1 x (List.mem_cons_of_mem _ hx)) (by have := h.2.2; simp at this; omega) (zf_sh21 s (by have := h.1 s List.mem_cons_self; omega)).2.1
theorem zHd_le {l : List Nat} (h : zVal l) : zHd l ≤ 7 := by
  cases l with
  | nil => exact Nat.le_refl 7
  | cons s l => have := h.1 s List.mem_cons_self; show s ≤ 7; omega
/-! counts of bits -/
theorem zpc_or : ∀ (k m s : Nat), m.testBit s = false → zpc k (m ||| (1 <<< s)) = zpc k m + if s < k then 1 else 0
  | 0, m, s, _ => by simp [zpc]
  | k + 1, m, s, h => by
    unfold zpc
    rw [zpc_or k m s h, zor_bit]
    by_cases e : k = s
    · subst e
      rw [if_neg (by omega), if_pos (by omega), h]
      simp
    · rw [decide_eq_false e, Bool.or_false]
      by_cases e2 : s < k
      · rw [if_pos e2, if_pos (by omega)]; omega
      · rw [if_neg e2, if_neg (by omega)]; omega
theorem zpc_split : ∀ (k T m : Nat), k ≤ 32 → (∀ s, s < k → m.testBit s = true → T.testBit s = true) → zpc k T = zpc k m + zpc k (T &&& (m ^^^ 4294967295))
  | 0, _, _, _, _ => rfl
  | k + 1, T, m, hk, h => by
    unfold zpc
    rw [zpc_split k T m (by omega) (fun s hs => h s (by omega)), zan_bit T m (by omega)]
    have := h k (by omega)
    cases hm : m.testBit k
    · simp; omega
    · rw [this hm]; simp; omega
theorem zpc_eq {k a b : Nat} (h : ∀ s, s < k → a.testBit s = b.testBit s) : zpc k a = zpc k b := by
  induction k with
  | zero => rfl
  | succ k ih =>
    unfold zpc
    rw [ih fun s hs => h s (by omega), h k (by omega)]
def zFac : Nat → Nat
  | 0 => 1
  | n + 1 => (n + 1) * zFac n
theorem zFac_le : ∀ n, n ≤ 7 → zFac n ≤ 5040 := by decide
/-- what every order of the search is -/
theorem zOx_val (A : zCr) (ik : Nat → Nat) {T : Nat} (H : Nat) (hT : T < 128) : ∀ (f d m h : Nat), (∀ s, m.testBit s = true → T.testBit s = true) → ∀ l ∈ zOx A ik T H f d m h, (∀ s ∈ l, s < 7 ∧ T.testBit s = true ∧ m.testBit s = false) ∧ l.Nodup ∧ l.length ≤ f ∧ (∀ s, T.testBit s = true → m.testBit s = true ∨ s ∈ l) ∧ zp8 m + l.length = zp8 T := by
  have base : ∀ (m : Nat) (l : List Nat), l ∈ (if m = T then [[]] else [] : List (List Nat)) → ∀ f, (∀ s ∈ l, s < 7 ∧ T.testBit s = true ∧ m.testBit s = false) ∧ l.Nodup ∧ l.length ≤ f ∧ (∀ s, T.testBit s = true → m.testBit s = true ∨ s ∈ l) ∧ zp8 m + l.length = zp8 T := by
    intro m l hl f
    split at hl
    · next e =>
      rw [List.mem_singleton] at hl
      subst hl e
      exact ⟨fun s hs => (List.not_mem_nil hs).elim, List.nodup_nil, Nat.zero_le _, fun s hs => Or.inl hs, rfl⟩
    · exact (List.not_mem_nil hl).elim
  intro f
  induction f with
  | zero => intro d m h _ l hl; exact base m l hl 0
  | succ f ih =>
    intro d m h hm l hl
    by_cases e : m = T
    · refine base m l ?_ (f + 1)
      have : zOx A ik T H (f + 1) d m h = [[]] := by show (if m = T then _ else _) = _; rw [if_pos e]
      rw [if_pos e]
      rw [this] at hl
      exact hl
    · rw [zOx_s A ik T H f d m h e] at hl
      unfold zOs at hl
      obtain ⟨s, hs7, hl⟩ := List.mem_flatMap.mp hl
      rw [List.mem_range] at hs7
      split at hl
      · next hok =>
        obtain ⟨q, hq, rfl⟩ := List.mem_map.mp hl
        have hb : (T &&& (m ^^^ 4294967295)).testBit s = true := by
          unfold zOk at hok
          simp only [Bool.and_eq_true] at hok
          exact hok.1
        rw [zan_bit T m (by omega)] at hb
        simp only [Bool.and_eq_true, Bool.not_eq_true'] at hb
        obtain ⟨i1, i2, i3, i4, i5⟩ := ih _ _ _ (fun x hx => by
          rw [zor_bit] at hx
          simp only [Bool.or_eq_true, decide_eq_true_eq] at hx
          rcases hx with hx | hx
          · exact hm x hx
          · rw [hx]; exact hb.1) q hq
        refine ⟨fun x hx => ?_, ?_, ?_, fun x hx => ?_, ?_⟩
        · rcases List.mem_cons.mp hx with rfl | hx
          · exact ⟨hs7, hb.1, hb.2⟩
          · obtain ⟨j1, j2, j3⟩ := i1 x hx
            rw [zor_bit] at j3
            simp only [Bool.or_eq_false_iff] at j3
            exact ⟨j1, j2, j3.1⟩
        · refine List.nodup_cons.mpr ⟨fun hx => ?_, i2⟩
          have j3 := (i1 s hx).2.2
          rw [zor_bit] at j3
          simp at j3
        · simp only [List.length_cons]; omega
        · rcases i4 x hx with h1 | h1
          · rw [zor_bit] at h1
            simp only [Bool.or_eq_true, decide_eq_true_eq] at h1
            rcases h1 with h1 | h1
            · exact Or.inl h1
            · exact Or.inr (by rw [h1]; exact List.mem_cons_self)
          · exact Or.inr (List.mem_cons_of_mem _ h1)
        · have h9 := zpc_or 8 m s hb.2
          rw [if_pos (by omega)] at h9
          have h8 : zp8 (m ||| (1 <<< s)) = zp8 m + 1 := h9
          rw [h8] at i5
          simp only [List.length_cons]
          omega
      · exact (List.not_mem_nil hl).elim
theorem zOx_len (A : zCr) (ik : Nat → Nat) {T : Nat} (H : Nat) (hT : T < 128) : ∀ (f d m h : Nat), (∀ s, m.testBit s = true → T.testBit s = true) → (zOx A ik T H f d m h).length ≤ zFac (zp8 T - zp8 m) := by
  have pos : ∀ n, 1 ≤ zFac n := by
    intro n
    induction n with
    | zero => decide
    | succ n ih => unfold zFac; exact Nat.le_trans ih (Nat.le_mul_of_pos_left _ (by omega))
  intro f
  induction f with
  | zero =>
    intro d m h _
    show (if m = T then [[]] else [] : List (List Nat)).length ≤ _
    split
    · exact pos _
    · exact Nat.zero_le _
  | succ f ih =>
    intro d m h hm
    by_cases e : m = T
    · have : zOx A ik T H (f + 1) d m h = [[]] := by show (if m = T then _ else _) = _; rw [if_pos e]
      rw [this]
      exact pos _
    · rw [zOx_s A ik T H f d m h e]
      have hsp := zpc_split 8 T m (by decide) (fun s _ => hm s)
      have key : ∀ n, n ≤ 7 → (zOs A ik T H f d m h n).length ≤ zpc n (T &&& (m ^^^ 4294967295)) * zFac (zp8 T - zp8 m - 1) := by
        intro n hn
        induction n with
        | zero => exact Nat.zero_le _
        | succ n ih2 =>
          have ih2 := ih2 (by omega)
          rw [zOs_s, List.length_append]
          unfold zpc
          rw [Nat.add_mul]
          refine Nat.add_le_add ih2 ?_
          split
          · next hok =>
            have hb : (T &&& (m ^^^ 4294967295)).testBit n = true := by
              unfold zOk at hok
              simp only [Bool.and_eq_true] at hok
              exact hok.1
            have hb2 := hb
            rw [zan_bit T m (by omega)] at hb2
            simp only [Bool.and_eq_true, Bool.not_eq_true'] at hb2
            have h9 := zpc_or 8 m n hb2.2
            rw [if_pos (by omega)] at h9
            have h8 : zp8 (m ||| (1 <<< n)) = zp8 m + 1 := h9
            rw [hb, List.length_map]
            have := ih (d + 1) (m ||| (1 <<< n)) (zSg A h n + 1) (fun x hx => by
              rw [zor_bit] at hx
              simp only [Bool.or_eq_true, decide_eq_true_eq] at hx
              rcases hx with hx | hx
              · exact hm x hx
              · rw [hx]; exact hb2.1)
            rw [h8, ← Nat.sub_sub] at this
            rw [show Bool.toNat true = 1 from rfl, Nat.one_mul]
            exact this
          · exact Nat.zero_le _
      have k7 := key 7 (Nat.le_refl _)
      have h78 : zpc 8 (T &&& (m ^^^ 4294967295)) = zpc 7 (T &&& (m ^^^ 4294967295)) := by
        have h0 : (T &&& (m ^^^ 4294967295)).testBit 7 = false := Nat.testBit_lt_two_pow (zand_l (by omega))
        show zpc 7 _ + Bool.toNat _ = _
        rw [h0]
        rfl
      rw [← h78] at k7
      have hr : zp8 T - zp8 m = zpc 8 (T &&& (m ^^^ 4294967295)) := by
        show zpc 8 T - zpc 8 m = _
        omega
      rw [hr] at k7 ⊢
      generalize zpc 8 (T &&& (m ^^^ 4294967295)) = r at k7 ⊢
      cases r with
      | zero => simp at k7; rw [k7]; exact Nat.zero_le _
      | succ r => exact k7
theorem zp8_7 {T : Nat} (hT : T < 128) : zp8 T ≤ 7 := by
  have h0 : T.testBit 7 = false := Nat.testBit_lt_two_pow (by omega)
  have : zp8 T = zpc 7 T := by
    show zpc 7 _ + Bool.toNat _ = _
    rw [h0]
    rfl
  rw [this]
  exact zp8_le 7 T
/-- all orders of those there -/
def zOrd (A : zCr) (Y : zMm) (T : Nat) : List (List Nat) := zOx A (zInkS Y) T (mH Y) 7 0 0 0
theorem zOrd_len (A : zCr) (Y : zMm) {T : Nat} (hT : T < 128) : (zOrd A Y T).length ≤ 5040 := by
  refine Nat.le_trans (zOx_len A (zInkS Y) (mH Y) hT 7 0 0 0 (fun s h => by simp at h)) (zFac_le _ ?_)
  have := zp8_7 hT
  omega
theorem zOrd_val (A : zCr) (Y : zMm) {T : Nat} (hT : T < 128) {l : List Nat} (h : l ∈ zOrd A Y T) : zVal l ∧ (∀ s, s ∈ l ↔ T.testBit s = true) ∧ l.length = zp8 T := by
  obtain ⟨h1, h2, h3, h4, h5⟩ := zOx_val A (zInkS Y) (mH Y) hT 7 0 0 0 (fun s h => by simp at h) l h
  refine ⟨⟨fun s hs => (h1 s hs).1, h2, h3⟩, fun s => ⟨fun hs => (h1 s hs).2.1, fun hs => ?_⟩, ?_⟩
  · rcases h4 s hs with h | h
    · simp at h
    · exact h
  · have : zp8 0 = 0 := by decide
    omega
end
section
/-! who is there, one seat left out -/
def zThX (w : Nat → Option Nat) (x : Int32) : Nat → Nat
  | 0 => 0
  | k + 1 => match w k with
    | none => zThX w x k
    | some s => if nI k = x then zThX w x k else zThX w x k ||| (1 <<< s)
theorem zThX_none (w : Nat → Option Nat) : ∀ k, k ≤ 8 → zThX w (-9) k = zTh w k
  | 0, _ => rfl
  | k + 1, h => by
    unfold zThX zTh
    rw [zThX_none w k (by omega)]
    cases w k with
    | none => rfl
    | some s =>
      have : ∀ k, k < 8 → nI k ≠ (-9 : Int32) := by decide
      show (if nI k = (-9 : Int32) then _ else _) = _
      rw [if_neg (this k (by omega))]
theorem zThX_lt {w : Nat → Option Nat} {x : Int32} (h : ∀ k s, k < 8 → w k = some s → s < 7) : ∀ k, k ≤ 8 → zThX w x k < 128
  | 0, _ => by show 0 < 128; decide
  | k + 1, hk => by
    have ih := zThX_lt (x := x) h k (by omega)
    unfold zThX
    split
    · exact ih
    · next s hs =>
      split
      · exact ih
      · exact zor_lt ih (h k s (by omega) hs)
theorem zThX_bit {w : Nat → Option Nat} {x : Int32} {q : Nat} : ∀ k, (zThX w x k).testBit q = true → ∃ j, j < k ∧ w j = some q ∧ nI j ≠ x
  | 0, h => by simp [zThX] at h
  | k + 1, h => by
    unfold zThX at h
    split at h
    · obtain ⟨j, h1, h2⟩ := zThX_bit k h
      exact ⟨j, by omega, h2⟩
    · next s hs =>
      split at h
      · obtain ⟨j, h1, h2⟩ := zThX_bit k h
        exact ⟨j, by omega, h2⟩
      · next hx =>
        rw [zor_bit] at h
        simp only [Bool.or_eq_true, decide_eq_true_eq] at h
        rcases h with h | h
        · obtain ⟨j, h1, h2⟩ := zThX_bit k h
          exact ⟨j, by omega, h2⟩
        · exact ⟨k, by omega, by rw [hs, h], hx⟩
theorem zSeat_of {w : Nat → Option Nat} (inj : ∀ k j s, k < 8 → j < 8 → w k = some s → w j = some s → k = j) {k s : Nat} (hk : k < 8) (h : w k = some s) : zSeat w s 8 = some k := by
  cases hz : zSeat w s 8 with
  | none => exact absurd h (zSeat_none 8 hz k hk)
  | some j =>
    obtain ⟨h1, h2⟩ := zSeat_lt 8 j hz
    rw [inj j k s h1 hk h2 h]
theorem zInkS_of {Y : zMm} (inj : ∀ k j s, k < 8 → j < 8 → mW Y k = some s → mW Y j = some s → k = j) {k s : Nat} (hk : k < 8) (h : mW Y k = some s) : zInkS Y s = mI Y k := by
  unfold zInkS
  rw [zSeat_of inj hk h]
theorem zInkS_le {Y : zMm} (h : ∀ k, k < 8 → mI Y k ≤ 4) (s : Nat) : zInkS Y s ≤ 4 := by
  unfold zInkS
  cases hz : zSeat (mW Y) s 8 with
  | none => exact Nat.zero_le _
  | some j => exact h j (zSeat_lt 8 j hz).1
theorem OkM.lt7 {A : zCr} (ok : OkA A) {Y : zMm} (h : OkM (cN A) (cS A) Y) : ∀ k s, k < 8 → mW Y k = some s → s < 7 := fun k s hk hs => by
  have h1 := (h.2.2.1 k s hk hs).1
  have h2 := ok.1
  omega
end
section
/-! all orders found; what is read off them -/
set_option maxRecDepth 100000 in
set_option maxHeartbeats 4000000 in
theorem s_find {Γ : zG} {c : Nat → Nat → Int32} {t : Nat → Int64} {A : zCr} (ok : OkA A) (hA : CrC 3 c A) {Y : zMm} (hY : MoC 11 c Y) (okm : OkM (cN A) (cS A) Y) {x : Int32} : Sp Γ 11 mX2_find [.ref 52, .ref 3, .ref 11, .int x] 0 0 (wF c t) (z_pv (fun w => ∃ c', w = wF c' t ∧ OrC c' ((zOrd A Y (zThX (mW Y) x 8)).map zCod) ∧ c' 52 4 = nI (zThX (mW Y) x 8) ∧ ∀ a, a ≠ 52 → a ≠ 53 → a ≠ 55 → c' a = c a)) := by
  refine Sp.of (own := RX2) 2 false rfl (by decide +kernel) rfl rfl (fun h => by cases h) (fun K hKd M => ?_)
  have C := M.1
  show GG Γ K 0 0 (wF c t) 0 [some (.ref 52), some (.ref 3), some (.ref 11), some (.int x), none, none] []
  have hw := OkM.lt7 ok okm
  have inj := okm.2.2.2.1
  have H21 : ∀ (n : Nat) (c' : Nat → Nat → Int32) (k : Nat) (y : Option Value), k ≤ 8 → c' 52 3 = nI 0 → c' 52 4 = nI (zThX (mW Y) x k) → c' 52 5 = nI (mH Y) → (∀ s, s < 7 → (zThX (mW Y) x k).testBit s = true → c' 55 s = nI (zInkS Y s)) → (∀ a, a ≠ 52 → a ≠ 55 → c' a = c a) → 8 - k < n → GG Γ K 0 0 (wF c' t) 21 [some (.ref 52), some (.ref 3), some (.ref 11), some (.int x), some (.int (nI k)), y] [] := by
    intro n
    induction n with
    | zero => intro c' k y hk e3 e4 e5 e6 fr hn; exact absurd hn (by omega)
    | succ n ih =>
      intro c' k y hk e3 e4 e5 e6 fr hn
      refine g_iload4 C dX2_find_21 ?_
      refine g_bipush C (nI 8) dX2_find_23 (by decide) ?_
      refine g_icmp_geN C 89 (by omega) (by omega) dX2_find_25 (by decide) (fun h25 => ?_) (fun h25 => ?_)
      · -- X2_find 25t
        obtain rfl : k = 8 := by omega
        refine g_aload0 C dX2_find_89 ?_
        refine g_aload1 C dX2_find_90 ?_
        refine g_iconst C (nI 0) dX2_find_91 (by decide) ?_
        refine g_iconst C (nI 0) dX2_find_92 (by decide) ?_
        refine g_iconst C (nI 0) dX2_find_93 (by decide) ?_
        refine g_ldc C _ dX2_find_94 kkX2_46 ?_
        refine g_top (show (14680064 : Int32) = nI 14680064 by decide) ?_
        refine g_callS6v C dX2_find_96 slX2_47 (s_extend (t := t) ok (zThX_lt hw 8 (Nat.le_refl 8)) (fun s hs hb => by obtain ⟨j, h1, h2, -⟩ := zThX_bit 8 hb; exact (okm.2.2.1 j s h1 h2).1) okm.1 (fun s _ _ => zInkS_le okm.2.2.2.2.1 s) 7 c' [] 0 0 0 zNob rfl ⟨hA.eq (fr 3 (by decide) (by decide)) (fr 4 (by decide) (by decide)) (fr 5 (by decide) (by decide)) (fr 6 (by decide) (by decide)), e4, e5, e6⟩ ⟨e3, fun i v h => by cases h⟩ (by decide) (by decide) (by rw [List.nil_append, List.length_map]; exact zOrd_len A Y (zThX_lt hw 8 (Nat.le_refl 8)))) hKd (by first | decide | omega) rfl (Nat.le_of_ble_eq_true rfl) ?_
        rintro _ ⟨c2, rfl, hO, hK⟩
        exact g_retv M dX2_find_99 (⟨c2, rfl, hO, (hK.2 4 (by decide)).trans e4, fun a h1 h2 h3 => (hK.1 a h1 h2).trans (fr a h1 h3)⟩)
      · -- X2_find 25f
        refine g_aload2 C dX2_find_28 ?_
        refine g_getRT C dX2_find_29 flX2_34 (show 11 < 68 by decide) rfl rfl (by decide) ?_
        refine g_iload4 C dX2_find_32 ?_
        refine g_callS2i C dX2_find_34 slX2_37 (s_at (show 12 < 68 by decide) rfl h25 (by decide) ((congrFun (fr 12 (by decide) (by decide)) k).trans (hY.2.2.1 k h25))) hKd (by first | decide | omega) rfl (Nat.le_of_ble_eq_true rfl) ?_
        rintro _ _ ⟨rfl, rfl⟩
        refine g_istore5 C dX2_find_37 ?_
        refine g_iload5 C dX2_find_39 ?_
        refine g_bipush C (-9) dX2_find_41 (by decide) ?_
        refine g_icmp_eq C 83 dX2_find_43 (by decide) (fun h43 => ?_) (fun h43 => ?_)
        · -- X2_find 43t
          have hq := zE_n h43 (fun s h => by have := hw k s h25 h; omega)
          refine g_iinc4N C dX2_find_83 ?_
          refine g_goto C 21 dX2_find_86 (by decide) ?_
          exact ih c' (k + 1) _ (by omega) e3 (by rw [show zThX (mW Y) x (k + 1) = zThX (mW Y) x k by rw [zThX, hq]]; exact e4) e5 (by rw [show zThX (mW Y) x (k + 1) = zThX (mW Y) x k by rw [zThX, hq]]; exact e6) fr (by omega)
        · -- X2_find 43f
          obtain ⟨s, hq⟩ := zE_s h43
          rw [hq]
          have hs7 := hw k s h25 hq
          refine g_iload4 C dX2_find_46 ?_
          refine g_iload3 C dX2_find_48 ?_
          refine g_icmp_eq C 83 dX2_find_49 (by decide) (fun h49 => ?_) (fun h49 => ?_)
          · -- X2_find 49t
            --
            refine g_iinc4N C dX2_find_83 ?_
            refine g_goto C 21 dX2_find_86 (by decide) ?_
            exact ih c' (k + 1) _ (by omega) e3 (by rw [show zThX (mW Y) x (k + 1) = zThX (mW Y) x k by rw [zThX, hq]; exact if_pos h49]; exact e4) e5 (by rw [show zThX (mW Y) x (k + 1) = zThX (mW Y) x k by rw [zThX, hq]; exact if_pos h49]; exact e6) fr (by omega)
          · -- X2_find 49f
            --
            refine g_aload0 C dX2_find_52 ?_
            refine g_dup C dX2_find_53 rfl ?_
            refine g_getIE C e4 dX2_find_54 flX2_25 (show 52 < 68 by decide) rfl rfl ?_
            refine g_iconst C (nI 1) dX2_find_57 (by decide) ?_
            refine g_iload5 C dX2_find_58 ?_
            refine g_ishlN C dX2_find_60 (by omega) ?_
            refine g_iorN C dX2_find_61 ?_
            refine g_putI C dX2_find_62 fpX2_25 (show 52 < 68 by decide) rfl rfl rfl rfl ?_
            refine g_aload0 C dX2_find_65 ?_
            refine g_getRT C dX2_find_66 flX2_18 (show 52 < 68 by decide) rfl rfl (by decide) ?_
            refine g_iload5 C dX2_find_69 ?_
            refine g_aload2 C dX2_find_71 ?_
            refine g_getRT C dX2_find_72 flX2_41 (show 11 < 68 by decide) rfl rfl (by decide) ?_
            refine g_iload4 C dX2_find_75 ?_
            refine g_callS2i C dX2_find_77 slX2_37 (s_at (show 13 < 68 by decide) rfl h25 (by decide) ((congrFun ((up_K (by decide)).trans (fr 13 (by decide) (by decide))) k).trans (hY.2.2.2 k h25))) hKd (by first | decide | omega) rfl (Nat.le_of_ble_eq_true rfl) ?_
            rintro _ _ ⟨rfl, rfl⟩
            refine g_callS3v C dX2_find_80 slX2_42 (s_put (show 55 < 68 by decide) rfl hs7 (by decide)) hKd (by first | decide | omega) rfl (Nat.le_of_ble_eq_true rfl) ?_
            rintro _ rfl
            refine g_iinc4N C dX2_find_83 ?_
            refine g_goto C 21 dX2_find_86 (by decide) ?_
            have hT1 : zThX (mW Y) x (k + 1) = zThX (mW Y) x k ||| (1 <<< s) := by rw [zThX, hq]; exact if_neg h49
            exact ih _ (k + 1) _ (by omega) (by rw [up_k (by decide), up_j _ (by decide)]; exact e3) (by rw [up_k (by decide), up_s, hT1]) (by rw [up_k (by decide), up_j _ (by decide)]; exact e5) (fun q hq7 hb => by
              by_cases e : q = s
              · subst e
                rw [up_s, zInkS_of inj h25 hq]
              · rw [up_j _ e, up_K (by decide)]
                refine e6 q hq7 ?_
                rw [hT1, zor_bit, decide_eq_false e, Bool.or_false] at hb
                exact hb) (fun a h1 h2 => by rw [up_K h2, up_K h1, fr a h1 h2]) (by omega)
  refine g_aload0 C dX2_find_0 ?_
  refine g_iconst C (nI 0) dX2_find_1 (by decide) ?_
  refine g_putI C dX2_find_2 fpX2_21 (show 52 < 68 by decide) rfl rfl rfl rfl ?_
  refine g_aload0 C dX2_find_5 ?_
  refine g_iconst C (nI 0) dX2_find_6 (by decide) ?_
  refine g_putI C dX2_find_7 fpX2_25 (show 52 < 68 by decide) rfl rfl rfl rfl ?_
  refine g_aload0 C dX2_find_10 ?_
  refine g_aload2 C dX2_find_11 ?_
  refine g_getIE C ((up_k (by decide) 2).trans ((up_k (by decide) 2).trans hY.1)) dX2_find_12 flX2_28 (show 11 < 68 by decide) rfl rfl ?_
  refine g_putI C dX2_find_15 fpX2_33 (show 52 < 68 by decide) rfl rfl rfl rfl ?_
  refine g_iconst C (nI 0) dX2_find_18 (by decide) ?_
  refine g_istore4 C dX2_find_19 ?_
  exact H21 9 (z_up (z_up (z_up c 52 3 (nI 0)) 52 4 (nI 0)) 52 5 (nI (mH Y))) 0 _ (by omega) (by rw [up_j _ (by decide), up_j _ (by decide), up_s]) (by rw [up_j _ (by decide), up_s]; rfl) (by rw [up_s]) (fun s _ h => by simp [zThX] at h) (fun a h1 h2 => by rw [up_K h1, up_K h1, up_K h1]) (by omega)
end
section
theorem i_vc : Claimed_1_1 ∧ Claimed_1_2 := sorry
end
