section
-- ===== PART A: goes FIRST, ahead of the names: the tables' words, and 'selects' of the private methods out of them =====
/-- a private method of a class that the tables say can be made, by its rows of tables_1 -/
def lw_okq (q : MethodName × Nat) : Prop := (q.1.cls ≠ "java/lang/invoke/MethodHandle" ∧ q.1.cls ≠ "java/lang/invoke/VarHandle") ∧ Cond.instantiable q.1.cls q.2 ∈ tables_1 ∧ Cond.privateMethod q.1 ∈ tables_1 ∧ Cond.instanceMethod q.1 ∈ tables_1
theorem lw_p0 : lw_okq (⟨"BurdenTunes", "record", "()V"⟩, 7) := ⟨⟨by decide +kernel, by decide +kernel⟩, List.mem_of_getElem? (i := 9) (by decide +kernel), List.mem_of_getElem? (i := 176) (by decide +kernel), List.mem_of_getElem? (i := 177) (by decide +kernel)⟩
theorem lw_p1 : lw_okq (⟨"BurdenTunes", "cheapestPhrase", "(I)I"⟩, 7) := ⟨⟨by decide +kernel, by decide +kernel⟩, List.mem_of_getElem? (i := 9) (by decide +kernel), List.mem_of_getElem? (i := 313) (by decide +kernel), List.mem_of_getElem? (i := 314) (by decide +kernel)⟩
theorem lw_p2 : lw_okq (⟨"BurdenTunes", "leastCostOf", "(II)I"⟩, 7) := ⟨⟨by decide +kernel, by decide +kernel⟩, List.mem_of_getElem? (i := 9) (by decide +kernel), List.mem_of_getElem? (i := 318) (by decide +kernel), List.mem_of_getElem? (i := 319) (by decide +kernel)⟩
theorem lw_p3 : lw_okq (⟨"BurdenTunes$Laying", "costOfFree", "(II)I"⟩, 13) := ⟨⟨by decide +kernel, by decide +kernel⟩, List.mem_of_getElem? (i := 95) (by decide +kernel), List.mem_of_getElem? (i := 331) (by decide +kernel), List.mem_of_getElem? (i := 332) (by decide +kernel)⟩
theorem lw_p4 : lw_okq (⟨"BurdenTunes$Laying", "mostHeld", "(I)I"⟩, 13) := ⟨⟨by decide +kernel, by decide +kernel⟩, List.mem_of_getElem? (i := 95) (by decide +kernel), List.mem_of_getElem? (i := 336) (by decide +kernel), List.mem_of_getElem? (i := 337) (by decide +kernel)⟩
theorem lw_p5 : lw_okq (⟨"BurdenTunes$Laying", "costOfHeld", "(III)I"⟩, 13) := ⟨⟨by decide +kernel, by decide +kernel⟩, List.mem_of_getElem? (i := 95) (by decide +kernel), List.mem_of_getElem? (i := 343) (by decide +kernel), List.mem_of_getElem? (i := 344) (by decide +kernel)⟩
theorem lw_p6 : lw_okq (⟨"BurdenTunes$Laying", "hurts", "(II)Z"⟩, 13) := ⟨⟨by decide +kernel, by decide +kernel⟩, List.mem_of_getElem? (i := 95) (by decide +kernel), List.mem_of_getElem? (i := 347) (by decide +kernel), List.mem_of_getElem? (i := 348) (by decide +kernel)⟩
theorem lw_p7 : lw_okq (⟨"BurdenTunes$Laying", "waysFrom", "(IIZ)I"⟩, 13) := ⟨⟨by decide +kernel, by decide +kernel⟩, List.mem_of_getElem? (i := 95) (by decide +kernel), List.mem_of_getElem? (i := 399) (by decide +kernel), List.mem_of_getElem? (i := 400) (by decide +kernel)⟩
theorem lw_p8 : lw_okq (⟨"BurdenTunes$Laying", "heldByBestWay", "(II)I"⟩, 13) := ⟨⟨by decide +kernel, by decide +kernel⟩, List.mem_of_getElem? (i := 95) (by decide +kernel), List.mem_of_getElem? (i := 411) (by decide +kernel), List.mem_of_getElem? (i := 412) (by decide +kernel)⟩
theorem lw_p9 : lw_okq (⟨"BurdenTunesModel", "record", "()V"⟩, 18) := ⟨⟨by decide +kernel, by decide +kernel⟩, List.mem_of_getElem? (i := 478) (by decide +kernel), List.mem_of_getElem? (i := 549) (by decide +kernel), List.mem_of_getElem? (i := 550) (by decide +kernel)⟩
theorem lw_p10 : lw_okq (⟨"BurdenTunesModel", "findFault", "()I"⟩, 18) := ⟨⟨by decide +kernel, by decide +kernel⟩, List.mem_of_getElem? (i := 478) (by decide +kernel), List.mem_of_getElem? (i := 560) (by decide +kernel), List.mem_of_getElem? (i := 561) (by decide +kernel)⟩
theorem lw_p11 : lw_okq (⟨"BurdenTunesModel", "parts", "(Z)I"⟩, 18) := ⟨⟨by decide +kernel, by decide +kernel⟩, List.mem_of_getElem? (i := 478) (by decide +kernel), List.mem_of_getElem? (i := 564) (by decide +kernel), List.mem_of_getElem? (i := 565) (by decide +kernel)⟩
theorem lw_p12 : lw_okq (⟨"BurdenTunesModel", "writePhrase", "(I)I"⟩, 18) := ⟨⟨by decide +kernel, by decide +kernel⟩, List.mem_of_getElem? (i := 478) (by decide +kernel), List.mem_of_getElem? (i := 568) (by decide +kernel), List.mem_of_getElem? (i := 569) (by decide +kernel)⟩
theorem lw_p13 : lw_okq (⟨"BurdenTunesModel", "writeLine", "(I)I"⟩, 18) := ⟨⟨by decide +kernel, by decide +kernel⟩, List.mem_of_getElem? (i := 478) (by decide +kernel), List.mem_of_getElem? (i := 572) (by decide +kernel), List.mem_of_getElem? (i := 573) (by decide +kernel)⟩
theorem lw_p14 : lw_okq (⟨"BurdenTunesModel", "isLine", "(I)Z"⟩, 18) := ⟨⟨by decide +kernel, by decide +kernel⟩, List.mem_of_getElem? (i := 478) (by decide +kernel), List.mem_of_getElem? (i := 580) (by decide +kernel), List.mem_of_getElem? (i := 581) (by decide +kernel)⟩
theorem lw_p15 : lw_okq (⟨"BurdenTunesModel", "goes", "(III)I"⟩, 18) := ⟨⟨by decide +kernel, by decide +kernel⟩, List.mem_of_getElem? (i := 478) (by decide +kernel), List.mem_of_getElem? (i := 584) (by decide +kernel), List.mem_of_getElem? (i := 585) (by decide +kernel)⟩
def lw_privs_1 : List (MethodName × Nat) := [(⟨"BurdenTunes", "record", "()V"⟩, 7), (⟨"BurdenTunes", "cheapestPhrase", "(I)I"⟩, 7), (⟨"BurdenTunes", "leastCostOf", "(II)I"⟩, 7), (⟨"BurdenTunes$Laying", "costOfFree", "(II)I"⟩, 13), (⟨"BurdenTunes$Laying", "mostHeld", "(I)I"⟩, 13), (⟨"BurdenTunes$Laying", "costOfHeld", "(III)I"⟩, 13), (⟨"BurdenTunes$Laying", "hurts", "(II)Z"⟩, 13), (⟨"BurdenTunes$Laying", "waysFrom", "(IIZ)I"⟩, 13), (⟨"BurdenTunes$Laying", "heldByBestWay", "(II)I"⟩, 13), (⟨"BurdenTunesModel", "record", "()V"⟩, 18), (⟨"BurdenTunesModel", "findFault", "()I"⟩, 18), (⟨"BurdenTunesModel", "parts", "(Z)I"⟩, 18), (⟨"BurdenTunesModel", "writePhrase", "(I)I"⟩, 18), (⟨"BurdenTunesModel", "writeLine", "(I)I"⟩, 18), (⟨"BurdenTunesModel", "isLine", "(I)Z"⟩, 18), (⟨"BurdenTunesModel", "goes", "(III)I"⟩, 18)]
theorem lw_r1 : ∀ q ∈ lw_privs_1, lw_okq q := List.forall_mem_cons.mpr ⟨lw_p0, List.forall_mem_cons.mpr ⟨lw_p1, List.forall_mem_cons.mpr ⟨lw_p2, List.forall_mem_cons.mpr ⟨lw_p3, List.forall_mem_cons.mpr ⟨lw_p4, List.forall_mem_cons.mpr ⟨lw_p5, List.forall_mem_cons.mpr ⟨lw_p6, List.forall_mem_cons.mpr ⟨lw_p7, List.forall_mem_cons.mpr ⟨lw_p8, List.forall_mem_cons.mpr ⟨lw_p9, List.forall_mem_cons.mpr ⟨lw_p10, List.forall_mem_cons.mpr ⟨lw_p11, List.forall_mem_cons.mpr ⟨lw_p12, List.forall_mem_cons.mpr ⟨lw_p13, List.forall_mem_cons.mpr ⟨lw_p14, List.forall_mem_cons.mpr ⟨lw_p15, fun _ h => absurd h List.not_mem_nil⟩⟩⟩⟩⟩⟩⟩⟩⟩⟩⟩⟩⟩⟩⟩⟩
theorem lw_p16 : lw_okq (⟨"BurdenTunesModel", "isPhrase", "(I)Z"⟩, 18) := ⟨⟨by decide +kernel, by decide +kernel⟩, List.mem_of_getElem? (i := 478) (by decide +kernel), List.mem_of_getElem? (i := 592) (by decide +kernel), List.mem_of_getElem? (i := 593) (by decide +kernel)⟩
theorem lw_p17 : lw_okq (⟨"BurdenTunesModel", "isSyllable", "(II)Z"⟩, 18) := ⟨⟨by decide +kernel, by decide +kernel⟩, List.mem_of_getElem? (i := 478) (by decide +kernel), List.mem_of_getElem? (i := 600) (by decide +kernel), List.mem_of_getElem? (i := 601) (by decide +kernel)⟩
theorem lw_p18 : lw_okq (⟨"BurdenTunesModel", "lineLength", "(I)I"⟩, 18) := ⟨⟨by decide +kernel, by decide +kernel⟩, List.mem_of_getElem? (i := 478) (by decide +kernel), List.mem_of_getElem? (i := 604) (by decide +kernel), List.mem_of_getElem? (i := 605) (by decide +kernel)⟩
theorem lw_p19 : lw_okq (⟨"BurdenTunesModel", "isBeat", "(II)Z"⟩, 18) := ⟨⟨by decide +kernel, by decide +kernel⟩, List.mem_of_getElem? (i := 478) (by decide +kernel), List.mem_of_getElem? (i := 612) (by decide +kernel), List.mem_of_getElem? (i := 613) (by decide +kernel)⟩
theorem lw_p20 : lw_okq (⟨"BurdenTunesModel", "phraseLength", "(I)I"⟩, 18) := ⟨⟨by decide +kernel, by decide +kernel⟩, List.mem_of_getElem? (i := 478) (by decide +kernel), List.mem_of_getElem? (i := 616) (by decide +kernel), List.mem_of_getElem? (i := 617) (by decide +kernel)⟩
theorem lw_p21 : lw_okq (⟨"BurdenTunesModel", "kindAt", "(II)I"⟩, 18) := ⟨⟨by decide +kernel, by decide +kernel⟩, List.mem_of_getElem? (i := 478) (by decide +kernel), List.mem_of_getElem? (i := 620) (by decide +kernel), List.mem_of_getElem? (i := 621) (by decide +kernel)⟩
theorem lw_p22 : lw_okq (⟨"BurdenTunesModel", "sings", "(I)V"⟩, 18) := ⟨⟨by decide +kernel, by decide +kernel⟩, List.mem_of_getElem? (i := 478) (by decide +kernel), List.mem_of_getElem? (i := 631) (by decide +kernel), List.mem_of_getElem? (i := 632) (by decide +kernel)⟩
theorem lw_p23 : lw_okq (⟨"BurdenTunesModel", "sungTimes", "(I)I"⟩, 18) := ⟨⟨by decide +kernel, by decide +kernel⟩, List.mem_of_getElem? (i := 478) (by decide +kernel), List.mem_of_getElem? (i := 654) (by decide +kernel), List.mem_of_getElem? (i := 655) (by decide +kernel)⟩
theorem lw_p24 : lw_okq (⟨"BurdenTunesModel", "cheapestPhrase", "(I)I"⟩, 18) := ⟨⟨by decide +kernel, by decide +kernel⟩, List.mem_of_getElem? (i := 478) (by decide +kernel), List.mem_of_getElem? (i := 658) (by decide +kernel), List.mem_of_getElem? (i := 659) (by decide +kernel)⟩
theorem lw_p25 : lw_okq (⟨"BurdenTunesModel", "costOf", "(II)I"⟩, 18) := ⟨⟨by decide +kernel, by decide +kernel⟩, List.mem_of_getElem? (i := 478) (by decide +kernel), List.mem_of_getElem? (i := 663) (by decide +kernel), List.mem_of_getElem? (i := 664) (by decide +kernel)⟩
theorem lw_p26 : lw_okq (⟨"BurdenTunesModel", "look", "(II)V"⟩, 18) := ⟨⟨by decide +kernel, by decide +kernel⟩, List.mem_of_getElem? (i := 478) (by decide +kernel), List.mem_of_getElem? (i := 667) (by decide +kernel), List.mem_of_getElem? (i := 668) (by decide +kernel)⟩
theorem lw_p27 : lw_okq (⟨"BurdenTunesModel", "findCost", "()I"⟩, 18) := ⟨⟨by decide +kernel, by decide +kernel⟩, List.mem_of_getElem? (i := 478) (by decide +kernel), List.mem_of_getElem? (i := 671) (by decide +kernel), List.mem_of_getElem? (i := 672) (by decide +kernel)⟩
theorem lw_p28 : lw_okq (⟨"BurdenTunesModel", "findAt", "(II)V"⟩, 18) := ⟨⟨by decide +kernel, by decide +kernel⟩, List.mem_of_getElem? (i := 478) (by decide +kernel), List.mem_of_getElem? (i := 675) (by decide +kernel), List.mem_of_getElem? (i := 676) (by decide +kernel)⟩
theorem lw_p29 : lw_okq (⟨"BurdenTunesModel", "costFree", "(II)I"⟩, 18) := ⟨⟨by decide +kernel, by decide +kernel⟩, List.mem_of_getElem? (i := 478) (by decide +kernel), List.mem_of_getElem? (i := 679) (by decide +kernel), List.mem_of_getElem? (i := 680) (by decide +kernel)⟩
theorem lw_p30 : lw_okq (⟨"BurdenTunesModel", "takesIn", "(III)V"⟩, 18) := ⟨⟨by decide +kernel, by decide +kernel⟩, List.mem_of_getElem? (i := 478) (by decide +kernel), List.mem_of_getElem? (i := 683) (by decide +kernel), List.mem_of_getElem? (i := 684) (by decide +kernel)⟩
theorem lw_p31 : lw_okq (⟨"BurdenTunesModel", "costOn", "(III)I"⟩, 18) := ⟨⟨by decide +kernel, by decide +kernel⟩, List.mem_of_getElem? (i := 478) (by decide +kernel), List.mem_of_getElem? (i := 691) (by decide +kernel), List.mem_of_getElem? (i := 692) (by decide +kernel)⟩
def lw_privs_2 : List (MethodName × Nat) := [(⟨"BurdenTunesModel", "isPhrase", "(I)Z"⟩, 18), (⟨"BurdenTunesModel", "isSyllable", "(II)Z"⟩, 18), (⟨"BurdenTunesModel", "lineLength", "(I)I"⟩, 18), (⟨"BurdenTunesModel", "isBeat", "(II)Z"⟩, 18), (⟨"BurdenTunesModel", "phraseLength", "(I)I"⟩, 18), (⟨"BurdenTunesModel", "kindAt", "(II)I"⟩, 18), (⟨"BurdenTunesModel", "sings", "(I)V"⟩, 18), (⟨"BurdenTunesModel", "sungTimes", "(I)I"⟩, 18), (⟨"BurdenTunesModel", "cheapestPhrase", "(I)I"⟩, 18), (⟨"BurdenTunesModel", "costOf", "(II)I"⟩, 18), (⟨"BurdenTunesModel", "look", "(II)V"⟩, 18), (⟨"BurdenTunesModel", "findCost", "()I"⟩, 18), (⟨"BurdenTunesModel", "findAt", "(II)V"⟩, 18), (⟨"BurdenTunesModel", "costFree", "(II)I"⟩, 18), (⟨"BurdenTunesModel", "takesIn", "(III)V"⟩, 18), (⟨"BurdenTunesModel", "costOn", "(III)I"⟩, 18)]
theorem lw_r2 : ∀ q ∈ lw_privs_2, lw_okq q := List.forall_mem_cons.mpr ⟨lw_p16, List.forall_mem_cons.mpr ⟨lw_p17, List.forall_mem_cons.mpr ⟨lw_p18, List.forall_mem_cons.mpr ⟨lw_p19, List.forall_mem_cons.mpr ⟨lw_p20, List.forall_mem_cons.mpr ⟨lw_p21, List.forall_mem_cons.mpr ⟨lw_p22, List.forall_mem_cons.mpr ⟨lw_p23, List.forall_mem_cons.mpr ⟨lw_p24, List.forall_mem_cons.mpr ⟨lw_p25, List.forall_mem_cons.mpr ⟨lw_p26, List.forall_mem_cons.mpr ⟨lw_p27, List.forall_mem_cons.mpr ⟨lw_p28, List.forall_mem_cons.mpr ⟨lw_p29, List.forall_mem_cons.mpr ⟨lw_p30, List.forall_mem_cons.mpr ⟨lw_p31, fun _ h => absurd h List.not_mem_nil⟩⟩⟩⟩⟩⟩⟩⟩⟩⟩⟩⟩⟩⟩⟩⟩
theorem lw_p32 : lw_okq (⟨"BurdenTunesModel", "hurts", "(II)Z"⟩, 18) := ⟨⟨by decide +kernel, by decide +kernel⟩, List.mem_of_getElem? (i := 478) (by decide +kernel), List.mem_of_getElem? (i := 695) (by decide +kernel), List.mem_of_getElem? (i := 696) (by decide +kernel)⟩
theorem lw_p33 : lw_okq (⟨"BurdenTunesModel", "playedTimes", "(I)I"⟩, 18) := ⟨⟨by decide +kernel, by decide +kernel⟩, List.mem_of_getElem? (i := 478) (by decide +kernel), List.mem_of_getElem? (i := 703) (by decide +kernel), List.mem_of_getElem? (i := 704) (by decide +kernel)⟩
theorem lw_p34 : lw_okq (⟨"BurdenTunesModel", "longestRow", "(I)I"⟩, 18) := ⟨⟨by decide +kernel, by decide +kernel⟩, List.mem_of_getElem? (i := 478) (by decide +kernel), List.mem_of_getElem? (i := 707) (by decide +kernel), List.mem_of_getElem? (i := 708) (by decide +kernel)⟩
theorem lw_p35 : lw_okq (⟨"BurdenTunesModel", "burdens", "()I"⟩, 18) := ⟨⟨by decide +kernel, by decide +kernel⟩, List.mem_of_getElem? (i := 478) (by decide +kernel), List.mem_of_getElem? (i := 723) (by decide +kernel), List.mem_of_getElem? (i := 724) (by decide +kernel)⟩
theorem lw_p36 : lw_okq (⟨"BurdenTunesModel", "freeBeats", "()I"⟩, 18) := ⟨⟨by decide +kernel, by decide +kernel⟩, List.mem_of_getElem? (i := 478) (by decide +kernel), List.mem_of_getElem? (i := 735) (by decide +kernel), List.mem_of_getElem? (i := 736) (by decide +kernel)⟩
theorem lw_p37 : lw_okq (⟨"BurdenTunesModel", "findWay", "()V"⟩, 18) := ⟨⟨by decide +kernel, by decide +kernel⟩, List.mem_of_getElem? (i := 478) (by decide +kernel), List.mem_of_getElem? (i := 739) (by decide +kernel), List.mem_of_getElem? (i := 740) (by decide +kernel)⟩
theorem lw_p38 : lw_okq (⟨"BurdenTunesModel", "beatsFrom", "(II)I"⟩, 18) := ⟨⟨by decide +kernel, by decide +kernel⟩, List.mem_of_getElem? (i := 478) (by decide +kernel), List.mem_of_getElem? (i := 743) (by decide +kernel), List.mem_of_getElem? (i := 744) (by decide +kernel)⟩
theorem lw_p39 : lw_okq (⟨"BurdenTunesModel", "hurting", "()I"⟩, 18) := ⟨⟨by decide +kernel, by decide +kernel⟩, List.mem_of_getElem? (i := 478) (by decide +kernel), List.mem_of_getElem? (i := 747) (by decide +kernel), List.mem_of_getElem? (i := 748) (by decide +kernel)⟩
theorem lw_p40 : lw_okq (⟨"BurdenTunesModel", "phraseFor", "(I)I"⟩, 18) := ⟨⟨by decide +kernel, by decide +kernel⟩, List.mem_of_getElem? (i := 478) (by decide +kernel), List.mem_of_getElem? (i := 759) (by decide +kernel), List.mem_of_getElem? (i := 760) (by decide +kernel)⟩
def lw_privs_3 : List (MethodName × Nat) := [(⟨"BurdenTunesModel", "hurts", "(II)Z"⟩, 18), (⟨"BurdenTunesModel", "playedTimes", "(I)I"⟩, 18), (⟨"BurdenTunesModel", "longestRow", "(I)I"⟩, 18), (⟨"BurdenTunesModel", "burdens", "()I"⟩, 18), (⟨"BurdenTunesModel", "freeBeats", "()I"⟩, 18), (⟨"BurdenTunesModel", "findWay", "()V"⟩, 18), (⟨"BurdenTunesModel", "beatsFrom", "(II)I"⟩, 18), (⟨"BurdenTunesModel", "hurting", "()I"⟩, 18), (⟨"BurdenTunesModel", "phraseFor", "(I)I"⟩, 18)]
theorem lw_r3 : ∀ q ∈ lw_privs_3, lw_okq q := List.forall_mem_cons.mpr ⟨lw_p32, List.forall_mem_cons.mpr ⟨lw_p33, List.forall_mem_cons.mpr ⟨lw_p34, List.forall_mem_cons.mpr ⟨lw_p35, List.forall_mem_cons.mpr ⟨lw_p36, List.forall_mem_cons.mpr ⟨lw_p37, List.forall_mem_cons.mpr ⟨lw_p38, List.forall_mem_cons.mpr ⟨lw_p39, List.forall_mem_cons.mpr ⟨lw_p40, fun _ h => absurd h List.not_mem_nil⟩⟩⟩⟩⟩⟩⟩⟩⟩
def lw_privs : List (MethodName × Nat) := lw_privs_1 ++ (lw_privs_2 ++ (lw_privs_3))
def lw_tbl : List Cond := k2_sels lw_privs ++ tables_1
theorem lw_privs_ok : ∀ q ∈ lw_privs, lw_okq q := by
  show ∀ q ∈ lw_privs_1 ++ (lw_privs_2 ++ (lw_privs_3)), lw_okq q
  exact List.forall_mem_append.mpr ⟨lw_r1, List.forall_mem_append.mpr ⟨lw_r2, lw_r3⟩⟩

def RX0 : String := "BurdenTunes$Book"
def TX0 : u_T := fun k => match k with
  | 0 => ("BurdenTunes$Book", "settings", "[I", true)
  | 1 => ("BurdenTunes$Book", "lineCount", "I", false)
  | 2 => ("BurdenTunes$Book", "syllableCounts", "[I", true)
  | 3 => ("BurdenTunes$Book", "stresses", "[I", true)
  | 4 => ("BurdenTunes$Book", "phraseCount", "I", false)
  | 5 => ("BurdenTunes$Book", "beatCounts", "[I", true)
  | 6 => ("BurdenTunes$Book", "kinds", "[I", true)
  | 7 => ("BurdenTunes$Book", "balladCount", "I", false)
  | 8 => ("BurdenTunes$Book", "ballad", "[I", true)
  | 9 => ("BurdenTunes$Book", "tuneCount", "I", false)
  | _ => ("BurdenTunes$Book", "tune", "[I", true)
def tyX0 : Nat → FieldType := fun k => match k with
  | 0 => .array .int
  | 1 => .int
  | 2 => .array .int
  | 3 => .array .int
  | 4 => .int
  | 5 => .array .int
  | 6 => .array .int
  | 7 => .int
  | 8 => .array .int
  | 9 => .int
  | _ => .array .int
abbrev wsX00 : List Cond := u_ws RX0 TX0 11
theorem nmX0 : ∀ a, a < 11 → ∀ b, b < 11 → a ≠ b → (TX0 a).2.1 ≠ (TX0 b).2.1 := by decide +kernel
theorem tyX0_ok : ∀ k, k < 11 → parseFieldDescriptor (TX0 k).2.2.1 = some (tyX0 k) := by decide +kernel
abbrev cX0_init : ByteArray := prog_2_method_1_code
def yX0_init : MethodName := ⟨RX0, "<init>", "()V"⟩
abbrev cX0_takeOver : ByteArray := prog_2_method_2_code
def yX0_takeOver : MethodName := ⟨RX0, "takeOver", "(LBurdenTunes$Book;)V"⟩
abbrev cX0_hasLine : ByteArray := prog_2_method_3_code
def yX0_hasLine : MethodName := ⟨RX0, "hasLine", "(I)Z"⟩
abbrev cX0_hasPhrase : ByteArray := prog_2_method_4_code
def yX0_hasPhrase : MethodName := ⟨RX0, "hasPhrase", "(I)Z"⟩
abbrev cX0_hasSyllable : ByteArray := prog_2_method_5_code
def yX0_hasSyllable : MethodName := ⟨RX0, "hasSyllable", "(II)Z"⟩
abbrev cX0_hasBeat : ByteArray := prog_2_method_6_code
def yX0_hasBeat : MethodName := ⟨RX0, "hasBeat", "(II)Z"⟩
abbrev cX0_beginPart : ByteArray := prog_2_method_7_code
def yX0_beginPart : MethodName := ⟨RX0, "beginPart", "(Z)V"⟩
abbrev cX0_addSign : ByteArray := prog_2_method_8_code
def yX0_addSign : MethodName := ⟨RX0, "addSign", "(C)V"⟩
abbrev cX0_addSyllable : ByteArray := prog_2_method_9_code
def yX0_addSyllable : MethodName := ⟨RX0, "addSyllable", "(I)V"⟩
abbrev cX0_addBeat : ByteArray := prog_2_method_10_code
def yX0_addBeat : MethodName := ⟨RX0, "addBeat", "(I)V"⟩
abbrev cX0_removeLine : ByteArray := prog_2_method_11_code
def yX0_removeLine : MethodName := ⟨RX0, "removeLine", "(I)V"⟩
abbrev cX0_removePhrase : ByteArray := prog_2_method_12_code
def yX0_removePhrase : MethodName := ⟨RX0, "removePhrase", "(I)V"⟩
abbrev cX0_withoutNumber : ByteArray := prog_2_method_13_code
def yX0_withoutNumber : MethodName := ⟨RX0, "withoutNumber", "([III)I"⟩
abbrev cX0_addToBallad : ByteArray := prog_2_method_14_code
def yX0_addToBallad : MethodName := ⟨RX0, "addToBallad", "(I)V"⟩
abbrev cX0_addToTune : ByteArray := prog_2_method_15_code
def yX0_addToTune : MethodName := ⟨RX0, "addToTune", "(I)V"⟩
abbrev cX0_timesSung : ByteArray := prog_2_method_16_code
def yX0_timesSung : MethodName := ⟨RX0, "timesSung", "(I)I"⟩
abbrev cX0_timesPlayed : ByteArray := prog_2_method_17_code
def yX0_timesPlayed : MethodName := ⟨RX0, "timesPlayed", "(I)I"⟩
abbrev cX0_timesIn : ByteArray := prog_2_method_18_code
def yX0_timesIn : MethodName := ⟨RX0, "timesIn", "([III)I"⟩
abbrev cX0_burdens : ByteArray := prog_2_method_19_code
def yX0_burdens : MethodName := ⟨RX0, "burdens", "()I"⟩
abbrev cX0_stressedOf : ByteArray := prog_2_method_20_code
def yX0_stressedOf : MethodName := ⟨RX0, "stressedOf", "(I)I"⟩
abbrev cX0_beatsOfKind : ByteArray := prog_2_method_21_code
def yX0_beatsOfKind : MethodName := ⟨RX0, "beatsOfKind", "(II)I"⟩
abbrev cX0_longestRow : ByteArray := prog_2_method_22_code
def yX0_longestRow : MethodName := ⟨RX0, "longestRow", "(I)I"⟩
def RX1 : String := "BurdenTunes$Laying"
def TX1 : u_T := fun k => match k with
  | 0 => ("BurdenTunes$Laying", "breath", "I", false)
  | 1 => ("BurdenTunes$Laying", "drawn", "I", false)
  | 2 => ("BurdenTunes$Laying", "lost", "I", false)
  | 3 => ("BurdenTunes$Laying", "hurt", "I", false)
  | 4 => ("BurdenTunes$Laying", "syllables", "I", false)
  | 5 => ("BurdenTunes$Laying", "beats", "I", false)
  | 6 => ("BurdenTunes$Laying", "stresses", "[I", true)
  | 7 => ("BurdenTunes$Laying", "kinds", "[I", true)
  | 8 => ("BurdenTunes$Laying", "rows", "[I", true)
  | 9 => ("BurdenTunes$Laying", "costs", "[I", true)
  | 10 => ("BurdenTunes$Laying", "ways", "[I", true)
  | 11 => ("BurdenTunes$Laying", "firstBeats", "[I", true)
  | _ => ("BurdenTunes$Laying", "heldBeats", "[I", true)
def tyX1 : Nat → FieldType := fun k => match k with
  | 0 => .int
  | 1 => .int
  | 2 => .int
  | 3 => .int
  | 4 => .int
  | 5 => .int
  | 6 => .array .int
  | 7 => .array .int
  | 8 => .array .int
  | 9 => .array .int
  | 10 => .array .int
  | 11 => .array .int
  | _ => .array .int
abbrev wsX10 : List Cond := u_ws RX1 TX1 13
theorem nmX1 : ∀ a, a < 13 → ∀ b, b < 13 → a ≠ b → (TX1 a).2.1 ≠ (TX1 b).2.1 := by decide +kernel
theorem tyX1_ok : ∀ k, k < 13 → parseFieldDescriptor (TX1 k).2.2.1 = some (tyX1 k) := by decide +kernel
abbrev cX1_init : ByteArray := prog_3_method_1_code
def yX1_init : MethodName := ⟨RX1, "<init>", "()V"⟩
abbrev cX1_take : ByteArray := prog_3_method_2_code
def yX1_take : MethodName := ⟨RX1, "take", "(LBurdenTunes$Book;II)V"⟩
abbrev cX1_turnStress : ByteArray := prog_3_method_3_code
def yX1_turnStress : MethodName := ⟨RX1, "turnStress", "(I)V"⟩
abbrev cX1_leastCost : ByteArray := prog_3_method_4_code
def yX1_leastCost : MethodName := ⟨RX1, "leastCost", "()I"⟩
abbrev cX1_mostHeld : ByteArray := prog_3_method_5_code
def yX1_mostHeld : MethodName := ⟨RX1, "mostHeld", "(I)I"⟩
abbrev cX1_hurts : ByteArray := prog_3_method_6_code
def yX1_hurts : MethodName := ⟨RX1, "hurts", "(II)Z"⟩
abbrev cX1_costOfFree : ByteArray := prog_3_method_7_code
def yX1_costOfFree : MethodName := ⟨RX1, "costOfFree", "(II)I"⟩
abbrev cX1_costOfHeld : ByteArray := prog_3_method_8_code
def yX1_costOfHeld : MethodName := ⟨RX1, "costOfHeld", "(III)I"⟩
abbrev cX1_countWays : ByteArray := prog_3_method_9_code
def yX1_countWays : MethodName := ⟨RX1, "countWays", "(Z)I"⟩
abbrev cX1_waysFrom : ByteArray := prog_3_method_10_code
def yX1_waysFrom : MethodName := ⟨RX1, "waysFrom", "(IIZ)I"⟩
abbrev cX1_findBestWay : ByteArray := prog_3_method_11_code
def yX1_findBestWay : MethodName := ⟨RX1, "findBestWay", "()V"⟩
abbrev cX1_heldByBestWay : ByteArray := prog_3_method_12_code
def yX1_heldByBestWay : MethodName := ⟨RX1, "heldByBestWay", "(II)I"⟩
abbrev cX1_freeBeats : ByteArray := prog_3_method_13_code
def yX1_freeBeats : MethodName := ⟨RX1, "freeBeats", "()I"⟩
abbrev cX1_hurtSyllables : ByteArray := prog_3_method_14_code
def yX1_hurtSyllables : MethodName := ⟨RX1, "hurtSyllables", "()I"⟩
def RX2 : String := "BurdenTunes$Pad"
def TX2 : u_T := fun k => match k with
  | 0 => ("BurdenTunes$Pad", "signs", "[C", true)
  | _ => ("BurdenTunes$Pad", "length", "I", false)
def tyX2 : Nat → FieldType := fun k => match k with
  | 0 => .array .char
  | _ => .int
abbrev wsX20 : List Cond := u_ws RX2 TX2 2
theorem nmX2 : ∀ a, a < 2 → ∀ b, b < 2 → a ≠ b → (TX2 a).2.1 ≠ (TX2 b).2.1 := by decide +kernel
theorem tyX2_ok : ∀ k, k < 2 → parseFieldDescriptor (TX2 k).2.2.1 = some (tyX2 k) := by decide +kernel
abbrev cX2_init : ByteArray := prog_4_method_1_code
def yX2_init : MethodName := ⟨RX2, "<init>", "()V"⟩
abbrev cX2_isSyllable : ByteArray := prog_4_method_2_code
def yX2_isSyllable : MethodName := ⟨RX2, "isSyllable", "(C)Z"⟩
abbrev cX2_isBeat : ByteArray := prog_4_method_3_code
def yX2_isBeat : MethodName := ⟨RX2, "isBeat", "(C)Z"⟩
abbrev cX2_signsIn : ByteArray := prog_4_method_4_code
def yX2_signsIn : MethodName := ⟨RX2, "signsIn", "(J)I"⟩
abbrev cX2_append : ByteArray := prog_4_method_5_code
def yX2_append : MethodName := ⟨RX2, "append", "(JI)V"⟩
abbrev cX2_beginsPart : ByteArray := prog_4_method_6_code
def yX2_beginsPart : MethodName := ⟨RX2, "beginsPart", "(I)Z"⟩
abbrev cX2_parts : ByteArray := prog_4_method_7_code
def yX2_parts : MethodName := ⟨RX2, "parts", "()I"⟩
abbrev cX2_phraseParts : ByteArray := prog_4_method_8_code
def yX2_phraseParts : MethodName := ⟨RX2, "phraseParts", "()I"⟩
abbrev cX2_faultPlace : ByteArray := prog_4_method_9_code
def yX2_faultPlace : MethodName := ⟨RX2, "faultPlace", "()I"⟩
def RX3 : String := "BurdenTunes"
def TX3 : u_T := fun k => match k with
  | 0 => ("BurdenTunes", "book", "LBurdenTunes$Book;", true)
  | 1 => ("BurdenTunes", "pad", "LBurdenTunes$Pad;", true)
  | 2 => ("BurdenTunes", "laying", "LBurdenTunes$Laying;", true)
  | 3 => ("BurdenTunes", "history", "[LBurdenTunes$Book;", true)
  | 4 => ("BurdenTunes", "historyCount", "I", false)
  | 5 => ("BurdenTunes", "slots", "[LBurdenTunes$Book;", true)
  | _ => ("BurdenTunes", "isSaved", "[Z", true)
def tyX3 : Nat → FieldType := fun k => match k with
  | 0 => .object "BurdenTunes$Book"
  | 1 => .object "BurdenTunes$Pad"
  | 2 => .object "BurdenTunes$Laying"
  | 3 => .array (.object "BurdenTunes$Book")
  | 4 => .int
  | 5 => .array (.object "BurdenTunes$Book")
  | _ => .array .boolean
abbrev wsX30 : List Cond := u_ws RX3 TX3 7
theorem nmX3 : ∀ a, a < 7 → ∀ b, b < 7 → a ≠ b → (TX3 a).2.1 ≠ (TX3 b).2.1 := by decide +kernel
theorem tyX3_ok : ∀ k, k < 7 → parseFieldDescriptor (TX3 k).2.2.1 = some (tyX3 k) := by decide +kernel
abbrev cX3_init : ByteArray := prog_1_method_1_code
def yX3_init : MethodName := ⟨RX3, "<init>", "()V"⟩
abbrev cX3_set : ByteArray := prog_1_method_2_code
def yX3_set : MethodName := ⟨RX3, "set", "(II)I"⟩
abbrev cX3_write : ByteArray := prog_1_method_3_code
def yX3_write : MethodName := ⟨RX3, "write", "()I"⟩
abbrev cX3_dropLine : ByteArray := prog_1_method_4_code
def yX3_dropLine : MethodName := ⟨RX3, "dropLine", "(I)I"⟩
abbrev cX3_dropPhrase : ByteArray := prog_1_method_5_code
def yX3_dropPhrase : MethodName := ⟨RX3, "dropPhrase", "(I)I"⟩
abbrev cX3_stress : ByteArray := prog_1_method_6_code
def yX3_stress : MethodName := ⟨RX3, "stress", "(IIZ)I"⟩
abbrev cX3_beat : ByteArray := prog_1_method_7_code
def yX3_beat : MethodName := ⟨RX3, "beat", "(III)I"⟩
abbrev cX3_sing : ByteArray := prog_1_method_8_code
def yX3_sing : MethodName := ⟨RX3, "sing", "(I)I"⟩
abbrev cX3_play : ByteArray := prog_1_method_9_code
def yX3_play : MethodName := ⟨RX3, "play", "(I)I"⟩
abbrev cX3_verse : ByteArray := prog_1_method_10_code
def yX3_verse : MethodName := ⟨RX3, "verse", "(III)I"⟩
abbrev cX3_clear : ByteArray := prog_1_method_11_code
def yX3_clear : MethodName := ⟨RX3, "clear", "(Z)I"⟩
abbrev cX3_line : ByteArray := prog_1_method_12_code
def yX3_line : MethodName := ⟨RX3, "line", "(II)I"⟩
abbrev cX3_phrase : ByteArray := prog_1_method_13_code
def yX3_phrase : MethodName := ⟨RX3, "phrase", "(II)I"⟩
abbrev cX3_isStressed : ByteArray := prog_1_method_14_code
def yX3_isStressed : MethodName := ⟨RX3, "isStressed", "(II)I"⟩
abbrev cX3_kindOf : ByteArray := prog_1_method_15_code
def yX3_kindOf : MethodName := ⟨RX3, "kindOf", "(II)I"⟩
abbrev cX3_count : ByteArray := prog_1_method_16_code
def yX3_count : MethodName := ⟨RX3, "count", "(I)I"⟩
abbrev cX3_at : ByteArray := prog_1_method_17_code
def yX3_at : MethodName := ⟨RX3, "at", "(ZI)I"⟩
abbrev cX3_fit : ByteArray := prog_1_method_18_code
def yX3_fit : MethodName := ⟨RX3, "fit", "(III)I"⟩
abbrev cX3_lies : ByteArray := prog_1_method_19_code
def yX3_lies : MethodName := ⟨RX3, "lies", "(IIII)I"⟩
abbrev cX3_whole : ByteArray := prog_1_method_20_code
def yX3_whole : MethodName := ⟨RX3, "whole", "(I)I"⟩
abbrev cX3_bestPhrase : ByteArray := prog_1_method_21_code
def yX3_bestPhrase : MethodName := ⟨RX3, "bestPhrase", "()I"⟩
abbrev cX3_bestChange : ByteArray := prog_1_method_22_code
def yX3_bestChange : MethodName := ⟨RX3, "bestChange", "(III)I"⟩
abbrev cX3_enoughBreath : ByteArray := prog_1_method_23_code
def yX3_enoughBreath : MethodName := ⟨RX3, "enoughBreath", "(II)I"⟩
abbrev cX3_put : ByteArray := prog_1_method_24_code
def yX3_put : MethodName := ⟨RX3, "put", "(J)I"⟩
abbrev cX3_wipe : ByteArray := prog_1_method_25_code
def yX3_wipe : MethodName := ⟨RX3, "wipe", "()I"⟩
abbrev cX3_fault : ByteArray := prog_1_method_26_code
def yX3_fault : MethodName := ⟨RX3, "fault", "()I"⟩
abbrev cX3_undo : ByteArray := prog_1_method_27_code
def yX3_undo : MethodName := ⟨RX3, "undo", "()I"⟩
abbrev cX3_save : ByteArray := prog_1_method_28_code
def yX3_save : MethodName := ⟨RX3, "save", "(I)I"⟩
abbrev cX3_restore : ByteArray := prog_1_method_29_code
def yX3_restore : MethodName := ⟨RX3, "restore", "(I)I"⟩
abbrev cX3_record : ByteArray := prog_1_method_30_code
def yX3_record : MethodName := ⟨RX3, "record", "()V"⟩
abbrev cX3_leastCostOf : ByteArray := prog_1_method_31_code
def yX3_leastCostOf : MethodName := ⟨RX3, "leastCostOf", "(II)I"⟩
abbrev cX3_cheapestPhrase : ByteArray := prog_1_method_32_code
def yX3_cheapestPhrase : MethodName := ⟨RX3, "cheapestPhrase", "(I)I"⟩
def RX4 : String := "BurdenTunesModel"
def TX4 : u_T := fun k => match k with
  | 0 => ("BurdenTunesModel", "state", "[I", true)
  | 1 => ("BurdenTunesModel", "history", "[I", true)
  | 2 => ("BurdenTunesModel", "recorded", "I", false)
  | 3 => ("BurdenTunesModel", "slots", "[I", true)
  | 4 => ("BurdenTunesModel", "isSaved", "[I", true)
  | 5 => ("BurdenTunesModel", "pad", "[I", true)
  | 6 => ("BurdenTunesModel", "padLength", "I", false)
  | 7 => ("BurdenTunesModel", "costs", "[I", true)
  | 8 => ("BurdenTunesModel", "ways", "[I", true)
  | 9 => ("BurdenTunesModel", "leastWays", "[I", true)
  | 10 => ("BurdenTunesModel", "syllables", "I", false)
  | 11 => ("BurdenTunesModel", "stresses", "I", false)
  | 12 => ("BurdenTunesModel", "beats", "I", false)
  | 13 => ("BurdenTunesModel", "strong", "I", false)
  | 14 => ("BurdenTunesModel", "sounding", "I", false)
  | 15 => ("BurdenTunesModel", "breath", "I", false)
  | 16 => ("BurdenTunesModel", "begins", "[I", true)
  | _ => ("BurdenTunesModel", "lengths", "[I", true)
def tyX4 : Nat → FieldType := fun k => match k with
  | 0 => .array .int
  | 1 => .array .int
  | 2 => .int
  | 3 => .array .int
  | 4 => .array .int
  | 5 => .array .int
  | 6 => .int
  | 7 => .array .int
  | 8 => .array .int
  | 9 => .array .int
  | 10 => .int
  | 11 => .int
  | 12 => .int
  | 13 => .int
  | 14 => .int
  | 15 => .int
  | 16 => .array .int
  | _ => .array .int
abbrev wsX40 : List Cond := u_ws RX4 TX4 18
theorem nmX4 : ∀ a, a < 18 → ∀ b, b < 18 → a ≠ b → (TX4 a).2.1 ≠ (TX4 b).2.1 := by decide +kernel
theorem tyX4_ok : ∀ k, k < 18 → parseFieldDescriptor (TX4 k).2.2.1 = some (tyX4 k) := by decide +kernel
abbrev cX4_init : ByteArray := prog_6_method_1_code
def yX4_init : MethodName := ⟨RX4, "<init>", "()V"⟩
abbrev cX4_moves : ByteArray := prog_6_method_3_code
def yX4_moves : MethodName := ⟨RX4, "moves", "([II[II)V"⟩
abbrev cX4_within : ByteArray := prog_6_method_4_code
def yX4_within : MethodName := ⟨RX4, "within", "(III)Z"⟩
abbrev cX4_has : ByteArray := prog_6_method_5_code
def yX4_has : MethodName := ⟨RX4, "has", "(II)Z"⟩
abbrev cX4_bits : ByteArray := prog_6_method_6_code
def yX4_bits : MethodName := ⟨RX4, "bits", "(I)I"⟩
abbrev cX4_record : ByteArray := prog_6_method_7_code
def yX4_record : MethodName := ⟨RX4, "record", "()V"⟩
abbrev cX4_isLine : ByteArray := prog_6_method_8_code
def yX4_isLine : MethodName := ⟨RX4, "isLine", "(I)Z"⟩
abbrev cX4_isPhrase : ByteArray := prog_6_method_9_code
def yX4_isPhrase : MethodName := ⟨RX4, "isPhrase", "(I)Z"⟩
abbrev cX4_lineLength : ByteArray := prog_6_method_10_code
def yX4_lineLength : MethodName := ⟨RX4, "lineLength", "(I)I"⟩
abbrev cX4_phraseLength : ByteArray := prog_6_method_11_code
def yX4_phraseLength : MethodName := ⟨RX4, "phraseLength", "(I)I"⟩
abbrev cX4_isSyllable : ByteArray := prog_6_method_12_code
def yX4_isSyllable : MethodName := ⟨RX4, "isSyllable", "(II)Z"⟩
abbrev cX4_isBeat : ByteArray := prog_6_method_13_code
def yX4_isBeat : MethodName := ⟨RX4, "isBeat", "(II)Z"⟩
abbrev cX4_sungTimes : ByteArray := prog_6_method_14_code
def yX4_sungTimes : MethodName := ⟨RX4, "sungTimes", "(I)I"⟩
abbrev cX4_playedTimes : ByteArray := prog_6_method_15_code
def yX4_playedTimes : MethodName := ⟨RX4, "playedTimes", "(I)I"⟩
abbrev cX4_look : ByteArray := prog_6_method_16_code
def yX4_look : MethodName := ⟨RX4, "look", "(II)V"⟩
abbrev cX4_hurts : ByteArray := prog_6_method_17_code
def yX4_hurts : MethodName := ⟨RX4, "hurts", "(II)Z"⟩
abbrev cX4_costOn : ByteArray := prog_6_method_18_code
def yX4_costOn : MethodName := ⟨RX4, "costOn", "(III)I"⟩
abbrev cX4_costFree : ByteArray := prog_6_method_19_code
def yX4_costFree : MethodName := ⟨RX4, "costFree", "(II)I"⟩
abbrev cX4_capped : ByteArray := prog_6_method_20_code
def yX4_capped : MethodName := ⟨RX4, "capped", "(I)I"⟩
abbrev cX4_takesIn : ByteArray := prog_6_method_21_code
def yX4_takesIn : MethodName := ⟨RX4, "takesIn", "(III)V"⟩
abbrev cX4_findAt : ByteArray := prog_6_method_22_code
def yX4_findAt : MethodName := ⟨RX4, "findAt", "(II)V"⟩
abbrev cX4_findCost : ByteArray := prog_6_method_23_code
def yX4_findCost : MethodName := ⟨RX4, "findCost", "()I"⟩
abbrev cX4_beatsFrom : ByteArray := prog_6_method_24_code
def yX4_beatsFrom : MethodName := ⟨RX4, "beatsFrom", "(II)I"⟩
abbrev cX4_findWay : ByteArray := prog_6_method_25_code
def yX4_findWay : MethodName := ⟨RX4, "findWay", "()V"⟩
abbrev cX4_costOf : ByteArray := prog_6_method_26_code
def yX4_costOf : MethodName := ⟨RX4, "costOf", "(II)I"⟩
abbrev cX4_freeBeats : ByteArray := prog_6_method_27_code
def yX4_freeBeats : MethodName := ⟨RX4, "freeBeats", "()I"⟩
abbrev cX4_hurting : ByteArray := prog_6_method_28_code
def yX4_hurting : MethodName := ⟨RX4, "hurting", "()I"⟩
abbrev cX4_isValue : ByteArray := prog_6_method_29_code
def yX4_isValue : MethodName := ⟨RX4, "isValue", "(II)Z"⟩
abbrev cX4_set : ByteArray := prog_6_method_30_code
def yX4_set : MethodName := ⟨RX4, "set", "(II)I"⟩
abbrev cX4_parts : ByteArray := prog_6_method_31_code
def yX4_parts : MethodName := ⟨RX4, "parts", "(Z)I"⟩
abbrev cX4_writeLine : ByteArray := prog_6_method_32_code
def yX4_writeLine : MethodName := ⟨RX4, "writeLine", "(I)I"⟩
abbrev cX4_writePhrase : ByteArray := prog_6_method_33_code
def yX4_writePhrase : MethodName := ⟨RX4, "writePhrase", "(I)I"⟩
abbrev cX4_write : ByteArray := prog_6_method_34_code
def yX4_write : MethodName := ⟨RX4, "write", "()I"⟩
abbrev cX4_goes : ByteArray := prog_6_method_35_code
def yX4_goes : MethodName := ⟨RX4, "goes", "(III)I"⟩
abbrev cX4_dropLine : ByteArray := prog_6_method_36_code
def yX4_dropLine : MethodName := ⟨RX4, "dropLine", "(I)I"⟩
abbrev cX4_dropPhrase : ByteArray := prog_6_method_37_code
def yX4_dropPhrase : MethodName := ⟨RX4, "dropPhrase", "(I)I"⟩
abbrev cX4_stress : ByteArray := prog_6_method_38_code
def yX4_stress : MethodName := ⟨RX4, "stress", "(IIZ)I"⟩
abbrev cX4_kindAt : ByteArray := prog_6_method_39_code
def yX4_kindAt : MethodName := ⟨RX4, "kindAt", "(II)I"⟩
abbrev cX4_beat : ByteArray := prog_6_method_40_code
def yX4_beat : MethodName := ⟨RX4, "beat", "(III)I"⟩
abbrev cX4_sings : ByteArray := prog_6_method_41_code
def yX4_sings : MethodName := ⟨RX4, "sings", "(I)V"⟩
abbrev cX4_sing : ByteArray := prog_6_method_42_code
def yX4_sing : MethodName := ⟨RX4, "sing", "(I)I"⟩
abbrev cX4_play : ByteArray := prog_6_method_43_code
def yX4_play : MethodName := ⟨RX4, "play", "(I)I"⟩
abbrev cX4_verse : ByteArray := prog_6_method_44_code
def yX4_verse : MethodName := ⟨RX4, "verse", "(III)I"⟩
abbrev cX4_clear : ByteArray := prog_6_method_45_code
def yX4_clear : MethodName := ⟨RX4, "clear", "(Z)I"⟩
abbrev cX4_cheapestPhrase : ByteArray := prog_6_method_46_code
def yX4_cheapestPhrase : MethodName := ⟨RX4, "cheapestPhrase", "(I)I"⟩
abbrev cX4_line : ByteArray := prog_6_method_47_code
def yX4_line : MethodName := ⟨RX4, "line", "(II)I"⟩
abbrev cX4_longestRow : ByteArray := prog_6_method_48_code
def yX4_longestRow : MethodName := ⟨RX4, "longestRow", "(I)I"⟩
abbrev cX4_phrase : ByteArray := prog_6_method_49_code
def yX4_phrase : MethodName := ⟨RX4, "phrase", "(II)I"⟩
abbrev cX4_isStressed : ByteArray := prog_6_method_50_code
def yX4_isStressed : MethodName := ⟨RX4, "isStressed", "(II)I"⟩
abbrev cX4_kindOf : ByteArray := prog_6_method_51_code
def yX4_kindOf : MethodName := ⟨RX4, "kindOf", "(II)I"⟩
abbrev cX4_burdens : ByteArray := prog_6_method_52_code
def yX4_burdens : MethodName := ⟨RX4, "burdens", "()I"⟩
abbrev cX4_count : ByteArray := prog_6_method_53_code
def yX4_count : MethodName := ⟨RX4, "count", "(I)I"⟩
abbrev cX4_at : ByteArray := prog_6_method_54_code
def yX4_at : MethodName := ⟨RX4, "at", "(ZI)I"⟩
abbrev cX4_fit : ByteArray := prog_6_method_55_code
def yX4_fit : MethodName := ⟨RX4, "fit", "(III)I"⟩
abbrev cX4_lies : ByteArray := prog_6_method_56_code
def yX4_lies : MethodName := ⟨RX4, "lies", "(IIII)I"⟩
abbrev cX4_phraseFor : ByteArray := prog_6_method_57_code
def yX4_phraseFor : MethodName := ⟨RX4, "phraseFor", "(I)I"⟩
abbrev cX4_whole : ByteArray := prog_6_method_58_code
def yX4_whole : MethodName := ⟨RX4, "whole", "(I)I"⟩
abbrev cX4_bestPhrase : ByteArray := prog_6_method_59_code
def yX4_bestPhrase : MethodName := ⟨RX4, "bestPhrase", "()I"⟩
abbrev cX4_bestChange : ByteArray := prog_6_method_60_code
def yX4_bestChange : MethodName := ⟨RX4, "bestChange", "(III)I"⟩
abbrev cX4_enoughBreath : ByteArray := prog_6_method_61_code
def yX4_enoughBreath : MethodName := ⟨RX4, "enoughBreath", "(II)I"⟩
abbrev cX4_put : ByteArray := prog_6_method_62_code
def yX4_put : MethodName := ⟨RX4, "put", "(J)I"⟩
abbrev cX4_wipe : ByteArray := prog_6_method_63_code
def yX4_wipe : MethodName := ⟨RX4, "wipe", "()I"⟩
abbrev cX4_findFault : ByteArray := prog_6_method_64_code
def yX4_findFault : MethodName := ⟨RX4, "findFault", "()I"⟩
abbrev cX4_fault : ByteArray := prog_6_method_65_code
def yX4_fault : MethodName := ⟨RX4, "fault", "()I"⟩
abbrev cX4_undo : ByteArray := prog_6_method_66_code
def yX4_undo : MethodName := ⟨RX4, "undo", "()I"⟩
abbrev cX4_save : ByteArray := prog_6_method_67_code
def yX4_save : MethodName := ⟨RX4, "save", "(I)I"⟩
abbrev cX4_restore : ByteArray := prog_6_method_68_code
def yX4_restore : MethodName := ⟨RX4, "restore", "(I)I"⟩
def RJ9 : String := "java/lang/Math"
def TJ9 : u_T := fun k => match k with
  | _ => ("", "", "", false)
def tyJ9 : Nat → FieldType := fun k => match k with
  | _ => .int
abbrev cJ9_max_7cf53 : ByteArray := prog_7_method_65_code
def yJ9_max_7cf53 : MethodName := ⟨RJ9, "max", "(II)I"⟩
abbrev cJ9_min_7cf53 : ByteArray := prog_7_method_69_code
def yJ9_min_7cf53 : MethodName := ⟨RJ9, "min", "(II)I"⟩
def RJ10 : String := "java/lang/System"
def TJ10 : u_T := fun k => match k with
  | _ => ("", "", "", false)
def tyJ10 : Nat → FieldType := fun k => match k with
  | _ => .int
def RL : String := "BurdenTunesLaw"
abbrev cL_law : ByteArray := code
def yL_law : MethodName := ⟨RL, "law", "([I)Z"⟩
end
section
theorem dX0_init_0 : decode cX0_init 0 = .ok (.aload_n 0, 1) := by decide +kernel
theorem dX0_init_1 : decode cX0_init 1 = .ok (.invokespecial 3, 3) := by decide +kernel
theorem dX0_init_4 : decode cX0_init 4 = .ok (.aload_n 0, 1) := by decide +kernel
theorem dX0_init_5 : decode cX0_init 5 = .ok (.iconst 4, 1) := by decide +kernel
theorem dX0_init_6 : decode cX0_init 6 = .ok (.newarray .int, 2) := by decide +kernel
theorem dX0_init_8 : decode cX0_init 8 = .ok (.putfield 9, 3) := by decide +kernel
theorem dX0_init_11 : decode cX0_init 11 = .ok (.aload_n 0, 1) := by decide +kernel
theorem dX0_init_12 : decode cX0_init 12 = .ok (.iconst 0, 1) := by decide +kernel
theorem dX0_init_13 : decode cX0_init 13 = .ok (.putfield 15, 3) := by decide +kernel
theorem dX0_init_16 : decode cX0_init 16 = .ok (.aload_n 0, 1) := by decide +kernel
theorem dX0_init_17 : decode cX0_init 17 = .ok (.bipush 16, 2) := by decide +kernel
theorem dX0_init_19 : decode cX0_init 19 = .ok (.newarray .int, 2) := by decide +kernel
theorem dX0_init_21 : decode cX0_init 21 = .ok (.putfield 19, 3) := by decide +kernel
theorem dX0_init_24 : decode cX0_init 24 = .ok (.aload_n 0, 1) := by decide +kernel
theorem dX0_init_25 : decode cX0_init 25 = .ok (.sipush 256, 3) := by decide +kernel
theorem dX0_init_28 : decode cX0_init 28 = .ok (.newarray .int, 2) := by decide +kernel
theorem dX0_init_30 : decode cX0_init 30 = .ok (.putfield 22, 3) := by decide +kernel
theorem dX0_init_33 : decode cX0_init 33 = .ok (.aload_n 0, 1) := by decide +kernel
theorem dX0_init_34 : decode cX0_init 34 = .ok (.iconst 0, 1) := by decide +kernel
theorem dX0_init_35 : decode cX0_init 35 = .ok (.putfield 25, 3) := by decide +kernel
theorem dX0_init_38 : decode cX0_init 38 = .ok (.aload_n 0, 1) := by decide +kernel
theorem dX0_init_39 : decode cX0_init 39 = .ok (.bipush 8, 2) := by decide +kernel
theorem dX0_init_41 : decode cX0_init 41 = .ok (.newarray .int, 2) := by decide +kernel
theorem dX0_init_43 : decode cX0_init 43 = .ok (.putfield 28, 3) := by decide +kernel
theorem dX0_init_46 : decode cX0_init 46 = .ok (.aload_n 0, 1) := by decide +kernel
theorem dX0_init_47 : decode cX0_init 47 = .ok (.sipush 192, 3) := by decide +kernel
theorem dX0_init_50 : decode cX0_init 50 = .ok (.newarray .int, 2) := by decide +kernel
theorem dX0_init_52 : decode cX0_init 52 = .ok (.putfield 31, 3) := by decide +kernel
theorem dX0_init_55 : decode cX0_init 55 = .ok (.aload_n 0, 1) := by decide +kernel
theorem dX0_init_56 : decode cX0_init 56 = .ok (.iconst 0, 1) := by decide +kernel
theorem dX0_init_57 : decode cX0_init 57 = .ok (.putfield 34, 3) := by decide +kernel
theorem dX0_init_60 : decode cX0_init 60 = .ok (.aload_n 0, 1) := by decide +kernel
theorem dX0_init_61 : decode cX0_init 61 = .ok (.bipush 40, 2) := by decide +kernel
theorem dX0_init_63 : decode cX0_init 63 = .ok (.newarray .int, 2) := by decide +kernel
theorem dX0_init_65 : decode cX0_init 65 = .ok (.putfield 37, 3) := by decide +kernel
theorem dX0_init_68 : decode cX0_init 68 = .ok (.aload_n 0, 1) := by decide +kernel
theorem dX0_init_69 : decode cX0_init 69 = .ok (.iconst 0, 1) := by decide +kernel
theorem dX0_init_70 : decode cX0_init 70 = .ok (.putfield 40, 3) := by decide +kernel
theorem dX0_init_73 : decode cX0_init 73 = .ok (.aload_n 0, 1) := by decide +kernel
theorem dX0_init_74 : decode cX0_init 74 = .ok (.bipush 8, 2) := by decide +kernel
theorem dX0_init_76 : decode cX0_init 76 = .ok (.newarray .int, 2) := by decide +kernel
theorem dX0_init_78 : decode cX0_init 78 = .ok (.putfield 43, 3) := by decide +kernel
theorem dX0_init_81 : decode cX0_init 81 = .ok (.getstatic 46, 3) := by decide +kernel
theorem dX0_init_84 : decode cX0_init 84 = .ok (.iconst 0, 1) := by decide +kernel
theorem dX0_init_85 : decode cX0_init 85 = .ok (.aload_n 0, 1) := by decide +kernel
theorem dX0_init_86 : decode cX0_init 86 = .ok (.getfield 9, 3) := by decide +kernel
theorem dX0_init_89 : decode cX0_init 89 = .ok (.iconst 0, 1) := by decide +kernel
theorem dX0_init_90 : decode cX0_init 90 = .ok (.iconst 4, 1) := by decide +kernel
theorem dX0_init_91 : decode cX0_init 91 = .ok (.invokestatic 49, 3) := by decide +kernel
theorem dX0_init_94 : decode cX0_init 94 = .ok (.return_, 1) := by decide +kernel
theorem dX0_takeOver_0 : decode cX0_takeOver 0 = .ok (.aload_n 1, 1) := by decide +kernel
theorem dX0_takeOver_1 : decode cX0_takeOver 1 = .ok (.getfield 9, 3) := by decide +kernel
theorem dX0_takeOver_4 : decode cX0_takeOver 4 = .ok (.iconst 0, 1) := by decide +kernel
theorem dX0_takeOver_5 : decode cX0_takeOver 5 = .ok (.aload_n 0, 1) := by decide +kernel
theorem dX0_takeOver_6 : decode cX0_takeOver 6 = .ok (.getfield 9, 3) := by decide +kernel
theorem dX0_takeOver_9 : decode cX0_takeOver 9 = .ok (.iconst 0, 1) := by decide +kernel
theorem dX0_takeOver_10 : decode cX0_takeOver 10 = .ok (.iconst 4, 1) := by decide +kernel
theorem dX0_takeOver_11 : decode cX0_takeOver 11 = .ok (.invokestatic 49, 3) := by decide +kernel
theorem dX0_takeOver_14 : decode cX0_takeOver 14 = .ok (.aload_n 0, 1) := by decide +kernel
theorem dX0_takeOver_15 : decode cX0_takeOver 15 = .ok (.aload_n 1, 1) := by decide +kernel
theorem dX0_takeOver_16 : decode cX0_takeOver 16 = .ok (.getfield 15, 3) := by decide +kernel
theorem dX0_takeOver_19 : decode cX0_takeOver 19 = .ok (.putfield 15, 3) := by decide +kernel
theorem dX0_takeOver_22 : decode cX0_takeOver 22 = .ok (.aload_n 1, 1) := by decide +kernel
theorem dX0_takeOver_23 : decode cX0_takeOver 23 = .ok (.getfield 19, 3) := by decide +kernel
theorem dX0_takeOver_26 : decode cX0_takeOver 26 = .ok (.iconst 0, 1) := by decide +kernel
theorem dX0_takeOver_27 : decode cX0_takeOver 27 = .ok (.aload_n 0, 1) := by decide +kernel
theorem dX0_takeOver_28 : decode cX0_takeOver 28 = .ok (.getfield 19, 3) := by decide +kernel
theorem dX0_takeOver_31 : decode cX0_takeOver 31 = .ok (.iconst 0, 1) := by decide +kernel
theorem dX0_takeOver_32 : decode cX0_takeOver 32 = .ok (.bipush 16, 2) := by decide +kernel
theorem dX0_takeOver_34 : decode cX0_takeOver 34 = .ok (.invokestatic 49, 3) := by decide +kernel
theorem dX0_takeOver_37 : decode cX0_takeOver 37 = .ok (.aload_n 1, 1) := by decide +kernel
theorem dX0_takeOver_38 : decode cX0_takeOver 38 = .ok (.getfield 22, 3) := by decide +kernel
theorem dX0_takeOver_41 : decode cX0_takeOver 41 = .ok (.iconst 0, 1) := by decide +kernel
theorem dX0_takeOver_42 : decode cX0_takeOver 42 = .ok (.aload_n 0, 1) := by decide +kernel
theorem dX0_takeOver_43 : decode cX0_takeOver 43 = .ok (.getfield 22, 3) := by decide +kernel
theorem dX0_takeOver_46 : decode cX0_takeOver 46 = .ok (.iconst 0, 1) := by decide +kernel
theorem dX0_takeOver_47 : decode cX0_takeOver 47 = .ok (.sipush 256, 3) := by decide +kernel
theorem dX0_takeOver_50 : decode cX0_takeOver 50 = .ok (.invokestatic 49, 3) := by decide +kernel
theorem dX0_takeOver_53 : decode cX0_takeOver 53 = .ok (.aload_n 0, 1) := by decide +kernel
theorem dX0_takeOver_54 : decode cX0_takeOver 54 = .ok (.aload_n 1, 1) := by decide +kernel
theorem dX0_takeOver_55 : decode cX0_takeOver 55 = .ok (.getfield 25, 3) := by decide +kernel
theorem dX0_takeOver_58 : decode cX0_takeOver 58 = .ok (.putfield 25, 3) := by decide +kernel
theorem dX0_takeOver_61 : decode cX0_takeOver 61 = .ok (.aload_n 1, 1) := by decide +kernel
theorem dX0_takeOver_62 : decode cX0_takeOver 62 = .ok (.getfield 28, 3) := by decide +kernel
theorem dX0_takeOver_65 : decode cX0_takeOver 65 = .ok (.iconst 0, 1) := by decide +kernel
theorem dX0_takeOver_66 : decode cX0_takeOver 66 = .ok (.aload_n 0, 1) := by decide +kernel
theorem dX0_takeOver_67 : decode cX0_takeOver 67 = .ok (.getfield 28, 3) := by decide +kernel
theorem dX0_takeOver_70 : decode cX0_takeOver 70 = .ok (.iconst 0, 1) := by decide +kernel
theorem dX0_takeOver_71 : decode cX0_takeOver 71 = .ok (.bipush 8, 2) := by decide +kernel
theorem dX0_takeOver_73 : decode cX0_takeOver 73 = .ok (.invokestatic 49, 3) := by decide +kernel
theorem dX0_takeOver_76 : decode cX0_takeOver 76 = .ok (.aload_n 1, 1) := by decide +kernel
theorem dX0_takeOver_77 : decode cX0_takeOver 77 = .ok (.getfield 31, 3) := by decide +kernel
theorem dX0_takeOver_80 : decode cX0_takeOver 80 = .ok (.iconst 0, 1) := by decide +kernel
theorem dX0_takeOver_81 : decode cX0_takeOver 81 = .ok (.aload_n 0, 1) := by decide +kernel
theorem dX0_takeOver_82 : decode cX0_takeOver 82 = .ok (.getfield 31, 3) := by decide +kernel
theorem dX0_takeOver_85 : decode cX0_takeOver 85 = .ok (.iconst 0, 1) := by decide +kernel
theorem dX0_takeOver_86 : decode cX0_takeOver 86 = .ok (.sipush 192, 3) := by decide +kernel
theorem dX0_takeOver_89 : decode cX0_takeOver 89 = .ok (.invokestatic 49, 3) := by decide +kernel
theorem dX0_takeOver_92 : decode cX0_takeOver 92 = .ok (.aload_n 0, 1) := by decide +kernel
theorem dX0_takeOver_93 : decode cX0_takeOver 93 = .ok (.aload_n 1, 1) := by decide +kernel
theorem dX0_takeOver_94 : decode cX0_takeOver 94 = .ok (.getfield 34, 3) := by decide +kernel
theorem dX0_takeOver_97 : decode cX0_takeOver 97 = .ok (.putfield 34, 3) := by decide +kernel
theorem dX0_takeOver_100 : decode cX0_takeOver 100 = .ok (.aload_n 1, 1) := by decide +kernel
theorem dX0_takeOver_101 : decode cX0_takeOver 101 = .ok (.getfield 37, 3) := by decide +kernel
theorem dX0_takeOver_104 : decode cX0_takeOver 104 = .ok (.iconst 0, 1) := by decide +kernel
theorem dX0_takeOver_105 : decode cX0_takeOver 105 = .ok (.aload_n 0, 1) := by decide +kernel
theorem dX0_takeOver_106 : decode cX0_takeOver 106 = .ok (.getfield 37, 3) := by decide +kernel
theorem dX0_takeOver_109 : decode cX0_takeOver 109 = .ok (.iconst 0, 1) := by decide +kernel
theorem dX0_takeOver_110 : decode cX0_takeOver 110 = .ok (.bipush 40, 2) := by decide +kernel
theorem dX0_takeOver_112 : decode cX0_takeOver 112 = .ok (.invokestatic 49, 3) := by decide +kernel
theorem dX0_takeOver_115 : decode cX0_takeOver 115 = .ok (.aload_n 0, 1) := by decide +kernel
theorem dX0_takeOver_116 : decode cX0_takeOver 116 = .ok (.aload_n 1, 1) := by decide +kernel
theorem dX0_takeOver_117 : decode cX0_takeOver 117 = .ok (.getfield 40, 3) := by decide +kernel
theorem dX0_takeOver_120 : decode cX0_takeOver 120 = .ok (.putfield 40, 3) := by decide +kernel
theorem dX0_takeOver_123 : decode cX0_takeOver 123 = .ok (.aload_n 1, 1) := by decide +kernel
theorem dX0_takeOver_124 : decode cX0_takeOver 124 = .ok (.getfield 43, 3) := by decide +kernel
theorem dX0_takeOver_127 : decode cX0_takeOver 127 = .ok (.iconst 0, 1) := by decide +kernel
theorem dX0_takeOver_128 : decode cX0_takeOver 128 = .ok (.aload_n 0, 1) := by decide +kernel
theorem dX0_takeOver_129 : decode cX0_takeOver 129 = .ok (.getfield 43, 3) := by decide +kernel
theorem dX0_takeOver_132 : decode cX0_takeOver 132 = .ok (.iconst 0, 1) := by decide +kernel
theorem dX0_takeOver_133 : decode cX0_takeOver 133 = .ok (.bipush 8, 2) := by decide +kernel
theorem dX0_takeOver_135 : decode cX0_takeOver 135 = .ok (.invokestatic 49, 3) := by decide +kernel
theorem dX0_takeOver_138 : decode cX0_takeOver 138 = .ok (.return_, 1) := by decide +kernel
theorem dX0_hasLine_0 : decode cX0_hasLine 0 = .ok (.iload_n 1, 1) := by decide +kernel
theorem dX0_hasLine_1 : decode cX0_hasLine 1 = .ok (.ifCond .lt 15, 3) := by decide +kernel
theorem dX0_hasLine_4 : decode cX0_hasLine 4 = .ok (.iload_n 1, 1) := by decide +kernel
theorem dX0_hasLine_5 : decode cX0_hasLine 5 = .ok (.aload_n 0, 1) := by decide +kernel
theorem dX0_hasLine_6 : decode cX0_hasLine 6 = .ok (.getfield 15, 3) := by decide +kernel
theorem dX0_hasLine_9 : decode cX0_hasLine 9 = .ok (.if_icmp .ge 7, 3) := by decide +kernel
theorem dX0_hasLine_12 : decode cX0_hasLine 12 = .ok (.iconst 1, 1) := by decide +kernel
theorem dX0_hasLine_13 : decode cX0_hasLine 13 = .ok (.goto 4, 3) := by decide +kernel
theorem dX0_hasLine_16 : decode cX0_hasLine 16 = .ok (.iconst 0, 1) := by decide +kernel
theorem dX0_hasLine_17 : decode cX0_hasLine 17 = .ok (.ireturn, 1) := by decide +kernel
theorem dX0_hasPhrase_0 : decode cX0_hasPhrase 0 = .ok (.iload_n 1, 1) := by decide +kernel
theorem dX0_hasPhrase_1 : decode cX0_hasPhrase 1 = .ok (.ifCond .lt 15, 3) := by decide +kernel
theorem dX0_hasPhrase_4 : decode cX0_hasPhrase 4 = .ok (.iload_n 1, 1) := by decide +kernel
theorem dX0_hasPhrase_5 : decode cX0_hasPhrase 5 = .ok (.aload_n 0, 1) := by decide +kernel
theorem dX0_hasPhrase_6 : decode cX0_hasPhrase 6 = .ok (.getfield 25, 3) := by decide +kernel
theorem dX0_hasPhrase_9 : decode cX0_hasPhrase 9 = .ok (.if_icmp .ge 7, 3) := by decide +kernel
theorem dX0_hasPhrase_12 : decode cX0_hasPhrase 12 = .ok (.iconst 1, 1) := by decide +kernel
theorem dX0_hasPhrase_13 : decode cX0_hasPhrase 13 = .ok (.goto 4, 3) := by decide +kernel
theorem dX0_hasPhrase_16 : decode cX0_hasPhrase 16 = .ok (.iconst 0, 1) := by decide +kernel
theorem dX0_hasPhrase_17 : decode cX0_hasPhrase 17 = .ok (.ireturn, 1) := by decide +kernel
theorem dX0_hasSyllable_0 : decode cX0_hasSyllable 0 = .ok (.aload_n 0, 1) := by decide +kernel
theorem dX0_hasSyllable_1 : decode cX0_hasSyllable 1 = .ok (.iload_n 1, 1) := by decide +kernel
theorem dX0_hasSyllable_2 : decode cX0_hasSyllable 2 = .ok (.invokevirtual 55, 3) := by decide +kernel
theorem dX0_hasSyllable_5 : decode cX0_hasSyllable 5 = .ok (.ifCond .eq 21, 3) := by decide +kernel
theorem dX0_hasSyllable_8 : decode cX0_hasSyllable 8 = .ok (.iload_n 2, 1) := by decide +kernel
theorem dX0_hasSyllable_9 : decode cX0_hasSyllable 9 = .ok (.ifCond .lt 17, 3) := by decide +kernel
theorem dX0_hasSyllable_12 : decode cX0_hasSyllable 12 = .ok (.iload_n 2, 1) := by decide +kernel
theorem dX0_hasSyllable_13 : decode cX0_hasSyllable 13 = .ok (.aload_n 0, 1) := by decide +kernel
theorem dX0_hasSyllable_14 : decode cX0_hasSyllable 14 = .ok (.getfield 19, 3) := by decide +kernel
theorem dX0_hasSyllable_17 : decode cX0_hasSyllable 17 = .ok (.iload_n 1, 1) := by decide +kernel
theorem dX0_hasSyllable_18 : decode cX0_hasSyllable 18 = .ok (.iaload, 1) := by decide +kernel
theorem dX0_hasSyllable_19 : decode cX0_hasSyllable 19 = .ok (.if_icmp .ge 7, 3) := by decide +kernel
theorem dX0_hasSyllable_22 : decode cX0_hasSyllable 22 = .ok (.iconst 1, 1) := by decide +kernel
theorem dX0_hasSyllable_23 : decode cX0_hasSyllable 23 = .ok (.goto 4, 3) := by decide +kernel
theorem dX0_hasSyllable_26 : decode cX0_hasSyllable 26 = .ok (.iconst 0, 1) := by decide +kernel
theorem dX0_hasSyllable_27 : decode cX0_hasSyllable 27 = .ok (.ireturn, 1) := by decide +kernel
theorem dX0_hasBeat_0 : decode cX0_hasBeat 0 = .ok (.aload_n 0, 1) := by decide +kernel
theorem dX0_hasBeat_1 : decode cX0_hasBeat 1 = .ok (.iload_n 1, 1) := by decide +kernel
theorem dX0_hasBeat_2 : decode cX0_hasBeat 2 = .ok (.invokevirtual 59, 3) := by decide +kernel
theorem dX0_hasBeat_5 : decode cX0_hasBeat 5 = .ok (.ifCond .eq 21, 3) := by decide +kernel
theorem dX0_hasBeat_8 : decode cX0_hasBeat 8 = .ok (.iload_n 2, 1) := by decide +kernel
theorem dX0_hasBeat_9 : decode cX0_hasBeat 9 = .ok (.ifCond .lt 17, 3) := by decide +kernel
theorem dX0_hasBeat_12 : decode cX0_hasBeat 12 = .ok (.iload_n 2, 1) := by decide +kernel
theorem dX0_hasBeat_13 : decode cX0_hasBeat 13 = .ok (.aload_n 0, 1) := by decide +kernel
theorem dX0_hasBeat_14 : decode cX0_hasBeat 14 = .ok (.getfield 28, 3) := by decide +kernel
theorem dX0_hasBeat_17 : decode cX0_hasBeat 17 = .ok (.iload_n 1, 1) := by decide +kernel
theorem dX0_hasBeat_18 : decode cX0_hasBeat 18 = .ok (.iaload, 1) := by decide +kernel
theorem dX0_hasBeat_19 : decode cX0_hasBeat 19 = .ok (.if_icmp .ge 7, 3) := by decide +kernel
theorem dX0_hasBeat_22 : decode cX0_hasBeat 22 = .ok (.iconst 1, 1) := by decide +kernel
theorem dX0_hasBeat_23 : decode cX0_hasBeat 23 = .ok (.goto 4, 3) := by decide +kernel
theorem dX0_hasBeat_26 : decode cX0_hasBeat 26 = .ok (.iconst 0, 1) := by decide +kernel
theorem dX0_hasBeat_27 : decode cX0_hasBeat 27 = .ok (.ireturn, 1) := by decide +kernel
theorem dX0_beginPart_0 : decode cX0_beginPart 0 = .ok (.iload_n 1, 1) := by decide +kernel
theorem dX0_beginPart_1 : decode cX0_beginPart 1 = .ok (.ifCond .eq 35, 3) := by decide +kernel
theorem dX0_beginPart_4 : decode cX0_beginPart 4 = .ok (.aload_n 0, 1) := by decide +kernel
theorem dX0_beginPart_5 : decode cX0_beginPart 5 = .ok (.getfield 25, 3) := by decide +kernel
theorem dX0_beginPart_8 : decode cX0_beginPart 8 = .ok (.bipush 8, 2) := by decide +kernel
theorem dX0_beginPart_10 : decode cX0_beginPart 10 = .ok (.if_icmp .ge 26, 3) := by decide +kernel
theorem dX0_beginPart_13 : decode cX0_beginPart 13 = .ok (.aload_n 0, 1) := by decide +kernel
theorem dX0_beginPart_14 : decode cX0_beginPart 14 = .ok (.getfield 28, 3) := by decide +kernel
theorem dX0_beginPart_17 : decode cX0_beginPart 17 = .ok (.aload_n 0, 1) := by decide +kernel
theorem dX0_beginPart_18 : decode cX0_beginPart 18 = .ok (.getfield 25, 3) := by decide +kernel
theorem dX0_beginPart_21 : decode cX0_beginPart 21 = .ok (.iconst 0, 1) := by decide +kernel
theorem dX0_beginPart_22 : decode cX0_beginPart 22 = .ok (.iastore, 1) := by decide +kernel
theorem dX0_beginPart_23 : decode cX0_beginPart 23 = .ok (.aload_n 0, 1) := by decide +kernel
theorem dX0_beginPart_24 : decode cX0_beginPart 24 = .ok (.dup, 1) := by decide +kernel
theorem dX0_beginPart_25 : decode cX0_beginPart 25 = .ok (.getfield 25, 3) := by decide +kernel
theorem dX0_beginPart_28 : decode cX0_beginPart 28 = .ok (.iconst 1, 1) := by decide +kernel
theorem dX0_beginPart_29 : decode cX0_beginPart 29 = .ok (.iadd, 1) := by decide +kernel
theorem dX0_beginPart_30 : decode cX0_beginPart 30 = .ok (.putfield 25, 3) := by decide +kernel
theorem dX0_beginPart_33 : decode cX0_beginPart 33 = .ok (.goto 36, 3) := by decide +kernel
theorem dX0_beginPart_36 : decode cX0_beginPart 36 = .ok (.iload_n 1, 1) := by decide +kernel
theorem dX0_beginPart_37 : decode cX0_beginPart 37 = .ok (.ifCond .ne 32, 3) := by decide +kernel
theorem dX0_beginPart_40 : decode cX0_beginPart 40 = .ok (.aload_n 0, 1) := by decide +kernel
theorem dX0_beginPart_41 : decode cX0_beginPart 41 = .ok (.getfield 15, 3) := by decide +kernel
theorem dX0_beginPart_44 : decode cX0_beginPart 44 = .ok (.bipush 16, 2) := by decide +kernel
theorem dX0_beginPart_46 : decode cX0_beginPart 46 = .ok (.if_icmp .ge 23, 3) := by decide +kernel
theorem dX0_beginPart_49 : decode cX0_beginPart 49 = .ok (.aload_n 0, 1) := by decide +kernel
theorem dX0_beginPart_50 : decode cX0_beginPart 50 = .ok (.getfield 19, 3) := by decide +kernel
theorem dX0_beginPart_53 : decode cX0_beginPart 53 = .ok (.aload_n 0, 1) := by decide +kernel
theorem dX0_beginPart_54 : decode cX0_beginPart 54 = .ok (.getfield 15, 3) := by decide +kernel
theorem dX0_beginPart_57 : decode cX0_beginPart 57 = .ok (.iconst 0, 1) := by decide +kernel
theorem dX0_beginPart_58 : decode cX0_beginPart 58 = .ok (.iastore, 1) := by decide +kernel
theorem dX0_beginPart_59 : decode cX0_beginPart 59 = .ok (.aload_n 0, 1) := by decide +kernel
theorem dX0_beginPart_60 : decode cX0_beginPart 60 = .ok (.dup, 1) := by decide +kernel
theorem dX0_beginPart_61 : decode cX0_beginPart 61 = .ok (.getfield 15, 3) := by decide +kernel
theorem dX0_beginPart_64 : decode cX0_beginPart 64 = .ok (.iconst 1, 1) := by decide +kernel
theorem dX0_beginPart_65 : decode cX0_beginPart 65 = .ok (.iadd, 1) := by decide +kernel
theorem dX0_beginPart_66 : decode cX0_beginPart 66 = .ok (.putfield 15, 3) := by decide +kernel
theorem dX0_beginPart_69 : decode cX0_beginPart 69 = .ok (.return_, 1) := by decide +kernel
theorem dX0_addSign_0 : decode cX0_addSign 0 = .ok (.iload_n 1, 1) := by decide +kernel
theorem dX0_addSign_1 : decode cX0_addSign 1 = .ok (.invokestatic 62, 3) := by decide +kernel
theorem dX0_addSign_4 : decode cX0_addSign 4 = .ok (.ifCond .eq 21, 3) := by decide +kernel
theorem dX0_addSign_7 : decode cX0_addSign 7 = .ok (.aload_n 0, 1) := by decide +kernel
theorem dX0_addSign_8 : decode cX0_addSign 8 = .ok (.iload_n 1, 1) := by decide +kernel
theorem dX0_addSign_9 : decode cX0_addSign 9 = .ok (.bipush 88, 2) := by decide +kernel
theorem dX0_addSign_11 : decode cX0_addSign 11 = .ok (.if_icmp .ne 7, 3) := by decide +kernel
theorem dX0_addSign_14 : decode cX0_addSign 14 = .ok (.iconst 1, 1) := by decide +kernel
theorem dX0_addSign_15 : decode cX0_addSign 15 = .ok (.goto 4, 3) := by decide +kernel
theorem dX0_addSign_18 : decode cX0_addSign 18 = .ok (.iconst 0, 1) := by decide +kernel
theorem dX0_addSign_19 : decode cX0_addSign 19 = .ok (.invokevirtual 68, 3) := by decide +kernel
theorem dX0_addSign_22 : decode cX0_addSign 22 = .ok (.goto 35, 3) := by decide +kernel
theorem dX0_addSign_25 : decode cX0_addSign 25 = .ok (.iload_n 1, 1) := by decide +kernel
theorem dX0_addSign_26 : decode cX0_addSign 26 = .ok (.invokestatic 72, 3) := by decide +kernel
theorem dX0_addSign_29 : decode cX0_addSign 29 = .ok (.ifCond .eq 28, 3) := by decide +kernel
theorem dX0_addSign_32 : decode cX0_addSign 32 = .ok (.aload_n 0, 1) := by decide +kernel
theorem dX0_addSign_33 : decode cX0_addSign 33 = .ok (.iload_n 1, 1) := by decide +kernel
theorem dX0_addSign_34 : decode cX0_addSign 34 = .ok (.bipush 115, 2) := by decide +kernel
theorem dX0_addSign_36 : decode cX0_addSign 36 = .ok (.if_icmp .ne 7, 3) := by decide +kernel
theorem dX0_addSign_39 : decode cX0_addSign 39 = .ok (.iconst 2, 1) := by decide +kernel
theorem dX0_addSign_40 : decode cX0_addSign 40 = .ok (.goto 14, 3) := by decide +kernel
theorem dX0_addSign_43 : decode cX0_addSign 43 = .ok (.iload_n 1, 1) := by decide +kernel
theorem dX0_addSign_44 : decode cX0_addSign 44 = .ok (.bipush 119, 2) := by decide +kernel
theorem dX0_addSign_46 : decode cX0_addSign 46 = .ok (.if_icmp .ne 7, 3) := by decide +kernel
theorem dX0_addSign_49 : decode cX0_addSign 49 = .ok (.iconst 1, 1) := by decide +kernel
theorem dX0_addSign_50 : decode cX0_addSign 50 = .ok (.goto 4, 3) := by decide +kernel
theorem dX0_addSign_53 : decode cX0_addSign 53 = .ok (.iconst 0, 1) := by decide +kernel
theorem dX0_addSign_54 : decode cX0_addSign 54 = .ok (.invokevirtual 75, 3) := by decide +kernel
theorem dX0_addSign_57 : decode cX0_addSign 57 = .ok (.return_, 1) := by decide +kernel
theorem dX0_addSyllable_0 : decode cX0_addSyllable 0 = .ok (.aload_n 0, 1) := by decide +kernel
theorem dX0_addSyllable_1 : decode cX0_addSyllable 1 = .ok (.getfield 15, 3) := by decide +kernel
theorem dX0_addSyllable_4 : decode cX0_addSyllable 4 = .ok (.iconst 1, 1) := by decide +kernel
theorem dX0_addSyllable_5 : decode cX0_addSyllable 5 = .ok (.isub, 1) := by decide +kernel
theorem dX0_addSyllable_6 : decode cX0_addSyllable 6 = .ok (.istore_n 2, 1) := by decide +kernel
theorem dX0_addSyllable_7 : decode cX0_addSyllable 7 = .ok (.iload_n 2, 1) := by decide +kernel
theorem dX0_addSyllable_8 : decode cX0_addSyllable 8 = .ok (.ifCond .lt 41, 3) := by decide +kernel
theorem dX0_addSyllable_11 : decode cX0_addSyllable 11 = .ok (.aload_n 0, 1) := by decide +kernel
theorem dX0_addSyllable_12 : decode cX0_addSyllable 12 = .ok (.getfield 19, 3) := by decide +kernel
theorem dX0_addSyllable_15 : decode cX0_addSyllable 15 = .ok (.iload_n 2, 1) := by decide +kernel
theorem dX0_addSyllable_16 : decode cX0_addSyllable 16 = .ok (.iaload, 1) := by decide +kernel
theorem dX0_addSyllable_17 : decode cX0_addSyllable 17 = .ok (.bipush 16, 2) := by decide +kernel
theorem dX0_addSyllable_19 : decode cX0_addSyllable 19 = .ok (.if_icmp .ge 30, 3) := by decide +kernel
theorem dX0_addSyllable_22 : decode cX0_addSyllable 22 = .ok (.aload_n 0, 1) := by decide +kernel
theorem dX0_addSyllable_23 : decode cX0_addSyllable 23 = .ok (.getfield 22, 3) := by decide +kernel
theorem dX0_addSyllable_26 : decode cX0_addSyllable 26 = .ok (.iload_n 2, 1) := by decide +kernel
theorem dX0_addSyllable_27 : decode cX0_addSyllable 27 = .ok (.bipush 16, 2) := by decide +kernel
theorem dX0_addSyllable_29 : decode cX0_addSyllable 29 = .ok (.imul, 1) := by decide +kernel
theorem dX0_addSyllable_30 : decode cX0_addSyllable 30 = .ok (.aload_n 0, 1) := by decide +kernel
theorem dX0_addSyllable_31 : decode cX0_addSyllable 31 = .ok (.getfield 19, 3) := by decide +kernel
theorem dX0_addSyllable_34 : decode cX0_addSyllable 34 = .ok (.iload_n 2, 1) := by decide +kernel
theorem dX0_addSyllable_35 : decode cX0_addSyllable 35 = .ok (.iaload, 1) := by decide +kernel
theorem dX0_addSyllable_36 : decode cX0_addSyllable 36 = .ok (.iadd, 1) := by decide +kernel
theorem dX0_addSyllable_37 : decode cX0_addSyllable 37 = .ok (.iload_n 1, 1) := by decide +kernel
theorem dX0_addSyllable_38 : decode cX0_addSyllable 38 = .ok (.iastore, 1) := by decide +kernel
theorem dX0_addSyllable_39 : decode cX0_addSyllable 39 = .ok (.aload_n 0, 1) := by decide +kernel
theorem dX0_addSyllable_40 : decode cX0_addSyllable 40 = .ok (.getfield 19, 3) := by decide +kernel
theorem dX0_addSyllable_43 : decode cX0_addSyllable 43 = .ok (.iload_n 2, 1) := by decide +kernel
theorem dX0_addSyllable_44 : decode cX0_addSyllable 44 = .ok (.dup2, 1) := by decide +kernel
theorem dX0_addSyllable_45 : decode cX0_addSyllable 45 = .ok (.iaload, 1) := by decide +kernel
theorem dX0_addSyllable_46 : decode cX0_addSyllable 46 = .ok (.iconst 1, 1) := by decide +kernel
theorem dX0_addSyllable_47 : decode cX0_addSyllable 47 = .ok (.iadd, 1) := by decide +kernel
theorem dX0_addSyllable_48 : decode cX0_addSyllable 48 = .ok (.iastore, 1) := by decide +kernel
theorem dX0_addSyllable_49 : decode cX0_addSyllable 49 = .ok (.return_, 1) := by decide +kernel
theorem dX0_addBeat_0 : decode cX0_addBeat 0 = .ok (.aload_n 0, 1) := by decide +kernel
theorem dX0_addBeat_1 : decode cX0_addBeat 1 = .ok (.getfield 25, 3) := by decide +kernel
theorem dX0_addBeat_4 : decode cX0_addBeat 4 = .ok (.iconst 1, 1) := by decide +kernel
theorem dX0_addBeat_5 : decode cX0_addBeat 5 = .ok (.isub, 1) := by decide +kernel
theorem dX0_addBeat_6 : decode cX0_addBeat 6 = .ok (.istore_n 2, 1) := by decide +kernel
theorem dX0_addBeat_7 : decode cX0_addBeat 7 = .ok (.iload_n 2, 1) := by decide +kernel
theorem dX0_addBeat_8 : decode cX0_addBeat 8 = .ok (.ifCond .lt 41, 3) := by decide +kernel
theorem dX0_addBeat_11 : decode cX0_addBeat 11 = .ok (.aload_n 0, 1) := by decide +kernel
theorem dX0_addBeat_12 : decode cX0_addBeat 12 = .ok (.getfield 28, 3) := by decide +kernel
theorem dX0_addBeat_15 : decode cX0_addBeat 15 = .ok (.iload_n 2, 1) := by decide +kernel
theorem dX0_addBeat_16 : decode cX0_addBeat 16 = .ok (.iaload, 1) := by decide +kernel
theorem dX0_addBeat_17 : decode cX0_addBeat 17 = .ok (.bipush 24, 2) := by decide +kernel
theorem dX0_addBeat_19 : decode cX0_addBeat 19 = .ok (.if_icmp .ge 30, 3) := by decide +kernel
theorem dX0_addBeat_22 : decode cX0_addBeat 22 = .ok (.aload_n 0, 1) := by decide +kernel
theorem dX0_addBeat_23 : decode cX0_addBeat 23 = .ok (.getfield 31, 3) := by decide +kernel
theorem dX0_addBeat_26 : decode cX0_addBeat 26 = .ok (.iload_n 2, 1) := by decide +kernel
theorem dX0_addBeat_27 : decode cX0_addBeat 27 = .ok (.bipush 24, 2) := by decide +kernel
theorem dX0_addBeat_29 : decode cX0_addBeat 29 = .ok (.imul, 1) := by decide +kernel
theorem dX0_addBeat_30 : decode cX0_addBeat 30 = .ok (.aload_n 0, 1) := by decide +kernel
theorem dX0_addBeat_31 : decode cX0_addBeat 31 = .ok (.getfield 28, 3) := by decide +kernel
theorem dX0_addBeat_34 : decode cX0_addBeat 34 = .ok (.iload_n 2, 1) := by decide +kernel
theorem dX0_addBeat_35 : decode cX0_addBeat 35 = .ok (.iaload, 1) := by decide +kernel
theorem dX0_addBeat_36 : decode cX0_addBeat 36 = .ok (.iadd, 1) := by decide +kernel
theorem dX0_addBeat_37 : decode cX0_addBeat 37 = .ok (.iload_n 1, 1) := by decide +kernel
theorem dX0_addBeat_38 : decode cX0_addBeat 38 = .ok (.iastore, 1) := by decide +kernel
theorem dX0_addBeat_39 : decode cX0_addBeat 39 = .ok (.aload_n 0, 1) := by decide +kernel
theorem dX0_addBeat_40 : decode cX0_addBeat 40 = .ok (.getfield 28, 3) := by decide +kernel
theorem dX0_addBeat_43 : decode cX0_addBeat 43 = .ok (.iload_n 2, 1) := by decide +kernel
theorem dX0_addBeat_44 : decode cX0_addBeat 44 = .ok (.dup2, 1) := by decide +kernel
theorem dX0_addBeat_45 : decode cX0_addBeat 45 = .ok (.iaload, 1) := by decide +kernel
theorem dX0_addBeat_46 : decode cX0_addBeat 46 = .ok (.iconst 1, 1) := by decide +kernel
theorem dX0_addBeat_47 : decode cX0_addBeat 47 = .ok (.iadd, 1) := by decide +kernel
theorem dX0_addBeat_48 : decode cX0_addBeat 48 = .ok (.iastore, 1) := by decide +kernel
theorem dX0_addBeat_49 : decode cX0_addBeat 49 = .ok (.return_, 1) := by decide +kernel
theorem dX0_removeLine_0 : decode cX0_removeLine 0 = .ok (.aload_n 0, 1) := by decide +kernel
theorem dX0_removeLine_1 : decode cX0_removeLine 1 = .ok (.getfield 15, 3) := by decide +kernel
theorem dX0_removeLine_4 : decode cX0_removeLine 4 = .ok (.iload_n 1, 1) := by decide +kernel
theorem dX0_removeLine_5 : decode cX0_removeLine 5 = .ok (.isub, 1) := by decide +kernel
theorem dX0_removeLine_6 : decode cX0_removeLine 6 = .ok (.iconst 1, 1) := by decide +kernel
theorem dX0_removeLine_7 : decode cX0_removeLine 7 = .ok (.isub, 1) := by decide +kernel
theorem dX0_removeLine_8 : decode cX0_removeLine 8 = .ok (.istore_n 2, 1) := by decide +kernel
theorem dX0_removeLine_9 : decode cX0_removeLine 9 = .ok (.aload_n 0, 1) := by decide +kernel
theorem dX0_removeLine_10 : decode cX0_removeLine 10 = .ok (.getfield 19, 3) := by decide +kernel
theorem dX0_removeLine_13 : decode cX0_removeLine 13 = .ok (.iload_n 1, 1) := by decide +kernel
theorem dX0_removeLine_14 : decode cX0_removeLine 14 = .ok (.iconst 1, 1) := by decide +kernel
theorem dX0_removeLine_15 : decode cX0_removeLine 15 = .ok (.iadd, 1) := by decide +kernel
theorem dX0_removeLine_16 : decode cX0_removeLine 16 = .ok (.aload_n 0, 1) := by decide +kernel
theorem dX0_removeLine_17 : decode cX0_removeLine 17 = .ok (.getfield 19, 3) := by decide +kernel
theorem dX0_removeLine_20 : decode cX0_removeLine 20 = .ok (.iload_n 1, 1) := by decide +kernel
theorem dX0_removeLine_21 : decode cX0_removeLine 21 = .ok (.iload_n 2, 1) := by decide +kernel
theorem dX0_removeLine_22 : decode cX0_removeLine 22 = .ok (.invokestatic 49, 3) := by decide +kernel
theorem dX0_removeLine_25 : decode cX0_removeLine 25 = .ok (.aload_n 0, 1) := by decide +kernel
theorem dX0_removeLine_26 : decode cX0_removeLine 26 = .ok (.getfield 22, 3) := by decide +kernel
theorem dX0_removeLine_29 : decode cX0_removeLine 29 = .ok (.iload_n 1, 1) := by decide +kernel
theorem dX0_removeLine_30 : decode cX0_removeLine 30 = .ok (.iconst 1, 1) := by decide +kernel
theorem dX0_removeLine_31 : decode cX0_removeLine 31 = .ok (.iadd, 1) := by decide +kernel
theorem dX0_removeLine_32 : decode cX0_removeLine 32 = .ok (.bipush 16, 2) := by decide +kernel
theorem dX0_removeLine_34 : decode cX0_removeLine 34 = .ok (.imul, 1) := by decide +kernel
theorem dX0_removeLine_35 : decode cX0_removeLine 35 = .ok (.aload_n 0, 1) := by decide +kernel
theorem dX0_removeLine_36 : decode cX0_removeLine 36 = .ok (.getfield 22, 3) := by decide +kernel
theorem dX0_removeLine_39 : decode cX0_removeLine 39 = .ok (.iload_n 1, 1) := by decide +kernel
theorem dX0_removeLine_40 : decode cX0_removeLine 40 = .ok (.bipush 16, 2) := by decide +kernel
theorem dX0_removeLine_42 : decode cX0_removeLine 42 = .ok (.imul, 1) := by decide +kernel
theorem dX0_removeLine_43 : decode cX0_removeLine 43 = .ok (.iload_n 2, 1) := by decide +kernel
theorem dX0_removeLine_44 : decode cX0_removeLine 44 = .ok (.bipush 16, 2) := by decide +kernel
theorem dX0_removeLine_46 : decode cX0_removeLine 46 = .ok (.imul, 1) := by decide +kernel
theorem dX0_removeLine_47 : decode cX0_removeLine 47 = .ok (.invokestatic 49, 3) := by decide +kernel
theorem dX0_removeLine_50 : decode cX0_removeLine 50 = .ok (.aload_n 0, 1) := by decide +kernel
theorem dX0_removeLine_51 : decode cX0_removeLine 51 = .ok (.dup, 1) := by decide +kernel
theorem dX0_removeLine_52 : decode cX0_removeLine 52 = .ok (.getfield 15, 3) := by decide +kernel
theorem dX0_removeLine_55 : decode cX0_removeLine 55 = .ok (.iconst 1, 1) := by decide +kernel
theorem dX0_removeLine_56 : decode cX0_removeLine 56 = .ok (.isub, 1) := by decide +kernel
theorem dX0_removeLine_57 : decode cX0_removeLine 57 = .ok (.putfield 15, 3) := by decide +kernel
theorem dX0_removeLine_60 : decode cX0_removeLine 60 = .ok (.aload_n 0, 1) := by decide +kernel
theorem dX0_removeLine_61 : decode cX0_removeLine 61 = .ok (.aload_n 0, 1) := by decide +kernel
theorem dX0_removeLine_62 : decode cX0_removeLine 62 = .ok (.getfield 37, 3) := by decide +kernel
theorem dX0_removeLine_65 : decode cX0_removeLine 65 = .ok (.aload_n 0, 1) := by decide +kernel
theorem dX0_removeLine_66 : decode cX0_removeLine 66 = .ok (.getfield 34, 3) := by decide +kernel
theorem dX0_removeLine_69 : decode cX0_removeLine 69 = .ok (.iload_n 1, 1) := by decide +kernel
theorem dX0_removeLine_70 : decode cX0_removeLine 70 = .ok (.invokestatic 78, 3) := by decide +kernel
theorem dX0_removeLine_73 : decode cX0_removeLine 73 = .ok (.putfield 34, 3) := by decide +kernel
theorem dX0_removeLine_76 : decode cX0_removeLine 76 = .ok (.return_, 1) := by decide +kernel
theorem dX0_removePhrase_0 : decode cX0_removePhrase 0 = .ok (.aload_n 0, 1) := by decide +kernel
theorem dX0_removePhrase_1 : decode cX0_removePhrase 1 = .ok (.getfield 25, 3) := by decide +kernel
theorem dX0_removePhrase_4 : decode cX0_removePhrase 4 = .ok (.iload_n 1, 1) := by decide +kernel
theorem dX0_removePhrase_5 : decode cX0_removePhrase 5 = .ok (.isub, 1) := by decide +kernel
theorem dX0_removePhrase_6 : decode cX0_removePhrase 6 = .ok (.iconst 1, 1) := by decide +kernel
theorem dX0_removePhrase_7 : decode cX0_removePhrase 7 = .ok (.isub, 1) := by decide +kernel
theorem dX0_removePhrase_8 : decode cX0_removePhrase 8 = .ok (.istore_n 2, 1) := by decide +kernel
theorem dX0_removePhrase_9 : decode cX0_removePhrase 9 = .ok (.aload_n 0, 1) := by decide +kernel
theorem dX0_removePhrase_10 : decode cX0_removePhrase 10 = .ok (.getfield 28, 3) := by decide +kernel
theorem dX0_removePhrase_13 : decode cX0_removePhrase 13 = .ok (.iload_n 1, 1) := by decide +kernel
theorem dX0_removePhrase_14 : decode cX0_removePhrase 14 = .ok (.iconst 1, 1) := by decide +kernel
theorem dX0_removePhrase_15 : decode cX0_removePhrase 15 = .ok (.iadd, 1) := by decide +kernel
theorem dX0_removePhrase_16 : decode cX0_removePhrase 16 = .ok (.aload_n 0, 1) := by decide +kernel
theorem dX0_removePhrase_17 : decode cX0_removePhrase 17 = .ok (.getfield 28, 3) := by decide +kernel
theorem dX0_removePhrase_20 : decode cX0_removePhrase 20 = .ok (.iload_n 1, 1) := by decide +kernel
theorem dX0_removePhrase_21 : decode cX0_removePhrase 21 = .ok (.iload_n 2, 1) := by decide +kernel
theorem dX0_removePhrase_22 : decode cX0_removePhrase 22 = .ok (.invokestatic 49, 3) := by decide +kernel
theorem dX0_removePhrase_25 : decode cX0_removePhrase 25 = .ok (.aload_n 0, 1) := by decide +kernel
theorem dX0_removePhrase_26 : decode cX0_removePhrase 26 = .ok (.getfield 31, 3) := by decide +kernel
theorem dX0_removePhrase_29 : decode cX0_removePhrase 29 = .ok (.iload_n 1, 1) := by decide +kernel
theorem dX0_removePhrase_30 : decode cX0_removePhrase 30 = .ok (.iconst 1, 1) := by decide +kernel
theorem dX0_removePhrase_31 : decode cX0_removePhrase 31 = .ok (.iadd, 1) := by decide +kernel
theorem dX0_removePhrase_32 : decode cX0_removePhrase 32 = .ok (.bipush 24, 2) := by decide +kernel
theorem dX0_removePhrase_34 : decode cX0_removePhrase 34 = .ok (.imul, 1) := by decide +kernel
theorem dX0_removePhrase_35 : decode cX0_removePhrase 35 = .ok (.aload_n 0, 1) := by decide +kernel
theorem dX0_removePhrase_36 : decode cX0_removePhrase 36 = .ok (.getfield 31, 3) := by decide +kernel
theorem dX0_removePhrase_39 : decode cX0_removePhrase 39 = .ok (.iload_n 1, 1) := by decide +kernel
theorem dX0_removePhrase_40 : decode cX0_removePhrase 40 = .ok (.bipush 24, 2) := by decide +kernel
theorem dX0_removePhrase_42 : decode cX0_removePhrase 42 = .ok (.imul, 1) := by decide +kernel
theorem dX0_removePhrase_43 : decode cX0_removePhrase 43 = .ok (.iload_n 2, 1) := by decide +kernel
theorem dX0_removePhrase_44 : decode cX0_removePhrase 44 = .ok (.bipush 24, 2) := by decide +kernel
theorem dX0_removePhrase_46 : decode cX0_removePhrase 46 = .ok (.imul, 1) := by decide +kernel
theorem dX0_removePhrase_47 : decode cX0_removePhrase 47 = .ok (.invokestatic 49, 3) := by decide +kernel
theorem dX0_removePhrase_50 : decode cX0_removePhrase 50 = .ok (.aload_n 0, 1) := by decide +kernel
theorem dX0_removePhrase_51 : decode cX0_removePhrase 51 = .ok (.dup, 1) := by decide +kernel
theorem dX0_removePhrase_52 : decode cX0_removePhrase 52 = .ok (.getfield 25, 3) := by decide +kernel
theorem dX0_removePhrase_55 : decode cX0_removePhrase 55 = .ok (.iconst 1, 1) := by decide +kernel
theorem dX0_removePhrase_56 : decode cX0_removePhrase 56 = .ok (.isub, 1) := by decide +kernel
theorem dX0_removePhrase_57 : decode cX0_removePhrase 57 = .ok (.putfield 25, 3) := by decide +kernel
theorem dX0_removePhrase_60 : decode cX0_removePhrase 60 = .ok (.aload_n 0, 1) := by decide +kernel
theorem dX0_removePhrase_61 : decode cX0_removePhrase 61 = .ok (.aload_n 0, 1) := by decide +kernel
theorem dX0_removePhrase_62 : decode cX0_removePhrase 62 = .ok (.getfield 43, 3) := by decide +kernel
theorem dX0_removePhrase_65 : decode cX0_removePhrase 65 = .ok (.aload_n 0, 1) := by decide +kernel
theorem dX0_removePhrase_66 : decode cX0_removePhrase 66 = .ok (.getfield 40, 3) := by decide +kernel
theorem dX0_removePhrase_69 : decode cX0_removePhrase 69 = .ok (.iload_n 1, 1) := by decide +kernel
theorem dX0_removePhrase_70 : decode cX0_removePhrase 70 = .ok (.invokestatic 78, 3) := by decide +kernel
theorem dX0_removePhrase_73 : decode cX0_removePhrase 73 = .ok (.putfield 40, 3) := by decide +kernel
theorem dX0_removePhrase_76 : decode cX0_removePhrase 76 = .ok (.return_, 1) := by decide +kernel
theorem dX0_withoutNumber_0 : decode cX0_withoutNumber 0 = .ok (.iconst 0, 1) := by decide +kernel
theorem dX0_withoutNumber_1 : decode cX0_withoutNumber 1 = .ok (.istore_n 3, 1) := by decide +kernel
theorem dX0_withoutNumber_2 : decode cX0_withoutNumber 2 = .ok (.iconst 0, 1) := by decide +kernel
theorem dX0_withoutNumber_3 : decode cX0_withoutNumber 3 = .ok (.istore 4, 2) := by decide +kernel
theorem dX0_withoutNumber_5 : decode cX0_withoutNumber 5 = .ok (.iload 4, 2) := by decide +kernel
theorem dX0_withoutNumber_7 : decode cX0_withoutNumber 7 = .ok (.iload_n 1, 1) := by decide +kernel
theorem dX0_withoutNumber_8 : decode cX0_withoutNumber 8 = .ok (.if_icmp .ge 44, 3) := by decide +kernel
theorem dX0_withoutNumber_11 : decode cX0_withoutNumber 11 = .ok (.aload_n 0, 1) := by decide +kernel
theorem dX0_withoutNumber_12 : decode cX0_withoutNumber 12 = .ok (.iload 4, 2) := by decide +kernel
theorem dX0_withoutNumber_14 : decode cX0_withoutNumber 14 = .ok (.iaload, 1) := by decide +kernel
theorem dX0_withoutNumber_15 : decode cX0_withoutNumber 15 = .ok (.iload_n 2, 1) := by decide +kernel
theorem dX0_withoutNumber_16 : decode cX0_withoutNumber 16 = .ok (.if_icmp .eq 30, 3) := by decide +kernel
theorem dX0_withoutNumber_19 : decode cX0_withoutNumber 19 = .ok (.aload_n 0, 1) := by decide +kernel
theorem dX0_withoutNumber_20 : decode cX0_withoutNumber 20 = .ok (.iload_n 3, 1) := by decide +kernel
theorem dX0_withoutNumber_21 : decode cX0_withoutNumber 21 = .ok (.aload_n 0, 1) := by decide +kernel
theorem dX0_withoutNumber_22 : decode cX0_withoutNumber 22 = .ok (.iload 4, 2) := by decide +kernel
theorem dX0_withoutNumber_24 : decode cX0_withoutNumber 24 = .ok (.iaload, 1) := by decide +kernel
theorem dX0_withoutNumber_25 : decode cX0_withoutNumber 25 = .ok (.iload_n 2, 1) := by decide +kernel
theorem dX0_withoutNumber_26 : decode cX0_withoutNumber 26 = .ok (.if_icmp .le 12, 3) := by decide +kernel
theorem dX0_withoutNumber_29 : decode cX0_withoutNumber 29 = .ok (.aload_n 0, 1) := by decide +kernel
theorem dX0_withoutNumber_30 : decode cX0_withoutNumber 30 = .ok (.iload 4, 2) := by decide +kernel
theorem dX0_withoutNumber_32 : decode cX0_withoutNumber 32 = .ok (.iaload, 1) := by decide +kernel
theorem dX0_withoutNumber_33 : decode cX0_withoutNumber 33 = .ok (.iconst 1, 1) := by decide +kernel
theorem dX0_withoutNumber_34 : decode cX0_withoutNumber 34 = .ok (.isub, 1) := by decide +kernel
theorem dX0_withoutNumber_35 : decode cX0_withoutNumber 35 = .ok (.goto 7, 3) := by decide +kernel
theorem dX0_withoutNumber_38 : decode cX0_withoutNumber 38 = .ok (.aload_n 0, 1) := by decide +kernel
theorem dX0_withoutNumber_39 : decode cX0_withoutNumber 39 = .ok (.iload 4, 2) := by decide +kernel
theorem dX0_withoutNumber_41 : decode cX0_withoutNumber 41 = .ok (.iaload, 1) := by decide +kernel
theorem dX0_withoutNumber_42 : decode cX0_withoutNumber 42 = .ok (.iastore, 1) := by decide +kernel
theorem dX0_withoutNumber_43 : decode cX0_withoutNumber 43 = .ok (.iinc 3 1, 3) := by decide +kernel
theorem dX0_withoutNumber_46 : decode cX0_withoutNumber 46 = .ok (.iinc 4 1, 3) := by decide +kernel
theorem dX0_withoutNumber_49 : decode cX0_withoutNumber 49 = .ok (.goto (-44), 3) := by decide +kernel
theorem dX0_withoutNumber_52 : decode cX0_withoutNumber 52 = .ok (.iload_n 3, 1) := by decide +kernel
theorem dX0_withoutNumber_53 : decode cX0_withoutNumber 53 = .ok (.ireturn, 1) := by decide +kernel
theorem dX0_addToBallad_0 : decode cX0_addToBallad 0 = .ok (.aload_n 0, 1) := by decide +kernel
theorem dX0_addToBallad_1 : decode cX0_addToBallad 1 = .ok (.getfield 34, 3) := by decide +kernel
theorem dX0_addToBallad_4 : decode cX0_addToBallad 4 = .ok (.bipush 40, 2) := by decide +kernel
theorem dX0_addToBallad_6 : decode cX0_addToBallad 6 = .ok (.if_icmp .ge 23, 3) := by decide +kernel
theorem dX0_addToBallad_9 : decode cX0_addToBallad 9 = .ok (.aload_n 0, 1) := by decide +kernel
theorem dX0_addToBallad_10 : decode cX0_addToBallad 10 = .ok (.getfield 37, 3) := by decide +kernel
theorem dX0_addToBallad_13 : decode cX0_addToBallad 13 = .ok (.aload_n 0, 1) := by decide +kernel
theorem dX0_addToBallad_14 : decode cX0_addToBallad 14 = .ok (.getfield 34, 3) := by decide +kernel
theorem dX0_addToBallad_17 : decode cX0_addToBallad 17 = .ok (.iload_n 1, 1) := by decide +kernel
theorem dX0_addToBallad_18 : decode cX0_addToBallad 18 = .ok (.iastore, 1) := by decide +kernel
theorem dX0_addToBallad_19 : decode cX0_addToBallad 19 = .ok (.aload_n 0, 1) := by decide +kernel
theorem dX0_addToBallad_20 : decode cX0_addToBallad 20 = .ok (.dup, 1) := by decide +kernel
theorem dX0_addToBallad_21 : decode cX0_addToBallad 21 = .ok (.getfield 34, 3) := by decide +kernel
theorem dX0_addToBallad_24 : decode cX0_addToBallad 24 = .ok (.iconst 1, 1) := by decide +kernel
theorem dX0_addToBallad_25 : decode cX0_addToBallad 25 = .ok (.iadd, 1) := by decide +kernel
theorem dX0_addToBallad_26 : decode cX0_addToBallad 26 = .ok (.putfield 34, 3) := by decide +kernel
theorem dX0_addToBallad_29 : decode cX0_addToBallad 29 = .ok (.return_, 1) := by decide +kernel
theorem dX0_addToTune_0 : decode cX0_addToTune 0 = .ok (.aload_n 0, 1) := by decide +kernel
theorem dX0_addToTune_1 : decode cX0_addToTune 1 = .ok (.getfield 40, 3) := by decide +kernel
theorem dX0_addToTune_4 : decode cX0_addToTune 4 = .ok (.bipush 8, 2) := by decide +kernel
theorem dX0_addToTune_6 : decode cX0_addToTune 6 = .ok (.if_icmp .ge 23, 3) := by decide +kernel
theorem dX0_addToTune_9 : decode cX0_addToTune 9 = .ok (.aload_n 0, 1) := by decide +kernel
theorem dX0_addToTune_10 : decode cX0_addToTune 10 = .ok (.getfield 43, 3) := by decide +kernel
theorem dX0_addToTune_13 : decode cX0_addToTune 13 = .ok (.aload_n 0, 1) := by decide +kernel
theorem dX0_addToTune_14 : decode cX0_addToTune 14 = .ok (.getfield 40, 3) := by decide +kernel
theorem dX0_addToTune_17 : decode cX0_addToTune 17 = .ok (.iload_n 1, 1) := by decide +kernel
theorem dX0_addToTune_18 : decode cX0_addToTune 18 = .ok (.iastore, 1) := by decide +kernel
theorem dX0_addToTune_19 : decode cX0_addToTune 19 = .ok (.aload_n 0, 1) := by decide +kernel
theorem dX0_addToTune_20 : decode cX0_addToTune 20 = .ok (.dup, 1) := by decide +kernel
theorem dX0_addToTune_21 : decode cX0_addToTune 21 = .ok (.getfield 40, 3) := by decide +kernel
theorem dX0_addToTune_24 : decode cX0_addToTune 24 = .ok (.iconst 1, 1) := by decide +kernel
theorem dX0_addToTune_25 : decode cX0_addToTune 25 = .ok (.iadd, 1) := by decide +kernel
theorem dX0_addToTune_26 : decode cX0_addToTune 26 = .ok (.putfield 40, 3) := by decide +kernel
theorem dX0_addToTune_29 : decode cX0_addToTune 29 = .ok (.return_, 1) := by decide +kernel
theorem dX0_timesSung_0 : decode cX0_timesSung 0 = .ok (.aload_n 0, 1) := by decide +kernel
theorem dX0_timesSung_1 : decode cX0_timesSung 1 = .ok (.getfield 37, 3) := by decide +kernel
theorem dX0_timesSung_4 : decode cX0_timesSung 4 = .ok (.aload_n 0, 1) := by decide +kernel
theorem dX0_timesSung_5 : decode cX0_timesSung 5 = .ok (.getfield 34, 3) := by decide +kernel
theorem dX0_timesSung_8 : decode cX0_timesSung 8 = .ok (.iload_n 1, 1) := by decide +kernel
theorem dX0_timesSung_9 : decode cX0_timesSung 9 = .ok (.invokestatic 82, 3) := by decide +kernel
theorem dX0_timesSung_12 : decode cX0_timesSung 12 = .ok (.ireturn, 1) := by decide +kernel
theorem dX0_timesPlayed_0 : decode cX0_timesPlayed 0 = .ok (.aload_n 0, 1) := by decide +kernel
theorem dX0_timesPlayed_1 : decode cX0_timesPlayed 1 = .ok (.getfield 43, 3) := by decide +kernel
theorem dX0_timesPlayed_4 : decode cX0_timesPlayed 4 = .ok (.aload_n 0, 1) := by decide +kernel
theorem dX0_timesPlayed_5 : decode cX0_timesPlayed 5 = .ok (.getfield 40, 3) := by decide +kernel
theorem dX0_timesPlayed_8 : decode cX0_timesPlayed 8 = .ok (.iload_n 1, 1) := by decide +kernel
theorem dX0_timesPlayed_9 : decode cX0_timesPlayed 9 = .ok (.invokestatic 82, 3) := by decide +kernel
theorem dX0_timesPlayed_12 : decode cX0_timesPlayed 12 = .ok (.ireturn, 1) := by decide +kernel
theorem dX0_timesIn_0 : decode cX0_timesIn 0 = .ok (.iconst 0, 1) := by decide +kernel
theorem dX0_timesIn_1 : decode cX0_timesIn 1 = .ok (.istore_n 3, 1) := by decide +kernel
theorem dX0_timesIn_2 : decode cX0_timesIn 2 = .ok (.iconst 0, 1) := by decide +kernel
theorem dX0_timesIn_3 : decode cX0_timesIn 3 = .ok (.istore 4, 2) := by decide +kernel
theorem dX0_timesIn_5 : decode cX0_timesIn 5 = .ok (.iload 4, 2) := by decide +kernel
theorem dX0_timesIn_7 : decode cX0_timesIn 7 = .ok (.iload_n 1, 1) := by decide +kernel
theorem dX0_timesIn_8 : decode cX0_timesIn 8 = .ok (.if_icmp .ge 20, 3) := by decide +kernel
theorem dX0_timesIn_11 : decode cX0_timesIn 11 = .ok (.aload_n 0, 1) := by decide +kernel
theorem dX0_timesIn_12 : decode cX0_timesIn 12 = .ok (.iload 4, 2) := by decide +kernel
theorem dX0_timesIn_14 : decode cX0_timesIn 14 = .ok (.iaload, 1) := by decide +kernel
theorem dX0_timesIn_15 : decode cX0_timesIn 15 = .ok (.iload_n 2, 1) := by decide +kernel
theorem dX0_timesIn_16 : decode cX0_timesIn 16 = .ok (.if_icmp .ne 6, 3) := by decide +kernel
theorem dX0_timesIn_19 : decode cX0_timesIn 19 = .ok (.iinc 3 1, 3) := by decide +kernel
theorem dX0_timesIn_22 : decode cX0_timesIn 22 = .ok (.iinc 4 1, 3) := by decide +kernel
theorem dX0_timesIn_25 : decode cX0_timesIn 25 = .ok (.goto (-20), 3) := by decide +kernel
theorem dX0_timesIn_28 : decode cX0_timesIn 28 = .ok (.iload_n 3, 1) := by decide +kernel
theorem dX0_timesIn_29 : decode cX0_timesIn 29 = .ok (.ireturn, 1) := by decide +kernel
theorem dX0_burdens_0 : decode cX0_burdens 0 = .ok (.iconst 0, 1) := by decide +kernel
theorem dX0_burdens_1 : decode cX0_burdens 1 = .ok (.istore_n 1, 1) := by decide +kernel
theorem dX0_burdens_2 : decode cX0_burdens 2 = .ok (.iconst 0, 1) := by decide +kernel
theorem dX0_burdens_3 : decode cX0_burdens 3 = .ok (.istore_n 2, 1) := by decide +kernel
theorem dX0_burdens_4 : decode cX0_burdens 4 = .ok (.iload_n 2, 1) := by decide +kernel
theorem dX0_burdens_5 : decode cX0_burdens 5 = .ok (.aload_n 0, 1) := by decide +kernel
theorem dX0_burdens_6 : decode cX0_burdens 6 = .ok (.getfield 15, 3) := by decide +kernel
theorem dX0_burdens_9 : decode cX0_burdens 9 = .ok (.if_icmp .ge 21, 3) := by decide +kernel
theorem dX0_burdens_12 : decode cX0_burdens 12 = .ok (.aload_n 0, 1) := by decide +kernel
theorem dX0_burdens_13 : decode cX0_burdens 13 = .ok (.iload_n 2, 1) := by decide +kernel
theorem dX0_burdens_14 : decode cX0_burdens 14 = .ok (.invokevirtual 85, 3) := by decide +kernel
theorem dX0_burdens_17 : decode cX0_burdens 17 = .ok (.iconst 2, 1) := by decide +kernel
theorem dX0_burdens_18 : decode cX0_burdens 18 = .ok (.if_icmp .lt 6, 3) := by decide +kernel
theorem dX0_burdens_21 : decode cX0_burdens 21 = .ok (.iinc 1 1, 3) := by decide +kernel
theorem dX0_burdens_24 : decode cX0_burdens 24 = .ok (.iinc 2 1, 3) := by decide +kernel
theorem dX0_burdens_27 : decode cX0_burdens 27 = .ok (.goto (-23), 3) := by decide +kernel
theorem dX0_burdens_30 : decode cX0_burdens 30 = .ok (.iload_n 1, 1) := by decide +kernel
theorem dX0_burdens_31 : decode cX0_burdens 31 = .ok (.ireturn, 1) := by decide +kernel
theorem dX0_stressedOf_0 : decode cX0_stressedOf 0 = .ok (.iconst 0, 1) := by decide +kernel
theorem dX0_stressedOf_1 : decode cX0_stressedOf 1 = .ok (.istore_n 2, 1) := by decide +kernel
theorem dX0_stressedOf_2 : decode cX0_stressedOf 2 = .ok (.iconst 0, 1) := by decide +kernel
theorem dX0_stressedOf_3 : decode cX0_stressedOf 3 = .ok (.istore_n 3, 1) := by decide +kernel
theorem dX0_stressedOf_4 : decode cX0_stressedOf 4 = .ok (.iload_n 3, 1) := by decide +kernel
theorem dX0_stressedOf_5 : decode cX0_stressedOf 5 = .ok (.aload_n 0, 1) := by decide +kernel
theorem dX0_stressedOf_6 : decode cX0_stressedOf 6 = .ok (.getfield 19, 3) := by decide +kernel
theorem dX0_stressedOf_9 : decode cX0_stressedOf 9 = .ok (.iload_n 1, 1) := by decide +kernel
theorem dX0_stressedOf_10 : decode cX0_stressedOf 10 = .ok (.iaload, 1) := by decide +kernel
theorem dX0_stressedOf_11 : decode cX0_stressedOf 11 = .ok (.if_icmp .ge 23, 3) := by decide +kernel
theorem dX0_stressedOf_14 : decode cX0_stressedOf 14 = .ok (.iload_n 2, 1) := by decide +kernel
theorem dX0_stressedOf_15 : decode cX0_stressedOf 15 = .ok (.aload_n 0, 1) := by decide +kernel
theorem dX0_stressedOf_16 : decode cX0_stressedOf 16 = .ok (.getfield 22, 3) := by decide +kernel
theorem dX0_stressedOf_19 : decode cX0_stressedOf 19 = .ok (.iload_n 1, 1) := by decide +kernel
theorem dX0_stressedOf_20 : decode cX0_stressedOf 20 = .ok (.bipush 16, 2) := by decide +kernel
theorem dX0_stressedOf_22 : decode cX0_stressedOf 22 = .ok (.imul, 1) := by decide +kernel
theorem dX0_stressedOf_23 : decode cX0_stressedOf 23 = .ok (.iload_n 3, 1) := by decide +kernel
theorem dX0_stressedOf_24 : decode cX0_stressedOf 24 = .ok (.iadd, 1) := by decide +kernel
theorem dX0_stressedOf_25 : decode cX0_stressedOf 25 = .ok (.iaload, 1) := by decide +kernel
theorem dX0_stressedOf_26 : decode cX0_stressedOf 26 = .ok (.iadd, 1) := by decide +kernel
theorem dX0_stressedOf_27 : decode cX0_stressedOf 27 = .ok (.istore_n 2, 1) := by decide +kernel
theorem dX0_stressedOf_28 : decode cX0_stressedOf 28 = .ok (.iinc 3 1, 3) := by decide +kernel
theorem dX0_stressedOf_31 : decode cX0_stressedOf 31 = .ok (.goto (-27), 3) := by decide +kernel
theorem dX0_stressedOf_34 : decode cX0_stressedOf 34 = .ok (.iload_n 2, 1) := by decide +kernel
theorem dX0_stressedOf_35 : decode cX0_stressedOf 35 = .ok (.ireturn, 1) := by decide +kernel
theorem dX0_beatsOfKind_0 : decode cX0_beatsOfKind 0 = .ok (.iconst 0, 1) := by decide +kernel
theorem dX0_beatsOfKind_1 : decode cX0_beatsOfKind 1 = .ok (.istore_n 3, 1) := by decide +kernel
theorem dX0_beatsOfKind_2 : decode cX0_beatsOfKind 2 = .ok (.iconst 0, 1) := by decide +kernel
theorem dX0_beatsOfKind_3 : decode cX0_beatsOfKind 3 = .ok (.istore 4, 2) := by decide +kernel
theorem dX0_beatsOfKind_5 : decode cX0_beatsOfKind 5 = .ok (.iload 4, 2) := by decide +kernel
theorem dX0_beatsOfKind_7 : decode cX0_beatsOfKind 7 = .ok (.aload_n 0, 1) := by decide +kernel
theorem dX0_beatsOfKind_8 : decode cX0_beatsOfKind 8 = .ok (.getfield 28, 3) := by decide +kernel
theorem dX0_beatsOfKind_11 : decode cX0_beatsOfKind 11 = .ok (.iload_n 1, 1) := by decide +kernel
theorem dX0_beatsOfKind_12 : decode cX0_beatsOfKind 12 = .ok (.iaload, 1) := by decide +kernel
theorem dX0_beatsOfKind_13 : decode cX0_beatsOfKind 13 = .ok (.if_icmp .ge 28, 3) := by decide +kernel
theorem dX0_beatsOfKind_16 : decode cX0_beatsOfKind 16 = .ok (.aload_n 0, 1) := by decide +kernel
theorem dX0_beatsOfKind_17 : decode cX0_beatsOfKind 17 = .ok (.getfield 31, 3) := by decide +kernel
theorem dX0_beatsOfKind_20 : decode cX0_beatsOfKind 20 = .ok (.iload_n 1, 1) := by decide +kernel
theorem dX0_beatsOfKind_21 : decode cX0_beatsOfKind 21 = .ok (.bipush 24, 2) := by decide +kernel
theorem dX0_beatsOfKind_23 : decode cX0_beatsOfKind 23 = .ok (.imul, 1) := by decide +kernel
theorem dX0_beatsOfKind_24 : decode cX0_beatsOfKind 24 = .ok (.iload 4, 2) := by decide +kernel
theorem dX0_beatsOfKind_26 : decode cX0_beatsOfKind 26 = .ok (.iadd, 1) := by decide +kernel
theorem dX0_beatsOfKind_27 : decode cX0_beatsOfKind 27 = .ok (.iaload, 1) := by decide +kernel
theorem dX0_beatsOfKind_28 : decode cX0_beatsOfKind 28 = .ok (.iload_n 2, 1) := by decide +kernel
theorem dX0_beatsOfKind_29 : decode cX0_beatsOfKind 29 = .ok (.if_icmp .ne 6, 3) := by decide +kernel
theorem dX0_beatsOfKind_32 : decode cX0_beatsOfKind 32 = .ok (.iinc 3 1, 3) := by decide +kernel
theorem dX0_beatsOfKind_35 : decode cX0_beatsOfKind 35 = .ok (.iinc 4 1, 3) := by decide +kernel
theorem dX0_beatsOfKind_38 : decode cX0_beatsOfKind 38 = .ok (.goto (-33), 3) := by decide +kernel
theorem dX0_beatsOfKind_41 : decode cX0_beatsOfKind 41 = .ok (.iload_n 3, 1) := by decide +kernel
theorem dX0_beatsOfKind_42 : decode cX0_beatsOfKind 42 = .ok (.ireturn, 1) := by decide +kernel
theorem dX0_longestRow_0 : decode cX0_longestRow 0 = .ok (.iconst 0, 1) := by decide +kernel
theorem dX0_longestRow_1 : decode cX0_longestRow 1 = .ok (.istore_n 2, 1) := by decide +kernel
theorem dX0_longestRow_2 : decode cX0_longestRow 2 = .ok (.iconst 0, 1) := by decide +kernel
theorem dX0_longestRow_3 : decode cX0_longestRow 3 = .ok (.istore_n 3, 1) := by decide +kernel
theorem dX0_longestRow_4 : decode cX0_longestRow 4 = .ok (.iconst 0, 1) := by decide +kernel
theorem dX0_longestRow_5 : decode cX0_longestRow 5 = .ok (.istore 4, 2) := by decide +kernel
theorem dX0_longestRow_7 : decode cX0_longestRow 7 = .ok (.iload 4, 2) := by decide +kernel
theorem dX0_longestRow_9 : decode cX0_longestRow 9 = .ok (.aload_n 0, 1) := by decide +kernel
theorem dX0_longestRow_10 : decode cX0_longestRow 10 = .ok (.getfield 28, 3) := by decide +kernel
theorem dX0_longestRow_13 : decode cX0_longestRow 13 = .ok (.iload_n 1, 1) := by decide +kernel
theorem dX0_longestRow_14 : decode cX0_longestRow 14 = .ok (.iaload, 1) := by decide +kernel
theorem dX0_longestRow_15 : decode cX0_longestRow 15 = .ok (.if_icmp .ge 38, 3) := by decide +kernel
theorem dX0_longestRow_18 : decode cX0_longestRow 18 = .ok (.aload_n 0, 1) := by decide +kernel
theorem dX0_longestRow_19 : decode cX0_longestRow 19 = .ok (.getfield 31, 3) := by decide +kernel
theorem dX0_longestRow_22 : decode cX0_longestRow 22 = .ok (.iload_n 1, 1) := by decide +kernel
theorem dX0_longestRow_23 : decode cX0_longestRow 23 = .ok (.bipush 24, 2) := by decide +kernel
theorem dX0_longestRow_25 : decode cX0_longestRow 25 = .ok (.imul, 1) := by decide +kernel
theorem dX0_longestRow_26 : decode cX0_longestRow 26 = .ok (.iload 4, 2) := by decide +kernel
theorem dX0_longestRow_28 : decode cX0_longestRow 28 = .ok (.iadd, 1) := by decide +kernel
theorem dX0_longestRow_29 : decode cX0_longestRow 29 = .ok (.iaload, 1) := by decide +kernel
theorem dX0_longestRow_30 : decode cX0_longestRow 30 = .ok (.ifCond .ne 7, 3) := by decide +kernel
theorem dX0_longestRow_33 : decode cX0_longestRow 33 = .ok (.iconst 0, 1) := by decide +kernel
theorem dX0_longestRow_34 : decode cX0_longestRow 34 = .ok (.goto 6, 3) := by decide +kernel
theorem dX0_longestRow_37 : decode cX0_longestRow 37 = .ok (.iload_n 3, 1) := by decide +kernel
theorem dX0_longestRow_38 : decode cX0_longestRow 38 = .ok (.iconst 1, 1) := by decide +kernel
theorem dX0_longestRow_39 : decode cX0_longestRow 39 = .ok (.iadd, 1) := by decide +kernel
theorem dX0_longestRow_40 : decode cX0_longestRow 40 = .ok (.istore_n 3, 1) := by decide +kernel
theorem dX0_longestRow_41 : decode cX0_longestRow 41 = .ok (.iload_n 2, 1) := by decide +kernel
theorem dX0_longestRow_42 : decode cX0_longestRow 42 = .ok (.iload_n 3, 1) := by decide +kernel
theorem dX0_longestRow_43 : decode cX0_longestRow 43 = .ok (.invokestatic 89, 3) := by decide +kernel
theorem dX0_longestRow_46 : decode cX0_longestRow 46 = .ok (.istore_n 2, 1) := by decide +kernel
theorem dX0_longestRow_47 : decode cX0_longestRow 47 = .ok (.iinc 4 1, 3) := by decide +kernel
theorem dX0_longestRow_50 : decode cX0_longestRow 50 = .ok (.goto (-43), 3) := by decide +kernel
theorem dX0_longestRow_53 : decode cX0_longestRow 53 = .ok (.iload_n 2, 1) := by decide +kernel
theorem dX0_longestRow_54 : decode cX0_longestRow 54 = .ok (.ireturn, 1) := by decide +kernel
end
section
/-! A SMALL MACHINE OVER ONE WORLD: cells by their places, all numbers as Int, one memory of numbers -/
abbrev tu_v : Type := Int ⊕ (Nat ⊕ Nat)
abbrev tu_i (z : Int) : tu_v := .inl z
abbrev tu_r (i : Nat) : tu_v := .inr (.inl i)
abbrev tu_l (u : Nat) : tu_v := .inr (.inr u)
def tu_J (z : Int) : Int32 := Int32.ofInt z
def tu_K (u : Nat) : Int64 := Int64.ofNat u
def tu_vl (ad : Nat → Nat) (v : tu_v) : Value := match v with
  | .inl z => .int (tu_J z)
  | .inr (.inl i) => .ref (ad i)
  | .inr (.inr u) => .long (tu_K u)
abbrev tu_M : Type := Nat → Nat → Int
def tu_row (M : tu_M) (i : Nat) (f : Nat → Int) : tu_M := fun a => bif Nat.beq a i then f else M a
def tu_u (f : Nat → Int) (k : Nat) (x : Int) : Nat → Int := fun j => bif Nat.beq j k then x else f j
theorem tu_bf {a b : Nat} (h : a ≠ b) : Nat.beq a b = false := by
  cases e : Nat.beq a b
  · rfl
  · exact absurd (Nat.eq_of_beq_eq_true e) h
theorem tu_row_s (M : tu_M) (i : Nat) (f : Nat → Int) : tu_row M i f i = f := by simp [tu_row]
theorem tu_row_n (M : tu_M) {i a : Nat} (f : Nat → Int) (h : a ≠ i) : tu_row M i f a = M a := by
  have e : Nat.beq a i = false := tu_bf h
  simp [tu_row, e]
theorem tu_u_s (f : Nat → Int) (k : Nat) (x : Int) : tu_u f k x k = x := by simp [tu_u]
theorem tu_u_n (f : Nat → Int) {k j : Nat} (x : Int) (h : j ≠ k) : tu_u f k x j = f j := by
  have e : Nat.beq j k = false := tu_bf h
  simp [tu_u, e]
theorem tu_u_if (f : Nat → Int) (k j : Nat) (x : Int) : tu_u f k x j = if j = k then x else f j := by
  by_cases h : j = k
  · subst h; simp [tu_u_s]
  · simp [tu_u_n f x h, h]
theorem tu_rr (M : tu_M) (i : Nat) (f g : Nat → Int) : tu_row (tu_row M i f) i g = tu_row M i g := by
  funext a
  by_cases h : a = i
  · subst h; simp [tu_row_s]
  · simp [tu_row_n _ _ h]
theorem tu_rc (M : tu_M) {i j : Nat} (f g : Nat → Int) (h : Nat.beq i j = false) : tu_row (tu_row M i f) j g = tu_row (tu_row M j g) i f := by
  have h : i ≠ j := fun e => by subst e; simp at h
  funext a
  by_cases h1 : a = i
  · subst h1; rw [tu_row_n _ _ h, tu_row_s, tu_row_s]
  · by_cases h2 : a = j
    · subst h2; rw [tu_row_s, tu_row_n _ _ h1, tu_row_s]
    · rw [tu_row_n _ _ h2, tu_row_n _ _ h1, tu_row_n _ _ h1, tu_row_n _ _ h2]
theorem tu_rx (M : tu_M) (i : Nat) : tu_row M i (M i) = M := by
  funext a
  by_cases h : a = i
  · subst h; rw [tu_row_s]
  · rw [tu_row_n _ _ h]
/-! numbers -/
def tu_rg (z : Int) : Prop := -2147483648 ≤ z ∧ z ≤ 2147483647
theorem tu_J_i {z : Int} (h : tu_rg z) : (tu_J z).toInt = z := by
  have h1 := h.1; have h2 := h.2
  exact Int32.toInt_ofInt_of_le (by simpa using h1) (by have e : (2:Int)^31 = 2147483648 := by decide
                                                        omega)
theorem tu_J_t (x : Int32) : tu_J x.toInt = x := by unfold tu_J; exact Int32.ofInt_toInt x
theorem tu_J_add (a b : Int) : tu_J (a + b) = tu_J a + tu_J b := Int32.ofInt_add ..
theorem tu_J_sub (a b : Int) : tu_J (a - b) = tu_J a - tu_J b := Int32.ofInt_sub ..
theorem tu_J_mul (a b : Int) : tu_J (a * b) = tu_J a * tu_J b := Int32.ofInt_mul ..
theorem tu_J_lt {a b : Int} (ha : tu_rg a) (hb : tu_rg b) : tu_J a < tu_J b ↔ a < b := by rw [Int32.lt_iff_toInt_lt, tu_J_i ha, tu_J_i hb]
theorem tu_J_le {a b : Int} (ha : tu_rg a) (hb : tu_rg b) : tu_J a ≤ tu_J b ↔ a ≤ b := by rw [Int32.le_iff_toInt_le, tu_J_i ha, tu_J_i hb]
theorem tu_J_eq {a b : Int} (ha : tu_rg a) (hb : tu_rg b) : tu_J a = tu_J b ↔ a = b := by
  rw [← Int32.toInt_inj, tu_J_i ha, tu_J_i hb]
theorem tu_rg_t (x : Int32) : tu_rg x.toInt := ⟨by have := Int32.le_toInt x; simpa using this, by have := Int32.toInt_lt x; have e : (2:Int)^31 = 2147483648 := by decide
                                                                                                  omega⟩
theorem tu_J_n {n : Nat} : tu_J (n : Int) = nI n := by
  apply Int32.toBitVec_inj.mp
  simp [tu_J, nI]
theorem tu_in {j : Int} {k n : Nat} (hj : j = (k : Int)) (hk : k < n) (hn : n < 2147483648) : vp_in (tu_J j) n := by
  subst hj; rw [tu_J_n]; exact vp_in_nI hk (by omega)
theorem tu_cl {j : Int} {k n : Nat} (hj : j = (k : Int)) (hk : k < n) (hn : n < 2147483648) : (tu_J j).toNatClampNeg = k := by
  subst hj; rw [tu_J_n]; exact nI_clamp (by omega)
end
section
/-! the cells of the two objects, in the order in which they are made: kind (0 ints, 1 chars, 2 booleans, 3 books, 4 an object), length or class, fields -/
abbrev tu_S : Type := Nat × Nat × List (Option Nat)
def tu_bk (b : Nat) (f : Nat) : tu_S := match f with
  | 0 => (4, 0, [some (b+1), none, some (b+2), some (b+3), none, some (b+4), some (b+5), none, some (b+6), none, some (b+7)])
  | 1 => (0, 4, [])
  | 2 => (0, 16, [])
  | 3 => (0, 256, [])
  | 4 => (0, 8, [])
  | 5 => (0, 192, [])
  | 6 => (0, 40, [])
  | _ => (0, 8, [])
def tu_sh (i : Nat) : tu_S := match i with
  | 0 => (4, 3, [some 1, some 9, some 11, some 19, none, some 20, some 21])
  | 9 => (4, 2, [some 10, none])
  | 10 => (1, 60, [])
  | 11 => (4, 1, [none, none, none, none, none, none, some 12, some 13, some 14, some 15, some 16, some 17, some 18])
  | 12 => (0, 16, [])
  | 13 => (0, 24, [])
  | 14 => (0, 25, [])
  | 15 => (0, 425, [])
  | 16 => (0, 425, [])
  | 17 => (0, 16, [])
  | 18 => (0, 16, [])
  | 19 => (3, 6, [])
  | 20 => (3, 2, [])
  | 21 => (2, 2, [])
  | 86 => (4, 4, [some 87, some 88, none, some 89, some 90, some 91, none, some 92, some 93, some 94, none, none, none, none, none, none, some 95, some 96])
  | 87 => (0, 112, [])
  | 88 => (0, 672, [])
  | 89 => (0, 224, [])
  | 90 => (0, 2, [])
  | 91 => (0, 60, [])
  | 92 => (0, 425, [])
  | 93 => (0, 425, [])
  | 94 => (0, 425, [])
  | 95 => (0, 16, [])
  | 96 => (0, 16, [])
  | i => bif Nat.blt i 9 then tu_bk 1 (i - 1) else tu_bk (22 + 8 * ((i - 22) / 8)) ((i - 22) % 8)
def tu_B (b : Nat) : Prop := b = 1 ∨ ∃ k, k < 8 ∧ b = 22 + 8 * k
theorem tu_sh_bk {b f : Nat} (h : tu_B b) (hf : f < 8) : tu_sh (b + f) = tu_bk b f := by
  rcases h with rfl | ⟨k, hk, rfl⟩
  · rcases (show f = 0 ∨ f = 1 ∨ f = 2 ∨ f = 3 ∨ f = 4 ∨ f = 5 ∨ f = 6 ∨ f = 7 by omega) with rfl | rfl | rfl | rfl | rfl | rfl | rfl | rfl <;> rfl
  · rcases (show k = 0 ∨ k = 1 ∨ k = 2 ∨ k = 3 ∨ k = 4 ∨ k = 5 ∨ k = 6 ∨ k = 7 by omega) with rfl | rfl | rfl | rfl | rfl | rfl | rfl | rfl <;> rcases (show f = 0 ∨ f = 1 ∨ f = 2 ∨ f = 3 ∨ f = 4 ∨ f = 5 ∨ f = 6 ∨ f = 7 by omega) with rfl | rfl | rfl | rfl | rfl | rfl | rfl | rfl <;> rfl
theorem tu_B_lt {b f : Nat} (h : tu_B b) (hf : f < 8) : b + f < 97 := by
  rcases h with rfl | ⟨k, hk, rfl⟩ <;> omega
/-- the words of the tables that every state of a run keeps -/
def tu_tb : List Cond := lw_tbl.filter goodWord
theorem tu_tb_in {w : Cond} (i : Nat) (h : lw_tbl[i]? = some w) (hg : goodWord w = true) : w ∈ tu_tb := List.mem_filter.mpr ⟨List.mem_of_getElem? h, hg⟩
theorem tu_tb_good : ∀ w ∈ tu_tb, (w.onTables && w.keeps) = true ∨ ∃ ty, w = .arrayClass ty := fun w h => good_of_word (List.mem_filter.mp h).2
abbrev tu_G : Type := va_G × ClassId × ClassId × ClassId × ClassId
abbrev tu_cs : List vw_C := [(RX0, TX0, 11), (RX1, TX1, 13), (RX2, TX2, 2), (RX3, TX3, 7), (RX4, TX4, 18)]
abbrev tu_ty (g : tu_G) : List (ClassId × FieldType) := [(g.2.1, .int), (g.2.2.1, .char), (g.2.2.2.1, .boolean), (g.2.2.2.2, .object RX0)]
def tu_fv (ad : Nat → Nat) (row : Nat → Int) : Nat → List (Option Nat) → List Value
  | _, [] => []
  | k, none :: t => .int (tu_J (row k)) :: tu_fv ad row (k + 1) t
  | k, some j :: t => .ref (ad j) :: tu_fv ad row (k + 1) t
def tu_ce (g : tu_G) (ad : Nat → Nat) (row : Nat → Int) (s : tu_S) : va_E := match s with
  | (0, n, _) => .inl (g.2.1, n, .inl (fun j => tu_J (row j)))
  | (1, n, _) => .inl (g.2.2.1, n, .inl (fun j => tu_J (row j)))
  | (2, n, _) => .inl (g.2.2.2.1, n, .inl (fun j => tu_J (row j)))
  | (3, n, _) => .inl (g.2.2.2.2, n, .inr (.inr (.inr (.inr (fun j => some (ad (row j).toNat))))))
  | (_, c, fs) => .inr (c, tu_fv ad row 0 fs)
def tu_ws (g : tu_G) (ad : Nat → Nat) (M : tu_M) : va_W := (List.range 97).map fun i => (ad i, tu_ce g ad (M i) (tu_sh i))
theorem tu_ws_at {g : tu_G} {ad : Nat → Nat} {M : tu_M} {i : Nat} (h : i < 97) : (tu_ws g ad M)[i]? = some (ad i, tu_ce g ad (M i) (tu_sh i)) := by
  simp [tu_ws, h]
theorem tu_ws_set {g : tu_G} {ad : Nat → Nat} {M : tu_M} {i : Nat} (f : Nat → Int) {e : va_E} (he : tu_ce g ad f (tu_sh i) = e) : (tu_ws g ad M).set i (ad i, e) = tu_ws g ad (tu_row M i f) := by
  apply List.ext_getElem?
  intro j
  by_cases hj : j < 97
  · by_cases h : i = j
    · subst h
      rw [List.getElem?_set_self (by simp [tu_ws]; omega), tu_ws_at hj, tu_row_s, he]
    · rw [List.getElem?_set_ne h, tu_ws_at hj, tu_ws_at hj, tu_row_n _ _ (Ne.symm h)]
  · have h1 : ∀ M, (tu_ws g ad M)[j]? = none := fun M => by simp [tu_ws]; omega
    rw [h1]
    apply List.getElem?_eq_none
    simp [tu_ws]; omega
def tu_A (ad : Nat → Nat) : Nat → Prop := fun q => ∃ i, i < 97 ∧ q = ad i
def tu_inj (ad : Nat → Nat) : Prop := ∀ i j, i < 97 → j < 97 → ad i = ad j → i = j
theorem tu_D {g : tu_G} {ad : Nat → Nat} {M : tu_M} (h : tu_inj ad) : va_D (tu_A ad) (tu_ws g ad M) := by
  have lt : ∀ {i : Nat} {q : Nat × va_E}, (tu_ws g ad M)[i]? = some q → i < 97 := fun {i q} hq => by
    have := (List.getElem?_eq_some_iff.mp hq).1
    simpa [tu_ws] using this
  refine ⟨fun i j p q hi hj e => ?_, fun k q hk => ?_⟩
  · have a := lt hi; have b := lt hj
    rw [tu_ws_at a] at hi; rw [tu_ws_at b] at hj
    cases hi; cases hj
    exact h i j a b e
  · have a := lt hk
    rw [tu_ws_at a] at hk
    cases hk
    exact ⟨k, a, rfl⟩
theorem tu_fv_i {ad : Nat → Nat} {row : Nat → Int} : ∀ {fs : List (Option Nat)} {k j : Nat}, fs[k]? = some none → (tu_fv ad row j fs)[k]? = some (.int (tu_J (row (j + k))))
  | [], k, j, h => by simp at h
  | none :: t, 0, j, _ => rfl
  | some a :: t, 0, j, h => by cases h
  | none :: t, k + 1, j, h => by
    have := tu_fv_i (ad := ad) (row := row) (fs := t) (k := k) (j := j + 1) h
    simpa [tu_fv, Nat.add_assoc, Nat.add_comm 1 k] using this
  | some a :: t, k + 1, j, h => by
    have := tu_fv_i (ad := ad) (row := row) (fs := t) (k := k) (j := j + 1) h
    simpa [tu_fv, Nat.add_assoc, Nat.add_comm 1 k] using this
theorem tu_fv_r {ad : Nat → Nat} {row : Nat → Int} {r : Nat} : ∀ {fs : List (Option Nat)} {k j : Nat}, fs[k]? = some (some r) → (tu_fv ad row j fs)[k]? = some (.ref (ad r))
  | [], k, j, h => by simp at h
  | none :: t, 0, j, h => by cases h
  | some a :: t, 0, j, h => by cases h; rfl
  | none :: t, k + 1, j, h => by
    have := tu_fv_r (ad := ad) (row := row) (r := r) (fs := t) (k := k) (j := j + 1) h
    simpa [tu_fv] using this
  | some a :: t, k + 1, j, h => by
    have := tu_fv_r (ad := ad) (row := row) (r := r) (fs := t) (k := k) (j := j + 1) h
    simpa [tu_fv] using this
theorem tu_fv_n {ad : Nat → Nat} {row row' : Nat → Int} : ∀ {fs : List (Option Nat)} {j : Nat}, (∀ k, j ≤ k → row' k = row k) → tu_fv ad row' j fs = tu_fv ad row j fs
  | [], j, h => rfl
  | none :: t, j, h => by
    have := tu_fv_n (ad := ad) (row := row) (row' := row') (fs := t) (j := j + 1) (fun k hk => h k (by omega))
    simp [tu_fv, this, h j (Nat.le_refl _)]
  | some a :: t, j, h => by
    have := tu_fv_n (ad := ad) (row := row) (row' := row') (fs := t) (j := j + 1) (fun k hk => h k (by omega))
    simp [tu_fv, this]
theorem tu_fv_s {ad : Nat → Nat} {row : Nat → Int} {x : Int} : ∀ {fs : List (Option Nat)} {k j : Nat}, fs[k]? = some none → (tu_fv ad row j fs).set k (.int (tu_J x)) = tu_fv ad (tu_u row (j + k) x) j fs
  | [], k, j, h => by simp at h
  | none :: t, 0, j, _ => by
    have := tu_fv_n (ad := ad) (row := row) (row' := tu_u row j x) (fs := t) (j := j + 1) (fun k hk => tu_u_n _ _ (by omega))
    simp [tu_fv, this, tu_u_s]
  | some a :: t, 0, j, h => by cases h
  | none :: t, k + 1, j, h => by
    have := tu_fv_s (ad := ad) (row := row) (x := x) (fs := t) (k := k) (j := j + 1) h
    rw [show j + 1 + k = j + (k + 1) by omega] at this
    simp [tu_fv, this, tu_u_n row (k := j + (k + 1)) (j := j) x (by omega)]
  | some a :: t, k + 1, j, h => by
    have := tu_fv_s (ad := ad) (row := row) (x := x) (fs := t) (k := k) (j := j + 1) h
    rw [show j + 1 + k = j + (k + 1) by omega] at this
    simp [tu_fv, this]
theorem tu_fv_l {ad : Nat → Nat} {row : Nat → Int} : ∀ {fs : List (Option Nat)} {j : Nat}, (tu_fv ad row j fs).length = fs.length
  | [], j => rfl
  | none :: t, j => by simp [tu_fv, tu_fv_l (fs := t)]
  | some a :: t, j => by simp [tu_fv, tu_fv_l (fs := t)]
theorem tu_ju (f : Nat → Int) (k : Nat) (x : Int) : upd (fun j => tu_J (f j)) k (tu_J x) = fun j => tu_J (tu_u f k x j) := by
  funext j
  by_cases h : j = k
  · subst h; simp [upd, tu_u_s]
  · simp [upd, h, tu_u_n]
/-! the two tables of set -/
def tu_f1 (j : Nat) : Int := match j with
  | 0 => 1
  | _ => 0
def tu_f2 (j : Nat) : Int := match j with
  | 0 => 8
  | 1 => 9
  | 2 => 9
  | _ => 20
def tu_st (ad : Nat → Nat) (U : State) (H : Heap) : Prop :=
  (va_Z RX3 "LEAST_VALUES" "[I" (.ref (ad 97)) (tu_A ad) U H ∧ va_T .int (ad 97) 4 (fun j => .int (tu_J (tu_f1 j))) (tu_A ad) U H) ∧
  (va_Z RX3 "GREATEST_VALUES" "[I" (.ref (ad 98)) (tu_A ad) U H ∧ va_T .int (ad 98) 4 (fun j => .int (tu_J (tu_f2 j))) (tu_A ad) U H)
theorem tu_st.moved {ad : Nat → Nat} {u U : State} {H : Heap} (hvm : u.vm.Alike U.vm) (h : tu_st ad u H) : tu_st ad U H :=
  ⟨⟨h.1.1.moved hvm, h.1.2.moved hvm⟩, ⟨h.2.1.moved hvm, h.2.2.moved hvm⟩⟩
theorem tu_st.kept {ad : Nat → Nat} {U : State} {H H1 : Heap} (h : tu_st ad U H) (hq : ∀ a : Nat, a < H.size → ¬ tu_A ad a → H1[a]? = H[a]?) : tu_st ad U H1 :=
  ⟨⟨h.1.1.kept hq, h.1.2.kept hq⟩, ⟨h.2.1.kept hq, h.2.2.kept hq⟩⟩
/-- what holds of a state between the calls -/
def tu_Wo (g : tu_G) (ad : Nat → Nat) (M : tu_M) (U : State) : Prop := va_P g.1 tu_cs (tu_ws g ad M) U.heap ∧ va_K g.1 tu_cs (tu_ty g) U ∧ tu_inj ad ∧ tu_st ad U U.heap
abbrev tu_T : Type := Program × Launch × Env × Room × State × MethodId × Array Value × List Frame × Method × Code × Nat × tu_G × (Nat → Nat) × Nat × Nat × (State → Prop)
/-- the machine, at a place of the code, comes to a state with the goal: for every heap that holds the memory M -/
def tu_W (T : tu_T) (pc : Nat) (lv : List (Nat × tu_v)) (st : List tu_v) (M : tu_M) : Prop := match T with
  | (p, l, e, R, s, m, args, below, meth, c, nL, g, ad, kc, ks, Q) => ∀ (H : Heap) (locs : List Loc) (ls : Array Slot), va_P g.1 tu_cs (tu_ws g ad M) H → va_S (tu_A ad) s.heap H locs → lv_has ls nL (lv.map fun q => (q.1, tu_vl ad q.2)) → W p l e R s m args below meth c H locs kc ks Q (F0 m pc ls (st.map (tu_vl ad)))
/-- what stays all through a method -/
def tu_X (T : tu_T) (cc : ByteArray) (own : String) (fr lo : Nat) : Prop := match T with
  | (p, _, _, R, s, m, args, _, _, c, nL, g, ad, kc, ks, _) => p.tables.exec = Jvm.exec ∧ c.code = cc ∧ c.maxLocals = nL ∧ s.vm.findClass own = some m.cls ∧ (∀ w ∈ tu_tb, w.before args s = true) ∧ va_K g.1 tu_cs (tu_ty g) s ∧ tu_inj ad ∧ tu_st ad s s.heap ∧ fr ≤ R.frames ∧ lo ≤ R.locals ∧ kc ≤ R.cells ∧ ks ≤ R.slots
end
section
section TU
variable {T : tu_T} {cc : ByteArray} {own : String} {fr lo : Nat} {lv : List (Nat × tu_v)} {st : List tu_v} {M : tu_M}
theorem tu_at {ad : Nat → Nat} {ls : Array Slot} {nL : Nat} {lv : List (Nat × tu_v)} (h : lv_has ls nL (lv.map fun q => (q.1, tu_vl ad q.2))) (k : Nat) {i : Nat} {v : tu_v} (hk : lv[k]? = some (i, v)) : ls[i]? = some (.val (tu_vl ad v)) :=
  lv_at h k (by rw [List.getElem?_map, hk]; rfl)
def tu_2 (v : tu_v) : Bool := match v with
  | .inr (.inr _) => true
  | _ => false
theorem tu_2c (ad : Nat → Nat) (v : tu_v) : ((tu_vl ad v).category == 2) = tu_2 v := by
  rcases v with z | i | u <;> rfl
def tu_pt (i : Nat) (v : tu_v) (lv : List (Nat × tu_v)) : List (Nat × tu_v) := (i, v) :: lv.filter (fun q => !(q.1 == i) && !(q.1 + 1 == i && tu_2 q.2))
def tu_pt2 (i : Nat) (v : tu_v) (lv : List (Nat × tu_v)) : List (Nat × tu_v) := (i, v) :: lv.filter (fun q => !(q.1 == i) && (!(q.1 == i + 1) && !(q.1 + 1 == i && tu_2 q.2)))
theorem tu_pt_e (ad : Nat → Nat) (i : Nat) (v : tu_v) (lv : List (Nat × tu_v)) : (i, tu_vl ad v) :: (lv.map fun q => (q.1, tu_vl ad q.2)).filter (fun q => !(q.1 == i) && !(q.1 + 1 == i && q.2.category == 2)) = (tu_pt i v lv).map fun q => (q.1, tu_vl ad q.2) := by
  simp only [tu_pt, List.map_cons, List.filter_map, Function.comp_def, tu_2c]
theorem tu_pt2_e (ad : Nat → Nat) (i : Nat) (v : tu_v) (lv : List (Nat × tu_v)) : (i, tu_vl ad v) :: (lv.map fun q => (q.1, tu_vl ad q.2)).filter (fun q => !(q.1 == i) && (!(q.1 == i + 1) && !(q.1 + 1 == i && q.2.category == 2))) = (tu_pt2 i v lv).map fun q => (q.1, tu_vl ad q.2) := by
  simp only [tu_pt2, List.map_cons, List.filter_map, Function.comp_def, tu_2c]
theorem tu_lit {z : Int} {v : Int32} (h : v = tu_J z) : Value.int v = .int (tu_J z) := by rw [h]

theorem tu_iconst (pc : Nat) (X : tu_X T cc own fr lo) {n : Int} (hd : decode cc pc = .ok (.iconst n, 1))
    (kk : tu_W T (pc + 1) lv (tu_i n :: st) M) : tu_W T pc lv st M := by
  obtain ⟨p, l, e, R, s, m, args, below, meth, c, nL, g, ad, kc, ks, Q⟩ := T
  obtain ⟨hx, hb, hml, hown, hts, hK, hI, hst, hfr, hlo, hkc, hks⟩ := X
  intro H locs ls hP hS hl
  exact lv_iconst hx hb hd rfl (kk H locs ls hP hS hl)

theorem tu_bipush (pc : Nat) (X : tu_X T cc own fr lo) {n : Int} (hd : decode cc pc = .ok (.bipush n, 2)) (hv : (Int8.ofInt n).toInt32 = tu_J n)
    (kk : tu_W T (pc + 2) lv (tu_i n :: st) M) : tu_W T pc lv st M := by
  obtain ⟨p, l, e, R, s, m, args, below, meth, c, nL, g, ad, kc, ks, Q⟩ := T
  obtain ⟨hx, hb, hml, hown, hts, hK, hI, hst, hfr, hlo, hkc, hks⟩ := X
  intro H locs ls hP hS hl
  exact lv_bipush hx hb hd hv (kk H locs ls hP hS hl)

theorem tu_sipush (pc : Nat) (X : tu_X T cc own fr lo) {n : Int} (hd : decode cc pc = .ok (.sipush n, 3)) (hv : (Int16.ofInt n).toInt32 = tu_J n)
    (kk : tu_W T (pc + 3) lv (tu_i n :: st) M) : tu_W T pc lv st M := by
  obtain ⟨p, l, e, R, s, m, args, below, meth, c, nL, g, ad, kc, ks, Q⟩ := T
  obtain ⟨hx, hb, hml, hown, hts, hK, hI, hst, hfr, hlo, hkc, hks⟩ := X
  intro H locs ls hP hS hl
  exact lv_sipush hx hb hd hv (kk H locs ls hP hS hl)

theorem tu_ldc (pc : Nat) (X : tu_X T cc own fr lo) {idx : Nat} {v : Int32} {n : Int} (hd : decode cc pc = .ok (.ldc idx, 2)) (hw : Cond.constant own idx v ∈ tu_tb) (hv : v = tu_J n)
    (kk : tu_W T (pc + 2) lv (tu_i n :: st) M) : tu_W T pc lv st M := by
  obtain ⟨p, l, e, R, s, m, args, below, meth, c, nL, g, ad, kc, ks, Q⟩ := T
  obtain ⟨hx, hb, hml, hown, hts, hK, hI, hst, hfr, hlo, hkc, hks⟩ := X
  intro H locs ls hP hS hl
  subst hv
  exact lv_ldc hx hb hown (hts _ hw) hd (kk H locs ls hP hS hl)

theorem tu_ldc2 (pc : Nat) (X : tu_X T cc own fr lo) {idx : Nat} {v : Int64} {n : Nat} (hd : decode cc pc = .ok (.ldc2_w idx, 3)) (hw : Cond.constantLong own idx v ∈ tu_tb) (hv : v = tu_K n)
    (kk : tu_W T (pc + 3) lv (tu_l n :: st) M) : tu_W T pc lv st M := by
  obtain ⟨p, l, e, R, s, m, args, below, meth, c, nL, g, ad, kc, ks, Q⟩ := T
  obtain ⟨hx, hb, hml, hown, hts, hK, hI, hst, hfr, hlo, hkc, hks⟩ := X
  intro H locs ls hP hS hl
  subst hv
  exact lv_ldc2 hx hb hown (hts _ hw) hd (kk H locs ls hP hS hl)

theorem tu_lconst (pc : Nat) (X : tu_X T cc own fr lo) {n : Fin 2} (hd : decode cc pc = .ok (.lconst n, 1))
    (kk : tu_W T (pc + 1) lv (tu_l n :: st) M) : tu_W T pc lv st M := by
  obtain ⟨p, l, e, R, s, m, args, below, meth, c, nL, g, ad, kc, ks, Q⟩ := T
  obtain ⟨hx, hb, hml, hown, hts, hK, hI, hst, hfr, hlo, hkc, hks⟩ := X
  intro H locs ls hP hS hl
  exact lv_lconst hx hb hd rfl (kk H locs ls hP hS hl)

theorem tu_iload_n (pc : Nat) (X : tu_X T cc own fr lo) {k : Fin 4} {x : Int} (q : Nat) (hd : decode cc pc = .ok (.iload_n k, 1)) (hl0 : lv[q]? = some ((k : Nat), tu_i x))
    (kk : tu_W T (pc + 1) lv (tu_i x :: st) M) : tu_W T pc lv st M := by
  obtain ⟨p, l, e, R, s, m, args, below, meth, c, nL, g, ad, kc, ks, Q⟩ := T
  obtain ⟨hx, hb, hml, hown, hts, hK, hI, hst, hfr, hlo, hkc, hks⟩ := X
  intro H locs ls hP hS hl
  exact lv_iload_n hx hb hd rfl (tu_at hl q hl0) (kk H locs ls hP hS hl)

theorem tu_iload (pc : Nat) (X : tu_X T cc own fr lo) {k : Nat} {x : Int} (q : Nat) (hd : decode cc pc = .ok (.iload k, 2)) (hl0 : lv[q]? = some (k, tu_i x))
    (kk : tu_W T (pc + 2) lv (tu_i x :: st) M) : tu_W T pc lv st M := by
  obtain ⟨p, l, e, R, s, m, args, below, meth, c, nL, g, ad, kc, ks, Q⟩ := T
  obtain ⟨hx, hb, hml, hown, hts, hK, hI, hst, hfr, hlo, hkc, hks⟩ := X
  intro H locs ls hP hS hl
  exact lv_iload hx hb hd (tu_at hl q hl0) (kk H locs ls hP hS hl)

theorem tu_istore_n (pc : Nat) (X : tu_X T cc own fr lo) {k : Fin 4} {x : Int} {lv' : List (Nat × tu_v)} (hd : decode cc pc = .ok (.istore_n k, 1)) (hn : (k : Nat)  < T.2.2.2.2.2.2.2.2.2.2.1) (hl0 : tu_pt (k : Nat) (tu_i x) lv = lv')
    (kk : tu_W T (pc + 1) lv' st M) : tu_W T pc lv (tu_i x :: st) M := by
  obtain ⟨p, l, e, R, s, m, args, below, meth, c, nL, g, ad, kc, ks, Q⟩ := T
  obtain ⟨hx, hb, hml, hown, hts, hK, hI, hst, hfr, hlo, hkc, hks⟩ := X
  intro H locs ls hP hS hl
  subst hl0
  exact lv_istore_n (lv' := (tu_pt (k : Nat) (tu_i x) lv).map fun q => (q.1, tu_vl ad q.2)) hx hb hd rfl hl hn (tu_pt_e ad _ (tu_i x) lv) (fun ls' hl' => kk H locs ls' hP hS hl')

theorem tu_istore (pc : Nat) (X : tu_X T cc own fr lo) {k : Nat} {x : Int} {lv' : List (Nat × tu_v)} (hd : decode cc pc = .ok (.istore k, 2)) (hn : k  < T.2.2.2.2.2.2.2.2.2.2.1) (hl0 : tu_pt k (tu_i x) lv = lv')
    (kk : tu_W T (pc + 2) lv' st M) : tu_W T pc lv (tu_i x :: st) M := by
  obtain ⟨p, l, e, R, s, m, args, below, meth, c, nL, g, ad, kc, ks, Q⟩ := T
  obtain ⟨hx, hb, hml, hown, hts, hK, hI, hst, hfr, hlo, hkc, hks⟩ := X
  intro H locs ls hP hS hl
  subst hl0
  exact lv_istore (lv' := (tu_pt k (tu_i x) lv).map fun q => (q.1, tu_vl ad q.2)) hx hb hd hl hn (tu_pt_e ad _ (tu_i x) lv) (fun ls' hl' => kk H locs ls' hP hS hl')

theorem tu_aload_n (pc : Nat) (X : tu_X T cc own fr lo) {k : Fin 4} {x : Nat} (q : Nat) (hd : decode cc pc = .ok (.aload_n k, 1)) (hl0 : lv[q]? = some ((k : Nat), tu_r x))
    (kk : tu_W T (pc + 1) lv (tu_r x :: st) M) : tu_W T pc lv st M := by
  obtain ⟨p, l, e, R, s, m, args, below, meth, c, nL, g, ad, kc, ks, Q⟩ := T
  obtain ⟨hx, hb, hml, hown, hts, hK, hI, hst, hfr, hlo, hkc, hks⟩ := X
  intro H locs ls hP hS hl
  exact lv_aload_n hx hb hd rfl (tu_at hl q hl0) (kk H locs ls hP hS hl)

theorem tu_aload (pc : Nat) (X : tu_X T cc own fr lo) {k : Nat} {x : Nat} (q : Nat) (hd : decode cc pc = .ok (.aload k, 2)) (hl0 : lv[q]? = some (k, tu_r x))
    (kk : tu_W T (pc + 2) lv (tu_r x :: st) M) : tu_W T pc lv st M := by
  obtain ⟨p, l, e, R, s, m, args, below, meth, c, nL, g, ad, kc, ks, Q⟩ := T
  obtain ⟨hx, hb, hml, hown, hts, hK, hI, hst, hfr, hlo, hkc, hks⟩ := X
  intro H locs ls hP hS hl
  exact lv_aload hx hb hd (tu_at hl q hl0) (kk H locs ls hP hS hl)

theorem tu_astore_n (pc : Nat) (X : tu_X T cc own fr lo) {k : Fin 4} {x : Nat} {lv' : List (Nat × tu_v)} (hd : decode cc pc = .ok (.astore_n k, 1)) (hn : (k : Nat)  < T.2.2.2.2.2.2.2.2.2.2.1) (hl0 : tu_pt (k : Nat) (tu_r x) lv = lv')
    (kk : tu_W T (pc + 1) lv' st M) : tu_W T pc lv (tu_r x :: st) M := by
  obtain ⟨p, l, e, R, s, m, args, below, meth, c, nL, g, ad, kc, ks, Q⟩ := T
  obtain ⟨hx, hb, hml, hown, hts, hK, hI, hst, hfr, hlo, hkc, hks⟩ := X
  intro H locs ls hP hS hl
  subst hl0
  exact lv_astore_n (lv' := (tu_pt (k : Nat) (tu_r x) lv).map fun q => (q.1, tu_vl ad q.2)) hx hb hd rfl hl hn (tu_pt_e ad _ (tu_r x) lv) (fun ls' hl' => kk H locs ls' hP hS hl')

theorem tu_lload_n (pc : Nat) (X : tu_X T cc own fr lo) {k : Fin 4} {x : Nat} (q : Nat) (hd : decode cc pc = .ok (.lload_n k, 1)) (hl0 : lv[q]? = some ((k : Nat), tu_l x))
    (kk : tu_W T (pc + 1) lv (tu_l x :: st) M) : tu_W T pc lv st M := by
  obtain ⟨p, l, e, R, s, m, args, below, meth, c, nL, g, ad, kc, ks, Q⟩ := T
  obtain ⟨hx, hb, hml, hown, hts, hK, hI, hst, hfr, hlo, hkc, hks⟩ := X
  intro H locs ls hP hS hl
  exact lv_lload_n hx hb hd rfl (tu_at hl q hl0) (kk H locs ls hP hS hl)

theorem tu_lload (pc : Nat) (X : tu_X T cc own fr lo) {k : Nat} {x : Nat} (q : Nat) (hd : decode cc pc = .ok (.lload k, 2)) (hl0 : lv[q]? = some (k, tu_l x))
    (kk : tu_W T (pc + 2) lv (tu_l x :: st) M) : tu_W T pc lv st M := by
  obtain ⟨p, l, e, R, s, m, args, below, meth, c, nL, g, ad, kc, ks, Q⟩ := T
  obtain ⟨hx, hb, hml, hown, hts, hK, hI, hst, hfr, hlo, hkc, hks⟩ := X
  intro H locs ls hP hS hl
  exact lv_lload hx hb hd (tu_at hl q hl0) (kk H locs ls hP hS hl)

theorem tu_lstore_n (pc : Nat) (X : tu_X T cc own fr lo) {k : Fin 4} {x : Nat} {lv' : List (Nat × tu_v)} (hd : decode cc pc = .ok (.lstore_n k, 1)) (hn : (k : Nat) + 1 < T.2.2.2.2.2.2.2.2.2.2.1) (hl0 : tu_pt2 (k : Nat) (tu_l x) lv = lv')
    (kk : tu_W T (pc + 1) lv' st M) : tu_W T pc lv (tu_l x :: st) M := by
  obtain ⟨p, l, e, R, s, m, args, below, meth, c, nL, g, ad, kc, ks, Q⟩ := T
  obtain ⟨hx, hb, hml, hown, hts, hK, hI, hst, hfr, hlo, hkc, hks⟩ := X
  intro H locs ls hP hS hl
  subst hl0
  exact lv_lstore_n (lv' := (tu_pt2 (k : Nat) (tu_l x) lv).map fun q => (q.1, tu_vl ad q.2)) hx hb hd rfl hl hn (tu_pt2_e ad _ (tu_l x) lv) (fun ls' hl' => kk H locs ls' hP hS hl')

theorem tu_lstore (pc : Nat) (X : tu_X T cc own fr lo) {k : Nat} {x : Nat} {lv' : List (Nat × tu_v)} (hd : decode cc pc = .ok (.lstore k, 2)) (hn : k + 1 < T.2.2.2.2.2.2.2.2.2.2.1) (hl0 : tu_pt2 k (tu_l x) lv = lv')
    (kk : tu_W T (pc + 2) lv' st M) : tu_W T pc lv (tu_l x :: st) M := by
  obtain ⟨p, l, e, R, s, m, args, below, meth, c, nL, g, ad, kc, ks, Q⟩ := T
  obtain ⟨hx, hb, hml, hown, hts, hK, hI, hst, hfr, hlo, hkc, hks⟩ := X
  intro H locs ls hP hS hl
  subst hl0
  exact lv_lstore (lv' := (tu_pt2 k (tu_l x) lv).map fun q => (q.1, tu_vl ad q.2)) hx hb hd hl hn (tu_pt2_e ad _ (tu_l x) lv) (fun ls' hl' => kk H locs ls' hP hS hl')

theorem tu_iinc (pc : Nat) (X : tu_X T cc own fr lo) {i : Nat} {n x : Int} {lv' : List (Nat × tu_v)} (q : Nat) (hd : decode cc pc = .ok (.iinc i n, 3)) (hk : lv[q]? = some (i, tu_i x)) (hn : i < T.2.2.2.2.2.2.2.2.2.2.1) (hl0 : tu_pt i (tu_i (x + n)) lv = lv')
    (kk : tu_W T (pc + 3) lv' st M) : tu_W T pc lv st M := by
  obtain ⟨p, l, e, R, s, m, args, below, meth, c, nL, g, ad, kc, ks, Q⟩ := T
  obtain ⟨hx, hb, hml, hown, hts, hK, hI, hst, hfr, hlo, hkc, hks⟩ := X
  intro H locs ls hP hS hl
  subst hl0
  exact lv_iinc (v := tu_J (x + n)) (lv' := (tu_pt i (tu_i (x + n)) lv).map fun q => (q.1, tu_vl ad q.2)) hx hb hd hl (k := q) (x := tu_J x) (by rw [List.getElem?_map, hk]; rfl) (tu_J_add x n).symm hn (tu_pt_e ad _ (tu_i (x + n)) lv) (fun ls' hl' => kk H locs ls' hP hS hl')

theorem tu_iadd (pc : Nat) (X : tu_X T cc own fr lo) {a b : Int} (hd : decode cc pc = .ok (.iadd, 1))
    (kk : tu_W T (pc + 1) lv (tu_i (a + b) :: st) M) : tu_W T pc lv (tu_i b :: tu_i a :: st) M := by
  obtain ⟨p, l, e, R, s, m, args, below, meth, c, nL, g, ad, kc, ks, Q⟩ := T
  obtain ⟨hx, hb, hml, hown, hts, hK, hI, hst, hfr, hlo, hkc, hks⟩ := X
  intro H locs ls hP hS hl
  have h := kk H locs ls hP hS hl
  rw [show (tu_i (a + b) :: st).map (tu_vl ad) = .int (tu_J a + tu_J b) :: st.map (tu_vl ad) from by rw [← tu_J_add]; rfl] at h
  exact lv_iadd hx hb hd h

theorem tu_isub (pc : Nat) (X : tu_X T cc own fr lo) {a b : Int} (hd : decode cc pc = .ok (.isub, 1))
    (kk : tu_W T (pc + 1) lv (tu_i (a - b) :: st) M) : tu_W T pc lv (tu_i b :: tu_i a :: st) M := by
  obtain ⟨p, l, e, R, s, m, args, below, meth, c, nL, g, ad, kc, ks, Q⟩ := T
  obtain ⟨hx, hb, hml, hown, hts, hK, hI, hst, hfr, hlo, hkc, hks⟩ := X
  intro H locs ls hP hS hl
  have h := kk H locs ls hP hS hl
  rw [show (tu_i (a - b) :: st).map (tu_vl ad) = .int (tu_J a - tu_J b) :: st.map (tu_vl ad) from by rw [← tu_J_sub]; rfl] at h
  exact lv_isub hx hb hd h

theorem tu_imul (pc : Nat) (X : tu_X T cc own fr lo) {a b : Int} (hd : decode cc pc = .ok (.imul, 1))
    (kk : tu_W T (pc + 1) lv (tu_i (a * b) :: st) M) : tu_W T pc lv (tu_i b :: tu_i a :: st) M := by
  obtain ⟨p, l, e, R, s, m, args, below, meth, c, nL, g, ad, kc, ks, Q⟩ := T
  obtain ⟨hx, hb, hml, hown, hts, hK, hI, hst, hfr, hlo, hkc, hks⟩ := X
  intro H locs ls hP hS hl
  have h := kk H locs ls hP hS hl
  rw [show (tu_i (a * b) :: st).map (tu_vl ad) = .int (tu_J a * tu_J b) :: st.map (tu_vl ad) from by rw [← tu_J_mul]; rfl] at h
  exact lv_imul hx hb hd h

theorem tu_raw {ad : Nat → Nat} {x : Int32} {st : List tu_v} : (tu_i x.toInt :: st).map (tu_vl ad) = .int x :: st.map (tu_vl ad) := by
  show Value.int (tu_J x.toInt) :: _ = _
  rw [tu_J_t]
def tu_and (a b : Int) : Int := (tu_J a &&& tu_J b).toInt
def tu_or (a b : Int) : Int := (tu_J a ||| tu_J b).toInt
def tu_xor (a b : Int) : Int := (tu_J a ^^^ tu_J b).toInt
def tu_shl (a b : Int) : Int := (tu_J a <<< (tu_J b &&& 31)).toInt
def tu_shr (a b : Int) : Int := (tu_J a >>> (tu_J b &&& 31)).toInt
def tu_rem (a b : Int) : Int := (tu_J a - tu_J a / tu_J b * tu_J b).toInt

theorem tu_iand (pc : Nat) (X : tu_X T cc own fr lo) {a b : Int} (hd : decode cc pc = .ok (.iand, 1))
    (kk : tu_W T (pc + 1) lv (tu_i (tu_and a b) :: st) M) : tu_W T pc lv (tu_i b :: tu_i a :: st) M := by
  obtain ⟨p, l, e, R, s, m, args, below, meth, c, nL, g, ad, kc, ks, Q⟩ := T
  obtain ⟨hx, hb, hml, hown, hts, hK, hI, hst, hfr, hlo, hkc, hks⟩ := X
  intro H locs ls hP hS hl
  have h := kk H locs ls hP hS hl
  rw [show (tu_i (tu_and a b) :: st).map (tu_vl ad) = _ from tu_raw] at h
  exact lv_iand hx hb hd h

theorem tu_ior (pc : Nat) (X : tu_X T cc own fr lo) {a b : Int} (hd : decode cc pc = .ok (.ior, 1))
    (kk : tu_W T (pc + 1) lv (tu_i (tu_or a b) :: st) M) : tu_W T pc lv (tu_i b :: tu_i a :: st) M := by
  obtain ⟨p, l, e, R, s, m, args, below, meth, c, nL, g, ad, kc, ks, Q⟩ := T
  obtain ⟨hx, hb, hml, hown, hts, hK, hI, hst, hfr, hlo, hkc, hks⟩ := X
  intro H locs ls hP hS hl
  have h := kk H locs ls hP hS hl
  rw [show (tu_i (tu_or a b) :: st).map (tu_vl ad) = _ from tu_raw] at h
  exact lv_ior hx hb hd h

theorem tu_ixor (pc : Nat) (X : tu_X T cc own fr lo) {a b : Int} (hd : decode cc pc = .ok (.ixor, 1))
    (kk : tu_W T (pc + 1) lv (tu_i (tu_xor a b) :: st) M) : tu_W T pc lv (tu_i b :: tu_i a :: st) M := by
  obtain ⟨p, l, e, R, s, m, args, below, meth, c, nL, g, ad, kc, ks, Q⟩ := T
  obtain ⟨hx, hb, hml, hown, hts, hK, hI, hst, hfr, hlo, hkc, hks⟩ := X
  intro H locs ls hP hS hl
  have h := kk H locs ls hP hS hl
  rw [show (tu_i (tu_xor a b) :: st).map (tu_vl ad) = _ from tu_raw] at h
  exact lv_ixor hx hb hd h

theorem tu_ishl (pc : Nat) (X : tu_X T cc own fr lo) {a b : Int} (hd : decode cc pc = .ok (.ishl, 1))
    (kk : tu_W T (pc + 1) lv (tu_i (tu_shl a b) :: st) M) : tu_W T pc lv (tu_i b :: tu_i a :: st) M := by
  obtain ⟨p, l, e, R, s, m, args, below, meth, c, nL, g, ad, kc, ks, Q⟩ := T
  obtain ⟨hx, hb, hml, hown, hts, hK, hI, hst, hfr, hlo, hkc, hks⟩ := X
  intro H locs ls hP hS hl
  have h := kk H locs ls hP hS hl
  rw [show (tu_i (tu_shl a b) :: st).map (tu_vl ad) = _ from tu_raw] at h
  exact lv_ishl hx hb hd h

theorem tu_ishr (pc : Nat) (X : tu_X T cc own fr lo) {a b : Int} (hd : decode cc pc = .ok (.ishr, 1))
    (kk : tu_W T (pc + 1) lv (tu_i (tu_shr a b) :: st) M) : tu_W T pc lv (tu_i b :: tu_i a :: st) M := by
  obtain ⟨p, l, e, R, s, m, args, below, meth, c, nL, g, ad, kc, ks, Q⟩ := T
  obtain ⟨hx, hb, hml, hown, hts, hK, hI, hst, hfr, hlo, hkc, hks⟩ := X
  intro H locs ls hP hS hl
  have h := kk H locs ls hP hS hl
  rw [show (tu_i (tu_shr a b) :: st).map (tu_vl ad) = _ from tu_raw] at h
  exact lv_ishr hx hb hd h

theorem tu_irem (pc : Nat) (X : tu_X T cc own fr lo) {a b : Int} (hd : decode cc pc = .ok (.irem, 1)) (hr : tu_rg b) (h0 : b ≠ 0)
    (kk : tu_W T (pc + 1) lv (tu_i (tu_rem a b) :: st) M) : tu_W T pc lv (tu_i b :: tu_i a :: st) M := by
  obtain ⟨p, l, e, R, s, m, args, below, meth, c, nL, g, ad, kc, ks, Q⟩ := T
  obtain ⟨hx, hb, hml, hown, hts, hK, hI, hst, hfr, hlo, hkc, hks⟩ := X
  intro H locs ls hP hS hl
  have h := kk H locs ls hP hS hl
  rw [show (tu_i (tu_rem a b) :: st).map (tu_vl ad) = _ from tu_raw] at h
  exact lv_irem hx hb hd (fun z => h0 ((tu_J_eq hr (show tu_rg 0 from ⟨by decide, by decide⟩)).mp (z.trans (by decide)))) h

theorem tu_icmp_eq (pc : Nat) (X : tu_X T cc own fr lo) {a b : Int} {off : Int} (tgt : Nat) (hd : decode cc pc = .ok (.if_icmp .eq off, 3)) (ht : (pc : Int) + off = (tgt : Int)) (ha : tu_rg a) (hb2 : tu_rg b)
    (kt : a = b → tu_W T tgt lv st M)
    (kk : a ≠ b → tu_W T (pc + 3) lv st M) : tu_W T pc lv (tu_i b :: tu_i a :: st) M := by
  obtain ⟨p, l, e, R, s, m, args, below, meth, c, nL, g, ad, kc, ks, Q⟩ := T
  obtain ⟨hx, hb, hml, hown, hts, hK, hI, hst, hfr, hlo, hkc, hks⟩ := X
  intro H locs ls hP hS hl
  exact lv_icmp_eq (tgt := tgt) hx hb hd ht (fun hc => kt (by (first | exact (tu_J_eq ha hb2).mp hc | exact fun z => hc ((tu_J_eq ha hb2).mpr z) | exact Int.not_lt.mp (fun z => hc ((tu_J_eq ha hb2).mpr z)) | exact Int.not_le.mp (fun z => hc ((tu_J_eq ha hb2).mpr z)) | exact Decidable.byContradiction fun z => hc (fun y => z ((tu_J_eq ha hb2).mp y)) | (have hq := mt (tu_J_eq ha hb2).mpr hc; omega) | (have hq := fun y => hc ((tu_J_eq ha hb2).mp y); omega) | (rw [(tu_J_eq ha hb2)] at hc; omega))) H locs ls hP hS hl) (fun hc => kk (by (first | exact (tu_J_eq ha hb2).mp hc | exact fun z => hc ((tu_J_eq ha hb2).mpr z) | exact Int.not_lt.mp (fun z => hc ((tu_J_eq ha hb2).mpr z)) | exact Int.not_le.mp (fun z => hc ((tu_J_eq ha hb2).mpr z)) | exact Decidable.byContradiction fun z => hc (fun y => z ((tu_J_eq ha hb2).mp y)) | (have hq := mt (tu_J_eq ha hb2).mpr hc; omega) | (have hq := fun y => hc ((tu_J_eq ha hb2).mp y); omega) | (rw [(tu_J_eq ha hb2)] at hc; omega))) H locs ls hP hS hl)

theorem tu_if_eq (pc : Nat) (X : tu_X T cc own fr lo) {a : Int} {off : Int} (tgt : Nat) (hd : decode cc pc = .ok (.ifCond .eq off, 3)) (ht : (pc : Int) + off = (tgt : Int)) (ha : tu_rg a) 
    (kt : a = 0 → tu_W T tgt lv st M)
    (kk : a ≠ 0 → tu_W T (pc + 3) lv st M) : tu_W T pc lv (tu_i a :: st) M := by
  obtain ⟨p, l, e, R, s, m, args, below, meth, c, nL, g, ad, kc, ks, Q⟩ := T
  obtain ⟨hx, hb, hml, hown, hts, hK, hI, hst, hfr, hlo, hkc, hks⟩ := X
  intro H locs ls hP hS hl
  exact lv_if_eq (tgt := tgt) hx hb hd ht (fun hc => kt (by (rw [show (0 : Int32) = tu_J 0 from by decide] at hc; first | exact (tu_J_eq ha (show tu_rg 0 from ⟨by decide, by decide⟩)).mp hc | exact fun z => hc ((tu_J_eq ha (show tu_rg 0 from ⟨by decide, by decide⟩)).mpr z) | exact Int.not_lt.mp (fun z => hc ((tu_J_eq ha (show tu_rg 0 from ⟨by decide, by decide⟩)).mpr z)) | exact Int.not_le.mp (fun z => hc ((tu_J_eq ha (show tu_rg 0 from ⟨by decide, by decide⟩)).mpr z)) | exact Decidable.byContradiction fun z => hc (fun y => z ((tu_J_eq ha (show tu_rg 0 from ⟨by decide, by decide⟩)).mp y)) | (have hq := mt (tu_J_eq ha (show tu_rg 0 from ⟨by decide, by decide⟩)).mpr hc; omega) | (have hq := fun y => hc ((tu_J_eq ha (show tu_rg 0 from ⟨by decide, by decide⟩)).mp y); omega) | (rw [(tu_J_eq ha (show tu_rg 0 from ⟨by decide, by decide⟩))] at hc; omega))) H locs ls hP hS hl) (fun hc => kk (by (rw [show (0 : Int32) = tu_J 0 from by decide] at hc; first | exact (tu_J_eq ha (show tu_rg 0 from ⟨by decide, by decide⟩)).mp hc | exact fun z => hc ((tu_J_eq ha (show tu_rg 0 from ⟨by decide, by decide⟩)).mpr z) | exact Int.not_lt.mp (fun z => hc ((tu_J_eq ha (show tu_rg 0 from ⟨by decide, by decide⟩)).mpr z)) | exact Int.not_le.mp (fun z => hc ((tu_J_eq ha (show tu_rg 0 from ⟨by decide, by decide⟩)).mpr z)) | exact Decidable.byContradiction fun z => hc (fun y => z ((tu_J_eq ha (show tu_rg 0 from ⟨by decide, by decide⟩)).mp y)) | (have hq := mt (tu_J_eq ha (show tu_rg 0 from ⟨by decide, by decide⟩)).mpr hc; omega) | (have hq := fun y => hc ((tu_J_eq ha (show tu_rg 0 from ⟨by decide, by decide⟩)).mp y); omega) | (rw [(tu_J_eq ha (show tu_rg 0 from ⟨by decide, by decide⟩))] at hc; omega))) H locs ls hP hS hl)

theorem tu_icmp_ne (pc : Nat) (X : tu_X T cc own fr lo) {a b : Int} {off : Int} (tgt : Nat) (hd : decode cc pc = .ok (.if_icmp .ne off, 3)) (ht : (pc : Int) + off = (tgt : Int)) (ha : tu_rg a) (hb2 : tu_rg b)
    (kt : a ≠ b → tu_W T tgt lv st M)
    (kk : a = b → tu_W T (pc + 3) lv st M) : tu_W T pc lv (tu_i b :: tu_i a :: st) M := by
  obtain ⟨p, l, e, R, s, m, args, below, meth, c, nL, g, ad, kc, ks, Q⟩ := T
  obtain ⟨hx, hb, hml, hown, hts, hK, hI, hst, hfr, hlo, hkc, hks⟩ := X
  intro H locs ls hP hS hl
  exact lv_icmp_ne (tgt := tgt) hx hb hd ht (fun hc => kt (by (first | exact (tu_J_eq ha hb2).mp hc | exact fun z => hc ((tu_J_eq ha hb2).mpr z) | exact Int.not_lt.mp (fun z => hc ((tu_J_eq ha hb2).mpr z)) | exact Int.not_le.mp (fun z => hc ((tu_J_eq ha hb2).mpr z)) | exact Decidable.byContradiction fun z => hc (fun y => z ((tu_J_eq ha hb2).mp y)) | (have hq := mt (tu_J_eq ha hb2).mpr hc; omega) | (have hq := fun y => hc ((tu_J_eq ha hb2).mp y); omega) | (rw [(tu_J_eq ha hb2)] at hc; omega))) H locs ls hP hS hl) (fun hc => kk (by (first | exact (tu_J_eq ha hb2).mp hc | exact fun z => hc ((tu_J_eq ha hb2).mpr z) | exact Int.not_lt.mp (fun z => hc ((tu_J_eq ha hb2).mpr z)) | exact Int.not_le.mp (fun z => hc ((tu_J_eq ha hb2).mpr z)) | exact Decidable.byContradiction fun z => hc (fun y => z ((tu_J_eq ha hb2).mp y)) | (have hq := mt (tu_J_eq ha hb2).mpr hc; omega) | (have hq := fun y => hc ((tu_J_eq ha hb2).mp y); omega) | (rw [(tu_J_eq ha hb2)] at hc; omega))) H locs ls hP hS hl)

theorem tu_if_ne (pc : Nat) (X : tu_X T cc own fr lo) {a : Int} {off : Int} (tgt : Nat) (hd : decode cc pc = .ok (.ifCond .ne off, 3)) (ht : (pc : Int) + off = (tgt : Int)) (ha : tu_rg a) 
    (kt : a ≠ 0 → tu_W T tgt lv st M)
    (kk : a = 0 → tu_W T (pc + 3) lv st M) : tu_W T pc lv (tu_i a :: st) M := by
  obtain ⟨p, l, e, R, s, m, args, below, meth, c, nL, g, ad, kc, ks, Q⟩ := T
  obtain ⟨hx, hb, hml, hown, hts, hK, hI, hst, hfr, hlo, hkc, hks⟩ := X
  intro H locs ls hP hS hl
  exact lv_if_ne (tgt := tgt) hx hb hd ht (fun hc => kt (by (rw [show (0 : Int32) = tu_J 0 from by decide] at hc; first | exact (tu_J_eq ha (show tu_rg 0 from ⟨by decide, by decide⟩)).mp hc | exact fun z => hc ((tu_J_eq ha (show tu_rg 0 from ⟨by decide, by decide⟩)).mpr z) | exact Int.not_lt.mp (fun z => hc ((tu_J_eq ha (show tu_rg 0 from ⟨by decide, by decide⟩)).mpr z)) | exact Int.not_le.mp (fun z => hc ((tu_J_eq ha (show tu_rg 0 from ⟨by decide, by decide⟩)).mpr z)) | exact Decidable.byContradiction fun z => hc (fun y => z ((tu_J_eq ha (show tu_rg 0 from ⟨by decide, by decide⟩)).mp y)) | (have hq := mt (tu_J_eq ha (show tu_rg 0 from ⟨by decide, by decide⟩)).mpr hc; omega) | (have hq := fun y => hc ((tu_J_eq ha (show tu_rg 0 from ⟨by decide, by decide⟩)).mp y); omega) | (rw [(tu_J_eq ha (show tu_rg 0 from ⟨by decide, by decide⟩))] at hc; omega))) H locs ls hP hS hl) (fun hc => kk (by (rw [show (0 : Int32) = tu_J 0 from by decide] at hc; first | exact (tu_J_eq ha (show tu_rg 0 from ⟨by decide, by decide⟩)).mp hc | exact fun z => hc ((tu_J_eq ha (show tu_rg 0 from ⟨by decide, by decide⟩)).mpr z) | exact Int.not_lt.mp (fun z => hc ((tu_J_eq ha (show tu_rg 0 from ⟨by decide, by decide⟩)).mpr z)) | exact Int.not_le.mp (fun z => hc ((tu_J_eq ha (show tu_rg 0 from ⟨by decide, by decide⟩)).mpr z)) | exact Decidable.byContradiction fun z => hc (fun y => z ((tu_J_eq ha (show tu_rg 0 from ⟨by decide, by decide⟩)).mp y)) | (have hq := mt (tu_J_eq ha (show tu_rg 0 from ⟨by decide, by decide⟩)).mpr hc; omega) | (have hq := fun y => hc ((tu_J_eq ha (show tu_rg 0 from ⟨by decide, by decide⟩)).mp y); omega) | (rw [(tu_J_eq ha (show tu_rg 0 from ⟨by decide, by decide⟩))] at hc; omega))) H locs ls hP hS hl)

theorem tu_icmp_lt (pc : Nat) (X : tu_X T cc own fr lo) {a b : Int} {off : Int} (tgt : Nat) (hd : decode cc pc = .ok (.if_icmp .lt off, 3)) (ht : (pc : Int) + off = (tgt : Int)) (ha : tu_rg a) (hb2 : tu_rg b)
    (kt : a < b → tu_W T tgt lv st M)
    (kk : b ≤ a → tu_W T (pc + 3) lv st M) : tu_W T pc lv (tu_i b :: tu_i a :: st) M := by
  obtain ⟨p, l, e, R, s, m, args, below, meth, c, nL, g, ad, kc, ks, Q⟩ := T
  obtain ⟨hx, hb, hml, hown, hts, hK, hI, hst, hfr, hlo, hkc, hks⟩ := X
  intro H locs ls hP hS hl
  exact lv_icmp_lt (tgt := tgt) hx hb hd ht (fun hc => kt (by (first | exact (tu_J_lt ha hb2).mp hc | exact fun z => hc ((tu_J_lt ha hb2).mpr z) | exact Int.not_lt.mp (fun z => hc ((tu_J_lt ha hb2).mpr z)) | exact Int.not_le.mp (fun z => hc ((tu_J_lt ha hb2).mpr z)) | exact Decidable.byContradiction fun z => hc (fun y => z ((tu_J_lt ha hb2).mp y)) | (have hq := mt (tu_J_lt ha hb2).mpr hc; omega) | (have hq := fun y => hc ((tu_J_lt ha hb2).mp y); omega) | (rw [(tu_J_lt ha hb2)] at hc; omega))) H locs ls hP hS hl) (fun hc => kk (by (first | exact (tu_J_lt ha hb2).mp hc | exact fun z => hc ((tu_J_lt ha hb2).mpr z) | exact Int.not_lt.mp (fun z => hc ((tu_J_lt ha hb2).mpr z)) | exact Int.not_le.mp (fun z => hc ((tu_J_lt ha hb2).mpr z)) | exact Decidable.byContradiction fun z => hc (fun y => z ((tu_J_lt ha hb2).mp y)) | (have hq := mt (tu_J_lt ha hb2).mpr hc; omega) | (have hq := fun y => hc ((tu_J_lt ha hb2).mp y); omega) | (rw [(tu_J_lt ha hb2)] at hc; omega))) H locs ls hP hS hl)

theorem tu_if_lt (pc : Nat) (X : tu_X T cc own fr lo) {a : Int} {off : Int} (tgt : Nat) (hd : decode cc pc = .ok (.ifCond .lt off, 3)) (ht : (pc : Int) + off = (tgt : Int)) (ha : tu_rg a) 
    (kt : a < 0 → tu_W T tgt lv st M)
    (kk : 0 ≤ a → tu_W T (pc + 3) lv st M) : tu_W T pc lv (tu_i a :: st) M := by
  obtain ⟨p, l, e, R, s, m, args, below, meth, c, nL, g, ad, kc, ks, Q⟩ := T
  obtain ⟨hx, hb, hml, hown, hts, hK, hI, hst, hfr, hlo, hkc, hks⟩ := X
  intro H locs ls hP hS hl
  exact lv_if_lt (tgt := tgt) hx hb hd ht (fun hc => kt (by (rw [show (0 : Int32) = tu_J 0 from by decide] at hc; first | exact (tu_J_lt ha (show tu_rg 0 from ⟨by decide, by decide⟩)).mp hc | exact fun z => hc ((tu_J_lt ha (show tu_rg 0 from ⟨by decide, by decide⟩)).mpr z) | exact Int.not_lt.mp (fun z => hc ((tu_J_lt ha (show tu_rg 0 from ⟨by decide, by decide⟩)).mpr z)) | exact Int.not_le.mp (fun z => hc ((tu_J_lt ha (show tu_rg 0 from ⟨by decide, by decide⟩)).mpr z)) | exact Decidable.byContradiction fun z => hc (fun y => z ((tu_J_lt ha (show tu_rg 0 from ⟨by decide, by decide⟩)).mp y)) | (have hq := mt (tu_J_lt ha (show tu_rg 0 from ⟨by decide, by decide⟩)).mpr hc; omega) | (have hq := fun y => hc ((tu_J_lt ha (show tu_rg 0 from ⟨by decide, by decide⟩)).mp y); omega) | (rw [(tu_J_lt ha (show tu_rg 0 from ⟨by decide, by decide⟩))] at hc; omega))) H locs ls hP hS hl) (fun hc => kk (by (rw [show (0 : Int32) = tu_J 0 from by decide] at hc; first | exact (tu_J_lt ha (show tu_rg 0 from ⟨by decide, by decide⟩)).mp hc | exact fun z => hc ((tu_J_lt ha (show tu_rg 0 from ⟨by decide, by decide⟩)).mpr z) | exact Int.not_lt.mp (fun z => hc ((tu_J_lt ha (show tu_rg 0 from ⟨by decide, by decide⟩)).mpr z)) | exact Int.not_le.mp (fun z => hc ((tu_J_lt ha (show tu_rg 0 from ⟨by decide, by decide⟩)).mpr z)) | exact Decidable.byContradiction fun z => hc (fun y => z ((tu_J_lt ha (show tu_rg 0 from ⟨by decide, by decide⟩)).mp y)) | (have hq := mt (tu_J_lt ha (show tu_rg 0 from ⟨by decide, by decide⟩)).mpr hc; omega) | (have hq := fun y => hc ((tu_J_lt ha (show tu_rg 0 from ⟨by decide, by decide⟩)).mp y); omega) | (rw [(tu_J_lt ha (show tu_rg 0 from ⟨by decide, by decide⟩))] at hc; omega))) H locs ls hP hS hl)

theorem tu_icmp_ge (pc : Nat) (X : tu_X T cc own fr lo) {a b : Int} {off : Int} (tgt : Nat) (hd : decode cc pc = .ok (.if_icmp .ge off, 3)) (ht : (pc : Int) + off = (tgt : Int)) (ha : tu_rg a) (hb2 : tu_rg b)
    (kt : b ≤ a → tu_W T tgt lv st M)
    (kk : a < b → tu_W T (pc + 3) lv st M) : tu_W T pc lv (tu_i b :: tu_i a :: st) M := by
  obtain ⟨p, l, e, R, s, m, args, below, meth, c, nL, g, ad, kc, ks, Q⟩ := T
  obtain ⟨hx, hb, hml, hown, hts, hK, hI, hst, hfr, hlo, hkc, hks⟩ := X
  intro H locs ls hP hS hl
  exact lv_icmp_ge (tgt := tgt) hx hb hd ht (fun hc => kt (by (first | exact (tu_J_le hb2 ha).mp hc | exact fun z => hc ((tu_J_le hb2 ha).mpr z) | exact Int.not_lt.mp (fun z => hc ((tu_J_le hb2 ha).mpr z)) | exact Int.not_le.mp (fun z => hc ((tu_J_le hb2 ha).mpr z)) | exact Decidable.byContradiction fun z => hc (fun y => z ((tu_J_le hb2 ha).mp y)) | (have hq := mt (tu_J_le hb2 ha).mpr hc; omega) | (have hq := fun y => hc ((tu_J_le hb2 ha).mp y); omega) | (rw [(tu_J_le hb2 ha)] at hc; omega))) H locs ls hP hS hl) (fun hc => kk (by (first | exact (tu_J_le hb2 ha).mp hc | exact fun z => hc ((tu_J_le hb2 ha).mpr z) | exact Int.not_lt.mp (fun z => hc ((tu_J_le hb2 ha).mpr z)) | exact Int.not_le.mp (fun z => hc ((tu_J_le hb2 ha).mpr z)) | exact Decidable.byContradiction fun z => hc (fun y => z ((tu_J_le hb2 ha).mp y)) | (have hq := mt (tu_J_le hb2 ha).mpr hc; omega) | (have hq := fun y => hc ((tu_J_le hb2 ha).mp y); omega) | (rw [(tu_J_le hb2 ha)] at hc; omega))) H locs ls hP hS hl)

theorem tu_if_ge (pc : Nat) (X : tu_X T cc own fr lo) {a : Int} {off : Int} (tgt : Nat) (hd : decode cc pc = .ok (.ifCond .ge off, 3)) (ht : (pc : Int) + off = (tgt : Int)) (ha : tu_rg a) 
    (kt : 0 ≤ a → tu_W T tgt lv st M)
    (kk : a < 0 → tu_W T (pc + 3) lv st M) : tu_W T pc lv (tu_i a :: st) M := by
  obtain ⟨p, l, e, R, s, m, args, below, meth, c, nL, g, ad, kc, ks, Q⟩ := T
  obtain ⟨hx, hb, hml, hown, hts, hK, hI, hst, hfr, hlo, hkc, hks⟩ := X
  intro H locs ls hP hS hl
  exact lv_if_ge (tgt := tgt) hx hb hd ht (fun hc => kt (by (rw [show (0 : Int32) = tu_J 0 from by decide] at hc; first | exact (tu_J_le (show tu_rg 0 from ⟨by decide, by decide⟩) ha).mp hc | exact fun z => hc ((tu_J_le (show tu_rg 0 from ⟨by decide, by decide⟩) ha).mpr z) | exact Int.not_lt.mp (fun z => hc ((tu_J_le (show tu_rg 0 from ⟨by decide, by decide⟩) ha).mpr z)) | exact Int.not_le.mp (fun z => hc ((tu_J_le (show tu_rg 0 from ⟨by decide, by decide⟩) ha).mpr z)) | exact Decidable.byContradiction fun z => hc (fun y => z ((tu_J_le (show tu_rg 0 from ⟨by decide, by decide⟩) ha).mp y)) | (have hq := mt (tu_J_le (show tu_rg 0 from ⟨by decide, by decide⟩) ha).mpr hc; omega) | (have hq := fun y => hc ((tu_J_le (show tu_rg 0 from ⟨by decide, by decide⟩) ha).mp y); omega) | (rw [(tu_J_le (show tu_rg 0 from ⟨by decide, by decide⟩) ha)] at hc; omega))) H locs ls hP hS hl) (fun hc => kk (by (rw [show (0 : Int32) = tu_J 0 from by decide] at hc; first | exact (tu_J_le (show tu_rg 0 from ⟨by decide, by decide⟩) ha).mp hc | exact fun z => hc ((tu_J_le (show tu_rg 0 from ⟨by decide, by decide⟩) ha).mpr z) | exact Int.not_lt.mp (fun z => hc ((tu_J_le (show tu_rg 0 from ⟨by decide, by decide⟩) ha).mpr z)) | exact Int.not_le.mp (fun z => hc ((tu_J_le (show tu_rg 0 from ⟨by decide, by decide⟩) ha).mpr z)) | exact Decidable.byContradiction fun z => hc (fun y => z ((tu_J_le (show tu_rg 0 from ⟨by decide, by decide⟩) ha).mp y)) | (have hq := mt (tu_J_le (show tu_rg 0 from ⟨by decide, by decide⟩) ha).mpr hc; omega) | (have hq := fun y => hc ((tu_J_le (show tu_rg 0 from ⟨by decide, by decide⟩) ha).mp y); omega) | (rw [(tu_J_le (show tu_rg 0 from ⟨by decide, by decide⟩) ha)] at hc; omega))) H locs ls hP hS hl)

theorem tu_icmp_gt (pc : Nat) (X : tu_X T cc own fr lo) {a b : Int} {off : Int} (tgt : Nat) (hd : decode cc pc = .ok (.if_icmp .gt off, 3)) (ht : (pc : Int) + off = (tgt : Int)) (ha : tu_rg a) (hb2 : tu_rg b)
    (kt : b < a → tu_W T tgt lv st M)
    (kk : a ≤ b → tu_W T (pc + 3) lv st M) : tu_W T pc lv (tu_i b :: tu_i a :: st) M := by
  obtain ⟨p, l, e, R, s, m, args, below, meth, c, nL, g, ad, kc, ks, Q⟩ := T
  obtain ⟨hx, hb, hml, hown, hts, hK, hI, hst, hfr, hlo, hkc, hks⟩ := X
  intro H locs ls hP hS hl
  exact lv_icmp_gt (tgt := tgt) hx hb hd ht (fun hc => kt (by (first | exact (tu_J_lt hb2 ha).mp hc | exact fun z => hc ((tu_J_lt hb2 ha).mpr z) | exact Int.not_lt.mp (fun z => hc ((tu_J_lt hb2 ha).mpr z)) | exact Int.not_le.mp (fun z => hc ((tu_J_lt hb2 ha).mpr z)) | exact Decidable.byContradiction fun z => hc (fun y => z ((tu_J_lt hb2 ha).mp y)) | (have hq := mt (tu_J_lt hb2 ha).mpr hc; omega) | (have hq := fun y => hc ((tu_J_lt hb2 ha).mp y); omega) | (rw [(tu_J_lt hb2 ha)] at hc; omega))) H locs ls hP hS hl) (fun hc => kk (by (first | exact (tu_J_lt hb2 ha).mp hc | exact fun z => hc ((tu_J_lt hb2 ha).mpr z) | exact Int.not_lt.mp (fun z => hc ((tu_J_lt hb2 ha).mpr z)) | exact Int.not_le.mp (fun z => hc ((tu_J_lt hb2 ha).mpr z)) | exact Decidable.byContradiction fun z => hc (fun y => z ((tu_J_lt hb2 ha).mp y)) | (have hq := mt (tu_J_lt hb2 ha).mpr hc; omega) | (have hq := fun y => hc ((tu_J_lt hb2 ha).mp y); omega) | (rw [(tu_J_lt hb2 ha)] at hc; omega))) H locs ls hP hS hl)

theorem tu_if_gt (pc : Nat) (X : tu_X T cc own fr lo) {a : Int} {off : Int} (tgt : Nat) (hd : decode cc pc = .ok (.ifCond .gt off, 3)) (ht : (pc : Int) + off = (tgt : Int)) (ha : tu_rg a) 
    (kt : 0 < a → tu_W T tgt lv st M)
    (kk : a ≤ 0 → tu_W T (pc + 3) lv st M) : tu_W T pc lv (tu_i a :: st) M := by
  obtain ⟨p, l, e, R, s, m, args, below, meth, c, nL, g, ad, kc, ks, Q⟩ := T
  obtain ⟨hx, hb, hml, hown, hts, hK, hI, hst, hfr, hlo, hkc, hks⟩ := X
  intro H locs ls hP hS hl
  exact lv_if_gt (tgt := tgt) hx hb hd ht (fun hc => kt (by (rw [show (0 : Int32) = tu_J 0 from by decide] at hc; first | exact (tu_J_lt (show tu_rg 0 from ⟨by decide, by decide⟩) ha).mp hc | exact fun z => hc ((tu_J_lt (show tu_rg 0 from ⟨by decide, by decide⟩) ha).mpr z) | exact Int.not_lt.mp (fun z => hc ((tu_J_lt (show tu_rg 0 from ⟨by decide, by decide⟩) ha).mpr z)) | exact Int.not_le.mp (fun z => hc ((tu_J_lt (show tu_rg 0 from ⟨by decide, by decide⟩) ha).mpr z)) | exact Decidable.byContradiction fun z => hc (fun y => z ((tu_J_lt (show tu_rg 0 from ⟨by decide, by decide⟩) ha).mp y)) | (have hq := mt (tu_J_lt (show tu_rg 0 from ⟨by decide, by decide⟩) ha).mpr hc; omega) | (have hq := fun y => hc ((tu_J_lt (show tu_rg 0 from ⟨by decide, by decide⟩) ha).mp y); omega) | (rw [(tu_J_lt (show tu_rg 0 from ⟨by decide, by decide⟩) ha)] at hc; omega))) H locs ls hP hS hl) (fun hc => kk (by (rw [show (0 : Int32) = tu_J 0 from by decide] at hc; first | exact (tu_J_lt (show tu_rg 0 from ⟨by decide, by decide⟩) ha).mp hc | exact fun z => hc ((tu_J_lt (show tu_rg 0 from ⟨by decide, by decide⟩) ha).mpr z) | exact Int.not_lt.mp (fun z => hc ((tu_J_lt (show tu_rg 0 from ⟨by decide, by decide⟩) ha).mpr z)) | exact Int.not_le.mp (fun z => hc ((tu_J_lt (show tu_rg 0 from ⟨by decide, by decide⟩) ha).mpr z)) | exact Decidable.byContradiction fun z => hc (fun y => z ((tu_J_lt (show tu_rg 0 from ⟨by decide, by decide⟩) ha).mp y)) | (have hq := mt (tu_J_lt (show tu_rg 0 from ⟨by decide, by decide⟩) ha).mpr hc; omega) | (have hq := fun y => hc ((tu_J_lt (show tu_rg 0 from ⟨by decide, by decide⟩) ha).mp y); omega) | (rw [(tu_J_lt (show tu_rg 0 from ⟨by decide, by decide⟩) ha)] at hc; omega))) H locs ls hP hS hl)

theorem tu_icmp_le (pc : Nat) (X : tu_X T cc own fr lo) {a b : Int} {off : Int} (tgt : Nat) (hd : decode cc pc = .ok (.if_icmp .le off, 3)) (ht : (pc : Int) + off = (tgt : Int)) (ha : tu_rg a) (hb2 : tu_rg b)
    (kt : a ≤ b → tu_W T tgt lv st M)
    (kk : b < a → tu_W T (pc + 3) lv st M) : tu_W T pc lv (tu_i b :: tu_i a :: st) M := by
  obtain ⟨p, l, e, R, s, m, args, below, meth, c, nL, g, ad, kc, ks, Q⟩ := T
  obtain ⟨hx, hb, hml, hown, hts, hK, hI, hst, hfr, hlo, hkc, hks⟩ := X
  intro H locs ls hP hS hl
  exact lv_icmp_le (tgt := tgt) hx hb hd ht (fun hc => kt (by (first | exact (tu_J_le ha hb2).mp hc | exact fun z => hc ((tu_J_le ha hb2).mpr z) | exact Int.not_lt.mp (fun z => hc ((tu_J_le ha hb2).mpr z)) | exact Int.not_le.mp (fun z => hc ((tu_J_le ha hb2).mpr z)) | exact Decidable.byContradiction fun z => hc (fun y => z ((tu_J_le ha hb2).mp y)) | (have hq := mt (tu_J_le ha hb2).mpr hc; omega) | (have hq := fun y => hc ((tu_J_le ha hb2).mp y); omega) | (rw [(tu_J_le ha hb2)] at hc; omega))) H locs ls hP hS hl) (fun hc => kk (by (first | exact (tu_J_le ha hb2).mp hc | exact fun z => hc ((tu_J_le ha hb2).mpr z) | exact Int.not_lt.mp (fun z => hc ((tu_J_le ha hb2).mpr z)) | exact Int.not_le.mp (fun z => hc ((tu_J_le ha hb2).mpr z)) | exact Decidable.byContradiction fun z => hc (fun y => z ((tu_J_le ha hb2).mp y)) | (have hq := mt (tu_J_le ha hb2).mpr hc; omega) | (have hq := fun y => hc ((tu_J_le ha hb2).mp y); omega) | (rw [(tu_J_le ha hb2)] at hc; omega))) H locs ls hP hS hl)

theorem tu_if_le (pc : Nat) (X : tu_X T cc own fr lo) {a : Int} {off : Int} (tgt : Nat) (hd : decode cc pc = .ok (.ifCond .le off, 3)) (ht : (pc : Int) + off = (tgt : Int)) (ha : tu_rg a) 
    (kt : a ≤ 0 → tu_W T tgt lv st M)
    (kk : 0 < a → tu_W T (pc + 3) lv st M) : tu_W T pc lv (tu_i a :: st) M := by
  obtain ⟨p, l, e, R, s, m, args, below, meth, c, nL, g, ad, kc, ks, Q⟩ := T
  obtain ⟨hx, hb, hml, hown, hts, hK, hI, hst, hfr, hlo, hkc, hks⟩ := X
  intro H locs ls hP hS hl
  exact lv_if_le (tgt := tgt) hx hb hd ht (fun hc => kt (by (rw [show (0 : Int32) = tu_J 0 from by decide] at hc; first | exact (tu_J_le ha (show tu_rg 0 from ⟨by decide, by decide⟩)).mp hc | exact fun z => hc ((tu_J_le ha (show tu_rg 0 from ⟨by decide, by decide⟩)).mpr z) | exact Int.not_lt.mp (fun z => hc ((tu_J_le ha (show tu_rg 0 from ⟨by decide, by decide⟩)).mpr z)) | exact Int.not_le.mp (fun z => hc ((tu_J_le ha (show tu_rg 0 from ⟨by decide, by decide⟩)).mpr z)) | exact Decidable.byContradiction fun z => hc (fun y => z ((tu_J_le ha (show tu_rg 0 from ⟨by decide, by decide⟩)).mp y)) | (have hq := mt (tu_J_le ha (show tu_rg 0 from ⟨by decide, by decide⟩)).mpr hc; omega) | (have hq := fun y => hc ((tu_J_le ha (show tu_rg 0 from ⟨by decide, by decide⟩)).mp y); omega) | (rw [(tu_J_le ha (show tu_rg 0 from ⟨by decide, by decide⟩))] at hc; omega))) H locs ls hP hS hl) (fun hc => kk (by (rw [show (0 : Int32) = tu_J 0 from by decide] at hc; first | exact (tu_J_le ha (show tu_rg 0 from ⟨by decide, by decide⟩)).mp hc | exact fun z => hc ((tu_J_le ha (show tu_rg 0 from ⟨by decide, by decide⟩)).mpr z) | exact Int.not_lt.mp (fun z => hc ((tu_J_le ha (show tu_rg 0 from ⟨by decide, by decide⟩)).mpr z)) | exact Int.not_le.mp (fun z => hc ((tu_J_le ha (show tu_rg 0 from ⟨by decide, by decide⟩)).mpr z)) | exact Decidable.byContradiction fun z => hc (fun y => z ((tu_J_le ha (show tu_rg 0 from ⟨by decide, by decide⟩)).mp y)) | (have hq := mt (tu_J_le ha (show tu_rg 0 from ⟨by decide, by decide⟩)).mpr hc; omega) | (have hq := fun y => hc ((tu_J_le ha (show tu_rg 0 from ⟨by decide, by decide⟩)).mp y); omega) | (rw [(tu_J_le ha (show tu_rg 0 from ⟨by decide, by decide⟩))] at hc; omega))) H locs ls hP hS hl)

theorem tu_goto (pc : Nat) (X : tu_X T cc own fr lo) {off : Int} (tgt : Nat) (hd : decode cc pc = .ok (.goto off, 3)) (ht : (pc : Int) + off = (tgt : Int))
    (kk : tu_W T tgt lv st M) : tu_W T pc lv st M := by
  obtain ⟨p, l, e, R, s, m, args, below, meth, c, nL, g, ad, kc, ks, Q⟩ := T
  obtain ⟨hx, hb, hml, hown, hts, hK, hI, hst, hfr, hlo, hkc, hks⟩ := X
  intro H locs ls hP hS hl
  exact lv_goto (tgt := tgt) hx hb hd ht (kk H locs ls hP hS hl)

theorem tu_tabOut (pc : Nat) (X : tu_X T cc own fr lo) {dflt lo2 hi : Int} {offs : Array Int} {len : Nat} {a : Int} (tgt : Nat) (hd : decode cc pc = .ok (.tableswitch dflt lo2 hi offs, len)) (ha : tu_rg a) (h : a < lo2 ∨ hi < a) (ht : (pc : Int) + dflt = (tgt : Int))
    (kk : tu_W T tgt lv st M) : tu_W T pc lv (tu_i a :: st) M := by
  obtain ⟨p, l, e, R, s, m, args, below, meth, c, nL, g, ad, kc, ks, Q⟩ := T
  obtain ⟨hx, hb, hml, hown, hts, hK, hI, hst, hfr, hlo, hkc, hks⟩ := X
  intro H locs ls hP hS hl
  exact lv_tableOut (x := tu_J a) (tgt := tgt) hx hb hd (by rw [tu_J_i ha]; exact h) ht (kk H locs ls hP hS hl)

theorem tu_tabIn (pc : Nat) (X : tu_X T cc own fr lo) {dflt lo2 hi : Int} {offs : Array Int} {len : Nat} {a : Int} {off : Int} (tgt : Nat) (hd : decode cc pc = .ok (.tableswitch dflt lo2 hi offs, len)) (ha : tu_rg a) (h1 : ¬ a < lo2) (h2 : ¬ hi < a) (ho : offs[(a - lo2).toNat]? = some off) (ht : (pc : Int) + off = (tgt : Int))
    (kk : tu_W T tgt lv st M) : tu_W T pc lv (tu_i a :: st) M := by
  obtain ⟨p, l, e, R, s, m, args, below, meth, c, nL, g, ad, kc, ks, Q⟩ := T
  obtain ⟨hx, hb, hml, hown, hts, hK, hI, hst, hfr, hlo, hkc, hks⟩ := X
  intro H locs ls hP hS hl
  exact lv_tableIn (x := tu_J a) (tgt := tgt) hx hb hd (by rw [tu_J_i ha]; exact h1) (by rw [tu_J_i ha]; exact h2) (by rw [tu_J_i ha]; exact ho) ht (kk H locs ls hP hS hl)

theorem tu_dup (pc : Nat) (X : tu_X T cc own fr lo) {v : tu_v} (hd : decode cc pc = .ok (.dup, 1)) (hv : tu_2 v = false)
    (kk : tu_W T (pc + 1) lv (v :: v :: st) M) : tu_W T pc lv (v :: st) M := by
  obtain ⟨p, l, e, R, s, m, args, below, meth, c, nL, g, ad, kc, ks, Q⟩ := T
  obtain ⟨hx, hb, hml, hown, hts, hK, hI, hst, hfr, hlo, hkc, hks⟩ := X
  intro H locs ls hP hS hl
  exact lv_dup hx hb hd (by rcases v with z | i | u <;> first | rfl | cases hv) (kk H locs ls hP hS hl)

theorem tu_dup_x1 (pc : Nat) (X : tu_X T cc own fr lo) {v w : tu_v} (hd : decode cc pc = .ok (.dup_x1, 1)) (hv : tu_2 v = false) (hw : tu_2 w = false)
    (kk : tu_W T (pc + 1) lv (v :: w :: v :: st) M) : tu_W T pc lv (v :: w :: st) M := by
  obtain ⟨p, l, e, R, s, m, args, below, meth, c, nL, g, ad, kc, ks, Q⟩ := T
  obtain ⟨hx, hb, hml, hown, hts, hK, hI, hst, hfr, hlo, hkc, hks⟩ := X
  intro H locs ls hP hS hl
  exact lv_dup_x1 hx hb hd (by rcases v with z | i | u <;> first | rfl | cases hv) (by rcases w with z | i | u <;> first | rfl | cases hw) (kk H locs ls hP hS hl)

theorem tu_dup2 (pc : Nat) (X : tu_X T cc own fr lo) {v w : tu_v} (hd : decode cc pc = .ok (.dup2, 1)) (hv : tu_2 v = false) (hw : tu_2 w = false)
    (kk : tu_W T (pc + 1) lv (v :: w :: v :: w :: st) M) : tu_W T pc lv (v :: w :: st) M := by
  obtain ⟨p, l, e, R, s, m, args, below, meth, c, nL, g, ad, kc, ks, Q⟩ := T
  obtain ⟨hx, hb, hml, hown, hts, hK, hI, hst, hfr, hlo, hkc, hks⟩ := X
  intro H locs ls hP hS hl
  exact lv_dup2_11 hx hb hd (by rcases v with z | i | u <;> first | rfl | cases hv) (by rcases w with z | i | u <;> first | rfl | cases hw) (kk H locs ls hP hS hl)

/-- a field's link: the class's place, the field's place, its words in the tables -/
def tu_fl (own : String) (idx ci k : Nat) : Prop := ∃ (C : String) (TT : u_T) (N : Nat), tu_cs[ci]? = some (C, TT, N) ∧ k < N ∧ (∀ w ∈ u_ws C TT N, w ∈ tu_tb) ∧ Cond.fieldLink own idx (TT k).1 (TT k).2.1 (TT k).2.2.1 ∈ tu_tb
/-- and what a store wants of it: an int, not final -/
def tu_fp (own : String) (idx ci k : Nat) : Prop := ∃ (C : String) (TT : u_T) (N : Nat), tu_cs[ci]? = some (C, TT, N) ∧ k < N ∧ (∀ w ∈ u_ws C TT N, w ∈ tu_tb) ∧ Cond.fieldLink own idx (TT k).1 (TT k).2.1 (TT k).2.2.1 ∈ tu_tb ∧ (TT k).2.2.2 = false ∧ parseFieldDescriptor (TT k).2.2.1 = some .int ∧ (∃ ty0 : Nat → FieldType, ∀ j, j < N → parseFieldDescriptor (TT j).2.2.1 = some (ty0 j)) ∧ (∀ a, a < N → ∀ b, b < N → a ≠ b → (TT a).2.1 ≠ (TT b).2.1)
theorem tu_ce4 {g : tu_G} {ad : Nat → Nat} {row : Nat → Int} {s : tu_S} {c : Nat} {fs : List (Option Nat)} (h : s = (4, c, fs)) : tu_ce g ad row s = .inr (c, tu_fv ad row 0 fs) := by subst h; rfl
theorem tu_ce0 {g : tu_G} {ad : Nat → Nat} {row : Nat → Int} {s : tu_S} {n : Nat} (h : s = (0, n, [])) : tu_ce g ad row s = .inl (g.2.1, n, .inl (fun j => tu_J (row j))) := by subst h; rfl
theorem tu_ce1 {g : tu_G} {ad : Nat → Nat} {row : Nat → Int} {s : tu_S} {n : Nat} (h : s = (1, n, [])) : tu_ce g ad row s = .inl (g.2.2.1, n, .inl (fun j => tu_J (row j))) := by subst h; rfl
theorem tu_ce2 {g : tu_G} {ad : Nat → Nat} {row : Nat → Int} {s : tu_S} {n : Nat} (h : s = (2, n, [])) : tu_ce g ad row s = .inl (g.2.2.2.1, n, .inl (fun j => tu_J (row j))) := by subst h; rfl
theorem tu_ce3 {g : tu_G} {ad : Nat → Nat} {row : Nat → Int} {s : tu_S} {n : Nat} (h : s = (3, n, [])) : tu_ce g ad row s = .inl (g.2.2.2.2, n, .inr (.inr (.inr (.inr (fun j => some (ad (row j).toNat)))))) := by subst h; rfl

theorem tu_getI (pc : Nat) (X : tu_X T cc own fr lo) {idx ci k i : Nat} {fs : List (Option Nat)} {x : Int} (hd : decode cc pc = .ok (.getfield idx, 3)) (hf : tu_fl own idx ci k) (hi : i < 97) (hs : tu_sh i = (4, ci, fs)) (hk : fs[k]? = some none) (hv : M i k = x)
    (kk : tu_W T (pc + 3) lv (tu_i x :: st) M) : tu_W T pc lv (tu_r i :: st) M := by
  obtain ⟨p, l, e, R, s, m, args, below, meth, c, nL, g, ad, kc, ks, Q⟩ := T
  obtain ⟨hx, hb, hml, hown, hts, hK, hI, hst, hfr, hlo, hkc, hks⟩ := X
  intro H locs ls hP hS hl
  subst hv
  obtain ⟨C, TT, N, hc, hkN, hin, hlk⟩ := hf
  exact va_get hx hb (v := .int (tu_J (M i k))) hts hin hown hK hP i (by rw [tu_ws_at hi, tu_ce4 hs]) hc k hkN (hts _ hlk) (fun _ h9 => h9) (by have := tu_fv_i (ad := ad) (row := M i) (j := 0) hk; rwa [Nat.zero_add] at this) hd (kk H locs ls hP hS hl)

theorem tu_getR (pc : Nat) (X : tu_X T cc own fr lo) {idx ci k i r : Nat} {fs : List (Option Nat)} (hd : decode cc pc = .ok (.getfield idx, 3)) (hf : tu_fl own idx ci k) (hi : i < 97) (hs : tu_sh i = (4, ci, fs)) (hk : fs[k]? = some (some r))
    (kk : tu_W T (pc + 3) lv (tu_r r :: st) M) : tu_W T pc lv (tu_r i :: st) M := by
  obtain ⟨p, l, e, R, s, m, args, below, meth, c, nL, g, ad, kc, ks, Q⟩ := T
  obtain ⟨hx, hb, hml, hown, hts, hK, hI, hst, hfr, hlo, hkc, hks⟩ := X
  intro H locs ls hP hS hl
  obtain ⟨C, TT, N, hc, hkN, hin, hlk⟩ := hf
  exact va_get hx hb (v := .ref (ad r)) hts hin hown hK hP i (by rw [tu_ws_at hi, tu_ce4 hs]) hc k hkN (hts _ hlk) (fun _ h9 => h9) (tu_fv_r hk) hd (kk H locs ls hP hS hl)

theorem tu_lt {fs : List (Option Nat)} {k : Nat} {z : Option Nat} (h : fs[k]? = some z) : k < fs.length := (List.getElem?_eq_some_iff.mp h).1

theorem tu_putI (pc : Nat) (X : tu_X T cc own fr lo) {idx ci k i : Nat} {fs : List (Option Nat)} {x : Int} {M' : tu_M} (hd : decode cc pc = .ok (.putfield idx, 3)) (hf : tu_fp own idx ci k) (hi : i < 97) (hs : tu_sh i = (4, ci, fs)) (hk : fs[k]? = some none) (hM : tu_row M i (tu_u (M i) k x) = M')
    (kk : tu_W T (pc + 3) lv st M') : tu_W T pc lv (tu_i x :: tu_r i :: st) M := by
  obtain ⟨p, l, e, R, s, m, args, below, meth, c, nL, g, ad, kc, ks, Q⟩ := T
  obtain ⟨hx, hb, hml, hown, hts, hK, hI, hst, hfr, hlo, hkc, hks⟩ := X
  intro H locs ls hP hS hl
  subst hM
  obtain ⟨C, TT, N, hc, hkN, hin, hlk, hfin, hd0, ⟨ty0, hty⟩, hnm⟩ := hf
  refine va_put (v := .int (tu_J x)) hx hb hts hin ty0 hty hnm hown hK hP (tu_D hI) hS i (by rw [tu_ws_at hi, tu_ce4 hs]) hc k hkN (hts _ hlk) (fun _ h9 => h9) hfin hd0 rfl rfl (by rw [tu_fv_l]; exact tu_lt hk) hd (fun H1 locs1 hP1 _ hS1 => kk H1 locs1 ls ?_ hS1 hl)
  rw [tu_ws_set (f := tu_u (M i) k x)] at hP1
  · exact hP1
  · have h1 := tu_fv_s (ad := ad) (row := M i) (x := x) (j := 0) hk
    rw [Nat.zero_add] at h1
    rw [tu_ce4 hs, h1]

theorem tu_iald (pc : Nat) (X : tu_X T cc own fr lo) {i n : Nat} {j x : Int} (q : Nat) (hd : decode cc pc = .ok (.iaload, 1)) (hi : i < 97) (hs : tu_sh i = (0, n, [])) (hn : n < 2147483648) (hj : j = (q : Int)) (hq : q < n) (hv : M i q = x)
    (kk : tu_W T (pc + 1) lv (tu_i x :: st) M) : tu_W T pc lv (tu_i j :: tu_r i :: st) M := by
  obtain ⟨p, l, e, R, s, m, args, below, meth, c, nL, g, ad, kc, ks, Q⟩ := T
  obtain ⟨hx, hb, hml, hown, hts, hK, hI, hst, hfr, hlo, hkc, hks⟩ := X
  intro H locs ls hP hS hl
  subst hv
  refine va_iald hx hb hK hP i 0 (by rw [tu_ws_at hi, tu_ce0 hs]) rfl (tu_in hj hq hn) hd ?_
  rw [tu_cl hj hq hn]
  exact kk H locs ls hP hS hl

theorem tu_cald (pc : Nat) (X : tu_X T cc own fr lo) {i n : Nat} {j x : Int} (q : Nat) (hd : decode cc pc = .ok (.caload, 1)) (hi : i < 97) (hs : tu_sh i = (1, n, [])) (hn : n < 2147483648) (hj : j = (q : Int)) (hq : q < n) (hv : M i q = x)
    (kk : tu_W T (pc + 1) lv (tu_i x :: st) M) : tu_W T pc lv (tu_i j :: tu_r i :: st) M := by
  obtain ⟨p, l, e, R, s, m, args, below, meth, c, nL, g, ad, kc, ks, Q⟩ := T
  obtain ⟨hx, hb, hml, hown, hts, hK, hI, hst, hfr, hlo, hkc, hks⟩ := X
  intro H locs ls hP hS hl
  subst hv
  refine va_cald hx hb hK hP i 1 (by rw [tu_ws_at hi, tu_ce1 hs]) rfl (tu_in hj hq hn) hd ?_
  rw [tu_cl hj hq hn]
  exact kk H locs ls hP hS hl

theorem tu_zald (pc : Nat) (X : tu_X T cc own fr lo) {i n : Nat} {j x : Int} (q : Nat) (hd : decode cc pc = .ok (.baload, 1)) (hi : i < 97) (hs : tu_sh i = (2, n, [])) (hn : n < 2147483648) (hj : j = (q : Int)) (hq : q < n) (hv : M i q = x)
    (kk : tu_W T (pc + 1) lv (tu_i x :: st) M) : tu_W T pc lv (tu_i j :: tu_r i :: st) M := by
  obtain ⟨p, l, e, R, s, m, args, below, meth, c, nL, g, ad, kc, ks, Q⟩ := T
  obtain ⟨hx, hb, hml, hown, hts, hK, hI, hst, hfr, hlo, hkc, hks⟩ := X
  intro H locs ls hP hS hl
  subst hv
  refine va_zald hx hb hK hP i 2 (by rw [tu_ws_at hi, tu_ce2 hs]) rfl (tu_in hj hq hn) hd ?_
  rw [tu_cl hj hq hn]
  exact kk H locs ls hP hS hl

theorem tu_aald (pc : Nat) (X : tu_X T cc own fr lo) {i n r : Nat} {j : Int} (q : Nat) (hd : decode cc pc = .ok (.aaload, 1)) (hi : i < 97) (hs : tu_sh i = (3, n, [])) (hn : n < 2147483648) (hj : j = (q : Int)) (hq : q < n) (hv : (M i q).toNat = r)
    (kk : tu_W T (pc + 1) lv (tu_r r :: st) M) : tu_W T pc lv (tu_i j :: tu_r i :: st) M := by
  obtain ⟨p, l, e, R, s, m, args, below, meth, c, nL, g, ad, kc, ks, Q⟩ := T
  obtain ⟨hx, hb, hml, hown, hts, hK, hI, hst, hfr, hlo, hkc, hks⟩ := X
  intro H locs ls hP hS hl
  subst hv
  refine va_aldq hx hb hK hP i 3 (by rw [tu_ws_at hi, tu_ce3 hs]) rfl (tu_in hj hq hn) hd ?_
  rw [tu_cl hj hq hn]
  exact kk H locs ls hP hS hl

theorem tu_iast (pc : Nat) (X : tu_X T cc own fr lo) {i n : Nat} {j x : Int} {M' : tu_M} (q : Nat) (hd : decode cc pc = .ok (.iastore, 1)) (hi : i < 97) (hs : tu_sh i = (0, n, [])) (hn : n < 2147483648) (hj : j = (q : Int)) (hq : q < n) (hM : tu_row M i (tu_u (M i) q x) = M')
    (kk : tu_W T (pc + 1) lv st M') : tu_W T pc lv (tu_i x :: tu_i j :: tu_r i :: st) M := by
  obtain ⟨p, l, e, R, s, m, args, below, meth, c, nL, g, ad, kc, ks, Q⟩ := T
  obtain ⟨hx, hb, hml, hown, hts, hK, hI, hst, hfr, hlo, hkc, hks⟩ := X
  intro H locs ls hP hS hl
  subst hM
  refine va_iast (x := tu_J x) hx hb hK hP (tu_D hI) hS i 0 (by rw [tu_ws_at hi, tu_ce0 hs]) rfl (tu_in hj hq hn) hd (fun H1 locs1 hP1 _ hS1 => kk H1 locs1 ls ?_ hS1 hl)
  rw [tu_cl hj hq hn, tu_ju] at hP1
  rw [tu_ws_set (f := tu_u (M i) q x)] at hP1
  · exact hP1
  · rw [tu_ce0 hs]

theorem tu_cast (pc : Nat) (X : tu_X T cc own fr lo) {i n : Nat} {j x : Int} {M' : tu_M} (q : Nat) (hd : decode cc pc = .ok (.castore, 1)) (hi : i < 97) (hs : tu_sh i = (1, n, [])) (hn : n < 2147483648) (hj : j = (q : Int)) (hq : q < n) (hx9 : vp_nar .char (tu_J x) = tu_J x) (hM : tu_row M i (tu_u (M i) q x) = M')
    (kk : tu_W T (pc + 1) lv st M') : tu_W T pc lv (tu_i x :: tu_i j :: tu_r i :: st) M := by
  obtain ⟨p, l, e, R, s, m, args, below, meth, c, nL, g, ad, kc, ks, Q⟩ := T
  obtain ⟨hx, hb, hml, hown, hts, hK, hI, hst, hfr, hlo, hkc, hks⟩ := X
  intro H locs ls hP hS hl
  subst hM
  refine va_cast (x := tu_J x) hx hb hK hP (tu_D hI) hS i 1 (by rw [tu_ws_at hi, tu_ce1 hs]) rfl (tu_in hj hq hn) hd (fun H1 locs1 hP1 _ hS1 => kk H1 locs1 ls ?_ hS1 hl)
  rw [tu_cl hj hq hn, hx9, tu_ju] at hP1
  rw [tu_ws_set (f := tu_u (M i) q x)] at hP1
  · exact hP1
  · rw [tu_ce1 hs]

theorem tu_zast (pc : Nat) (X : tu_X T cc own fr lo) {i n : Nat} {j x : Int} {M' : tu_M} (q : Nat) (hd : decode cc pc = .ok (.bastore, 1)) (hi : i < 97) (hs : tu_sh i = (2, n, [])) (hn : n < 2147483648) (hj : j = (q : Int)) (hq : q < n) (hx9 : vp_nar .boolean (tu_J x) = tu_J x) (hM : tu_row M i (tu_u (M i) q x) = M')
    (kk : tu_W T (pc + 1) lv st M') : tu_W T pc lv (tu_i x :: tu_i j :: tu_r i :: st) M := by
  obtain ⟨p, l, e, R, s, m, args, below, meth, c, nL, g, ad, kc, ks, Q⟩ := T
  obtain ⟨hx, hb, hml, hown, hts, hK, hI, hst, hfr, hlo, hkc, hks⟩ := X
  intro H locs ls hP hS hl
  subst hM
  refine va_zast (x := tu_J x) hx hb hK hP (tu_D hI) hS i 2 (by rw [tu_ws_at hi, tu_ce2 hs]) rfl (tu_in hj hq hn) hd (fun H1 locs1 hP1 _ hS1 => kk H1 locs1 ls ?_ hS1 hl)
  rw [tu_cl hj hq hn, hx9, tu_ju] at hP1
  rw [tu_ws_set (f := tu_u (M i) q x)] at hP1
  · exact hP1
  · rw [tu_ce2 hs]

theorem tu_aast (pc : Nat) (X : tu_X T cc own fr lo) {i n r : Nat} {j : Int} {fs : List (Option Nat)} {M' : tu_M} (q : Nat) (hd : decode cc pc = .ok (.aastore, 1)) (hi : i < 97) (hs : tu_sh i = (3, n, [])) (hn : n < 2147483648) (hj : j = (q : Int)) (hq : q < n) (hr : r < 97) (hrs : tu_sh r = (4, 0, fs)) (hM : tu_row M i (tu_u (M i) q (r : Int)) = M')
    (kk : tu_W T (pc + 1) lv st M') : tu_W T pc lv (tu_r r :: tu_i j :: tu_r i :: st) M := by
  obtain ⟨p, l, e, R, s, m, args, below, meth, c, nL, g, ad, kc, ks, Q⟩ := T
  obtain ⟨hx, hb, hml, hown, hts, hK, hI, hst, hfr, hlo, hkc, hks⟩ := X
  intro H locs ls hP hS hl
  subst hM
  refine va_astq (r := (RX0, TX0, 11)) hx hb hK hP (tu_D hI) hS i 3 r 0 (by rw [tu_ws_at hi, tu_ce3 hs]) rfl (by rw [tu_ws_at hr, tu_ce4 hrs]) rfl (tu_in hj hq hn) hd (fun H1 locs1 hP1 _ hS1 => kk H1 locs1 ls ?_ hS1 hl)
  rw [tu_cl hj hq hn] at hP1
  have e : va_up (fun j => some (ad (M i j).toNat)) q (some (ad r)) = fun j => some (ad (tu_u (M i) q (r : Int) j).toNat) := by
    funext a
    by_cases h : a = q
    · subst h; simp [va_up, tu_u_s]
    · simp [va_up, h, tu_u_n]
  rw [e, tu_ws_set (f := tu_u (M i) q (r : Int))] at hP1
  · exact hP1
  · rw [tu_ce3 hs]

end TU
end
section
/-! contracts over the small machine: a method, its arguments, the memory before; what is true of its answer and of the memory behind it -/
abbrev tu_Y : Type := MethodName × ByteArray × Nat × Option FieldType × Nat × Nat
def tu_wd (Y : tu_Y) : List Cond := Cond.code Y.1 Y.2.1 Y.2.2.1 Y.2.2.2.1 :: tu_tb
def tu_rm (Y : tu_Y) : Room := { frames := Y.2.2.2.2.1, cells := 0, slots := 0, locals := Y.2.2.2.2.2 }
def tu_Pr (g : tu_G) (ad : Nat → Nat) (av : List tu_v) (M : tu_M) : Array Value → State → Prop := va_Pc (av.map (tu_vl ad)) (fun U => tu_Wo g ad M U)
/-- an int (or a boolean) comes back -/
def tu_MI (Y : tu_Y) (av : List tu_v) (M : tu_M) (post : Int → tu_M → Prop) : Prop := ∀ (l : Launch) (g : tu_G) (ad : Nat → Nat), Met l Y.1 (tu_wd Y) (tu_rm Y) (tu_Pr g ad av M) (va_Qi (fun r M' => ∃ z : Int, r = tu_J z ∧ post z M') (fun M' t => tu_Wo g ad M' t) (tu_A ad)) 0 0 (tu_A ad)
/-- nothing comes back -/
def tu_MV (Y : tu_Y) (av : List tu_v) (M : tu_M) (post : tu_M → Prop) : Prop := ∀ (l : Launch) (g : tu_G) (ad : Nat → Nat), Met l Y.1 (tu_wd Y) (tu_rm Y) (tu_Pr g ad av M) (va_Qv post (fun M' t => tu_Wo g ad M' t) (tu_A ad)) 0 0 (tu_A ad)
/-- the return's row, as a method's body gets it -/
def tu_RI (T : tu_T) (cc : ByteArray) (post : Int → tu_M → Prop) : Prop := ∀ (pc : Nat) (lv : List (Nat × tu_v)) (M : tu_M) (z : Int), decode cc pc = .ok (.ireturn, 1) → (∀ h : T.2.2.2.2.2.2.2.2.1.sig.returnType = some .boolean, z = 0 ∨ z = 1) → post z M → tu_W T pc lv [tu_i z] M
def tu_RV (T : tu_T) (cc : ByteArray) (post : tu_M → Prop) : Prop := ∀ (pc : Nat) (lv : List (Nat × tu_v)) (M : tu_M), decode cc pc = .ok (.return_, 1) → post M → tu_W T pc lv [] M
def tu_la : Nat → List tu_v → List (Nat × tu_v)
  | _, [] => []
  | i, v :: vs => (i, v) :: tu_la (if tu_2 v = true then i + 2 else i + 1) vs
theorem tu_la_e (ad : Nat → Nat) : ∀ (i : Nat) (vs : List tu_v), lv_args i (vs.map (tu_vl ad)) = (tu_la i vs).map fun q => (q.1, tu_vl ad q.2)
  | _, [] => rfl
  | i, v :: vs => by
    have h : (tu_vl ad v).category = 2 ↔ tu_2 v = true := by rw [← tu_2c ad v, beq_iff_eq]
    simp only [List.map_cons, lv_args, tu_la]
    by_cases hv : tu_2 v = true
    · rw [if_pos (h.mpr hv), if_pos hv, tu_la_e ad _ vs]
    · rw [if_neg (fun z => hv (h.mp z)), if_neg hv, tu_la_e ad _ vs]
def tu_sz : List tu_v → Nat
  | [] => 0
  | v :: vs => (if tu_2 v = true then 2 else 1) + tu_sz vs
theorem tu_sz_e (ad : Nat → Nat) : ∀ vs : List tu_v, (lg_sl (vs.map (tu_vl ad))).length = tu_sz vs
  | [] => rfl
  | v :: vs => by
    have h : (tu_vl ad v).category = 2 ↔ tu_2 v = true := by rw [← tu_2c ad v, beq_iff_eq]
    have ih := tu_sz_e ad vs
    unfold lg_sl at ih ⊢
    rw [List.map_cons, List.flatMap_cons, List.length_append, ih, tu_sz]
    by_cases hv : tu_2 v = true
    · rw [if_pos (h.mpr hv), if_pos hv]; rfl
    · rw [if_neg (fun z => hv (h.mp z)), if_neg hv]; rfl
theorem tu_MI.of {Y : tu_Y} {av : List tu_v} {M : tu_M} {post : Int → tu_M → Prop} {ty : FieldType} (hy : plainName Y.1.cls = true) (hty : Y.2.2.2.1 = some ty) (hb0 : ty = .boolean ∨ ty = .int) (hz : tu_sz av ≤ Y.2.2.1)
    (body : ∀ T : tu_T, tu_X T Y.2.1 Y.1.cls Y.2.2.2.2.1 Y.2.2.2.2.2 → T.2.2.2.2.2.2.2.2.2.2.1 = Y.2.2.1 → T.2.2.2.2.2.2.2.2.1.sig.returnType = some ty → tu_RI T Y.2.1 post → tu_W T 0 (tu_la 0 av) [] M) : tu_MI Y av M post := by
  intro l g ad
  refine Met.ofW (cc := Y.2.1) (maxL := Y.2.2.1) (ret := Y.2.2.2.1) hy rfl ?_
  intro p e s m args below meth c s₁ B hml hv
  obtain ⟨rfl, hP, hK, hI, hst⟩ := hv
  have hts : ∀ w ∈ tu_tb, w.before (av.map (tu_vl ad)).toArray s = true := fun w hw => atoms_spec (ws := tu_wd Y) B.pre w (List.mem_cons_of_mem _ hw)
  have hl := lv_entry (av.map (tu_vl ad)) (n := Y.2.2.1) (by rw [tu_sz_e]; exact hz)
  rw [tu_la_e] at hl
  rw [lg_entry_eq]
  refine body (p, l, e, (headSpec (tu_wd Y) (tu_rm Y)).room, s, m, (av.map (tu_vl ad)).toArray, below, meth, c, Y.2.2.1, g, ad, 0, 0, _) ⟨B.exec, B.bytes, hml, findClass_of_methodNamed B.named, hts, hK, hI, hst, Nat.le_refl _, Nat.le_refl _, Nat.zero_le _, Nat.zero_le _⟩ rfl (B.returns.trans hty) ?_ s.heap [] _ hP va_S.rf hl
  intro pc lv M' z hd hbz hpost H locs ls hP' hS' hl'
  have hn : narrow ty (.int (tu_J z)) = .int (tu_J z) := by
    rcases hb0 with rfl | rfl
    · rcases hbz (B.returns.trans hty) with rfl | rfl <;> rfl
    · rfl
  refine W.zret (v := tu_J z) B.exec B.bytes (B.returns.trans hty) hn (fun t ht hW => ⟨⟨tu_J z, M', rfl, ⟨z, rfl, hpost⟩, ?_, ?_, hI, ?_⟩, hS'.F ht⟩) hS'.2.2 hd B.notSynchronized
  · rw [ht]; exact hP'
  · exact va_K.moved hW.alike hK
  · refine tu_st.kept (H := s.heap) (hst.moved hW.alike) (fun a h1 h2 => ?_)
    rw [ht]; exact hS'.2.1 a h1 h2
theorem tu_MV.of {Y : tu_Y} {av : List tu_v} {M : tu_M} {post : tu_M → Prop} (hy : plainName Y.1.cls = true) (hty : Y.2.2.2.1 = none) (hz : tu_sz av ≤ Y.2.2.1)
    (body : ∀ T : tu_T, tu_X T Y.2.1 Y.1.cls Y.2.2.2.2.1 Y.2.2.2.2.2 → T.2.2.2.2.2.2.2.2.2.2.1 = Y.2.2.1 → tu_RV T Y.2.1 post → tu_W T 0 (tu_la 0 av) [] M) : tu_MV Y av M post := by
  intro l g ad
  refine Met.ofW (cc := Y.2.1) (maxL := Y.2.2.1) (ret := Y.2.2.2.1) hy rfl ?_
  intro p e s m args below meth c s₁ B hml hv
  obtain ⟨rfl, hP, hK, hI, hst⟩ := hv
  have hts : ∀ w ∈ tu_tb, w.before (av.map (tu_vl ad)).toArray s = true := fun w hw => atoms_spec (ws := tu_wd Y) B.pre w (List.mem_cons_of_mem _ hw)
  have hl := lv_entry (av.map (tu_vl ad)) (n := Y.2.2.1) (by rw [tu_sz_e]; exact hz)
  rw [tu_la_e] at hl
  rw [lg_entry_eq]
  refine body (p, l, e, (headSpec (tu_wd Y) (tu_rm Y)).room, s, m, (av.map (tu_vl ad)).toArray, below, meth, c, Y.2.2.1, g, ad, 0, 0, _) ⟨B.exec, B.bytes, hml, findClass_of_methodNamed B.named, hts, hK, hI, hst, Nat.le_refl _, Nat.le_refl _, Nat.zero_le _, Nat.zero_le _⟩ rfl ?_ s.heap [] _ hP va_S.rf hl
  intro pc lv M' hd hpost H locs ls hP' hS' hl'
  refine W.vret B.exec B.bytes (B.returns.trans hty) (fun t ht hW => ⟨⟨M', rfl, hpost, ?_, ?_, hI, ?_⟩, hS'.F ht⟩) hS'.2.2 hd B.notSynchronized
  · rw [ht]; exact hP'
  · exact va_K.moved hW.alike hK
  · refine tu_st.kept (H := s.heap) (hst.moved hW.alike) (fun a h1 h2 => ?_)
    rw [ht]; exact hS'.2.1 a h1 h2
/-! calls -/
/-- what a call of an instance method wants of the tables -/
def tu_sV (own : String) (idx : Nat) (Y : tu_Y) (n : Nat) : Prop := (Cond.methodLink own idx Y.1 ∈ tu_tb ∧ Cond.instanceMethod Y.1 ∈ tu_tb ∧ Cond.selects Y.1.cls Y.1 Y.1 ∈ tu_tb ∧ Cond.initialized Y.1.cls ∈ tu_tb ∧ Cond.code Y.1 Y.2.1 Y.2.2.1 Y.2.2.2.1 ∈ tu_tb) ∧ (Y.1.cls ≠ "java/lang/invoke/MethodHandle" ∧ Y.1.cls ≠ "java/lang/invoke/VarHandle" ∧ (parseMethodDescriptor Y.1.desc).map (fun d => d.parameters.length) = some n)
def tu_sS (own : String) (idx : Nat) (Y : tu_Y) (n : Nat) : Prop := (Cond.methodLink own idx Y.1 ∈ tu_tb ∧ Cond.static Y.1 ∈ tu_tb ∧ Cond.initialized Y.1.cls ∈ tu_tb ∧ Cond.code Y.1 Y.2.1 Y.2.2.1 Y.2.2.2.1 ∈ tu_tb) ∧ (Y.1.cls ≠ "java/lang/invoke/MethodHandle" ∧ Y.1.cls ≠ "java/lang/invoke/VarHandle" ∧ (parseMethodDescriptor Y.1.desc).map (fun d => d.parameters.length) = some n)
theorem tu_gd {Y' Y : tu_Y} (hc : Cond.code Y.1 Y.2.1 Y.2.2.1 Y.2.2.2.1 ∈ tu_tb) : GoodIn (tu_wd Y') (tu_wd Y) := by
  intro w hw
  rcases List.mem_cons.mp hw with rfl | hw
  · exact ⟨List.mem_cons_of_mem _ hc, tu_tb_good _ hc⟩
  · exact ⟨List.mem_cons_of_mem _ hw, tu_tb_good _ hw⟩
theorem tu_gt {Y : tu_Y} (hc : Cond.code Y.1 Y.2.1 Y.2.2.1 Y.2.2.2.1 ∈ tu_tb) : GoodIn tu_tb (tu_wd Y) := by
  intro w hw
  rcases List.mem_cons.mp hw with rfl | hw
  · exact ⟨hc, tu_tb_good _ hc⟩
  · exact ⟨hw, tu_tb_good _ hw⟩
theorem tu_blind {g : tu_G} {ad : Nat → Nat} {av : List tu_v} {M : tu_M} : FrameBlind (tu_Pr g ad av M) := by
  intro a U f mk h
  obtain ⟨h1, h2, h3, h4, h5⟩ := h
  exact ⟨h1, h2, va_K.moved (u := U) (U := U.calling f mk a) (Vm.Alike.refl U.vm) h3, h4, tu_st.moved (u := U) (U := U.calling f mk a) (Vm.Alike.refl U.vm) h5⟩
section TC
variable {T : tu_T} {cc : ByteArray} {own : String} {fr lo : Nat} {lv : List (Nat × tu_v)} {st : List tu_v} {M : tu_M}
theorem tu_cB {R : Room} {s : State} {args : Array Value} {own : String} {idx : Nat} {Y : tu_Y} {n : Nat} (hts : ∀ w ∈ tu_tb, w.before args s = true) (hc : Cond.code Y.1 Y.2.1 Y.2.2.1 Y.2.2.2.1 ∈ tu_tb) (hi : Cond.initialized Y.1.cls ∈ tu_tb) (hl : Cond.methodLink own idx Y.1 ∈ tu_tb) (hd : Y.1.cls ≠ "java/lang/invoke/MethodHandle" ∧ Y.1.cls ≠ "java/lang/invoke/VarHandle" ∧ (parseMethodDescriptor Y.1.desc).map (fun d => d.parameters.length) = some n) (hr : Y.2.2.2.2.1 + 1 ≤ R.frames ∧ 8 + (Y.2.2.1 + 11) + Y.2.2.2.2.2 ≤ R.locals) : CallB R s args own idx Y.1 Y.2.1 Y.2.2.1 Y.2.2.2.1 (tu_wd Y) (tu_rm Y) 0 0 n :=
  callB_of (Ts := tu_tb) n hts (tu_gt hc) rfl rfl rfl (hts _ hi) (hts _ hl) hd hr
theorem tu_recv {g : tu_G} {ad : Nat → Nat} {M : tu_M} {s : State} {H : Heap} {b ci : Nat} {q : vw_C} {fs : List (Option Nat)} (hK : va_K g.1 tu_cs (tu_ty g) s) (hP : va_P g.1 tu_cs (tu_ws g ad M) H) (hb : b < 97) (hs : tu_sh b = (4, ci, fs)) (hc : tu_cs[ci]? = some q) : ∃ cell : Cell, H[ad b]? = some cell ∧ cell.vm.isStatics = false ∧ s.vm.findClass q.1 = some cell.cls :=
  va_recv hK hP hc (by rw [tu_ws_at hb, tu_ce4 hs])
theorem tu_room (l : List tu_v) (ad : Nat → Nat) {m : MethodId} {pc : Nat} {ls : Array Slot} {rest : List Value} (h : l.length ≤ 4) : 2 * (F0 m pc ls rest).monitorRoom + ((l.map (tu_vl ad)).map fun v => v.category).sum ≤ 8 := by
  apply lv_room
  have hc : ∀ v : Value, v.category ≤ 2 := fun v => by rcases lv_cat v with h | h <;> omega
  have h2 : ∀ l : List Value, (l.map fun v => v.category).sum ≤ 2 * l.length := by
    intro l
    induction l with
    | nil => exact Nat.zero_le _
    | cons a l ih =>
      have := hc a
      simp only [List.map_cons, List.sum_cons, List.length_cons]
      omega
  have := h2 (l.map (tu_vl ad))
  rw [List.length_map] at this
  omega
theorem tu_pre {g : tu_G} {ad : Nat → Nat} {M : tu_M} {s : State} {H : Heap} {locs : List Loc} {av : List tu_v} (hK : va_K g.1 tu_cs (tu_ty g) s) (hI : tu_inj ad) (hst : tu_st ad s s.heap) (hP : va_P g.1 tu_cs (tu_ws g ad M) H) (hS : va_S (tu_A ad) s.heap H locs) : ∀ U : State, U.heap = H → s.WarmedH U.vm → tu_Pr g ad av M (av.map (tu_vl ad)).toArray U := by
  intro U hU hW
  refine ⟨rfl, by rw [hU]; exact hP, va_K.moved hW.alike hK, hI, tu_st.kept (H := s.heap) (hst.moved hW.alike) (fun a h1 h2 => ?_)⟩
  rw [hU]; exact hS.2.1 a h1 h2
theorem tu_callVI (pc : Nat) (X : tu_X T cc own fr lo) {Y : tu_Y} {idx b ci n : Nat} {q : vw_C} {fs : List (Option Nat)} {as : List tu_v} {post : Int → tu_M → Prop} (hM : tu_MI Y (tu_r b :: as) M post) (hs : tu_sV own idx Y n) (hd : decode cc pc = .ok (.invokevirtual idx, 3)) (hn : as.length = n) (hb97 : b < 97) (hsh : tu_sh b = (4, ci, fs)) (hci : tu_cs[ci]? = some q) (hqc : q.1 = Y.1.cls) (hlen : st.length ≤ 4) (hroom : Y.2.2.2.2.1 + 1 ≤ fr ∧ 8 + (Y.2.2.1 + 11) + Y.2.2.2.2.2 ≤ lo)
    (kk : ∀ (z : Int) (M' : tu_M), post z M' → tu_W T (pc + 3) lv (tu_i z :: st) M') : tu_W T pc lv (as.reverse ++ tu_r b :: st) M := by
  obtain ⟨p, l, e, R, s, m, args, below, meth, c, nL, g, ad, kc, ks, Q⟩ := T
  obtain ⟨hx, hb, hml, hown, hts, hK, hI, hst, hfr, hlo, hkc, hks⟩ := X
  intro H locs ls hP hS hl
  obtain ⟨⟨hl0, hin, hse, hini, hco⟩, hd3⟩ := hs
  have hr : Y.2.2.2.2.1 + 1 ≤ R.frames ∧ 8 + (Y.2.2.1 + 11) + Y.2.2.2.2.2 ≤ R.locals := ⟨Nat.le_trans hroom.1 hfr, Nat.le_trans hroom.2 hlo⟩
  have cw : CallW R s args own Y.1.cls idx Y.1 Y.2.1 Y.2.2.1 Y.2.2.2.1 (tu_wd Y) (tu_rm Y) 0 0 n := ⟨tu_cB hts hco hini hl0 hd3 hr, hts _ hin, hts _ hse⟩
  have hrc := tu_recv (M := M) (H := H) hK hP hb97 hsh hci
  rw [hqc] at hrc
  have e1 : (as.reverse ++ tu_r b :: st).map (tu_vl ad) = (as.map (tu_vl ad)).reverse ++ .ref (ad b) :: st.map (tu_vl ad) := by simp [List.map_reverse, tu_vl]
  rw [e1]
  refine va_calli (A1 := tu_A ad) (a := (Value.ref (ad b) :: as.map (tu_vl ad)).toArray) (va_runV (cc := cc) (nL := nL) (Ts := tu_tb) (own := own) (C := Y.1.cls) (b := ad b) (As := as.map (tu_vl ad)) (rest := st.map (tu_vl ad)) ⟨hx, hb, hml, hown, hts⟩ (hM l g ad) cw ⟨tu_blind, hrc, tu_pre (av := tu_r b :: as) hK hI hst hP hS⟩ rfl (by simpa using hn) hl.1 rfl (tu_room st ad hlen) hd ⟨by omega, by omega⟩) hS (fun q _ h => h) (fun q h => h) (fun r M' t H1 locs1 ht hvm hpost hB hz hk hS1 => ?_)
  obtain ⟨z, rfl, hpost⟩ := hpost
  obtain ⟨hP1, -, -, -⟩ := hB
  rw [ht] at hP1
  exact kk z M' hpost H1 locs1 ls hP1 hS1 hl
theorem tu_callVV (pc : Nat) (X : tu_X T cc own fr lo) {Y : tu_Y} {idx b ci n : Nat} {q : vw_C} {fs : List (Option Nat)} {as : List tu_v} {post : tu_M → Prop} (hM : tu_MV Y (tu_r b :: as) M post) (hs : tu_sV own idx Y n) (hd : decode cc pc = .ok (.invokevirtual idx, 3)) (hn : as.length = n) (hb97 : b < 97) (hsh : tu_sh b = (4, ci, fs)) (hci : tu_cs[ci]? = some q) (hqc : q.1 = Y.1.cls) (hlen : st.length ≤ 4) (hroom : Y.2.2.2.2.1 + 1 ≤ fr ∧ 8 + (Y.2.2.1 + 11) + Y.2.2.2.2.2 ≤ lo)
    (kk : ∀ (M' : tu_M), post M' → tu_W T (pc + 3) lv st M') : tu_W T pc lv (as.reverse ++ tu_r b :: st) M := by
  obtain ⟨p, l, e, R, s, m, args, below, meth, c, nL, g, ad, kc, ks, Q⟩ := T
  obtain ⟨hx, hb, hml, hown, hts, hK, hI, hst, hfr, hlo, hkc, hks⟩ := X
  intro H locs ls hP hS hl
  obtain ⟨⟨hl0, hin, hse, hini, hco⟩, hd3⟩ := hs
  have hr : Y.2.2.2.2.1 + 1 ≤ R.frames ∧ 8 + (Y.2.2.1 + 11) + Y.2.2.2.2.2 ≤ R.locals := ⟨Nat.le_trans hroom.1 hfr, Nat.le_trans hroom.2 hlo⟩
  have cw : CallW R s args own Y.1.cls idx Y.1 Y.2.1 Y.2.2.1 Y.2.2.2.1 (tu_wd Y) (tu_rm Y) 0 0 n := ⟨tu_cB hts hco hini hl0 hd3 hr, hts _ hin, hts _ hse⟩
  have hrc := tu_recv (M := M) (H := H) hK hP hb97 hsh hci
  rw [hqc] at hrc
  have e1 : (as.reverse ++ tu_r b :: st).map (tu_vl ad) = (as.map (tu_vl ad)).reverse ++ .ref (ad b) :: st.map (tu_vl ad) := by simp [List.map_reverse, tu_vl]
  rw [e1]
  refine va_callv (A1 := tu_A ad) (a := (Value.ref (ad b) :: as.map (tu_vl ad)).toArray) (va_runV (cc := cc) (nL := nL) (Ts := tu_tb) (own := own) (C := Y.1.cls) (b := ad b) (As := as.map (tu_vl ad)) (rest := st.map (tu_vl ad)) ⟨hx, hb, hml, hown, hts⟩ (hM l g ad) cw ⟨tu_blind, hrc, tu_pre (av := tu_r b :: as) hK hI hst hP hS⟩ rfl (by simpa using hn) hl.1 rfl (tu_room st ad hlen) hd ⟨by omega, by omega⟩) hS (fun q _ h => h) (fun q h => h) (fun M' t H1 locs1 ht hvm hpost hB hz hk hS1 => ?_)
  obtain ⟨hP1, -, -, -⟩ := hB
  rw [ht] at hP1
  exact kk M' hpost H1 locs1 ls hP1 hS1 hl
theorem tu_callSI (pc : Nat) (X : tu_X T cc own fr lo) {Y : tu_Y} {idx n : Nat} {as : List tu_v} {post : Int → tu_M → Prop} (hM : tu_MI Y as M post) (hs : tu_sS own idx Y n) (hd : decode cc pc = .ok (.invokestatic idx, 3)) (hn : as.length = n) (hlen : st.length ≤ 4) (hroom : Y.2.2.2.2.1 + 1 ≤ fr ∧ 8 + (Y.2.2.1 + 11) + Y.2.2.2.2.2 ≤ lo)
    (kk : ∀ (z : Int) (M' : tu_M), post z M' → tu_W T (pc + 3) lv (tu_i z :: st) M') : tu_W T pc lv (as.reverse ++ st) M := by
  obtain ⟨p, l, e, R, s, m, args, below, meth, c, nL, g, ad, kc, ks, Q⟩ := T
  obtain ⟨hx, hb, hml, hown, hts, hK, hI, hst, hfr, hlo, hkc, hks⟩ := X
  intro H locs ls hP hS hl
  obtain ⟨⟨hl0, hstt, hini, hco⟩, hd3⟩ := hs
  have hr : Y.2.2.2.2.1 + 1 ≤ R.frames ∧ 8 + (Y.2.2.1 + 11) + Y.2.2.2.2.2 ≤ R.locals := ⟨Nat.le_trans hroom.1 hfr, Nat.le_trans hroom.2 hlo⟩
  have e1 : (as.reverse ++ st).map (tu_vl ad) = (as.map (tu_vl ad)).reverse ++ st.map (tu_vl ad) := by simp [List.map_reverse]
  rw [e1]
  refine va_calli (A1 := tu_A ad) (a := (as.map (tu_vl ad)).toArray) (va_runS (cc := cc) (nL := nL) (Ts := tu_tb) (own := own) (As := as.map (tu_vl ad)) (rest := st.map (tu_vl ad)) ⟨hx, hb, hml, hown, hts⟩ (hM l g ad) ⟨tu_cB hts hco hini hl0 hd3 hr, hts _ hstt⟩ ⟨tu_blind, tu_pre (av := as) hK hI hst hP hS⟩ rfl (by simpa using hn) hl.1 rfl (tu_room st ad hlen) hd ⟨by omega, by omega⟩) hS (fun q _ h => h) (fun q h => h) (fun r M' t H1 locs1 ht hvm hpost hB hz hk hS1 => ?_)
  obtain ⟨z, rfl, hpost⟩ := hpost
  obtain ⟨hP1, -, -, -⟩ := hB
  rw [ht] at hP1
  exact kk z M' hpost H1 locs1 ls hP1 hS1 hl
theorem tu_callSV (pc : Nat) (X : tu_X T cc own fr lo) {Y : tu_Y} {idx n : Nat} {as : List tu_v} {post : tu_M → Prop} (hM : tu_MV Y as M post) (hs : tu_sS own idx Y n) (hd : decode cc pc = .ok (.invokestatic idx, 3)) (hn : as.length = n) (hlen : st.length ≤ 4) (hroom : Y.2.2.2.2.1 + 1 ≤ fr ∧ 8 + (Y.2.2.1 + 11) + Y.2.2.2.2.2 ≤ lo)
    (kk : ∀ (M' : tu_M), post M' → tu_W T (pc + 3) lv st M') : tu_W T pc lv (as.reverse ++ st) M := by
  obtain ⟨p, l, e, R, s, m, args, below, meth, c, nL, g, ad, kc, ks, Q⟩ := T
  obtain ⟨hx, hb, hml, hown, hts, hK, hI, hst, hfr, hlo, hkc, hks⟩ := X
  intro H locs ls hP hS hl
  obtain ⟨⟨hl0, hstt, hini, hco⟩, hd3⟩ := hs
  have hr : Y.2.2.2.2.1 + 1 ≤ R.frames ∧ 8 + (Y.2.2.1 + 11) + Y.2.2.2.2.2 ≤ R.locals := ⟨Nat.le_trans hroom.1 hfr, Nat.le_trans hroom.2 hlo⟩
  have e1 : (as.reverse ++ st).map (tu_vl ad) = (as.map (tu_vl ad)).reverse ++ st.map (tu_vl ad) := by simp [List.map_reverse]
  rw [e1]
  refine va_callv (A1 := tu_A ad) (a := (as.map (tu_vl ad)).toArray) (va_runS (cc := cc) (nL := nL) (Ts := tu_tb) (own := own) (As := as.map (tu_vl ad)) (rest := st.map (tu_vl ad)) ⟨hx, hb, hml, hown, hts⟩ (hM l g ad) ⟨tu_cB hts hco hini hl0 hd3 hr, hts _ hstt⟩ ⟨tu_blind, tu_pre (av := as) hK hI hst hP hS⟩ rfl (by simpa using hn) hl.1 rfl (tu_room st ad hlen) hd ⟨by omega, by omega⟩) hS (fun q _ h => h) (fun q h => h) (fun M' t H1 locs1 ht hvm hpost hB hz hk hS1 => ?_)
  obtain ⟨hP1, -, -, -⟩ := hB
  rw [ht] at hP1
  exact kk M' hpost H1 locs1 ls hP1 hS1 hl
end TC
end
section
/-! rows of the library's members, of the static tables, of longs; jumps -/
section TD
variable {T : tu_T} {cc : ByteArray} {own : String} {fr lo : Nat} {lv : List (Nat × tu_v)} {st : List tu_v} {M : tu_M}
theorem tu_n1 : Cond.native arraycopyName ∈ tu_tb := tu_tb_in 67 rfl rfl
theorem tu_n2 : Cond.static arraycopyName ∈ tu_tb := tu_tb_in 66 rfl rfl
theorem tu_n3 : Cond.initialized "java/lang/System" ∈ tu_tb := tu_tb_in 44 rfl rfl
theorem tu_n4 : Cond.initialized "java/lang/Math" ∈ tu_tb := tu_tb_in 48 rfl rfl
theorem tu_n5 : Cond.static Lib.Math.min.name ∈ tu_tb := tu_tb_in 381 rfl rfl
theorem tu_n6 : Cond.code Lib.Math.min.name Lib.Math.min.code 2 (some .int) ∈ tu_tb := tu_tb_in 382 (by decide +kernel) rfl
theorem tu_n7 : Cond.static Lib.Math.max.name ∈ tu_tb := tu_tb_in 408 rfl rfl
theorem tu_n8 : Cond.code Lib.Math.max.name Lib.Math.max.code 2 (some .int) ∈ tu_tb := tu_tb_in 409 (by decide +kernel) rfl
theorem tu_J0 {z : Int} {n : Nat} (h : z = (n : Int)) (hn : n < 2147483648) : ¬ tu_J z < 0 := by
  subst h; rw [tu_J_n]; exact nI_pos (by omega)
theorem tu_cl' {j : Int} {k : Nat} (hj : j = (k : Int)) (hk : k < 2147483648) : (tu_J j).toNatClampNeg = k := by
  subst hj; rw [tu_J_n]; exact nI_clamp (by omega)
theorem tu_cpy (f g : Nat → Int) (sp dp n : Nat) : va_cpy (fun j => tu_J (f j)) (fun j => tu_J (g j)) sp dp n = fun j => tu_J (va_cpy f g sp dp n j) := by
  funext j
  unfold va_cpy
  split <;> rfl
theorem tu_sum (l : List tu_v) (ad : Nat → Nat) (h : l.length ≤ 4) : ((l.map (tu_vl ad)).map fun v => v.category).sum ≤ 8 := by
  have hc : ∀ v : Value, v.category ≤ 2 := fun v => by rcases lv_cat v with h | h <;> omega
  have h2 : ∀ l : List Value, (l.map fun v => v.category).sum ≤ 2 * l.length := by
    intro l
    induction l with
    | nil => exact Nat.zero_le _
    | cons a l ih =>
      have := hc a
      simp only [List.map_cons, List.sum_cons, List.length_cons]
      omega
  have := h2 (l.map (tu_vl ad))
  rw [List.length_map] at this
  omega
theorem tu_copy (pc : Nat) (X : tu_X T cc own fr lo) {idx i0 i1 n0 n1 : Nat} {sp dp n : Int} {M' : tu_M} (a b k : Nat) (hw : Cond.methodLink own idx arraycopyName ∈ tu_tb) (hd : decode cc pc = .ok (.invokestatic idx, 3)) (h0 : i0 < 97) (h1 : i1 < 97) (hs0 : tu_sh i0 = (0, n0, [])) (hs1 : tu_sh i1 = (0, n1, [])) (hn0 : n0 < 2147483648) (hn1 : n1 < 2147483648) (ha : sp = (a : Int)) (hb2 : dp = (b : Int)) (hk : n = (k : Int)) (h4 : a + k ≤ n0) (h5 : b + k ≤ n1) (hM : tu_row M i1 (va_cpy (M i0) (M i1) a b k) = M') (hlen : st.length ≤ 4) (hfr1 : 1 ≤ fr) (hlo1 : 8 + (nativeFrameWords "java/lang/System" "arraycopy" 5 + 11) ≤ lo)
    (kk : tu_W T (pc + 3) lv st M') : tu_W T pc lv (tu_i n :: tu_i dp :: tu_r i1 :: tu_i sp :: tu_r i0 :: st) M := by
  obtain ⟨p, l, e, R, s, m, args, below, meth, c, nL, g, ad, kc, ks, Q⟩ := T
  obtain ⟨hx, hb, hml, hown, hts, hK, hI, hst, hfr, hlo, hkc, hks⟩ := X
  intro H locs ls hP hS hl
  subst hM
  have hsum := tu_sum st ad hlen
  refine va_copyi (sp := tu_J sp) (dp := tu_J dp) (n := tu_J n) hx hb (hml.trans hl.1.symm) hown (hts _ hw) (hts _ tu_n1) (hts _ tu_n2) (hts _ tu_n3) hK hP (tu_D hI) hS i0 i1 0 0 (by rw [tu_ws_at h0, tu_ce0 hs0]) (by rw [tu_ws_at h1, tu_ce0 hs1]) rfl rfl rfl (tu_J0 ha (by omega)) (tu_J0 hb2 (by omega)) (tu_J0 hk (by omega)) (by rw [tu_cl' ha (by omega), tu_cl' hk (by omega)]; exact h4) (by rw [tu_cl' hb2 (by omega), tu_cl' hk (by omega)]; exact h5) (fun _ _ => rfl) (by omega) (by omega) hd (fun H1 locs1 hP1 _ hS1 => kk H1 locs1 ls ?_ hS1 hl)
  rw [tu_cl' ha (by omega), tu_cl' hb2 (by omega), tu_cl' hk (by omega), tu_cpy] at hP1
  rw [tu_ws_set (f := va_cpy (M i0) (M i1) a b k)] at hP1
  · exact hP1
  · rw [tu_ce0 hs1]
theorem tu_mmin (pc : Nat) (X : tu_X T cc own fr lo) {idx : Nat} {a b : Int} (hw : Cond.methodLink own idx Lib.Math.min.name ∈ tu_tb) (hd : decode cc pc = .ok (.invokestatic idx, 3)) (ha : tu_rg a) (hb2 : tu_rg b) (hlen : st.length ≤ 4) (hfr1 : 1 ≤ fr) (hlo1 : 21 ≤ lo)
    (kk : tu_W T (pc + 3) lv (tu_i (min a b) :: st) M) : tu_W T pc lv (tu_i b :: tu_i a :: st) M := by
  obtain ⟨p, l, e, R, s, m, args, below, meth, c, nL, g, ad, kc, ks, Q⟩ := T
  obtain ⟨hx, hb, hml, hown, hts, hK, hI, hst, hfr, hlo, hkc, hks⟩ := X
  intro H locs ls hP hS hl
  have hsum := tu_sum st ad hlen
  have h := kk H locs ls hP hS hl
  refine va_mmin (x := tu_J a) (y := tu_J b) hx hb (hml.trans hl.1.symm) hown (hts _ hw) (hts _ tu_n5) (hts _ tu_n4) (hts _ tu_n6) (by omega) (by omega) hkc hks hd ?_
  have e1 : (if tu_J b < tu_J a then tu_J b else tu_J a) = tu_J (min a b) := by
    by_cases q : b < a
    · rw [if_pos ((tu_J_lt hb2 ha).mpr q), Int.min_eq_right (by omega)]
    · rw [if_neg (fun z => q ((tu_J_lt hb2 ha).mp z)), Int.min_eq_left (by omega)]
  rw [e1]
  exact h
theorem tu_mmax (pc : Nat) (X : tu_X T cc own fr lo) {idx : Nat} {a b : Int} (hw : Cond.methodLink own idx Lib.Math.max.name ∈ tu_tb) (hd : decode cc pc = .ok (.invokestatic idx, 3)) (ha : tu_rg a) (hb2 : tu_rg b) (hlen : st.length ≤ 4) (hfr1 : 1 ≤ fr) (hlo1 : 21 ≤ lo)
    (kk : tu_W T (pc + 3) lv (tu_i (max a b) :: st) M) : tu_W T pc lv (tu_i b :: tu_i a :: st) M := by
  obtain ⟨p, l, e, R, s, m, args, below, meth, c, nL, g, ad, kc, ks, Q⟩ := T
  obtain ⟨hx, hb, hml, hown, hts, hK, hI, hst, hfr, hlo, hkc, hks⟩ := X
  intro H locs ls hP hS hl
  have hsum := tu_sum st ad hlen
  have h := kk H locs ls hP hS hl
  refine va_mmax (x := tu_J a) (y := tu_J b) hx hb (hml.trans hl.1.symm) hown (hts _ hw) (hts _ tu_n7) (hts _ tu_n4) (hts _ tu_n8) (by omega) (by omega) hkc hks hd ?_
  have e1 : (if tu_J a < tu_J b then tu_J b else tu_J a) = tu_J (max a b) := by
    by_cases q : a < b
    · rw [if_pos ((tu_J_lt ha hb2).mpr q), Int.max_eq_right (by omega)]
    · rw [if_neg (fun z => q ((tu_J_lt ha hb2).mp z)), Int.max_eq_left (by omega)]
  rw [e1]
  exact h
theorem tu_gets1 (pc : Nat) (X : tu_X T cc own fr lo) {idx : Nat} (hw : Cond.fieldLink own idx RX3 "LEAST_VALUES" "[I" ∈ tu_tb) (hd : decode cc pc = .ok (.getstatic idx, 3)) (kk : tu_W T (pc + 3) lv (tu_r 97 :: st) M) : tu_W T pc lv st M := by
  obtain ⟨p, l, e, R, s, m, args, below, meth, c, nL, g, ad, kc, ks, Q⟩ := T
  obtain ⟨hx, hb, hml, hown, hts, hK, hI, hst, hfr, hlo, hkc, hks⟩ := X
  intro H locs ls hP hS hl
  exact va_gets hx hb hst.1.1 hS hown (hts _ hw) (fun _ h => h) hd (kk H locs ls hP hS hl)
theorem tu_gets2 (pc : Nat) (X : tu_X T cc own fr lo) {idx : Nat} (hw : Cond.fieldLink own idx RX3 "GREATEST_VALUES" "[I" ∈ tu_tb) (hd : decode cc pc = .ok (.getstatic idx, 3)) (kk : tu_W T (pc + 3) lv (tu_r 98 :: st) M) : tu_W T pc lv st M := by
  obtain ⟨p, l, e, R, s, m, args, below, meth, c, nL, g, ad, kc, ks, Q⟩ := T
  obtain ⟨hx, hb, hml, hown, hts, hK, hI, hst, hfr, hlo, hkc, hks⟩ := X
  intro H locs ls hP hS hl
  exact va_gets hx hb hst.2.1 hS hown (hts _ hw) (fun _ h => h) hd (kk H locs ls hP hS hl)
theorem tu_tald1 (pc : Nat) (X : tu_X T cc own fr lo) {j : Int} (q : Nat) (hd : decode cc pc = .ok (.iaload, 1)) (hj : j = (q : Int)) (hq : q < 4) (kk : tu_W T (pc + 1) lv (tu_i (tu_f1 q) :: st) M) : tu_W T pc lv (tu_i j :: tu_r 97 :: st) M := by
  obtain ⟨p, l, e, R, s, m, args, below, meth, c, nL, g, ad, kc, ks, Q⟩ := T
  obtain ⟨hx, hb, hml, hown, hts, hK, hI, hst, hfr, hlo, hkc, hks⟩ := X
  intro H locs ls hP hS hl
  exact va_ti hx hb hst.1.2 hS (tu_in hj hq (by decide)) (v := .int (tu_J (tu_f1 q))) (by rw [tu_cl hj hq (by decide)]) hd (kk H locs ls hP hS hl)
theorem tu_tald2 (pc : Nat) (X : tu_X T cc own fr lo) {j : Int} (q : Nat) (hd : decode cc pc = .ok (.iaload, 1)) (hj : j = (q : Int)) (hq : q < 4) (kk : tu_W T (pc + 1) lv (tu_i (tu_f2 q) :: st) M) : tu_W T pc lv (tu_i j :: tu_r 98 :: st) M := by
  obtain ⟨p, l, e, R, s, m, args, below, meth, c, nL, g, ad, kc, ks, Q⟩ := T
  obtain ⟨hx, hb, hml, hown, hts, hK, hI, hst, hfr, hlo, hkc, hks⟩ := X
  intro H locs ls hP hS hl
  exact va_ti hx hb hst.2.2 hS (tu_in hj hq (by decide)) (v := .int (tu_J (tu_f2 q))) (by rw [tu_cl hj hq (by decide)]) hd (kk H locs ls hP hS hl)
/-! longs, as numbers below 2^64 -/
def tu_n64 (x : Int64) : Nat := x.toBitVec.toNat
theorem tu_n64_K (x : Int64) : tu_K (tu_n64 x) = x := by
  apply Int64.toBitVec_inj.mp
  simp [tu_K, tu_n64]
theorem tu_n64_lt (x : Int64) : tu_n64 x < 18446744073709551616 := x.toBitVec.isLt
theorem tu_K_b (u : Nat) : (tu_K u).toBitVec = BitVec.ofNat 64 u := by simp [tu_K]
theorem tu_rawL {ad : Nat → Nat} {x : Int64} {st : List tu_v} : (tu_l (tu_n64 x) :: st).map (tu_vl ad) = .long x :: st.map (tu_vl ad) := by
  show Value.long (tu_K (tu_n64 x)) :: _ = _
  rw [tu_n64_K]
theorem tu_land (pc : Nat) (X : tu_X T cc own fr lo) {a b : Nat} (hd : decode cc pc = .ok (.land, 1)) (kk : tu_W T (pc + 1) lv (tu_l (a &&& b) :: st) M) : tu_W T pc lv (tu_l b :: tu_l a :: st) M := by
  obtain ⟨p, l, e, R, s, m, args, below, meth, c, nL, g, ad, kc, ks, Q⟩ := T
  obtain ⟨hx, hb, hml, hown, hts, hK, hI, hst, hfr, hlo, hkc, hks⟩ := X
  intro H locs ls hP hS hl
  have h := kk H locs ls hP hS hl
  have e1 : tu_K (a &&& b) = tu_K a &&& tu_K b := by
    apply Int64.toBitVec_inj.mp
    rw [Int64.toBitVec_and, tu_K_b, tu_K_b, tu_K_b]
    apply BitVec.eq_of_toNat_eq
    simp [Nat.and_mod_two_pow]
  rw [show (tu_l (a &&& b) :: st).map (tu_vl ad) = .long (tu_K a &&& tu_K b) :: st.map (tu_vl ad) from by rw [← e1]; rfl] at h
  exact lv_land hx hb hd h
theorem tu_lushr (pc : Nat) (X : tu_X T cc own fr lo) {a : Nat} {b : Int} (k : Nat) (hd : decode cc pc = .ok (.lushr, 1)) (ha : a < 18446744073709551616) (hb2 : b = (k : Int)) (hk : k < 64) (kk : tu_W T (pc + 1) lv (tu_l (a / 2 ^ k) :: st) M) : tu_W T pc lv (tu_i b :: tu_l a :: st) M := by
  obtain ⟨p, l, e, R, s, m, args, below, meth, c, nL, g, ad, kc, ks, Q⟩ := T
  obtain ⟨hx, hb, hml, hown, hts, hK, hI, hst, hfr, hlo, hkc, hks⟩ := X
  intro H locs ls hP hS hl
  have h := kk H locs ls hP hS hl
  subst hb2
  have e0 : ∀ k : Nat, k < 64 → (((nI k).toInt64.toUInt64 &&& Int64.toUInt64 63).toBitVec % 64).toNat = k := by decide +kernel
  have e1 : ((tu_K a).toUInt64 >>> ((tu_J (k : Int)).toInt64.toUInt64 &&& Int64.toUInt64 63)).toInt64 = tu_K (a / 2 ^ k) := by
    apply Int64.toBitVec_inj.mp
    apply BitVec.eq_of_toNat_eq
    rw [tu_J_n]
    have e2 := e0 k hk
    have e3 : a / 2 ^ k < 18446744073709551616 := Nat.lt_of_le_of_lt (Nat.div_le_self _ _) ha
    simp only [UInt64.toBitVec_toInt64, UInt64.toBitVec_shiftRight, BitVec.ushiftRight_eq', BitVec.toNat_ushiftRight, Nat.shiftRight_eq_div_pow, tu_K_b, BitVec.toNat_ofNat]
    rw [e2]
    rw [show (tu_K a).toUInt64.toBitVec.toNat = a % 2 ^ 64 from by rw [show (tu_K a).toUInt64.toBitVec = (tu_K a).toBitVec from rfl, tu_K_b, BitVec.toNat_ofNat]]
    rw [Nat.mod_eq_of_lt (by omega), Nat.mod_eq_of_lt (by omega)]
  exact lv_lushr (v := tu_K (a / 2 ^ k)) hx hb hd e1 h
def tu_lc (a b : Nat) : Int := (lg_cmp (tu_K a) (tu_K b)).toInt
theorem tu_lcmp (pc : Nat) (X : tu_X T cc own fr lo) {a b : Nat} (hd : decode cc pc = .ok (.lcmp, 1)) (kk : tu_W T (pc + 1) lv (tu_i (tu_lc a b) :: st) M) : tu_W T pc lv (tu_l b :: tu_l a :: st) M := by
  obtain ⟨p, l, e, R, s, m, args, below, meth, c, nL, g, ad, kc, ks, Q⟩ := T
  obtain ⟨hx, hb, hml, hown, hts, hK, hI, hst, hfr, hlo, hkc, hks⟩ := X
  intro H locs ls hP hS hl
  have h := kk H locs ls hP hS hl
  rw [show (tu_i (tu_lc a b) :: st).map (tu_vl ad) = _ from tu_raw] at h
  exact W.lcmp hx hb hd h
theorem tu_l2i (pc : Nat) (X : tu_X T cc own fr lo) {a : Nat} (hd : decode cc pc = .ok (.l2i, 1)) (kk : tu_W T (pc + 1) lv (tu_i (a : Int) :: st) M) : tu_W T pc lv (tu_l a :: st) M := by
  obtain ⟨p, l, e, R, s, m, args, below, meth, c, nL, g, ad, kc, ks, Q⟩ := T
  obtain ⟨hx, hb, hml, hown, hts, hK, hI, hst, hfr, hlo, hkc, hks⟩ := X
  intro H locs ls hP hS hl
  have h := kk H locs ls hP hS hl
  exact lv_l2i (v := tu_J (a : Int)) hx hb hd (by rw [tu_J_n]; exact lN_i a) h
theorem tu_i2c (pc : Nat) (X : tu_X T cc own fr lo) {a : Int} (k : Nat) (hd : decode cc pc = .ok (.i2c, 1)) (ha : a = (k : Int)) (hk : k < 65536) (kk : tu_W T (pc + 1) lv (tu_i a :: st) M) : tu_W T pc lv (tu_i a :: st) M := by
  obtain ⟨p, l, e, R, s, m, args, below, meth, c, nL, g, ad, kc, ks, Q⟩ := T
  obtain ⟨hx, hb, hml, hown, hts, hK, hI, hst, hfr, hlo, hkc, hks⟩ := X
  intro H locs ls hP hS hl
  have h := kk H locs ls hP hS hl
  subst ha
  refine lv_i2c (v := tu_J (k : Int)) hx hb hd ?_ h
  rw [pk_char, tu_J_n, pk_tn (by omega), Nat.mod_eq_of_lt hk]
theorem tu_i2l (pc : Nat) (X : tu_X T cc own fr lo) {a : Int} (hd : decode cc pc = .ok (.i2l, 1)) (kk : tu_W T (pc + 1) lv (tu_l (tu_n64 (tu_J a).toInt64) :: st) M) : tu_W T pc lv (tu_i a :: st) M := by
  obtain ⟨p, l, e, R, s, m, args, below, meth, c, nL, g, ad, kc, ks, Q⟩ := T
  obtain ⟨hx, hb, hml, hown, hts, hK, hI, hst, hfr, hlo, hkc, hks⟩ := X
  intro H locs ls hP hS hl
  have h := kk H locs ls hP hS hl
  rw [show (tu_l (tu_n64 (tu_J a).toInt64) :: st).map (tu_vl ad) = _ from tu_rawL] at h
  exact lv_i2l hx hb hd rfl h
/-! jumps: other listed locals, the memory in another form -/
def tu_pk (lv : List (Nat × tu_v)) : List Nat → List (Nat × tu_v) → Prop
  | [], [] => True
  | p :: ps, q :: qs => lv[p]? = some q ∧ tu_pk lv ps qs
  | _, _ => False
theorem tu_ei {i : Nat} {x y : Int} (h : x = y) : some (i, tu_i x) = some (i, tu_i y) := by rw [h]
theorem tu_el {i : Nat} {x y : Nat} (h : x = y) : some (i, tu_l x) = some (i, tu_l y) := by rw [h]
theorem tu_pk_in {lv : List (Nat × tu_v)} : ∀ {ps : List Nat} {l : List (Nat × tu_v)}, tu_pk lv ps l → ∀ q ∈ l, q ∈ lv
  | [], [], _, q, h => by cases h
  | p :: ps, a :: l, h, q, hq => by
    rcases List.mem_cons.mp hq with rfl | hq
    · exact List.mem_of_getElem? h.1
    · exact tu_pk_in h.2 q hq
  | [], _ :: _, h, _, _ => h.elim
  | _ :: _, [], h, _, _ => h.elim
theorem tu_jmp {pc : Nat} {lv' : List (Nat × tu_v)} {M' : tu_M} (ps : List Nat) (hp : tu_pk lv ps lv') (hM : M = M') (kk : tu_W T pc lv' st M') : tu_W T pc lv st M := by
  obtain ⟨p, l, e, R, s, m, args, below, meth, c, nL, g, ad, kc, ks, Q⟩ := T
  subst hM
  intro H locs ls hP hS hl
  refine kk H locs ls hP hS ⟨hl.1, hl.2.1, fun q hq => ?_⟩
  obtain ⟨a, ha, rfl⟩ := List.mem_map.mp hq
  exact hl.2.2 _ (List.mem_map.mpr ⟨a, tu_pk_in hp a ha, rfl⟩)
theorem tu_st_eq {pc : Nat} {st' : List tu_v} {M' : tu_M} (h : st = st') (hM : M = M') (kk : tu_W T pc lv st' M') : tu_W T pc lv st M := by subst h; subst hM; exact kk
theorem tu_tp {pc : Nat} {a b : Int} (h : a = b) (kk : tu_W T pc lv (tu_i b :: st) M) : tu_W T pc lv (tu_i a :: st) M := by subst h; exact kk
end TD
/-! truth values -/
def tu_b (c : Prop) [Decidable c] : Int := if c then 1 else 0
theorem tu_b1 {c : Prop} [Decidable c] (h : c) : tu_b c = 1 := if_pos h
theorem tu_b0 {c : Prop} [Decidable c] (h : ¬ c) : tu_b c = 0 := if_neg h
theorem tu_b_rg {c : Prop} [Decidable c] : tu_rg (tu_b c) := by
  unfold tu_b; split <;> exact ⟨by decide, by decide⟩
theorem tu_b_01 {c : Prop} [Decidable c] : tu_b c = 0 ∨ tu_b c = 1 := by unfold tu_b; split <;> simp
theorem tu_b_e0 {c : Prop} [Decidable c] (h : tu_b c = 0) : ¬ c := fun z => by rw [tu_b1 z] at h; cases h
theorem tu_b_n0 {c : Prop} [Decidable c] (h : tu_b c ≠ 0) : c := Decidable.byContradiction fun z => h (tu_b0 z)
end
section
def tu_Y_X0_takeOver : tu_Y := (yX0_takeOver, cX0_takeOver, 2, none, 1, 40)
def tu_Y_X0_hasLine : tu_Y := (yX0_hasLine, cX0_hasLine, 2, (some .boolean), 0, 0)
def tu_Y_X0_hasPhrase : tu_Y := (yX0_hasPhrase, cX0_hasPhrase, 2, (some .boolean), 0, 0)
def tu_Y_X0_hasSyllable : tu_Y := (yX0_hasSyllable, cX0_hasSyllable, 3, (some .boolean), 1, 21)
def tu_Y_X0_hasBeat : tu_Y := (yX0_hasBeat, cX0_hasBeat, 3, (some .boolean), 1, 21)
def tu_Y_X0_beginPart : tu_Y := (yX0_beginPart, cX0_beginPart, 2, none, 0, 0)
def tu_Y_X0_addSign : tu_Y := (yX0_addSign, cX0_addSign, 2, none, 1, 22)
def tu_Y_X0_addSyllable : tu_Y := (yX0_addSyllable, cX0_addSyllable, 3, none, 0, 0)
def tu_Y_X0_addBeat : tu_Y := (yX0_addBeat, cX0_addBeat, 3, none, 0, 0)
def tu_Y_X0_removeLine : tu_Y := (yX0_removeLine, cX0_removeLine, 3, none, 1, 40)
def tu_Y_X0_removePhrase : tu_Y := (yX0_removePhrase, cX0_removePhrase, 3, none, 1, 40)
def tu_Y_X0_withoutNumber : tu_Y := (yX0_withoutNumber, cX0_withoutNumber, 5, (some .int), 0, 0)
def tu_Y_X0_addToBallad : tu_Y := (yX0_addToBallad, cX0_addToBallad, 2, none, 0, 0)
def tu_Y_X0_addToTune : tu_Y := (yX0_addToTune, cX0_addToTune, 2, none, 0, 0)
def tu_Y_X0_timesSung : tu_Y := (yX0_timesSung, cX0_timesSung, 2, (some .int), 1, 24)
def tu_Y_X0_timesPlayed : tu_Y := (yX0_timesPlayed, cX0_timesPlayed, 2, (some .int), 1, 24)
def tu_Y_X0_timesIn : tu_Y := (yX0_timesIn, cX0_timesIn, 5, (some .int), 0, 0)
def tu_Y_X0_burdens : tu_Y := (yX0_burdens, cX0_burdens, 3, (some .int), 2, 45)
def tu_Y_X0_stressedOf : tu_Y := (yX0_stressedOf, cX0_stressedOf, 4, (some .int), 0, 0)
def tu_Y_X0_beatsOfKind : tu_Y := (yX0_beatsOfKind, cX0_beatsOfKind, 5, (some .int), 0, 0)
def tu_Y_X0_longestRow : tu_Y := (yX0_longestRow, cX0_longestRow, 5, (some .int), 1, 21)
def tu_Y_X1_take : tu_Y := (yX1_take, cX1_take, 5, none, 1, 40)
def tu_Y_X1_turnStress : tu_Y := (yX1_turnStress, cX1_turnStress, 2, none, 0, 0)
def tu_Y_X1_leastCost : tu_Y := (yX1_leastCost, cX1_leastCost, 5, (some .int), 2, 45)
def tu_Y_X1_mostHeld : tu_Y := (yX1_mostHeld, cX1_mostHeld, 2, (some .int), 1, 21)
def tu_Y_X1_hurts : tu_Y := (yX1_hurts, cX1_hurts, 3, (some .boolean), 0, 0)
def tu_Y_X1_costOfFree : tu_Y := (yX1_costOfFree, cX1_costOfFree, 3, (some .int), 0, 0)
def tu_Y_X1_costOfHeld : tu_Y := (yX1_costOfHeld, cX1_costOfHeld, 4, (some .int), 1, 22)
def tu_Y_X1_countWays : tu_Y := (yX1_countWays, cX1_countWays, 4, (some .int), 3, 71)
def tu_Y_X1_waysFrom : tu_Y := (yX1_waysFrom, cX1_waysFrom, 7, (some .int), 2, 45)
def tu_Y_X1_findBestWay : tu_Y := (yX1_findBestWay, cX1_findBestWay, 3, none, 3, 68)
def tu_Y_X1_heldByBestWay : tu_Y := (yX1_heldByBestWay, cX1_heldByBestWay, 4, (some .int), 2, 45)
def tu_Y_X1_freeBeats : tu_Y := (yX1_freeBeats, cX1_freeBeats, 3, (some .int), 4, 90)
def tu_Y_X1_hurtSyllables : tu_Y := (yX1_hurtSyllables, cX1_hurtSyllables, 3, (some .int), 4, 90)
def tu_Y_X2_isSyllable : tu_Y := (yX2_isSyllable, cX2_isSyllable, 1, (some .boolean), 0, 0)
def tu_Y_X2_isBeat : tu_Y := (yX2_isBeat, cX2_isBeat, 1, (some .boolean), 0, 0)
def tu_Y_X2_signsIn : tu_Y := (yX2_signsIn, cX2_signsIn, 7, (some .int), 0, 0)
def tu_Y_X2_append : tu_Y := (yX2_append, cX2_append, 5, none, 0, 0)
def tu_Y_X2_beginsPart : tu_Y := (yX2_beginsPart, cX2_beginsPart, 2, (some .boolean), 0, 0)
def tu_Y_X2_parts : tu_Y := (yX2_parts, cX2_parts, 3, (some .int), 1, 21)
def tu_Y_X2_phraseParts : tu_Y := (yX2_phraseParts, cX2_phraseParts, 3, (some .int), 0, 0)
def tu_Y_X2_faultPlace : tu_Y := (yX2_faultPlace, cX2_faultPlace, 5, (some .int), 1, 20)
def tu_Y_X3_set : tu_Y := (yX3_set, cX3_set, 4, (some .int), 3, 83)
def tu_Y_X3_write : tu_Y := (yX3_write, cX3_write, 4, (some .int), 3, 83)
def tu_Y_X3_dropLine : tu_Y := (yX3_dropLine, cX3_dropLine, 2, (some .int), 3, 83)
def tu_Y_X3_dropPhrase : tu_Y := (yX3_dropPhrase, cX3_dropPhrase, 2, (some .int), 3, 83)
def tu_Y_X3_stress : tu_Y := (yX3_stress, cX3_stress, 6, (some .int), 3, 83)
def tu_Y_X3_beat : tu_Y := (yX3_beat, cX3_beat, 6, (some .int), 3, 83)
def tu_Y_X3_sing : tu_Y := (yX3_sing, cX3_sing, 2, (some .int), 3, 83)
def tu_Y_X3_play : tu_Y := (yX3_play, cX3_play, 2, (some .int), 3, 83)
def tu_Y_X3_verse : tu_Y := (yX3_verse, cX3_verse, 5, (some .int), 3, 83)
def tu_Y_X3_clear : tu_Y := (yX3_clear, cX3_clear, 3, (some .int), 3, 83)
def tu_Y_X3_line : tu_Y := (yX3_line, cX3_line, 3, (some .int), 5, 116)
def tu_Y_X3_phrase : tu_Y := (yX3_phrase, cX3_phrase, 3, (some .int), 2, 45)
def tu_Y_X3_isStressed : tu_Y := (yX3_isStressed, cX3_isStressed, 3, (some .int), 2, 43)
def tu_Y_X3_kindOf : tu_Y := (yX3_kindOf, cX3_kindOf, 3, (some .int), 2, 43)
def tu_Y_X3_count : tu_Y := (yX3_count, cX3_count, 2, (some .int), 3, 67)
def tu_Y_X3_at : tu_Y := (yX3_at, cX3_at, 3, (some .int), 0, 0)
def tu_Y_X3_fit : tu_Y := (yX3_fit, cX3_fit, 5, (some .int), 5, 112)
def tu_Y_X3_lies : tu_Y := (yX3_lies, cX3_lies, 5, (some .int), 4, 91)
def tu_Y_X3_whole : tu_Y := (yX3_whole, cX3_whole, 10, (some .int), 4, 91)
def tu_Y_X3_bestPhrase : tu_Y := (yX3_bestPhrase, cX3_bestPhrase, 10, (some .int), 4, 91)
def tu_Y_X3_bestChange : tu_Y := (yX3_bestChange, cX3_bestChange, 8, (some .int), 3, 69)
def tu_Y_X3_enoughBreath : tu_Y := (yX3_enoughBreath, cX3_enoughBreath, 7, (some .int), 3, 69)
def tu_Y_X3_put : tu_Y := (yX3_put, cX3_put, 4, (some .int), 1, 26)
def tu_Y_X3_wipe : tu_Y := (yX3_wipe, cX3_wipe, 2, (some .int), 0, 0)
def tu_Y_X3_fault : tu_Y := (yX3_fault, cX3_fault, 1, (some .int), 2, 44)
def tu_Y_X3_undo : tu_Y := (yX3_undo, cX3_undo, 1, (some .int), 2, 61)
def tu_Y_X3_save : tu_Y := (yX3_save, cX3_save, 2, (some .int), 2, 61)
def tu_Y_X3_restore : tu_Y := (yX3_restore, cX3_restore, 2, (some .int), 3, 83)
def tu_Y_X3_record : tu_Y := (yX3_record, cX3_record, 3, none, 2, 61)
def tu_Y_X3_leastCostOf : tu_Y := (yX3_leastCostOf, cX3_leastCostOf, 3, (some .int), 3, 69)
def tu_Y_X3_cheapestPhrase : tu_Y := (yX3_cheapestPhrase, cX3_cheapestPhrase, 6, (some .int), 4, 91)
def tu_Y_X4_moves : tu_Y := (yX4_moves, cX4_moves, 5, none, 0, 0)
def tu_Y_X4_within : tu_Y := (yX4_within, cX4_within, 3, (some .boolean), 0, 0)
def tu_Y_X4_has : tu_Y := (yX4_has, cX4_has, 2, (some .boolean), 0, 0)
def tu_Y_X4_bits : tu_Y := (yX4_bits, cX4_bits, 3, (some .int), 0, 0)
def tu_Y_X4_record : tu_Y := (yX4_record, cX4_record, 2, none, 1, 24)
def tu_Y_X4_isLine : tu_Y := (yX4_isLine, cX4_isLine, 2, (some .boolean), 1, 22)
def tu_Y_X4_isPhrase : tu_Y := (yX4_isPhrase, cX4_isPhrase, 2, (some .boolean), 1, 22)
def tu_Y_X4_lineLength : tu_Y := (yX4_lineLength, cX4_lineLength, 2, (some .int), 0, 0)
def tu_Y_X4_phraseLength : tu_Y := (yX4_phraseLength, cX4_phraseLength, 2, (some .int), 0, 0)
def tu_Y_X4_isSyllable : tu_Y := (yX4_isSyllable, cX4_isSyllable, 3, (some .boolean), 2, 43)
def tu_Y_X4_isBeat : tu_Y := (yX4_isBeat, cX4_isBeat, 3, (some .boolean), 2, 43)
def tu_Y_X4_sungTimes : tu_Y := (yX4_sungTimes, cX4_sungTimes, 4, (some .int), 0, 0)
def tu_Y_X4_playedTimes : tu_Y := (yX4_playedTimes, cX4_playedTimes, 4, (some .int), 0, 0)
def tu_Y_X4_look : tu_Y := (yX4_look, cX4_look, 3, none, 1, 21)
def tu_Y_X4_hurts : tu_Y := (yX4_hurts, cX4_hurts, 3, (some .boolean), 1, 21)
def tu_Y_X4_costOn : tu_Y := (yX4_costOn, cX4_costOn, 5, (some .int), 2, 43)
def tu_Y_X4_costFree : tu_Y := (yX4_costFree, cX4_costFree, 4, (some .int), 1, 21)
def tu_Y_X4_capped : tu_Y := (yX4_capped, cX4_capped, 1, (some .int), 0, 0)
def tu_Y_X4_takesIn : tu_Y := (yX4_takesIn, cX4_takesIn, 4, none, 1, 20)
def tu_Y_X4_findAt : tu_Y := (yX4_findAt, cX4_findAt, 5, none, 3, 67)
def tu_Y_X4_findCost : tu_Y := (yX4_findCost, cX4_findCost, 3, (some .int), 4, 91)
def tu_Y_X4_beatsFrom : tu_Y := (yX4_beatsFrom, cX4_beatsFrom, 4, (some .int), 3, 67)
def tu_Y_X4_findWay : tu_Y := (yX4_findWay, cX4_findWay, 3, none, 4, 90)
def tu_Y_X4_costOf : tu_Y := (yX4_costOf, cX4_costOf, 3, (some .int), 5, 113)
def tu_Y_X4_freeBeats : tu_Y := (yX4_freeBeats, cX4_freeBeats, 3, (some .int), 5, 112)
def tu_Y_X4_hurting : tu_Y := (yX4_hurting, cX4_hurting, 3, (some .int), 5, 112)
def tu_Y_X4_isValue : tu_Y := (yX4_isValue, cX4_isValue, 2, (some .boolean), 1, 22)
def tu_Y_X4_set : tu_Y := (yX4_set, cX4_set, 4, (some .int), 2, 45)
def tu_Y_X4_parts : tu_Y := (yX4_parts, cX4_parts, 5, (some .int), 0, 0)
def tu_Y_X4_writeLine : tu_Y := (yX4_writeLine, cX4_writeLine, 4, (some .int), 0, 0)
def tu_Y_X4_writePhrase : tu_Y := (yX4_writePhrase, cX4_writePhrase, 4, (some .int), 0, 0)
def tu_Y_X4_write : tu_Y := (yX4_write, cX4_write, 2, (some .int), 2, 45)
def tu_Y_X4_goes : tu_Y := (yX4_goes, cX4_goes, 7, (some .int), 0, 0)
def tu_Y_X4_dropLine : tu_Y := (yX4_dropLine, cX4_dropLine, 3, (some .int), 2, 45)
def tu_Y_X4_dropPhrase : tu_Y := (yX4_dropPhrase, cX4_dropPhrase, 3, (some .int), 2, 45)
def tu_Y_X4_stress : tu_Y := (yX4_stress, cX4_stress, 6, (some .int), 3, 65)
def tu_Y_X4_kindAt : tu_Y := (yX4_kindAt, cX4_kindAt, 3, (some .int), 1, 21)
def tu_Y_X4_beat : tu_Y := (yX4_beat, cX4_beat, 7, (some .int), 3, 65)
def tu_Y_X4_sings : tu_Y := (yX4_sings, cX4_sings, 2, none, 0, 0)
def tu_Y_X4_sing : tu_Y := (yX4_sing, cX4_sing, 2, (some .int), 2, 45)
def tu_Y_X4_play : tu_Y := (yX4_play, cX4_play, 2, (some .int), 2, 45)
def tu_Y_X4_verse : tu_Y := (yX4_verse, cX4_verse, 5, (some .int), 2, 45)
def tu_Y_X4_clear : tu_Y := (yX4_clear, cX4_clear, 4, (some .int), 2, 45)
def tu_Y_X4_cheapestPhrase : tu_Y := (yX4_cheapestPhrase, cX4_cheapestPhrase, 6, (some .int), 6, 135)
def tu_Y_X4_line : tu_Y := (yX4_line, cX4_line, 3, (some .int), 7, 160)
def tu_Y_X4_longestRow : tu_Y := (yX4_longestRow, cX4_longestRow, 5, (some .int), 2, 43)
def tu_Y_X4_phrase : tu_Y := (yX4_phrase, cX4_phrase, 5, (some .int), 3, 67)
def tu_Y_X4_isStressed : tu_Y := (yX4_isStressed, cX4_isStressed, 3, (some .int), 3, 65)
def tu_Y_X4_kindOf : tu_Y := (yX4_kindOf, cX4_kindOf, 3, (some .int), 3, 65)
def tu_Y_X4_burdens : tu_Y := (yX4_burdens, cX4_burdens, 3, (some .int), 1, 23)
def tu_Y_X4_count : tu_Y := (yX4_count, cX4_count, 2, (some .int), 2, 45)
def tu_Y_X4_at : tu_Y := (yX4_at, cX4_at, 3, (some .int), 1, 22)
def tu_Y_X4_fit : tu_Y := (yX4_fit, cX4_fit, 5, (some .int), 6, 135)
def tu_Y_X4_lies : tu_Y := (yX4_lies, cX4_lies, 5, (some .int), 6, 135)
def tu_Y_X4_phraseFor : tu_Y := (yX4_phraseFor, cX4_phraseFor, 2, (some .int), 0, 0)
def tu_Y_X4_whole : tu_Y := (yX4_whole, cX4_whole, 10, (some .int), 6, 135)
def tu_Y_X4_bestPhrase : tu_Y := (yX4_bestPhrase, cX4_bestPhrase, 9, (some .int), 6, 135)
def tu_Y_X4_bestChange : tu_Y := (yX4_bestChange, cX4_bestChange, 8, (some .int), 5, 113)
def tu_Y_X4_enoughBreath : tu_Y := (yX4_enoughBreath, cX4_enoughBreath, 7, (some .int), 5, 113)
def tu_Y_X4_put : tu_Y := (yX4_put, cX4_put, 8, (some .int), 1, 22)
def tu_Y_X4_wipe : tu_Y := (yX4_wipe, cX4_wipe, 2, (some .int), 0, 0)
def tu_Y_X4_findFault : tu_Y := (yX4_findFault, cX4_findFault, 9, (some .int), 0, 0)
def tu_Y_X4_fault : tu_Y := (yX4_fault, cX4_fault, 1, (some .int), 1, 28)
def tu_Y_X4_undo : tu_Y := (yX4_undo, cX4_undo, 1, (some .int), 1, 24)
def tu_Y_X4_save : tu_Y := (yX4_save, cX4_save, 2, (some .int), 1, 24)
def tu_Y_X4_restore : tu_Y := (yX4_restore, cX4_restore, 2, (some .int), 2, 45)
set_option maxRecDepth 20000 in
theorem co_X0_hasLine : Cond.code tu_Y_X0_hasLine.1 tu_Y_X0_hasLine.2.1 tu_Y_X0_hasLine.2.2.1 tu_Y_X0_hasLine.2.2.2.1 ∈ tu_tb := tu_tb_in 276 rfl rfl
set_option maxRecDepth 20000 in
theorem sv_RX0_55 : tu_sV RX0 55 tu_Y_X0_hasLine 1 := ⟨⟨tu_tb_in 304 rfl rfl, tu_tb_in 274 rfl rfl, tu_tb_in 275 rfl rfl, tu_tb_in 43 rfl rfl, co_X0_hasLine⟩, by decide, by decide, by decide⟩
set_option maxRecDepth 20000 in
theorem co_X0_hasPhrase : Cond.code tu_Y_X0_hasPhrase.1 tu_Y_X0_hasPhrase.2.1 tu_Y_X0_hasPhrase.2.2.1 tu_Y_X0_hasPhrase.2.2.2.1 ∈ tu_tb := tu_tb_in 291 rfl rfl
set_option maxRecDepth 20000 in
theorem sv_RX0_59 : tu_sV RX0 59 tu_Y_X0_hasPhrase 1 := ⟨⟨tu_tb_in 313 rfl rfl, tu_tb_in 289 rfl rfl, tu_tb_in 290 rfl rfl, tu_tb_in 43 rfl rfl, co_X0_hasPhrase⟩, by decide, by decide, by decide⟩
set_option maxRecDepth 20000 in
theorem co_X2_isSyllable : Cond.code tu_Y_X2_isSyllable.1 tu_Y_X2_isSyllable.2.1 tu_Y_X2_isSyllable.2.2.1 tu_Y_X2_isSyllable.2.2.2.1 ∈ tu_tb := tu_tb_in 234 rfl rfl
set_option maxRecDepth 20000 in
theorem ss_RX0_62 : tu_sS RX0 62 tu_Y_X2_isSyllable 1 := ⟨⟨tu_tb_in 259 rfl rfl, tu_tb_in 233 rfl rfl, tu_tb_in 45 rfl rfl, co_X2_isSyllable⟩, by decide, by decide, by decide⟩
set_option maxRecDepth 20000 in
theorem co_X0_addSyllable : Cond.code tu_Y_X0_addSyllable.1 tu_Y_X0_addSyllable.2.1 tu_Y_X0_addSyllable.2.2.1 tu_Y_X0_addSyllable.2.2.2.1 ∈ tu_tb := tu_tb_in 263 rfl rfl
set_option maxRecDepth 20000 in
theorem sv_RX0_68 : tu_sV RX0 68 tu_Y_X0_addSyllable 1 := ⟨⟨tu_tb_in 260 rfl rfl, tu_tb_in 261 rfl rfl, tu_tb_in 262 rfl rfl, tu_tb_in 43 rfl rfl, co_X0_addSyllable⟩, by decide, by decide, by decide⟩
set_option maxRecDepth 20000 in
theorem co_X2_isBeat : Cond.code tu_Y_X2_isBeat.1 tu_Y_X2_isBeat.2.1 tu_Y_X2_isBeat.2.2.1 tu_Y_X2_isBeat.2.2.2.1 ∈ tu_tb := tu_tb_in 237 rfl rfl
set_option maxRecDepth 20000 in
theorem ss_RX0_72 : tu_sS RX0 72 tu_Y_X2_isBeat 1 := ⟨⟨tu_tb_in 264 rfl rfl, tu_tb_in 236 rfl rfl, tu_tb_in 45 rfl rfl, co_X2_isBeat⟩, by decide, by decide, by decide⟩
set_option maxRecDepth 20000 in
theorem co_X0_addBeat : Cond.code tu_Y_X0_addBeat.1 tu_Y_X0_addBeat.2.1 tu_Y_X0_addBeat.2.2.1 tu_Y_X0_addBeat.2.2.2.1 ∈ tu_tb := tu_tb_in 268 rfl rfl
set_option maxRecDepth 20000 in
theorem sv_RX0_75 : tu_sV RX0 75 tu_Y_X0_addBeat 1 := ⟨⟨tu_tb_in 265 rfl rfl, tu_tb_in 266 rfl rfl, tu_tb_in 267 rfl rfl, tu_tb_in 43 rfl rfl, co_X0_addBeat⟩, by decide, by decide, by decide⟩
set_option maxRecDepth 20000 in
theorem co_X0_withoutNumber : Cond.code tu_Y_X0_withoutNumber.1 tu_Y_X0_withoutNumber.2.1 tu_Y_X0_withoutNumber.2.2.1 tu_Y_X0_withoutNumber.2.2.2.1 ∈ tu_tb := tu_tb_in 283 rfl rfl
set_option maxRecDepth 20000 in
theorem ss_RX0_78 : tu_sS RX0 78 tu_Y_X0_withoutNumber 3 := ⟨⟨tu_tb_in 281 rfl rfl, tu_tb_in 282 rfl rfl, tu_tb_in 43 rfl rfl, co_X0_withoutNumber⟩, by decide, by decide, by decide⟩
set_option maxRecDepth 20000 in
theorem co_X0_timesIn : Cond.code tu_Y_X0_timesIn.1 tu_Y_X0_timesIn.2.1 tu_Y_X0_timesIn.2.2.1 tu_Y_X0_timesIn.2.2.2.1 ∈ tu_tb := tu_tb_in 352 rfl rfl
set_option maxRecDepth 20000 in
theorem ss_RX0_82 : tu_sS RX0 82 tu_Y_X0_timesIn 3 := ⟨⟨tu_tb_in 350 rfl rfl, tu_tb_in 351 rfl rfl, tu_tb_in 43 rfl rfl, co_X0_timesIn⟩, by decide, by decide, by decide⟩
set_option maxRecDepth 20000 in
theorem co_X0_timesSung : Cond.code tu_Y_X0_timesSung.1 tu_Y_X0_timesSung.2.1 tu_Y_X0_timesSung.2.2.1 tu_Y_X0_timesSung.2.2.2.1 ∈ tu_tb := tu_tb_in 349 rfl rfl
set_option maxRecDepth 20000 in
theorem sv_RX0_85 : tu_sV RX0 85 tu_Y_X0_timesSung 1 := ⟨⟨tu_tb_in 426 rfl rfl, tu_tb_in 347 rfl rfl, tu_tb_in 348 rfl rfl, tu_tb_in 43 rfl rfl, co_X0_timesSung⟩, by decide, by decide, by decide⟩
set_option maxRecDepth 20000 in
theorem co_X1_costOfFree : Cond.code tu_Y_X1_costOfFree.1 tu_Y_X1_costOfFree.2.1 tu_Y_X1_costOfFree.2.2.1 tu_Y_X1_costOfFree.2.2.2.1 ∈ tu_tb := tu_tb_in 374 rfl rfl
set_option maxRecDepth 20000 in
theorem sv_RX1_71 : tu_sV RX1 71 tu_Y_X1_costOfFree 2 := ⟨⟨tu_tb_in 371 rfl rfl, tu_tb_in 373 rfl rfl, tu_tb_in 3 rfl rfl, tu_tb_in 46 rfl rfl, co_X1_costOfFree⟩, by decide, by decide, by decide⟩
set_option maxRecDepth 20000 in
theorem co_X1_mostHeld : Cond.code tu_Y_X1_mostHeld.1 tu_Y_X1_mostHeld.2.1 tu_Y_X1_mostHeld.2.2.1 tu_Y_X1_mostHeld.2.2.2.1 ∈ tu_tb := tu_tb_in 379 rfl rfl
set_option maxRecDepth 20000 in
theorem sv_RX1_76 : tu_sV RX1 76 tu_Y_X1_mostHeld 1 := ⟨⟨tu_tb_in 376 rfl rfl, tu_tb_in 378 rfl rfl, tu_tb_in 4 rfl rfl, tu_tb_in 46 rfl rfl, co_X1_mostHeld⟩, by decide, by decide, by decide⟩
set_option maxRecDepth 20000 in
theorem co_X1_costOfHeld : Cond.code tu_Y_X1_costOfHeld.1 tu_Y_X1_costOfHeld.2.1 tu_Y_X1_costOfHeld.2.2.1 tu_Y_X1_costOfHeld.2.2.2.1 ∈ tu_tb := tu_tb_in 386 rfl rfl
set_option maxRecDepth 20000 in
theorem sv_RX1_80 : tu_sV RX1 80 tu_Y_X1_costOfHeld 3 := ⟨⟨tu_tb_in 383 rfl rfl, tu_tb_in 385 rfl rfl, tu_tb_in 5 rfl rfl, tu_tb_in 46 rfl rfl, co_X1_costOfHeld⟩, by decide, by decide, by decide⟩
set_option maxRecDepth 20000 in
theorem co_X1_hurts : Cond.code tu_Y_X1_hurts.1 tu_Y_X1_hurts.2.1 tu_Y_X1_hurts.2.2.1 tu_Y_X1_hurts.2.2.2.1 ∈ tu_tb := tu_tb_in 390 rfl rfl
set_option maxRecDepth 20000 in
theorem sv_RX1_89 : tu_sV RX1 89 tu_Y_X1_hurts 2 := ⟨⟨tu_tb_in 387 rfl rfl, tu_tb_in 389 rfl rfl, tu_tb_in 6 rfl rfl, tu_tb_in 46 rfl rfl, co_X1_hurts⟩, by decide, by decide, by decide⟩
set_option maxRecDepth 20000 in
theorem co_X1_waysFrom : Cond.code tu_Y_X1_waysFrom.1 tu_Y_X1_waysFrom.2.1 tu_Y_X1_waysFrom.2.2.1 tu_Y_X1_waysFrom.2.2.2.1 ∈ tu_tb := tu_tb_in 442 rfl rfl
set_option maxRecDepth 20000 in
theorem sv_RX1_93 : tu_sV RX1 93 tu_Y_X1_waysFrom 3 := ⟨⟨tu_tb_in 439 rfl rfl, tu_tb_in 441 rfl rfl, tu_tb_in 7 rfl rfl, tu_tb_in 46 rfl rfl, co_X1_waysFrom⟩, by decide, by decide, by decide⟩
set_option maxRecDepth 20000 in
theorem co_X1_heldByBestWay : Cond.code tu_Y_X1_heldByBestWay.1 tu_Y_X1_heldByBestWay.2.1 tu_Y_X1_heldByBestWay.2.2.1 tu_Y_X1_heldByBestWay.2.2.2.1 ∈ tu_tb := tu_tb_in 454 rfl rfl
set_option maxRecDepth 20000 in
theorem sv_RX1_97 : tu_sV RX1 97 tu_Y_X1_heldByBestWay 2 := ⟨⟨tu_tb_in 451 rfl rfl, tu_tb_in 453 rfl rfl, tu_tb_in 8 rfl rfl, tu_tb_in 46 rfl rfl, co_X1_heldByBestWay⟩, by decide, by decide, by decide⟩
set_option maxRecDepth 20000 in
theorem co_X1_findBestWay : Cond.code tu_Y_X1_findBestWay.1 tu_Y_X1_findBestWay.2.1 tu_Y_X1_findBestWay.2.2.1 tu_Y_X1_findBestWay.2.2.2.1 ∈ tu_tb := tu_tb_in 450 rfl rfl
set_option maxRecDepth 20000 in
theorem sv_RX1_100 : tu_sV RX1 100 tu_Y_X1_findBestWay 0 := ⟨⟨tu_tb_in 447 rfl rfl, tu_tb_in 448 rfl rfl, tu_tb_in 449 rfl rfl, tu_tb_in 46 rfl rfl, co_X1_findBestWay⟩, by decide, by decide, by decide⟩
set_option maxRecDepth 20000 in
theorem co_X2_beginsPart : Cond.code tu_Y_X2_beginsPart.1 tu_Y_X2_beginsPart.2.1 tu_Y_X2_beginsPart.2.2.1 tu_Y_X2_beginsPart.2.2.2.1 ∈ tu_tb := tu_tb_in 249 rfl rfl
set_option maxRecDepth 20000 in
theorem sv_RX2_25 : tu_sV RX2 25 tu_Y_X2_beginsPart 1 := ⟨⟨tu_tb_in 246 rfl rfl, tu_tb_in 247 rfl rfl, tu_tb_in 248 rfl rfl, tu_tb_in 45 rfl rfl, co_X2_beginsPart⟩, by decide, by decide, by decide⟩
set_option maxRecDepth 20000 in
theorem ss_RX2_29 : tu_sS RX2 29 tu_Y_X2_isSyllable 1 := ⟨⟨tu_tb_in 232 rfl rfl, tu_tb_in 233 rfl rfl, tu_tb_in 45 rfl rfl, co_X2_isSyllable⟩, by decide, by decide, by decide⟩
set_option maxRecDepth 20000 in
theorem ss_RX2_33 : tu_sS RX2 33 tu_Y_X2_isBeat 1 := ⟨⟨tu_tb_in 235 rfl rfl, tu_tb_in 236 rfl rfl, tu_tb_in 45 rfl rfl, co_X2_isBeat⟩, by decide, by decide, by decide⟩
set_option maxRecDepth 20000 in
theorem co_X3_record : Cond.code tu_Y_X3_record.1 tu_Y_X3_record.2.1 tu_Y_X3_record.2.2.1 tu_Y_X3_record.2.2.2.1 ∈ tu_tb := tu_tb_in 219 rfl rfl
set_option maxRecDepth 20000 in
theorem sv_RX3_52 : tu_sV RX3 52 tu_Y_X3_record 0 := ⟨⟨tu_tb_in 216 rfl rfl, tu_tb_in 218 rfl rfl, tu_tb_in 0 rfl rfl, tu_tb_in 42 rfl rfl, co_X3_record⟩, by decide, by decide, by decide⟩
set_option maxRecDepth 20000 in
theorem co_X2_faultPlace : Cond.code tu_Y_X2_faultPlace.1 tu_Y_X2_faultPlace.2.1 tu_Y_X2_faultPlace.2.2.1 tu_Y_X2_faultPlace.2.2.2.1 ∈ tu_tb := tu_tb_in 231 rfl rfl
set_option maxRecDepth 20000 in
theorem sv_RX3_58 : tu_sV RX3 58 tu_Y_X2_faultPlace 0 := ⟨⟨tu_tb_in 228 rfl rfl, tu_tb_in 229 rfl rfl, tu_tb_in 230 rfl rfl, tu_tb_in 45 rfl rfl, co_X2_faultPlace⟩, by decide, by decide, by decide⟩
set_option maxRecDepth 20000 in
theorem co_X2_phraseParts : Cond.code tu_Y_X2_phraseParts.1 tu_Y_X2_phraseParts.2.1 tu_Y_X2_phraseParts.2.2.1 tu_Y_X2_phraseParts.2.2.2.1 ∈ tu_tb := tu_tb_in 241 rfl rfl
set_option maxRecDepth 20000 in
theorem sv_RX3_62 : tu_sV RX3 62 tu_Y_X2_phraseParts 0 := ⟨⟨tu_tb_in 238 rfl rfl, tu_tb_in 239 rfl rfl, tu_tb_in 240 rfl rfl, tu_tb_in 45 rfl rfl, co_X2_phraseParts⟩, by decide, by decide, by decide⟩
set_option maxRecDepth 20000 in
theorem co_X2_parts : Cond.code tu_Y_X2_parts.1 tu_Y_X2_parts.2.1 tu_Y_X2_parts.2.2.1 tu_Y_X2_parts.2.2.2.1 ∈ tu_tb := tu_tb_in 245 rfl rfl
set_option maxRecDepth 20000 in
theorem sv_RX3_65 : tu_sV RX3 65 tu_Y_X2_parts 0 := ⟨⟨tu_tb_in 242 rfl rfl, tu_tb_in 243 rfl rfl, tu_tb_in 244 rfl rfl, tu_tb_in 45 rfl rfl, co_X2_parts⟩, by decide, by decide, by decide⟩
set_option maxRecDepth 20000 in
theorem sv_RX3_77 : tu_sV RX3 77 tu_Y_X2_beginsPart 1 := ⟨⟨tu_tb_in 250 rfl rfl, tu_tb_in 247 rfl rfl, tu_tb_in 248 rfl rfl, tu_tb_in 45 rfl rfl, co_X2_beginsPart⟩, by decide, by decide, by decide⟩
set_option maxRecDepth 20000 in
theorem co_X0_beginPart : Cond.code tu_Y_X0_beginPart.1 tu_Y_X0_beginPart.2.1 tu_Y_X0_beginPart.2.2.1 tu_Y_X0_beginPart.2.2.2.1 ∈ tu_tb := tu_tb_in 254 rfl rfl
set_option maxRecDepth 20000 in
theorem sv_RX3_85 : tu_sV RX3 85 tu_Y_X0_beginPart 1 := ⟨⟨tu_tb_in 251 rfl rfl, tu_tb_in 252 rfl rfl, tu_tb_in 253 rfl rfl, tu_tb_in 43 rfl rfl, co_X0_beginPart⟩, by decide, by decide, by decide⟩
set_option maxRecDepth 20000 in
theorem co_X0_addSign : Cond.code tu_Y_X0_addSign.1 tu_Y_X0_addSign.2.1 tu_Y_X0_addSign.2.2.1 tu_Y_X0_addSign.2.2.2.1 ∈ tu_tb := tu_tb_in 258 rfl rfl
set_option maxRecDepth 20000 in
theorem sv_RX3_89 : tu_sV RX3 89 tu_Y_X0_addSign 1 := ⟨⟨tu_tb_in 255 rfl rfl, tu_tb_in 256 rfl rfl, tu_tb_in 257 rfl rfl, tu_tb_in 43 rfl rfl, co_X0_addSign⟩, by decide, by decide, by decide⟩
set_option maxRecDepth 20000 in
theorem sv_RX3_93 : tu_sV RX3 93 tu_Y_X0_hasLine 1 := ⟨⟨tu_tb_in 273 rfl rfl, tu_tb_in 274 rfl rfl, tu_tb_in 275 rfl rfl, tu_tb_in 43 rfl rfl, co_X0_hasLine⟩, by decide, by decide, by decide⟩
set_option maxRecDepth 20000 in
theorem co_X0_removeLine : Cond.code tu_Y_X0_removeLine.1 tu_Y_X0_removeLine.2.1 tu_Y_X0_removeLine.2.2.1 tu_Y_X0_removeLine.2.2.2.1 ∈ tu_tb := tu_tb_in 280 rfl rfl
set_option maxRecDepth 20000 in
theorem sv_RX3_96 : tu_sV RX3 96 tu_Y_X0_removeLine 1 := ⟨⟨tu_tb_in 277 rfl rfl, tu_tb_in 278 rfl rfl, tu_tb_in 279 rfl rfl, tu_tb_in 43 rfl rfl, co_X0_removeLine⟩, by decide, by decide, by decide⟩
set_option maxRecDepth 20000 in
theorem sv_RX3_103 : tu_sV RX3 103 tu_Y_X0_hasPhrase 1 := ⟨⟨tu_tb_in 288 rfl rfl, tu_tb_in 289 rfl rfl, tu_tb_in 290 rfl rfl, tu_tb_in 43 rfl rfl, co_X0_hasPhrase⟩, by decide, by decide, by decide⟩
set_option maxRecDepth 20000 in
theorem co_X0_removePhrase : Cond.code tu_Y_X0_removePhrase.1 tu_Y_X0_removePhrase.2.1 tu_Y_X0_removePhrase.2.2.1 tu_Y_X0_removePhrase.2.2.2.1 ∈ tu_tb := tu_tb_in 295 rfl rfl
set_option maxRecDepth 20000 in
theorem sv_RX3_106 : tu_sV RX3 106 tu_Y_X0_removePhrase 1 := ⟨⟨tu_tb_in 292 rfl rfl, tu_tb_in 293 rfl rfl, tu_tb_in 294 rfl rfl, tu_tb_in 43 rfl rfl, co_X0_removePhrase⟩, by decide, by decide, by decide⟩
set_option maxRecDepth 20000 in
theorem co_X0_hasSyllable : Cond.code tu_Y_X0_hasSyllable.1 tu_Y_X0_hasSyllable.2.1 tu_Y_X0_hasSyllable.2.2.1 tu_Y_X0_hasSyllable.2.2.2.1 ∈ tu_tb := tu_tb_in 303 rfl rfl
set_option maxRecDepth 20000 in
theorem sv_RX3_112 : tu_sV RX3 112 tu_Y_X0_hasSyllable 2 := ⟨⟨tu_tb_in 300 rfl rfl, tu_tb_in 301 rfl rfl, tu_tb_in 302 rfl rfl, tu_tb_in 43 rfl rfl, co_X0_hasSyllable⟩, by decide, by decide, by decide⟩
set_option maxRecDepth 20000 in
theorem co_X0_hasBeat : Cond.code tu_Y_X0_hasBeat.1 tu_Y_X0_hasBeat.2.1 tu_Y_X0_hasBeat.2.2.1 tu_Y_X0_hasBeat.2.2.2.1 ∈ tu_tb := tu_tb_in 312 rfl rfl
set_option maxRecDepth 20000 in
theorem sv_RX3_119 : tu_sV RX3 119 tu_Y_X0_hasBeat 2 := ⟨⟨tu_tb_in 309 rfl rfl, tu_tb_in 310 rfl rfl, tu_tb_in 311 rfl rfl, tu_tb_in 43 rfl rfl, co_X0_hasBeat⟩, by decide, by decide, by decide⟩
set_option maxRecDepth 20000 in
theorem co_X0_addToBallad : Cond.code tu_Y_X0_addToBallad.1 tu_Y_X0_addToBallad.2.1 tu_Y_X0_addToBallad.2.2.1 tu_Y_X0_addToBallad.2.2.2.1 ∈ tu_tb := tu_tb_in 321 rfl rfl
set_option maxRecDepth 20000 in
theorem sv_RX3_125 : tu_sV RX3 125 tu_Y_X0_addToBallad 1 := ⟨⟨tu_tb_in 318 rfl rfl, tu_tb_in 319 rfl rfl, tu_tb_in 320 rfl rfl, tu_tb_in 43 rfl rfl, co_X0_addToBallad⟩, by decide, by decide, by decide⟩
set_option maxRecDepth 20000 in
theorem co_X0_addToTune : Cond.code tu_Y_X0_addToTune.1 tu_Y_X0_addToTune.2.1 tu_Y_X0_addToTune.2.2.1 tu_Y_X0_addToTune.2.2.2.1 ∈ tu_tb := tu_tb_in 329 rfl rfl
set_option maxRecDepth 20000 in
theorem sv_RX3_128 : tu_sV RX3 128 tu_Y_X0_addToTune 1 := ⟨⟨tu_tb_in 326 rfl rfl, tu_tb_in 327 rfl rfl, tu_tb_in 328 rfl rfl, tu_tb_in 43 rfl rfl, co_X0_addToTune⟩, by decide, by decide, by decide⟩
set_option maxRecDepth 20000 in
theorem co_X0_stressedOf : Cond.code tu_Y_X0_stressedOf.1 tu_Y_X0_stressedOf.2.1 tu_Y_X0_stressedOf.2.2.1 tu_Y_X0_stressedOf.2.2.2.1 ∈ tu_tb := tu_tb_in 345 rfl rfl
set_option maxRecDepth 20000 in
theorem sv_RX3_134 : tu_sV RX3 134 tu_Y_X0_stressedOf 1 := ⟨⟨tu_tb_in 342 rfl rfl, tu_tb_in 343 rfl rfl, tu_tb_in 344 rfl rfl, tu_tb_in 43 rfl rfl, co_X0_stressedOf⟩, by decide, by decide, by decide⟩
set_option maxRecDepth 20000 in
theorem sv_RX3_138 : tu_sV RX3 138 tu_Y_X0_timesSung 1 := ⟨⟨tu_tb_in 346 rfl rfl, tu_tb_in 347 rfl rfl, tu_tb_in 348 rfl rfl, tu_tb_in 43 rfl rfl, co_X0_timesSung⟩, by decide, by decide, by decide⟩
set_option maxRecDepth 20000 in
theorem co_X3_cheapestPhrase : Cond.code tu_Y_X3_cheapestPhrase.1 tu_Y_X3_cheapestPhrase.2.1 tu_Y_X3_cheapestPhrase.2.2.1 tu_Y_X3_cheapestPhrase.2.2.2.1 ∈ tu_tb := tu_tb_in 356 rfl rfl
set_option maxRecDepth 20000 in
theorem sv_RX3_141 : tu_sV RX3 141 tu_Y_X3_cheapestPhrase 1 := ⟨⟨tu_tb_in 353 rfl rfl, tu_tb_in 355 rfl rfl, tu_tb_in 1 rfl rfl, tu_tb_in 42 rfl rfl, co_X3_cheapestPhrase⟩, by decide, by decide, by decide⟩
set_option maxRecDepth 20000 in
theorem co_X0_beatsOfKind : Cond.code tu_Y_X0_beatsOfKind.1 tu_Y_X0_beatsOfKind.2.1 tu_Y_X0_beatsOfKind.2.2.1 tu_Y_X0_beatsOfKind.2.2.2.1 ∈ tu_tb := tu_tb_in 398 rfl rfl
set_option maxRecDepth 20000 in
theorem sv_RX3_147 : tu_sV RX3 147 tu_Y_X0_beatsOfKind 2 := ⟨⟨tu_tb_in 395 rfl rfl, tu_tb_in 396 rfl rfl, tu_tb_in 397 rfl rfl, tu_tb_in 43 rfl rfl, co_X0_beatsOfKind⟩, by decide, by decide, by decide⟩
set_option maxRecDepth 20000 in
theorem co_X0_timesPlayed : Cond.code tu_Y_X0_timesPlayed.1 tu_Y_X0_timesPlayed.2.1 tu_Y_X0_timesPlayed.2.2.1 tu_Y_X0_timesPlayed.2.2.2.1 ∈ tu_tb := tu_tb_in 402 rfl rfl
set_option maxRecDepth 20000 in
theorem sv_RX3_151 : tu_sV RX3 151 tu_Y_X0_timesPlayed 1 := ⟨⟨tu_tb_in 399 rfl rfl, tu_tb_in 400 rfl rfl, tu_tb_in 401 rfl rfl, tu_tb_in 43 rfl rfl, co_X0_timesPlayed⟩, by decide, by decide, by decide⟩
set_option maxRecDepth 20000 in
theorem co_X0_longestRow : Cond.code tu_Y_X0_longestRow.1 tu_Y_X0_longestRow.2.1 tu_Y_X0_longestRow.2.2.1 tu_Y_X0_longestRow.2.2.2.1 ∈ tu_tb := tu_tb_in 406 rfl rfl
set_option maxRecDepth 20000 in
theorem sv_RX3_154 : tu_sV RX3 154 tu_Y_X0_longestRow 1 := ⟨⟨tu_tb_in 403 rfl rfl, tu_tb_in 404 rfl rfl, tu_tb_in 405 rfl rfl, tu_tb_in 43 rfl rfl, co_X0_longestRow⟩, by decide, by decide, by decide⟩
set_option maxRecDepth 20000 in
theorem co_X0_burdens : Cond.code tu_Y_X0_burdens.1 tu_Y_X0_burdens.2.1 tu_Y_X0_burdens.2.2.1 tu_Y_X0_burdens.2.2.2.1 ∈ tu_tb := tu_tb_in 425 rfl rfl
set_option maxRecDepth 20000 in
theorem sv_RX3_157 : tu_sV RX3 157 tu_Y_X0_burdens 0 := ⟨⟨tu_tb_in 422 rfl rfl, tu_tb_in 423 rfl rfl, tu_tb_in 424 rfl rfl, tu_tb_in 43 rfl rfl, co_X0_burdens⟩, by decide, by decide, by decide⟩
set_option maxRecDepth 20000 in
theorem co_X3_leastCostOf : Cond.code tu_Y_X3_leastCostOf.1 tu_Y_X3_leastCostOf.2.1 tu_Y_X3_leastCostOf.2.2.1 tu_Y_X3_leastCostOf.2.2.2.1 ∈ tu_tb := tu_tb_in 361 rfl rfl
set_option maxRecDepth 20000 in
theorem sv_RX3_166 : tu_sV RX3 166 tu_Y_X3_leastCostOf 2 := ⟨⟨tu_tb_in 358 rfl rfl, tu_tb_in 360 rfl rfl, tu_tb_in 2 rfl rfl, tu_tb_in 42 rfl rfl, co_X3_leastCostOf⟩, by decide, by decide, by decide⟩
set_option maxRecDepth 20000 in
theorem co_X1_countWays : Cond.code tu_Y_X1_countWays.1 tu_Y_X1_countWays.2.1 tu_Y_X1_countWays.2.2.1 tu_Y_X1_countWays.2.2.2.1 ∈ tu_tb := tu_tb_in 438 rfl rfl
set_option maxRecDepth 20000 in
theorem sv_RX3_170 : tu_sV RX3 170 tu_Y_X1_countWays 1 := ⟨⟨tu_tb_in 435 rfl rfl, tu_tb_in 436 rfl rfl, tu_tb_in 437 rfl rfl, tu_tb_in 46 rfl rfl, co_X1_countWays⟩, by decide, by decide, by decide⟩
set_option maxRecDepth 20000 in
theorem co_X1_freeBeats : Cond.code tu_Y_X1_freeBeats.1 tu_Y_X1_freeBeats.2.1 tu_Y_X1_freeBeats.2.2.1 tu_Y_X1_freeBeats.2.2.2.1 ∈ tu_tb := tu_tb_in 446 rfl rfl
set_option maxRecDepth 20000 in
theorem sv_RX3_174 : tu_sV RX3 174 tu_Y_X1_freeBeats 0 := ⟨⟨tu_tb_in 443 rfl rfl, tu_tb_in 444 rfl rfl, tu_tb_in 445 rfl rfl, tu_tb_in 46 rfl rfl, co_X1_freeBeats⟩, by decide, by decide, by decide⟩
set_option maxRecDepth 20000 in
theorem co_X1_hurtSyllables : Cond.code tu_Y_X1_hurtSyllables.1 tu_Y_X1_hurtSyllables.2.1 tu_Y_X1_hurtSyllables.2.2.1 tu_Y_X1_hurtSyllables.2.2.2.1 ∈ tu_tb := tu_tb_in 458 rfl rfl
set_option maxRecDepth 20000 in
theorem sv_RX3_177 : tu_sV RX3 177 tu_Y_X1_hurtSyllables 0 := ⟨⟨tu_tb_in 455 rfl rfl, tu_tb_in 456 rfl rfl, tu_tb_in 457 rfl rfl, tu_tb_in 46 rfl rfl, co_X1_hurtSyllables⟩, by decide, by decide, by decide⟩
set_option maxRecDepth 20000 in
theorem sv_RX3_180 : tu_sV RX3 180 tu_Y_X1_findBestWay 0 := ⟨⟨tu_tb_in 463 rfl rfl, tu_tb_in 448 rfl rfl, tu_tb_in 449 rfl rfl, tu_tb_in 46 rfl rfl, co_X1_findBestWay⟩, by decide, by decide, by decide⟩
set_option maxRecDepth 20000 in
theorem co_X1_take : Cond.code tu_Y_X1_take.1 tu_Y_X1_take.2.1 tu_Y_X1_take.2.2.1 tu_Y_X1_take.2.2.2.1 ∈ tu_tb := tu_tb_in 365 rfl rfl
set_option maxRecDepth 20000 in
theorem sv_RX3_189 : tu_sV RX3 189 tu_Y_X1_take 3 := ⟨⟨tu_tb_in 362 rfl rfl, tu_tb_in 363 rfl rfl, tu_tb_in 364 rfl rfl, tu_tb_in 46 rfl rfl, co_X1_take⟩, by decide, by decide, by decide⟩
set_option maxRecDepth 20000 in
theorem co_X1_turnStress : Cond.code tu_Y_X1_turnStress.1 tu_Y_X1_turnStress.2.1 tu_Y_X1_turnStress.2.2.1 tu_Y_X1_turnStress.2.2.2.1 ∈ tu_tb := tu_tb_in 479 rfl rfl
set_option maxRecDepth 20000 in
theorem sv_RX3_193 : tu_sV RX3 193 tu_Y_X1_turnStress 1 := ⟨⟨tu_tb_in 476 rfl rfl, tu_tb_in 477 rfl rfl, tu_tb_in 478 rfl rfl, tu_tb_in 46 rfl rfl, co_X1_turnStress⟩, by decide, by decide, by decide⟩
set_option maxRecDepth 20000 in
theorem co_X1_leastCost : Cond.code tu_Y_X1_leastCost.1 tu_Y_X1_leastCost.2.1 tu_Y_X1_leastCost.2.2.1 tu_Y_X1_leastCost.2.2.2.1 ∈ tu_tb := tu_tb_in 370 rfl rfl
set_option maxRecDepth 20000 in
theorem sv_RX3_196 : tu_sV RX3 196 tu_Y_X1_leastCost 0 := ⟨⟨tu_tb_in 367 rfl rfl, tu_tb_in 368 rfl rfl, tu_tb_in 369 rfl rfl, tu_tb_in 46 rfl rfl, co_X1_leastCost⟩, by decide, by decide, by decide⟩
set_option maxRecDepth 20000 in
theorem co_X2_signsIn : Cond.code tu_Y_X2_signsIn.1 tu_Y_X2_signsIn.2.1 tu_Y_X2_signsIn.2.2.1 tu_Y_X2_signsIn.2.2.2.1 ∈ tu_tb := tu_tb_in 490 rfl rfl
set_option maxRecDepth 20000 in
theorem ss_RX3_202 : tu_sS RX3 202 tu_Y_X2_signsIn 1 := ⟨⟨tu_tb_in 488 rfl rfl, tu_tb_in 489 rfl rfl, tu_tb_in 45 rfl rfl, co_X2_signsIn⟩, by decide, by decide, by decide⟩
set_option maxRecDepth 20000 in
theorem co_X2_append : Cond.code tu_Y_X2_append.1 tu_Y_X2_append.2.1 tu_Y_X2_append.2.2.1 tu_Y_X2_append.2.2.2.1 ∈ tu_tb := tu_tb_in 497 rfl rfl
set_option maxRecDepth 20000 in
theorem sv_RX3_206 : tu_sV RX3 206 tu_Y_X2_append 2 := ⟨⟨tu_tb_in 494 rfl rfl, tu_tb_in 495 rfl rfl, tu_tb_in 496 rfl rfl, tu_tb_in 45 rfl rfl, co_X2_append⟩, by decide, by decide, by decide⟩
set_option maxRecDepth 20000 in
theorem co_X0_takeOver : Cond.code tu_Y_X0_takeOver.1 tu_Y_X0_takeOver.2.1 tu_Y_X0_takeOver.2.2.1 tu_Y_X0_takeOver.2.2.2.1 ∈ tu_tb := tu_tb_in 223 rfl rfl
set_option maxRecDepth 20000 in
theorem sv_RX3_210 : tu_sV RX3 210 tu_Y_X0_takeOver 1 := ⟨⟨tu_tb_in 220 rfl rfl, tu_tb_in 221 rfl rfl, tu_tb_in 222 rfl rfl, tu_tb_in 43 rfl rfl, co_X0_takeOver⟩, by decide, by decide, by decide⟩
set_option maxRecDepth 20000 in
theorem co_X4_moves : Cond.code tu_Y_X4_moves.1 tu_Y_X4_moves.2.1 tu_Y_X4_moves.2.2.1 tu_Y_X4_moves.2.2.2.1 ∈ tu_tb := tu_tb_in 595 rfl rfl
set_option maxRecDepth 20000 in
theorem ss_RX4_44 : tu_sS RX4 44 tu_Y_X4_moves 4 := ⟨⟨tu_tb_in 593 rfl rfl, tu_tb_in 594 rfl rfl, tu_tb_in 47 rfl rfl, co_X4_moves⟩, by decide, by decide, by decide⟩
set_option maxRecDepth 20000 in
theorem co_X4_within : Cond.code tu_Y_X4_within.1 tu_Y_X4_within.2.1 tu_Y_X4_within.2.2.1 tu_Y_X4_within.2.2.2.1 ∈ tu_tb := tu_tb_in 588 rfl rfl
set_option maxRecDepth 20000 in
theorem ss_RX4_48 : tu_sS RX4 48 tu_Y_X4_within 3 := ⟨⟨tu_tb_in 586 rfl rfl, tu_tb_in 587 rfl rfl, tu_tb_in 47 rfl rfl, co_X4_within⟩, by decide, by decide, by decide⟩
set_option maxRecDepth 20000 in
theorem co_X4_isLine : Cond.code tu_Y_X4_isLine.1 tu_Y_X4_isLine.2.1 tu_Y_X4_isLine.2.2.1 tu_Y_X4_isLine.2.2.2.1 ∈ tu_tb := tu_tb_in 623 rfl rfl
set_option maxRecDepth 20000 in
theorem sv_RX4_52 : tu_sV RX4 52 tu_Y_X4_isLine 1 := ⟨⟨tu_tb_in 620 rfl rfl, tu_tb_in 622 rfl rfl, tu_tb_in 14 rfl rfl, tu_tb_in 47 rfl rfl, co_X4_isLine⟩, by decide, by decide, by decide⟩
set_option maxRecDepth 20000 in
theorem co_X4_lineLength : Cond.code tu_Y_X4_lineLength.1 tu_Y_X4_lineLength.2.1 tu_Y_X4_lineLength.2.2.1 tu_Y_X4_lineLength.2.2.2.1 ∈ tu_tb := tu_tb_in 647 rfl rfl
set_option maxRecDepth 20000 in
theorem sv_RX4_56 : tu_sV RX4 56 tu_Y_X4_lineLength 1 := ⟨⟨tu_tb_in 644 rfl rfl, tu_tb_in 646 rfl rfl, tu_tb_in 18 rfl rfl, tu_tb_in 47 rfl rfl, co_X4_lineLength⟩, by decide, by decide, by decide⟩
set_option maxRecDepth 20000 in
theorem co_X4_isPhrase : Cond.code tu_Y_X4_isPhrase.1 tu_Y_X4_isPhrase.2.1 tu_Y_X4_isPhrase.2.2.1 tu_Y_X4_isPhrase.2.2.2.1 ∈ tu_tb := tu_tb_in 635 rfl rfl
set_option maxRecDepth 20000 in
theorem sv_RX4_60 : tu_sV RX4 60 tu_Y_X4_isPhrase 1 := ⟨⟨tu_tb_in 632 rfl rfl, tu_tb_in 634 rfl rfl, tu_tb_in 16 rfl rfl, tu_tb_in 47 rfl rfl, co_X4_isPhrase⟩, by decide, by decide, by decide⟩
set_option maxRecDepth 20000 in
theorem co_X4_phraseLength : Cond.code tu_Y_X4_phraseLength.1 tu_Y_X4_phraseLength.2.1 tu_Y_X4_phraseLength.2.2.1 tu_Y_X4_phraseLength.2.2.2.1 ∈ tu_tb := tu_tb_in 659 rfl rfl
set_option maxRecDepth 20000 in
theorem sv_RX4_63 : tu_sV RX4 63 tu_Y_X4_phraseLength 1 := ⟨⟨tu_tb_in 656 rfl rfl, tu_tb_in 658 rfl rfl, tu_tb_in 20 rfl rfl, tu_tb_in 47 rfl rfl, co_X4_phraseLength⟩, by decide, by decide, by decide⟩
set_option maxRecDepth 20000 in
theorem co_X4_has : Cond.code tu_Y_X4_has.1 tu_Y_X4_has.2.1 tu_Y_X4_has.2.2.1 tu_Y_X4_has.2.2.2.1 ∈ tu_tb := tu_tb_in 666 rfl rfl
set_option maxRecDepth 20000 in
theorem ss_RX4_84 : tu_sS RX4 84 tu_Y_X4_has 2 := ⟨⟨tu_tb_in 664 rfl rfl, tu_tb_in 665 rfl rfl, tu_tb_in 47 rfl rfl, co_X4_has⟩, by decide, by decide, by decide⟩
set_option maxRecDepth 20000 in
theorem co_X4_hurts : Cond.code tu_Y_X4_hurts.1 tu_Y_X4_hurts.2.1 tu_Y_X4_hurts.2.2.1 tu_Y_X4_hurts.2.2.2.1 ∈ tu_tb := tu_tb_in 738 rfl rfl
set_option maxRecDepth 20000 in
theorem sv_RX4_89 : tu_sV RX4 89 tu_Y_X4_hurts 2 := ⟨⟨tu_tb_in 735 rfl rfl, tu_tb_in 737 rfl rfl, tu_tb_in 32 rfl rfl, tu_tb_in 47 rfl rfl, co_X4_hurts⟩, by decide, by decide, by decide⟩
set_option maxRecDepth 20000 in
theorem co_X4_capped : Cond.code tu_Y_X4_capped.1 tu_Y_X4_capped.2.1 tu_Y_X4_capped.2.2.1 tu_Y_X4_capped.2.2.2.1 ∈ tu_tb := tu_tb_in 729 rfl rfl
set_option maxRecDepth 20000 in
theorem ss_RX4_93 : tu_sS RX4 93 tu_Y_X4_capped 1 := ⟨⟨tu_tb_in 727 rfl rfl, tu_tb_in 728 rfl rfl, tu_tb_in 47 rfl rfl, co_X4_capped⟩, by decide, by decide, by decide⟩
set_option maxRecDepth 20000 in
theorem co_X4_costFree : Cond.code tu_Y_X4_costFree.1 tu_Y_X4_costFree.2.1 tu_Y_X4_costFree.2.2.1 tu_Y_X4_costFree.2.2.2.1 ∈ tu_tb := tu_tb_in 722 rfl rfl
set_option maxRecDepth 20000 in
theorem sv_RX4_96 : tu_sV RX4 96 tu_Y_X4_costFree 2 := ⟨⟨tu_tb_in 719 rfl rfl, tu_tb_in 721 rfl rfl, tu_tb_in 29 rfl rfl, tu_tb_in 47 rfl rfl, co_X4_costFree⟩, by decide, by decide, by decide⟩
set_option maxRecDepth 20000 in
theorem co_X4_takesIn : Cond.code tu_Y_X4_takesIn.1 tu_Y_X4_takesIn.2.1 tu_Y_X4_takesIn.2.2.1 tu_Y_X4_takesIn.2.2.2.1 ∈ tu_tb := tu_tb_in 726 rfl rfl
set_option maxRecDepth 20000 in
theorem sv_RX4_100 : tu_sV RX4 100 tu_Y_X4_takesIn 3 := ⟨⟨tu_tb_in 723 rfl rfl, tu_tb_in 725 rfl rfl, tu_tb_in 30 rfl rfl, tu_tb_in 47 rfl rfl, co_X4_takesIn⟩, by decide, by decide, by decide⟩
set_option maxRecDepth 20000 in
theorem co_X4_costOn : Cond.code tu_Y_X4_costOn.1 tu_Y_X4_costOn.2.1 tu_Y_X4_costOn.2.2.1 tu_Y_X4_costOn.2.2.2.1 ∈ tu_tb := tu_tb_in 734 rfl rfl
set_option maxRecDepth 20000 in
theorem sv_RX4_104 : tu_sV RX4 104 tu_Y_X4_costOn 3 := ⟨⟨tu_tb_in 731 rfl rfl, tu_tb_in 733 rfl rfl, tu_tb_in 31 rfl rfl, tu_tb_in 47 rfl rfl, co_X4_costOn⟩, by decide, by decide, by decide⟩
set_option maxRecDepth 20000 in
theorem co_X4_findAt : Cond.code tu_Y_X4_findAt.1 tu_Y_X4_findAt.2.1 tu_Y_X4_findAt.2.2.1 tu_Y_X4_findAt.2.2.2.1 ∈ tu_tb := tu_tb_in 718 rfl rfl
set_option maxRecDepth 20000 in
theorem sv_RX4_108 : tu_sV RX4 108 tu_Y_X4_findAt 2 := ⟨⟨tu_tb_in 715 rfl rfl, tu_tb_in 717 rfl rfl, tu_tb_in 28 rfl rfl, tu_tb_in 47 rfl rfl, co_X4_findAt⟩, by decide, by decide, by decide⟩
set_option maxRecDepth 20000 in
theorem co_X4_beatsFrom : Cond.code tu_Y_X4_beatsFrom.1 tu_Y_X4_beatsFrom.2.1 tu_Y_X4_beatsFrom.2.2.1 tu_Y_X4_beatsFrom.2.2.2.1 ∈ tu_tb := tu_tb_in 786 rfl rfl
set_option maxRecDepth 20000 in
theorem sv_RX4_112 : tu_sV RX4 112 tu_Y_X4_beatsFrom 2 := ⟨⟨tu_tb_in 783 rfl rfl, tu_tb_in 785 rfl rfl, tu_tb_in 38 rfl rfl, tu_tb_in 47 rfl rfl, co_X4_beatsFrom⟩, by decide, by decide, by decide⟩
set_option maxRecDepth 20000 in
theorem co_X4_look : Cond.code tu_Y_X4_look.1 tu_Y_X4_look.2.1 tu_Y_X4_look.2.2.1 tu_Y_X4_look.2.2.2.1 ∈ tu_tb := tu_tb_in 710 rfl rfl
set_option maxRecDepth 20000 in
theorem sv_RX4_115 : tu_sV RX4 115 tu_Y_X4_look 2 := ⟨⟨tu_tb_in 707 rfl rfl, tu_tb_in 709 rfl rfl, tu_tb_in 26 rfl rfl, tu_tb_in 47 rfl rfl, co_X4_look⟩, by decide, by decide, by decide⟩
set_option maxRecDepth 20000 in
theorem co_X4_findCost : Cond.code tu_Y_X4_findCost.1 tu_Y_X4_findCost.2.1 tu_Y_X4_findCost.2.2.1 tu_Y_X4_findCost.2.2.2.1 ∈ tu_tb := tu_tb_in 714 rfl rfl
set_option maxRecDepth 20000 in
theorem sv_RX4_118 : tu_sV RX4 118 tu_Y_X4_findCost 0 := ⟨⟨tu_tb_in 711 rfl rfl, tu_tb_in 713 rfl rfl, tu_tb_in 27 rfl rfl, tu_tb_in 47 rfl rfl, co_X4_findCost⟩, by decide, by decide, by decide⟩
set_option maxRecDepth 20000 in
theorem co_X4_findWay : Cond.code tu_Y_X4_findWay.1 tu_Y_X4_findWay.2.1 tu_Y_X4_findWay.2.2.1 tu_Y_X4_findWay.2.2.2.1 ∈ tu_tb := tu_tb_in 782 rfl rfl
set_option maxRecDepth 20000 in
theorem sv_RX4_122 : tu_sV RX4 122 tu_Y_X4_findWay 0 := ⟨⟨tu_tb_in 779 rfl rfl, tu_tb_in 781 rfl rfl, tu_tb_in 37 rfl rfl, tu_tb_in 47 rfl rfl, co_X4_findWay⟩, by decide, by decide, by decide⟩
set_option maxRecDepth 20000 in
theorem co_X4_bits : Cond.code tu_Y_X4_bits.1 tu_Y_X4_bits.2.1 tu_Y_X4_bits.2.2.1 tu_Y_X4_bits.2.2.2.1 ∈ tu_tb := tu_tb_in 693 rfl rfl
set_option maxRecDepth 20000 in
theorem ss_RX4_125 : tu_sS RX4 125 tu_Y_X4_bits 1 := ⟨⟨tu_tb_in 691 rfl rfl, tu_tb_in 692 rfl rfl, tu_tb_in 47 rfl rfl, co_X4_bits⟩, by decide, by decide, by decide⟩
set_option maxRecDepth 20000 in
theorem co_X4_isValue : Cond.code tu_Y_X4_isValue.1 tu_Y_X4_isValue.2.1 tu_Y_X4_isValue.2.2.1 tu_Y_X4_isValue.2.2.2.1 ∈ tu_tb := tu_tb_in 585 rfl rfl
set_option maxRecDepth 20000 in
theorem ss_RX4_128 : tu_sS RX4 128 tu_Y_X4_isValue 2 := ⟨⟨tu_tb_in 583 rfl rfl, tu_tb_in 584 rfl rfl, tu_tb_in 47 rfl rfl, co_X4_isValue⟩, by decide, by decide, by decide⟩
set_option maxRecDepth 20000 in
theorem co_X4_record : Cond.code tu_Y_X4_record.1 tu_Y_X4_record.2.1 tu_Y_X4_record.2.2.1 tu_Y_X4_record.2.2.2.1 ∈ tu_tb := tu_tb_in 592 rfl rfl
set_option maxRecDepth 20000 in
theorem sv_RX4_131 : tu_sV RX4 131 tu_Y_X4_record 0 := ⟨⟨tu_tb_in 589 rfl rfl, tu_tb_in 591 rfl rfl, tu_tb_in 9 rfl rfl, tu_tb_in 47 rfl rfl, co_X4_record⟩, by decide, by decide, by decide⟩
set_option maxRecDepth 20000 in
theorem co_X4_findFault : Cond.code tu_Y_X4_findFault.1 tu_Y_X4_findFault.2.1 tu_Y_X4_findFault.2.2.1 tu_Y_X4_findFault.2.2.2.1 ∈ tu_tb := tu_tb_in 603 rfl rfl
set_option maxRecDepth 20000 in
theorem sv_RX4_137 : tu_sV RX4 137 tu_Y_X4_findFault 0 := ⟨⟨tu_tb_in 600 rfl rfl, tu_tb_in 602 rfl rfl, tu_tb_in 10 rfl rfl, tu_tb_in 47 rfl rfl, co_X4_findFault⟩, by decide, by decide, by decide⟩
set_option maxRecDepth 20000 in
theorem co_X4_parts : Cond.code tu_Y_X4_parts.1 tu_Y_X4_parts.2.1 tu_Y_X4_parts.2.2.1 tu_Y_X4_parts.2.2.2.1 ∈ tu_tb := tu_tb_in 607 rfl rfl
set_option maxRecDepth 20000 in
theorem sv_RX4_140 : tu_sV RX4 140 tu_Y_X4_parts 1 := ⟨⟨tu_tb_in 604 rfl rfl, tu_tb_in 606 rfl rfl, tu_tb_in 11 rfl rfl, tu_tb_in 47 rfl rfl, co_X4_parts⟩, by decide, by decide, by decide⟩
set_option maxRecDepth 20000 in
theorem co_X4_writePhrase : Cond.code tu_Y_X4_writePhrase.1 tu_Y_X4_writePhrase.2.1 tu_Y_X4_writePhrase.2.2.1 tu_Y_X4_writePhrase.2.2.2.1 ∈ tu_tb := tu_tb_in 611 rfl rfl
set_option maxRecDepth 20000 in
theorem sv_RX4_144 : tu_sV RX4 144 tu_Y_X4_writePhrase 1 := ⟨⟨tu_tb_in 608 rfl rfl, tu_tb_in 610 rfl rfl, tu_tb_in 12 rfl rfl, tu_tb_in 47 rfl rfl, co_X4_writePhrase⟩, by decide, by decide, by decide⟩
set_option maxRecDepth 20000 in
theorem co_X4_writeLine : Cond.code tu_Y_X4_writeLine.1 tu_Y_X4_writeLine.2.1 tu_Y_X4_writeLine.2.2.1 tu_Y_X4_writeLine.2.2.2.1 ∈ tu_tb := tu_tb_in 615 rfl rfl
set_option maxRecDepth 20000 in
theorem sv_RX4_147 : tu_sV RX4 147 tu_Y_X4_writeLine 1 := ⟨⟨tu_tb_in 612 rfl rfl, tu_tb_in 614 rfl rfl, tu_tb_in 13 rfl rfl, tu_tb_in 47 rfl rfl, co_X4_writeLine⟩, by decide, by decide, by decide⟩
set_option maxRecDepth 20000 in
theorem co_X4_goes : Cond.code tu_Y_X4_goes.1 tu_Y_X4_goes.2.1 tu_Y_X4_goes.2.2.1 tu_Y_X4_goes.2.2.2.1 ∈ tu_tb := tu_tb_in 627 rfl rfl
set_option maxRecDepth 20000 in
theorem sv_RX4_150 : tu_sV RX4 150 tu_Y_X4_goes 3 := ⟨⟨tu_tb_in 624 rfl rfl, tu_tb_in 626 rfl rfl, tu_tb_in 15 rfl rfl, tu_tb_in 47 rfl rfl, co_X4_goes⟩, by decide, by decide, by decide⟩
set_option maxRecDepth 20000 in
theorem co_X4_isSyllable : Cond.code tu_Y_X4_isSyllable.1 tu_Y_X4_isSyllable.2.1 tu_Y_X4_isSyllable.2.2.1 tu_Y_X4_isSyllable.2.2.2.1 ∈ tu_tb := tu_tb_in 643 rfl rfl
set_option maxRecDepth 20000 in
theorem sv_RX4_153 : tu_sV RX4 153 tu_Y_X4_isSyllable 2 := ⟨⟨tu_tb_in 640 rfl rfl, tu_tb_in 642 rfl rfl, tu_tb_in 17 rfl rfl, tu_tb_in 47 rfl rfl, co_X4_isSyllable⟩, by decide, by decide, by decide⟩
set_option maxRecDepth 20000 in
theorem co_X4_isBeat : Cond.code tu_Y_X4_isBeat.1 tu_Y_X4_isBeat.2.1 tu_Y_X4_isBeat.2.2.1 tu_Y_X4_isBeat.2.2.2.1 ∈ tu_tb := tu_tb_in 655 rfl rfl
set_option maxRecDepth 20000 in
theorem sv_RX4_156 : tu_sV RX4 156 tu_Y_X4_isBeat 2 := ⟨⟨tu_tb_in 652 rfl rfl, tu_tb_in 654 rfl rfl, tu_tb_in 19 rfl rfl, tu_tb_in 47 rfl rfl, co_X4_isBeat⟩, by decide, by decide, by decide⟩
set_option maxRecDepth 20000 in
theorem co_X4_kindAt : Cond.code tu_Y_X4_kindAt.1 tu_Y_X4_kindAt.2.1 tu_Y_X4_kindAt.2.2.1 tu_Y_X4_kindAt.2.2.2.1 ∈ tu_tb := tu_tb_in 663 rfl rfl
set_option maxRecDepth 20000 in
theorem sv_RX4_159 : tu_sV RX4 159 tu_Y_X4_kindAt 2 := ⟨⟨tu_tb_in 660 rfl rfl, tu_tb_in 662 rfl rfl, tu_tb_in 21 rfl rfl, tu_tb_in 47 rfl rfl, co_X4_kindAt⟩, by decide, by decide, by decide⟩
set_option maxRecDepth 20000 in
theorem co_X4_sings : Cond.code tu_Y_X4_sings.1 tu_Y_X4_sings.2.1 tu_Y_X4_sings.2.2.1 tu_Y_X4_sings.2.2.2.1 ∈ tu_tb := tu_tb_in 674 rfl rfl
set_option maxRecDepth 20000 in
theorem sv_RX4_162 : tu_sV RX4 162 tu_Y_X4_sings 1 := ⟨⟨tu_tb_in 671 rfl rfl, tu_tb_in 673 rfl rfl, tu_tb_in 22 rfl rfl, tu_tb_in 47 rfl rfl, co_X4_sings⟩, by decide, by decide, by decide⟩
set_option maxRecDepth 20000 in
theorem co_X4_costOf : Cond.code tu_Y_X4_costOf.1 tu_Y_X4_costOf.2.1 tu_Y_X4_costOf.2.2.1 tu_Y_X4_costOf.2.2.2.1 ∈ tu_tb := tu_tb_in 706 rfl rfl
set_option maxRecDepth 20000 in
theorem sv_RX4_166 : tu_sV RX4 166 tu_Y_X4_costOf 2 := ⟨⟨tu_tb_in 703 rfl rfl, tu_tb_in 705 rfl rfl, tu_tb_in 25 rfl rfl, tu_tb_in 47 rfl rfl, co_X4_costOf⟩, by decide, by decide, by decide⟩
set_option maxRecDepth 20000 in
theorem co_X4_sungTimes : Cond.code tu_Y_X4_sungTimes.1 tu_Y_X4_sungTimes.2.1 tu_Y_X4_sungTimes.2.2.1 tu_Y_X4_sungTimes.2.2.2.1 ∈ tu_tb := tu_tb_in 697 rfl rfl
set_option maxRecDepth 20000 in
theorem sv_RX4_169 : tu_sV RX4 169 tu_Y_X4_sungTimes 1 := ⟨⟨tu_tb_in 694 rfl rfl, tu_tb_in 696 rfl rfl, tu_tb_in 23 rfl rfl, tu_tb_in 47 rfl rfl, co_X4_sungTimes⟩, by decide, by decide, by decide⟩
set_option maxRecDepth 20000 in
theorem co_X4_cheapestPhrase : Cond.code tu_Y_X4_cheapestPhrase.1 tu_Y_X4_cheapestPhrase.2.1 tu_Y_X4_cheapestPhrase.2.2.1 tu_Y_X4_cheapestPhrase.2.2.2.1 ∈ tu_tb := tu_tb_in 701 rfl rfl
set_option maxRecDepth 20000 in
theorem sv_RX4_172 : tu_sV RX4 172 tu_Y_X4_cheapestPhrase 1 := ⟨⟨tu_tb_in 698 rfl rfl, tu_tb_in 700 rfl rfl, tu_tb_in 24 rfl rfl, tu_tb_in 47 rfl rfl, co_X4_cheapestPhrase⟩, by decide, by decide, by decide⟩
set_option maxRecDepth 20000 in
theorem co_X4_playedTimes : Cond.code tu_Y_X4_playedTimes.1 tu_Y_X4_playedTimes.2.1 tu_Y_X4_playedTimes.2.2.1 tu_Y_X4_playedTimes.2.2.2.1 ∈ tu_tb := tu_tb_in 746 rfl rfl
set_option maxRecDepth 20000 in
theorem sv_RX4_175 : tu_sV RX4 175 tu_Y_X4_playedTimes 1 := ⟨⟨tu_tb_in 743 rfl rfl, tu_tb_in 745 rfl rfl, tu_tb_in 33 rfl rfl, tu_tb_in 47 rfl rfl, co_X4_playedTimes⟩, by decide, by decide, by decide⟩
set_option maxRecDepth 20000 in
theorem co_X4_longestRow : Cond.code tu_Y_X4_longestRow.1 tu_Y_X4_longestRow.2.1 tu_Y_X4_longestRow.2.2.1 tu_Y_X4_longestRow.2.2.2.1 ∈ tu_tb := tu_tb_in 750 rfl rfl
set_option maxRecDepth 20000 in
theorem sv_RX4_178 : tu_sV RX4 178 tu_Y_X4_longestRow 1 := ⟨⟨tu_tb_in 747 rfl rfl, tu_tb_in 749 rfl rfl, tu_tb_in 34 rfl rfl, tu_tb_in 47 rfl rfl, co_X4_longestRow⟩, by decide, by decide, by decide⟩
set_option maxRecDepth 20000 in
theorem co_X4_burdens : Cond.code tu_Y_X4_burdens.1 tu_Y_X4_burdens.2.1 tu_Y_X4_burdens.2.2.1 tu_Y_X4_burdens.2.2.2.1 ∈ tu_tb := tu_tb_in 766 rfl rfl
set_option maxRecDepth 20000 in
theorem sv_RX4_181 : tu_sV RX4 181 tu_Y_X4_burdens 0 := ⟨⟨tu_tb_in 763 rfl rfl, tu_tb_in 765 rfl rfl, tu_tb_in 35 rfl rfl, tu_tb_in 47 rfl rfl, co_X4_burdens⟩, by decide, by decide, by decide⟩
set_option maxRecDepth 20000 in
theorem co_X4_freeBeats : Cond.code tu_Y_X4_freeBeats.1 tu_Y_X4_freeBeats.2.1 tu_Y_X4_freeBeats.2.2.1 tu_Y_X4_freeBeats.2.2.2.1 ∈ tu_tb := tu_tb_in 778 rfl rfl
set_option maxRecDepth 20000 in
theorem sv_RX4_184 : tu_sV RX4 184 tu_Y_X4_freeBeats 0 := ⟨⟨tu_tb_in 775 rfl rfl, tu_tb_in 777 rfl rfl, tu_tb_in 36 rfl rfl, tu_tb_in 47 rfl rfl, co_X4_freeBeats⟩, by decide, by decide, by decide⟩
set_option maxRecDepth 20000 in
theorem co_X4_hurting : Cond.code tu_Y_X4_hurting.1 tu_Y_X4_hurting.2.1 tu_Y_X4_hurting.2.2.1 tu_Y_X4_hurting.2.2.2.1 ∈ tu_tb := tu_tb_in 790 rfl rfl
set_option maxRecDepth 20000 in
theorem sv_RX4_187 : tu_sV RX4 187 tu_Y_X4_hurting 0 := ⟨⟨tu_tb_in 787 rfl rfl, tu_tb_in 789 rfl rfl, tu_tb_in 39 rfl rfl, tu_tb_in 47 rfl rfl, co_X4_hurting⟩, by decide, by decide, by decide⟩
set_option maxRecDepth 20000 in
theorem co_X4_phraseFor : Cond.code tu_Y_X4_phraseFor.1 tu_Y_X4_phraseFor.2.1 tu_Y_X4_phraseFor.2.2.1 tu_Y_X4_phraseFor.2.2.2.1 ∈ tu_tb := tu_tb_in 802 rfl rfl
set_option maxRecDepth 20000 in
theorem sv_RX4_190 : tu_sV RX4 190 tu_Y_X4_phraseFor 1 := ⟨⟨tu_tb_in 799 rfl rfl, tu_tb_in 801 rfl rfl, tu_tb_in 40 rfl rfl, tu_tb_in 47 rfl rfl, co_X4_phraseFor⟩, by decide, by decide, by decide⟩
set_option maxRecDepth 20000 in
theorem co_X3_set : Cond.code tu_Y_X3_set.1 tu_Y_X3_set.2.1 tu_Y_X3_set.2.2.1 tu_Y_X3_set.2.2.2.1 ∈ tu_tb := tu_tb_in 211 rfl rfl
set_option maxRecDepth 20000 in
theorem sv_RL_13 : tu_sV RL 13 tu_Y_X3_set 2 := ⟨⟨tu_tb_in 208 rfl rfl, tu_tb_in 209 rfl rfl, tu_tb_in 210 rfl rfl, tu_tb_in 42 rfl rfl, co_X3_set⟩, by decide, by decide, by decide⟩
set_option maxRecDepth 20000 in
theorem co_X4_set : Cond.code tu_Y_X4_set.1 tu_Y_X4_set.2.1 tu_Y_X4_set.2.2.1 tu_Y_X4_set.2.2.2.1 ∈ tu_tb := tu_tb_in 582 rfl rfl
set_option maxRecDepth 20000 in
theorem sv_RL_17 : tu_sV RL 17 tu_Y_X4_set 2 := ⟨⟨tu_tb_in 579 rfl rfl, tu_tb_in 580 rfl rfl, tu_tb_in 581 rfl rfl, tu_tb_in 47 rfl rfl, co_X4_set⟩, by decide, by decide, by decide⟩
set_option maxRecDepth 20000 in
theorem co_X3_write : Cond.code tu_Y_X3_write.1 tu_Y_X3_write.2.1 tu_Y_X3_write.2.2.1 tu_Y_X3_write.2.2.2.1 ∈ tu_tb := tu_tb_in 227 rfl rfl
set_option maxRecDepth 20000 in
theorem sv_RL_18 : tu_sV RL 18 tu_Y_X3_write 0 := ⟨⟨tu_tb_in 224 rfl rfl, tu_tb_in 225 rfl rfl, tu_tb_in 226 rfl rfl, tu_tb_in 42 rfl rfl, co_X3_write⟩, by decide, by decide, by decide⟩
set_option maxRecDepth 20000 in
theorem co_X4_write : Cond.code tu_Y_X4_write.1 tu_Y_X4_write.2.1 tu_Y_X4_write.2.2.1 tu_Y_X4_write.2.2.2.1 ∈ tu_tb := tu_tb_in 599 rfl rfl
set_option maxRecDepth 20000 in
theorem sv_RL_22 : tu_sV RL 22 tu_Y_X4_write 0 := ⟨⟨tu_tb_in 596 rfl rfl, tu_tb_in 597 rfl rfl, tu_tb_in 598 rfl rfl, tu_tb_in 47 rfl rfl, co_X4_write⟩, by decide, by decide, by decide⟩
set_option maxRecDepth 20000 in
theorem co_X3_dropLine : Cond.code tu_Y_X3_dropLine.1 tu_Y_X3_dropLine.2.1 tu_Y_X3_dropLine.2.2.1 tu_Y_X3_dropLine.2.2.2.1 ∈ tu_tb := tu_tb_in 272 rfl rfl
set_option maxRecDepth 20000 in
theorem sv_RL_23 : tu_sV RL 23 tu_Y_X3_dropLine 1 := ⟨⟨tu_tb_in 269 rfl rfl, tu_tb_in 270 rfl rfl, tu_tb_in 271 rfl rfl, tu_tb_in 42 rfl rfl, co_X3_dropLine⟩, by decide, by decide, by decide⟩
set_option maxRecDepth 20000 in
theorem co_X4_dropLine : Cond.code tu_Y_X4_dropLine.1 tu_Y_X4_dropLine.2.1 tu_Y_X4_dropLine.2.2.1 tu_Y_X4_dropLine.2.2.2.1 ∈ tu_tb := tu_tb_in 619 rfl rfl
set_option maxRecDepth 20000 in
theorem sv_RL_27 : tu_sV RL 27 tu_Y_X4_dropLine 1 := ⟨⟨tu_tb_in 616 rfl rfl, tu_tb_in 617 rfl rfl, tu_tb_in 618 rfl rfl, tu_tb_in 47 rfl rfl, co_X4_dropLine⟩, by decide, by decide, by decide⟩
set_option maxRecDepth 20000 in
theorem co_X3_dropPhrase : Cond.code tu_Y_X3_dropPhrase.1 tu_Y_X3_dropPhrase.2.1 tu_Y_X3_dropPhrase.2.2.1 tu_Y_X3_dropPhrase.2.2.2.1 ∈ tu_tb := tu_tb_in 287 rfl rfl
set_option maxRecDepth 20000 in
theorem sv_RL_28 : tu_sV RL 28 tu_Y_X3_dropPhrase 1 := ⟨⟨tu_tb_in 284 rfl rfl, tu_tb_in 285 rfl rfl, tu_tb_in 286 rfl rfl, tu_tb_in 42 rfl rfl, co_X3_dropPhrase⟩, by decide, by decide, by decide⟩
set_option maxRecDepth 20000 in
theorem co_X4_dropPhrase : Cond.code tu_Y_X4_dropPhrase.1 tu_Y_X4_dropPhrase.2.1 tu_Y_X4_dropPhrase.2.2.1 tu_Y_X4_dropPhrase.2.2.2.1 ∈ tu_tb := tu_tb_in 631 rfl rfl
set_option maxRecDepth 20000 in
theorem sv_RL_31 : tu_sV RL 31 tu_Y_X4_dropPhrase 1 := ⟨⟨tu_tb_in 628 rfl rfl, tu_tb_in 629 rfl rfl, tu_tb_in 630 rfl rfl, tu_tb_in 47 rfl rfl, co_X4_dropPhrase⟩, by decide, by decide, by decide⟩
set_option maxRecDepth 20000 in
theorem co_X3_stress : Cond.code tu_Y_X3_stress.1 tu_Y_X3_stress.2.1 tu_Y_X3_stress.2.2.1 tu_Y_X3_stress.2.2.2.1 ∈ tu_tb := tu_tb_in 299 rfl rfl
set_option maxRecDepth 20000 in
theorem sv_RL_32 : tu_sV RL 32 tu_Y_X3_stress 3 := ⟨⟨tu_tb_in 296 rfl rfl, tu_tb_in 297 rfl rfl, tu_tb_in 298 rfl rfl, tu_tb_in 42 rfl rfl, co_X3_stress⟩, by decide, by decide, by decide⟩
set_option maxRecDepth 20000 in
theorem co_X4_stress : Cond.code tu_Y_X4_stress.1 tu_Y_X4_stress.2.1 tu_Y_X4_stress.2.2.1 tu_Y_X4_stress.2.2.2.1 ∈ tu_tb := tu_tb_in 639 rfl rfl
set_option maxRecDepth 20000 in
theorem sv_RL_36 : tu_sV RL 36 tu_Y_X4_stress 3 := ⟨⟨tu_tb_in 636 rfl rfl, tu_tb_in 637 rfl rfl, tu_tb_in 638 rfl rfl, tu_tb_in 47 rfl rfl, co_X4_stress⟩, by decide, by decide, by decide⟩
set_option maxRecDepth 20000 in
theorem co_X3_beat : Cond.code tu_Y_X3_beat.1 tu_Y_X3_beat.2.1 tu_Y_X3_beat.2.2.1 tu_Y_X3_beat.2.2.2.1 ∈ tu_tb := tu_tb_in 308 rfl rfl
set_option maxRecDepth 20000 in
theorem sv_RL_37 : tu_sV RL 37 tu_Y_X3_beat 3 := ⟨⟨tu_tb_in 305 rfl rfl, tu_tb_in 306 rfl rfl, tu_tb_in 307 rfl rfl, tu_tb_in 42 rfl rfl, co_X3_beat⟩, by decide, by decide, by decide⟩
set_option maxRecDepth 20000 in
theorem co_X4_beat : Cond.code tu_Y_X4_beat.1 tu_Y_X4_beat.2.1 tu_Y_X4_beat.2.2.1 tu_Y_X4_beat.2.2.2.1 ∈ tu_tb := tu_tb_in 651 rfl rfl
set_option maxRecDepth 20000 in
theorem sv_RL_41 : tu_sV RL 41 tu_Y_X4_beat 3 := ⟨⟨tu_tb_in 648 rfl rfl, tu_tb_in 649 rfl rfl, tu_tb_in 650 rfl rfl, tu_tb_in 47 rfl rfl, co_X4_beat⟩, by decide, by decide, by decide⟩
set_option maxRecDepth 20000 in
theorem co_X3_sing : Cond.code tu_Y_X3_sing.1 tu_Y_X3_sing.2.1 tu_Y_X3_sing.2.2.1 tu_Y_X3_sing.2.2.2.1 ∈ tu_tb := tu_tb_in 317 rfl rfl
set_option maxRecDepth 20000 in
theorem sv_RL_42 : tu_sV RL 42 tu_Y_X3_sing 1 := ⟨⟨tu_tb_in 314 rfl rfl, tu_tb_in 315 rfl rfl, tu_tb_in 316 rfl rfl, tu_tb_in 42 rfl rfl, co_X3_sing⟩, by decide, by decide, by decide⟩
set_option maxRecDepth 20000 in
theorem co_X4_sing : Cond.code tu_Y_X4_sing.1 tu_Y_X4_sing.2.1 tu_Y_X4_sing.2.2.1 tu_Y_X4_sing.2.2.2.1 ∈ tu_tb := tu_tb_in 670 rfl rfl
set_option maxRecDepth 20000 in
theorem sv_RL_45 : tu_sV RL 45 tu_Y_X4_sing 1 := ⟨⟨tu_tb_in 667 rfl rfl, tu_tb_in 668 rfl rfl, tu_tb_in 669 rfl rfl, tu_tb_in 47 rfl rfl, co_X4_sing⟩, by decide, by decide, by decide⟩
set_option maxRecDepth 20000 in
theorem co_X3_play : Cond.code tu_Y_X3_play.1 tu_Y_X3_play.2.1 tu_Y_X3_play.2.2.1 tu_Y_X3_play.2.2.2.1 ∈ tu_tb := tu_tb_in 325 rfl rfl
set_option maxRecDepth 20000 in
theorem sv_RL_46 : tu_sV RL 46 tu_Y_X3_play 1 := ⟨⟨tu_tb_in 322 rfl rfl, tu_tb_in 323 rfl rfl, tu_tb_in 324 rfl rfl, tu_tb_in 42 rfl rfl, co_X3_play⟩, by decide, by decide, by decide⟩
set_option maxRecDepth 20000 in
theorem co_X4_play : Cond.code tu_Y_X4_play.1 tu_Y_X4_play.2.1 tu_Y_X4_play.2.2.1 tu_Y_X4_play.2.2.2.1 ∈ tu_tb := tu_tb_in 678 rfl rfl
set_option maxRecDepth 20000 in
theorem sv_RL_49 : tu_sV RL 49 tu_Y_X4_play 1 := ⟨⟨tu_tb_in 675 rfl rfl, tu_tb_in 676 rfl rfl, tu_tb_in 677 rfl rfl, tu_tb_in 47 rfl rfl, co_X4_play⟩, by decide, by decide, by decide⟩
set_option maxRecDepth 20000 in
theorem co_X3_verse : Cond.code tu_Y_X3_verse.1 tu_Y_X3_verse.2.1 tu_Y_X3_verse.2.2.1 tu_Y_X3_verse.2.2.2.1 ∈ tu_tb := tu_tb_in 333 rfl rfl
set_option maxRecDepth 20000 in
theorem sv_RL_50 : tu_sV RL 50 tu_Y_X3_verse 3 := ⟨⟨tu_tb_in 330 rfl rfl, tu_tb_in 331 rfl rfl, tu_tb_in 332 rfl rfl, tu_tb_in 42 rfl rfl, co_X3_verse⟩, by decide, by decide, by decide⟩
set_option maxRecDepth 20000 in
theorem co_X4_verse : Cond.code tu_Y_X4_verse.1 tu_Y_X4_verse.2.1 tu_Y_X4_verse.2.2.1 tu_Y_X4_verse.2.2.2.1 ∈ tu_tb := tu_tb_in 682 rfl rfl
set_option maxRecDepth 20000 in
theorem sv_RL_53 : tu_sV RL 53 tu_Y_X4_verse 3 := ⟨⟨tu_tb_in 679 rfl rfl, tu_tb_in 680 rfl rfl, tu_tb_in 681 rfl rfl, tu_tb_in 47 rfl rfl, co_X4_verse⟩, by decide, by decide, by decide⟩
set_option maxRecDepth 20000 in
theorem co_X3_clear : Cond.code tu_Y_X3_clear.1 tu_Y_X3_clear.2.1 tu_Y_X3_clear.2.2.1 tu_Y_X3_clear.2.2.2.1 ∈ tu_tb := tu_tb_in 337 rfl rfl
set_option maxRecDepth 20000 in
theorem sv_RL_54 : tu_sV RL 54 tu_Y_X3_clear 1 := ⟨⟨tu_tb_in 334 rfl rfl, tu_tb_in 335 rfl rfl, tu_tb_in 336 rfl rfl, tu_tb_in 42 rfl rfl, co_X3_clear⟩, by decide, by decide, by decide⟩
set_option maxRecDepth 20000 in
theorem co_X4_clear : Cond.code tu_Y_X4_clear.1 tu_Y_X4_clear.2.1 tu_Y_X4_clear.2.2.1 tu_Y_X4_clear.2.2.2.1 ∈ tu_tb := tu_tb_in 686 rfl rfl
set_option maxRecDepth 20000 in
theorem sv_RL_58 : tu_sV RL 58 tu_Y_X4_clear 1 := ⟨⟨tu_tb_in 683 rfl rfl, tu_tb_in 684 rfl rfl, tu_tb_in 685 rfl rfl, tu_tb_in 47 rfl rfl, co_X4_clear⟩, by decide, by decide, by decide⟩
set_option maxRecDepth 20000 in
theorem co_X3_line : Cond.code tu_Y_X3_line.1 tu_Y_X3_line.2.1 tu_Y_X3_line.2.2.1 tu_Y_X3_line.2.2.2.1 ∈ tu_tb := tu_tb_in 341 rfl rfl
set_option maxRecDepth 20000 in
theorem sv_RL_59 : tu_sV RL 59 tu_Y_X3_line 2 := ⟨⟨tu_tb_in 338 rfl rfl, tu_tb_in 339 rfl rfl, tu_tb_in 340 rfl rfl, tu_tb_in 42 rfl rfl, co_X3_line⟩, by decide, by decide, by decide⟩
set_option maxRecDepth 20000 in
theorem co_X4_line : Cond.code tu_Y_X4_line.1 tu_Y_X4_line.2.1 tu_Y_X4_line.2.2.1 tu_Y_X4_line.2.2.2.1 ∈ tu_tb := tu_tb_in 690 rfl rfl
set_option maxRecDepth 20000 in
theorem sv_RL_62 : tu_sV RL 62 tu_Y_X4_line 2 := ⟨⟨tu_tb_in 687 rfl rfl, tu_tb_in 688 rfl rfl, tu_tb_in 689 rfl rfl, tu_tb_in 47 rfl rfl, co_X4_line⟩, by decide, by decide, by decide⟩
set_option maxRecDepth 20000 in
theorem co_X3_phrase : Cond.code tu_Y_X3_phrase.1 tu_Y_X3_phrase.2.1 tu_Y_X3_phrase.2.2.1 tu_Y_X3_phrase.2.2.2.1 ∈ tu_tb := tu_tb_in 394 rfl rfl
set_option maxRecDepth 20000 in
theorem sv_RL_63 : tu_sV RL 63 tu_Y_X3_phrase 2 := ⟨⟨tu_tb_in 391 rfl rfl, tu_tb_in 392 rfl rfl, tu_tb_in 393 rfl rfl, tu_tb_in 42 rfl rfl, co_X3_phrase⟩, by decide, by decide, by decide⟩
set_option maxRecDepth 20000 in
theorem co_X4_phrase : Cond.code tu_Y_X4_phrase.1 tu_Y_X4_phrase.2.1 tu_Y_X4_phrase.2.2.1 tu_Y_X4_phrase.2.2.2.1 ∈ tu_tb := tu_tb_in 742 rfl rfl
set_option maxRecDepth 20000 in
theorem sv_RL_66 : tu_sV RL 66 tu_Y_X4_phrase 2 := ⟨⟨tu_tb_in 739 rfl rfl, tu_tb_in 740 rfl rfl, tu_tb_in 741 rfl rfl, tu_tb_in 47 rfl rfl, co_X4_phrase⟩, by decide, by decide, by decide⟩
set_option maxRecDepth 20000 in
theorem co_X3_isStressed : Cond.code tu_Y_X3_isStressed.1 tu_Y_X3_isStressed.2.1 tu_Y_X3_isStressed.2.2.1 tu_Y_X3_isStressed.2.2.2.1 ∈ tu_tb := tu_tb_in 413 rfl rfl
set_option maxRecDepth 20000 in
theorem sv_RL_67 : tu_sV RL 67 tu_Y_X3_isStressed 2 := ⟨⟨tu_tb_in 410 rfl rfl, tu_tb_in 411 rfl rfl, tu_tb_in 412 rfl rfl, tu_tb_in 42 rfl rfl, co_X3_isStressed⟩, by decide, by decide, by decide⟩
set_option maxRecDepth 20000 in
theorem co_X4_isStressed : Cond.code tu_Y_X4_isStressed.1 tu_Y_X4_isStressed.2.1 tu_Y_X4_isStressed.2.2.1 tu_Y_X4_isStressed.2.2.2.1 ∈ tu_tb := tu_tb_in 754 rfl rfl
set_option maxRecDepth 20000 in
theorem sv_RL_70 : tu_sV RL 70 tu_Y_X4_isStressed 2 := ⟨⟨tu_tb_in 751 rfl rfl, tu_tb_in 752 rfl rfl, tu_tb_in 753 rfl rfl, tu_tb_in 47 rfl rfl, co_X4_isStressed⟩, by decide, by decide, by decide⟩
set_option maxRecDepth 20000 in
theorem co_X3_kindOf : Cond.code tu_Y_X3_kindOf.1 tu_Y_X3_kindOf.2.1 tu_Y_X3_kindOf.2.2.1 tu_Y_X3_kindOf.2.2.2.1 ∈ tu_tb := tu_tb_in 417 rfl rfl
set_option maxRecDepth 20000 in
theorem sv_RL_71 : tu_sV RL 71 tu_Y_X3_kindOf 2 := ⟨⟨tu_tb_in 414 rfl rfl, tu_tb_in 415 rfl rfl, tu_tb_in 416 rfl rfl, tu_tb_in 42 rfl rfl, co_X3_kindOf⟩, by decide, by decide, by decide⟩
set_option maxRecDepth 20000 in
theorem co_X4_kindOf : Cond.code tu_Y_X4_kindOf.1 tu_Y_X4_kindOf.2.1 tu_Y_X4_kindOf.2.2.1 tu_Y_X4_kindOf.2.2.2.1 ∈ tu_tb := tu_tb_in 758 rfl rfl
set_option maxRecDepth 20000 in
theorem sv_RL_74 : tu_sV RL 74 tu_Y_X4_kindOf 2 := ⟨⟨tu_tb_in 755 rfl rfl, tu_tb_in 756 rfl rfl, tu_tb_in 757 rfl rfl, tu_tb_in 47 rfl rfl, co_X4_kindOf⟩, by decide, by decide, by decide⟩
set_option maxRecDepth 20000 in
theorem co_X3_count : Cond.code tu_Y_X3_count.1 tu_Y_X3_count.2.1 tu_Y_X3_count.2.2.1 tu_Y_X3_count.2.2.2.1 ∈ tu_tb := tu_tb_in 421 rfl rfl
set_option maxRecDepth 20000 in
theorem sv_RL_75 : tu_sV RL 75 tu_Y_X3_count 1 := ⟨⟨tu_tb_in 418 rfl rfl, tu_tb_in 419 rfl rfl, tu_tb_in 420 rfl rfl, tu_tb_in 42 rfl rfl, co_X3_count⟩, by decide, by decide, by decide⟩
set_option maxRecDepth 20000 in
theorem co_X4_count : Cond.code tu_Y_X4_count.1 tu_Y_X4_count.2.1 tu_Y_X4_count.2.2.1 tu_Y_X4_count.2.2.2.1 ∈ tu_tb := tu_tb_in 762 rfl rfl
set_option maxRecDepth 20000 in
theorem sv_RL_78 : tu_sV RL 78 tu_Y_X4_count 1 := ⟨⟨tu_tb_in 759 rfl rfl, tu_tb_in 760 rfl rfl, tu_tb_in 761 rfl rfl, tu_tb_in 47 rfl rfl, co_X4_count⟩, by decide, by decide, by decide⟩
set_option maxRecDepth 20000 in
theorem co_X3_at : Cond.code tu_Y_X3_at.1 tu_Y_X3_at.2.1 tu_Y_X3_at.2.2.1 tu_Y_X3_at.2.2.2.1 ∈ tu_tb := tu_tb_in 430 rfl rfl
set_option maxRecDepth 20000 in
theorem sv_RL_79 : tu_sV RL 79 tu_Y_X3_at 2 := ⟨⟨tu_tb_in 427 rfl rfl, tu_tb_in 428 rfl rfl, tu_tb_in 429 rfl rfl, tu_tb_in 42 rfl rfl, co_X3_at⟩, by decide, by decide, by decide⟩
set_option maxRecDepth 20000 in
theorem co_X4_at : Cond.code tu_Y_X4_at.1 tu_Y_X4_at.2.1 tu_Y_X4_at.2.2.1 tu_Y_X4_at.2.2.2.1 ∈ tu_tb := tu_tb_in 770 rfl rfl
set_option maxRecDepth 20000 in
theorem sv_RL_83 : tu_sV RL 83 tu_Y_X4_at 2 := ⟨⟨tu_tb_in 767 rfl rfl, tu_tb_in 768 rfl rfl, tu_tb_in 769 rfl rfl, tu_tb_in 47 rfl rfl, co_X4_at⟩, by decide, by decide, by decide⟩
set_option maxRecDepth 20000 in
theorem co_X3_fit : Cond.code tu_Y_X3_fit.1 tu_Y_X3_fit.2.1 tu_Y_X3_fit.2.2.1 tu_Y_X3_fit.2.2.2.1 ∈ tu_tb := tu_tb_in 434 rfl rfl
set_option maxRecDepth 20000 in
theorem sv_RL_84 : tu_sV RL 84 tu_Y_X3_fit 3 := ⟨⟨tu_tb_in 431 rfl rfl, tu_tb_in 432 rfl rfl, tu_tb_in 433 rfl rfl, tu_tb_in 42 rfl rfl, co_X3_fit⟩, by decide, by decide, by decide⟩
set_option maxRecDepth 20000 in
theorem co_X4_fit : Cond.code tu_Y_X4_fit.1 tu_Y_X4_fit.2.1 tu_Y_X4_fit.2.2.1 tu_Y_X4_fit.2.2.2.1 ∈ tu_tb := tu_tb_in 774 rfl rfl
set_option maxRecDepth 20000 in
theorem sv_RL_87 : tu_sV RL 87 tu_Y_X4_fit 3 := ⟨⟨tu_tb_in 771 rfl rfl, tu_tb_in 772 rfl rfl, tu_tb_in 773 rfl rfl, tu_tb_in 47 rfl rfl, co_X4_fit⟩, by decide, by decide, by decide⟩
set_option maxRecDepth 20000 in
theorem co_X3_lies : Cond.code tu_Y_X3_lies.1 tu_Y_X3_lies.2.1 tu_Y_X3_lies.2.2.1 tu_Y_X3_lies.2.2.2.1 ∈ tu_tb := tu_tb_in 462 rfl rfl
set_option maxRecDepth 20000 in
theorem sv_RL_88 : tu_sV RL 88 tu_Y_X3_lies 4 := ⟨⟨tu_tb_in 459 rfl rfl, tu_tb_in 460 rfl rfl, tu_tb_in 461 rfl rfl, tu_tb_in 42 rfl rfl, co_X3_lies⟩, by decide, by decide, by decide⟩
set_option maxRecDepth 20000 in
theorem co_X4_lies : Cond.code tu_Y_X4_lies.1 tu_Y_X4_lies.2.1 tu_Y_X4_lies.2.2.1 tu_Y_X4_lies.2.2.2.1 ∈ tu_tb := tu_tb_in 794 rfl rfl
set_option maxRecDepth 20000 in
theorem sv_RL_92 : tu_sV RL 92 tu_Y_X4_lies 4 := ⟨⟨tu_tb_in 791 rfl rfl, tu_tb_in 792 rfl rfl, tu_tb_in 793 rfl rfl, tu_tb_in 47 rfl rfl, co_X4_lies⟩, by decide, by decide, by decide⟩
set_option maxRecDepth 20000 in
theorem co_X3_whole : Cond.code tu_Y_X3_whole.1 tu_Y_X3_whole.2.1 tu_Y_X3_whole.2.2.1 tu_Y_X3_whole.2.2.2.1 ∈ tu_tb := tu_tb_in 467 rfl rfl
set_option maxRecDepth 20000 in
theorem sv_RL_93 : tu_sV RL 93 tu_Y_X3_whole 1 := ⟨⟨tu_tb_in 464 rfl rfl, tu_tb_in 465 rfl rfl, tu_tb_in 466 rfl rfl, tu_tb_in 42 rfl rfl, co_X3_whole⟩, by decide, by decide, by decide⟩
set_option maxRecDepth 20000 in
theorem co_X4_whole : Cond.code tu_Y_X4_whole.1 tu_Y_X4_whole.2.1 tu_Y_X4_whole.2.2.1 tu_Y_X4_whole.2.2.2.1 ∈ tu_tb := tu_tb_in 798 rfl rfl
set_option maxRecDepth 20000 in
theorem sv_RL_96 : tu_sV RL 96 tu_Y_X4_whole 1 := ⟨⟨tu_tb_in 795 rfl rfl, tu_tb_in 796 rfl rfl, tu_tb_in 797 rfl rfl, tu_tb_in 47 rfl rfl, co_X4_whole⟩, by decide, by decide, by decide⟩
set_option maxRecDepth 20000 in
theorem co_X3_bestPhrase : Cond.code tu_Y_X3_bestPhrase.1 tu_Y_X3_bestPhrase.2.1 tu_Y_X3_bestPhrase.2.2.1 tu_Y_X3_bestPhrase.2.2.2.1 ∈ tu_tb := tu_tb_in 471 rfl rfl
set_option maxRecDepth 20000 in
theorem sv_RL_97 : tu_sV RL 97 tu_Y_X3_bestPhrase 0 := ⟨⟨tu_tb_in 468 rfl rfl, tu_tb_in 469 rfl rfl, tu_tb_in 470 rfl rfl, tu_tb_in 42 rfl rfl, co_X3_bestPhrase⟩, by decide, by decide, by decide⟩
set_option maxRecDepth 20000 in
theorem co_X4_bestPhrase : Cond.code tu_Y_X4_bestPhrase.1 tu_Y_X4_bestPhrase.2.1 tu_Y_X4_bestPhrase.2.2.1 tu_Y_X4_bestPhrase.2.2.2.1 ∈ tu_tb := tu_tb_in 806 rfl rfl
set_option maxRecDepth 20000 in
theorem sv_RL_100 : tu_sV RL 100 tu_Y_X4_bestPhrase 0 := ⟨⟨tu_tb_in 803 rfl rfl, tu_tb_in 804 rfl rfl, tu_tb_in 805 rfl rfl, tu_tb_in 47 rfl rfl, co_X4_bestPhrase⟩, by decide, by decide, by decide⟩
set_option maxRecDepth 20000 in
theorem co_X3_bestChange : Cond.code tu_Y_X3_bestChange.1 tu_Y_X3_bestChange.2.1 tu_Y_X3_bestChange.2.2.1 tu_Y_X3_bestChange.2.2.2.1 ∈ tu_tb := tu_tb_in 475 rfl rfl
set_option maxRecDepth 20000 in
theorem sv_RL_101 : tu_sV RL 101 tu_Y_X3_bestChange 3 := ⟨⟨tu_tb_in 472 rfl rfl, tu_tb_in 473 rfl rfl, tu_tb_in 474 rfl rfl, tu_tb_in 42 rfl rfl, co_X3_bestChange⟩, by decide, by decide, by decide⟩
set_option maxRecDepth 20000 in
theorem co_X4_bestChange : Cond.code tu_Y_X4_bestChange.1 tu_Y_X4_bestChange.2.1 tu_Y_X4_bestChange.2.2.1 tu_Y_X4_bestChange.2.2.2.1 ∈ tu_tb := tu_tb_in 810 rfl rfl
set_option maxRecDepth 20000 in
theorem sv_RL_104 : tu_sV RL 104 tu_Y_X4_bestChange 3 := ⟨⟨tu_tb_in 807 rfl rfl, tu_tb_in 808 rfl rfl, tu_tb_in 809 rfl rfl, tu_tb_in 47 rfl rfl, co_X4_bestChange⟩, by decide, by decide, by decide⟩
set_option maxRecDepth 20000 in
theorem co_X3_enoughBreath : Cond.code tu_Y_X3_enoughBreath.1 tu_Y_X3_enoughBreath.2.1 tu_Y_X3_enoughBreath.2.2.1 tu_Y_X3_enoughBreath.2.2.2.1 ∈ tu_tb := tu_tb_in 483 rfl rfl
set_option maxRecDepth 20000 in
theorem sv_RL_105 : tu_sV RL 105 tu_Y_X3_enoughBreath 2 := ⟨⟨tu_tb_in 480 rfl rfl, tu_tb_in 481 rfl rfl, tu_tb_in 482 rfl rfl, tu_tb_in 42 rfl rfl, co_X3_enoughBreath⟩, by decide, by decide, by decide⟩
set_option maxRecDepth 20000 in
theorem co_X4_enoughBreath : Cond.code tu_Y_X4_enoughBreath.1 tu_Y_X4_enoughBreath.2.1 tu_Y_X4_enoughBreath.2.2.1 tu_Y_X4_enoughBreath.2.2.2.1 ∈ tu_tb := tu_tb_in 814 rfl rfl
set_option maxRecDepth 20000 in
theorem sv_RL_108 : tu_sV RL 108 tu_Y_X4_enoughBreath 2 := ⟨⟨tu_tb_in 811 rfl rfl, tu_tb_in 812 rfl rfl, tu_tb_in 813 rfl rfl, tu_tb_in 47 rfl rfl, co_X4_enoughBreath⟩, by decide, by decide, by decide⟩
set_option maxRecDepth 20000 in
theorem co_X3_put : Cond.code tu_Y_X3_put.1 tu_Y_X3_put.2.1 tu_Y_X3_put.2.2.1 tu_Y_X3_put.2.2.2.1 ∈ tu_tb := tu_tb_in 487 rfl rfl
set_option maxRecDepth 20000 in
theorem sv_RL_111 : tu_sV RL 111 tu_Y_X3_put 1 := ⟨⟨tu_tb_in 484 rfl rfl, tu_tb_in 485 rfl rfl, tu_tb_in 486 rfl rfl, tu_tb_in 42 rfl rfl, co_X3_put⟩, by decide, by decide, by decide⟩
set_option maxRecDepth 20000 in
theorem co_X4_put : Cond.code tu_Y_X4_put.1 tu_Y_X4_put.2.1 tu_Y_X4_put.2.2.1 tu_Y_X4_put.2.2.2.1 ∈ tu_tb := tu_tb_in 818 rfl rfl
set_option maxRecDepth 20000 in
theorem sv_RL_115 : tu_sV RL 115 tu_Y_X4_put 1 := ⟨⟨tu_tb_in 815 rfl rfl, tu_tb_in 816 rfl rfl, tu_tb_in 817 rfl rfl, tu_tb_in 47 rfl rfl, co_X4_put⟩, by decide, by decide, by decide⟩
set_option maxRecDepth 20000 in
theorem co_X3_wipe : Cond.code tu_Y_X3_wipe.1 tu_Y_X3_wipe.2.1 tu_Y_X3_wipe.2.2.1 tu_Y_X3_wipe.2.2.2.1 ∈ tu_tb := tu_tb_in 501 rfl rfl
set_option maxRecDepth 20000 in
theorem sv_RL_116 : tu_sV RL 116 tu_Y_X3_wipe 0 := ⟨⟨tu_tb_in 498 rfl rfl, tu_tb_in 499 rfl rfl, tu_tb_in 500 rfl rfl, tu_tb_in 42 rfl rfl, co_X3_wipe⟩, by decide, by decide, by decide⟩
set_option maxRecDepth 20000 in
theorem co_X4_wipe : Cond.code tu_Y_X4_wipe.1 tu_Y_X4_wipe.2.1 tu_Y_X4_wipe.2.2.1 tu_Y_X4_wipe.2.2.2.1 ∈ tu_tb := tu_tb_in 823 rfl rfl
set_option maxRecDepth 20000 in
theorem sv_RL_119 : tu_sV RL 119 tu_Y_X4_wipe 0 := ⟨⟨tu_tb_in 820 rfl rfl, tu_tb_in 821 rfl rfl, tu_tb_in 822 rfl rfl, tu_tb_in 47 rfl rfl, co_X4_wipe⟩, by decide, by decide, by decide⟩
set_option maxRecDepth 20000 in
theorem co_X3_fault : Cond.code tu_Y_X3_fault.1 tu_Y_X3_fault.2.1 tu_Y_X3_fault.2.2.1 tu_Y_X3_fault.2.2.2.1 ∈ tu_tb := tu_tb_in 505 rfl rfl
set_option maxRecDepth 20000 in
theorem sv_RL_120 : tu_sV RL 120 tu_Y_X3_fault 0 := ⟨⟨tu_tb_in 502 rfl rfl, tu_tb_in 503 rfl rfl, tu_tb_in 504 rfl rfl, tu_tb_in 42 rfl rfl, co_X3_fault⟩, by decide, by decide, by decide⟩
set_option maxRecDepth 20000 in
theorem co_X4_fault : Cond.code tu_Y_X4_fault.1 tu_Y_X4_fault.2.1 tu_Y_X4_fault.2.2.1 tu_Y_X4_fault.2.2.2.1 ∈ tu_tb := tu_tb_in 827 rfl rfl
set_option maxRecDepth 20000 in
theorem sv_RL_123 : tu_sV RL 123 tu_Y_X4_fault 0 := ⟨⟨tu_tb_in 824 rfl rfl, tu_tb_in 825 rfl rfl, tu_tb_in 826 rfl rfl, tu_tb_in 47 rfl rfl, co_X4_fault⟩, by decide, by decide, by decide⟩
set_option maxRecDepth 20000 in
theorem co_X3_undo : Cond.code tu_Y_X3_undo.1 tu_Y_X3_undo.2.1 tu_Y_X3_undo.2.2.1 tu_Y_X3_undo.2.2.2.1 ∈ tu_tb := tu_tb_in 509 rfl rfl
set_option maxRecDepth 20000 in
theorem sv_RL_124 : tu_sV RL 124 tu_Y_X3_undo 0 := ⟨⟨tu_tb_in 506 rfl rfl, tu_tb_in 507 rfl rfl, tu_tb_in 508 rfl rfl, tu_tb_in 42 rfl rfl, co_X3_undo⟩, by decide, by decide, by decide⟩
set_option maxRecDepth 20000 in
theorem co_X4_undo : Cond.code tu_Y_X4_undo.1 tu_Y_X4_undo.2.1 tu_Y_X4_undo.2.2.1 tu_Y_X4_undo.2.2.2.1 ∈ tu_tb := tu_tb_in 831 rfl rfl
set_option maxRecDepth 20000 in
theorem sv_RL_127 : tu_sV RL 127 tu_Y_X4_undo 0 := ⟨⟨tu_tb_in 828 rfl rfl, tu_tb_in 829 rfl rfl, tu_tb_in 830 rfl rfl, tu_tb_in 47 rfl rfl, co_X4_undo⟩, by decide, by decide, by decide⟩
set_option maxRecDepth 20000 in
theorem co_X3_save : Cond.code tu_Y_X3_save.1 tu_Y_X3_save.2.1 tu_Y_X3_save.2.2.1 tu_Y_X3_save.2.2.2.1 ∈ tu_tb := tu_tb_in 513 rfl rfl
set_option maxRecDepth 20000 in
theorem sv_RL_128 : tu_sV RL 128 tu_Y_X3_save 1 := ⟨⟨tu_tb_in 510 rfl rfl, tu_tb_in 511 rfl rfl, tu_tb_in 512 rfl rfl, tu_tb_in 42 rfl rfl, co_X3_save⟩, by decide, by decide, by decide⟩
set_option maxRecDepth 20000 in
theorem co_X4_save : Cond.code tu_Y_X4_save.1 tu_Y_X4_save.2.1 tu_Y_X4_save.2.2.1 tu_Y_X4_save.2.2.2.1 ∈ tu_tb := tu_tb_in 835 rfl rfl
set_option maxRecDepth 20000 in
theorem sv_RL_131 : tu_sV RL 131 tu_Y_X4_save 1 := ⟨⟨tu_tb_in 832 rfl rfl, tu_tb_in 833 rfl rfl, tu_tb_in 834 rfl rfl, tu_tb_in 47 rfl rfl, co_X4_save⟩, by decide, by decide, by decide⟩
set_option maxRecDepth 20000 in
theorem co_X3_restore : Cond.code tu_Y_X3_restore.1 tu_Y_X3_restore.2.1 tu_Y_X3_restore.2.2.1 tu_Y_X3_restore.2.2.2.1 ∈ tu_tb := tu_tb_in 517 rfl rfl
set_option maxRecDepth 20000 in
theorem sv_RL_132 : tu_sV RL 132 tu_Y_X3_restore 1 := ⟨⟨tu_tb_in 514 rfl rfl, tu_tb_in 515 rfl rfl, tu_tb_in 516 rfl rfl, tu_tb_in 42 rfl rfl, co_X3_restore⟩, by decide, by decide, by decide⟩
set_option maxRecDepth 20000 in
theorem co_X4_restore : Cond.code tu_Y_X4_restore.1 tu_Y_X4_restore.2.1 tu_Y_X4_restore.2.2.1 tu_Y_X4_restore.2.2.2.1 ∈ tu_tb := tu_tb_in 839 rfl rfl
set_option maxRecDepth 20000 in
theorem sv_RL_135 : tu_sV RL 135 tu_Y_X4_restore 1 := ⟨⟨tu_tb_in 836 rfl rfl, tu_tb_in 837 rfl rfl, tu_tb_in 838 rfl rfl, tu_tb_in 47 rfl rfl, co_X4_restore⟩, by decide, by decide, by decide⟩
theorem iw_X0 : ∀ w ∈ u_ws RX0 TX0 11, w ∈ tu_tb := by decide +kernel
theorem iw_X1 : ∀ w ∈ u_ws RX1 TX1 13, w ∈ tu_tb := by decide +kernel
theorem iw_X2 : ∀ w ∈ u_ws RX2 TX2 2, w ∈ tu_tb := by decide +kernel
theorem iw_X3 : ∀ w ∈ u_ws RX3 TX3 7, w ∈ tu_tb := by decide +kernel
theorem iw_X4 : ∀ w ∈ u_ws RX4 TX4 18, w ∈ tu_tb := by decide +kernel
set_option maxRecDepth 20000 in
theorem fl_RX0_9 : tu_fl RX0 9 0 0 := ⟨RX0, TX0, 11, rfl, by decide, iw_X0, tu_tb_in 68 rfl rfl⟩
set_option maxRecDepth 20000 in
theorem fl_RX0_15 : tu_fl RX0 15 0 1 := ⟨RX0, TX0, 11, rfl, by decide, iw_X0, tu_tb_in 71 rfl rfl⟩
set_option maxRecDepth 20000 in
theorem fp_RX0_15 : tu_fp RX0 15 0 1 := ⟨RX0, TX0, 11, rfl, by decide, iw_X0, tu_tb_in 71 rfl rfl, rfl, by decide +kernel, ⟨tyX0, tyX0_ok⟩, nmX0⟩
set_option maxRecDepth 20000 in
theorem fl_RX0_19 : tu_fl RX0 19 0 2 := ⟨RX0, TX0, 11, rfl, by decide, iw_X0, tu_tb_in 73 rfl rfl⟩
set_option maxRecDepth 20000 in
theorem fl_RX0_22 : tu_fl RX0 22 0 3 := ⟨RX0, TX0, 11, rfl, by decide, iw_X0, tu_tb_in 76 rfl rfl⟩
set_option maxRecDepth 20000 in
theorem fl_RX0_25 : tu_fl RX0 25 0 4 := ⟨RX0, TX0, 11, rfl, by decide, iw_X0, tu_tb_in 79 rfl rfl⟩
set_option maxRecDepth 20000 in
theorem fp_RX0_25 : tu_fp RX0 25 0 4 := ⟨RX0, TX0, 11, rfl, by decide, iw_X0, tu_tb_in 79 rfl rfl, rfl, by decide +kernel, ⟨tyX0, tyX0_ok⟩, nmX0⟩
set_option maxRecDepth 20000 in
theorem fl_RX0_28 : tu_fl RX0 28 0 5 := ⟨RX0, TX0, 11, rfl, by decide, iw_X0, tu_tb_in 81 rfl rfl⟩
set_option maxRecDepth 20000 in
theorem fl_RX0_31 : tu_fl RX0 31 0 6 := ⟨RX0, TX0, 11, rfl, by decide, iw_X0, tu_tb_in 84 rfl rfl⟩
set_option maxRecDepth 20000 in
theorem fl_RX0_34 : tu_fl RX0 34 0 7 := ⟨RX0, TX0, 11, rfl, by decide, iw_X0, tu_tb_in 87 rfl rfl⟩
set_option maxRecDepth 20000 in
theorem fp_RX0_34 : tu_fp RX0 34 0 7 := ⟨RX0, TX0, 11, rfl, by decide, iw_X0, tu_tb_in 87 rfl rfl, rfl, by decide +kernel, ⟨tyX0, tyX0_ok⟩, nmX0⟩
set_option maxRecDepth 20000 in
theorem fl_RX0_37 : tu_fl RX0 37 0 8 := ⟨RX0, TX0, 11, rfl, by decide, iw_X0, tu_tb_in 89 rfl rfl⟩
set_option maxRecDepth 20000 in
theorem fl_RX0_40 : tu_fl RX0 40 0 9 := ⟨RX0, TX0, 11, rfl, by decide, iw_X0, tu_tb_in 91 rfl rfl⟩
set_option maxRecDepth 20000 in
theorem fp_RX0_40 : tu_fp RX0 40 0 9 := ⟨RX0, TX0, 11, rfl, by decide, iw_X0, tu_tb_in 91 rfl rfl, rfl, by decide +kernel, ⟨tyX0, tyX0_ok⟩, nmX0⟩
set_option maxRecDepth 20000 in
theorem fl_RX0_43 : tu_fl RX0 43 0 10 := ⟨RX0, TX0, 11, rfl, by decide, iw_X0, tu_tb_in 93 rfl rfl⟩
set_option maxRecDepth 20000 in
theorem fl_RX1_52 : tu_fl RX1 52 0 0 := ⟨RX0, TX0, 11, rfl, by decide, iw_X0, tu_tb_in 69 rfl rfl⟩
set_option maxRecDepth 20000 in
theorem fl_RX1_9 : tu_fl RX1 9 1 0 := ⟨RX1, TX1, 13, rfl, by decide, iw_X1, tu_tb_in 141 rfl rfl⟩
set_option maxRecDepth 20000 in
theorem fp_RX1_9 : tu_fp RX1 9 1 0 := ⟨RX1, TX1, 13, rfl, by decide, iw_X1, tu_tb_in 141 rfl rfl, rfl, by decide +kernel, ⟨tyX1, tyX1_ok⟩, nmX1⟩
set_option maxRecDepth 20000 in
theorem fl_RX1_15 : tu_fl RX1 15 1 1 := ⟨RX1, TX1, 13, rfl, by decide, iw_X1, tu_tb_in 143 rfl rfl⟩
set_option maxRecDepth 20000 in
theorem fp_RX1_15 : tu_fp RX1 15 1 1 := ⟨RX1, TX1, 13, rfl, by decide, iw_X1, tu_tb_in 143 rfl rfl, rfl, by decide +kernel, ⟨tyX1, tyX1_ok⟩, nmX1⟩
set_option maxRecDepth 20000 in
theorem fl_RX1_18 : tu_fl RX1 18 1 2 := ⟨RX1, TX1, 13, rfl, by decide, iw_X1, tu_tb_in 144 rfl rfl⟩
set_option maxRecDepth 20000 in
theorem fp_RX1_18 : tu_fp RX1 18 1 2 := ⟨RX1, TX1, 13, rfl, by decide, iw_X1, tu_tb_in 144 rfl rfl, rfl, by decide +kernel, ⟨tyX1, tyX1_ok⟩, nmX1⟩
set_option maxRecDepth 20000 in
theorem fl_RX1_21 : tu_fl RX1 21 1 3 := ⟨RX1, TX1, 13, rfl, by decide, iw_X1, tu_tb_in 145 rfl rfl⟩
set_option maxRecDepth 20000 in
theorem fp_RX1_21 : tu_fp RX1 21 1 3 := ⟨RX1, TX1, 13, rfl, by decide, iw_X1, tu_tb_in 145 rfl rfl, rfl, by decide +kernel, ⟨tyX1, tyX1_ok⟩, nmX1⟩
set_option maxRecDepth 20000 in
theorem fl_RX1_57 : tu_fl RX1 57 0 2 := ⟨RX0, TX0, 11, rfl, by decide, iw_X0, tu_tb_in 74 rfl rfl⟩
set_option maxRecDepth 20000 in
theorem fl_RX1_24 : tu_fl RX1 24 1 4 := ⟨RX1, TX1, 13, rfl, by decide, iw_X1, tu_tb_in 146 rfl rfl⟩
set_option maxRecDepth 20000 in
theorem fp_RX1_24 : tu_fp RX1 24 1 4 := ⟨RX1, TX1, 13, rfl, by decide, iw_X1, tu_tb_in 146 rfl rfl, rfl, by decide +kernel, ⟨tyX1, tyX1_ok⟩, nmX1⟩
set_option maxRecDepth 20000 in
theorem fl_RX1_60 : tu_fl RX1 60 0 5 := ⟨RX0, TX0, 11, rfl, by decide, iw_X0, tu_tb_in 82 rfl rfl⟩
set_option maxRecDepth 20000 in
theorem fl_RX1_27 : tu_fl RX1 27 1 5 := ⟨RX1, TX1, 13, rfl, by decide, iw_X1, tu_tb_in 147 rfl rfl⟩
set_option maxRecDepth 20000 in
theorem fp_RX1_27 : tu_fp RX1 27 1 5 := ⟨RX1, TX1, 13, rfl, by decide, iw_X1, tu_tb_in 147 rfl rfl, rfl, by decide +kernel, ⟨tyX1, tyX1_ok⟩, nmX1⟩
set_option maxRecDepth 20000 in
theorem fl_RX1_63 : tu_fl RX1 63 0 3 := ⟨RX0, TX0, 11, rfl, by decide, iw_X0, tu_tb_in 77 rfl rfl⟩
set_option maxRecDepth 20000 in
theorem fl_RX1_30 : tu_fl RX1 30 1 6 := ⟨RX1, TX1, 13, rfl, by decide, iw_X1, tu_tb_in 148 rfl rfl⟩
set_option maxRecDepth 20000 in
theorem fl_RX1_70 : tu_fl RX1 70 0 6 := ⟨RX0, TX0, 11, rfl, by decide, iw_X0, tu_tb_in 85 rfl rfl⟩
set_option maxRecDepth 20000 in
theorem fl_RX1_34 : tu_fl RX1 34 1 7 := ⟨RX1, TX1, 13, rfl, by decide, iw_X1, tu_tb_in 149 rfl rfl⟩
set_option maxRecDepth 20000 in
theorem fl_RX1_37 : tu_fl RX1 37 1 8 := ⟨RX1, TX1, 13, rfl, by decide, iw_X1, tu_tb_in 150 rfl rfl⟩
set_option maxRecDepth 20000 in
theorem fl_RX1_40 : tu_fl RX1 40 1 9 := ⟨RX1, TX1, 13, rfl, by decide, iw_X1, tu_tb_in 151 rfl rfl⟩
set_option maxRecDepth 20000 in
theorem fl_RX1_43 : tu_fl RX1 43 1 10 := ⟨RX1, TX1, 13, rfl, by decide, iw_X1, tu_tb_in 152 rfl rfl⟩
set_option maxRecDepth 20000 in
theorem fl_RX1_46 : tu_fl RX1 46 1 11 := ⟨RX1, TX1, 13, rfl, by decide, iw_X1, tu_tb_in 153 rfl rfl⟩
set_option maxRecDepth 20000 in
theorem fl_RX1_49 : tu_fl RX1 49 1 12 := ⟨RX1, TX1, 13, rfl, by decide, iw_X1, tu_tb_in 155 rfl rfl⟩
set_option maxRecDepth 20000 in
theorem fl_RX2_15 : tu_fl RX2 15 2 1 := ⟨RX2, TX2, 2, rfl, by decide, iw_X2, tu_tb_in 127 rfl rfl⟩
set_option maxRecDepth 20000 in
theorem fp_RX2_15 : tu_fp RX2 15 2 1 := ⟨RX2, TX2, 2, rfl, by decide, iw_X2, tu_tb_in 127 rfl rfl, rfl, by decide +kernel, ⟨tyX2, tyX2_ok⟩, nmX2⟩
set_option maxRecDepth 20000 in
theorem fl_RX2_9 : tu_fl RX2 9 2 0 := ⟨RX2, TX2, 2, rfl, by decide, iw_X2, tu_tb_in 125 rfl rfl⟩
set_option maxRecDepth 20000 in
theorem fl_RX3_10 : tu_fl RX3 10 3 0 := ⟨RX3, TX3, 7, rfl, by decide, iw_X3, tu_tb_in 185 rfl rfl⟩
set_option maxRecDepth 20000 in
theorem fl_RX3_55 : tu_fl RX3 55 0 0 := ⟨RX0, TX0, 11, rfl, by decide, iw_X0, tu_tb_in 70 rfl rfl⟩
set_option maxRecDepth 20000 in
theorem fl_RX3_19 : tu_fl RX3 19 3 1 := ⟨RX3, TX3, 7, rfl, by decide, iw_X3, tu_tb_in 186 rfl rfl⟩
set_option maxRecDepth 20000 in
theorem fl_RX3_68 : tu_fl RX3 68 0 1 := ⟨RX0, TX0, 11, rfl, by decide, iw_X0, tu_tb_in 72 rfl rfl⟩
set_option maxRecDepth 20000 in
theorem fl_RX3_71 : tu_fl RX3 71 0 4 := ⟨RX0, TX0, 11, rfl, by decide, iw_X0, tu_tb_in 80 rfl rfl⟩
set_option maxRecDepth 20000 in
theorem fl_RX3_74 : tu_fl RX3 74 2 1 := ⟨RX2, TX2, 2, rfl, by decide, iw_X2, tu_tb_in 128 rfl rfl⟩
set_option maxRecDepth 20000 in
theorem fp_RX3_74 : tu_fp RX3 74 2 1 := ⟨RX2, TX2, 2, rfl, by decide, iw_X2, tu_tb_in 128 rfl rfl, rfl, by decide +kernel, ⟨tyX2, tyX2_ok⟩, nmX2⟩
set_option maxRecDepth 20000 in
theorem fl_RX3_81 : tu_fl RX3 81 2 0 := ⟨RX2, TX2, 2, rfl, by decide, iw_X2, tu_tb_in 126 rfl rfl⟩
set_option maxRecDepth 20000 in
theorem fl_RX3_100 : tu_fl RX3 100 0 7 := ⟨RX0, TX0, 11, rfl, by decide, iw_X0, tu_tb_in 88 rfl rfl⟩
set_option maxRecDepth 20000 in
theorem fp_RX3_100 : tu_fp RX3 100 0 7 := ⟨RX0, TX0, 11, rfl, by decide, iw_X0, tu_tb_in 88 rfl rfl, rfl, by decide +kernel, ⟨tyX0, tyX0_ok⟩, nmX0⟩
set_option maxRecDepth 20000 in
theorem fl_RX3_109 : tu_fl RX3 109 0 9 := ⟨RX0, TX0, 11, rfl, by decide, iw_X0, tu_tb_in 92 rfl rfl⟩
set_option maxRecDepth 20000 in
theorem fp_RX3_109 : tu_fp RX3 109 0 9 := ⟨RX0, TX0, 11, rfl, by decide, iw_X0, tu_tb_in 92 rfl rfl, rfl, by decide +kernel, ⟨tyX0, tyX0_ok⟩, nmX0⟩
set_option maxRecDepth 20000 in
theorem fl_RX3_116 : tu_fl RX3 116 0 3 := ⟨RX0, TX0, 11, rfl, by decide, iw_X0, tu_tb_in 78 rfl rfl⟩
set_option maxRecDepth 20000 in
theorem fl_RX3_122 : tu_fl RX3 122 0 6 := ⟨RX0, TX0, 11, rfl, by decide, iw_X0, tu_tb_in 86 rfl rfl⟩
set_option maxRecDepth 20000 in
theorem fl_RX3_131 : tu_fl RX3 131 0 2 := ⟨RX0, TX0, 11, rfl, by decide, iw_X0, tu_tb_in 75 rfl rfl⟩
set_option maxRecDepth 20000 in
theorem fl_RX3_144 : tu_fl RX3 144 0 5 := ⟨RX0, TX0, 11, rfl, by decide, iw_X0, tu_tb_in 83 rfl rfl⟩
set_option maxRecDepth 20000 in
theorem fl_RX3_34 : tu_fl RX3 34 3 4 := ⟨RX3, TX3, 7, rfl, by decide, iw_X3, tu_tb_in 189 rfl rfl⟩
set_option maxRecDepth 20000 in
theorem fp_RX3_34 : tu_fp RX3 34 3 4 := ⟨RX3, TX3, 7, rfl, by decide, iw_X3, tu_tb_in 189 rfl rfl, rfl, by decide +kernel, ⟨tyX3, tyX3_ok⟩, nmX3⟩
set_option maxRecDepth 20000 in
theorem fl_RX3_160 : tu_fl RX3 160 0 10 := ⟨RX0, TX0, 11, rfl, by decide, iw_X0, tu_tb_in 94 rfl rfl⟩
set_option maxRecDepth 20000 in
theorem fl_RX3_163 : tu_fl RX3 163 0 8 := ⟨RX0, TX0, 11, rfl, by decide, iw_X0, tu_tb_in 90 rfl rfl⟩
set_option maxRecDepth 20000 in
theorem fl_RX3_26 : tu_fl RX3 26 3 2 := ⟨RX3, TX3, 7, rfl, by decide, iw_X3, tu_tb_in 187 rfl rfl⟩
set_option maxRecDepth 20000 in
theorem fl_RX3_183 : tu_fl RX3 183 1 11 := ⟨RX1, TX1, 13, rfl, by decide, iw_X1, tu_tb_in 154 rfl rfl⟩
set_option maxRecDepth 20000 in
theorem fl_RX3_186 : tu_fl RX3 186 1 12 := ⟨RX1, TX1, 13, rfl, by decide, iw_X1, tu_tb_in 156 rfl rfl⟩
set_option maxRecDepth 20000 in
theorem fl_RX3_199 : tu_fl RX3 199 1 0 := ⟨RX1, TX1, 13, rfl, by decide, iw_X1, tu_tb_in 142 rfl rfl⟩
set_option maxRecDepth 20000 in
theorem fp_RX3_199 : tu_fp RX3 199 1 0 := ⟨RX1, TX1, 13, rfl, by decide, iw_X1, tu_tb_in 142 rfl rfl, rfl, by decide +kernel, ⟨tyX1, tyX1_ok⟩, nmX1⟩
set_option maxRecDepth 20000 in
theorem fl_RX3_30 : tu_fl RX3 30 3 3 := ⟨RX3, TX3, 7, rfl, by decide, iw_X3, tu_tb_in 188 rfl rfl⟩
set_option maxRecDepth 20000 in
theorem fl_RX3_38 : tu_fl RX3 38 3 5 := ⟨RX3, TX3, 7, rfl, by decide, iw_X3, tu_tb_in 190 rfl rfl⟩
set_option maxRecDepth 20000 in
theorem fl_RX3_41 : tu_fl RX3 41 3 6 := ⟨RX3, TX3, 7, rfl, by decide, iw_X3, tu_tb_in 191 rfl rfl⟩
set_option maxRecDepth 20000 in
theorem fl_RX4_40 : tu_fl RX4 40 4 2 := ⟨RX4, TX4, 18, rfl, by decide, iw_X4, tu_tb_in 526 rfl rfl⟩
set_option maxRecDepth 20000 in
theorem fp_RX4_40 : tu_fp RX4 40 4 2 := ⟨RX4, TX4, 18, rfl, by decide, iw_X4, tu_tb_in 526 rfl rfl, rfl, by decide +kernel, ⟨tyX4, tyX4_ok⟩, nmX4⟩
set_option maxRecDepth 20000 in
theorem fl_RX4_13 : tu_fl RX4 13 4 1 := ⟨RX4, TX4, 18, rfl, by decide, iw_X4, tu_tb_in 525 rfl rfl⟩
set_option maxRecDepth 20000 in
theorem fl_RX4_7 : tu_fl RX4 7 4 0 := ⟨RX4, TX4, 18, rfl, by decide, iw_X4, tu_tb_in 524 rfl rfl⟩
set_option maxRecDepth 20000 in
theorem fl_RX4_66 : tu_fl RX4 66 4 10 := ⟨RX4, TX4, 18, rfl, by decide, iw_X4, tu_tb_in 534 rfl rfl⟩
set_option maxRecDepth 20000 in
theorem fp_RX4_66 : tu_fp RX4 66 4 10 := ⟨RX4, TX4, 18, rfl, by decide, iw_X4, tu_tb_in 534 rfl rfl, rfl, by decide +kernel, ⟨tyX4, tyX4_ok⟩, nmX4⟩
set_option maxRecDepth 20000 in
theorem fl_RX4_69 : tu_fl RX4 69 4 11 := ⟨RX4, TX4, 18, rfl, by decide, iw_X4, tu_tb_in 535 rfl rfl⟩
set_option maxRecDepth 20000 in
theorem fp_RX4_69 : tu_fp RX4 69 4 11 := ⟨RX4, TX4, 18, rfl, by decide, iw_X4, tu_tb_in 535 rfl rfl, rfl, by decide +kernel, ⟨tyX4, tyX4_ok⟩, nmX4⟩
set_option maxRecDepth 20000 in
theorem fl_RX4_72 : tu_fl RX4 72 4 12 := ⟨RX4, TX4, 18, rfl, by decide, iw_X4, tu_tb_in 536 rfl rfl⟩
set_option maxRecDepth 20000 in
theorem fp_RX4_72 : tu_fp RX4 72 4 12 := ⟨RX4, TX4, 18, rfl, by decide, iw_X4, tu_tb_in 536 rfl rfl, rfl, by decide +kernel, ⟨tyX4, tyX4_ok⟩, nmX4⟩
set_option maxRecDepth 20000 in
theorem fl_RX4_75 : tu_fl RX4 75 4 13 := ⟨RX4, TX4, 18, rfl, by decide, iw_X4, tu_tb_in 537 rfl rfl⟩
set_option maxRecDepth 20000 in
theorem fp_RX4_75 : tu_fp RX4 75 4 13 := ⟨RX4, TX4, 18, rfl, by decide, iw_X4, tu_tb_in 537 rfl rfl, rfl, by decide +kernel, ⟨tyX4, tyX4_ok⟩, nmX4⟩
set_option maxRecDepth 20000 in
theorem fl_RX4_78 : tu_fl RX4 78 4 14 := ⟨RX4, TX4, 18, rfl, by decide, iw_X4, tu_tb_in 538 rfl rfl⟩
set_option maxRecDepth 20000 in
theorem fp_RX4_78 : tu_fp RX4 78 4 14 := ⟨RX4, TX4, 18, rfl, by decide, iw_X4, tu_tb_in 538 rfl rfl, rfl, by decide +kernel, ⟨tyX4, tyX4_ok⟩, nmX4⟩
set_option maxRecDepth 20000 in
theorem fl_RX4_81 : tu_fl RX4 81 4 15 := ⟨RX4, TX4, 18, rfl, by decide, iw_X4, tu_tb_in 539 rfl rfl⟩
set_option maxRecDepth 20000 in
theorem fp_RX4_81 : tu_fp RX4 81 4 15 := ⟨RX4, TX4, 18, rfl, by decide, iw_X4, tu_tb_in 539 rfl rfl, rfl, by decide +kernel, ⟨tyX4, tyX4_ok⟩, nmX4⟩
set_option maxRecDepth 20000 in
theorem fl_RX4_25 : tu_fl RX4 25 4 7 := ⟨RX4, TX4, 18, rfl, by decide, iw_X4, tu_tb_in 531 rfl rfl⟩
set_option maxRecDepth 20000 in
theorem fl_RX4_31 : tu_fl RX4 31 4 9 := ⟨RX4, TX4, 18, rfl, by decide, iw_X4, tu_tb_in 533 rfl rfl⟩
set_option maxRecDepth 20000 in
theorem fl_RX4_28 : tu_fl RX4 28 4 8 := ⟨RX4, TX4, 18, rfl, by decide, iw_X4, tu_tb_in 532 rfl rfl⟩
set_option maxRecDepth 20000 in
theorem fl_RX4_34 : tu_fl RX4 34 4 16 := ⟨RX4, TX4, 18, rfl, by decide, iw_X4, tu_tb_in 540 rfl rfl⟩
set_option maxRecDepth 20000 in
theorem fl_RX4_37 : tu_fl RX4 37 4 17 := ⟨RX4, TX4, 18, rfl, by decide, iw_X4, tu_tb_in 541 rfl rfl⟩
set_option maxRecDepth 20000 in
theorem fl_RX4_134 : tu_fl RX4 134 4 6 := ⟨RX4, TX4, 18, rfl, by decide, iw_X4, tu_tb_in 530 rfl rfl⟩
set_option maxRecDepth 20000 in
theorem fp_RX4_134 : tu_fp RX4 134 4 6 := ⟨RX4, TX4, 18, rfl, by decide, iw_X4, tu_tb_in 530 rfl rfl, rfl, by decide +kernel, ⟨tyX4, tyX4_ok⟩, nmX4⟩
set_option maxRecDepth 20000 in
theorem fl_RX4_22 : tu_fl RX4 22 4 5 := ⟨RX4, TX4, 18, rfl, by decide, iw_X4, tu_tb_in 529 rfl rfl⟩
set_option maxRecDepth 20000 in
theorem fl_RX4_16 : tu_fl RX4 16 4 3 := ⟨RX4, TX4, 18, rfl, by decide, iw_X4, tu_tb_in 527 rfl rfl⟩
set_option maxRecDepth 20000 in
theorem fl_RX4_19 : tu_fl RX4 19 4 4 := ⟨RX4, TX4, 18, rfl, by decide, iw_X4, tu_tb_in 528 rfl rfl⟩
set_option maxRecDepth 20000 in
theorem kw_RX1_75 : Cond.constant RX1 75 (1000000) ∈ tu_tb := tu_tb_in 375 rfl rfl
set_option maxRecDepth 20000 in
theorem kw_RX2_19 : Cond.constantLong RX2 19 (255) ∈ tu_tb := tu_tb_in 491 rfl rfl
set_option maxRecDepth 20000 in
theorem kw_RX2_21 : Cond.constantLong RX2 21 (33) ∈ tu_tb := tu_tb_in 492 rfl rfl
set_option maxRecDepth 20000 in
theorem kw_RX2_23 : Cond.constantLong RX2 23 (126) ∈ tu_tb := tu_tb_in 493 rfl rfl
set_option maxRecDepth 20000 in
theorem kw_RX3_169 : Cond.constant RX3 169 (1000000) ∈ tu_tb := tu_tb_in 357 rfl rfl
set_option maxRecDepth 20000 in
theorem kw_RX4_88 : Cond.constant RX4 88 (1000000000) ∈ tu_tb := tu_tb_in 702 rfl rfl
set_option maxRecDepth 20000 in
theorem kw_RX4_92 : Cond.constant RX4 92 (1000000) ∈ tu_tb := tu_tb_in 730 rfl rfl
set_option maxRecDepth 20000 in
theorem kw_RX4_193 : Cond.constantLong RX4 193 (255) ∈ tu_tb := tu_tb_in 819 rfl rfl
set_option maxRecDepth 20000 in
theorem kw_RL_109 : Cond.constantLong RL 109 (4294967295) ∈ tu_tb := tu_tb_in 840 rfl rfl
set_option maxRecDepth 20000 in
theorem ac_RX0 : Cond.methodLink RX0 49 arraycopyName ∈ tu_tb := tu_tb_in 65 rfl rfl
set_option maxRecDepth 20000 in
theorem ac_RX1 : Cond.methodLink RX1 64 arraycopyName ∈ tu_tb := tu_tb_in 366 rfl rfl
set_option maxRecDepth 20000 in
theorem mn_RX1 : Cond.methodLink RX1 84 Lib.Math.min.name ∈ tu_tb := tu_tb_in 380 rfl rfl
set_option maxRecDepth 20000 in
theorem mx_RX0 : Cond.methodLink RX0 89 Lib.Math.max.name ∈ tu_tb := tu_tb_in 407 rfl rfl
set_option maxRecDepth 20000 in
theorem gs_1 : Cond.fieldLink RX3 45 RX3 "LEAST_VALUES" "[I" ∈ tu_tb := tu_tb_in 212 rfl rfl
set_option maxRecDepth 20000 in
theorem gs_2 : Cond.fieldLink RX3 49 RX3 "GREATEST_VALUES" "[I" ∈ tu_tb := tu_tb_in 214 rfl rfl
theorem nf_le : 8 + (nativeFrameWords "java/lang/System" "arraycopy" 5 + 11) ≤ 40 := by decide
end
