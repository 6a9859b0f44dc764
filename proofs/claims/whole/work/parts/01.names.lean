-- ===== PART A: goes FIRST, ahead of the names: the tables' words, and 'selects' of the private methods out of them =====
/-- a private method of a class that the tables say can be made, by its rows of tables_1 -/
def lw_okq (q : MethodName × Nat) : Prop := (q.1.cls ≠ "java/lang/invoke/MethodHandle" ∧ q.1.cls ≠ "java/lang/invoke/VarHandle") ∧ Cond.instantiable q.1.cls q.2 ∈ tables_1 ∧ Cond.privateMethod q.1 ∈ tables_1 ∧ Cond.instanceMethod q.1 ∈ tables_1
theorem lw_p0 : lw_okq (⟨"BurdenTunes", "record", "()V"⟩, 7) := ⟨⟨by decide +kernel, by decide +kernel⟩, List.mem_of_getElem? (i := 9) (by decide +kernel), List.mem_of_getElem? (i := 176) (by decide +kernel), List.mem_of_getElem? (i := 177) (by decide +kernel)⟩
theorem lw_p1 : lw_okq (⟨"BurdenTunes", "cheapestPhrase", "(I)I"⟩, 7) := ⟨⟨by decide +kernel, by decide +kernel⟩, List.mem_of_getElem? (i := 9) (by decide +kernel), List.mem_of_getElem? (i := 313) (by decide +kernel), List.mem_of_getElem? (i := 314) (by decide +kernel)⟩
theorem lw_p2 : lw_okq (⟨"BurdenTunes", "leastCostOf", "(II)I"⟩, 7) := ⟨⟨by decide +kernel, by decide +kernel⟩, List.mem_of_getElem? (i := 9) (by decide +kernel), List.mem_of_getElem? (i := 318) (by decide +kernel), List.mem_of_getElem? (i := 319) (by decide +kernel)⟩
theorem lw_p3 : lw_okq (⟨"BurdenTunes$Laying", "costOfFree", "(II)I"⟩, 13) := ⟨⟨by decide +kernel, by decide +kernel⟩, List.mem_of_getElem? (i := 95) (by decide +kernel), List.mem_of_getElem? (i := 331) (by decide +kernel), List.mem_of_getElem? (i := 332) (by decide +kernel)⟩
theorem lw_p4 : lw_okq (⟨"BurdenTunes$Laying", "mostHeld", "(I)I"⟩, 13) := ⟨⟨by decide +kernel, by decide +kernel⟩, List.mem_of_getElem? (i := 95) (by decide +kernel), List.mem_of_getElem? (i := 336) (by decide +kernel), List.mem_of_getElem? (i := 337) (by decide +kernel)⟩
theorem lw_p5 : lw_okq (⟨"BurdenTunes$Laying", "costOfHeld", "(III)I"⟩, 13) := ⟨⟨by decide +kernel, by decide +kernel⟩, List.mem_of_getElem? (i := 95) (by decide +kernel), List.mem_of_getElem? (i := 343) (by decide +kernel), List.mem_of_getElem? (i := 344) (by decide +kernel)⟩
theorem lw_p6 : lw_okq (⟨"BurdenTunes$Laying", "hurts", "(II)Z"⟩, 13) := ⟨⟨by decide +kernel, by decide +kernel⟩, List.mem_of_getElem? (i := 95) (by decide +kernel), List.mem_of_getElem? (i := 347) (by decide +kernel), List.mem_of_getElem? (i := 348) (by decide +kernel)⟩
theorem lw_p7 : lw_okq (⟨"BurdenTunes$Laying", "waysFrom", "(IIZ)I"⟩, 13) := ⟨⟨by decide +kernel, by decide +kernel⟩, List.mem_of_getElem? (i := 95) (by decide +kernel), List.mem_of_getElem? (i := 399) (by decide +kernel), List.mem_of_getElem? (i := 400) (by decide +kernel)⟩
theorem lw_p8 : lw_okq (⟨"BurdenTunes$Laying", "heldByBestWay", "(II)I"⟩, 13) := ⟨⟨by decide +kernel, by decide +kernel⟩, List.mem_of_getElem? (i := 95) (by decide +kernel), List.mem_of_getElem? (i := 411) (by decide +kernel), List.mem_of_getElem? (i := 412) (by decide +kernel)⟩
theorem lw_p9 : lw_okq (⟨"BurdenTunesModel", "record", "()V"⟩, 18) := ⟨⟨by decide +kernel, by decide +kernel⟩, List.mem_of_getElem? (i := 478) (by decide +kernel), List.mem_of_getElem? (i := 549) (by decide +kernel), List.mem_of_getElem? (i := 550) (by decide +kernel)⟩
theorem lw_p10 : lw_okq (⟨"BurdenTunesModel", "findFault", "()I"⟩, 18) := ⟨⟨by decide +kernel, by decide +kernel⟩, List.mem_of_getElem? (i := 478) (by decide +kernel), List.mem_of_getElem? (i := 560) (by decide +kernel), List.mem_of_getElem? (i := 561) (by decide +kernel)⟩
theorem lw_p11 : lw_okq (⟨"BurdenTunesModel", "parts", "(Z)I"⟩, 18) := ⟨⟨by decide +kernel, by decide +kernel⟩, List.mem_of_getElem? (i := 478) (by decide +kernel), List.mem_of_getElem? (i := 564) (by decide +kernel), List.mem_of_getElem? (i := 565) (by decide +kernel)⟩
theorem lw_p12 : lw_okq (⟨"BurdenTunesModel", "writePhrase", "(I)I"⟩, 18) := ⟨⟨by decide +kernel, by decide +kernel⟩, List.mem_of_getElem? (i := 478) (by decide +kernel), List.mem_of_getElem? (i := 568) (by decide +kernel), List.mem_of_getElem? (i := 569) (by decide +kernel)⟩
theorem lw_p13 : lw_okq (⟨"BurdenTunesModel", "writeLine", "(I)I"⟩, 18) := ⟨⟨by decide +kernel, by decide +kernel⟩, List.mem_of_getElem? (i := 478) (by decide +kernel), List.mem_of_getElem? (i := 572) (by decide +kernel), List.mem_of_getElem? (i := 573) (by decide +kernel)⟩
theorem lw_p14 : lw_okq (⟨"BurdenTunesModel", "isLine", "(I)Z"⟩, 18) := ⟨⟨by decide +kernel, by decide +kernel⟩, List.mem_of_getElem? (i := 478) (by decide +kernel), List.mem_of_getElem? (i := 580) (by decide +kernel), List.mem_of_getElem? (i := 581) (by decide +kernel)⟩
theorem lw_p15 : lw_okq (⟨"BurdenTunesModel", "goes", "(III)I"⟩, 18) := ⟨⟨by decide +kernel, by decide +kernel⟩, List.mem_of_getElem? (i := 478) (by decide +kernel), List.mem_of_getElem? (i := 584) (by decide +kernel), List.mem_of_getElem? (i := 585) (by decide +kernel)⟩
def lw_privs_1 : List (MethodName × Nat) := [(⟨"BurdenTunes", "record", "()V"⟩, 7), (⟨"BurdenTunes", "cheapestPhrase", "(I)I"⟩, 7), (⟨"BurdenTunes", "leastCostOf", "(II)I"⟩, 7), (⟨"BurdenTunes$Laying", "costOfFree", "(II)I"⟩, 13), (⟨"BurdenTunes$Laying", "mostHeld", "(I)I"⟩, 13), (⟨"BurdenTunes$Laying", "costOfHeld", "(III)I"⟩, 13), (⟨"BurdenTunes$Laying", "hurts", "(II)Z"⟩, 13), (⟨"BurdenTunes$Laying", "waysFrom", "(IIZ)I"⟩, 13), (⟨"BurdenTunes$Laying", "heldByBestWay", "(II)I"⟩, 13), (⟨"BurdenTunesModel", "record", "()V"⟩, 18), (⟨"BurdenTunesModel", "findFault", "()I"⟩, 18), (⟨"BurdenTunesModel", "parts", "(Z)I"⟩, 18), (⟨"BurdenTunesModel", "writePhrase", "(I)I"⟩, 18), (⟨"BurdenTunesModel", "writeLine", "(I)I"⟩, 18), (⟨"BurdenTunesModel", "isLine", "(I)Z"⟩, 18), (⟨"BurdenTunesModel", "goes", "(III)I"⟩, 18)]
theorem lw_r1 : ∀ q ∈ lw_privs_1, lw_okq q := List.forall_mem_cons.mpr ⟨lw_p0, List.forall_mem_cons.mpr ⟨lw_p1, List.forall_mem_cons.mpr ⟨lw_p2, List.forall_mem_cons.mpr ⟨lw_p3, List.forall_mem_cons.mpr ⟨lw_p4, List.forall_mem_cons.mpr ⟨lw_p5, List.forall_mem_cons.mpr ⟨lw_p6, List.forall_mem_cons.mpr ⟨lw_p7, List.forall_mem_cons.mpr ⟨lw_p8, List.forall_mem_cons.mpr ⟨lw_p9, List.forall_mem_cons.mpr ⟨lw_p10, List.forall_mem_cons.mpr ⟨lw_p11, List.forall_mem_cons.mpr ⟨lw_p12, List.forall_mem_cons.mpr ⟨lw_p13, List.forall_mem_cons.mpr ⟨lw_p14, List.forall_mem_cons.mpr ⟨lw_p15, fun _ h => absurd h List.not_mem_nil⟩⟩⟩⟩⟩⟩⟩⟩⟩⟩⟩⟩⟩⟩⟩⟩
theorem lw_p16 : lw_okq (⟨"BurdenTunesModel", "isPhrase", "(I)Z"⟩, 18) := ⟨⟨by decide +kernel, by decide +kernel⟩, List.mem_of_getElem? (i := 478) (by decide +kernel), List.mem_of_getElem? (i := 592) (by decide +kernel), List.mem_of_getElem? (i := 593) (by decide +kernel)⟩
theorem lw_p17 : lw_okq (⟨"BurdenTunesModel", "isSyllable", "(II)Z"⟩, 18) := ⟨⟨by decide +kernel, by decide +kernel⟩, List.mem_of_getElem? (i := 478) (by decide +kernel), List.mem_of_getElem? (i := 600) (by decide +kernel), List.mem_of_getElem? (i := 601) (by decide +kernel)⟩
theorem lw_p18 : lw_okq (⟨"BurdenTunesModel", "lineLength", "(I)I"⟩, 18) := ⟨⟨by decide +kernel, by decide +kernel⟩, List.mem_of_getElem? (i := 478) (by decide +kernel), List.mem_of_getElem? (i := 604) (by decide +kernel), List.mem_of_getElem? (i := 605) (by decide +kernel)⟩
theorem lw_p19 : lw_okq (⟨"BurdenTunesModel", "isBeat", "(II)Z"⟩, 18) := ⟨⟨by decide +kernel, by decide +kernel⟩, List.mem_of_getElem? (i := 478) (by decide +kernel), List.mem_of_getElem? (i := 612) (by decide +kernel), List.mem_of_getElem? (i := 613) (by decide +kernel)⟩
theorem lw_p20 : lw_okq (⟨"BurdenTunesModel", "phraseLength", "(I)I"⟩, 18) := ⟨⟨by decide +kernel, by decide +kernel⟩, List.mem_of_getElem? (i := 478) (by decide +kernel), List.mem_of_getElem? (i := 616) (by decide +kernel), List.mem_of_getElem? (i := 617) (by decide +kernel)⟩
theorem lw_p21 : lw_okq (⟨"BurdenTunesModel", "kindAt", "(II)I"⟩, 18) := ⟨⟨by decide +kernel, by decide +kernel⟩, List.mem_of_getElem? (i := 478) (by decide +kernel), List.mem_of_getElem? (i := 620) (by decide +kernel), List.mem_of_getElem? (i := 621) (by decide +kernel)⟩
theorem lw_p22 : lw_okq (⟨"BurdenTunesModel", "sings", "(I)V"⟩, 18) := ⟨⟨by decide +kernel, by decide +kernel⟩, List.mem_of_getElem? (i := 478) (by decide +kernel), List.mem_of_getElem? (i := 631) (by decide +kernel), List.mem_of_getElem? (i := 632) (by decide +kernel)⟩
theorem lw_p23 : lw_okq (⟨"BurdenTunesModel", "sungTimes", "(I)I"⟩, 18) := ⟨⟨by decide +kernel, by decide +kernel⟩, List.mem_of_getElem? (i := 478) (by decide +kernel), List.mem_of_getElem? (i := 654) (by decide +kernel), List.mem_of_getElem? (i := 655) (by decide +kernel)⟩
theorem lw_p24 : lw_okq (⟨"BurdenTunesModel", "cheapestPhrase", "(I)I"⟩, 18) := ⟨⟨by decide +kernel, by decide +kernel⟩, List.mem_of_getElem? (i := 478) (by decide +kernel), List.mem_of_getElem? (i := 658) (by decide +kernel), List.mem_of_getElem? (i := 659) (by decide +kernel)⟩
theorem lw_p25 : lw_okq (⟨"BurdenTunesModel", "costOf", "(II)I"⟩, 18) := ⟨⟨by decide +kernel, by decide +kernel⟩, List.mem_of_getElem? (i := 478) (by decide +kernel), List.mem_of_getElem? (i := 663) (by decide +kernel), List.mem_of_getElem? (i := 664) (by decide +kernel)⟩
theorem lw_p26 : lw_okq (⟨"BurdenTunesModel", "look", "(II)V"⟩, 18) := ⟨⟨by decide +kernel, by decide +kernel⟩, List.mem_of_getElem? (i := 478) (by decide +kernel), List.mem_of_getElem? (i := 667) (by decide +kernel), List.mem_of_getElem? (i := 668) (by decide +kernel)⟩
theorem lw_p27 : lw_okq (⟨"BurdenTunesModel", "findCost", "()I"⟩, 18) := ⟨⟨by decide +kernel, by decide +kernel⟩, List.mem_of_getElem? (i := 478) (by decide +kernel), List.mem_of_getElem? (i := 671) (by decide +kernel), List.mem_of_getElem? (i := 672) (by decide +kernel)⟩
theorem lw_p28 : lw_okq (⟨"BurdenTunesModel", "findAt", "(II)V"⟩, 18) := ⟨⟨by decide +kernel, by decide +kernel⟩, List.mem_of_getElem? (i := 478) (by decide +kernel), List.mem_of_getElem? (i := 675) (by decide +kernel), List.mem_of_getElem? (i := 676) (by decide +kernel)⟩
theorem lw_p29 : lw_okq (⟨"BurdenTunesModel", "costFree", "(II)I"⟩, 18) := ⟨⟨by decide +kernel, by decide +kernel⟩, List.mem_of_getElem? (i := 478) (by decide +kernel), List.mem_of_getElem? (i := 679) (by decide +kernel), List.mem_of_getElem? (i := 680) (by decide +kernel)⟩
theorem lw_p30 : lw_okq (⟨"BurdenTunesModel", "takesIn", "(III)V"⟩, 18) := ⟨⟨by decide +kernel, by decide +kernel⟩, List.mem_of_getElem? (i := 478) (by decide +kernel), List.mem_of_getElem? (i := 683) (by decide +kernel), List.mem_of_getElem? (i := 684) (by decide +kernel)⟩
theorem lw_p31 : lw_okq (⟨"BurdenTunesModel", "costOn", "(III)I"⟩, 18) := ⟨⟨by decide +kernel, by decide +kernel⟩, List.mem_of_getElem? (i := 478) (by decide +kernel), List.mem_of_getElem? (i := 691) (by decide +kernel), List.mem_of_getElem? (i := 692) (by decide +kernel)⟩
def lw_privs_2 : List (MethodName × Nat) := [(⟨"BurdenTunesModel", "isPhrase", "(I)Z"⟩, 18), (⟨"BurdenTunesModel", "isSyllable", "(II)Z"⟩, 18), (⟨"BurdenTunesModel", "lineLength", "(I)I"⟩, 18), (⟨"BurdenTunesModel", "isBeat", "(II)Z"⟩, 18), (⟨"BurdenTunesModel", "phraseLength", "(I)I"⟩, 18), (⟨"BurdenTunesModel", "kindAt", "(II)I"⟩, 18), (⟨"BurdenTunesModel", "sings", "(I)V"⟩, 18), (⟨"BurdenTunesModel", "sungTimes", "(I)I"⟩, 18), (⟨"BurdenTunesModel", "cheapestPhrase", "(I)I"⟩, 18), (⟨"BurdenTunesModel", "costOf", "(II)I"⟩, 18), (⟨"BurdenTunesModel", "look", "(II)V"⟩, 18), (⟨"BurdenTunesModel", "findCost", "()I"⟩, 18), (⟨"BurdenTunesModel", "findAt", "(II)V"⟩, 18), (⟨"BurdenTunesModel", "costFree", "(II)I"⟩, 18), (⟨"BurdenTunesModel", "takesIn", "(III)V"⟩, 18), (⟨"BurdenTunesModel", "costOn", "(III)I"⟩, 18)]
theorem lw_r2 : ∀ q ∈ lw_privs_2, lw_okq q := List.forall_mem_cons.mpr ⟨lw_p16, List.forall_mem_cons.mpr ⟨lw_p17, List.forall_mem_cons.mpr ⟨lw_p18, List.forall_mem_cons.mpr ⟨lw_p19, List.forall_mem_cons.mpr ⟨lw_p20, List.forall_mem_cons.mpr ⟨lw_p21, List.forall_mem_cons.mpr ⟨lw_p22, List.forall_mem_cons.mpr ⟨lw_p23, List.forall_mem_cons.mpr ⟨lw_p24, List.forall_mem_cons.mpr ⟨lw_p25, List.forall_mem_cons.mpr ⟨lw_p26, List.forall_mem_cons.mpr ⟨lw_p27, List.forall_mem_cons.mpr ⟨lw_p28, List.forall_mem_cons.mpr ⟨lw_p29, List.forall_mem_cons.mpr ⟨lw_p30, List.forall_mem_cons.mpr ⟨lw_p31, fun _ h => absurd h List.not_mem_nil⟩⟩⟩⟩⟩⟩⟩⟩⟩⟩⟩⟩⟩⟩⟩⟩
theorem lw_p32 : lw_okq (⟨"BurdenTunesModel", "hurts", "(II)Z"⟩, 18) := ⟨⟨by decide +kernel, by decide +kernel⟩, List.mem_of_getElem? (i := 478) (by decide +kernel), List.mem_of_getElem? (i := 695) (by decide +kernel), List.mem_of_getElem? (i := 696) (by decide +kernel)⟩
theorem lw_p33 : lw_okq (⟨"BurdenTunesModel", "playedTimes", "(I)I"⟩, 18) := ⟨⟨by decide +kernel, by decide +kernel⟩, List.mem_of_getElem? (i := 478) (by decide +kernel), List.mem_of_getElem? (i := 703) (by decide +kernel), List.mem_of_getElem? (i := 704) (by decide +kernel)⟩
theorem lw_p34 : lw_okq (⟨"BurdenTunesModel", "longestRow", "(I)I"⟩, 18) := ⟨⟨by decide +kernel, by decide +kernel⟩, List.mem_of_getElem? (i := 478) (by decide +kernel), List.mem_of_getElem? (i := 707) (by decide +kernel), List.mem_of_getElem? (i := 708) (by decide +kernel)⟩
theorem lw_p35 : lw_okq (⟨"BurdenTunesModel", "burdens", "()I"⟩, 18) := ⟨⟨by decide +kernel, by decide +kernel⟩, List.mem_of_getElem? (i := 478) (by decide +kernel), List.mem_of_getElem? (i := 723) (by decide +kernel), List.mem_of_getElem? (i := 724) (by decide +kernel)⟩
theorem lw_p36 : lw_okq (⟨"BurdenTunesModel", "freeBeats", "()I"⟩, 18) := ⟨⟨by decide +kernel, by decide +kernel⟩, List.mem_of_getElem? (i := 478) (by decide +kernel), List.mem_of_getElem? (i := 735) (by decide +kernel), List.mem_of_getElem? (i := 736) (by decide +kernel)⟩
theorem lw_p37 : lw_okq (⟨"BurdenTunesModel", "findWay", "()V"⟩, 18) := ⟨⟨by decide +kernel, by decide +kernel⟩, List.mem_of_getElem? (i := 478) (by decide +kernel), List.mem_of_getElem? (i := 739) (by decide +kernel), List.mem_of_getElem? (i := 740) (by decide +kernel)⟩
theorem lw_p38 : lw_okq (⟨"BurdenTunesModel", "beatsFrom", "(II)I"⟩, 18) := ⟨⟨by decide +kernel, by decide +kernel⟩, List.mem_of_getElem? (i := 478) (by decide +kernel), List.mem_of_getElem? (i := 743) (by decide +kernel), List.mem_of_getElem? (i := 744) (by decide +kernel)⟩
theorem lw_p39 : lw_okq (⟨"BurdenTunesModel", "hurting", "()I"⟩, 18) := ⟨⟨by decide +kernel, by decide +kernel⟩, List.mem_of_getElem? (i := 478) (by decide +kernel), List.mem_of_getElem? (i := 747) (by decide +kernel), List.mem_of_getElem? (i := 748) (by decide +kernel)⟩
theorem lw_p40 : lw_okq (⟨"BurdenTunesModel", "phraseFor", "(I)I"⟩, 18) := ⟨⟨by decide +kernel, by decide +kernel⟩, List.mem_of_getElem? (i := 478) (by decide +kernel), List.mem_of_getElem? (i := 759) (by decide +kernel), List.mem_of_getElem? (i := 760) (by decide +kernel)⟩
def lw_privs_3 : List (MethodName × Nat) := [(⟨"BurdenTunesModel", "hurts", "(II)Z"⟩, 18), (⟨"BurdenTunesModel", "playedTimes", "(I)I"⟩, 18), (⟨"BurdenTunesModel", "longestRow", "(I)I"⟩, 18), (⟨"BurdenTunesModel", "burdens", "()I"⟩, 18), (⟨"BurdenTunesModel", "freeBeats", "()I"⟩, 18), (⟨"BurdenTunesModel", "findWay", "()V"⟩, 18), (⟨"BurdenTunesModel", "beatsFrom", "(II)I"⟩, 18), (⟨"BurdenTunesModel", "hurting", "()I"⟩, 18), (⟨"BurdenTunesModel", "phraseFor", "(I)I"⟩, 18)]
theorem lw_r3 : ∀ q ∈ lw_privs_3, lw_okq q := List.forall_mem_cons.mpr ⟨lw_p32, List.forall_mem_cons.mpr ⟨lw_p33, List.forall_mem_cons.mpr ⟨lw_p34, List.forall_mem_cons.mpr ⟨lw_p35, List.forall_mem_cons.mpr ⟨lw_p36, List.forall_mem_cons.mpr ⟨lw_p37, List.forall_mem_cons.mpr ⟨lw_p38, List.forall_mem_cons.mpr ⟨lw_p39, List.forall_mem_cons.mpr ⟨lw_p40, fun _ h => absurd h List.not_mem_nil⟩⟩⟩⟩⟩⟩⟩⟩⟩
def lw_privs : List (MethodName × Nat) := lw_privs_1 ++ (lw_privs_2 ++ (lw_privs_3))
def lw_tbl : List Cond := k2_sels lw_privs ++ tables_1
theorem lw_privs_ok : ∀ q ∈ lw_privs, lw_okq q := by
  show ∀ q ∈ lw_privs_1 ++ (lw_privs_2 ++ (lw_privs_3)), lw_okq q
  exact List.forall_mem_append.mpr ⟨lw_r1, List.forall_mem_append.mpr ⟨lw_r2, lw_r3⟩⟩

def RX0 : String := "BurdenTunes$Book"
def TX0 : u_T := fun k => match k with
  | 0 => ("BurdenTunes$Book", "settings", "[I", true)
  | 1 => ("BurdenTunes$Book", "lineCount", "I", false)
  | 2 => ("BurdenTunes$Book", "syllableCounts", "[I", true)
  | 3 => ("BurdenTunes$Book", "stresses", "[I", true)
  | 4 => ("BurdenTunes$Book", "phraseCount", "I", false)
  | 5 => ("BurdenTunes$Book", "beatCounts", "[I", true)
  | 6 => ("BurdenTunes$Book", "kinds", "[I", true)
  | 7 => ("BurdenTunes$Book", "balladCount", "I", false)
  | 8 => ("BurdenTunes$Book", "ballad", "[I", true)
  | 9 => ("BurdenTunes$Book", "tuneCount", "I", false)
  | _ => ("BurdenTunes$Book", "tune", "[I", true)
def tyX0 : Nat → FieldType := fun k => match k with
  | 0 => .array .int
  | 1 => .int
  | 2 => .array .int
  | 3 => .array .int
  | 4 => .int
  | 5 => .array .int
  | 6 => .array .int
  | 7 => .int
  | 8 => .array .int
  | 9 => .int
  | _ => .array .int
abbrev wsX00 : List Cond := u_ws RX0 TX0 11
theorem nmX0 : ∀ a, a < 11 → ∀ b, b < 11 → a ≠ b → (TX0 a).2.1 ≠ (TX0 b).2.1 := by decide +kernel
theorem tyX0_ok : ∀ k, k < 11 → parseFieldDescriptor (TX0 k).2.2.1 = some (tyX0 k) := by decide +kernel
abbrev cX0_init : ByteArray := prog_2_method_1_code
def yX0_init : MethodName := ⟨RX0, "<init>", "()V"⟩
abbrev cX0_takeOver : ByteArray := prog_2_method_2_code
def yX0_takeOver : MethodName := ⟨RX0, "takeOver", "(LBurdenTunes$Book;)V"⟩
abbrev cX0_hasLine : ByteArray := prog_2_method_3_code
def yX0_hasLine : MethodName := ⟨RX0, "hasLine", "(I)Z"⟩
abbrev cX0_hasPhrase : ByteArray := prog_2_method_4_code
def yX0_hasPhrase : MethodName := ⟨RX0, "hasPhrase", "(I)Z"⟩
abbrev cX0_hasSyllable : ByteArray := prog_2_method_5_code
def yX0_hasSyllable : MethodName := ⟨RX0, "hasSyllable", "(II)Z"⟩
abbrev cX0_hasBeat : ByteArray := prog_2_method_6_code
def yX0_hasBeat : MethodName := ⟨RX0, "hasBeat", "(II)Z"⟩
abbrev cX0_beginPart : ByteArray := prog_2_method_7_code
def yX0_beginPart : MethodName := ⟨RX0, "beginPart", "(Z)V"⟩
abbrev cX0_addSign : ByteArray := prog_2_method_8_code
def yX0_addSign : MethodName := ⟨RX0, "addSign", "(C)V"⟩
abbrev cX0_addSyllable : ByteArray := prog_2_method_9_code
def yX0_addSyllable : MethodName := ⟨RX0, "addSyllable", "(I)V"⟩
abbrev cX0_addBeat : ByteArray := prog_2_method_10_code
def yX0_addBeat : MethodName := ⟨RX0, "addBeat", "(I)V"⟩
abbrev cX0_removeLine : ByteArray := prog_2_method_11_code
def yX0_removeLine : MethodName := ⟨RX0, "removeLine", "(I)V"⟩
abbrev cX0_removePhrase : ByteArray := prog_2_method_12_code
def yX0_removePhrase : MethodName := ⟨RX0, "removePhrase", "(I)V"⟩
abbrev cX0_withoutNumber : ByteArray := prog_2_method_13_code
def yX0_withoutNumber : MethodName := ⟨RX0, "withoutNumber", "([III)I"⟩
abbrev cX0_addToBallad : ByteArray := prog_2_method_14_code
def yX0_addToBallad : MethodName := ⟨RX0, "addToBallad", "(I)V"⟩
abbrev cX0_addToTune : ByteArray := prog_2_method_15_code
def yX0_addToTune : MethodName := ⟨RX0, "addToTune", "(I)V"⟩
abbrev cX0_timesSung : ByteArray := prog_2_method_16_code
def yX0_timesSung : MethodName := ⟨RX0, "timesSung", "(I)I"⟩
abbrev cX0_timesPlayed : ByteArray := prog_2_method_17_code
def yX0_timesPlayed : MethodName := ⟨RX0, "timesPlayed", "(I)I"⟩
abbrev cX0_timesIn : ByteArray := prog_2_method_18_code
def yX0_timesIn : MethodName := ⟨RX0, "timesIn", "([III)I"⟩
abbrev cX0_burdens : ByteArray := prog_2_method_19_code
def yX0_burdens : MethodName := ⟨RX0, "burdens", "()I"⟩
abbrev cX0_stressedOf : ByteArray := prog_2_method_20_code
def yX0_stressedOf : MethodName := ⟨RX0, "stressedOf", "(I)I"⟩
abbrev cX0_beatsOfKind : ByteArray := prog_2_method_21_code
def yX0_beatsOfKind : MethodName := ⟨RX0, "beatsOfKind", "(II)I"⟩
abbrev cX0_longestRow : ByteArray := prog_2_method_22_code
def yX0_longestRow : MethodName := ⟨RX0, "longestRow", "(I)I"⟩
def RX1 : String := "BurdenTunes$Laying"
def TX1 : u_T := fun k => match k with
  | 0 => ("BurdenTunes$Laying", "breath", "I", false)
  | 1 => ("BurdenTunes$Laying", "drawn", "I", false)
  | 2 => ("BurdenTunes$Laying", "lost", "I", false)
  | 3 => ("BurdenTunes$Laying", "hurt", "I", false)
  | 4 => ("BurdenTunes$Laying", "syllables", "I", false)
  | 5 => ("BurdenTunes$Laying", "beats", "I", false)
  | 6 => ("BurdenTunes$Laying", "stresses", "[I", true)
  | 7 => ("BurdenTunes$Laying", "kinds", "[I", true)
  | 8 => ("BurdenTunes$Laying", "rows", "[I", true)
  | 9 => ("BurdenTunes$Laying", "costs", "[I", true)
  | 10 => ("BurdenTunes$Laying", "ways", "[I", true)
  | 11 => ("BurdenTunes$Laying", "firstBeats", "[I", true)
  | _ => ("BurdenTunes$Laying", "heldBeats", "[I", true)
def tyX1 : Nat → FieldType := fun k => match k with
  | 0 => .int
  | 1 => .int
  | 2 => .int
  | 3 => .int
  | 4 => .int
  | 5 => .int
  | 6 => .array .int
  | 7 => .array .int
  | 8 => .array .int
  | 9 => .array .int
  | 10 => .array .int
  | 11 => .array .int
  | _ => .array .int
abbrev wsX10 : List Cond := u_ws RX1 TX1 13
theorem nmX1 : ∀ a, a < 13 → ∀ b, b < 13 → a ≠ b → (TX1 a).2.1 ≠ (TX1 b).2.1 := by decide +kernel
theorem tyX1_ok : ∀ k, k < 13 → parseFieldDescriptor (TX1 k).2.2.1 = some (tyX1 k) := by decide +kernel
abbrev cX1_init : ByteArray := prog_3_method_1_code
def yX1_init : MethodName := ⟨RX1, "<init>", "()V"⟩
abbrev cX1_take : ByteArray := prog_3_method_2_code
def yX1_take : MethodName := ⟨RX1, "take", "(LBurdenTunes$Book;II)V"⟩
abbrev cX1_turnStress : ByteArray := prog_3_method_3_code
def yX1_turnStress : MethodName := ⟨RX1, "turnStress", "(I)V"⟩
abbrev cX1_leastCost : ByteArray := prog_3_method_4_code
def yX1_leastCost : MethodName := ⟨RX1, "leastCost", "()I"⟩
abbrev cX1_mostHeld : ByteArray := prog_3_method_5_code
def yX1_mostHeld : MethodName := ⟨RX1, "mostHeld", "(I)I"⟩
abbrev cX1_hurts : ByteArray := prog_3_method_6_code
def yX1_hurts : MethodName := ⟨RX1, "hurts", "(II)Z"⟩
abbrev cX1_costOfFree : ByteArray := prog_3_method_7_code
def yX1_costOfFree : MethodName := ⟨RX1, "costOfFree", "(II)I"⟩
abbrev cX1_costOfHeld : ByteArray := prog_3_method_8_code
def yX1_costOfHeld : MethodName := ⟨RX1, "costOfHeld", "(III)I"⟩
abbrev cX1_countWays : ByteArray := prog_3_method_9_code
def yX1_countWays : MethodName := ⟨RX1, "countWays", "(Z)I"⟩
abbrev cX1_waysFrom : ByteArray := prog_3_method_10_code
def yX1_waysFrom : MethodName := ⟨RX1, "waysFrom", "(IIZ)I"⟩
abbrev cX1_findBestWay : ByteArray := prog_3_method_11_code
def yX1_findBestWay : MethodName := ⟨RX1, "findBestWay", "()V"⟩
abbrev cX1_heldByBestWay : ByteArray := prog_3_method_12_code
def yX1_heldByBestWay : MethodName := ⟨RX1, "heldByBestWay", "(II)I"⟩
abbrev cX1_freeBeats : ByteArray := prog_3_method_13_code
def yX1_freeBeats : MethodName := ⟨RX1, "freeBeats", "()I"⟩
abbrev cX1_hurtSyllables : ByteArray := prog_3_method_14_code
def yX1_hurtSyllables : MethodName := ⟨RX1, "hurtSyllables", "()I"⟩
def RX2 : String := "BurdenTunes$Pad"
def TX2 : u_T := fun k => match k with
  | 0 => ("BurdenTunes$Pad", "signs", "[C", true)
  | _ => ("BurdenTunes$Pad", "length", "I", false)
def tyX2 : Nat → FieldType := fun k => match k with
  | 0 => .array .char
  | _ => .int
abbrev wsX20 : List Cond := u_ws RX2 TX2 2
theorem nmX2 : ∀ a, a < 2 → ∀ b, b < 2 → a ≠ b → (TX2 a).2.1 ≠ (TX2 b).2.1 := by decide +kernel
theorem tyX2_ok : ∀ k, k < 2 → parseFieldDescriptor (TX2 k).2.2.1 = some (tyX2 k) := by decide +kernel
abbrev cX2_init : ByteArray := prog_4_method_1_code
def yX2_init : MethodName := ⟨RX2, "<init>", "()V"⟩
abbrev cX2_isSyllable : ByteArray := prog_4_method_2_code
def yX2_isSyllable : MethodName := ⟨RX2, "isSyllable", "(C)Z"⟩
abbrev cX2_isBeat : ByteArray := prog_4_method_3_code
def yX2_isBeat : MethodName := ⟨RX2, "isBeat", "(C)Z"⟩
abbrev cX2_signsIn : ByteArray := prog_4_method_4_code
def yX2_signsIn : MethodName := ⟨RX2, "signsIn", "(J)I"⟩
abbrev cX2_append : ByteArray := prog_4_method_5_code
def yX2_append : MethodName := ⟨RX2, "append", "(JI)V"⟩
abbrev cX2_beginsPart : ByteArray := prog_4_method_6_code
def yX2_beginsPart : MethodName := ⟨RX2, "beginsPart", "(I)Z"⟩
abbrev cX2_parts : ByteArray := prog_4_method_7_code
def yX2_parts : MethodName := ⟨RX2, "parts", "()I"⟩
abbrev cX2_phraseParts : ByteArray := prog_4_method_8_code
def yX2_phraseParts : MethodName := ⟨RX2, "phraseParts", "()I"⟩
abbrev cX2_faultPlace : ByteArray := prog_4_method_9_code
def yX2_faultPlace : MethodName := ⟨RX2, "faultPlace", "()I"⟩
def RX3 : String := "BurdenTunes"
def TX3 : u_T := fun k => match k with
  | 0 => ("BurdenTunes", "book", "LBurdenTunes$Book;", true)
  | 1 => ("BurdenTunes", "pad", "LBurdenTunes$Pad;", true)
  | 2 => ("BurdenTunes", "laying", "LBurdenTunes$Laying;", true)
  | 3 => ("BurdenTunes", "history", "[LBurdenTunes$Book;", true)
  | 4 => ("BurdenTunes", "historyCount", "I", false)
  | 5 => ("BurdenTunes", "slots", "[LBurdenTunes$Book;", true)
  | _ => ("BurdenTunes", "isSaved", "[Z", true)
def tyX3 : Nat → FieldType := fun k => match k with
  | 0 => .object "BurdenTunes$Book"
  | 1 => .object "BurdenTunes$Pad"
  | 2 => .object "BurdenTunes$Laying"
  | 3 => .array (.object "BurdenTunes$Book")
  | 4 => .int
  | 5 => .array (.object "BurdenTunes$Book")
  | _ => .array .boolean
abbrev wsX30 : List Cond := u_ws RX3 TX3 7
theorem nmX3 : ∀ a, a < 7 → ∀ b, b < 7 → a ≠ b → (TX3 a).2.1 ≠ (TX3 b).2.1 := by decide +kernel
theorem tyX3_ok : ∀ k, k < 7 → parseFieldDescriptor (TX3 k).2.2.1 = some (tyX3 k) := by decide +kernel
abbrev cX3_init : ByteArray := prog_1_method_1_code
def yX3_init : MethodName := ⟨RX3, "<init>", "()V"⟩
abbrev cX3_set : ByteArray := prog_1_method_2_code
def yX3_set : MethodName := ⟨RX3, "set", "(II)I"⟩
abbrev cX3_write : ByteArray := prog_1_method_3_code
def yX3_write : MethodName := ⟨RX3, "write", "()I"⟩
abbrev cX3_dropLine : ByteArray := prog_1_method_4_code
def yX3_dropLine : MethodName := ⟨RX3, "dropLine", "(I)I"⟩
abbrev cX3_dropPhrase : ByteArray := prog_1_method_5_code
def yX3_dropPhrase : MethodName := ⟨RX3, "dropPhrase", "(I)I"⟩
abbrev cX3_stress : ByteArray := prog_1_method_6_code
def yX3_stress : MethodName := ⟨RX3, "stress", "(IIZ)I"⟩
abbrev cX3_beat : ByteArray := prog_1_method_7_code
def yX3_beat : MethodName := ⟨RX3, "beat", "(III)I"⟩
abbrev cX3_sing : ByteArray := prog_1_method_8_code
def yX3_sing : MethodName := ⟨RX3, "sing", "(I)I"⟩
abbrev cX3_play : ByteArray := prog_1_method_9_code
def yX3_play : MethodName := ⟨RX3, "play", "(I)I"⟩
abbrev cX3_verse : ByteArray := prog_1_method_10_code
def yX3_verse : MethodName := ⟨RX3, "verse", "(III)I"⟩
abbrev cX3_clear : ByteArray := prog_1_method_11_code
def yX3_clear : MethodName := ⟨RX3, "clear", "(Z)I"⟩
abbrev cX3_line : ByteArray := prog_1_method_12_code
def yX3_line : MethodName := ⟨RX3, "line", "(II)I"⟩
abbrev cX3_phrase : ByteArray := prog_1_method_13_code
def yX3_phrase : MethodName := ⟨RX3, "phrase", "(II)I"⟩
abbrev cX3_isStressed : ByteArray := prog_1_method_14_code
def yX3_isStressed : MethodName := ⟨RX3, "isStressed", "(II)I"⟩
abbrev cX3_kindOf : ByteArray := prog_1_method_15_code
def yX3_kindOf : MethodName := ⟨RX3, "kindOf", "(II)I"⟩
abbrev cX3_count : ByteArray := prog_1_method_16_code
def yX3_count : MethodName := ⟨RX3, "count", "(I)I"⟩
abbrev cX3_at : ByteArray := prog_1_method_17_code
def yX3_at : MethodName := ⟨RX3, "at", "(ZI)I"⟩
abbrev cX3_fit : ByteArray := prog_1_method_18_code
def yX3_fit : MethodName := ⟨RX3, "fit", "(III)I"⟩
abbrev cX3_lies : ByteArray := prog_1_method_19_code
def yX3_lies : MethodName := ⟨RX3, "lies", "(IIII)I"⟩
abbrev cX3_whole : ByteArray := prog_1_method_20_code
def yX3_whole : MethodName := ⟨RX3, "whole", "(I)I"⟩
abbrev cX3_bestPhrase : ByteArray := prog_1_method_21_code
def yX3_bestPhrase : MethodName := ⟨RX3, "bestPhrase", "()I"⟩
abbrev cX3_bestChange : ByteArray := prog_1_method_22_code
def yX3_bestChange : MethodName := ⟨RX3, "bestChange", "(III)I"⟩
abbrev cX3_enoughBreath : ByteArray := prog_1_method_23_code
def yX3_enoughBreath : MethodName := ⟨RX3, "enoughBreath", "(II)I"⟩
abbrev cX3_put : ByteArray := prog_1_method_24_code
def yX3_put : MethodName := ⟨RX3, "put", "(J)I"⟩
abbrev cX3_wipe : ByteArray := prog_1_method_25_code
def yX3_wipe : MethodName := ⟨RX3, "wipe", "()I"⟩
abbrev cX3_fault : ByteArray := prog_1_method_26_code
def yX3_fault : MethodName := ⟨RX3, "fault", "()I"⟩
abbrev cX3_undo : ByteArray := prog_1_method_27_code
def yX3_undo : MethodName := ⟨RX3, "undo", "()I"⟩
abbrev cX3_save : ByteArray := prog_1_method_28_code
def yX3_save : MethodName := ⟨RX3, "save", "(I)I"⟩
abbrev cX3_restore : ByteArray := prog_1_method_29_code
def yX3_restore : MethodName := ⟨RX3, "restore", "(I)I"⟩
abbrev cX3_record : ByteArray := prog_1_method_30_code
def yX3_record : MethodName := ⟨RX3, "record", "()V"⟩
abbrev cX3_leastCostOf : ByteArray := prog_1_method_31_code
def yX3_leastCostOf : MethodName := ⟨RX3, "leastCostOf", "(II)I"⟩
abbrev cX3_cheapestPhrase : ByteArray := prog_1_method_32_code
def yX3_cheapestPhrase : MethodName := ⟨RX3, "cheapestPhrase", "(I)I"⟩
def RX4 : String := "BurdenTunesModel"
def TX4 : u_T := fun k => match k with
  | 0 => ("BurdenTunesModel", "state", "[I", true)
  | 1 => ("BurdenTunesModel", "history", "[I", true)
  | 2 => ("BurdenTunesModel", "recorded", "I", false)
  | 3 => ("BurdenTunesModel", "slots", "[I", true)
  | 4 => ("BurdenTunesModel", "isSaved", "[I", true)
  | 5 => ("BurdenTunesModel", "pad", "[I", true)
  | 6 => ("BurdenTunesModel", "padLength", "I", false)
  | 7 => ("BurdenTunesModel", "costs", "[I", true)
  | 8 => ("BurdenTunesModel", "ways", "[I", true)
  | 9 => ("BurdenTunesModel", "leastWays", "[I", true)
  | 10 => ("BurdenTunesModel", "syllables", "I", false)
  | 11 => ("BurdenTunesModel", "stresses", "I", false)
  | 12 => ("BurdenTunesModel", "beats", "I", false)
  | 13 => ("BurdenTunesModel", "strong", "I", false)
  | 14 => ("BurdenTunesModel", "sounding", "I", false)
  | 15 => ("BurdenTunesModel", "breath", "I", false)
  | 16 => ("BurdenTunesModel", "begins", "[I", true)
  | _ => ("BurdenTunesModel", "lengths", "[I", true)
def tyX4 : Nat → FieldType := fun k => match k with
  | 0 => .array .int
  | 1 => .array .int
  | 2 => .int
  | 3 => .array .int
  | 4 => .array .int
  | 5 => .array .int
  | 6 => .int
  | 7 => .array .int
  | 8 => .array .int
  | 9 => .array .int
  | 10 => .int
  | 11 => .int
  | 12 => .int
  | 13 => .int
  | 14 => .int
  | 15 => .int
  | 16 => .array .int
  | _ => .array .int
abbrev wsX40 : List Cond := u_ws RX4 TX4 18
theorem nmX4 : ∀ a, a < 18 → ∀ b, b < 18 → a ≠ b → (TX4 a).2.1 ≠ (TX4 b).2.1 := by decide +kernel
theorem tyX4_ok : ∀ k, k < 18 → parseFieldDescriptor (TX4 k).2.2.1 = some (tyX4 k) := by decide +kernel
abbrev cX4_init : ByteArray := prog_6_method_1_code
def yX4_init : MethodName := ⟨RX4, "<init>", "()V"⟩
abbrev cX4_moves : ByteArray := prog_6_method_3_code
def yX4_moves : MethodName := ⟨RX4, "moves", "([II[II)V"⟩
abbrev cX4_within : ByteArray := prog_6_method_4_code
def yX4_within : MethodName := ⟨RX4, "within", "(III)Z"⟩
abbrev cX4_has : ByteArray := prog_6_method_5_code
def yX4_has : MethodName := ⟨RX4, "has", "(II)Z"⟩
abbrev cX4_bits : ByteArray := prog_6_method_6_code
def yX4_bits : MethodName := ⟨RX4, "bits", "(I)I"⟩
abbrev cX4_record : ByteArray := prog_6_method_7_code
def yX4_record : MethodName := ⟨RX4, "record", "()V"⟩
abbrev cX4_isLine : ByteArray := prog_6_method_8_code
def yX4_isLine : MethodName := ⟨RX4, "isLine", "(I)Z"⟩
abbrev cX4_isPhrase : ByteArray := prog_6_method_9_code
def yX4_isPhrase : MethodName := ⟨RX4, "isPhrase", "(I)Z"⟩
abbrev cX4_lineLength : ByteArray := prog_6_method_10_code
def yX4_lineLength : MethodName := ⟨RX4, "lineLength", "(I)I"⟩
abbrev cX4_phraseLength : ByteArray := prog_6_method_11_code
def yX4_phraseLength : MethodName := ⟨RX4, "phraseLength", "(I)I"⟩
abbrev cX4_isSyllable : ByteArray := prog_6_method_12_code
def yX4_isSyllable : MethodName := ⟨RX4, "isSyllable", "(II)Z"⟩
abbrev cX4_isBeat : ByteArray := prog_6_method_13_code
def yX4_isBeat : MethodName := ⟨RX4, "isBeat", "(II)Z"⟩
abbrev cX4_sungTimes : ByteArray := prog_6_method_14_code
def yX4_sungTimes : MethodName := ⟨RX4, "sungTimes", "(I)I"⟩
abbrev cX4_playedTimes : ByteArray := prog_6_method_15_code
def yX4_playedTimes : MethodName := ⟨RX4, "playedTimes", "(I)I"⟩
abbrev cX4_look : ByteArray := prog_6_method_16_code
def yX4_look : MethodName := ⟨RX4, "look", "(II)V"⟩
abbrev cX4_hurts : ByteArray := prog_6_method_17_code
def yX4_hurts : MethodName := ⟨RX4, "hurts", "(II)Z"⟩
abbrev cX4_costOn : ByteArray := prog_6_method_18_code
def yX4_costOn : MethodName := ⟨RX4, "costOn", "(III)I"⟩
abbrev cX4_costFree : ByteArray := prog_6_method_19_code
def yX4_costFree : MethodName := ⟨RX4, "costFree", "(II)I"⟩
abbrev cX4_capped : ByteArray := prog_6_method_20_code
def yX4_capped : MethodName := ⟨RX4, "capped", "(I)I"⟩
abbrev cX4_takesIn : ByteArray := prog_6_method_21_code
def yX4_takesIn : MethodName := ⟨RX4, "takesIn", "(III)V"⟩
abbrev cX4_findAt : ByteArray := prog_6_method_22_code
def yX4_findAt : MethodName := ⟨RX4, "findAt", "(II)V"⟩
abbrev cX4_findCost : ByteArray := prog_6_method_23_code
def yX4_findCost : MethodName := ⟨RX4, "findCost", "()I"⟩
abbrev cX4_beatsFrom : ByteArray := prog_6_method_24_code
def yX4_beatsFrom : MethodName := ⟨RX4, "beatsFrom", "(II)I"⟩
abbrev cX4_findWay : ByteArray := prog_6_method_25_code
def yX4_findWay : MethodName := ⟨RX4, "findWay", "()V"⟩
abbrev cX4_costOf : ByteArray := prog_6_method_26_code
def yX4_costOf : MethodName := ⟨RX4, "costOf", "(II)I"⟩
abbrev cX4_freeBeats : ByteArray := prog_6_method_27_code
def yX4_freeBeats : MethodName := ⟨RX4, "freeBeats", "()I"⟩
abbrev cX4_hurting : ByteArray := prog_6_method_28_code
def yX4_hurting : MethodName := ⟨RX4, "hurting", "()I"⟩
abbrev cX4_isValue : ByteArray := prog_6_method_29_code
def yX4_isValue : MethodName := ⟨RX4, "isValue", "(II)Z"⟩
abbrev cX4_set : ByteArray := prog_6_method_30_code
def yX4_set : MethodName := ⟨RX4, "set", "(II)I"⟩
abbrev cX4_parts : ByteArray := prog_6_method_31_code
def yX4_parts : MethodName := ⟨RX4, "parts", "(Z)I"⟩
abbrev cX4_writeLine : ByteArray := prog_6_method_32_code
def yX4_writeLine : MethodName := ⟨RX4, "writeLine", "(I)I"⟩
abbrev cX4_writePhrase : ByteArray := prog_6_method_33_code
def yX4_writePhrase : MethodName := ⟨RX4, "writePhrase", "(I)I"⟩
abbrev cX4_write : ByteArray := prog_6_method_34_code
def yX4_write : MethodName := ⟨RX4, "write", "()I"⟩
abbrev cX4_goes : ByteArray := prog_6_method_35_code
def yX4_goes : MethodName := ⟨RX4, "goes", "(III)I"⟩
abbrev cX4_dropLine : ByteArray := prog_6_method_36_code
def yX4_dropLine : MethodName := ⟨RX4, "dropLine", "(I)I"⟩
abbrev cX4_dropPhrase : ByteArray := prog_6_method_37_code
def yX4_dropPhrase : MethodName := ⟨RX4, "dropPhrase", "(I)I"⟩
abbrev cX4_stress : ByteArray := prog_6_method_38_code
def yX4_stress : MethodName := ⟨RX4, "stress", "(IIZ)I"⟩
abbrev cX4_kindAt : ByteArray := prog_6_method_39_code
def yX4_kindAt : MethodName := ⟨RX4, "kindAt", "(II)I"⟩
abbrev cX4_beat : ByteArray := prog_6_method_40_code
def yX4_beat : MethodName := ⟨RX4, "beat", "(III)I"⟩
abbrev cX4_sings : ByteArray := prog_6_method_41_code
def yX4_sings : MethodName := ⟨RX4, "sings", "(I)V"⟩
abbrev cX4_sing : ByteArray := prog_6_method_42_code
def yX4_sing : MethodName := ⟨RX4, "sing", "(I)I"⟩
abbrev cX4_play : ByteArray := prog_6_method_43_code
def yX4_play : MethodName := ⟨RX4, "play", "(I)I"⟩
abbrev cX4_verse : ByteArray := prog_6_method_44_code
def yX4_verse : MethodName := ⟨RX4, "verse", "(III)I"⟩
abbrev cX4_clear : ByteArray := prog_6_method_45_code
def yX4_clear : MethodName := ⟨RX4, "clear", "(Z)I"⟩
abbrev cX4_cheapestPhrase : ByteArray := prog_6_method_46_code
def yX4_cheapestPhrase : MethodName := ⟨RX4, "cheapestPhrase", "(I)I"⟩
abbrev cX4_line : ByteArray := prog_6_method_47_code
def yX4_line : MethodName := ⟨RX4, "line", "(II)I"⟩
abbrev cX4_longestRow : ByteArray := prog_6_method_48_code
def yX4_longestRow : MethodName := ⟨RX4, "longestRow", "(I)I"⟩
abbrev cX4_phrase : ByteArray := prog_6_method_49_code
def yX4_phrase : MethodName := ⟨RX4, "phrase", "(II)I"⟩
abbrev cX4_isStressed : ByteArray := prog_6_method_50_code
def yX4_isStressed : MethodName := ⟨RX4, "isStressed", "(II)I"⟩
abbrev cX4_kindOf : ByteArray := prog_6_method_51_code
def yX4_kindOf : MethodName := ⟨RX4, "kindOf", "(II)I"⟩
abbrev cX4_burdens : ByteArray := prog_6_method_52_code
def yX4_burdens : MethodName := ⟨RX4, "burdens", "()I"⟩
abbrev cX4_count : ByteArray := prog_6_method_53_code
def yX4_count : MethodName := ⟨RX4, "count", "(I)I"⟩
abbrev cX4_at : ByteArray := prog_6_method_54_code
def yX4_at : MethodName := ⟨RX4, "at", "(ZI)I"⟩
abbrev cX4_fit : ByteArray := prog_6_method_55_code
def yX4_fit : MethodName := ⟨RX4, "fit", "(III)I"⟩
abbrev cX4_lies : ByteArray := prog_6_method_56_code
def yX4_lies : MethodName := ⟨RX4, "lies", "(IIII)I"⟩
abbrev cX4_phraseFor : ByteArray := prog_6_method_57_code
def yX4_phraseFor : MethodName := ⟨RX4, "phraseFor", "(I)I"⟩
abbrev cX4_whole : ByteArray := prog_6_method_58_code
def yX4_whole : MethodName := ⟨RX4, "whole", "(I)I"⟩
abbrev cX4_bestPhrase : ByteArray := prog_6_method_59_code
def yX4_bestPhrase : MethodName := ⟨RX4, "bestPhrase", "()I"⟩
abbrev cX4_bestChange : ByteArray := prog_6_method_60_code
def yX4_bestChange : MethodName := ⟨RX4, "bestChange", "(III)I"⟩
abbrev cX4_enoughBreath : ByteArray := prog_6_method_61_code
def yX4_enoughBreath : MethodName := ⟨RX4, "enoughBreath", "(II)I"⟩
abbrev cX4_put : ByteArray := prog_6_method_62_code
def yX4_put : MethodName := ⟨RX4, "put", "(J)I"⟩
abbrev cX4_wipe : ByteArray := prog_6_method_63_code
def yX4_wipe : MethodName := ⟨RX4, "wipe", "()I"⟩
abbrev cX4_findFault : ByteArray := prog_6_method_64_code
def yX4_findFault : MethodName := ⟨RX4, "findFault", "()I"⟩
abbrev cX4_fault : ByteArray := prog_6_method_65_code
def yX4_fault : MethodName := ⟨RX4, "fault", "()I"⟩
abbrev cX4_undo : ByteArray := prog_6_method_66_code
def yX4_undo : MethodName := ⟨RX4, "undo", "()I"⟩
abbrev cX4_save : ByteArray := prog_6_method_67_code
def yX4_save : MethodName := ⟨RX4, "save", "(I)I"⟩
abbrev cX4_restore : ByteArray := prog_6_method_68_code
def yX4_restore : MethodName := ⟨RX4, "restore", "(I)I"⟩
def RJ9 : String := "java/lang/Math"
def TJ9 : u_T := fun k => match k with
  | _ => ("", "", "", false)
def tyJ9 : Nat → FieldType := fun k => match k with
  | _ => .int
abbrev cJ9_max_7cf53 : ByteArray := prog_7_method_65_code
def yJ9_max_7cf53 : MethodName := ⟨RJ9, "max", "(II)I"⟩
abbrev cJ9_min_7cf53 : ByteArray := prog_7_method_69_code
def yJ9_min_7cf53 : MethodName := ⟨RJ9, "min", "(II)I"⟩
def RJ10 : String := "java/lang/System"
def TJ10 : u_T := fun k => match k with
  | _ => ("", "", "", false)
def tyJ10 : Nat → FieldType := fun k => match k with
  | _ => .int
def RL : String := "BurdenTunesLaw"
abbrev cL_law : ByteArray := code
def yL_law : MethodName := ⟨RL, "law", "([I)Z"⟩
