section
-- ===== PART A: goes FIRST, ahead of the names: the tables' words, and 'selects' of the private methods out of them =====
/-- a private method of a class that the tables say can be made, by its rows of tables_1 -/
def lw_okq (q : MethodName × Nat) : Prop := (q.1.cls ≠ "java/lang/invoke/MethodHandle" ∧ q.1.cls ≠ "java/lang/invoke/VarHandle") ∧ Cond.instantiable q.1.cls q.2 ∈ tables_1 ∧ Cond.privateMethod q.1 ∈ tables_1 ∧ Cond.instanceMethod q.1 ∈ tables_1
theorem lw_p0 : lw_okq (⟨"BurdenTunes", "record", "()V"⟩, 7) := ⟨⟨by decide +kernel, by decide +kernel⟩, List.mem_of_getElem? (i := 9) (by decide +kernel), List.mem_of_getElem? (i := 176) (by decide +kernel), List.mem_of_getElem? (i := 177) (by decide +kernel)⟩
theorem lw_p1 : lw_okq (⟨"BurdenTunes", "cheapestPhrase", "(I)I"⟩, 7) := ⟨⟨by decide +kernel, by decide +kernel⟩, List.mem_of_getElem? (i := 9) (by decide +kernel), List.mem_of_getElem? (i := 313) (by decide +kernel), List.mem_of_getElem? (i := 314) (by decide +kernel)⟩
theorem lw_p2 : lw_okq (⟨"BurdenTunes", "leastCostOf", "(II)I"⟩, 7) := ⟨⟨by decide +kernel, by decide +kernel⟩, List.mem_of_getElem? (i := 9) (by decide +kernel), List.mem_of_getElem? (i := 318) (by decide +kernel), List.mem_of_getElem? (i := 319) (by decide +kernel)⟩
theorem lw_p3 : lw_okq (⟨"BurdenTunes$Laying", "costOfFree", "(II)I"⟩, 13) := ⟨⟨by decide +kernel, by decide +kernel⟩, List.mem_of_getElem? (i := 95) (by decide +kernel), List.mem_of_getElem? (i := 331) (by decide +kernel), List.mem_of_getElem? (i := 332) (by decide +kernel)⟩
theorem lw_p4 : lw_okq (⟨"BurdenTunes$Laying", "mostHeld", "(I)I"⟩, 13) := ⟨⟨by decide +kernel, by decide +kernel⟩, List.mem_of_getElem? (i := 95) (by decide +kernel), List.mem_of_getElem? (i := 336) (by decide +kernel), List.mem_of_getElem? (i := 337) (by decide +kernel)⟩
theorem lw_p5 : lw_okq (⟨"BurdenTunes$Laying", "costOfHeld", "(III)I"⟩, 13) := ⟨⟨by decide +kernel, by decide +kernel⟩, List.mem_of_getElem? (i := 95) (by decide +kernel), List.mem_of_getElem? (i := 343) (by decide +kernel), List.mem_of_getElem? (i := 344) (by decide +kernel)⟩
theorem lw_p6 : lw_okq (⟨"BurdenTunes$Laying", "hurts", "(II)Z"⟩, 13) := ⟨⟨by decide +kernel, by decide +kernel⟩, List.mem_of_getElem? (i := 95) (by decide +kernel), List.mem_of_getElem? (i := 347) (by decide +kernel), List.mem_of_getElem? (i := 348) (by decide +kernel)⟩
theorem lw_p7 : lw_okq (⟨"BurdenTunes$Laying", "waysFrom", "(IIZ)I"⟩, 13) := ⟨⟨by decide +kernel, by decide +kernel⟩, List.mem_of_getElem? (i := 95) (by decide +kernel), List.mem_of_getElem? (i := 399) (by decide +kernel), List.mem_of_getElem? (i := 400) (by decide +kernel)⟩
theorem lw_p8 : lw_okq (⟨"BurdenTunes$Laying", "heldByBestWay", "(II)I"⟩, 13) := ⟨⟨by decide +kernel, by decide +kernel⟩, List.mem_of_getElem? (i := 95) (by decide +kernel), List.mem_of_getElem? (i := 411) (by decide +kernel), List.mem_of_getElem? (i := 412) (by decide +kernel)⟩
theorem lw_p9 : lw_okq (⟨"BurdenTunesModel", "record", "()V"⟩, 18) := ⟨⟨by decide +kernel, by decide +kernel⟩, List.mem_of_getElem? (i := 478) (by decide +kernel), List.mem_of_getElem? (i := 549) (by decide +kernel), List.mem_of_getElem? (i := 550) (by decide +kernel)⟩
theorem lw_p10 : lw_okq (⟨"BurdenTunesModel", "findFault", "()I"⟩, 18) := ⟨⟨by decide +kernel, by decide +kernel⟩, List.mem_of_getElem? (i := 478) (by decide +kernel), List.mem_of_getElem? (i := 560) (by decide +kernel), List.mem_of_getElem? (i := 561) (by decide +kernel)⟩
theorem lw_p11 : lw_okq (⟨"BurdenTunesModel", "parts", "(Z)I"⟩, 18) := ⟨⟨by decide +kernel, by decide +kernel⟩, List.mem_of_getElem? (i := 478) (by decide +kernel), List.mem_of_getElem? (i := 564) (by decide +kernel), List.mem_of_getElem? (i := 565) (by decide +kernel)⟩
theorem lw_p12 : lw_okq (⟨"BurdenTunesModel", "writePhrase", "(I)I"⟩, 18) := ⟨⟨by decide +kernel, by decide +kernel⟩, List.mem_of_getElem? (i := 478) (by decide +kernel), List.mem_of_getElem? (i := 568) (by decide +kernel), List.mem_of_getElem? (i := 569) (by decide +kernel)⟩
theorem lw_p13 : lw_okq (⟨"BurdenTunesModel", "writeLine", "(I)I"⟩, 18) := ⟨⟨by decide +kernel, by decide +kernel⟩, List.mem_of_getElem? (i := 478) (by decide +kernel), List.mem_of_getElem? (i := 572) (by decide +kernel), List.mem_of_getElem? (i := 573) (by decide +kernel)⟩
theorem lw_p14 : lw_okq (⟨"BurdenTunesModel", "isLine", "(I)Z"⟩, 18) := ⟨⟨by decide +kernel, by decide +kernel⟩, List.mem_of_getElem? (i := 478) (by decide +kernel), List.mem_of_getElem? (i := 580) (by decide +kernel), List.mem_of_getElem? (i := 581) (by decide +kernel)⟩
theorem lw_p15 : lw_okq (⟨"BurdenTunesModel", "goes", "(III)I"⟩, 18) := ⟨⟨by decide +kernel, by decide +kernel⟩, List.mem_of_getElem? (i := 478) (by decide +kernel), List.mem_of_getElem? (i := 584) (by decide +kernel), List.mem_of_getElem? (i := 585) (by decide +kernel)⟩
def lw_privs_1 : List (MethodName × Nat) := [(⟨"BurdenTunes", "record", "()V"⟩, 7), (⟨"BurdenTunes", "cheapestPhrase", "(I)I"⟩, 7), (⟨"BurdenTunes", "leastCostOf", "(II)I"⟩, 7), (⟨"BurdenTunes$Laying", "costOfFree", "(II)I"⟩, 13), (⟨"BurdenTunes$Laying", "mostHeld", "(I)I"⟩, 13), (⟨"BurdenTunes$Laying", "costOfHeld", "(III)I"⟩, 13), (⟨"BurdenTunes$Laying", "hurts", "(II)Z"⟩, 13), (⟨"BurdenTunes$Laying", "waysFrom", "(IIZ)I"⟩, 13), (⟨"BurdenTunes$Laying", "heldByBestWay", "(II)I"⟩, 13), (⟨"BurdenTunesModel", "record", "()V"⟩, 18), (⟨"BurdenTunesModel", "findFault", "()I"⟩, 18), (⟨"BurdenTunesModel", "parts", "(Z)I"⟩, 18), (⟨"BurdenTunesModel", "writePhrase", "(I)I"⟩, 18), (⟨"BurdenTunesModel", "writeLine", "(I)I"⟩, 18), (⟨"BurdenTunesModel", "isLine", "(I)Z"⟩, 18), (⟨"BurdenTunesModel", "goes", "(III)I"⟩, 18)]
theorem lw_r1 : ∀ q ∈ lw_privs_1, lw_okq q := List.forall_mem_cons.mpr ⟨lw_p0, List.forall_mem_cons.mpr ⟨lw_p1, List.forall_mem_cons.mpr ⟨lw_p2, List.forall_mem_cons.mpr ⟨lw_p3, List.forall_mem_cons.mpr ⟨lw_p4, List.forall_mem_cons.mpr ⟨lw_p5, List.forall_mem_cons.mpr ⟨lw_p6, List.forall_mem_cons.mpr ⟨lw_p7, List.forall_mem_cons.mpr ⟨lw_p8, List.forall_mem_cons.mpr ⟨lw_p9, List.forall_mem_cons.mpr ⟨lw_p10, List.forall_mem_cons.mpr ⟨lw_p11, List.forall_mem_cons.mpr ⟨lw_p12, List.forall_mem_cons.mpr ⟨lw_p13, List.forall_mem_cons.mpr ⟨lw_p14, List.forall_mem_cons.mpr ⟨lw_p15, fun _ h => absurd h List.not_mem_nil⟩⟩⟩⟩⟩⟩⟩⟩⟩⟩⟩⟩⟩⟩⟩⟩
theorem lw_p16 : lw_okq (⟨"BurdenTunesModel", "isPhrase", "(I)Z"⟩, 18) := ⟨⟨by decide +kernel, by decide +kernel⟩, List.mem_of_getElem? (i := 478) (by decide +kernel), List.mem_of_getElem? (i := 592) (by decide +kernel), List.mem_of_getElem? (i := 593) (by decide +kernel)⟩
theorem lw_p17 : lw_okq (⟨"BurdenTunesModel", "isSyllable", "(II)Z"⟩, 18) := ⟨⟨by decide +kernel, by decide +kernel⟩, List.mem_of_getElem? (i := 478) (by decide +kernel), List.mem_of_getElem? (i := 600) (by decide +kernel), List.mem_of_getElem? (i := 601) (by decide +kernel)⟩
theorem lw_p18 : lw_okq (⟨"BurdenTunesModel", "lineLength", "(I)I"⟩, 18) := ⟨⟨by decide +kernel, by decide +kernel⟩, List.mem_of_getElem? (i := 478) (by decide +kernel), List.mem_of_getElem? (i := 604) (by decide +kernel), List.mem_of_getElem? (i := 605) (by decide +kernel)⟩
theorem lw_p19 : lw_okq (⟨"BurdenTunesModel", "isBeat", "(II)Z"⟩, 18) := ⟨⟨by decide +kernel, by decide +kernel⟩, List.mem_of_getElem? (i := 478) (by decide +kernel), List.mem_of_getElem? (i := 612) (by decide +kernel), List.mem_of_getElem? (i := 613) (by decide +kernel)⟩
theorem lw_p20 : lw_okq (⟨"BurdenTunesModel", "phraseLength", "(I)I"⟩, 18) := ⟨⟨by decide +kernel, by decide +kernel⟩, List.mem_of_getElem? (i := 478) (by decide +kernel), List.mem_of_getElem? (i := 616) (by decide +kernel), List.mem_of_getElem? (i := 617) (by decide +kernel)⟩
theorem lw_p21 : lw_okq (⟨"BurdenTunesModel", "kindAt", "(II)I"⟩, 18) := ⟨⟨by decide +kernel, by decide +kernel⟩, List.mem_of_getElem? (i := 478) (by decide +kernel), List.mem_of_getElem? (i := 620) (by decide +kernel), List.mem_of_getElem? (i := 621) (by decide +kernel)⟩
theorem lw_p22 : lw_okq (⟨"BurdenTunesModel", "sings", "(I)V"⟩, 18) := ⟨⟨by decide +kernel, by decide +kernel⟩, List.mem_of_getElem? (i := 478) (by decide +kernel), List.mem_of_getElem? (i := 631) (by decide +kernel), List.mem_of_getElem? (i := 632) (by decide +kernel)⟩
theorem lw_p23 : lw_okq (⟨"BurdenTunesModel", "sungTimes", "(I)I"⟩, 18) := ⟨⟨by decide +kernel, by decide +kernel⟩, List.mem_of_getElem? (i := 478) (by decide +kernel), List.mem_of_getElem? (i := 654) (by decide +kernel), List.mem_of_getElem? (i := 655) (by decide +kernel)⟩
theorem lw_p24 : lw_okq (⟨"BurdenTunesModel", "cheapestPhrase", "(I)I"⟩, 18) := ⟨⟨by decide +kernel, by decide +kernel⟩, List.mem_of_getElem? (i := 478) (by decide +kernel), List.mem_of_getElem? (i := 658) (by decide +kernel), List.mem_of_getElem? (i := 659) (by decide +kernel)⟩
theorem lw_p25 : lw_okq (⟨"BurdenTunesModel", "costOf", "(II)I"⟩, 18) := ⟨⟨by decide +kernel, by decide +kernel⟩, List.mem_of_getElem? (i := 478) (by decide +kernel), List.mem_of_getElem? (i := 663) (by decide +kernel), List.mem_of_getElem? (i := 664) (by decide +kernel)⟩
theorem lw_p26 : lw_okq (⟨"BurdenTunesModel", "look", "(II)V"⟩, 18) := ⟨⟨by decide +kernel, by decide +kernel⟩, List.mem_of_getElem? (i := 478) (by decide +kernel), List.mem_of_getElem? (i := 667) (by decide +kernel), List.mem_of_getElem? (i := 668) (by decide +kernel)⟩
theorem lw_p27 : lw_okq (⟨"BurdenTunesModel", "findCost", "()I"⟩, 18) := ⟨⟨by decide +kernel, by decide +kernel⟩, List.mem_of_getElem? (i := 478) (by decide +kernel), List.mem_of_getElem? (i := 671) (by decide +kernel), List.mem_of_getElem? (i := 672) (by decide +kernel)⟩
theorem lw_p28 : lw_okq (⟨"BurdenTunesModel", "findAt", "(II)V"⟩, 18) := ⟨⟨by decide +kernel, by decide +kernel⟩, List.mem_of_getElem? (i := 478) (by decide +kernel), List.mem_of_getElem? (i := 675) (by decide +kernel), List.mem_of_getElem? (i := 676) (by decide +kernel)⟩
theorem lw_p29 : lw_okq (⟨"BurdenTunesModel", "costFree", "(II)I"⟩, 18) := ⟨⟨by decide +kernel, by decide +kernel⟩, List.mem_of_getElem? (i := 478) (by decide +kernel), List.mem_of_getElem? (i := 679) (by decide +kernel), List.mem_of_getElem? (i := 680) (by decide +kernel)⟩
theorem lw_p30 : lw_okq (⟨"BurdenTunesModel", "takesIn", "(III)V"⟩, 18) := ⟨⟨by decide +kernel, by decide +kernel⟩, List.mem_of_getElem? (i := 478) (by decide +kernel), List.mem_of_getElem? (i := 683) (by decide +kernel), List.mem_of_getElem? (i := 684) (by decide +kernel)⟩
theorem lw_p31 : lw_okq (⟨"BurdenTunesModel", "costOn", "(III)I"⟩, 18) := ⟨⟨by decide +kernel, by decide +kernel⟩, List.mem_of_getElem? (i := 478) (by decide +kernel), List.mem_of_getElem? (i := 691) (by decide +kernel), List.mem_of_getElem? (i := 692) (by decide +kernel)⟩
def lw_privs_2 : List (MethodName × Nat) := [(⟨"BurdenTunesModel", "isPhrase", "(I)Z"⟩, 18), (⟨"BurdenTunesModel", "isSyllable", "(II)Z"⟩, 18), (⟨"BurdenTunesModel", "lineLength", "(I)I"⟩, 18), (⟨"BurdenTunesModel", "isBeat", "(II)Z"⟩, 18), (⟨"BurdenTunesModel", "phraseLength", "(I)I"⟩, 18), (⟨"BurdenTunesModel", "kindAt", "(II)I"⟩, 18), (⟨"BurdenTunesModel", "sings", "(I)V"⟩, 18), (⟨"BurdenTunesModel", "sungTimes", "(I)I"⟩, 18), (⟨"BurdenTunesModel", "cheapestPhrase", "(I)I"⟩, 18), (⟨"BurdenTunesModel", "costOf", "(II)I"⟩, 18), (⟨"BurdenTunesModel", "look", "(II)V"⟩, 18), (⟨"BurdenTunesModel", "findCost", "()I"⟩, 18), (⟨"BurdenTunesModel", "findAt", "(II)V"⟩, 18), (⟨"BurdenTunesModel", "costFree", "(II)I"⟩, 18), (⟨"BurdenTunesModel", "takesIn", "(III)V"⟩, 18), (⟨"BurdenTunesModel", "costOn", "(III)I"⟩, 18)]
theorem lw_r2 : ∀ q ∈ lw_privs_2, lw_okq q := List.forall_mem_cons.mpr ⟨lw_p16, List.forall_mem_cons.mpr ⟨lw_p17, List.forall_mem_cons.mpr ⟨lw_p18, List.forall_mem_cons.mpr ⟨lw_p19, List.forall_mem_cons.mpr ⟨lw_p20, List.forall_mem_cons.mpr ⟨lw_p21, List.forall_mem_cons.mpr ⟨lw_p22, List.forall_mem_cons.mpr ⟨lw_p23, List.forall_mem_cons.mpr ⟨lw_p24, List.forall_mem_cons.mpr ⟨lw_p25, List.forall_mem_cons.mpr ⟨lw_p26, List.forall_mem_cons.mpr ⟨lw_p27, List.forall_mem_cons.mpr ⟨lw_p28, List.forall_mem_cons.mpr ⟨lw_p29, List.forall_mem_cons.mpr ⟨lw_p30, List.forall_mem_cons.mpr ⟨lw_p31, fun _ h => absurd h List.not_mem_nil⟩⟩⟩⟩⟩⟩⟩⟩⟩⟩⟩⟩⟩⟩⟩⟩
theorem lw_p32 : lw_okq (⟨"BurdenTunesModel", "hurts", "(II)Z"⟩, 18) := ⟨⟨by decide +kernel, by decide +kernel⟩, List.mem_of_getElem? (i := 478) (by decide +kernel), List.mem_of_getElem? (i := 695) (by decide +kernel), List.mem_of_getElem? (i := 696) (by decide +kernel)⟩
theorem lw_p33 : lw_okq (⟨"BurdenTunesModel", "playedTimes", "(I)I"⟩, 18) := ⟨⟨by decide +kernel, by decide +kernel⟩, List.mem_of_getElem? (i := 478) (by decide +kernel), List.mem_of_getElem? (i := 703) (by decide +kernel), List.mem_of_getElem? (i := 704) (by decide +kernel)⟩
theorem lw_p34 : lw_okq (⟨"BurdenTunesModel", "longestRow", "(I)I"⟩, 18) := ⟨⟨by decide +kernel, by decide +kernel⟩, List.mem_of_getElem? (i := 478) (by decide +kernel), List.mem_of_getElem? (i := 707) (by decide +kernel), List.mem_of_getElem? (i := 708) (by decide +kernel)⟩
theorem lw_p35 : lw_okq (⟨"BurdenTunesModel", "burdens", "()I"⟩, 18) := ⟨⟨by decide +kernel, by decide +kernel⟩, List.mem_of_getElem? (i := 478) (by decide +kernel), List.mem_of_getElem? (i := 723) (by decide +kernel), List.mem_of_getElem? (i := 724) (by decide +kernel)⟩
theorem lw_p36 : lw_okq (⟨"BurdenTunesModel", "freeBeats", "()I"⟩, 18) := ⟨⟨by decide +kernel, by decide +kernel⟩, List.mem_of_getElem? (i := 478) (by decide +kernel), List.mem_of_getElem? (i := 735) (by decide +kernel), List.mem_of_getElem? (i := 736) (by decide +kernel)⟩
theorem lw_p37 : lw_okq (⟨"BurdenTunesModel", "findWay", "()V"⟩, 18) := ⟨⟨by decide +kernel, by decide +kernel⟩, List.mem_of_getElem? (i := 478) (by decide +kernel), List.mem_of_getElem? (i := 739) (by decide +kernel), List.mem_of_getElem? (i := 740) (by decide +kernel)⟩
theorem lw_p38 : lw_okq (⟨"BurdenTunesModel", "beatsFrom", "(II)I"⟩, 18) := ⟨⟨by decide +kernel, by decide +kernel⟩, List.mem_of_getElem? (i := 478) (by decide +kernel), List.mem_of_getElem? (i := 743) (by decide +kernel), List.mem_of_getElem? (i := 744) (by decide +kernel)⟩
theorem lw_p39 : lw_okq (⟨"BurdenTunesModel", "hurting", "()I"⟩, 18) := ⟨⟨by decide +kernel, by decide +kernel⟩, List.mem_of_getElem? (i := 478) (by decide +kernel), List.mem_of_getElem? (i := 747) (by decide +kernel), List.mem_of_getElem? (i := 748) (by decide +kernel)⟩
theorem lw_p40 : lw_okq (⟨"BurdenTunesModel", "phraseFor", "(I)I"⟩, 18) := ⟨⟨by decide +kernel, by decide +kernel⟩, List.mem_of_getElem? (i := 478) (by decide +kernel), List.mem_of_getElem? (i := 759) (by decide +kernel), List.mem_of_getElem? (i := 760) (by decide +kernel)⟩
def lw_privs_3 : List (MethodName × Nat) := [(⟨"BurdenTunesModel", "hurts", "(II)Z"⟩, 18), (⟨"BurdenTunesModel", "playedTimes", "(I)I"⟩, 18), (⟨"BurdenTunesModel", "longestRow", "(I)I"⟩, 18), (⟨"BurdenTunesModel", "burdens", "()I"⟩, 18), (⟨"BurdenTunesModel", "freeBeats", "()I"⟩, 18), (⟨"BurdenTunesModel", "findWay", "()V"⟩, 18), (⟨"BurdenTunesModel", "beatsFrom", "(II)I"⟩, 18), (⟨"BurdenTunesModel", "hurting", "()I"⟩, 18), (⟨"BurdenTunesModel", "phraseFor", "(I)I"⟩, 18)]
theorem lw_r3 : ∀ q ∈ lw_privs_3, lw_okq q := List.forall_mem_cons.mpr ⟨lw_p32, List.forall_mem_cons.mpr ⟨lw_p33, List.forall_mem_cons.mpr ⟨lw_p34, List.forall_mem_cons.mpr ⟨lw_p35, List.forall_mem_cons.mpr ⟨lw_p36, List.forall_mem_cons.mpr ⟨lw_p37, List.forall_mem_cons.mpr ⟨lw_p38, List.forall_mem_cons.mpr ⟨lw_p39, List.forall_mem_cons.mpr ⟨lw_p40, fun _ h => absurd h List.not_mem_nil⟩⟩⟩⟩⟩⟩⟩⟩⟩
def lw_privs : List (MethodName × Nat) := lw_privs_1 ++ (lw_privs_2 ++ (lw_privs_3))
def lw_tbl : List Cond := k2_sels lw_privs ++ tables_1
theorem lw_privs_ok : ∀ q ∈ lw_privs, lw_okq q := by
  show ∀ q ∈ lw_privs_1 ++ (lw_privs_2 ++ (lw_privs_3)), lw_okq q
  exact List.forall_mem_append.mpr ⟨lw_r1, List.forall_mem_append.mpr ⟨lw_r2, lw_r3⟩⟩

def RX0 : String := "BurdenTunes$Book"
def TX0 : u_T := fun k => match k with
  | 0 => ("BurdenTunes$Book", "settings", "[I", true)
  | 1 => ("BurdenTunes$Book", "lineCount", "I", false)
  | 2 => ("BurdenTunes$Book", "syllableCounts", "[I", true)
  | 3 => ("BurdenTunes$Book", "stresses", "[I", true)
  | 4 => ("BurdenTunes$Book", "phraseCount", "I", false)
  | 5 => ("BurdenTunes$Book", "beatCounts", "[I", true)
  | 6 => ("BurdenTunes$Book", "kinds", "[I", true)
  | 7 => ("BurdenTunes$Book", "balladCount", "I", false)
  | 8 => ("BurdenTunes$Book", "ballad", "[I", true)
  | 9 => ("BurdenTunes$Book", "tuneCount", "I", false)
  | _ => ("BurdenTunes$Book", "tune", "[I", true)
def tyX0 : Nat → FieldType := fun k => match k with
  | 0 => .array .int
  | 1 => .int
  | 2 => .array .int
  | 3 => .array .int
  | 4 => .int
  | 5 => .array .int
  | 6 => .array .int
  | 7 => .int
  | 8 => .array .int
  | 9 => .int
  | _ => .array .int
abbrev wsX00 : List Cond := u_ws RX0 TX0 11
theorem nmX0 : ∀ a, a < 11 → ∀ b, b < 11 → a ≠ b → (TX0 a).2.1 ≠ (TX0 b).2.1 := by decide +kernel
theorem tyX0_ok : ∀ k, k < 11 → parseFieldDescriptor (TX0 k).2.2.1 = some (tyX0 k) := by decide +kernel
abbrev cX0_init : ByteArray := prog_2_method_1_code
def yX0_init : MethodName := ⟨RX0, "<init>", "()V"⟩
abbrev cX0_takeOver : ByteArray := prog_2_method_2_code
def yX0_takeOver : MethodName := ⟨RX0, "takeOver", "(LBurdenTunes$Book;)V"⟩
abbrev cX0_hasLine : ByteArray := prog_2_method_3_code
def yX0_hasLine : MethodName := ⟨RX0, "hasLine", "(I)Z"⟩
abbrev cX0_hasPhrase : ByteArray := prog_2_method_4_code
def yX0_hasPhrase : MethodName := ⟨RX0, "hasPhrase", "(I)Z"⟩
abbrev cX0_hasSyllable : ByteArray := prog_2_method_5_code
def yX0_hasSyllable : MethodName := ⟨RX0, "hasSyllable", "(II)Z"⟩
abbrev cX0_hasBeat : ByteArray := prog_2_method_6_code
def yX0_hasBeat : MethodName := ⟨RX0, "hasBeat", "(II)Z"⟩
abbrev cX0_beginPart : ByteArray := prog_2_method_7_code
def yX0_beginPart : MethodName := ⟨RX0, "beginPart", "(Z)V"⟩
abbrev cX0_addSign : ByteArray := prog_2_method_8_code
def yX0_addSign : MethodName := ⟨RX0, "addSign", "(C)V"⟩
abbrev cX0_addSyllable : ByteArray := prog_2_method_9_code
def yX0_addSyllable : MethodName := ⟨RX0, "addSyllable", "(I)V"⟩
abbrev cX0_addBeat : ByteArray := prog_2_method_10_code
def yX0_addBeat : MethodName := ⟨RX0, "addBeat", "(I)V"⟩
abbrev cX0_removeLine : ByteArray := prog_2_method_11_code
def yX0_removeLine : MethodName := ⟨RX0, "removeLine", "(I)V"⟩
abbrev cX0_removePhrase : ByteArray := prog_2_method_12_code
def yX0_removePhrase : MethodName := ⟨RX0, "removePhrase", "(I)V"⟩
abbrev cX0_withoutNumber : ByteArray := prog_2_method_13_code
def yX0_withoutNumber : MethodName := ⟨RX0, "withoutNumber", "([III)I"⟩
abbrev cX0_addToBallad : ByteArray := prog_2_method_14_code
def yX0_addToBallad : MethodName := ⟨RX0, "addToBallad", "(I)V"⟩
abbrev cX0_addToTune : ByteArray := prog_2_method_15_code
def yX0_addToTune : MethodName := ⟨RX0, "addToTune", "(I)V"⟩
abbrev cX0_timesSung : ByteArray := prog_2_method_16_code
def yX0_timesSung : MethodName := ⟨RX0, "timesSung", "(I)I"⟩
abbrev cX0_timesPlayed : ByteArray := prog_2_method_17_code
def yX0_timesPlayed : MethodName := ⟨RX0, "timesPlayed", "(I)I"⟩
abbrev cX0_timesIn : ByteArray := prog_2_method_18_code
def yX0_timesIn : MethodName := ⟨RX0, "timesIn", "([III)I"⟩
abbrev cX0_burdens : ByteArray := prog_2_method_19_code
def yX0_burdens : MethodName := ⟨RX0, "burdens", "()I"⟩
abbrev cX0_stressedOf : ByteArray := prog_2_method_20_code
def yX0_stressedOf : MethodName := ⟨RX0, "stressedOf", "(I)I"⟩
abbrev cX0_beatsOfKind : ByteArray := prog_2_method_21_code
def yX0_beatsOfKind : MethodName := ⟨RX0, "beatsOfKind", "(II)I"⟩
abbrev cX0_longestRow : ByteArray := prog_2_method_22_code
def yX0_longestRow : MethodName := ⟨RX0, "longestRow", "(I)I"⟩
def RX1 : String := "BurdenTunes$Laying"
def TX1 : u_T := fun k => match k with
  | 0 => ("BurdenTunes$Laying", "breath", "I", false)
  | 1 => ("BurdenTunes$Laying", "drawn", "I", false)
  | 2 => ("BurdenTunes$Laying", "lost", "I", false)
  | 3 => ("BurdenTunes$Laying", "hurt", "I", false)
  | 4 => ("BurdenTunes$Laying", "syllables", "I", false)
  | 5 => ("BurdenTunes$Laying", "beats", "I", false)
  | 6 => ("BurdenTunes$Laying", "stresses", "[I", true)
  | 7 => ("BurdenTunes$Laying", "kinds", "[I", true)
  | 8 => ("BurdenTunes$Laying", "rows", "[I", true)
  | 9 => ("BurdenTunes$Laying", "costs", "[I", true)
  | 10 => ("BurdenTunes$Laying", "ways", "[I", true)
  | 11 => ("BurdenTunes$Laying", "firstBeats", "[I", true)
  | _ => ("BurdenTunes$Laying", "heldBeats", "[I", true)
def tyX1 : Nat → FieldType := fun k => match k with
  | 0 => .int
  | 1 => .int
  | 2 => .int
  | 3 => .int
  | 4 => .int
  | 5 => .int
  | 6 => .array .int
  | 7 => .array .int
  | 8 => .array .int
  | 9 => .array .int
  | 10 => .array .int
  | 11 => .array .int
  | _ => .array .int
abbrev wsX10 : List Cond := u_ws RX1 TX1 13
theorem nmX1 : ∀ a, a < 13 → ∀ b, b < 13 → a ≠ b → (TX1 a).2.1 ≠ (TX1 b).2.1 := by decide +kernel
theorem tyX1_ok : ∀ k, k < 13 → parseFieldDescriptor (TX1 k).2.2.1 = some (tyX1 k) := by decide +kernel
abbrev cX1_init : ByteArray := prog_3_method_1_code
def yX1_init : MethodName := ⟨RX1, "<init>", "()V"⟩
abbrev cX1_take : ByteArray := prog_3_method_2_code
def yX1_take : MethodName := ⟨RX1, "take", "(LBurdenTunes$Book;II)V"⟩
abbrev cX1_turnStress : ByteArray := prog_3_method_3_code
def yX1_turnStress : MethodName := ⟨RX1, "turnStress", "(I)V"⟩
abbrev cX1_leastCost : ByteArray := prog_3_method_4_code
def yX1_leastCost : MethodName := ⟨RX1, "leastCost", "()I"⟩
abbrev cX1_mostHeld : ByteArray := prog_3_method_5_code
def yX1_mostHeld : MethodName := ⟨RX1, "mostHeld", "(I)I"⟩
abbrev cX1_hurts : ByteArray := prog_3_method_6_code
def yX1_hurts : MethodName := ⟨RX1, "hurts", "(II)Z"⟩
abbrev cX1_costOfFree : ByteArray := prog_3_method_7_code
def yX1_costOfFree : MethodName := ⟨RX1, "costOfFree", "(II)I"⟩
abbrev cX1_costOfHeld : ByteArray := prog_3_method_8_code
def yX1_costOfHeld : MethodName := ⟨RX1, "costOfHeld", "(III)I"⟩
abbrev cX1_countWays : ByteArray := prog_3_method_9_code
def yX1_countWays : MethodName := ⟨RX1, "countWays", "(Z)I"⟩
abbrev cX1_waysFrom : ByteArray := prog_3_method_10_code
def yX1_waysFrom : MethodName := ⟨RX1, "waysFrom", "(IIZ)I"⟩
abbrev cX1_findBestWay : ByteArray := prog_3_method_11_code
def yX1_findBestWay : MethodName := ⟨RX1, "findBestWay", "()V"⟩
abbrev cX1_heldByBestWay : ByteArray := prog_3_method_12_code
def yX1_heldByBestWay : MethodName := ⟨RX1, "heldByBestWay", "(II)I"⟩
abbrev cX1_freeBeats : ByteArray := prog_3_method_13_code
def yX1_freeBeats : MethodName := ⟨RX1, "freeBeats", "()I"⟩
abbrev cX1_hurtSyllables : ByteArray := prog_3_method_14_code
def yX1_hurtSyllables : MethodName := ⟨RX1, "hurtSyllables", "()I"⟩
def RX2 : String := "BurdenTunes$Pad"
def TX2 : u_T := fun k => match k with
  | 0 => ("BurdenTunes$Pad", "signs", "[C", true)
  | _ => ("BurdenTunes$Pad", "length", "I", false)
def tyX2 : Nat → FieldType := fun k => match k with
  | 0 => .array .char
  | _ => .int
abbrev wsX20 : List Cond := u_ws RX2 TX2 2
theorem nmX2 : ∀ a, a < 2 → ∀ b, b < 2 → a ≠ b → (TX2 a).2.1 ≠ (TX2 b).2.1 := by decide +kernel
theorem tyX2_ok : ∀ k, k < 2 → parseFieldDescriptor (TX2 k).2.2.1 = some (tyX2 k) := by decide +kernel
abbrev cX2_init : ByteArray := prog_4_method_1_code
def yX2_init : MethodName := ⟨RX2, "<init>", "()V"⟩
abbrev cX2_isSyllable : ByteArray := prog_4_method_2_code
def yX2_isSyllable : MethodName := ⟨RX2, "isSyllable", "(C)Z"⟩
abbrev cX2_isBeat : ByteArray := prog_4_method_3_code
def yX2_isBeat : MethodName := ⟨RX2, "isBeat", "(C)Z"⟩
abbrev cX2_signsIn : ByteArray := prog_4_method_4_code
def yX2_signsIn : MethodName := ⟨RX2, "signsIn", "(J)I"⟩
abbrev cX2_append : ByteArray := prog_4_method_5_code
def yX2_append : MethodName := ⟨RX2, "append", "(JI)V"⟩
abbrev cX2_beginsPart : ByteArray := prog_4_method_6_code
def yX2_beginsPart : MethodName := ⟨RX2, "beginsPart", "(I)Z"⟩
abbrev cX2_parts : ByteArray := prog_4_method_7_code
def yX2_parts : MethodName := ⟨RX2, "parts", "()I"⟩
abbrev cX2_phraseParts : ByteArray := prog_4_method_8_code
def yX2_phraseParts : MethodName := ⟨RX2, "phraseParts", "()I"⟩
abbrev cX2_faultPlace : ByteArray := prog_4_method_9_code
def yX2_faultPlace : MethodName := ⟨RX2, "faultPlace", "()I"⟩
def RX3 : String := "BurdenTunes"
def TX3 : u_T := fun k => match k with
  | 0 => ("BurdenTunes", "book", "LBurdenTunes$Book;", true)
  | 1 => ("BurdenTunes", "pad", "LBurdenTunes$Pad;", true)
  | 2 => ("BurdenTunes", "laying", "LBurdenTunes$Laying;", true)
  | 3 => ("BurdenTunes", "history", "[LBurdenTunes$Book;", true)
  | 4 => ("BurdenTunes", "historyCount", "I", false)
  | 5 => ("BurdenTunes", "slots", "[LBurdenTunes$Book;", true)
  | _ => ("BurdenTunes", "isSaved", "[Z", true)
def tyX3 : Nat → FieldType := fun k => match k with
  | 0 => .object "BurdenTunes$Book"
  | 1 => .object "BurdenTunes$Pad"
  | 2 => .object "BurdenTunes$Laying"
  | 3 => .array (.object "BurdenTunes$Book")
  | 4 => .int
  | 5 => .array (.object "BurdenTunes$Book")
  | _ => .array .boolean
abbrev wsX30 : List Cond := u_ws RX3 TX3 7
theorem nmX3 : ∀ a, a < 7 → ∀ b, b < 7 → a ≠ b → (TX3 a).2.1 ≠ (TX3 b).2.1 := by decide +kernel
theorem tyX3_ok : ∀ k, k < 7 → parseFieldDescriptor (TX3 k).2.2.1 = some (tyX3 k) := by decide +kernel
abbrev cX3_init : ByteArray := prog_1_method_1_code
def yX3_init : MethodName := ⟨RX3, "<init>", "()V"⟩
abbrev cX3_set : ByteArray := prog_1_method_2_code
def yX3_set : MethodName := ⟨RX3, "set", "(II)I"⟩
abbrev cX3_write : ByteArray := prog_1_method_3_code
def yX3_write : MethodName := ⟨RX3, "write", "()I"⟩
abbrev cX3_dropLine : ByteArray := prog_1_method_4_code
def yX3_dropLine : MethodName := ⟨RX3, "dropLine", "(I)I"⟩
abbrev cX3_dropPhrase : ByteArray := prog_1_method_5_code
def yX3_dropPhrase : MethodName := ⟨RX3, "dropPhrase", "(I)I"⟩
abbrev cX3_stress : ByteArray := prog_1_method_6_code
def yX3_stress : MethodName := ⟨RX3, "stress", "(IIZ)I"⟩
abbrev cX3_beat : ByteArray := prog_1_method_7_code
def yX3_beat : MethodName := ⟨RX3, "beat", "(III)I"⟩
abbrev cX3_sing : ByteArray := prog_1_method_8_code
def yX3_sing : MethodName := ⟨RX3, "sing", "(I)I"⟩
abbrev cX3_play : ByteArray := prog_1_method_9_code
def yX3_play : MethodName := ⟨RX3, "play", "(I)I"⟩
abbrev cX3_verse : ByteArray := prog_1_method_10_code
def yX3_verse : MethodName := ⟨RX3, "verse", "(III)I"⟩
abbrev cX3_clear : ByteArray := prog_1_method_11_code
def yX3_clear : MethodName := ⟨RX3, "clear", "(Z)I"⟩
abbrev cX3_line : ByteArray := prog_1_method_12_code
def yX3_line : MethodName := ⟨RX3, "line", "(II)I"⟩
abbrev cX3_phrase : ByteArray := prog_1_method_13_code
def yX3_phrase : MethodName := ⟨RX3, "phrase", "(II)I"⟩
abbrev cX3_isStressed : ByteArray := prog_1_method_14_code
def yX3_isStressed : MethodName := ⟨RX3, "isStressed", "(II)I"⟩
abbrev cX3_kindOf : ByteArray := prog_1_method_15_code
def yX3_kindOf : MethodName := ⟨RX3, "kindOf", "(II)I"⟩
abbrev cX3_count : ByteArray := prog_1_method_16_code
def yX3_count : MethodName := ⟨RX3, "count", "(I)I"⟩
abbrev cX3_at : ByteArray := prog_1_method_17_code
def yX3_at : MethodName := ⟨RX3, "at", "(ZI)I"⟩
abbrev cX3_fit : ByteArray := prog_1_method_18_code
def yX3_fit : MethodName := ⟨RX3, "fit", "(III)I"⟩
abbrev cX3_lies : ByteArray := prog_1_method_19_code
def yX3_lies : MethodName := ⟨RX3, "lies", "(IIII)I"⟩
abbrev cX3_whole : ByteArray := prog_1_method_20_code
def yX3_whole : MethodName := ⟨RX3, "whole", "(I)I"⟩
abbrev cX3_bestPhrase : ByteArray := prog_1_method_21_code
def yX3_bestPhrase : MethodName := ⟨RX3, "bestPhrase", "()I"⟩
abbrev cX3_bestChange : ByteArray := prog_1_method_22_code
def yX3_bestChange : MethodName := ⟨RX3, "bestChange", "(III)I"⟩
abbrev cX3_enoughBreath : ByteArray := prog_1_method_23_code
def yX3_enoughBreath : MethodName := ⟨RX3, "enoughBreath", "(II)I"⟩
abbrev cX3_put : ByteArray := prog_1_method_24_code
def yX3_put : MethodName := ⟨RX3, "put", "(J)I"⟩
abbrev cX3_wipe : ByteArray := prog_1_method_25_code
def yX3_wipe : MethodName := ⟨RX3, "wipe", "()I"⟩
abbrev cX3_fault : ByteArray := prog_1_method_26_code
def yX3_fault : MethodName := ⟨RX3, "fault", "()I"⟩
abbrev cX3_undo : ByteArray := prog_1_method_27_code
def yX3_undo : MethodName := ⟨RX3, "undo", "()I"⟩
abbrev cX3_save : ByteArray := prog_1_method_28_code
def yX3_save : MethodName := ⟨RX3, "save", "(I)I"⟩
abbrev cX3_restore : ByteArray := prog_1_method_29_code
def yX3_restore : MethodName := ⟨RX3, "restore", "(I)I"⟩
abbrev cX3_record : ByteArray := prog_1_method_30_code
def yX3_record : MethodName := ⟨RX3, "record", "()V"⟩
abbrev cX3_leastCostOf : ByteArray := prog_1_method_31_code
def yX3_leastCostOf : MethodName := ⟨RX3, "leastCostOf", "(II)I"⟩
abbrev cX3_cheapestPhrase : ByteArray := prog_1_method_32_code
def yX3_cheapestPhrase : MethodName := ⟨RX3, "cheapestPhrase", "(I)I"⟩
def RX4 : String := "BurdenTunesModel"
def TX4 : u_T := fun k => match k with
  | 0 => ("BurdenTunesModel", "state", "[I", true)
  | 1 => ("BurdenTunesModel", "history", "[I", true)
  | 2 => ("BurdenTunesModel", "recorded", "I", false)
  | 3 => ("BurdenTunesModel", "slots", "[I", true)
  | 4 => ("BurdenTunesModel", "isSaved", "[I", true)
  | 5 => ("BurdenTunesModel", "pad", "[I", true)
  | 6 => ("BurdenTunesModel", "padLength", "I", false)
  | 7 => ("BurdenTunesModel", "costs", "[I", true)
  | 8 => ("BurdenTunesModel", "ways", "[I", true)
  | 9 => ("BurdenTunesModel", "leastWays", "[I", true)
  | 10 => ("BurdenTunesModel", "syllables", "I", false)
  | 11 => ("BurdenTunesModel", "stresses", "I", false)
  | 12 => ("BurdenTunesModel", "beats", "I", false)
  | 13 => ("BurdenTunesModel", "strong", "I", false)
  | 14 => ("BurdenTunesModel", "sounding", "I", false)
  | 15 => ("BurdenTunesModel", "breath", "I", false)
  | 16 => ("BurdenTunesModel", "begins", "[I", true)
  | _ => ("BurdenTunesModel", "lengths", "[I", true)
def tyX4 : Nat → FieldType := fun k => match k with
  | 0 => .array .int
  | 1 => .array .int
  | 2 => .int
  | 3 => .array .int
  | 4 => .array .int
  | 5 => .array .int
  | 6 => .int
  | 7 => .array .int
  | 8 => .array .int
  | 9 => .array .int
  | 10 => .int
  | 11 => .int
  | 12 => .int
  | 13 => .int
  | 14 => .int
  | 15 => .int
  | 16 => .array .int
  | _ => .array .int
abbrev wsX40 : List Cond := u_ws RX4 TX4 18
theorem nmX4 : ∀ a, a < 18 → ∀ b, b < 18 → a ≠ b → (TX4 a).2.1 ≠ (TX4 b).2.1 := by decide +kernel
theorem tyX4_ok : ∀ k, k < 18 → parseFieldDescriptor (TX4 k).2.2.1 = some (tyX4 k) := by decide +kernel
abbrev cX4_init : ByteArray := prog_6_method_1_code
def yX4_init : MethodName := ⟨RX4, "<init>", "()V"⟩
abbrev cX4_moves : ByteArray := prog_6_method_3_code
def yX4_moves : MethodName := ⟨RX4, "moves", "([II[II)V"⟩
abbrev cX4_within : ByteArray := prog_6_method_4_code
def yX4_within : MethodName := ⟨RX4, "within", "(III)Z"⟩
abbrev cX4_has : ByteArray := prog_6_method_5_code
def yX4_has : MethodName := ⟨RX4, "has", "(II)Z"⟩
abbrev cX4_bits : ByteArray := prog_6_method_6_code
def yX4_bits : MethodName := ⟨RX4, "bits", "(I)I"⟩
abbrev cX4_record : ByteArray := prog_6_method_7_code
def yX4_record : MethodName := ⟨RX4, "record", "()V"⟩
abbrev cX4_isLine : ByteArray := prog_6_method_8_code
def yX4_isLine : MethodName := ⟨RX4, "isLine", "(I)Z"⟩
abbrev cX4_isPhrase : ByteArray := prog_6_method_9_code
def yX4_isPhrase : MethodName := ⟨RX4, "isPhrase", "(I)Z"⟩
abbrev cX4_lineLength : ByteArray := prog_6_method_10_code
def yX4_lineLength : MethodName := ⟨RX4, "lineLength", "(I)I"⟩
abbrev cX4_phraseLength : ByteArray := prog_6_method_11_code
def yX4_phraseLength : MethodName := ⟨RX4, "phraseLength", "(I)I"⟩
abbrev cX4_isSyllable : ByteArray := prog_6_method_12_code
def yX4_isSyllable : MethodName := ⟨RX4, "isSyllable", "(II)Z"⟩
abbrev cX4_isBeat : ByteArray := prog_6_method_13_code
def yX4_isBeat : MethodName := ⟨RX4, "isBeat", "(II)Z"⟩
abbrev cX4_sungTimes : ByteArray := prog_6_method_14_code
def yX4_sungTimes : MethodName := ⟨RX4, "sungTimes", "(I)I"⟩
abbrev cX4_playedTimes : ByteArray := prog_6_method_15_code
def yX4_playedTimes : MethodName := ⟨RX4, "playedTimes", "(I)I"⟩
abbrev cX4_look : ByteArray := prog_6_method_16_code
def yX4_look : MethodName := ⟨RX4, "look", "(II)V"⟩
abbrev cX4_hurts : ByteArray := prog_6_method_17_code
def yX4_hurts : MethodName := ⟨RX4, "hurts", "(II)Z"⟩
abbrev cX4_costOn : ByteArray := prog_6_method_18_code
def yX4_costOn : MethodName := ⟨RX4, "costOn", "(III)I"⟩
abbrev cX4_costFree : ByteArray := prog_6_method_19_code
def yX4_costFree : MethodName := ⟨RX4, "costFree", "(II)I"⟩
abbrev cX4_capped : ByteArray := prog_6_method_20_code
def yX4_capped : MethodName := ⟨RX4, "capped", "(I)I"⟩
abbrev cX4_takesIn : ByteArray := prog_6_method_21_code
def yX4_takesIn : MethodName := ⟨RX4, "takesIn", "(III)V"⟩
abbrev cX4_findAt : ByteArray := prog_6_method_22_code
def yX4_findAt : MethodName := ⟨RX4, "findAt", "(II)V"⟩
abbrev cX4_findCost : ByteArray := prog_6_method_23_code
def yX4_findCost : MethodName := ⟨RX4, "findCost", "()I"⟩
abbrev cX4_beatsFrom : ByteArray := prog_6_method_24_code
def yX4_beatsFrom : MethodName := ⟨RX4, "beatsFrom", "(II)I"⟩
abbrev cX4_findWay : ByteArray := prog_6_method_25_code
def yX4_findWay : MethodName := ⟨RX4, "findWay", "()V"⟩
abbrev cX4_costOf : ByteArray := prog_6_method_26_code
def yX4_costOf : MethodName := ⟨RX4, "costOf", "(II)I"⟩
abbrev cX4_freeBeats : ByteArray := prog_6_method_27_code
def yX4_freeBeats : MethodName := ⟨RX4, "freeBeats", "()I"⟩
abbrev cX4_hurting : ByteArray := prog_6_method_28_code
def yX4_hurting : MethodName := ⟨RX4, "hurting", "()I"⟩
abbrev cX4_isValue : ByteArray := prog_6_method_29_code
def yX4_isValue : MethodName := ⟨RX4, "isValue", "(II)Z"⟩
abbrev cX4_set : ByteArray := prog_6_method_30_code
def yX4_set : MethodName := ⟨RX4, "set", "(II)I"⟩
abbrev cX4_parts : ByteArray := prog_6_method_31_code
def yX4_parts : MethodName := ⟨RX4, "parts", "(Z)I"⟩
abbrev cX4_writeLine : ByteArray := prog_6_method_32_code
def yX4_writeLine : MethodName := ⟨RX4, "writeLine", "(I)I"⟩
abbrev cX4_writePhrase : ByteArray := prog_6_method_33_code
def yX4_writePhrase : MethodName := ⟨RX4, "writePhrase", "(I)I"⟩
abbrev cX4_write : ByteArray := prog_6_method_34_code
def yX4_write : MethodName := ⟨RX4, "write", "()I"⟩
abbrev cX4_goes : ByteArray := prog_6_method_35_code
def yX4_goes : MethodName := ⟨RX4, "goes", "(III)I"⟩
abbrev cX4_dropLine : ByteArray := prog_6_method_36_code
def yX4_dropLine : MethodName := ⟨RX4, "dropLine", "(I)I"⟩
abbrev cX4_dropPhrase : ByteArray := prog_6_method_37_code
def yX4_dropPhrase : MethodName := ⟨RX4, "dropPhrase", "(I)I"⟩
abbrev cX4_stress : ByteArray := prog_6_method_38_code
def yX4_stress : MethodName := ⟨RX4, "stress", "(IIZ)I"⟩
abbrev cX4_kindAt : ByteArray := prog_6_method_39_code
def yX4_kindAt : MethodName := ⟨RX4, "kindAt", "(II)I"⟩
abbrev cX4_beat : ByteArray := prog_6_method_40_code
def yX4_beat : MethodName := ⟨RX4, "beat", "(III)I"⟩
abbrev cX4_sings : ByteArray := prog_6_method_41_code
def yX4_sings : MethodName := ⟨RX4, "sings", "(I)V"⟩
abbrev cX4_sing : ByteArray := prog_6_method_42_code
def yX4_sing : MethodName := ⟨RX4, "sing", "(I)I"⟩
abbrev cX4_play : ByteArray := prog_6_method_43_code
def yX4_play : MethodName := ⟨RX4, "play", "(I)I"⟩
abbrev cX4_verse : ByteArray := prog_6_method_44_code
def yX4_verse : MethodName := ⟨RX4, "verse", "(III)I"⟩
abbrev cX4_clear : ByteArray := prog_6_method_45_code
def yX4_clear : MethodName := ⟨RX4, "clear", "(Z)I"⟩
abbrev cX4_cheapestPhrase : ByteArray := prog_6_method_46_code
def yX4_cheapestPhrase : MethodName := ⟨RX4, "cheapestPhrase", "(I)I"⟩
abbrev cX4_line : ByteArray := prog_6_method_47_code
def yX4_line : MethodName := ⟨RX4, "line", "(II)I"⟩
abbrev cX4_longestRow : ByteArray := prog_6_method_48_code
def yX4_longestRow : MethodName := ⟨RX4, "longestRow", "(I)I"⟩
abbrev cX4_phrase : ByteArray := prog_6_method_49_code
def yX4_phrase : MethodName := ⟨RX4, "phrase", "(II)I"⟩
abbrev cX4_isStressed : ByteArray := prog_6_method_50_code
def yX4_isStressed : MethodName := ⟨RX4, "isStressed", "(II)I"⟩
abbrev cX4_kindOf : ByteArray := prog_6_method_51_code
def yX4_kindOf : MethodName := ⟨RX4, "kindOf", "(II)I"⟩
abbrev cX4_burdens : ByteArray := prog_6_method_52_code
def yX4_burdens : MethodName := ⟨RX4, "burdens", "()I"⟩
abbrev cX4_count : ByteArray := prog_6_method_53_code
def yX4_count : MethodName := ⟨RX4, "count", "(I)I"⟩
abbrev cX4_at : ByteArray := prog_6_method_54_code
def yX4_at : MethodName := ⟨RX4, "at", "(ZI)I"⟩
abbrev cX4_fit : ByteArray := prog_6_method_55_code
def yX4_fit : MethodName := ⟨RX4, "fit", "(III)I"⟩
abbrev cX4_lies : ByteArray := prog_6_method_56_code
def yX4_lies : MethodName := ⟨RX4, "lies", "(IIII)I"⟩
abbrev cX4_phraseFor : ByteArray := prog_6_method_57_code
def yX4_phraseFor : MethodName := ⟨RX4, "phraseFor", "(I)I"⟩
abbrev cX4_whole : ByteArray := prog_6_method_58_code
def yX4_whole : MethodName := ⟨RX4, "whole", "(I)I"⟩
abbrev cX4_bestPhrase : ByteArray := prog_6_method_59_code
def yX4_bestPhrase : MethodName := ⟨RX4, "bestPhrase", "()I"⟩
abbrev cX4_bestChange : ByteArray := prog_6_method_60_code
def yX4_bestChange : MethodName := ⟨RX4, "bestChange", "(III)I"⟩
abbrev cX4_enoughBreath : ByteArray := prog_6_method_61_code
def yX4_enoughBreath : MethodName := ⟨RX4, "enoughBreath", "(II)I"⟩
abbrev cX4_put : ByteArray := prog_6_method_62_code
def yX4_put : MethodName := ⟨RX4, "put", "(J)I"⟩
abbrev cX4_wipe : ByteArray := prog_6_method_63_code
def yX4_wipe : MethodName := ⟨RX4, "wipe", "()I"⟩
abbrev cX4_findFault : ByteArray := prog_6_method_64_code
def yX4_findFault : MethodName := ⟨RX4, "findFault", "()I"⟩
abbrev cX4_fault : ByteArray := prog_6_method_65_code
def yX4_fault : MethodName := ⟨RX4, "fault", "()I"⟩
abbrev cX4_undo : ByteArray := prog_6_method_66_code
def yX4_undo : MethodName := ⟨RX4, "undo", "()I"⟩
abbrev cX4_save : ByteArray := prog_6_method_67_code
def yX4_save : MethodName := ⟨RX4, "save", "(I)I"⟩
abbrev cX4_restore : ByteArray := prog_6_method_68_code
def yX4_restore : MethodName := ⟨RX4, "restore", "(I)I"⟩
def RJ9 : String := "java/lang/Math"
def TJ9 : u_T := fun k => match k with
  | _ => ("", "", "", false)
def tyJ9 : Nat → FieldType := fun k => match k with
  | _ => .int
abbrev cJ9_max_7cf53 : ByteArray := prog_7_method_65_code
def yJ9_max_7cf53 : MethodName := ⟨RJ9, "max", "(II)I"⟩
abbrev cJ9_min_7cf53 : ByteArray := prog_7_method_69_code
def yJ9_min_7cf53 : MethodName := ⟨RJ9, "min", "(II)I"⟩
def RJ10 : String := "java/lang/System"
def TJ10 : u_T := fun k => match k with
  | _ => ("", "", "", false)
def tyJ10 : Nat → FieldType := fun k => match k with
  | _ => .int
def RL : String := "BurdenTunesLaw"
abbrev cL_law : ByteArray := code
def yL_law : MethodName := ⟨RL, "law", "([I)Z"⟩
end
section
theorem dL_law_0 : decode cL_law 0 = .ok (.new 7, 3) := by decide +kernel
theorem dL_law_3 : decode cL_law 3 = .ok (.dup, 1) := by decide +kernel
theorem dL_law_4 : decode cL_law 4 = .ok (.invokespecial 9, 3) := by decide +kernel
theorem dL_law_7 : decode cL_law 7 = .ok (.astore_n 1, 1) := by decide +kernel
theorem dL_law_8 : decode cL_law 8 = .ok (.new 10, 3) := by decide +kernel
theorem dL_law_11 : decode cL_law 11 = .ok (.dup, 1) := by decide +kernel
theorem dL_law_12 : decode cL_law 12 = .ok (.invokespecial 12, 3) := by decide +kernel
theorem dL_law_15 : decode cL_law 15 = .ok (.astore_n 2, 1) := by decide +kernel
theorem dL_law_16 : decode cL_law 16 = .ok (.iconst 0, 1) := by decide +kernel
theorem dL_law_17 : decode cL_law 17 = .ok (.istore_n 3, 1) := by decide +kernel
theorem dL_law_18 : decode cL_law 18 = .ok (.iload_n 3, 1) := by decide +kernel
theorem dL_law_19 : decode cL_law 19 = .ok (.aload_n 0, 1) := by decide +kernel
theorem dL_law_20 : decode cL_law 20 = .ok (.arraylength, 1) := by decide +kernel
theorem dL_law_21 : decode cL_law 21 = .ok (.iconst 5, 1) := by decide +kernel
theorem dL_law_22 : decode cL_law 22 = .ok (.isub, 1) := by decide +kernel
theorem dL_law_23 : decode cL_law 23 = .ok (.if_icmp .gt 1015, 3) := by decide +kernel
theorem dL_law_26 : decode cL_law 26 = .ok (.aload_n 0, 1) := by decide +kernel
theorem dL_law_27 : decode cL_law 27 = .ok (.iload_n 3, 1) := by decide +kernel
theorem dL_law_28 : decode cL_law 28 = .ok (.iaload, 1) := by decide +kernel
theorem dL_law_29 : decode cL_law 29 = .ok (.bipush 31, 2) := by decide +kernel
theorem dL_law_31 : decode cL_law 31 = .ok (.iand, 1) := by decide +kernel
theorem dL_law_32 : decode cL_law 32 = .ok (.tableswitch 1000 0 27 #[128, 161, 174, 197, 220, 279, 322, 345, 368, 411, 450, 483, 516, 549, 582, 605, 654, 697, 750, 773, 786, 829, 862, 915, 928, 941, 954, 977], 128) := by decide +kernel
theorem dL_law_160 : decode cL_law 160 = .ok (.aload_n 1, 1) := by decide +kernel
theorem dL_law_161 : decode cL_law 161 = .ok (.aload_n 0, 1) := by decide +kernel
theorem dL_law_162 : decode cL_law 162 = .ok (.iload_n 3, 1) := by decide +kernel
theorem dL_law_163 : decode cL_law 163 = .ok (.iconst 1, 1) := by decide +kernel
theorem dL_law_164 : decode cL_law 164 = .ok (.iadd, 1) := by decide +kernel
theorem dL_law_165 : decode cL_law 165 = .ok (.iaload, 1) := by decide +kernel
theorem dL_law_166 : decode cL_law 166 = .ok (.aload_n 0, 1) := by decide +kernel
theorem dL_law_167 : decode cL_law 167 = .ok (.iload_n 3, 1) := by decide +kernel
theorem dL_law_168 : decode cL_law 168 = .ok (.iconst 2, 1) := by decide +kernel
theorem dL_law_169 : decode cL_law 169 = .ok (.iadd, 1) := by decide +kernel
theorem dL_law_170 : decode cL_law 170 = .ok (.iaload, 1) := by decide +kernel
theorem dL_law_171 : decode cL_law 171 = .ok (.invokevirtual 13, 3) := by decide +kernel
theorem dL_law_174 : decode cL_law 174 = .ok (.aload_n 2, 1) := by decide +kernel
theorem dL_law_175 : decode cL_law 175 = .ok (.aload_n 0, 1) := by decide +kernel
theorem dL_law_176 : decode cL_law 176 = .ok (.iload_n 3, 1) := by decide +kernel
theorem dL_law_177 : decode cL_law 177 = .ok (.iconst 1, 1) := by decide +kernel
theorem dL_law_178 : decode cL_law 178 = .ok (.iadd, 1) := by decide +kernel
theorem dL_law_179 : decode cL_law 179 = .ok (.iaload, 1) := by decide +kernel
theorem dL_law_180 : decode cL_law 180 = .ok (.aload_n 0, 1) := by decide +kernel
theorem dL_law_181 : decode cL_law 181 = .ok (.iload_n 3, 1) := by decide +kernel
theorem dL_law_182 : decode cL_law 182 = .ok (.iconst 2, 1) := by decide +kernel
theorem dL_law_183 : decode cL_law 183 = .ok (.iadd, 1) := by decide +kernel
theorem dL_law_184 : decode cL_law 184 = .ok (.iaload, 1) := by decide +kernel
theorem dL_law_185 : decode cL_law 185 = .ok (.invokevirtual 17, 3) := by decide +kernel
theorem dL_law_188 : decode cL_law 188 = .ok (.if_icmp .eq 844, 3) := by decide +kernel
theorem dL_law_191 : decode cL_law 191 = .ok (.iconst 0, 1) := by decide +kernel
theorem dL_law_192 : decode cL_law 192 = .ok (.ireturn, 1) := by decide +kernel
theorem dL_law_193 : decode cL_law 193 = .ok (.aload_n 1, 1) := by decide +kernel
theorem dL_law_194 : decode cL_law 194 = .ok (.invokevirtual 18, 3) := by decide +kernel
theorem dL_law_197 : decode cL_law 197 = .ok (.aload_n 2, 1) := by decide +kernel
theorem dL_law_198 : decode cL_law 198 = .ok (.invokevirtual 22, 3) := by decide +kernel
theorem dL_law_201 : decode cL_law 201 = .ok (.if_icmp .eq 831, 3) := by decide +kernel
theorem dL_law_204 : decode cL_law 204 = .ok (.iconst 0, 1) := by decide +kernel
theorem dL_law_205 : decode cL_law 205 = .ok (.ireturn, 1) := by decide +kernel
theorem dL_law_206 : decode cL_law 206 = .ok (.aload_n 1, 1) := by decide +kernel
theorem dL_law_207 : decode cL_law 207 = .ok (.aload_n 0, 1) := by decide +kernel
theorem dL_law_208 : decode cL_law 208 = .ok (.iload_n 3, 1) := by decide +kernel
theorem dL_law_209 : decode cL_law 209 = .ok (.iconst 1, 1) := by decide +kernel
theorem dL_law_210 : decode cL_law 210 = .ok (.iadd, 1) := by decide +kernel
theorem dL_law_211 : decode cL_law 211 = .ok (.iaload, 1) := by decide +kernel
theorem dL_law_212 : decode cL_law 212 = .ok (.invokevirtual 23, 3) := by decide +kernel
theorem dL_law_215 : decode cL_law 215 = .ok (.aload_n 2, 1) := by decide +kernel
theorem dL_law_216 : decode cL_law 216 = .ok (.aload_n 0, 1) := by decide +kernel
theorem dL_law_217 : decode cL_law 217 = .ok (.iload_n 3, 1) := by decide +kernel
theorem dL_law_218 : decode cL_law 218 = .ok (.iconst 1, 1) := by decide +kernel
theorem dL_law_219 : decode cL_law 219 = .ok (.iadd, 1) := by decide +kernel
theorem dL_law_220 : decode cL_law 220 = .ok (.iaload, 1) := by decide +kernel
theorem dL_law_221 : decode cL_law 221 = .ok (.invokevirtual 27, 3) := by decide +kernel
theorem dL_law_224 : decode cL_law 224 = .ok (.if_icmp .eq 808, 3) := by decide +kernel
theorem dL_law_227 : decode cL_law 227 = .ok (.iconst 0, 1) := by decide +kernel
theorem dL_law_228 : decode cL_law 228 = .ok (.ireturn, 1) := by decide +kernel
theorem dL_law_229 : decode cL_law 229 = .ok (.aload_n 1, 1) := by decide +kernel
theorem dL_law_230 : decode cL_law 230 = .ok (.aload_n 0, 1) := by decide +kernel
theorem dL_law_231 : decode cL_law 231 = .ok (.iload_n 3, 1) := by decide +kernel
theorem dL_law_232 : decode cL_law 232 = .ok (.iconst 1, 1) := by decide +kernel
theorem dL_law_233 : decode cL_law 233 = .ok (.iadd, 1) := by decide +kernel
theorem dL_law_234 : decode cL_law 234 = .ok (.iaload, 1) := by decide +kernel
theorem dL_law_235 : decode cL_law 235 = .ok (.invokevirtual 28, 3) := by decide +kernel
theorem dL_law_238 : decode cL_law 238 = .ok (.aload_n 2, 1) := by decide +kernel
theorem dL_law_239 : decode cL_law 239 = .ok (.aload_n 0, 1) := by decide +kernel
theorem dL_law_240 : decode cL_law 240 = .ok (.iload_n 3, 1) := by decide +kernel
theorem dL_law_241 : decode cL_law 241 = .ok (.iconst 1, 1) := by decide +kernel
theorem dL_law_242 : decode cL_law 242 = .ok (.iadd, 1) := by decide +kernel
theorem dL_law_243 : decode cL_law 243 = .ok (.iaload, 1) := by decide +kernel
theorem dL_law_244 : decode cL_law 244 = .ok (.invokevirtual 31, 3) := by decide +kernel
theorem dL_law_247 : decode cL_law 247 = .ok (.if_icmp .eq 785, 3) := by decide +kernel
theorem dL_law_250 : decode cL_law 250 = .ok (.iconst 0, 1) := by decide +kernel
theorem dL_law_251 : decode cL_law 251 = .ok (.ireturn, 1) := by decide +kernel
theorem dL_law_252 : decode cL_law 252 = .ok (.aload_n 1, 1) := by decide +kernel
theorem dL_law_253 : decode cL_law 253 = .ok (.aload_n 0, 1) := by decide +kernel
theorem dL_law_254 : decode cL_law 254 = .ok (.iload_n 3, 1) := by decide +kernel
theorem dL_law_255 : decode cL_law 255 = .ok (.iconst 1, 1) := by decide +kernel
theorem dL_law_256 : decode cL_law 256 = .ok (.iadd, 1) := by decide +kernel
theorem dL_law_257 : decode cL_law 257 = .ok (.iaload, 1) := by decide +kernel
theorem dL_law_258 : decode cL_law 258 = .ok (.aload_n 0, 1) := by decide +kernel
theorem dL_law_259 : decode cL_law 259 = .ok (.iload_n 3, 1) := by decide +kernel
theorem dL_law_260 : decode cL_law 260 = .ok (.iconst 2, 1) := by decide +kernel
theorem dL_law_261 : decode cL_law 261 = .ok (.iadd, 1) := by decide +kernel
theorem dL_law_262 : decode cL_law 262 = .ok (.iaload, 1) := by decide +kernel
theorem dL_law_263 : decode cL_law 263 = .ok (.aload_n 0, 1) := by decide +kernel
theorem dL_law_264 : decode cL_law 264 = .ok (.iload_n 3, 1) := by decide +kernel
theorem dL_law_265 : decode cL_law 265 = .ok (.iconst 3, 1) := by decide +kernel
theorem dL_law_266 : decode cL_law 266 = .ok (.iadd, 1) := by decide +kernel
theorem dL_law_267 : decode cL_law 267 = .ok (.iaload, 1) := by decide +kernel
theorem dL_law_268 : decode cL_law 268 = .ok (.ifCond .eq 7, 3) := by decide +kernel
theorem dL_law_271 : decode cL_law 271 = .ok (.iconst 1, 1) := by decide +kernel
theorem dL_law_272 : decode cL_law 272 = .ok (.goto 4, 3) := by decide +kernel
theorem dL_law_275 : decode cL_law 275 = .ok (.iconst 0, 1) := by decide +kernel
theorem dL_law_276 : decode cL_law 276 = .ok (.invokevirtual 32, 3) := by decide +kernel
theorem dL_law_279 : decode cL_law 279 = .ok (.aload_n 2, 1) := by decide +kernel
theorem dL_law_280 : decode cL_law 280 = .ok (.aload_n 0, 1) := by decide +kernel
theorem dL_law_281 : decode cL_law 281 = .ok (.iload_n 3, 1) := by decide +kernel
theorem dL_law_282 : decode cL_law 282 = .ok (.iconst 1, 1) := by decide +kernel
theorem dL_law_283 : decode cL_law 283 = .ok (.iadd, 1) := by decide +kernel
theorem dL_law_284 : decode cL_law 284 = .ok (.iaload, 1) := by decide +kernel
theorem dL_law_285 : decode cL_law 285 = .ok (.aload_n 0, 1) := by decide +kernel
theorem dL_law_286 : decode cL_law 286 = .ok (.iload_n 3, 1) := by decide +kernel
theorem dL_law_287 : decode cL_law 287 = .ok (.iconst 2, 1) := by decide +kernel
theorem dL_law_288 : decode cL_law 288 = .ok (.iadd, 1) := by decide +kernel
theorem dL_law_289 : decode cL_law 289 = .ok (.iaload, 1) := by decide +kernel
theorem dL_law_290 : decode cL_law 290 = .ok (.aload_n 0, 1) := by decide +kernel
theorem dL_law_291 : decode cL_law 291 = .ok (.iload_n 3, 1) := by decide +kernel
theorem dL_law_292 : decode cL_law 292 = .ok (.iconst 3, 1) := by decide +kernel
theorem dL_law_293 : decode cL_law 293 = .ok (.iadd, 1) := by decide +kernel
theorem dL_law_294 : decode cL_law 294 = .ok (.iaload, 1) := by decide +kernel
theorem dL_law_295 : decode cL_law 295 = .ok (.ifCond .eq 7, 3) := by decide +kernel
theorem dL_law_298 : decode cL_law 298 = .ok (.iconst 1, 1) := by decide +kernel
theorem dL_law_299 : decode cL_law 299 = .ok (.goto 4, 3) := by decide +kernel
theorem dL_law_302 : decode cL_law 302 = .ok (.iconst 0, 1) := by decide +kernel
theorem dL_law_303 : decode cL_law 303 = .ok (.invokevirtual 36, 3) := by decide +kernel
theorem dL_law_306 : decode cL_law 306 = .ok (.if_icmp .eq 726, 3) := by decide +kernel
theorem dL_law_309 : decode cL_law 309 = .ok (.iconst 0, 1) := by decide +kernel
theorem dL_law_310 : decode cL_law 310 = .ok (.ireturn, 1) := by decide +kernel
theorem dL_law_311 : decode cL_law 311 = .ok (.aload_n 1, 1) := by decide +kernel
theorem dL_law_312 : decode cL_law 312 = .ok (.aload_n 0, 1) := by decide +kernel
theorem dL_law_313 : decode cL_law 313 = .ok (.iload_n 3, 1) := by decide +kernel
theorem dL_law_314 : decode cL_law 314 = .ok (.iconst 1, 1) := by decide +kernel
theorem dL_law_315 : decode cL_law 315 = .ok (.iadd, 1) := by decide +kernel
theorem dL_law_316 : decode cL_law 316 = .ok (.iaload, 1) := by decide +kernel
theorem dL_law_317 : decode cL_law 317 = .ok (.aload_n 0, 1) := by decide +kernel
theorem dL_law_318 : decode cL_law 318 = .ok (.iload_n 3, 1) := by decide +kernel
theorem dL_law_319 : decode cL_law 319 = .ok (.iconst 2, 1) := by decide +kernel
theorem dL_law_320 : decode cL_law 320 = .ok (.iadd, 1) := by decide +kernel
theorem dL_law_321 : decode cL_law 321 = .ok (.iaload, 1) := by decide +kernel
theorem dL_law_322 : decode cL_law 322 = .ok (.aload_n 0, 1) := by decide +kernel
theorem dL_law_323 : decode cL_law 323 = .ok (.iload_n 3, 1) := by decide +kernel
theorem dL_law_324 : decode cL_law 324 = .ok (.iconst 3, 1) := by decide +kernel
theorem dL_law_325 : decode cL_law 325 = .ok (.iadd, 1) := by decide +kernel
theorem dL_law_326 : decode cL_law 326 = .ok (.iaload, 1) := by decide +kernel
theorem dL_law_327 : decode cL_law 327 = .ok (.invokevirtual 37, 3) := by decide +kernel
theorem dL_law_330 : decode cL_law 330 = .ok (.aload_n 2, 1) := by decide +kernel
theorem dL_law_331 : decode cL_law 331 = .ok (.aload_n 0, 1) := by decide +kernel
theorem dL_law_332 : decode cL_law 332 = .ok (.iload_n 3, 1) := by decide +kernel
theorem dL_law_333 : decode cL_law 333 = .ok (.iconst 1, 1) := by decide +kernel
theorem dL_law_334 : decode cL_law 334 = .ok (.iadd, 1) := by decide +kernel
theorem dL_law_335 : decode cL_law 335 = .ok (.iaload, 1) := by decide +kernel
theorem dL_law_336 : decode cL_law 336 = .ok (.aload_n 0, 1) := by decide +kernel
theorem dL_law_337 : decode cL_law 337 = .ok (.iload_n 3, 1) := by decide +kernel
theorem dL_law_338 : decode cL_law 338 = .ok (.iconst 2, 1) := by decide +kernel
theorem dL_law_339 : decode cL_law 339 = .ok (.iadd, 1) := by decide +kernel
theorem dL_law_340 : decode cL_law 340 = .ok (.iaload, 1) := by decide +kernel
theorem dL_law_341 : decode cL_law 341 = .ok (.aload_n 0, 1) := by decide +kernel
theorem dL_law_342 : decode cL_law 342 = .ok (.iload_n 3, 1) := by decide +kernel
theorem dL_law_343 : decode cL_law 343 = .ok (.iconst 3, 1) := by decide +kernel
theorem dL_law_344 : decode cL_law 344 = .ok (.iadd, 1) := by decide +kernel
theorem dL_law_345 : decode cL_law 345 = .ok (.iaload, 1) := by decide +kernel
theorem dL_law_346 : decode cL_law 346 = .ok (.invokevirtual 41, 3) := by decide +kernel
theorem dL_law_349 : decode cL_law 349 = .ok (.if_icmp .eq 683, 3) := by decide +kernel
theorem dL_law_352 : decode cL_law 352 = .ok (.iconst 0, 1) := by decide +kernel
theorem dL_law_353 : decode cL_law 353 = .ok (.ireturn, 1) := by decide +kernel
theorem dL_law_354 : decode cL_law 354 = .ok (.aload_n 1, 1) := by decide +kernel
theorem dL_law_355 : decode cL_law 355 = .ok (.aload_n 0, 1) := by decide +kernel
theorem dL_law_356 : decode cL_law 356 = .ok (.iload_n 3, 1) := by decide +kernel
theorem dL_law_357 : decode cL_law 357 = .ok (.iconst 1, 1) := by decide +kernel
theorem dL_law_358 : decode cL_law 358 = .ok (.iadd, 1) := by decide +kernel
theorem dL_law_359 : decode cL_law 359 = .ok (.iaload, 1) := by decide +kernel
theorem dL_law_360 : decode cL_law 360 = .ok (.invokevirtual 42, 3) := by decide +kernel
theorem dL_law_363 : decode cL_law 363 = .ok (.aload_n 2, 1) := by decide +kernel
theorem dL_law_364 : decode cL_law 364 = .ok (.aload_n 0, 1) := by decide +kernel
theorem dL_law_365 : decode cL_law 365 = .ok (.iload_n 3, 1) := by decide +kernel
theorem dL_law_366 : decode cL_law 366 = .ok (.iconst 1, 1) := by decide +kernel
theorem dL_law_367 : decode cL_law 367 = .ok (.iadd, 1) := by decide +kernel
theorem dL_law_368 : decode cL_law 368 = .ok (.iaload, 1) := by decide +kernel
theorem dL_law_369 : decode cL_law 369 = .ok (.invokevirtual 45, 3) := by decide +kernel
theorem dL_law_372 : decode cL_law 372 = .ok (.if_icmp .eq 660, 3) := by decide +kernel
theorem dL_law_375 : decode cL_law 375 = .ok (.iconst 0, 1) := by decide +kernel
theorem dL_law_376 : decode cL_law 376 = .ok (.ireturn, 1) := by decide +kernel
theorem dL_law_377 : decode cL_law 377 = .ok (.aload_n 1, 1) := by decide +kernel
theorem dL_law_378 : decode cL_law 378 = .ok (.aload_n 0, 1) := by decide +kernel
theorem dL_law_379 : decode cL_law 379 = .ok (.iload_n 3, 1) := by decide +kernel
theorem dL_law_380 : decode cL_law 380 = .ok (.iconst 1, 1) := by decide +kernel
theorem dL_law_381 : decode cL_law 381 = .ok (.iadd, 1) := by decide +kernel
theorem dL_law_382 : decode cL_law 382 = .ok (.iaload, 1) := by decide +kernel
theorem dL_law_383 : decode cL_law 383 = .ok (.invokevirtual 46, 3) := by decide +kernel
theorem dL_law_386 : decode cL_law 386 = .ok (.aload_n 2, 1) := by decide +kernel
theorem dL_law_387 : decode cL_law 387 = .ok (.aload_n 0, 1) := by decide +kernel
theorem dL_law_388 : decode cL_law 388 = .ok (.iload_n 3, 1) := by decide +kernel
theorem dL_law_389 : decode cL_law 389 = .ok (.iconst 1, 1) := by decide +kernel
theorem dL_law_390 : decode cL_law 390 = .ok (.iadd, 1) := by decide +kernel
theorem dL_law_391 : decode cL_law 391 = .ok (.iaload, 1) := by decide +kernel
theorem dL_law_392 : decode cL_law 392 = .ok (.invokevirtual 49, 3) := by decide +kernel
theorem dL_law_395 : decode cL_law 395 = .ok (.if_icmp .eq 637, 3) := by decide +kernel
theorem dL_law_398 : decode cL_law 398 = .ok (.iconst 0, 1) := by decide +kernel
theorem dL_law_399 : decode cL_law 399 = .ok (.ireturn, 1) := by decide +kernel
theorem dL_law_400 : decode cL_law 400 = .ok (.aload_n 1, 1) := by decide +kernel
theorem dL_law_401 : decode cL_law 401 = .ok (.aload_n 0, 1) := by decide +kernel
theorem dL_law_402 : decode cL_law 402 = .ok (.iload_n 3, 1) := by decide +kernel
theorem dL_law_403 : decode cL_law 403 = .ok (.iconst 1, 1) := by decide +kernel
theorem dL_law_404 : decode cL_law 404 = .ok (.iadd, 1) := by decide +kernel
theorem dL_law_405 : decode cL_law 405 = .ok (.iaload, 1) := by decide +kernel
theorem dL_law_406 : decode cL_law 406 = .ok (.aload_n 0, 1) := by decide +kernel
theorem dL_law_407 : decode cL_law 407 = .ok (.iload_n 3, 1) := by decide +kernel
theorem dL_law_408 : decode cL_law 408 = .ok (.iconst 2, 1) := by decide +kernel
theorem dL_law_409 : decode cL_law 409 = .ok (.iadd, 1) := by decide +kernel
theorem dL_law_410 : decode cL_law 410 = .ok (.iaload, 1) := by decide +kernel
theorem dL_law_411 : decode cL_law 411 = .ok (.aload_n 0, 1) := by decide +kernel
theorem dL_law_412 : decode cL_law 412 = .ok (.iload_n 3, 1) := by decide +kernel
theorem dL_law_413 : decode cL_law 413 = .ok (.iconst 3, 1) := by decide +kernel
theorem dL_law_414 : decode cL_law 414 = .ok (.iadd, 1) := by decide +kernel
theorem dL_law_415 : decode cL_law 415 = .ok (.iaload, 1) := by decide +kernel
theorem dL_law_416 : decode cL_law 416 = .ok (.invokevirtual 50, 3) := by decide +kernel
theorem dL_law_419 : decode cL_law 419 = .ok (.aload_n 2, 1) := by decide +kernel
theorem dL_law_420 : decode cL_law 420 = .ok (.aload_n 0, 1) := by decide +kernel
theorem dL_law_421 : decode cL_law 421 = .ok (.iload_n 3, 1) := by decide +kernel
theorem dL_law_422 : decode cL_law 422 = .ok (.iconst 1, 1) := by decide +kernel
theorem dL_law_423 : decode cL_law 423 = .ok (.iadd, 1) := by decide +kernel
theorem dL_law_424 : decode cL_law 424 = .ok (.iaload, 1) := by decide +kernel
theorem dL_law_425 : decode cL_law 425 = .ok (.aload_n 0, 1) := by decide +kernel
theorem dL_law_426 : decode cL_law 426 = .ok (.iload_n 3, 1) := by decide +kernel
theorem dL_law_427 : decode cL_law 427 = .ok (.iconst 2, 1) := by decide +kernel
theorem dL_law_428 : decode cL_law 428 = .ok (.iadd, 1) := by decide +kernel
theorem dL_law_429 : decode cL_law 429 = .ok (.iaload, 1) := by decide +kernel
theorem dL_law_430 : decode cL_law 430 = .ok (.aload_n 0, 1) := by decide +kernel
theorem dL_law_431 : decode cL_law 431 = .ok (.iload_n 3, 1) := by decide +kernel
theorem dL_law_432 : decode cL_law 432 = .ok (.iconst 3, 1) := by decide +kernel
theorem dL_law_433 : decode cL_law 433 = .ok (.iadd, 1) := by decide +kernel
theorem dL_law_434 : decode cL_law 434 = .ok (.iaload, 1) := by decide +kernel
theorem dL_law_435 : decode cL_law 435 = .ok (.invokevirtual 53, 3) := by decide +kernel
theorem dL_law_438 : decode cL_law 438 = .ok (.if_icmp .eq 594, 3) := by decide +kernel
theorem dL_law_441 : decode cL_law 441 = .ok (.iconst 0, 1) := by decide +kernel
theorem dL_law_442 : decode cL_law 442 = .ok (.ireturn, 1) := by decide +kernel
theorem dL_law_443 : decode cL_law 443 = .ok (.aload_n 1, 1) := by decide +kernel
theorem dL_law_444 : decode cL_law 444 = .ok (.aload_n 0, 1) := by decide +kernel
theorem dL_law_445 : decode cL_law 445 = .ok (.iload_n 3, 1) := by decide +kernel
theorem dL_law_446 : decode cL_law 446 = .ok (.iconst 1, 1) := by decide +kernel
theorem dL_law_447 : decode cL_law 447 = .ok (.iadd, 1) := by decide +kernel
theorem dL_law_448 : decode cL_law 448 = .ok (.iaload, 1) := by decide +kernel
theorem dL_law_449 : decode cL_law 449 = .ok (.ifCond .eq 7, 3) := by decide +kernel
theorem dL_law_452 : decode cL_law 452 = .ok (.iconst 1, 1) := by decide +kernel
theorem dL_law_453 : decode cL_law 453 = .ok (.goto 4, 3) := by decide +kernel
theorem dL_law_456 : decode cL_law 456 = .ok (.iconst 0, 1) := by decide +kernel
theorem dL_law_457 : decode cL_law 457 = .ok (.invokevirtual 54, 3) := by decide +kernel
theorem dL_law_460 : decode cL_law 460 = .ok (.aload_n 2, 1) := by decide +kernel
theorem dL_law_461 : decode cL_law 461 = .ok (.aload_n 0, 1) := by decide +kernel
theorem dL_law_462 : decode cL_law 462 = .ok (.iload_n 3, 1) := by decide +kernel
theorem dL_law_463 : decode cL_law 463 = .ok (.iconst 1, 1) := by decide +kernel
theorem dL_law_464 : decode cL_law 464 = .ok (.iadd, 1) := by decide +kernel
theorem dL_law_465 : decode cL_law 465 = .ok (.iaload, 1) := by decide +kernel
theorem dL_law_466 : decode cL_law 466 = .ok (.ifCond .eq 7, 3) := by decide +kernel
theorem dL_law_469 : decode cL_law 469 = .ok (.iconst 1, 1) := by decide +kernel
theorem dL_law_470 : decode cL_law 470 = .ok (.goto 4, 3) := by decide +kernel
theorem dL_law_473 : decode cL_law 473 = .ok (.iconst 0, 1) := by decide +kernel
theorem dL_law_474 : decode cL_law 474 = .ok (.invokevirtual 58, 3) := by decide +kernel
theorem dL_law_477 : decode cL_law 477 = .ok (.if_icmp .eq 555, 3) := by decide +kernel
theorem dL_law_480 : decode cL_law 480 = .ok (.iconst 0, 1) := by decide +kernel
theorem dL_law_481 : decode cL_law 481 = .ok (.ireturn, 1) := by decide +kernel
theorem dL_law_482 : decode cL_law 482 = .ok (.aload_n 1, 1) := by decide +kernel
theorem dL_law_483 : decode cL_law 483 = .ok (.aload_n 0, 1) := by decide +kernel
theorem dL_law_484 : decode cL_law 484 = .ok (.iload_n 3, 1) := by decide +kernel
theorem dL_law_485 : decode cL_law 485 = .ok (.iconst 1, 1) := by decide +kernel
theorem dL_law_486 : decode cL_law 486 = .ok (.iadd, 1) := by decide +kernel
theorem dL_law_487 : decode cL_law 487 = .ok (.iaload, 1) := by decide +kernel
theorem dL_law_488 : decode cL_law 488 = .ok (.aload_n 0, 1) := by decide +kernel
theorem dL_law_489 : decode cL_law 489 = .ok (.iload_n 3, 1) := by decide +kernel
theorem dL_law_490 : decode cL_law 490 = .ok (.iconst 2, 1) := by decide +kernel
theorem dL_law_491 : decode cL_law 491 = .ok (.iadd, 1) := by decide +kernel
theorem dL_law_492 : decode cL_law 492 = .ok (.iaload, 1) := by decide +kernel
theorem dL_law_493 : decode cL_law 493 = .ok (.invokevirtual 59, 3) := by decide +kernel
theorem dL_law_496 : decode cL_law 496 = .ok (.aload_n 2, 1) := by decide +kernel
theorem dL_law_497 : decode cL_law 497 = .ok (.aload_n 0, 1) := by decide +kernel
theorem dL_law_498 : decode cL_law 498 = .ok (.iload_n 3, 1) := by decide +kernel
theorem dL_law_499 : decode cL_law 499 = .ok (.iconst 1, 1) := by decide +kernel
theorem dL_law_500 : decode cL_law 500 = .ok (.iadd, 1) := by decide +kernel
theorem dL_law_501 : decode cL_law 501 = .ok (.iaload, 1) := by decide +kernel
theorem dL_law_502 : decode cL_law 502 = .ok (.aload_n 0, 1) := by decide +kernel
theorem dL_law_503 : decode cL_law 503 = .ok (.iload_n 3, 1) := by decide +kernel
theorem dL_law_504 : decode cL_law 504 = .ok (.iconst 2, 1) := by decide +kernel
theorem dL_law_505 : decode cL_law 505 = .ok (.iadd, 1) := by decide +kernel
theorem dL_law_506 : decode cL_law 506 = .ok (.iaload, 1) := by decide +kernel
theorem dL_law_507 : decode cL_law 507 = .ok (.invokevirtual 62, 3) := by decide +kernel
theorem dL_law_510 : decode cL_law 510 = .ok (.if_icmp .eq 522, 3) := by decide +kernel
theorem dL_law_513 : decode cL_law 513 = .ok (.iconst 0, 1) := by decide +kernel
theorem dL_law_514 : decode cL_law 514 = .ok (.ireturn, 1) := by decide +kernel
theorem dL_law_515 : decode cL_law 515 = .ok (.aload_n 1, 1) := by decide +kernel
theorem dL_law_516 : decode cL_law 516 = .ok (.aload_n 0, 1) := by decide +kernel
theorem dL_law_517 : decode cL_law 517 = .ok (.iload_n 3, 1) := by decide +kernel
theorem dL_law_518 : decode cL_law 518 = .ok (.iconst 1, 1) := by decide +kernel
theorem dL_law_519 : decode cL_law 519 = .ok (.iadd, 1) := by decide +kernel
theorem dL_law_520 : decode cL_law 520 = .ok (.iaload, 1) := by decide +kernel
theorem dL_law_521 : decode cL_law 521 = .ok (.aload_n 0, 1) := by decide +kernel
theorem dL_law_522 : decode cL_law 522 = .ok (.iload_n 3, 1) := by decide +kernel
theorem dL_law_523 : decode cL_law 523 = .ok (.iconst 2, 1) := by decide +kernel
theorem dL_law_524 : decode cL_law 524 = .ok (.iadd, 1) := by decide +kernel
theorem dL_law_525 : decode cL_law 525 = .ok (.iaload, 1) := by decide +kernel
theorem dL_law_526 : decode cL_law 526 = .ok (.invokevirtual 63, 3) := by decide +kernel
theorem dL_law_529 : decode cL_law 529 = .ok (.aload_n 2, 1) := by decide +kernel
theorem dL_law_530 : decode cL_law 530 = .ok (.aload_n 0, 1) := by decide +kernel
theorem dL_law_531 : decode cL_law 531 = .ok (.iload_n 3, 1) := by decide +kernel
theorem dL_law_532 : decode cL_law 532 = .ok (.iconst 1, 1) := by decide +kernel
theorem dL_law_533 : decode cL_law 533 = .ok (.iadd, 1) := by decide +kernel
theorem dL_law_534 : decode cL_law 534 = .ok (.iaload, 1) := by decide +kernel
theorem dL_law_535 : decode cL_law 535 = .ok (.aload_n 0, 1) := by decide +kernel
theorem dL_law_536 : decode cL_law 536 = .ok (.iload_n 3, 1) := by decide +kernel
theorem dL_law_537 : decode cL_law 537 = .ok (.iconst 2, 1) := by decide +kernel
theorem dL_law_538 : decode cL_law 538 = .ok (.iadd, 1) := by decide +kernel
theorem dL_law_539 : decode cL_law 539 = .ok (.iaload, 1) := by decide +kernel
theorem dL_law_540 : decode cL_law 540 = .ok (.invokevirtual 66, 3) := by decide +kernel
theorem dL_law_543 : decode cL_law 543 = .ok (.if_icmp .eq 489, 3) := by decide +kernel
theorem dL_law_546 : decode cL_law 546 = .ok (.iconst 0, 1) := by decide +kernel
theorem dL_law_547 : decode cL_law 547 = .ok (.ireturn, 1) := by decide +kernel
theorem dL_law_548 : decode cL_law 548 = .ok (.aload_n 1, 1) := by decide +kernel
theorem dL_law_549 : decode cL_law 549 = .ok (.aload_n 0, 1) := by decide +kernel
theorem dL_law_550 : decode cL_law 550 = .ok (.iload_n 3, 1) := by decide +kernel
theorem dL_law_551 : decode cL_law 551 = .ok (.iconst 1, 1) := by decide +kernel
theorem dL_law_552 : decode cL_law 552 = .ok (.iadd, 1) := by decide +kernel
theorem dL_law_553 : decode cL_law 553 = .ok (.iaload, 1) := by decide +kernel
theorem dL_law_554 : decode cL_law 554 = .ok (.aload_n 0, 1) := by decide +kernel
theorem dL_law_555 : decode cL_law 555 = .ok (.iload_n 3, 1) := by decide +kernel
theorem dL_law_556 : decode cL_law 556 = .ok (.iconst 2, 1) := by decide +kernel
theorem dL_law_557 : decode cL_law 557 = .ok (.iadd, 1) := by decide +kernel
theorem dL_law_558 : decode cL_law 558 = .ok (.iaload, 1) := by decide +kernel
theorem dL_law_559 : decode cL_law 559 = .ok (.invokevirtual 67, 3) := by decide +kernel
theorem dL_law_562 : decode cL_law 562 = .ok (.aload_n 2, 1) := by decide +kernel
theorem dL_law_563 : decode cL_law 563 = .ok (.aload_n 0, 1) := by decide +kernel
theorem dL_law_564 : decode cL_law 564 = .ok (.iload_n 3, 1) := by decide +kernel
theorem dL_law_565 : decode cL_law 565 = .ok (.iconst 1, 1) := by decide +kernel
theorem dL_law_566 : decode cL_law 566 = .ok (.iadd, 1) := by decide +kernel
theorem dL_law_567 : decode cL_law 567 = .ok (.iaload, 1) := by decide +kernel
theorem dL_law_568 : decode cL_law 568 = .ok (.aload_n 0, 1) := by decide +kernel
theorem dL_law_569 : decode cL_law 569 = .ok (.iload_n 3, 1) := by decide +kernel
theorem dL_law_570 : decode cL_law 570 = .ok (.iconst 2, 1) := by decide +kernel
theorem dL_law_571 : decode cL_law 571 = .ok (.iadd, 1) := by decide +kernel
theorem dL_law_572 : decode cL_law 572 = .ok (.iaload, 1) := by decide +kernel
theorem dL_law_573 : decode cL_law 573 = .ok (.invokevirtual 70, 3) := by decide +kernel
theorem dL_law_576 : decode cL_law 576 = .ok (.if_icmp .eq 456, 3) := by decide +kernel
theorem dL_law_579 : decode cL_law 579 = .ok (.iconst 0, 1) := by decide +kernel
theorem dL_law_580 : decode cL_law 580 = .ok (.ireturn, 1) := by decide +kernel
theorem dL_law_581 : decode cL_law 581 = .ok (.aload_n 1, 1) := by decide +kernel
theorem dL_law_582 : decode cL_law 582 = .ok (.aload_n 0, 1) := by decide +kernel
theorem dL_law_583 : decode cL_law 583 = .ok (.iload_n 3, 1) := by decide +kernel
theorem dL_law_584 : decode cL_law 584 = .ok (.iconst 1, 1) := by decide +kernel
theorem dL_law_585 : decode cL_law 585 = .ok (.iadd, 1) := by decide +kernel
theorem dL_law_586 : decode cL_law 586 = .ok (.iaload, 1) := by decide +kernel
theorem dL_law_587 : decode cL_law 587 = .ok (.aload_n 0, 1) := by decide +kernel
theorem dL_law_588 : decode cL_law 588 = .ok (.iload_n 3, 1) := by decide +kernel
theorem dL_law_589 : decode cL_law 589 = .ok (.iconst 2, 1) := by decide +kernel
theorem dL_law_590 : decode cL_law 590 = .ok (.iadd, 1) := by decide +kernel
theorem dL_law_591 : decode cL_law 591 = .ok (.iaload, 1) := by decide +kernel
theorem dL_law_592 : decode cL_law 592 = .ok (.invokevirtual 71, 3) := by decide +kernel
theorem dL_law_595 : decode cL_law 595 = .ok (.aload_n 2, 1) := by decide +kernel
theorem dL_law_596 : decode cL_law 596 = .ok (.aload_n 0, 1) := by decide +kernel
theorem dL_law_597 : decode cL_law 597 = .ok (.iload_n 3, 1) := by decide +kernel
theorem dL_law_598 : decode cL_law 598 = .ok (.iconst 1, 1) := by decide +kernel
theorem dL_law_599 : decode cL_law 599 = .ok (.iadd, 1) := by decide +kernel
theorem dL_law_600 : decode cL_law 600 = .ok (.iaload, 1) := by decide +kernel
theorem dL_law_601 : decode cL_law 601 = .ok (.aload_n 0, 1) := by decide +kernel
theorem dL_law_602 : decode cL_law 602 = .ok (.iload_n 3, 1) := by decide +kernel
theorem dL_law_603 : decode cL_law 603 = .ok (.iconst 2, 1) := by decide +kernel
theorem dL_law_604 : decode cL_law 604 = .ok (.iadd, 1) := by decide +kernel
theorem dL_law_605 : decode cL_law 605 = .ok (.iaload, 1) := by decide +kernel
theorem dL_law_606 : decode cL_law 606 = .ok (.invokevirtual 74, 3) := by decide +kernel
theorem dL_law_609 : decode cL_law 609 = .ok (.if_icmp .eq 423, 3) := by decide +kernel
theorem dL_law_612 : decode cL_law 612 = .ok (.iconst 0, 1) := by decide +kernel
theorem dL_law_613 : decode cL_law 613 = .ok (.ireturn, 1) := by decide +kernel
theorem dL_law_614 : decode cL_law 614 = .ok (.aload_n 1, 1) := by decide +kernel
theorem dL_law_615 : decode cL_law 615 = .ok (.aload_n 0, 1) := by decide +kernel
theorem dL_law_616 : decode cL_law 616 = .ok (.iload_n 3, 1) := by decide +kernel
theorem dL_law_617 : decode cL_law 617 = .ok (.iconst 1, 1) := by decide +kernel
theorem dL_law_618 : decode cL_law 618 = .ok (.iadd, 1) := by decide +kernel
theorem dL_law_619 : decode cL_law 619 = .ok (.iaload, 1) := by decide +kernel
theorem dL_law_620 : decode cL_law 620 = .ok (.invokevirtual 75, 3) := by decide +kernel
theorem dL_law_623 : decode cL_law 623 = .ok (.aload_n 2, 1) := by decide +kernel
theorem dL_law_624 : decode cL_law 624 = .ok (.aload_n 0, 1) := by decide +kernel
theorem dL_law_625 : decode cL_law 625 = .ok (.iload_n 3, 1) := by decide +kernel
theorem dL_law_626 : decode cL_law 626 = .ok (.iconst 1, 1) := by decide +kernel
theorem dL_law_627 : decode cL_law 627 = .ok (.iadd, 1) := by decide +kernel
theorem dL_law_628 : decode cL_law 628 = .ok (.iaload, 1) := by decide +kernel
theorem dL_law_629 : decode cL_law 629 = .ok (.invokevirtual 78, 3) := by decide +kernel
theorem dL_law_632 : decode cL_law 632 = .ok (.if_icmp .eq 400, 3) := by decide +kernel
theorem dL_law_635 : decode cL_law 635 = .ok (.iconst 0, 1) := by decide +kernel
theorem dL_law_636 : decode cL_law 636 = .ok (.ireturn, 1) := by decide +kernel
theorem dL_law_637 : decode cL_law 637 = .ok (.aload_n 1, 1) := by decide +kernel
theorem dL_law_638 : decode cL_law 638 = .ok (.aload_n 0, 1) := by decide +kernel
theorem dL_law_639 : decode cL_law 639 = .ok (.iload_n 3, 1) := by decide +kernel
theorem dL_law_640 : decode cL_law 640 = .ok (.iconst 1, 1) := by decide +kernel
theorem dL_law_641 : decode cL_law 641 = .ok (.iadd, 1) := by decide +kernel
theorem dL_law_642 : decode cL_law 642 = .ok (.iaload, 1) := by decide +kernel
theorem dL_law_643 : decode cL_law 643 = .ok (.ifCond .eq 7, 3) := by decide +kernel
theorem dL_law_646 : decode cL_law 646 = .ok (.iconst 1, 1) := by decide +kernel
theorem dL_law_647 : decode cL_law 647 = .ok (.goto 4, 3) := by decide +kernel
theorem dL_law_650 : decode cL_law 650 = .ok (.iconst 0, 1) := by decide +kernel
theorem dL_law_651 : decode cL_law 651 = .ok (.aload_n 0, 1) := by decide +kernel
theorem dL_law_652 : decode cL_law 652 = .ok (.iload_n 3, 1) := by decide +kernel
theorem dL_law_653 : decode cL_law 653 = .ok (.iconst 2, 1) := by decide +kernel
theorem dL_law_654 : decode cL_law 654 = .ok (.iadd, 1) := by decide +kernel
theorem dL_law_655 : decode cL_law 655 = .ok (.iaload, 1) := by decide +kernel
theorem dL_law_656 : decode cL_law 656 = .ok (.invokevirtual 79, 3) := by decide +kernel
theorem dL_law_659 : decode cL_law 659 = .ok (.aload_n 2, 1) := by decide +kernel
theorem dL_law_660 : decode cL_law 660 = .ok (.aload_n 0, 1) := by decide +kernel
theorem dL_law_661 : decode cL_law 661 = .ok (.iload_n 3, 1) := by decide +kernel
theorem dL_law_662 : decode cL_law 662 = .ok (.iconst 1, 1) := by decide +kernel
theorem dL_law_663 : decode cL_law 663 = .ok (.iadd, 1) := by decide +kernel
theorem dL_law_664 : decode cL_law 664 = .ok (.iaload, 1) := by decide +kernel
theorem dL_law_665 : decode cL_law 665 = .ok (.ifCond .eq 7, 3) := by decide +kernel
theorem dL_law_668 : decode cL_law 668 = .ok (.iconst 1, 1) := by decide +kernel
theorem dL_law_669 : decode cL_law 669 = .ok (.goto 4, 3) := by decide +kernel
theorem dL_law_672 : decode cL_law 672 = .ok (.iconst 0, 1) := by decide +kernel
theorem dL_law_673 : decode cL_law 673 = .ok (.aload_n 0, 1) := by decide +kernel
theorem dL_law_674 : decode cL_law 674 = .ok (.iload_n 3, 1) := by decide +kernel
theorem dL_law_675 : decode cL_law 675 = .ok (.iconst 2, 1) := by decide +kernel
theorem dL_law_676 : decode cL_law 676 = .ok (.iadd, 1) := by decide +kernel
theorem dL_law_677 : decode cL_law 677 = .ok (.iaload, 1) := by decide +kernel
theorem dL_law_678 : decode cL_law 678 = .ok (.invokevirtual 83, 3) := by decide +kernel
theorem dL_law_681 : decode cL_law 681 = .ok (.if_icmp .eq 351, 3) := by decide +kernel
theorem dL_law_684 : decode cL_law 684 = .ok (.iconst 0, 1) := by decide +kernel
theorem dL_law_685 : decode cL_law 685 = .ok (.ireturn, 1) := by decide +kernel
theorem dL_law_686 : decode cL_law 686 = .ok (.aload_n 1, 1) := by decide +kernel
theorem dL_law_687 : decode cL_law 687 = .ok (.aload_n 0, 1) := by decide +kernel
theorem dL_law_688 : decode cL_law 688 = .ok (.iload_n 3, 1) := by decide +kernel
theorem dL_law_689 : decode cL_law 689 = .ok (.iconst 1, 1) := by decide +kernel
theorem dL_law_690 : decode cL_law 690 = .ok (.iadd, 1) := by decide +kernel
theorem dL_law_691 : decode cL_law 691 = .ok (.iaload, 1) := by decide +kernel
theorem dL_law_692 : decode cL_law 692 = .ok (.aload_n 0, 1) := by decide +kernel
theorem dL_law_693 : decode cL_law 693 = .ok (.iload_n 3, 1) := by decide +kernel
theorem dL_law_694 : decode cL_law 694 = .ok (.iconst 2, 1) := by decide +kernel
theorem dL_law_695 : decode cL_law 695 = .ok (.iadd, 1) := by decide +kernel
theorem dL_law_696 : decode cL_law 696 = .ok (.iaload, 1) := by decide +kernel
theorem dL_law_697 : decode cL_law 697 = .ok (.aload_n 0, 1) := by decide +kernel
theorem dL_law_698 : decode cL_law 698 = .ok (.iload_n 3, 1) := by decide +kernel
theorem dL_law_699 : decode cL_law 699 = .ok (.iconst 3, 1) := by decide +kernel
theorem dL_law_700 : decode cL_law 700 = .ok (.iadd, 1) := by decide +kernel
theorem dL_law_701 : decode cL_law 701 = .ok (.iaload, 1) := by decide +kernel
theorem dL_law_702 : decode cL_law 702 = .ok (.invokevirtual 84, 3) := by decide +kernel
theorem dL_law_705 : decode cL_law 705 = .ok (.aload_n 2, 1) := by decide +kernel
theorem dL_law_706 : decode cL_law 706 = .ok (.aload_n 0, 1) := by decide +kernel
theorem dL_law_707 : decode cL_law 707 = .ok (.iload_n 3, 1) := by decide +kernel
theorem dL_law_708 : decode cL_law 708 = .ok (.iconst 1, 1) := by decide +kernel
theorem dL_law_709 : decode cL_law 709 = .ok (.iadd, 1) := by decide +kernel
theorem dL_law_710 : decode cL_law 710 = .ok (.iaload, 1) := by decide +kernel
theorem dL_law_711 : decode cL_law 711 = .ok (.aload_n 0, 1) := by decide +kernel
theorem dL_law_712 : decode cL_law 712 = .ok (.iload_n 3, 1) := by decide +kernel
theorem dL_law_713 : decode cL_law 713 = .ok (.iconst 2, 1) := by decide +kernel
theorem dL_law_714 : decode cL_law 714 = .ok (.iadd, 1) := by decide +kernel
theorem dL_law_715 : decode cL_law 715 = .ok (.iaload, 1) := by decide +kernel
theorem dL_law_716 : decode cL_law 716 = .ok (.aload_n 0, 1) := by decide +kernel
theorem dL_law_717 : decode cL_law 717 = .ok (.iload_n 3, 1) := by decide +kernel
theorem dL_law_718 : decode cL_law 718 = .ok (.iconst 3, 1) := by decide +kernel
theorem dL_law_719 : decode cL_law 719 = .ok (.iadd, 1) := by decide +kernel
theorem dL_law_720 : decode cL_law 720 = .ok (.iaload, 1) := by decide +kernel
theorem dL_law_721 : decode cL_law 721 = .ok (.invokevirtual 87, 3) := by decide +kernel
theorem dL_law_724 : decode cL_law 724 = .ok (.if_icmp .eq 308, 3) := by decide +kernel
theorem dL_law_727 : decode cL_law 727 = .ok (.iconst 0, 1) := by decide +kernel
theorem dL_law_728 : decode cL_law 728 = .ok (.ireturn, 1) := by decide +kernel
theorem dL_law_729 : decode cL_law 729 = .ok (.aload_n 1, 1) := by decide +kernel
theorem dL_law_730 : decode cL_law 730 = .ok (.aload_n 0, 1) := by decide +kernel
theorem dL_law_731 : decode cL_law 731 = .ok (.iload_n 3, 1) := by decide +kernel
theorem dL_law_732 : decode cL_law 732 = .ok (.iconst 1, 1) := by decide +kernel
theorem dL_law_733 : decode cL_law 733 = .ok (.iadd, 1) := by decide +kernel
theorem dL_law_734 : decode cL_law 734 = .ok (.iaload, 1) := by decide +kernel
theorem dL_law_735 : decode cL_law 735 = .ok (.aload_n 0, 1) := by decide +kernel
theorem dL_law_736 : decode cL_law 736 = .ok (.iload_n 3, 1) := by decide +kernel
theorem dL_law_737 : decode cL_law 737 = .ok (.iconst 2, 1) := by decide +kernel
theorem dL_law_738 : decode cL_law 738 = .ok (.iadd, 1) := by decide +kernel
theorem dL_law_739 : decode cL_law 739 = .ok (.iaload, 1) := by decide +kernel
theorem dL_law_740 : decode cL_law 740 = .ok (.aload_n 0, 1) := by decide +kernel
theorem dL_law_741 : decode cL_law 741 = .ok (.iload_n 3, 1) := by decide +kernel
theorem dL_law_742 : decode cL_law 742 = .ok (.iconst 3, 1) := by decide +kernel
theorem dL_law_743 : decode cL_law 743 = .ok (.iadd, 1) := by decide +kernel
theorem dL_law_744 : decode cL_law 744 = .ok (.iaload, 1) := by decide +kernel
theorem dL_law_745 : decode cL_law 745 = .ok (.aload_n 0, 1) := by decide +kernel
theorem dL_law_746 : decode cL_law 746 = .ok (.iload_n 3, 1) := by decide +kernel
theorem dL_law_747 : decode cL_law 747 = .ok (.iconst 4, 1) := by decide +kernel
theorem dL_law_748 : decode cL_law 748 = .ok (.iadd, 1) := by decide +kernel
theorem dL_law_749 : decode cL_law 749 = .ok (.iaload, 1) := by decide +kernel
theorem dL_law_750 : decode cL_law 750 = .ok (.invokevirtual 88, 3) := by decide +kernel
theorem dL_law_753 : decode cL_law 753 = .ok (.aload_n 2, 1) := by decide +kernel
theorem dL_law_754 : decode cL_law 754 = .ok (.aload_n 0, 1) := by decide +kernel
theorem dL_law_755 : decode cL_law 755 = .ok (.iload_n 3, 1) := by decide +kernel
theorem dL_law_756 : decode cL_law 756 = .ok (.iconst 1, 1) := by decide +kernel
theorem dL_law_757 : decode cL_law 757 = .ok (.iadd, 1) := by decide +kernel
theorem dL_law_758 : decode cL_law 758 = .ok (.iaload, 1) := by decide +kernel
theorem dL_law_759 : decode cL_law 759 = .ok (.aload_n 0, 1) := by decide +kernel
theorem dL_law_760 : decode cL_law 760 = .ok (.iload_n 3, 1) := by decide +kernel
theorem dL_law_761 : decode cL_law 761 = .ok (.iconst 2, 1) := by decide +kernel
theorem dL_law_762 : decode cL_law 762 = .ok (.iadd, 1) := by decide +kernel
theorem dL_law_763 : decode cL_law 763 = .ok (.iaload, 1) := by decide +kernel
theorem dL_law_764 : decode cL_law 764 = .ok (.aload_n 0, 1) := by decide +kernel
theorem dL_law_765 : decode cL_law 765 = .ok (.iload_n 3, 1) := by decide +kernel
theorem dL_law_766 : decode cL_law 766 = .ok (.iconst 3, 1) := by decide +kernel
theorem dL_law_767 : decode cL_law 767 = .ok (.iadd, 1) := by decide +kernel
theorem dL_law_768 : decode cL_law 768 = .ok (.iaload, 1) := by decide +kernel
theorem dL_law_769 : decode cL_law 769 = .ok (.aload_n 0, 1) := by decide +kernel
theorem dL_law_770 : decode cL_law 770 = .ok (.iload_n 3, 1) := by decide +kernel
theorem dL_law_771 : decode cL_law 771 = .ok (.iconst 4, 1) := by decide +kernel
theorem dL_law_772 : decode cL_law 772 = .ok (.iadd, 1) := by decide +kernel
theorem dL_law_773 : decode cL_law 773 = .ok (.iaload, 1) := by decide +kernel
theorem dL_law_774 : decode cL_law 774 = .ok (.invokevirtual 92, 3) := by decide +kernel
theorem dL_law_777 : decode cL_law 777 = .ok (.if_icmp .eq 255, 3) := by decide +kernel
theorem dL_law_780 : decode cL_law 780 = .ok (.iconst 0, 1) := by decide +kernel
theorem dL_law_781 : decode cL_law 781 = .ok (.ireturn, 1) := by decide +kernel
theorem dL_law_782 : decode cL_law 782 = .ok (.aload_n 1, 1) := by decide +kernel
theorem dL_law_783 : decode cL_law 783 = .ok (.aload_n 0, 1) := by decide +kernel
theorem dL_law_784 : decode cL_law 784 = .ok (.iload_n 3, 1) := by decide +kernel
theorem dL_law_785 : decode cL_law 785 = .ok (.iconst 1, 1) := by decide +kernel
theorem dL_law_786 : decode cL_law 786 = .ok (.iadd, 1) := by decide +kernel
theorem dL_law_787 : decode cL_law 787 = .ok (.iaload, 1) := by decide +kernel
theorem dL_law_788 : decode cL_law 788 = .ok (.invokevirtual 93, 3) := by decide +kernel
theorem dL_law_791 : decode cL_law 791 = .ok (.aload_n 2, 1) := by decide +kernel
theorem dL_law_792 : decode cL_law 792 = .ok (.aload_n 0, 1) := by decide +kernel
theorem dL_law_793 : decode cL_law 793 = .ok (.iload_n 3, 1) := by decide +kernel
theorem dL_law_794 : decode cL_law 794 = .ok (.iconst 1, 1) := by decide +kernel
theorem dL_law_795 : decode cL_law 795 = .ok (.iadd, 1) := by decide +kernel
theorem dL_law_796 : decode cL_law 796 = .ok (.iaload, 1) := by decide +kernel
theorem dL_law_797 : decode cL_law 797 = .ok (.invokevirtual 96, 3) := by decide +kernel
theorem dL_law_800 : decode cL_law 800 = .ok (.if_icmp .eq 232, 3) := by decide +kernel
theorem dL_law_803 : decode cL_law 803 = .ok (.iconst 0, 1) := by decide +kernel
theorem dL_law_804 : decode cL_law 804 = .ok (.ireturn, 1) := by decide +kernel
theorem dL_law_805 : decode cL_law 805 = .ok (.aload_n 1, 1) := by decide +kernel
theorem dL_law_806 : decode cL_law 806 = .ok (.invokevirtual 97, 3) := by decide +kernel
theorem dL_law_809 : decode cL_law 809 = .ok (.aload_n 2, 1) := by decide +kernel
theorem dL_law_810 : decode cL_law 810 = .ok (.invokevirtual 100, 3) := by decide +kernel
theorem dL_law_813 : decode cL_law 813 = .ok (.if_icmp .eq 219, 3) := by decide +kernel
theorem dL_law_816 : decode cL_law 816 = .ok (.iconst 0, 1) := by decide +kernel
theorem dL_law_817 : decode cL_law 817 = .ok (.ireturn, 1) := by decide +kernel
theorem dL_law_818 : decode cL_law 818 = .ok (.aload_n 1, 1) := by decide +kernel
theorem dL_law_819 : decode cL_law 819 = .ok (.aload_n 0, 1) := by decide +kernel
theorem dL_law_820 : decode cL_law 820 = .ok (.iload_n 3, 1) := by decide +kernel
theorem dL_law_821 : decode cL_law 821 = .ok (.iconst 1, 1) := by decide +kernel
theorem dL_law_822 : decode cL_law 822 = .ok (.iadd, 1) := by decide +kernel
theorem dL_law_823 : decode cL_law 823 = .ok (.iaload, 1) := by decide +kernel
theorem dL_law_824 : decode cL_law 824 = .ok (.aload_n 0, 1) := by decide +kernel
theorem dL_law_825 : decode cL_law 825 = .ok (.iload_n 3, 1) := by decide +kernel
theorem dL_law_826 : decode cL_law 826 = .ok (.iconst 2, 1) := by decide +kernel
theorem dL_law_827 : decode cL_law 827 = .ok (.iadd, 1) := by decide +kernel
theorem dL_law_828 : decode cL_law 828 = .ok (.iaload, 1) := by decide +kernel
theorem dL_law_829 : decode cL_law 829 = .ok (.aload_n 0, 1) := by decide +kernel
theorem dL_law_830 : decode cL_law 830 = .ok (.iload_n 3, 1) := by decide +kernel
theorem dL_law_831 : decode cL_law 831 = .ok (.iconst 3, 1) := by decide +kernel
theorem dL_law_832 : decode cL_law 832 = .ok (.iadd, 1) := by decide +kernel
theorem dL_law_833 : decode cL_law 833 = .ok (.iaload, 1) := by decide +kernel
theorem dL_law_834 : decode cL_law 834 = .ok (.invokevirtual 101, 3) := by decide +kernel
theorem dL_law_837 : decode cL_law 837 = .ok (.aload_n 2, 1) := by decide +kernel
theorem dL_law_838 : decode cL_law 838 = .ok (.aload_n 0, 1) := by decide +kernel
theorem dL_law_839 : decode cL_law 839 = .ok (.iload_n 3, 1) := by decide +kernel
theorem dL_law_840 : decode cL_law 840 = .ok (.iconst 1, 1) := by decide +kernel
theorem dL_law_841 : decode cL_law 841 = .ok (.iadd, 1) := by decide +kernel
theorem dL_law_842 : decode cL_law 842 = .ok (.iaload, 1) := by decide +kernel
theorem dL_law_843 : decode cL_law 843 = .ok (.aload_n 0, 1) := by decide +kernel
theorem dL_law_844 : decode cL_law 844 = .ok (.iload_n 3, 1) := by decide +kernel
theorem dL_law_845 : decode cL_law 845 = .ok (.iconst 2, 1) := by decide +kernel
theorem dL_law_846 : decode cL_law 846 = .ok (.iadd, 1) := by decide +kernel
theorem dL_law_847 : decode cL_law 847 = .ok (.iaload, 1) := by decide +kernel
theorem dL_law_848 : decode cL_law 848 = .ok (.aload_n 0, 1) := by decide +kernel
theorem dL_law_849 : decode cL_law 849 = .ok (.iload_n 3, 1) := by decide +kernel
theorem dL_law_850 : decode cL_law 850 = .ok (.iconst 3, 1) := by decide +kernel
theorem dL_law_851 : decode cL_law 851 = .ok (.iadd, 1) := by decide +kernel
theorem dL_law_852 : decode cL_law 852 = .ok (.iaload, 1) := by decide +kernel
theorem dL_law_853 : decode cL_law 853 = .ok (.invokevirtual 104, 3) := by decide +kernel
theorem dL_law_856 : decode cL_law 856 = .ok (.if_icmp .eq 176, 3) := by decide +kernel
theorem dL_law_859 : decode cL_law 859 = .ok (.iconst 0, 1) := by decide +kernel
theorem dL_law_860 : decode cL_law 860 = .ok (.ireturn, 1) := by decide +kernel
theorem dL_law_861 : decode cL_law 861 = .ok (.aload_n 1, 1) := by decide +kernel
theorem dL_law_862 : decode cL_law 862 = .ok (.aload_n 0, 1) := by decide +kernel
theorem dL_law_863 : decode cL_law 863 = .ok (.iload_n 3, 1) := by decide +kernel
theorem dL_law_864 : decode cL_law 864 = .ok (.iconst 1, 1) := by decide +kernel
theorem dL_law_865 : decode cL_law 865 = .ok (.iadd, 1) := by decide +kernel
theorem dL_law_866 : decode cL_law 866 = .ok (.iaload, 1) := by decide +kernel
theorem dL_law_867 : decode cL_law 867 = .ok (.aload_n 0, 1) := by decide +kernel
theorem dL_law_868 : decode cL_law 868 = .ok (.iload_n 3, 1) := by decide +kernel
theorem dL_law_869 : decode cL_law 869 = .ok (.iconst 2, 1) := by decide +kernel
theorem dL_law_870 : decode cL_law 870 = .ok (.iadd, 1) := by decide +kernel
theorem dL_law_871 : decode cL_law 871 = .ok (.iaload, 1) := by decide +kernel
theorem dL_law_872 : decode cL_law 872 = .ok (.invokevirtual 105, 3) := by decide +kernel
theorem dL_law_875 : decode cL_law 875 = .ok (.aload_n 2, 1) := by decide +kernel
theorem dL_law_876 : decode cL_law 876 = .ok (.aload_n 0, 1) := by decide +kernel
theorem dL_law_877 : decode cL_law 877 = .ok (.iload_n 3, 1) := by decide +kernel
theorem dL_law_878 : decode cL_law 878 = .ok (.iconst 1, 1) := by decide +kernel
theorem dL_law_879 : decode cL_law 879 = .ok (.iadd, 1) := by decide +kernel
theorem dL_law_880 : decode cL_law 880 = .ok (.iaload, 1) := by decide +kernel
theorem dL_law_881 : decode cL_law 881 = .ok (.aload_n 0, 1) := by decide +kernel
theorem dL_law_882 : decode cL_law 882 = .ok (.iload_n 3, 1) := by decide +kernel
theorem dL_law_883 : decode cL_law 883 = .ok (.iconst 2, 1) := by decide +kernel
theorem dL_law_884 : decode cL_law 884 = .ok (.iadd, 1) := by decide +kernel
theorem dL_law_885 : decode cL_law 885 = .ok (.iaload, 1) := by decide +kernel
theorem dL_law_886 : decode cL_law 886 = .ok (.invokevirtual 108, 3) := by decide +kernel
theorem dL_law_889 : decode cL_law 889 = .ok (.if_icmp .eq 143, 3) := by decide +kernel
theorem dL_law_892 : decode cL_law 892 = .ok (.iconst 0, 1) := by decide +kernel
theorem dL_law_893 : decode cL_law 893 = .ok (.ireturn, 1) := by decide +kernel
theorem dL_law_894 : decode cL_law 894 = .ok (.aload_n 1, 1) := by decide +kernel
theorem dL_law_895 : decode cL_law 895 = .ok (.aload_n 0, 1) := by decide +kernel
theorem dL_law_896 : decode cL_law 896 = .ok (.iload_n 3, 1) := by decide +kernel
theorem dL_law_897 : decode cL_law 897 = .ok (.iconst 1, 1) := by decide +kernel
theorem dL_law_898 : decode cL_law 898 = .ok (.iadd, 1) := by decide +kernel
theorem dL_law_899 : decode cL_law 899 = .ok (.iaload, 1) := by decide +kernel
theorem dL_law_900 : decode cL_law 900 = .ok (.i2l, 1) := by decide +kernel
theorem dL_law_901 : decode cL_law 901 = .ok (.bipush 32, 2) := by decide +kernel
theorem dL_law_903 : decode cL_law 903 = .ok (.lshl, 1) := by decide +kernel
theorem dL_law_904 : decode cL_law 904 = .ok (.aload_n 0, 1) := by decide +kernel
theorem dL_law_905 : decode cL_law 905 = .ok (.iload_n 3, 1) := by decide +kernel
theorem dL_law_906 : decode cL_law 906 = .ok (.iconst 2, 1) := by decide +kernel
theorem dL_law_907 : decode cL_law 907 = .ok (.iadd, 1) := by decide +kernel
theorem dL_law_908 : decode cL_law 908 = .ok (.iaload, 1) := by decide +kernel
theorem dL_law_909 : decode cL_law 909 = .ok (.i2l, 1) := by decide +kernel
theorem dL_law_910 : decode cL_law 910 = .ok (.ldc2_w 109, 3) := by decide +kernel
theorem dL_law_913 : decode cL_law 913 = .ok (.land, 1) := by decide +kernel
theorem dL_law_914 : decode cL_law 914 = .ok (.lor, 1) := by decide +kernel
theorem dL_law_915 : decode cL_law 915 = .ok (.invokevirtual 111, 3) := by decide +kernel
theorem dL_law_918 : decode cL_law 918 = .ok (.aload_n 2, 1) := by decide +kernel
theorem dL_law_919 : decode cL_law 919 = .ok (.aload_n 0, 1) := by decide +kernel
theorem dL_law_920 : decode cL_law 920 = .ok (.iload_n 3, 1) := by decide +kernel
theorem dL_law_921 : decode cL_law 921 = .ok (.iconst 1, 1) := by decide +kernel
theorem dL_law_922 : decode cL_law 922 = .ok (.iadd, 1) := by decide +kernel
theorem dL_law_923 : decode cL_law 923 = .ok (.iaload, 1) := by decide +kernel
theorem dL_law_924 : decode cL_law 924 = .ok (.i2l, 1) := by decide +kernel
theorem dL_law_925 : decode cL_law 925 = .ok (.bipush 32, 2) := by decide +kernel
theorem dL_law_927 : decode cL_law 927 = .ok (.lshl, 1) := by decide +kernel
theorem dL_law_928 : decode cL_law 928 = .ok (.aload_n 0, 1) := by decide +kernel
theorem dL_law_929 : decode cL_law 929 = .ok (.iload_n 3, 1) := by decide +kernel
theorem dL_law_930 : decode cL_law 930 = .ok (.iconst 2, 1) := by decide +kernel
theorem dL_law_931 : decode cL_law 931 = .ok (.iadd, 1) := by decide +kernel
theorem dL_law_932 : decode cL_law 932 = .ok (.iaload, 1) := by decide +kernel
theorem dL_law_933 : decode cL_law 933 = .ok (.i2l, 1) := by decide +kernel
theorem dL_law_934 : decode cL_law 934 = .ok (.ldc2_w 109, 3) := by decide +kernel
theorem dL_law_937 : decode cL_law 937 = .ok (.land, 1) := by decide +kernel
theorem dL_law_938 : decode cL_law 938 = .ok (.lor, 1) := by decide +kernel
theorem dL_law_939 : decode cL_law 939 = .ok (.invokevirtual 115, 3) := by decide +kernel
theorem dL_law_942 : decode cL_law 942 = .ok (.if_icmp .eq 90, 3) := by decide +kernel
theorem dL_law_945 : decode cL_law 945 = .ok (.iconst 0, 1) := by decide +kernel
theorem dL_law_946 : decode cL_law 946 = .ok (.ireturn, 1) := by decide +kernel
theorem dL_law_947 : decode cL_law 947 = .ok (.aload_n 1, 1) := by decide +kernel
theorem dL_law_948 : decode cL_law 948 = .ok (.invokevirtual 116, 3) := by decide +kernel
theorem dL_law_951 : decode cL_law 951 = .ok (.aload_n 2, 1) := by decide +kernel
theorem dL_law_952 : decode cL_law 952 = .ok (.invokevirtual 119, 3) := by decide +kernel
theorem dL_law_955 : decode cL_law 955 = .ok (.if_icmp .eq 77, 3) := by decide +kernel
theorem dL_law_958 : decode cL_law 958 = .ok (.iconst 0, 1) := by decide +kernel
theorem dL_law_959 : decode cL_law 959 = .ok (.ireturn, 1) := by decide +kernel
theorem dL_law_960 : decode cL_law 960 = .ok (.aload_n 1, 1) := by decide +kernel
theorem dL_law_961 : decode cL_law 961 = .ok (.invokevirtual 120, 3) := by decide +kernel
theorem dL_law_964 : decode cL_law 964 = .ok (.aload_n 2, 1) := by decide +kernel
theorem dL_law_965 : decode cL_law 965 = .ok (.invokevirtual 123, 3) := by decide +kernel
theorem dL_law_968 : decode cL_law 968 = .ok (.if_icmp .eq 64, 3) := by decide +kernel
theorem dL_law_971 : decode cL_law 971 = .ok (.iconst 0, 1) := by decide +kernel
theorem dL_law_972 : decode cL_law 972 = .ok (.ireturn, 1) := by decide +kernel
theorem dL_law_973 : decode cL_law 973 = .ok (.aload_n 1, 1) := by decide +kernel
theorem dL_law_974 : decode cL_law 974 = .ok (.invokevirtual 124, 3) := by decide +kernel
theorem dL_law_977 : decode cL_law 977 = .ok (.aload_n 2, 1) := by decide +kernel
theorem dL_law_978 : decode cL_law 978 = .ok (.invokevirtual 127, 3) := by decide +kernel
theorem dL_law_981 : decode cL_law 981 = .ok (.if_icmp .eq 51, 3) := by decide +kernel
theorem dL_law_984 : decode cL_law 984 = .ok (.iconst 0, 1) := by decide +kernel
theorem dL_law_985 : decode cL_law 985 = .ok (.ireturn, 1) := by decide +kernel
theorem dL_law_986 : decode cL_law 986 = .ok (.aload_n 1, 1) := by decide +kernel
theorem dL_law_987 : decode cL_law 987 = .ok (.aload_n 0, 1) := by decide +kernel
theorem dL_law_988 : decode cL_law 988 = .ok (.iload_n 3, 1) := by decide +kernel
theorem dL_law_989 : decode cL_law 989 = .ok (.iconst 1, 1) := by decide +kernel
theorem dL_law_990 : decode cL_law 990 = .ok (.iadd, 1) := by decide +kernel
theorem dL_law_991 : decode cL_law 991 = .ok (.iaload, 1) := by decide +kernel
theorem dL_law_992 : decode cL_law 992 = .ok (.invokevirtual 128, 3) := by decide +kernel
theorem dL_law_995 : decode cL_law 995 = .ok (.aload_n 2, 1) := by decide +kernel
theorem dL_law_996 : decode cL_law 996 = .ok (.aload_n 0, 1) := by decide +kernel
theorem dL_law_997 : decode cL_law 997 = .ok (.iload_n 3, 1) := by decide +kernel
theorem dL_law_998 : decode cL_law 998 = .ok (.iconst 1, 1) := by decide +kernel
theorem dL_law_999 : decode cL_law 999 = .ok (.iadd, 1) := by decide +kernel
theorem dL_law_1000 : decode cL_law 1000 = .ok (.iaload, 1) := by decide +kernel
theorem dL_law_1001 : decode cL_law 1001 = .ok (.invokevirtual 131, 3) := by decide +kernel
theorem dL_law_1004 : decode cL_law 1004 = .ok (.if_icmp .eq 28, 3) := by decide +kernel
theorem dL_law_1007 : decode cL_law 1007 = .ok (.iconst 0, 1) := by decide +kernel
theorem dL_law_1008 : decode cL_law 1008 = .ok (.ireturn, 1) := by decide +kernel
theorem dL_law_1009 : decode cL_law 1009 = .ok (.aload_n 1, 1) := by decide +kernel
theorem dL_law_1010 : decode cL_law 1010 = .ok (.aload_n 0, 1) := by decide +kernel
theorem dL_law_1011 : decode cL_law 1011 = .ok (.iload_n 3, 1) := by decide +kernel
theorem dL_law_1012 : decode cL_law 1012 = .ok (.iconst 1, 1) := by decide +kernel
theorem dL_law_1013 : decode cL_law 1013 = .ok (.iadd, 1) := by decide +kernel
theorem dL_law_1014 : decode cL_law 1014 = .ok (.iaload, 1) := by decide +kernel
theorem dL_law_1015 : decode cL_law 1015 = .ok (.invokevirtual 132, 3) := by decide +kernel
theorem dL_law_1018 : decode cL_law 1018 = .ok (.aload_n 2, 1) := by decide +kernel
theorem dL_law_1019 : decode cL_law 1019 = .ok (.aload_n 0, 1) := by decide +kernel
theorem dL_law_1020 : decode cL_law 1020 = .ok (.iload_n 3, 1) := by decide +kernel
theorem dL_law_1021 : decode cL_law 1021 = .ok (.iconst 1, 1) := by decide +kernel
theorem dL_law_1022 : decode cL_law 1022 = .ok (.iadd, 1) := by decide +kernel
theorem dL_law_1023 : decode cL_law 1023 = .ok (.iaload, 1) := by decide +kernel
theorem dL_law_1024 : decode cL_law 1024 = .ok (.invokevirtual 135, 3) := by decide +kernel
theorem dL_law_1027 : decode cL_law 1027 = .ok (.if_icmp .eq 5, 3) := by decide +kernel
theorem dL_law_1030 : decode cL_law 1030 = .ok (.iconst 0, 1) := by decide +kernel
theorem dL_law_1031 : decode cL_law 1031 = .ok (.ireturn, 1) := by decide +kernel
theorem dL_law_1032 : decode cL_law 1032 = .ok (.iinc 3 5, 3) := by decide +kernel
theorem dL_law_1035 : decode cL_law 1035 = .ok (.goto (-1017), 3) := by decide +kernel
theorem dL_law_1038 : decode cL_law 1038 = .ok (.iconst 1, 1) := by decide +kernel
theorem dL_law_1039 : decode cL_law 1039 = .ok (.ireturn, 1) := by decide +kernel
end
section
theorem dX0_init_0 : decode cX0_init 0 = .ok (.aload_n 0, 1) := by decide +kernel
theorem dX0_init_1 : decode cX0_init 1 = .ok (.invokespecial 3, 3) := by decide +kernel
theorem dX0_init_4 : decode cX0_init 4 = .ok (.aload_n 0, 1) := by decide +kernel
theorem dX0_init_5 : decode cX0_init 5 = .ok (.iconst 4, 1) := by decide +kernel
theorem dX0_init_6 : decode cX0_init 6 = .ok (.newarray .int, 2) := by decide +kernel
theorem dX0_init_8 : decode cX0_init 8 = .ok (.putfield 9, 3) := by decide +kernel
theorem dX0_init_11 : decode cX0_init 11 = .ok (.aload_n 0, 1) := by decide +kernel
theorem dX0_init_12 : decode cX0_init 12 = .ok (.iconst 0, 1) := by decide +kernel
theorem dX0_init_13 : decode cX0_init 13 = .ok (.putfield 15, 3) := by decide +kernel
theorem dX0_init_16 : decode cX0_init 16 = .ok (.aload_n 0, 1) := by decide +kernel
theorem dX0_init_17 : decode cX0_init 17 = .ok (.bipush 16, 2) := by decide +kernel
theorem dX0_init_19 : decode cX0_init 19 = .ok (.newarray .int, 2) := by decide +kernel
theorem dX0_init_21 : decode cX0_init 21 = .ok (.putfield 19, 3) := by decide +kernel
theorem dX0_init_24 : decode cX0_init 24 = .ok (.aload_n 0, 1) := by decide +kernel
theorem dX0_init_25 : decode cX0_init 25 = .ok (.sipush 256, 3) := by decide +kernel
theorem dX0_init_28 : decode cX0_init 28 = .ok (.newarray .int, 2) := by decide +kernel
theorem dX0_init_30 : decode cX0_init 30 = .ok (.putfield 22, 3) := by decide +kernel
theorem dX0_init_33 : decode cX0_init 33 = .ok (.aload_n 0, 1) := by decide +kernel
theorem dX0_init_34 : decode cX0_init 34 = .ok (.iconst 0, 1) := by decide +kernel
theorem dX0_init_35 : decode cX0_init 35 = .ok (.putfield 25, 3) := by decide +kernel
theorem dX0_init_38 : decode cX0_init 38 = .ok (.aload_n 0, 1) := by decide +kernel
theorem dX0_init_39 : decode cX0_init 39 = .ok (.bipush 8, 2) := by decide +kernel
theorem dX0_init_41 : decode cX0_init 41 = .ok (.newarray .int, 2) := by decide +kernel
theorem dX0_init_43 : decode cX0_init 43 = .ok (.putfield 28, 3) := by decide +kernel
theorem dX0_init_46 : decode cX0_init 46 = .ok (.aload_n 0, 1) := by decide +kernel
theorem dX0_init_47 : decode cX0_init 47 = .ok (.sipush 192, 3) := by decide +kernel
theorem dX0_init_50 : decode cX0_init 50 = .ok (.newarray .int, 2) := by decide +kernel
theorem dX0_init_52 : decode cX0_init 52 = .ok (.putfield 31, 3) := by decide +kernel
theorem dX0_init_55 : decode cX0_init 55 = .ok (.aload_n 0, 1) := by decide +kernel
theorem dX0_init_56 : decode cX0_init 56 = .ok (.iconst 0, 1) := by decide +kernel
theorem dX0_init_57 : decode cX0_init 57 = .ok (.putfield 34, 3) := by decide +kernel
theorem dX0_init_60 : decode cX0_init 60 = .ok (.aload_n 0, 1) := by decide +kernel
theorem dX0_init_61 : decode cX0_init 61 = .ok (.bipush 40, 2) := by decide +kernel
theorem dX0_init_63 : decode cX0_init 63 = .ok (.newarray .int, 2) := by decide +kernel
theorem dX0_init_65 : decode cX0_init 65 = .ok (.putfield 37, 3) := by decide +kernel
theorem dX0_init_68 : decode cX0_init 68 = .ok (.aload_n 0, 1) := by decide +kernel
theorem dX0_init_69 : decode cX0_init 69 = .ok (.iconst 0, 1) := by decide +kernel
theorem dX0_init_70 : decode cX0_init 70 = .ok (.putfield 40, 3) := by decide +kernel
theorem dX0_init_73 : decode cX0_init 73 = .ok (.aload_n 0, 1) := by decide +kernel
theorem dX0_init_74 : decode cX0_init 74 = .ok (.bipush 8, 2) := by decide +kernel
theorem dX0_init_76 : decode cX0_init 76 = .ok (.newarray .int, 2) := by decide +kernel
theorem dX0_init_78 : decode cX0_init 78 = .ok (.putfield 43, 3) := by decide +kernel
theorem dX0_init_81 : decode cX0_init 81 = .ok (.getstatic 46, 3) := by decide +kernel
theorem dX0_init_84 : decode cX0_init 84 = .ok (.iconst 0, 1) := by decide +kernel
theorem dX0_init_85 : decode cX0_init 85 = .ok (.aload_n 0, 1) := by decide +kernel
theorem dX0_init_86 : decode cX0_init 86 = .ok (.getfield 9, 3) := by decide +kernel
theorem dX0_init_89 : decode cX0_init 89 = .ok (.iconst 0, 1) := by decide +kernel
theorem dX0_init_90 : decode cX0_init 90 = .ok (.iconst 4, 1) := by decide +kernel
theorem dX0_init_91 : decode cX0_init 91 = .ok (.invokestatic 49, 3) := by decide +kernel
theorem dX0_init_94 : decode cX0_init 94 = .ok (.return_, 1) := by decide +kernel
theorem dX0_takeOver_0 : decode cX0_takeOver 0 = .ok (.aload_n 1, 1) := by decide +kernel
theorem dX0_takeOver_1 : decode cX0_takeOver 1 = .ok (.getfield 9, 3) := by decide +kernel
theorem dX0_takeOver_4 : decode cX0_takeOver 4 = .ok (.iconst 0, 1) := by decide +kernel
theorem dX0_takeOver_5 : decode cX0_takeOver 5 = .ok (.aload_n 0, 1) := by decide +kernel
theorem dX0_takeOver_6 : decode cX0_takeOver 6 = .ok (.getfield 9, 3) := by decide +kernel
theorem dX0_takeOver_9 : decode cX0_takeOver 9 = .ok (.iconst 0, 1) := by decide +kernel
theorem dX0_takeOver_10 : decode cX0_takeOver 10 = .ok (.iconst 4, 1) := by decide +kernel
theorem dX0_takeOver_11 : decode cX0_takeOver 11 = .ok (.invokestatic 49, 3) := by decide +kernel
theorem dX0_takeOver_14 : decode cX0_takeOver 14 = .ok (.aload_n 0, 1) := by decide +kernel
theorem dX0_takeOver_15 : decode cX0_takeOver 15 = .ok (.aload_n 1, 1) := by decide +kernel
theorem dX0_takeOver_16 : decode cX0_takeOver 16 = .ok (.getfield 15, 3) := by decide +kernel
theorem dX0_takeOver_19 : decode cX0_takeOver 19 = .ok (.putfield 15, 3) := by decide +kernel
theorem dX0_takeOver_22 : decode cX0_takeOver 22 = .ok (.aload_n 1, 1) := by decide +kernel
theorem dX0_takeOver_23 : decode cX0_takeOver 23 = .ok (.getfield 19, 3) := by decide +kernel
theorem dX0_takeOver_26 : decode cX0_takeOver 26 = .ok (.iconst 0, 1) := by decide +kernel
theorem dX0_takeOver_27 : decode cX0_takeOver 27 = .ok (.aload_n 0, 1) := by decide +kernel
theorem dX0_takeOver_28 : decode cX0_takeOver 28 = .ok (.getfield 19, 3) := by decide +kernel
theorem dX0_takeOver_31 : decode cX0_takeOver 31 = .ok (.iconst 0, 1) := by decide +kernel
theorem dX0_takeOver_32 : decode cX0_takeOver 32 = .ok (.bipush 16, 2) := by decide +kernel
theorem dX0_takeOver_34 : decode cX0_takeOver 34 = .ok (.invokestatic 49, 3) := by decide +kernel
theorem dX0_takeOver_37 : decode cX0_takeOver 37 = .ok (.aload_n 1, 1) := by decide +kernel
theorem dX0_takeOver_38 : decode cX0_takeOver 38 = .ok (.getfield 22, 3) := by decide +kernel
theorem dX0_takeOver_41 : decode cX0_takeOver 41 = .ok (.iconst 0, 1) := by decide +kernel
theorem dX0_takeOver_42 : decode cX0_takeOver 42 = .ok (.aload_n 0, 1) := by decide +kernel
theorem dX0_takeOver_43 : decode cX0_takeOver 43 = .ok (.getfield 22, 3) := by decide +kernel
theorem dX0_takeOver_46 : decode cX0_takeOver 46 = .ok (.iconst 0, 1) := by decide +kernel
theorem dX0_takeOver_47 : decode cX0_takeOver 47 = .ok (.sipush 256, 3) := by decide +kernel
theorem dX0_takeOver_50 : decode cX0_takeOver 50 = .ok (.invokestatic 49, 3) := by decide +kernel
theorem dX0_takeOver_53 : decode cX0_takeOver 53 = .ok (.aload_n 0, 1) := by decide +kernel
theorem dX0_takeOver_54 : decode cX0_takeOver 54 = .ok (.aload_n 1, 1) := by decide +kernel
theorem dX0_takeOver_55 : decode cX0_takeOver 55 = .ok (.getfield 25, 3) := by decide +kernel
theorem dX0_takeOver_58 : decode cX0_takeOver 58 = .ok (.putfield 25, 3) := by decide +kernel
theorem dX0_takeOver_61 : decode cX0_takeOver 61 = .ok (.aload_n 1, 1) := by decide +kernel
theorem dX0_takeOver_62 : decode cX0_takeOver 62 = .ok (.getfield 28, 3) := by decide +kernel
theorem dX0_takeOver_65 : decode cX0_takeOver 65 = .ok (.iconst 0, 1) := by decide +kernel
theorem dX0_takeOver_66 : decode cX0_takeOver 66 = .ok (.aload_n 0, 1) := by decide +kernel
theorem dX0_takeOver_67 : decode cX0_takeOver 67 = .ok (.getfield 28, 3) := by decide +kernel
theorem dX0_takeOver_70 : decode cX0_takeOver 70 = .ok (.iconst 0, 1) := by decide +kernel
theorem dX0_takeOver_71 : decode cX0_takeOver 71 = .ok (.bipush 8, 2) := by decide +kernel
theorem dX0_takeOver_73 : decode cX0_takeOver 73 = .ok (.invokestatic 49, 3) := by decide +kernel
theorem dX0_takeOver_76 : decode cX0_takeOver 76 = .ok (.aload_n 1, 1) := by decide +kernel
theorem dX0_takeOver_77 : decode cX0_takeOver 77 = .ok (.getfield 31, 3) := by decide +kernel
theorem dX0_takeOver_80 : decode cX0_takeOver 80 = .ok (.iconst 0, 1) := by decide +kernel
theorem dX0_takeOver_81 : decode cX0_takeOver 81 = .ok (.aload_n 0, 1) := by decide +kernel
theorem dX0_takeOver_82 : decode cX0_takeOver 82 = .ok (.getfield 31, 3) := by decide +kernel
theorem dX0_takeOver_85 : decode cX0_takeOver 85 = .ok (.iconst 0, 1) := by decide +kernel
theorem dX0_takeOver_86 : decode cX0_takeOver 86 = .ok (.sipush 192, 3) := by decide +kernel
theorem dX0_takeOver_89 : decode cX0_takeOver 89 = .ok (.invokestatic 49, 3) := by decide +kernel
theorem dX0_takeOver_92 : decode cX0_takeOver 92 = .ok (.aload_n 0, 1) := by decide +kernel
theorem dX0_takeOver_93 : decode cX0_takeOver 93 = .ok (.aload_n 1, 1) := by decide +kernel
theorem dX0_takeOver_94 : decode cX0_takeOver 94 = .ok (.getfield 34, 3) := by decide +kernel
theorem dX0_takeOver_97 : decode cX0_takeOver 97 = .ok (.putfield 34, 3) := by decide +kernel
theorem dX0_takeOver_100 : decode cX0_takeOver 100 = .ok (.aload_n 1, 1) := by decide +kernel
theorem dX0_takeOver_101 : decode cX0_takeOver 101 = .ok (.getfield 37, 3) := by decide +kernel
theorem dX0_takeOver_104 : decode cX0_takeOver 104 = .ok (.iconst 0, 1) := by decide +kernel
theorem dX0_takeOver_105 : decode cX0_takeOver 105 = .ok (.aload_n 0, 1) := by decide +kernel
theorem dX0_takeOver_106 : decode cX0_takeOver 106 = .ok (.getfield 37, 3) := by decide +kernel
theorem dX0_takeOver_109 : decode cX0_takeOver 109 = .ok (.iconst 0, 1) := by decide +kernel
theorem dX0_takeOver_110 : decode cX0_takeOver 110 = .ok (.bipush 40, 2) := by decide +kernel
theorem dX0_takeOver_112 : decode cX0_takeOver 112 = .ok (.invokestatic 49, 3) := by decide +kernel
theorem dX0_takeOver_115 : decode cX0_takeOver 115 = .ok (.aload_n 0, 1) := by decide +kernel
theorem dX0_takeOver_116 : decode cX0_takeOver 116 = .ok (.aload_n 1, 1) := by decide +kernel
theorem dX0_takeOver_117 : decode cX0_takeOver 117 = .ok (.getfield 40, 3) := by decide +kernel
theorem dX0_takeOver_120 : decode cX0_takeOver 120 = .ok (.putfield 40, 3) := by decide +kernel
theorem dX0_takeOver_123 : decode cX0_takeOver 123 = .ok (.aload_n 1, 1) := by decide +kernel
theorem dX0_takeOver_124 : decode cX0_takeOver 124 = .ok (.getfield 43, 3) := by decide +kernel
theorem dX0_takeOver_127 : decode cX0_takeOver 127 = .ok (.iconst 0, 1) := by decide +kernel
theorem dX0_takeOver_128 : decode cX0_takeOver 128 = .ok (.aload_n 0, 1) := by decide +kernel
theorem dX0_takeOver_129 : decode cX0_takeOver 129 = .ok (.getfield 43, 3) := by decide +kernel
theorem dX0_takeOver_132 : decode cX0_takeOver 132 = .ok (.iconst 0, 1) := by decide +kernel
theorem dX0_takeOver_133 : decode cX0_takeOver 133 = .ok (.bipush 8, 2) := by decide +kernel
theorem dX0_takeOver_135 : decode cX0_takeOver 135 = .ok (.invokestatic 49, 3) := by decide +kernel
theorem dX0_takeOver_138 : decode cX0_takeOver 138 = .ok (.return_, 1) := by decide +kernel
theorem dX0_hasLine_0 : decode cX0_hasLine 0 = .ok (.iload_n 1, 1) := by decide +kernel
theorem dX0_hasLine_1 : decode cX0_hasLine 1 = .ok (.ifCond .lt 15, 3) := by decide +kernel
theorem dX0_hasLine_4 : decode cX0_hasLine 4 = .ok (.iload_n 1, 1) := by decide +kernel
theorem dX0_hasLine_5 : decode cX0_hasLine 5 = .ok (.aload_n 0, 1) := by decide +kernel
theorem dX0_hasLine_6 : decode cX0_hasLine 6 = .ok (.getfield 15, 3) := by decide +kernel
theorem dX0_hasLine_9 : decode cX0_hasLine 9 = .ok (.if_icmp .ge 7, 3) := by decide +kernel
theorem dX0_hasLine_12 : decode cX0_hasLine 12 = .ok (.iconst 1, 1) := by decide +kernel
theorem dX0_hasLine_13 : decode cX0_hasLine 13 = .ok (.goto 4, 3) := by decide +kernel
theorem dX0_hasLine_16 : decode cX0_hasLine 16 = .ok (.iconst 0, 1) := by decide +kernel
theorem dX0_hasLine_17 : decode cX0_hasLine 17 = .ok (.ireturn, 1) := by decide +kernel
theorem dX0_hasPhrase_0 : decode cX0_hasPhrase 0 = .ok (.iload_n 1, 1) := by decide +kernel
theorem dX0_hasPhrase_1 : decode cX0_hasPhrase 1 = .ok (.ifCond .lt 15, 3) := by decide +kernel
theorem dX0_hasPhrase_4 : decode cX0_hasPhrase 4 = .ok (.iload_n 1, 1) := by decide +kernel
theorem dX0_hasPhrase_5 : decode cX0_hasPhrase 5 = .ok (.aload_n 0, 1) := by decide +kernel
theorem dX0_hasPhrase_6 : decode cX0_hasPhrase 6 = .ok (.getfield 25, 3) := by decide +kernel
theorem dX0_hasPhrase_9 : decode cX0_hasPhrase 9 = .ok (.if_icmp .ge 7, 3) := by decide +kernel
theorem dX0_hasPhrase_12 : decode cX0_hasPhrase 12 = .ok (.iconst 1, 1) := by decide +kernel
theorem dX0_hasPhrase_13 : decode cX0_hasPhrase 13 = .ok (.goto 4, 3) := by decide +kernel
theorem dX0_hasPhrase_16 : decode cX0_hasPhrase 16 = .ok (.iconst 0, 1) := by decide +kernel
theorem dX0_hasPhrase_17 : decode cX0_hasPhrase 17 = .ok (.ireturn, 1) := by decide +kernel
theorem dX0_hasSyllable_0 : decode cX0_hasSyllable 0 = .ok (.aload_n 0, 1) := by decide +kernel
theorem dX0_hasSyllable_1 : decode cX0_hasSyllable 1 = .ok (.iload_n 1, 1) := by decide +kernel
theorem dX0_hasSyllable_2 : decode cX0_hasSyllable 2 = .ok (.invokevirtual 55, 3) := by decide +kernel
theorem dX0_hasSyllable_5 : decode cX0_hasSyllable 5 = .ok (.ifCond .eq 21, 3) := by decide +kernel
theorem dX0_hasSyllable_8 : decode cX0_hasSyllable 8 = .ok (.iload_n 2, 1) := by decide +kernel
theorem dX0_hasSyllable_9 : decode cX0_hasSyllable 9 = .ok (.ifCond .lt 17, 3) := by decide +kernel
theorem dX0_hasSyllable_12 : decode cX0_hasSyllable 12 = .ok (.iload_n 2, 1) := by decide +kernel
theorem dX0_hasSyllable_13 : decode cX0_hasSyllable 13 = .ok (.aload_n 0, 1) := by decide +kernel
theorem dX0_hasSyllable_14 : decode cX0_hasSyllable 14 = .ok (.getfield 19, 3) := by decide +kernel
theorem dX0_hasSyllable_17 : decode cX0_hasSyllable 17 = .ok (.iload_n 1, 1) := by decide +kernel
theorem dX0_hasSyllable_18 : decode cX0_hasSyllable 18 = .ok (.iaload, 1) := by decide +kernel
theorem dX0_hasSyllable_19 : decode cX0_hasSyllable 19 = .ok (.if_icmp .ge 7, 3) := by decide +kernel
theorem dX0_hasSyllable_22 : decode cX0_hasSyllable 22 = .ok (.iconst 1, 1) := by decide +kernel
theorem dX0_hasSyllable_23 : decode cX0_hasSyllable 23 = .ok (.goto 4, 3) := by decide +kernel
theorem dX0_hasSyllable_26 : decode cX0_hasSyllable 26 = .ok (.iconst 0, 1) := by decide +kernel
theorem dX0_hasSyllable_27 : decode cX0_hasSyllable 27 = .ok (.ireturn, 1) := by decide +kernel
theorem dX0_hasBeat_0 : decode cX0_hasBeat 0 = .ok (.aload_n 0, 1) := by decide +kernel
theorem dX0_hasBeat_1 : decode cX0_hasBeat 1 = .ok (.iload_n 1, 1) := by decide +kernel
theorem dX0_hasBeat_2 : decode cX0_hasBeat 2 = .ok (.invokevirtual 59, 3) := by decide +kernel
theorem dX0_hasBeat_5 : decode cX0_hasBeat 5 = .ok (.ifCond .eq 21, 3) := by decide +kernel
theorem dX0_hasBeat_8 : decode cX0_hasBeat 8 = .ok (.iload_n 2, 1) := by decide +kernel
theorem dX0_hasBeat_9 : decode cX0_hasBeat 9 = .ok (.ifCond .lt 17, 3) := by decide +kernel
theorem dX0_hasBeat_12 : decode cX0_hasBeat 12 = .ok (.iload_n 2, 1) := by decide +kernel
theorem dX0_hasBeat_13 : decode cX0_hasBeat 13 = .ok (.aload_n 0, 1) := by decide +kernel
theorem dX0_hasBeat_14 : decode cX0_hasBeat 14 = .ok (.getfield 28, 3) := by decide +kernel
theorem dX0_hasBeat_17 : decode cX0_hasBeat 17 = .ok (.iload_n 1, 1) := by decide +kernel
theorem dX0_hasBeat_18 : decode cX0_hasBeat 18 = .ok (.iaload, 1) := by decide +kernel
theorem dX0_hasBeat_19 : decode cX0_hasBeat 19 = .ok (.if_icmp .ge 7, 3) := by decide +kernel
theorem dX0_hasBeat_22 : decode cX0_hasBeat 22 = .ok (.iconst 1, 1) := by decide +kernel
theorem dX0_hasBeat_23 : decode cX0_hasBeat 23 = .ok (.goto 4, 3) := by decide +kernel
theorem dX0_hasBeat_26 : decode cX0_hasBeat 26 = .ok (.iconst 0, 1) := by decide +kernel
theorem dX0_hasBeat_27 : decode cX0_hasBeat 27 = .ok (.ireturn, 1) := by decide +kernel
theorem dX0_beginPart_0 : decode cX0_beginPart 0 = .ok (.iload_n 1, 1) := by decide +kernel
theorem dX0_beginPart_1 : decode cX0_beginPart 1 = .ok (.ifCond .eq 35, 3) := by decide +kernel
theorem dX0_beginPart_4 : decode cX0_beginPart 4 = .ok (.aload_n 0, 1) := by decide +kernel
theorem dX0_beginPart_5 : decode cX0_beginPart 5 = .ok (.getfield 25, 3) := by decide +kernel
theorem dX0_beginPart_8 : decode cX0_beginPart 8 = .ok (.bipush 8, 2) := by decide +kernel
theorem dX0_beginPart_10 : decode cX0_beginPart 10 = .ok (.if_icmp .ge 26, 3) := by decide +kernel
theorem dX0_beginPart_13 : decode cX0_beginPart 13 = .ok (.aload_n 0, 1) := by decide +kernel
theorem dX0_beginPart_14 : decode cX0_beginPart 14 = .ok (.getfield 28, 3) := by decide +kernel
theorem dX0_beginPart_17 : decode cX0_beginPart 17 = .ok (.aload_n 0, 1) := by decide +kernel
theorem dX0_beginPart_18 : decode cX0_beginPart 18 = .ok (.getfield 25, 3) := by decide +kernel
theorem dX0_beginPart_21 : decode cX0_beginPart 21 = .ok (.iconst 0, 1) := by decide +kernel
theorem dX0_beginPart_22 : decode cX0_beginPart 22 = .ok (.iastore, 1) := by decide +kernel
theorem dX0_beginPart_23 : decode cX0_beginPart 23 = .ok (.aload_n 0, 1) := by decide +kernel
theorem dX0_beginPart_24 : decode cX0_beginPart 24 = .ok (.dup, 1) := by decide +kernel
theorem dX0_beginPart_25 : decode cX0_beginPart 25 = .ok (.getfield 25, 3) := by decide +kernel
theorem dX0_beginPart_28 : decode cX0_beginPart 28 = .ok (.iconst 1, 1) := by decide +kernel
theorem dX0_beginPart_29 : decode cX0_beginPart 29 = .ok (.iadd, 1) := by decide +kernel
theorem dX0_beginPart_30 : decode cX0_beginPart 30 = .ok (.putfield 25, 3) := by decide +kernel
theorem dX0_beginPart_33 : decode cX0_beginPart 33 = .ok (.goto 36, 3) := by decide +kernel
theorem dX0_beginPart_36 : decode cX0_beginPart 36 = .ok (.iload_n 1, 1) := by decide +kernel
theorem dX0_beginPart_37 : decode cX0_beginPart 37 = .ok (.ifCond .ne 32, 3) := by decide +kernel
theorem dX0_beginPart_40 : decode cX0_beginPart 40 = .ok (.aload_n 0, 1) := by decide +kernel
theorem dX0_beginPart_41 : decode cX0_beginPart 41 = .ok (.getfield 15, 3) := by decide +kernel
theorem dX0_beginPart_44 : decode cX0_beginPart 44 = .ok (.bipush 16, 2) := by decide +kernel
theorem dX0_beginPart_46 : decode cX0_beginPart 46 = .ok (.if_icmp .ge 23, 3) := by decide +kernel
theorem dX0_beginPart_49 : decode cX0_beginPart 49 = .ok (.aload_n 0, 1) := by decide +kernel
theorem dX0_beginPart_50 : decode cX0_beginPart 50 = .ok (.getfield 19, 3) := by decide +kernel
theorem dX0_beginPart_53 : decode cX0_beginPart 53 = .ok (.aload_n 0, 1) := by decide +kernel
theorem dX0_beginPart_54 : decode cX0_beginPart 54 = .ok (.getfield 15, 3) := by decide +kernel
theorem dX0_beginPart_57 : decode cX0_beginPart 57 = .ok (.iconst 0, 1) := by decide +kernel
theorem dX0_beginPart_58 : decode cX0_beginPart 58 = .ok (.iastore, 1) := by decide +kernel
theorem dX0_beginPart_59 : decode cX0_beginPart 59 = .ok (.aload_n 0, 1) := by decide +kernel
theorem dX0_beginPart_60 : decode cX0_beginPart 60 = .ok (.dup, 1) := by decide +kernel
theorem dX0_beginPart_61 : decode cX0_beginPart 61 = .ok (.getfield 15, 3) := by decide +kernel
theorem dX0_beginPart_64 : decode cX0_beginPart 64 = .ok (.iconst 1, 1) := by decide +kernel
theorem dX0_beginPart_65 : decode cX0_beginPart 65 = .ok (.iadd, 1) := by decide +kernel
theorem dX0_beginPart_66 : decode cX0_beginPart 66 = .ok (.putfield 15, 3) := by decide +kernel
theorem dX0_beginPart_69 : decode cX0_beginPart 69 = .ok (.return_, 1) := by decide +kernel
theorem dX0_addSign_0 : decode cX0_addSign 0 = .ok (.iload_n 1, 1) := by decide +kernel
theorem dX0_addSign_1 : decode cX0_addSign 1 = .ok (.invokestatic 62, 3) := by decide +kernel
theorem dX0_addSign_4 : decode cX0_addSign 4 = .ok (.ifCond .eq 21, 3) := by decide +kernel
theorem dX0_addSign_7 : decode cX0_addSign 7 = .ok (.aload_n 0, 1) := by decide +kernel
theorem dX0_addSign_8 : decode cX0_addSign 8 = .ok (.iload_n 1, 1) := by decide +kernel
theorem dX0_addSign_9 : decode cX0_addSign 9 = .ok (.bipush 88, 2) := by decide +kernel
theorem dX0_addSign_11 : decode cX0_addSign 11 = .ok (.if_icmp .ne 7, 3) := by decide +kernel
theorem dX0_addSign_14 : decode cX0_addSign 14 = .ok (.iconst 1, 1) := by decide +kernel
theorem dX0_addSign_15 : decode cX0_addSign 15 = .ok (.goto 4, 3) := by decide +kernel
theorem dX0_addSign_18 : decode cX0_addSign 18 = .ok (.iconst 0, 1) := by decide +kernel
theorem dX0_addSign_19 : decode cX0_addSign 19 = .ok (.invokevirtual 68, 3) := by decide +kernel
theorem dX0_addSign_22 : decode cX0_addSign 22 = .ok (.goto 35, 3) := by decide +kernel
theorem dX0_addSign_25 : decode cX0_addSign 25 = .ok (.iload_n 1, 1) := by decide +kernel
theorem dX0_addSign_26 : decode cX0_addSign 26 = .ok (.invokestatic 72, 3) := by decide +kernel
theorem dX0_addSign_29 : decode cX0_addSign 29 = .ok (.ifCond .eq 28, 3) := by decide +kernel
theorem dX0_addSign_32 : decode cX0_addSign 32 = .ok (.aload_n 0, 1) := by decide +kernel
theorem dX0_addSign_33 : decode cX0_addSign 33 = .ok (.iload_n 1, 1) := by decide +kernel
theorem dX0_addSign_34 : decode cX0_addSign 34 = .ok (.bipush 115, 2) := by decide +kernel
theorem dX0_addSign_36 : decode cX0_addSign 36 = .ok (.if_icmp .ne 7, 3) := by decide +kernel
theorem dX0_addSign_39 : decode cX0_addSign 39 = .ok (.iconst 2, 1) := by decide +kernel
theorem dX0_addSign_40 : decode cX0_addSign 40 = .ok (.goto 14, 3) := by decide +kernel
theorem dX0_addSign_43 : decode cX0_addSign 43 = .ok (.iload_n 1, 1) := by decide +kernel
theorem dX0_addSign_44 : decode cX0_addSign 44 = .ok (.bipush 119, 2) := by decide +kernel
theorem dX0_addSign_46 : decode cX0_addSign 46 = .ok (.if_icmp .ne 7, 3) := by decide +kernel
theorem dX0_addSign_49 : decode cX0_addSign 49 = .ok (.iconst 1, 1) := by decide +kernel
theorem dX0_addSign_50 : decode cX0_addSign 50 = .ok (.goto 4, 3) := by decide +kernel
theorem dX0_addSign_53 : decode cX0_addSign 53 = .ok (.iconst 0, 1) := by decide +kernel
theorem dX0_addSign_54 : decode cX0_addSign 54 = .ok (.invokevirtual 75, 3) := by decide +kernel
theorem dX0_addSign_57 : decode cX0_addSign 57 = .ok (.return_, 1) := by decide +kernel
theorem dX0_addSyllable_0 : decode cX0_addSyllable 0 = .ok (.aload_n 0, 1) := by decide +kernel
theorem dX0_addSyllable_1 : decode cX0_addSyllable 1 = .ok (.getfield 15, 3) := by decide +kernel
theorem dX0_addSyllable_4 : decode cX0_addSyllable 4 = .ok (.iconst 1, 1) := by decide +kernel
theorem dX0_addSyllable_5 : decode cX0_addSyllable 5 = .ok (.isub, 1) := by decide +kernel
theorem dX0_addSyllable_6 : decode cX0_addSyllable 6 = .ok (.istore_n 2, 1) := by decide +kernel
theorem dX0_addSyllable_7 : decode cX0_addSyllable 7 = .ok (.iload_n 2, 1) := by decide +kernel
theorem dX0_addSyllable_8 : decode cX0_addSyllable 8 = .ok (.ifCond .lt 41, 3) := by decide +kernel
theorem dX0_addSyllable_11 : decode cX0_addSyllable 11 = .ok (.aload_n 0, 1) := by decide +kernel
theorem dX0_addSyllable_12 : decode cX0_addSyllable 12 = .ok (.getfield 19, 3) := by decide +kernel
theorem dX0_addSyllable_15 : decode cX0_addSyllable 15 = .ok (.iload_n 2, 1) := by decide +kernel
theorem dX0_addSyllable_16 : decode cX0_addSyllable 16 = .ok (.iaload, 1) := by decide +kernel
theorem dX0_addSyllable_17 : decode cX0_addSyllable 17 = .ok (.bipush 16, 2) := by decide +kernel
theorem dX0_addSyllable_19 : decode cX0_addSyllable 19 = .ok (.if_icmp .ge 30, 3) := by decide +kernel
theorem dX0_addSyllable_22 : decode cX0_addSyllable 22 = .ok (.aload_n 0, 1) := by decide +kernel
theorem dX0_addSyllable_23 : decode cX0_addSyllable 23 = .ok (.getfield 22, 3) := by decide +kernel
theorem dX0_addSyllable_26 : decode cX0_addSyllable 26 = .ok (.iload_n 2, 1) := by decide +kernel
theorem dX0_addSyllable_27 : decode cX0_addSyllable 27 = .ok (.bipush 16, 2) := by decide +kernel
theorem dX0_addSyllable_29 : decode cX0_addSyllable 29 = .ok (.imul, 1) := by decide +kernel
theorem dX0_addSyllable_30 : decode cX0_addSyllable 30 = .ok (.aload_n 0, 1) := by decide +kernel
theorem dX0_addSyllable_31 : decode cX0_addSyllable 31 = .ok (.getfield 19, 3) := by decide +kernel
theorem dX0_addSyllable_34 : decode cX0_addSyllable 34 = .ok (.iload_n 2, 1) := by decide +kernel
theorem dX0_addSyllable_35 : decode cX0_addSyllable 35 = .ok (.iaload, 1) := by decide +kernel
theorem dX0_addSyllable_36 : decode cX0_addSyllable 36 = .ok (.iadd, 1) := by decide +kernel
theorem dX0_addSyllable_37 : decode cX0_addSyllable 37 = .ok (.iload_n 1, 1) := by decide +kernel
theorem dX0_addSyllable_38 : decode cX0_addSyllable 38 = .ok (.iastore, 1) := by decide +kernel
theorem dX0_addSyllable_39 : decode cX0_addSyllable 39 = .ok (.aload_n 0, 1) := by decide +kernel
theorem dX0_addSyllable_40 : decode cX0_addSyllable 40 = .ok (.getfield 19, 3) := by decide +kernel
theorem dX0_addSyllable_43 : decode cX0_addSyllable 43 = .ok (.iload_n 2, 1) := by decide +kernel
theorem dX0_addSyllable_44 : decode cX0_addSyllable 44 = .ok (.dup2, 1) := by decide +kernel
theorem dX0_addSyllable_45 : decode cX0_addSyllable 45 = .ok (.iaload, 1) := by decide +kernel
theorem dX0_addSyllable_46 : decode cX0_addSyllable 46 = .ok (.iconst 1, 1) := by decide +kernel
theorem dX0_addSyllable_47 : decode cX0_addSyllable 47 = .ok (.iadd, 1) := by decide +kernel
theorem dX0_addSyllable_48 : decode cX0_addSyllable 48 = .ok (.iastore, 1) := by decide +kernel
theorem dX0_addSyllable_49 : decode cX0_addSyllable 49 = .ok (.return_, 1) := by decide +kernel
theorem dX0_addBeat_0 : decode cX0_addBeat 0 = .ok (.aload_n 0, 1) := by decide +kernel
theorem dX0_addBeat_1 : decode cX0_addBeat 1 = .ok (.getfield 25, 3) := by decide +kernel
theorem dX0_addBeat_4 : decode cX0_addBeat 4 = .ok (.iconst 1, 1) := by decide +kernel
theorem dX0_addBeat_5 : decode cX0_addBeat 5 = .ok (.isub, 1) := by decide +kernel
theorem dX0_addBeat_6 : decode cX0_addBeat 6 = .ok (.istore_n 2, 1) := by decide +kernel
theorem dX0_addBeat_7 : decode cX0_addBeat 7 = .ok (.iload_n 2, 1) := by decide +kernel
theorem dX0_addBeat_8 : decode cX0_addBeat 8 = .ok (.ifCond .lt 41, 3) := by decide +kernel
theorem dX0_addBeat_11 : decode cX0_addBeat 11 = .ok (.aload_n 0, 1) := by decide +kernel
theorem dX0_addBeat_12 : decode cX0_addBeat 12 = .ok (.getfield 28, 3) := by decide +kernel
theorem dX0_addBeat_15 : decode cX0_addBeat 15 = .ok (.iload_n 2, 1) := by decide +kernel
theorem dX0_addBeat_16 : decode cX0_addBeat 16 = .ok (.iaload, 1) := by decide +kernel
theorem dX0_addBeat_17 : decode cX0_addBeat 17 = .ok (.bipush 24, 2) := by decide +kernel
theorem dX0_addBeat_19 : decode cX0_addBeat 19 = .ok (.if_icmp .ge 30, 3) := by decide +kernel
theorem dX0_addBeat_22 : decode cX0_addBeat 22 = .ok (.aload_n 0, 1) := by decide +kernel
theorem dX0_addBeat_23 : decode cX0_addBeat 23 = .ok (.getfield 31, 3) := by decide +kernel
theorem dX0_addBeat_26 : decode cX0_addBeat 26 = .ok (.iload_n 2, 1) := by decide +kernel
theorem dX0_addBeat_27 : decode cX0_addBeat 27 = .ok (.bipush 24, 2) := by decide +kernel
theorem dX0_addBeat_29 : decode cX0_addBeat 29 = .ok (.imul, 1) := by decide +kernel
theorem dX0_addBeat_30 : decode cX0_addBeat 30 = .ok (.aload_n 0, 1) := by decide +kernel
theorem dX0_addBeat_31 : decode cX0_addBeat 31 = .ok (.getfield 28, 3) := by decide +kernel
theorem dX0_addBeat_34 : decode cX0_addBeat 34 = .ok (.iload_n 2, 1) := by decide +kernel
theorem dX0_addBeat_35 : decode cX0_addBeat 35 = .ok (.iaload, 1) := by decide +kernel
theorem dX0_addBeat_36 : decode cX0_addBeat 36 = .ok (.iadd, 1) := by decide +kernel
theorem dX0_addBeat_37 : decode cX0_addBeat 37 = .ok (.iload_n 1, 1) := by decide +kernel
theorem dX0_addBeat_38 : decode cX0_addBeat 38 = .ok (.iastore, 1) := by decide +kernel
theorem dX0_addBeat_39 : decode cX0_addBeat 39 = .ok (.aload_n 0, 1) := by decide +kernel
theorem dX0_addBeat_40 : decode cX0_addBeat 40 = .ok (.getfield 28, 3) := by decide +kernel
theorem dX0_addBeat_43 : decode cX0_addBeat 43 = .ok (.iload_n 2, 1) := by decide +kernel
theorem dX0_addBeat_44 : decode cX0_addBeat 44 = .ok (.dup2, 1) := by decide +kernel
theorem dX0_addBeat_45 : decode cX0_addBeat 45 = .ok (.iaload, 1) := by decide +kernel
theorem dX0_addBeat_46 : decode cX0_addBeat 46 = .ok (.iconst 1, 1) := by decide +kernel
theorem dX0_addBeat_47 : decode cX0_addBeat 47 = .ok (.iadd, 1) := by decide +kernel
theorem dX0_addBeat_48 : decode cX0_addBeat 48 = .ok (.iastore, 1) := by decide +kernel
theorem dX0_addBeat_49 : decode cX0_addBeat 49 = .ok (.return_, 1) := by decide +kernel
theorem dX0_removeLine_0 : decode cX0_removeLine 0 = .ok (.aload_n 0, 1) := by decide +kernel
theorem dX0_removeLine_1 : decode cX0_removeLine 1 = .ok (.getfield 15, 3) := by decide +kernel
theorem dX0_removeLine_4 : decode cX0_removeLine 4 = .ok (.iload_n 1, 1) := by decide +kernel
theorem dX0_removeLine_5 : decode cX0_removeLine 5 = .ok (.isub, 1) := by decide +kernel
theorem dX0_removeLine_6 : decode cX0_removeLine 6 = .ok (.iconst 1, 1) := by decide +kernel
theorem dX0_removeLine_7 : decode cX0_removeLine 7 = .ok (.isub, 1) := by decide +kernel
theorem dX0_removeLine_8 : decode cX0_removeLine 8 = .ok (.istore_n 2, 1) := by decide +kernel
theorem dX0_removeLine_9 : decode cX0_removeLine 9 = .ok (.aload_n 0, 1) := by decide +kernel
theorem dX0_removeLine_10 : decode cX0_removeLine 10 = .ok (.getfield 19, 3) := by decide +kernel
theorem dX0_removeLine_13 : decode cX0_removeLine 13 = .ok (.iload_n 1, 1) := by decide +kernel
theorem dX0_removeLine_14 : decode cX0_removeLine 14 = .ok (.iconst 1, 1) := by decide +kernel
theorem dX0_removeLine_15 : decode cX0_removeLine 15 = .ok (.iadd, 1) := by decide +kernel
theorem dX0_removeLine_16 : decode cX0_removeLine 16 = .ok (.aload_n 0, 1) := by decide +kernel
theorem dX0_removeLine_17 : decode cX0_removeLine 17 = .ok (.getfield 19, 3) := by decide +kernel
theorem dX0_removeLine_20 : decode cX0_removeLine 20 = .ok (.iload_n 1, 1) := by decide +kernel
theorem dX0_removeLine_21 : decode cX0_removeLine 21 = .ok (.iload_n 2, 1) := by decide +kernel
theorem dX0_removeLine_22 : decode cX0_removeLine 22 = .ok (.invokestatic 49, 3) := by decide +kernel
theorem dX0_removeLine_25 : decode cX0_removeLine 25 = .ok (.aload_n 0, 1) := by decide +kernel
theorem dX0_removeLine_26 : decode cX0_removeLine 26 = .ok (.getfield 22, 3) := by decide +kernel
theorem dX0_removeLine_29 : decode cX0_removeLine 29 = .ok (.iload_n 1, 1) := by decide +kernel
theorem dX0_removeLine_30 : decode cX0_removeLine 30 = .ok (.iconst 1, 1) := by decide +kernel
theorem dX0_removeLine_31 : decode cX0_removeLine 31 = .ok (.iadd, 1) := by decide +kernel
theorem dX0_removeLine_32 : decode cX0_removeLine 32 = .ok (.bipush 16, 2) := by decide +kernel
theorem dX0_removeLine_34 : decode cX0_removeLine 34 = .ok (.imul, 1) := by decide +kernel
theorem dX0_removeLine_35 : decode cX0_removeLine 35 = .ok (.aload_n 0, 1) := by decide +kernel
theorem dX0_removeLine_36 : decode cX0_removeLine 36 = .ok (.getfield 22, 3) := by decide +kernel
theorem dX0_removeLine_39 : decode cX0_removeLine 39 = .ok (.iload_n 1, 1) := by decide +kernel
theorem dX0_removeLine_40 : decode cX0_removeLine 40 = .ok (.bipush 16, 2) := by decide +kernel
theorem dX0_removeLine_42 : decode cX0_removeLine 42 = .ok (.imul, 1) := by decide +kernel
theorem dX0_removeLine_43 : decode cX0_removeLine 43 = .ok (.iload_n 2, 1) := by decide +kernel
theorem dX0_removeLine_44 : decode cX0_removeLine 44 = .ok (.bipush 16, 2) := by decide +kernel
theorem dX0_removeLine_46 : decode cX0_removeLine 46 = .ok (.imul, 1) := by decide +kernel
theorem dX0_removeLine_47 : decode cX0_removeLine 47 = .ok (.invokestatic 49, 3) := by decide +kernel
theorem dX0_removeLine_50 : decode cX0_removeLine 50 = .ok (.aload_n 0, 1) := by decide +kernel
theorem dX0_removeLine_51 : decode cX0_removeLine 51 = .ok (.dup, 1) := by decide +kernel
theorem dX0_removeLine_52 : decode cX0_removeLine 52 = .ok (.getfield 15, 3) := by decide +kernel
theorem dX0_removeLine_55 : decode cX0_removeLine 55 = .ok (.iconst 1, 1) := by decide +kernel
theorem dX0_removeLine_56 : decode cX0_removeLine 56 = .ok (.isub, 1) := by decide +kernel
theorem dX0_removeLine_57 : decode cX0_removeLine 57 = .ok (.putfield 15, 3) := by decide +kernel
theorem dX0_removeLine_60 : decode cX0_removeLine 60 = .ok (.aload_n 0, 1) := by decide +kernel
theorem dX0_removeLine_61 : decode cX0_removeLine 61 = .ok (.aload_n 0, 1) := by decide +kernel
theorem dX0_removeLine_62 : decode cX0_removeLine 62 = .ok (.getfield 37, 3) := by decide +kernel
theorem dX0_removeLine_65 : decode cX0_removeLine 65 = .ok (.aload_n 0, 1) := by decide +kernel
theorem dX0_removeLine_66 : decode cX0_removeLine 66 = .ok (.getfield 34, 3) := by decide +kernel
theorem dX0_removeLine_69 : decode cX0_removeLine 69 = .ok (.iload_n 1, 1) := by decide +kernel
theorem dX0_removeLine_70 : decode cX0_removeLine 70 = .ok (.invokestatic 78, 3) := by decide +kernel
theorem dX0_removeLine_73 : decode cX0_removeLine 73 = .ok (.putfield 34, 3) := by decide +kernel
theorem dX0_removeLine_76 : decode cX0_removeLine 76 = .ok (.return_, 1) := by decide +kernel
theorem dX0_removePhrase_0 : decode cX0_removePhrase 0 = .ok (.aload_n 0, 1) := by decide +kernel
theorem dX0_removePhrase_1 : decode cX0_removePhrase 1 = .ok (.getfield 25, 3) := by decide +kernel
theorem dX0_removePhrase_4 : decode cX0_removePhrase 4 = .ok (.iload_n 1, 1) := by decide +kernel
theorem dX0_removePhrase_5 : decode cX0_removePhrase 5 = .ok (.isub, 1) := by decide +kernel
theorem dX0_removePhrase_6 : decode cX0_removePhrase 6 = .ok (.iconst 1, 1) := by decide +kernel
theorem dX0_removePhrase_7 : decode cX0_removePhrase 7 = .ok (.isub, 1) := by decide +kernel
theorem dX0_removePhrase_8 : decode cX0_removePhrase 8 = .ok (.istore_n 2, 1) := by decide +kernel
theorem dX0_removePhrase_9 : decode cX0_removePhrase 9 = .ok (.aload_n 0, 1) := by decide +kernel
theorem dX0_removePhrase_10 : decode cX0_removePhrase 10 = .ok (.getfield 28, 3) := by decide +kernel
theorem dX0_removePhrase_13 : decode cX0_removePhrase 13 = .ok (.iload_n 1, 1) := by decide +kernel
theorem dX0_removePhrase_14 : decode cX0_removePhrase 14 = .ok (.iconst 1, 1) := by decide +kernel
theorem dX0_removePhrase_15 : decode cX0_removePhrase 15 = .ok (.iadd, 1) := by decide +kernel
theorem dX0_removePhrase_16 : decode cX0_removePhrase 16 = .ok (.aload_n 0, 1) := by decide +kernel
theorem dX0_removePhrase_17 : decode cX0_removePhrase 17 = .ok (.getfield 28, 3) := by decide +kernel
theorem dX0_removePhrase_20 : decode cX0_removePhrase 20 = .ok (.iload_n 1, 1) := by decide +kernel
theorem dX0_removePhrase_21 : decode cX0_removePhrase 21 = .ok (.iload_n 2, 1) := by decide +kernel
theorem dX0_removePhrase_22 : decode cX0_removePhrase 22 = .ok (.invokestatic 49, 3) := by decide +kernel
theorem dX0_removePhrase_25 : decode cX0_removePhrase 25 = .ok (.aload_n 0, 1) := by decide +kernel
theorem dX0_removePhrase_26 : decode cX0_removePhrase 26 = .ok (.getfield 31, 3) := by decide +kernel
theorem dX0_removePhrase_29 : decode cX0_removePhrase 29 = .ok (.iload_n 1, 1) := by decide +kernel
theorem dX0_removePhrase_30 : decode cX0_removePhrase 30 = .ok (.iconst 1, 1) := by decide +kernel
theorem dX0_removePhrase_31 : decode cX0_removePhrase 31 = .ok (.iadd, 1) := by decide +kernel
theorem dX0_removePhrase_32 : decode cX0_removePhrase 32 = .ok (.bipush 24, 2) := by decide +kernel
theorem dX0_removePhrase_34 : decode cX0_removePhrase 34 = .ok (.imul, 1) := by decide +kernel
theorem dX0_removePhrase_35 : decode cX0_removePhrase 35 = .ok (.aload_n 0, 1) := by decide +kernel
theorem dX0_removePhrase_36 : decode cX0_removePhrase 36 = .ok (.getfield 31, 3) := by decide +kernel
theorem dX0_removePhrase_39 : decode cX0_removePhrase 39 = .ok (.iload_n 1, 1) := by decide +kernel
theorem dX0_removePhrase_40 : decode cX0_removePhrase 40 = .ok (.bipush 24, 2) := by decide +kernel
theorem dX0_removePhrase_42 : decode cX0_removePhrase 42 = .ok (.imul, 1) := by decide +kernel
theorem dX0_removePhrase_43 : decode cX0_removePhrase 43 = .ok (.iload_n 2, 1) := by decide +kernel
theorem dX0_removePhrase_44 : decode cX0_removePhrase 44 = .ok (.bipush 24, 2) := by decide +kernel
theorem dX0_removePhrase_46 : decode cX0_removePhrase 46 = .ok (.imul, 1) := by decide +kernel
theorem dX0_removePhrase_47 : decode cX0_removePhrase 47 = .ok (.invokestatic 49, 3) := by decide +kernel
theorem dX0_removePhrase_50 : decode cX0_removePhrase 50 = .ok (.aload_n 0, 1) := by decide +kernel
theorem dX0_removePhrase_51 : decode cX0_removePhrase 51 = .ok (.dup, 1) := by decide +kernel
theorem dX0_removePhrase_52 : decode cX0_removePhrase 52 = .ok (.getfield 25, 3) := by decide +kernel
theorem dX0_removePhrase_55 : decode cX0_removePhrase 55 = .ok (.iconst 1, 1) := by decide +kernel
theorem dX0_removePhrase_56 : decode cX0_removePhrase 56 = .ok (.isub, 1) := by decide +kernel
theorem dX0_removePhrase_57 : decode cX0_removePhrase 57 = .ok (.putfield 25, 3) := by decide +kernel
theorem dX0_removePhrase_60 : decode cX0_removePhrase 60 = .ok (.aload_n 0, 1) := by decide +kernel
theorem dX0_removePhrase_61 : decode cX0_removePhrase 61 = .ok (.aload_n 0, 1) := by decide +kernel
theorem dX0_removePhrase_62 : decode cX0_removePhrase 62 = .ok (.getfield 43, 3) := by decide +kernel
theorem dX0_removePhrase_65 : decode cX0_removePhrase 65 = .ok (.aload_n 0, 1) := by decide +kernel
theorem dX0_removePhrase_66 : decode cX0_removePhrase 66 = .ok (.getfield 40, 3) := by decide +kernel
theorem dX0_removePhrase_69 : decode cX0_removePhrase 69 = .ok (.iload_n 1, 1) := by decide +kernel
theorem dX0_removePhrase_70 : decode cX0_removePhrase 70 = .ok (.invokestatic 78, 3) := by decide +kernel
theorem dX0_removePhrase_73 : decode cX0_removePhrase 73 = .ok (.putfield 40, 3) := by decide +kernel
theorem dX0_removePhrase_76 : decode cX0_removePhrase 76 = .ok (.return_, 1) := by decide +kernel
theorem dX0_withoutNumber_0 : decode cX0_withoutNumber 0 = .ok (.iconst 0, 1) := by decide +kernel
theorem dX0_withoutNumber_1 : decode cX0_withoutNumber 1 = .ok (.istore_n 3, 1) := by decide +kernel
theorem dX0_withoutNumber_2 : decode cX0_withoutNumber 2 = .ok (.iconst 0, 1) := by decide +kernel
theorem dX0_withoutNumber_3 : decode cX0_withoutNumber 3 = .ok (.istore 4, 2) := by decide +kernel
theorem dX0_withoutNumber_5 : decode cX0_withoutNumber 5 = .ok (.iload 4, 2) := by decide +kernel
theorem dX0_withoutNumber_7 : decode cX0_withoutNumber 7 = .ok (.iload_n 1, 1) := by decide +kernel
theorem dX0_withoutNumber_8 : decode cX0_withoutNumber 8 = .ok (.if_icmp .ge 44, 3) := by decide +kernel
theorem dX0_withoutNumber_11 : decode cX0_withoutNumber 11 = .ok (.aload_n 0, 1) := by decide +kernel
theorem dX0_withoutNumber_12 : decode cX0_withoutNumber 12 = .ok (.iload 4, 2) := by decide +kernel
theorem dX0_withoutNumber_14 : decode cX0_withoutNumber 14 = .ok (.iaload, 1) := by decide +kernel
theorem dX0_withoutNumber_15 : decode cX0_withoutNumber 15 = .ok (.iload_n 2, 1) := by decide +kernel
theorem dX0_withoutNumber_16 : decode cX0_withoutNumber 16 = .ok (.if_icmp .eq 30, 3) := by decide +kernel
theorem dX0_withoutNumber_19 : decode cX0_withoutNumber 19 = .ok (.aload_n 0, 1) := by decide +kernel
theorem dX0_withoutNumber_20 : decode cX0_withoutNumber 20 = .ok (.iload_n 3, 1) := by decide +kernel
theorem dX0_withoutNumber_21 : decode cX0_withoutNumber 21 = .ok (.aload_n 0, 1) := by decide +kernel
theorem dX0_withoutNumber_22 : decode cX0_withoutNumber 22 = .ok (.iload 4, 2) := by decide +kernel
theorem dX0_withoutNumber_24 : decode cX0_withoutNumber 24 = .ok (.iaload, 1) := by decide +kernel
theorem dX0_withoutNumber_25 : decode cX0_withoutNumber 25 = .ok (.iload_n 2, 1) := by decide +kernel
theorem dX0_withoutNumber_26 : decode cX0_withoutNumber 26 = .ok (.if_icmp .le 12, 3) := by decide +kernel
theorem dX0_withoutNumber_29 : decode cX0_withoutNumber 29 = .ok (.aload_n 0, 1) := by decide +kernel
theorem dX0_withoutNumber_30 : decode cX0_withoutNumber 30 = .ok (.iload 4, 2) := by decide +kernel
theorem dX0_withoutNumber_32 : decode cX0_withoutNumber 32 = .ok (.iaload, 1) := by decide +kernel
theorem dX0_withoutNumber_33 : decode cX0_withoutNumber 33 = .ok (.iconst 1, 1) := by decide +kernel
theorem dX0_withoutNumber_34 : decode cX0_withoutNumber 34 = .ok (.isub, 1) := by decide +kernel
theorem dX0_withoutNumber_35 : decode cX0_withoutNumber 35 = .ok (.goto 7, 3) := by decide +kernel
theorem dX0_withoutNumber_38 : decode cX0_withoutNumber 38 = .ok (.aload_n 0, 1) := by decide +kernel
theorem dX0_withoutNumber_39 : decode cX0_withoutNumber 39 = .ok (.iload 4, 2) := by decide +kernel
theorem dX0_withoutNumber_41 : decode cX0_withoutNumber 41 = .ok (.iaload, 1) := by decide +kernel
theorem dX0_withoutNumber_42 : decode cX0_withoutNumber 42 = .ok (.iastore, 1) := by decide +kernel
theorem dX0_withoutNumber_43 : decode cX0_withoutNumber 43 = .ok (.iinc 3 1, 3) := by decide +kernel
theorem dX0_withoutNumber_46 : decode cX0_withoutNumber 46 = .ok (.iinc 4 1, 3) := by decide +kernel
theorem dX0_withoutNumber_49 : decode cX0_withoutNumber 49 = .ok (.goto (-44), 3) := by decide +kernel
theorem dX0_withoutNumber_52 : decode cX0_withoutNumber 52 = .ok (.iload_n 3, 1) := by decide +kernel
theorem dX0_withoutNumber_53 : decode cX0_withoutNumber 53 = .ok (.ireturn, 1) := by decide +kernel
theorem dX0_addToBallad_0 : decode cX0_addToBallad 0 = .ok (.aload_n 0, 1) := by decide +kernel
theorem dX0_addToBallad_1 : decode cX0_addToBallad 1 = .ok (.getfield 34, 3) := by decide +kernel
theorem dX0_addToBallad_4 : decode cX0_addToBallad 4 = .ok (.bipush 40, 2) := by decide +kernel
theorem dX0_addToBallad_6 : decode cX0_addToBallad 6 = .ok (.if_icmp .ge 23, 3) := by decide +kernel
theorem dX0_addToBallad_9 : decode cX0_addToBallad 9 = .ok (.aload_n 0, 1) := by decide +kernel
theorem dX0_addToBallad_10 : decode cX0_addToBallad 10 = .ok (.getfield 37, 3) := by decide +kernel
theorem dX0_addToBallad_13 : decode cX0_addToBallad 13 = .ok (.aload_n 0, 1) := by decide +kernel
theorem dX0_addToBallad_14 : decode cX0_addToBallad 14 = .ok (.getfield 34, 3) := by decide +kernel
theorem dX0_addToBallad_17 : decode cX0_addToBallad 17 = .ok (.iload_n 1, 1) := by decide +kernel
theorem dX0_addToBallad_18 : decode cX0_addToBallad 18 = .ok (.iastore, 1) := by decide +kernel
theorem dX0_addToBallad_19 : decode cX0_addToBallad 19 = .ok (.aload_n 0, 1) := by decide +kernel
theorem dX0_addToBallad_20 : decode cX0_addToBallad 20 = .ok (.dup, 1) := by decide +kernel
theorem dX0_addToBallad_21 : decode cX0_addToBallad 21 = .ok (.getfield 34, 3) := by decide +kernel
theorem dX0_addToBallad_24 : decode cX0_addToBallad 24 = .ok (.iconst 1, 1) := by decide +kernel
theorem dX0_addToBallad_25 : decode cX0_addToBallad 25 = .ok (.iadd, 1) := by decide +kernel
theorem dX0_addToBallad_26 : decode cX0_addToBallad 26 = .ok (.putfield 34, 3) := by decide +kernel
theorem dX0_addToBallad_29 : decode cX0_addToBallad 29 = .ok (.return_, 1) := by decide +kernel
theorem dX0_addToTune_0 : decode cX0_addToTune 0 = .ok (.aload_n 0, 1) := by decide +kernel
theorem dX0_addToTune_1 : decode cX0_addToTune 1 = .ok (.getfield 40, 3) := by decide +kernel
theorem dX0_addToTune_4 : decode cX0_addToTune 4 = .ok (.bipush 8, 2) := by decide +kernel
theorem dX0_addToTune_6 : decode cX0_addToTune 6 = .ok (.if_icmp .ge 23, 3) := by decide +kernel
theorem dX0_addToTune_9 : decode cX0_addToTune 9 = .ok (.aload_n 0, 1) := by decide +kernel
theorem dX0_addToTune_10 : decode cX0_addToTune 10 = .ok (.getfield 43, 3) := by decide +kernel
theorem dX0_addToTune_13 : decode cX0_addToTune 13 = .ok (.aload_n 0, 1) := by decide +kernel
theorem dX0_addToTune_14 : decode cX0_addToTune 14 = .ok (.getfield 40, 3) := by decide +kernel
theorem dX0_addToTune_17 : decode cX0_addToTune 17 = .ok (.iload_n 1, 1) := by decide +kernel
theorem dX0_addToTune_18 : decode cX0_addToTune 18 = .ok (.iastore, 1) := by decide +kernel
theorem dX0_addToTune_19 : decode cX0_addToTune 19 = .ok (.aload_n 0, 1) := by decide +kernel
theorem dX0_addToTune_20 : decode cX0_addToTune 20 = .ok (.dup, 1) := by decide +kernel
theorem dX0_addToTune_21 : decode cX0_addToTune 21 = .ok (.getfield 40, 3) := by decide +kernel
theorem dX0_addToTune_24 : decode cX0_addToTune 24 = .ok (.iconst 1, 1) := by decide +kernel
theorem dX0_addToTune_25 : decode cX0_addToTune 25 = .ok (.iadd, 1) := by decide +kernel
theorem dX0_addToTune_26 : decode cX0_addToTune 26 = .ok (.putfield 40, 3) := by decide +kernel
theorem dX0_addToTune_29 : decode cX0_addToTune 29 = .ok (.return_, 1) := by decide +kernel
theorem dX0_timesSung_0 : decode cX0_timesSung 0 = .ok (.aload_n 0, 1) := by decide +kernel
theorem dX0_timesSung_1 : decode cX0_timesSung 1 = .ok (.getfield 37, 3) := by decide +kernel
theorem dX0_timesSung_4 : decode cX0_timesSung 4 = .ok (.aload_n 0, 1) := by decide +kernel
theorem dX0_timesSung_5 : decode cX0_timesSung 5 = .ok (.getfield 34, 3) := by decide +kernel
theorem dX0_timesSung_8 : decode cX0_timesSung 8 = .ok (.iload_n 1, 1) := by decide +kernel
theorem dX0_timesSung_9 : decode cX0_timesSung 9 = .ok (.invokestatic 82, 3) := by decide +kernel
theorem dX0_timesSung_12 : decode cX0_timesSung 12 = .ok (.ireturn, 1) := by decide +kernel
theorem dX0_timesPlayed_0 : decode cX0_timesPlayed 0 = .ok (.aload_n 0, 1) := by decide +kernel
theorem dX0_timesPlayed_1 : decode cX0_timesPlayed 1 = .ok (.getfield 43, 3) := by decide +kernel
theorem dX0_timesPlayed_4 : decode cX0_timesPlayed 4 = .ok (.aload_n 0, 1) := by decide +kernel
theorem dX0_timesPlayed_5 : decode cX0_timesPlayed 5 = .ok (.getfield 40, 3) := by decide +kernel
theorem dX0_timesPlayed_8 : decode cX0_timesPlayed 8 = .ok (.iload_n 1, 1) := by decide +kernel
theorem dX0_timesPlayed_9 : decode cX0_timesPlayed 9 = .ok (.invokestatic 82, 3) := by decide +kernel
theorem dX0_timesPlayed_12 : decode cX0_timesPlayed 12 = .ok (.ireturn, 1) := by decide +kernel
theorem dX0_timesIn_0 : decode cX0_timesIn 0 = .ok (.iconst 0, 1) := by decide +kernel
theorem dX0_timesIn_1 : decode cX0_timesIn 1 = .ok (.istore_n 3, 1) := by decide +kernel
theorem dX0_timesIn_2 : decode cX0_timesIn 2 = .ok (.iconst 0, 1) := by decide +kernel
theorem dX0_timesIn_3 : decode cX0_timesIn 3 = .ok (.istore 4, 2) := by decide +kernel
theorem dX0_timesIn_5 : decode cX0_timesIn 5 = .ok (.iload 4, 2) := by decide +kernel
theorem dX0_timesIn_7 : decode cX0_timesIn 7 = .ok (.iload_n 1, 1) := by decide +kernel
theorem dX0_timesIn_8 : decode cX0_timesIn 8 = .ok (.if_icmp .ge 20, 3) := by decide +kernel
theorem dX0_timesIn_11 : decode cX0_timesIn 11 = .ok (.aload_n 0, 1) := by decide +kernel
theorem dX0_timesIn_12 : decode cX0_timesIn 12 = .ok (.iload 4, 2) := by decide +kernel
theorem dX0_timesIn_14 : decode cX0_timesIn 14 = .ok (.iaload, 1) := by decide +kernel
theorem dX0_timesIn_15 : decode cX0_timesIn 15 = .ok (.iload_n 2, 1) := by decide +kernel
theorem dX0_timesIn_16 : decode cX0_timesIn 16 = .ok (.if_icmp .ne 6, 3) := by decide +kernel
theorem dX0_timesIn_19 : decode cX0_timesIn 19 = .ok (.iinc 3 1, 3) := by decide +kernel
theorem dX0_timesIn_22 : decode cX0_timesIn 22 = .ok (.iinc 4 1, 3) := by decide +kernel
theorem dX0_timesIn_25 : decode cX0_timesIn 25 = .ok (.goto (-20), 3) := by decide +kernel
theorem dX0_timesIn_28 : decode cX0_timesIn 28 = .ok (.iload_n 3, 1) := by decide +kernel
theorem dX0_timesIn_29 : decode cX0_timesIn 29 = .ok (.ireturn, 1) := by decide +kernel
theorem dX0_burdens_0 : decode cX0_burdens 0 = .ok (.iconst 0, 1) := by decide +kernel
theorem dX0_burdens_1 : decode cX0_burdens 1 = .ok (.istore_n 1, 1) := by decide +kernel
theorem dX0_burdens_2 : decode cX0_burdens 2 = .ok (.iconst 0, 1) := by decide +kernel
theorem dX0_burdens_3 : decode cX0_burdens 3 = .ok (.istore_n 2, 1) := by decide +kernel
theorem dX0_burdens_4 : decode cX0_burdens 4 = .ok (.iload_n 2, 1) := by decide +kernel
theorem dX0_burdens_5 : decode cX0_burdens 5 = .ok (.aload_n 0, 1) := by decide +kernel
theorem dX0_burdens_6 : decode cX0_burdens 6 = .ok (.getfield 15, 3) := by decide +kernel
theorem dX0_burdens_9 : decode cX0_burdens 9 = .ok (.if_icmp .ge 21, 3) := by decide +kernel
theorem dX0_burdens_12 : decode cX0_burdens 12 = .ok (.aload_n 0, 1) := by decide +kernel
theorem dX0_burdens_13 : decode cX0_burdens 13 = .ok (.iload_n 2, 1) := by decide +kernel
theorem dX0_burdens_14 : decode cX0_burdens 14 = .ok (.invokevirtual 85, 3) := by decide +kernel
theorem dX0_burdens_17 : decode cX0_burdens 17 = .ok (.iconst 2, 1) := by decide +kernel
theorem dX0_burdens_18 : decode cX0_burdens 18 = .ok (.if_icmp .lt 6, 3) := by decide +kernel
theorem dX0_burdens_21 : decode cX0_burdens 21 = .ok (.iinc 1 1, 3) := by decide +kernel
theorem dX0_burdens_24 : decode cX0_burdens 24 = .ok (.iinc 2 1, 3) := by decide +kernel
theorem dX0_burdens_27 : decode cX0_burdens 27 = .ok (.goto (-23), 3) := by decide +kernel
theorem dX0_burdens_30 : decode cX0_burdens 30 = .ok (.iload_n 1, 1) := by decide +kernel
theorem dX0_burdens_31 : decode cX0_burdens 31 = .ok (.ireturn, 1) := by decide +kernel
theorem dX0_stressedOf_0 : decode cX0_stressedOf 0 = .ok (.iconst 0, 1) := by decide +kernel
theorem dX0_stressedOf_1 : decode cX0_stressedOf 1 = .ok (.istore_n 2, 1) := by decide +kernel
theorem dX0_stressedOf_2 : decode cX0_stressedOf 2 = .ok (.iconst 0, 1) := by decide +kernel
theorem dX0_stressedOf_3 : decode cX0_stressedOf 3 = .ok (.istore_n 3, 1) := by decide +kernel
theorem dX0_stressedOf_4 : decode cX0_stressedOf 4 = .ok (.iload_n 3, 1) := by decide +kernel
theorem dX0_stressedOf_5 : decode cX0_stressedOf 5 = .ok (.aload_n 0, 1) := by decide +kernel
theorem dX0_stressedOf_6 : decode cX0_stressedOf 6 = .ok (.getfield 19, 3) := by decide +kernel
theorem dX0_stressedOf_9 : decode cX0_stressedOf 9 = .ok (.iload_n 1, 1) := by decide +kernel
theorem dX0_stressedOf_10 : decode cX0_stressedOf 10 = .ok (.iaload, 1) := by decide +kernel
theorem dX0_stressedOf_11 : decode cX0_stressedOf 11 = .ok (.if_icmp .ge 23, 3) := by decide +kernel
theorem dX0_stressedOf_14 : decode cX0_stressedOf 14 = .ok (.iload_n 2, 1) := by decide +kernel
theorem dX0_stressedOf_15 : decode cX0_stressedOf 15 = .ok (.aload_n 0, 1) := by decide +kernel
theorem dX0_stressedOf_16 : decode cX0_stressedOf 16 = .ok (.getfield 22, 3) := by decide +kernel
theorem dX0_stressedOf_19 : decode cX0_stressedOf 19 = .ok (.iload_n 1, 1) := by decide +kernel
theorem dX0_stressedOf_20 : decode cX0_stressedOf 20 = .ok (.bipush 16, 2) := by decide +kernel
theorem dX0_stressedOf_22 : decode cX0_stressedOf 22 = .ok (.imul, 1) := by decide +kernel
theorem dX0_stressedOf_23 : decode cX0_stressedOf 23 = .ok (.iload_n 3, 1) := by decide +kernel
theorem dX0_stressedOf_24 : decode cX0_stressedOf 24 = .ok (.iadd, 1) := by decide +kernel
theorem dX0_stressedOf_25 : decode cX0_stressedOf 25 = .ok (.iaload, 1) := by decide +kernel
theorem dX0_stressedOf_26 : decode cX0_stressedOf 26 = .ok (.iadd, 1) := by decide +kernel
theorem dX0_stressedOf_27 : decode cX0_stressedOf 27 = .ok (.istore_n 2, 1) := by decide +kernel
theorem dX0_stressedOf_28 : decode cX0_stressedOf 28 = .ok (.iinc 3 1, 3) := by decide +kernel
theorem dX0_stressedOf_31 : decode cX0_stressedOf 31 = .ok (.goto (-27), 3) := by decide +kernel
theorem dX0_stressedOf_34 : decode cX0_stressedOf 34 = .ok (.iload_n 2, 1) := by decide +kernel
theorem dX0_stressedOf_35 : decode cX0_stressedOf 35 = .ok (.ireturn, 1) := by decide +kernel
theorem dX0_beatsOfKind_0 : decode cX0_beatsOfKind 0 = .ok (.iconst 0, 1) := by decide +kernel
theorem dX0_beatsOfKind_1 : decode cX0_beatsOfKind 1 = .ok (.istore_n 3, 1) := by decide +kernel
theorem dX0_beatsOfKind_2 : decode cX0_beatsOfKind 2 = .ok (.iconst 0, 1) := by decide +kernel
theorem dX0_beatsOfKind_3 : decode cX0_beatsOfKind 3 = .ok (.istore 4, 2) := by decide +kernel
theorem dX0_beatsOfKind_5 : decode cX0_beatsOfKind 5 = .ok (.iload 4, 2) := by decide +kernel
theorem dX0_beatsOfKind_7 : decode cX0_beatsOfKind 7 = .ok (.aload_n 0, 1) := by decide +kernel
theorem dX0_beatsOfKind_8 : decode cX0_beatsOfKind 8 = .ok (.getfield 28, 3) := by decide +kernel
theorem dX0_beatsOfKind_11 : decode cX0_beatsOfKind 11 = .ok (.iload_n 1, 1) := by decide +kernel
theorem dX0_beatsOfKind_12 : decode cX0_beatsOfKind 12 = .ok (.iaload, 1) := by decide +kernel
theorem dX0_beatsOfKind_13 : decode cX0_beatsOfKind 13 = .ok (.if_icmp .ge 28, 3) := by decide +kernel
theorem dX0_beatsOfKind_16 : decode cX0_beatsOfKind 16 = .ok (.aload_n 0, 1) := by decide +kernel
theorem dX0_beatsOfKind_17 : decode cX0_beatsOfKind 17 = .ok (.getfield 31, 3) := by decide +kernel
theorem dX0_beatsOfKind_20 : decode cX0_beatsOfKind 20 = .ok (.iload_n 1, 1) := by decide +kernel
theorem dX0_beatsOfKind_21 : decode cX0_beatsOfKind 21 = .ok (.bipush 24, 2) := by decide +kernel
theorem dX0_beatsOfKind_23 : decode cX0_beatsOfKind 23 = .ok (.imul, 1) := by decide +kernel
theorem dX0_beatsOfKind_24 : decode cX0_beatsOfKind 24 = .ok (.iload 4, 2) := by decide +kernel
theorem dX0_beatsOfKind_26 : decode cX0_beatsOfKind 26 = .ok (.iadd, 1) := by decide +kernel
theorem dX0_beatsOfKind_27 : decode cX0_beatsOfKind 27 = .ok (.iaload, 1) := by decide +kernel
theorem dX0_beatsOfKind_28 : decode cX0_beatsOfKind 28 = .ok (.iload_n 2, 1) := by decide +kernel
theorem dX0_beatsOfKind_29 : decode cX0_beatsOfKind 29 = .ok (.if_icmp .ne 6, 3) := by decide +kernel
theorem dX0_beatsOfKind_32 : decode cX0_beatsOfKind 32 = .ok (.iinc 3 1, 3) := by decide +kernel
theorem dX0_beatsOfKind_35 : decode cX0_beatsOfKind 35 = .ok (.iinc 4 1, 3) := by decide +kernel
theorem dX0_beatsOfKind_38 : decode cX0_beatsOfKind 38 = .ok (.goto (-33), 3) := by decide +kernel
theorem dX0_beatsOfKind_41 : decode cX0_beatsOfKind 41 = .ok (.iload_n 3, 1) := by decide +kernel
theorem dX0_beatsOfKind_42 : decode cX0_beatsOfKind 42 = .ok (.ireturn, 1) := by decide +kernel
theorem dX0_longestRow_0 : decode cX0_longestRow 0 = .ok (.iconst 0, 1) := by decide +kernel
theorem dX0_longestRow_1 : decode cX0_longestRow 1 = .ok (.istore_n 2, 1) := by decide +kernel
theorem dX0_longestRow_2 : decode cX0_longestRow 2 = .ok (.iconst 0, 1) := by decide +kernel
theorem dX0_longestRow_3 : decode cX0_longestRow 3 = .ok (.istore_n 3, 1) := by decide +kernel
theorem dX0_longestRow_4 : decode cX0_longestRow 4 = .ok (.iconst 0, 1) := by decide +kernel
theorem dX0_longestRow_5 : decode cX0_longestRow 5 = .ok (.istore 4, 2) := by decide +kernel
theorem dX0_longestRow_7 : decode cX0_longestRow 7 = .ok (.iload 4, 2) := by decide +kernel
theorem dX0_longestRow_9 : decode cX0_longestRow 9 = .ok (.aload_n 0, 1) := by decide +kernel
theorem dX0_longestRow_10 : decode cX0_longestRow 10 = .ok (.getfield 28, 3) := by decide +kernel
theorem dX0_longestRow_13 : decode cX0_longestRow 13 = .ok (.iload_n 1, 1) := by decide +kernel
theorem dX0_longestRow_14 : decode cX0_longestRow 14 = .ok (.iaload, 1) := by decide +kernel
theorem dX0_longestRow_15 : decode cX0_longestRow 15 = .ok (.if_icmp .ge 38, 3) := by decide +kernel
theorem dX0_longestRow_18 : decode cX0_longestRow 18 = .ok (.aload_n 0, 1) := by decide +kernel
theorem dX0_longestRow_19 : decode cX0_longestRow 19 = .ok (.getfield 31, 3) := by decide +kernel
theorem dX0_longestRow_22 : decode cX0_longestRow 22 = .ok (.iload_n 1, 1) := by decide +kernel
theorem dX0_longestRow_23 : decode cX0_longestRow 23 = .ok (.bipush 24, 2) := by decide +kernel
theorem dX0_longestRow_25 : decode cX0_longestRow 25 = .ok (.imul, 1) := by decide +kernel
theorem dX0_longestRow_26 : decode cX0_longestRow 26 = .ok (.iload 4, 2) := by decide +kernel
theorem dX0_longestRow_28 : decode cX0_longestRow 28 = .ok (.iadd, 1) := by decide +kernel
theorem dX0_longestRow_29 : decode cX0_longestRow 29 = .ok (.iaload, 1) := by decide +kernel
theorem dX0_longestRow_30 : decode cX0_longestRow 30 = .ok (.ifCond .ne 7, 3) := by decide +kernel
theorem dX0_longestRow_33 : decode cX0_longestRow 33 = .ok (.iconst 0, 1) := by decide +kernel
theorem dX0_longestRow_34 : decode cX0_longestRow 34 = .ok (.goto 6, 3) := by decide +kernel
theorem dX0_longestRow_37 : decode cX0_longestRow 37 = .ok (.iload_n 3, 1) := by decide +kernel
theorem dX0_longestRow_38 : decode cX0_longestRow 38 = .ok (.iconst 1, 1) := by decide +kernel
theorem dX0_longestRow_39 : decode cX0_longestRow 39 = .ok (.iadd, 1) := by decide +kernel
theorem dX0_longestRow_40 : decode cX0_longestRow 40 = .ok (.istore_n 3, 1) := by decide +kernel
theorem dX0_longestRow_41 : decode cX0_longestRow 41 = .ok (.iload_n 2, 1) := by decide +kernel
theorem dX0_longestRow_42 : decode cX0_longestRow 42 = .ok (.iload_n 3, 1) := by decide +kernel
theorem dX0_longestRow_43 : decode cX0_longestRow 43 = .ok (.invokestatic 89, 3) := by decide +kernel
theorem dX0_longestRow_46 : decode cX0_longestRow 46 = .ok (.istore_n 2, 1) := by decide +kernel
theorem dX0_longestRow_47 : decode cX0_longestRow 47 = .ok (.iinc 4 1, 3) := by decide +kernel
theorem dX0_longestRow_50 : decode cX0_longestRow 50 = .ok (.goto (-43), 3) := by decide +kernel
theorem dX0_longestRow_53 : decode cX0_longestRow 53 = .ok (.iload_n 2, 1) := by decide +kernel
theorem dX0_longestRow_54 : decode cX0_longestRow 54 = .ok (.ireturn, 1) := by decide +kernel
end
section
theorem dX1_init_0 : decode cX1_init 0 = .ok (.aload_n 0, 1) := by decide +kernel
theorem dX1_init_1 : decode cX1_init 1 = .ok (.invokespecial 3, 3) := by decide +kernel
theorem dX1_init_4 : decode cX1_init 4 = .ok (.aload_n 0, 1) := by decide +kernel
theorem dX1_init_5 : decode cX1_init 5 = .ok (.iconst 1, 1) := by decide +kernel
theorem dX1_init_6 : decode cX1_init 6 = .ok (.putfield 9, 3) := by decide +kernel
theorem dX1_init_9 : decode cX1_init 9 = .ok (.aload_n 0, 1) := by decide +kernel
theorem dX1_init_10 : decode cX1_init 10 = .ok (.iconst 0, 1) := by decide +kernel
theorem dX1_init_11 : decode cX1_init 11 = .ok (.putfield 15, 3) := by decide +kernel
theorem dX1_init_14 : decode cX1_init 14 = .ok (.aload_n 0, 1) := by decide +kernel
theorem dX1_init_15 : decode cX1_init 15 = .ok (.iconst 0, 1) := by decide +kernel
theorem dX1_init_16 : decode cX1_init 16 = .ok (.putfield 18, 3) := by decide +kernel
theorem dX1_init_19 : decode cX1_init 19 = .ok (.aload_n 0, 1) := by decide +kernel
theorem dX1_init_20 : decode cX1_init 20 = .ok (.iconst 0, 1) := by decide +kernel
theorem dX1_init_21 : decode cX1_init 21 = .ok (.putfield 21, 3) := by decide +kernel
theorem dX1_init_24 : decode cX1_init 24 = .ok (.aload_n 0, 1) := by decide +kernel
theorem dX1_init_25 : decode cX1_init 25 = .ok (.iconst 0, 1) := by decide +kernel
theorem dX1_init_26 : decode cX1_init 26 = .ok (.putfield 24, 3) := by decide +kernel
theorem dX1_init_29 : decode cX1_init 29 = .ok (.aload_n 0, 1) := by decide +kernel
theorem dX1_init_30 : decode cX1_init 30 = .ok (.iconst 0, 1) := by decide +kernel
theorem dX1_init_31 : decode cX1_init 31 = .ok (.putfield 27, 3) := by decide +kernel
theorem dX1_init_34 : decode cX1_init 34 = .ok (.aload_n 0, 1) := by decide +kernel
theorem dX1_init_35 : decode cX1_init 35 = .ok (.bipush 16, 2) := by decide +kernel
theorem dX1_init_37 : decode cX1_init 37 = .ok (.newarray .int, 2) := by decide +kernel
theorem dX1_init_39 : decode cX1_init 39 = .ok (.putfield 30, 3) := by decide +kernel
theorem dX1_init_42 : decode cX1_init 42 = .ok (.aload_n 0, 1) := by decide +kernel
theorem dX1_init_43 : decode cX1_init 43 = .ok (.bipush 24, 2) := by decide +kernel
theorem dX1_init_45 : decode cX1_init 45 = .ok (.newarray .int, 2) := by decide +kernel
theorem dX1_init_47 : decode cX1_init 47 = .ok (.putfield 34, 3) := by decide +kernel
theorem dX1_init_50 : decode cX1_init 50 = .ok (.aload_n 0, 1) := by decide +kernel
theorem dX1_init_51 : decode cX1_init 51 = .ok (.bipush 25, 2) := by decide +kernel
theorem dX1_init_53 : decode cX1_init 53 = .ok (.newarray .int, 2) := by decide +kernel
theorem dX1_init_55 : decode cX1_init 55 = .ok (.putfield 37, 3) := by decide +kernel
theorem dX1_init_58 : decode cX1_init 58 = .ok (.aload_n 0, 1) := by decide +kernel
theorem dX1_init_59 : decode cX1_init 59 = .ok (.sipush 425, 3) := by decide +kernel
theorem dX1_init_62 : decode cX1_init 62 = .ok (.newarray .int, 2) := by decide +kernel
theorem dX1_init_64 : decode cX1_init 64 = .ok (.putfield 40, 3) := by decide +kernel
theorem dX1_init_67 : decode cX1_init 67 = .ok (.aload_n 0, 1) := by decide +kernel
theorem dX1_init_68 : decode cX1_init 68 = .ok (.sipush 425, 3) := by decide +kernel
theorem dX1_init_71 : decode cX1_init 71 = .ok (.newarray .int, 2) := by decide +kernel
theorem dX1_init_73 : decode cX1_init 73 = .ok (.putfield 43, 3) := by decide +kernel
theorem dX1_init_76 : decode cX1_init 76 = .ok (.aload_n 0, 1) := by decide +kernel
theorem dX1_init_77 : decode cX1_init 77 = .ok (.bipush 16, 2) := by decide +kernel
theorem dX1_init_79 : decode cX1_init 79 = .ok (.newarray .int, 2) := by decide +kernel
theorem dX1_init_81 : decode cX1_init 81 = .ok (.putfield 46, 3) := by decide +kernel
theorem dX1_init_84 : decode cX1_init 84 = .ok (.aload_n 0, 1) := by decide +kernel
theorem dX1_init_85 : decode cX1_init 85 = .ok (.bipush 16, 2) := by decide +kernel
theorem dX1_init_87 : decode cX1_init 87 = .ok (.newarray .int, 2) := by decide +kernel
theorem dX1_init_89 : decode cX1_init 89 = .ok (.putfield 49, 3) := by decide +kernel
theorem dX1_init_92 : decode cX1_init 92 = .ok (.return_, 1) := by decide +kernel
theorem dX1_take_0 : decode cX1_take 0 = .ok (.aload_n 0, 1) := by decide +kernel
theorem dX1_take_1 : decode cX1_take 1 = .ok (.aload_n 1, 1) := by decide +kernel
theorem dX1_take_2 : decode cX1_take 2 = .ok (.getfield 52, 3) := by decide +kernel
theorem dX1_take_5 : decode cX1_take 5 = .ok (.iconst 0, 1) := by decide +kernel
theorem dX1_take_6 : decode cX1_take 6 = .ok (.iaload, 1) := by decide +kernel
theorem dX1_take_7 : decode cX1_take 7 = .ok (.putfield 9, 3) := by decide +kernel
theorem dX1_take_10 : decode cX1_take 10 = .ok (.aload_n 0, 1) := by decide +kernel
theorem dX1_take_11 : decode cX1_take 11 = .ok (.aload_n 1, 1) := by decide +kernel
theorem dX1_take_12 : decode cX1_take 12 = .ok (.getfield 52, 3) := by decide +kernel
theorem dX1_take_15 : decode cX1_take 15 = .ok (.iconst 1, 1) := by decide +kernel
theorem dX1_take_16 : decode cX1_take 16 = .ok (.iaload, 1) := by decide +kernel
theorem dX1_take_17 : decode cX1_take 17 = .ok (.putfield 15, 3) := by decide +kernel
theorem dX1_take_20 : decode cX1_take 20 = .ok (.aload_n 0, 1) := by decide +kernel
theorem dX1_take_21 : decode cX1_take 21 = .ok (.aload_n 1, 1) := by decide +kernel
theorem dX1_take_22 : decode cX1_take 22 = .ok (.getfield 52, 3) := by decide +kernel
theorem dX1_take_25 : decode cX1_take 25 = .ok (.iconst 2, 1) := by decide +kernel
theorem dX1_take_26 : decode cX1_take 26 = .ok (.iaload, 1) := by decide +kernel
theorem dX1_take_27 : decode cX1_take 27 = .ok (.putfield 18, 3) := by decide +kernel
theorem dX1_take_30 : decode cX1_take 30 = .ok (.aload_n 0, 1) := by decide +kernel
theorem dX1_take_31 : decode cX1_take 31 = .ok (.aload_n 1, 1) := by decide +kernel
theorem dX1_take_32 : decode cX1_take 32 = .ok (.getfield 52, 3) := by decide +kernel
theorem dX1_take_35 : decode cX1_take 35 = .ok (.iconst 3, 1) := by decide +kernel
theorem dX1_take_36 : decode cX1_take 36 = .ok (.iaload, 1) := by decide +kernel
theorem dX1_take_37 : decode cX1_take 37 = .ok (.putfield 21, 3) := by decide +kernel
theorem dX1_take_40 : decode cX1_take 40 = .ok (.aload_n 0, 1) := by decide +kernel
theorem dX1_take_41 : decode cX1_take 41 = .ok (.aload_n 1, 1) := by decide +kernel
theorem dX1_take_42 : decode cX1_take 42 = .ok (.getfield 57, 3) := by decide +kernel
theorem dX1_take_45 : decode cX1_take 45 = .ok (.iload_n 2, 1) := by decide +kernel
theorem dX1_take_46 : decode cX1_take 46 = .ok (.iaload, 1) := by decide +kernel
theorem dX1_take_47 : decode cX1_take 47 = .ok (.putfield 24, 3) := by decide +kernel
theorem dX1_take_50 : decode cX1_take 50 = .ok (.aload_n 0, 1) := by decide +kernel
theorem dX1_take_51 : decode cX1_take 51 = .ok (.aload_n 1, 1) := by decide +kernel
theorem dX1_take_52 : decode cX1_take 52 = .ok (.getfield 60, 3) := by decide +kernel
theorem dX1_take_55 : decode cX1_take 55 = .ok (.iload_n 3, 1) := by decide +kernel
theorem dX1_take_56 : decode cX1_take 56 = .ok (.iaload, 1) := by decide +kernel
theorem dX1_take_57 : decode cX1_take 57 = .ok (.putfield 27, 3) := by decide +kernel
theorem dX1_take_60 : decode cX1_take 60 = .ok (.aload_n 1, 1) := by decide +kernel
theorem dX1_take_61 : decode cX1_take 61 = .ok (.getfield 63, 3) := by decide +kernel
theorem dX1_take_64 : decode cX1_take 64 = .ok (.iload_n 2, 1) := by decide +kernel
theorem dX1_take_65 : decode cX1_take 65 = .ok (.bipush 16, 2) := by decide +kernel
theorem dX1_take_67 : decode cX1_take 67 = .ok (.imul, 1) := by decide +kernel
theorem dX1_take_68 : decode cX1_take 68 = .ok (.aload_n 0, 1) := by decide +kernel
theorem dX1_take_69 : decode cX1_take 69 = .ok (.getfield 30, 3) := by decide +kernel
theorem dX1_take_72 : decode cX1_take 72 = .ok (.iconst 0, 1) := by decide +kernel
theorem dX1_take_73 : decode cX1_take 73 = .ok (.aload_n 0, 1) := by decide +kernel
theorem dX1_take_74 : decode cX1_take 74 = .ok (.getfield 24, 3) := by decide +kernel
theorem dX1_take_77 : decode cX1_take 77 = .ok (.invokestatic 64, 3) := by decide +kernel
theorem dX1_take_80 : decode cX1_take 80 = .ok (.aload_n 1, 1) := by decide +kernel
theorem dX1_take_81 : decode cX1_take 81 = .ok (.getfield 70, 3) := by decide +kernel
theorem dX1_take_84 : decode cX1_take 84 = .ok (.iload_n 3, 1) := by decide +kernel
theorem dX1_take_85 : decode cX1_take 85 = .ok (.bipush 24, 2) := by decide +kernel
theorem dX1_take_87 : decode cX1_take 87 = .ok (.imul, 1) := by decide +kernel
theorem dX1_take_88 : decode cX1_take 88 = .ok (.aload_n 0, 1) := by decide +kernel
theorem dX1_take_89 : decode cX1_take 89 = .ok (.getfield 34, 3) := by decide +kernel
theorem dX1_take_92 : decode cX1_take 92 = .ok (.iconst 0, 1) := by decide +kernel
theorem dX1_take_93 : decode cX1_take 93 = .ok (.aload_n 0, 1) := by decide +kernel
theorem dX1_take_94 : decode cX1_take 94 = .ok (.getfield 27, 3) := by decide +kernel
theorem dX1_take_97 : decode cX1_take 97 = .ok (.invokestatic 64, 3) := by decide +kernel
theorem dX1_take_100 : decode cX1_take 100 = .ok (.aload_n 0, 1) := by decide +kernel
theorem dX1_take_101 : decode cX1_take 101 = .ok (.getfield 37, 3) := by decide +kernel
theorem dX1_take_104 : decode cX1_take 104 = .ok (.aload_n 0, 1) := by decide +kernel
theorem dX1_take_105 : decode cX1_take 105 = .ok (.getfield 27, 3) := by decide +kernel
theorem dX1_take_108 : decode cX1_take 108 = .ok (.iconst 0, 1) := by decide +kernel
theorem dX1_take_109 : decode cX1_take 109 = .ok (.iastore, 1) := by decide +kernel
theorem dX1_take_110 : decode cX1_take 110 = .ok (.aload_n 0, 1) := by decide +kernel
theorem dX1_take_111 : decode cX1_take 111 = .ok (.getfield 27, 3) := by decide +kernel
theorem dX1_take_114 : decode cX1_take 114 = .ok (.iconst 1, 1) := by decide +kernel
theorem dX1_take_115 : decode cX1_take 115 = .ok (.isub, 1) := by decide +kernel
theorem dX1_take_116 : decode cX1_take 116 = .ok (.istore 4, 2) := by decide +kernel
theorem dX1_take_118 : decode cX1_take 118 = .ok (.iload 4, 2) := by decide +kernel
theorem dX1_take_120 : decode cX1_take 120 = .ok (.ifCond .lt 41, 3) := by decide +kernel
theorem dX1_take_123 : decode cX1_take 123 = .ok (.aload_n 0, 1) := by decide +kernel
theorem dX1_take_124 : decode cX1_take 124 = .ok (.getfield 37, 3) := by decide +kernel
theorem dX1_take_127 : decode cX1_take 127 = .ok (.iload 4, 2) := by decide +kernel
theorem dX1_take_129 : decode cX1_take 129 = .ok (.aload_n 0, 1) := by decide +kernel
theorem dX1_take_130 : decode cX1_take 130 = .ok (.getfield 34, 3) := by decide +kernel
theorem dX1_take_133 : decode cX1_take 133 = .ok (.iload 4, 2) := by decide +kernel
theorem dX1_take_135 : decode cX1_take 135 = .ok (.iaload, 1) := by decide +kernel
theorem dX1_take_136 : decode cX1_take 136 = .ok (.ifCond .ne 7, 3) := by decide +kernel
theorem dX1_take_139 : decode cX1_take 139 = .ok (.iconst 0, 1) := by decide +kernel
theorem dX1_take_140 : decode cX1_take 140 = .ok (.goto 14, 3) := by decide +kernel
theorem dX1_take_143 : decode cX1_take 143 = .ok (.aload_n 0, 1) := by decide +kernel
theorem dX1_take_144 : decode cX1_take 144 = .ok (.getfield 37, 3) := by decide +kernel
theorem dX1_take_147 : decode cX1_take 147 = .ok (.iload 4, 2) := by decide +kernel
theorem dX1_take_149 : decode cX1_take 149 = .ok (.iconst 1, 1) := by decide +kernel
theorem dX1_take_150 : decode cX1_take 150 = .ok (.iadd, 1) := by decide +kernel
theorem dX1_take_151 : decode cX1_take 151 = .ok (.iaload, 1) := by decide +kernel
theorem dX1_take_152 : decode cX1_take 152 = .ok (.iconst 1, 1) := by decide +kernel
theorem dX1_take_153 : decode cX1_take 153 = .ok (.iadd, 1) := by decide +kernel
theorem dX1_take_154 : decode cX1_take 154 = .ok (.iastore, 1) := by decide +kernel
theorem dX1_take_155 : decode cX1_take 155 = .ok (.iinc 4 (-1), 3) := by decide +kernel
theorem dX1_take_158 : decode cX1_take 158 = .ok (.goto (-40), 3) := by decide +kernel
theorem dX1_take_161 : decode cX1_take 161 = .ok (.return_, 1) := by decide +kernel
theorem dX1_turnStress_0 : decode cX1_turnStress 0 = .ok (.aload_n 0, 1) := by decide +kernel
theorem dX1_turnStress_1 : decode cX1_turnStress 1 = .ok (.getfield 30, 3) := by decide +kernel
theorem dX1_turnStress_4 : decode cX1_turnStress 4 = .ok (.iload_n 1, 1) := by decide +kernel
theorem dX1_turnStress_5 : decode cX1_turnStress 5 = .ok (.iconst 1, 1) := by decide +kernel
theorem dX1_turnStress_6 : decode cX1_turnStress 6 = .ok (.aload_n 0, 1) := by decide +kernel
theorem dX1_turnStress_7 : decode cX1_turnStress 7 = .ok (.getfield 30, 3) := by decide +kernel
theorem dX1_turnStress_10 : decode cX1_turnStress 10 = .ok (.iload_n 1, 1) := by decide +kernel
theorem dX1_turnStress_11 : decode cX1_turnStress 11 = .ok (.iaload, 1) := by decide +kernel
theorem dX1_turnStress_12 : decode cX1_turnStress 12 = .ok (.isub, 1) := by decide +kernel
theorem dX1_turnStress_13 : decode cX1_turnStress 13 = .ok (.iastore, 1) := by decide +kernel
theorem dX1_turnStress_14 : decode cX1_turnStress 14 = .ok (.return_, 1) := by decide +kernel
theorem dX1_leastCost_0 : decode cX1_leastCost 0 = .ok (.aload_n 0, 1) := by decide +kernel
theorem dX1_leastCost_1 : decode cX1_leastCost 1 = .ok (.getfield 40, 3) := by decide +kernel
theorem dX1_leastCost_4 : decode cX1_leastCost 4 = .ok (.aload_n 0, 1) := by decide +kernel
theorem dX1_leastCost_5 : decode cX1_leastCost 5 = .ok (.getfield 24, 3) := by decide +kernel
theorem dX1_leastCost_8 : decode cX1_leastCost 8 = .ok (.bipush 25, 2) := by decide +kernel
theorem dX1_leastCost_10 : decode cX1_leastCost 10 = .ok (.imul, 1) := by decide +kernel
theorem dX1_leastCost_11 : decode cX1_leastCost 11 = .ok (.aload_n 0, 1) := by decide +kernel
theorem dX1_leastCost_12 : decode cX1_leastCost 12 = .ok (.getfield 27, 3) := by decide +kernel
theorem dX1_leastCost_15 : decode cX1_leastCost 15 = .ok (.iadd, 1) := by decide +kernel
theorem dX1_leastCost_16 : decode cX1_leastCost 16 = .ok (.iconst 0, 1) := by decide +kernel
theorem dX1_leastCost_17 : decode cX1_leastCost 17 = .ok (.iastore, 1) := by decide +kernel
theorem dX1_leastCost_18 : decode cX1_leastCost 18 = .ok (.aload_n 0, 1) := by decide +kernel
theorem dX1_leastCost_19 : decode cX1_leastCost 19 = .ok (.getfield 27, 3) := by decide +kernel
theorem dX1_leastCost_22 : decode cX1_leastCost 22 = .ok (.iconst 1, 1) := by decide +kernel
theorem dX1_leastCost_23 : decode cX1_leastCost 23 = .ok (.isub, 1) := by decide +kernel
theorem dX1_leastCost_24 : decode cX1_leastCost 24 = .ok (.istore_n 1, 1) := by decide +kernel
theorem dX1_leastCost_25 : decode cX1_leastCost 25 = .ok (.iload_n 1, 1) := by decide +kernel
theorem dX1_leastCost_26 : decode cX1_leastCost 26 = .ok (.ifCond .lt 32, 3) := by decide +kernel
theorem dX1_leastCost_29 : decode cX1_leastCost 29 = .ok (.aload_n 0, 1) := by decide +kernel
theorem dX1_leastCost_30 : decode cX1_leastCost 30 = .ok (.getfield 40, 3) := by decide +kernel
theorem dX1_leastCost_33 : decode cX1_leastCost 33 = .ok (.aload_n 0, 1) := by decide +kernel
theorem dX1_leastCost_34 : decode cX1_leastCost 34 = .ok (.getfield 24, 3) := by decide +kernel
theorem dX1_leastCost_37 : decode cX1_leastCost 37 = .ok (.bipush 25, 2) := by decide +kernel
theorem dX1_leastCost_39 : decode cX1_leastCost 39 = .ok (.imul, 1) := by decide +kernel
theorem dX1_leastCost_40 : decode cX1_leastCost 40 = .ok (.iload_n 1, 1) := by decide +kernel
theorem dX1_leastCost_41 : decode cX1_leastCost 41 = .ok (.iadd, 1) := by decide +kernel
theorem dX1_leastCost_42 : decode cX1_leastCost 42 = .ok (.aload_n 0, 1) := by decide +kernel
theorem dX1_leastCost_43 : decode cX1_leastCost 43 = .ok (.aload_n 0, 1) := by decide +kernel
theorem dX1_leastCost_44 : decode cX1_leastCost 44 = .ok (.getfield 24, 3) := by decide +kernel
theorem dX1_leastCost_47 : decode cX1_leastCost 47 = .ok (.iload_n 1, 1) := by decide +kernel
theorem dX1_leastCost_48 : decode cX1_leastCost 48 = .ok (.invokevirtual 71, 3) := by decide +kernel
theorem dX1_leastCost_51 : decode cX1_leastCost 51 = .ok (.iastore, 1) := by decide +kernel
theorem dX1_leastCost_52 : decode cX1_leastCost 52 = .ok (.iinc 1 (-1), 3) := by decide +kernel
theorem dX1_leastCost_55 : decode cX1_leastCost 55 = .ok (.goto (-30), 3) := by decide +kernel
theorem dX1_leastCost_58 : decode cX1_leastCost 58 = .ok (.aload_n 0, 1) := by decide +kernel
theorem dX1_leastCost_59 : decode cX1_leastCost 59 = .ok (.getfield 24, 3) := by decide +kernel
theorem dX1_leastCost_62 : decode cX1_leastCost 62 = .ok (.iconst 1, 1) := by decide +kernel
theorem dX1_leastCost_63 : decode cX1_leastCost 63 = .ok (.isub, 1) := by decide +kernel
theorem dX1_leastCost_64 : decode cX1_leastCost 64 = .ok (.istore_n 1, 1) := by decide +kernel
theorem dX1_leastCost_65 : decode cX1_leastCost 65 = .ok (.iload_n 1, 1) := by decide +kernel
theorem dX1_leastCost_66 : decode cX1_leastCost 66 = .ok (.ifCond .lt 98, 3) := by decide +kernel
theorem dX1_leastCost_69 : decode cX1_leastCost 69 = .ok (.aload_n 0, 1) := by decide +kernel
theorem dX1_leastCost_70 : decode cX1_leastCost 70 = .ok (.getfield 40, 3) := by decide +kernel
theorem dX1_leastCost_73 : decode cX1_leastCost 73 = .ok (.iload_n 1, 1) := by decide +kernel
theorem dX1_leastCost_74 : decode cX1_leastCost 74 = .ok (.bipush 25, 2) := by decide +kernel
theorem dX1_leastCost_76 : decode cX1_leastCost 76 = .ok (.imul, 1) := by decide +kernel
theorem dX1_leastCost_77 : decode cX1_leastCost 77 = .ok (.aload_n 0, 1) := by decide +kernel
theorem dX1_leastCost_78 : decode cX1_leastCost 78 = .ok (.getfield 27, 3) := by decide +kernel
theorem dX1_leastCost_81 : decode cX1_leastCost 81 = .ok (.iadd, 1) := by decide +kernel
theorem dX1_leastCost_82 : decode cX1_leastCost 82 = .ok (.ldc 75, 2) := by decide +kernel
theorem dX1_leastCost_84 : decode cX1_leastCost 84 = .ok (.iastore, 1) := by decide +kernel
theorem dX1_leastCost_85 : decode cX1_leastCost 85 = .ok (.aload_n 0, 1) := by decide +kernel
theorem dX1_leastCost_86 : decode cX1_leastCost 86 = .ok (.getfield 27, 3) := by decide +kernel
theorem dX1_leastCost_89 : decode cX1_leastCost 89 = .ok (.iconst 1, 1) := by decide +kernel
theorem dX1_leastCost_90 : decode cX1_leastCost 90 = .ok (.isub, 1) := by decide +kernel
theorem dX1_leastCost_91 : decode cX1_leastCost 91 = .ok (.istore_n 2, 1) := by decide +kernel
theorem dX1_leastCost_92 : decode cX1_leastCost 92 = .ok (.iload_n 2, 1) := by decide +kernel
theorem dX1_leastCost_93 : decode cX1_leastCost 93 = .ok (.ifCond .lt 65, 3) := by decide +kernel
theorem dX1_leastCost_96 : decode cX1_leastCost 96 = .ok (.aload_n 0, 1) := by decide +kernel
theorem dX1_leastCost_97 : decode cX1_leastCost 97 = .ok (.iload_n 1, 1) := by decide +kernel
theorem dX1_leastCost_98 : decode cX1_leastCost 98 = .ok (.iload_n 2, 1) := by decide +kernel
theorem dX1_leastCost_99 : decode cX1_leastCost 99 = .ok (.invokevirtual 71, 3) := by decide +kernel
theorem dX1_leastCost_102 : decode cX1_leastCost 102 = .ok (.istore_n 3, 1) := by decide +kernel
theorem dX1_leastCost_103 : decode cX1_leastCost 103 = .ok (.iconst 1, 1) := by decide +kernel
theorem dX1_leastCost_104 : decode cX1_leastCost 104 = .ok (.istore 4, 2) := by decide +kernel
theorem dX1_leastCost_106 : decode cX1_leastCost 106 = .ok (.iload 4, 2) := by decide +kernel
theorem dX1_leastCost_108 : decode cX1_leastCost 108 = .ok (.aload_n 0, 1) := by decide +kernel
theorem dX1_leastCost_109 : decode cX1_leastCost 109 = .ok (.iload_n 2, 1) := by decide +kernel
theorem dX1_leastCost_110 : decode cX1_leastCost 110 = .ok (.invokevirtual 76, 3) := by decide +kernel
theorem dX1_leastCost_113 : decode cX1_leastCost 113 = .ok (.if_icmp .gt 22, 3) := by decide +kernel
theorem dX1_leastCost_116 : decode cX1_leastCost 116 = .ok (.iload_n 3, 1) := by decide +kernel
theorem dX1_leastCost_117 : decode cX1_leastCost 117 = .ok (.aload_n 0, 1) := by decide +kernel
theorem dX1_leastCost_118 : decode cX1_leastCost 118 = .ok (.iload_n 1, 1) := by decide +kernel
theorem dX1_leastCost_119 : decode cX1_leastCost 119 = .ok (.iload_n 2, 1) := by decide +kernel
theorem dX1_leastCost_120 : decode cX1_leastCost 120 = .ok (.iload 4, 2) := by decide +kernel
theorem dX1_leastCost_122 : decode cX1_leastCost 122 = .ok (.invokevirtual 80, 3) := by decide +kernel
theorem dX1_leastCost_125 : decode cX1_leastCost 125 = .ok (.invokestatic 84, 3) := by decide +kernel
theorem dX1_leastCost_128 : decode cX1_leastCost 128 = .ok (.istore_n 3, 1) := by decide +kernel
theorem dX1_leastCost_129 : decode cX1_leastCost 129 = .ok (.iinc 4 1, 3) := by decide +kernel
theorem dX1_leastCost_132 : decode cX1_leastCost 132 = .ok (.goto (-26), 3) := by decide +kernel
theorem dX1_leastCost_135 : decode cX1_leastCost 135 = .ok (.aload_n 0, 1) := by decide +kernel
theorem dX1_leastCost_136 : decode cX1_leastCost 136 = .ok (.getfield 40, 3) := by decide +kernel
theorem dX1_leastCost_139 : decode cX1_leastCost 139 = .ok (.iload_n 1, 1) := by decide +kernel
theorem dX1_leastCost_140 : decode cX1_leastCost 140 = .ok (.bipush 25, 2) := by decide +kernel
theorem dX1_leastCost_142 : decode cX1_leastCost 142 = .ok (.imul, 1) := by decide +kernel
theorem dX1_leastCost_143 : decode cX1_leastCost 143 = .ok (.iload_n 2, 1) := by decide +kernel
theorem dX1_leastCost_144 : decode cX1_leastCost 144 = .ok (.iadd, 1) := by decide +kernel
theorem dX1_leastCost_145 : decode cX1_leastCost 145 = .ok (.iload_n 3, 1) := by decide +kernel
theorem dX1_leastCost_146 : decode cX1_leastCost 146 = .ok (.ldc 75, 2) := by decide +kernel
theorem dX1_leastCost_148 : decode cX1_leastCost 148 = .ok (.invokestatic 84, 3) := by decide +kernel
theorem dX1_leastCost_151 : decode cX1_leastCost 151 = .ok (.iastore, 1) := by decide +kernel
theorem dX1_leastCost_152 : decode cX1_leastCost 152 = .ok (.iinc 2 (-1), 3) := by decide +kernel
theorem dX1_leastCost_155 : decode cX1_leastCost 155 = .ok (.goto (-63), 3) := by decide +kernel
theorem dX1_leastCost_158 : decode cX1_leastCost 158 = .ok (.iinc 1 (-1), 3) := by decide +kernel
theorem dX1_leastCost_161 : decode cX1_leastCost 161 = .ok (.goto (-96), 3) := by decide +kernel
theorem dX1_leastCost_164 : decode cX1_leastCost 164 = .ok (.aload_n 0, 1) := by decide +kernel
theorem dX1_leastCost_165 : decode cX1_leastCost 165 = .ok (.getfield 40, 3) := by decide +kernel
theorem dX1_leastCost_168 : decode cX1_leastCost 168 = .ok (.iconst 0, 1) := by decide +kernel
theorem dX1_leastCost_169 : decode cX1_leastCost 169 = .ok (.iaload, 1) := by decide +kernel
theorem dX1_leastCost_170 : decode cX1_leastCost 170 = .ok (.ireturn, 1) := by decide +kernel
theorem dX1_mostHeld_0 : decode cX1_mostHeld 0 = .ok (.aload_n 0, 1) := by decide +kernel
theorem dX1_mostHeld_1 : decode cX1_mostHeld 1 = .ok (.getfield 9, 3) := by decide +kernel
theorem dX1_mostHeld_4 : decode cX1_mostHeld 4 = .ok (.aload_n 0, 1) := by decide +kernel
theorem dX1_mostHeld_5 : decode cX1_mostHeld 5 = .ok (.getfield 37, 3) := by decide +kernel
theorem dX1_mostHeld_8 : decode cX1_mostHeld 8 = .ok (.iload_n 1, 1) := by decide +kernel
theorem dX1_mostHeld_9 : decode cX1_mostHeld 9 = .ok (.iaload, 1) := by decide +kernel
theorem dX1_mostHeld_10 : decode cX1_mostHeld 10 = .ok (.invokestatic 84, 3) := by decide +kernel
theorem dX1_mostHeld_13 : decode cX1_mostHeld 13 = .ok (.ireturn, 1) := by decide +kernel
theorem dX1_hurts_0 : decode cX1_hurts 0 = .ok (.aload_n 0, 1) := by decide +kernel
theorem dX1_hurts_1 : decode cX1_hurts 1 = .ok (.getfield 30, 3) := by decide +kernel
theorem dX1_hurts_4 : decode cX1_hurts 4 = .ok (.iload_n 1, 1) := by decide +kernel
theorem dX1_hurts_5 : decode cX1_hurts 5 = .ok (.iaload, 1) := by decide +kernel
theorem dX1_hurts_6 : decode cX1_hurts 6 = .ok (.iconst 1, 1) := by decide +kernel
theorem dX1_hurts_7 : decode cX1_hurts 7 = .ok (.if_icmp .ne 7, 3) := by decide +kernel
theorem dX1_hurts_10 : decode cX1_hurts 10 = .ok (.iconst 1, 1) := by decide +kernel
theorem dX1_hurts_11 : decode cX1_hurts 11 = .ok (.goto 4, 3) := by decide +kernel
theorem dX1_hurts_14 : decode cX1_hurts 14 = .ok (.iconst 0, 1) := by decide +kernel
theorem dX1_hurts_15 : decode cX1_hurts 15 = .ok (.aload_n 0, 1) := by decide +kernel
theorem dX1_hurts_16 : decode cX1_hurts 16 = .ok (.getfield 34, 3) := by decide +kernel
theorem dX1_hurts_19 : decode cX1_hurts 19 = .ok (.iload_n 2, 1) := by decide +kernel
theorem dX1_hurts_20 : decode cX1_hurts 20 = .ok (.iaload, 1) := by decide +kernel
theorem dX1_hurts_21 : decode cX1_hurts 21 = .ok (.iconst 2, 1) := by decide +kernel
theorem dX1_hurts_22 : decode cX1_hurts 22 = .ok (.if_icmp .ne 7, 3) := by decide +kernel
theorem dX1_hurts_25 : decode cX1_hurts 25 = .ok (.iconst 1, 1) := by decide +kernel
theorem dX1_hurts_26 : decode cX1_hurts 26 = .ok (.goto 4, 3) := by decide +kernel
theorem dX1_hurts_29 : decode cX1_hurts 29 = .ok (.iconst 0, 1) := by decide +kernel
theorem dX1_hurts_30 : decode cX1_hurts 30 = .ok (.if_icmp .eq 7, 3) := by decide +kernel
theorem dX1_hurts_33 : decode cX1_hurts 33 = .ok (.iconst 1, 1) := by decide +kernel
theorem dX1_hurts_34 : decode cX1_hurts 34 = .ok (.goto 4, 3) := by decide +kernel
theorem dX1_hurts_37 : decode cX1_hurts 37 = .ok (.iconst 0, 1) := by decide +kernel
theorem dX1_hurts_38 : decode cX1_hurts 38 = .ok (.ireturn, 1) := by decide +kernel
theorem dX1_costOfFree_0 : decode cX1_costOfFree 0 = .ok (.aload_n 0, 1) := by decide +kernel
theorem dX1_costOfFree_1 : decode cX1_costOfFree 1 = .ok (.getfield 40, 3) := by decide +kernel
theorem dX1_costOfFree_4 : decode cX1_costOfFree 4 = .ok (.iload_n 1, 1) := by decide +kernel
theorem dX1_costOfFree_5 : decode cX1_costOfFree 5 = .ok (.bipush 25, 2) := by decide +kernel
theorem dX1_costOfFree_7 : decode cX1_costOfFree 7 = .ok (.imul, 1) := by decide +kernel
theorem dX1_costOfFree_8 : decode cX1_costOfFree 8 = .ok (.iload_n 2, 1) := by decide +kernel
theorem dX1_costOfFree_9 : decode cX1_costOfFree 9 = .ok (.iadd, 1) := by decide +kernel
theorem dX1_costOfFree_10 : decode cX1_costOfFree 10 = .ok (.iconst 1, 1) := by decide +kernel
theorem dX1_costOfFree_11 : decode cX1_costOfFree 11 = .ok (.iadd, 1) := by decide +kernel
theorem dX1_costOfFree_12 : decode cX1_costOfFree 12 = .ok (.iaload, 1) := by decide +kernel
theorem dX1_costOfFree_13 : decode cX1_costOfFree 13 = .ok (.aload_n 0, 1) := by decide +kernel
theorem dX1_costOfFree_14 : decode cX1_costOfFree 14 = .ok (.getfield 34, 3) := by decide +kernel
theorem dX1_costOfFree_17 : decode cX1_costOfFree 17 = .ok (.iload_n 2, 1) := by decide +kernel
theorem dX1_costOfFree_18 : decode cX1_costOfFree 18 = .ok (.iaload, 1) := by decide +kernel
theorem dX1_costOfFree_19 : decode cX1_costOfFree 19 = .ok (.ifCond .ne 7, 3) := by decide +kernel
theorem dX1_costOfFree_22 : decode cX1_costOfFree 22 = .ok (.iconst 0, 1) := by decide +kernel
theorem dX1_costOfFree_23 : decode cX1_costOfFree 23 = .ok (.goto 7, 3) := by decide +kernel
theorem dX1_costOfFree_26 : decode cX1_costOfFree 26 = .ok (.aload_n 0, 1) := by decide +kernel
theorem dX1_costOfFree_27 : decode cX1_costOfFree 27 = .ok (.getfield 18, 3) := by decide +kernel
theorem dX1_costOfFree_30 : decode cX1_costOfFree 30 = .ok (.iadd, 1) := by decide +kernel
theorem dX1_costOfFree_31 : decode cX1_costOfFree 31 = .ok (.ireturn, 1) := by decide +kernel
theorem dX1_costOfHeld_0 : decode cX1_costOfHeld 0 = .ok (.aload_n 0, 1) := by decide +kernel
theorem dX1_costOfHeld_1 : decode cX1_costOfHeld 1 = .ok (.getfield 40, 3) := by decide +kernel
theorem dX1_costOfHeld_4 : decode cX1_costOfHeld 4 = .ok (.iload_n 1, 1) := by decide +kernel
theorem dX1_costOfHeld_5 : decode cX1_costOfHeld 5 = .ok (.iconst 1, 1) := by decide +kernel
theorem dX1_costOfHeld_6 : decode cX1_costOfHeld 6 = .ok (.iadd, 1) := by decide +kernel
theorem dX1_costOfHeld_7 : decode cX1_costOfHeld 7 = .ok (.bipush 25, 2) := by decide +kernel
theorem dX1_costOfHeld_9 : decode cX1_costOfHeld 9 = .ok (.imul, 1) := by decide +kernel
theorem dX1_costOfHeld_10 : decode cX1_costOfHeld 10 = .ok (.iload_n 2, 1) := by decide +kernel
theorem dX1_costOfHeld_11 : decode cX1_costOfHeld 11 = .ok (.iadd, 1) := by decide +kernel
theorem dX1_costOfHeld_12 : decode cX1_costOfHeld 12 = .ok (.iload_n 3, 1) := by decide +kernel
theorem dX1_costOfHeld_13 : decode cX1_costOfHeld 13 = .ok (.iadd, 1) := by decide +kernel
theorem dX1_costOfHeld_14 : decode cX1_costOfHeld 14 = .ok (.iaload, 1) := by decide +kernel
theorem dX1_costOfHeld_15 : decode cX1_costOfHeld 15 = .ok (.aload_n 0, 1) := by decide +kernel
theorem dX1_costOfHeld_16 : decode cX1_costOfHeld 16 = .ok (.getfield 15, 3) := by decide +kernel
theorem dX1_costOfHeld_19 : decode cX1_costOfHeld 19 = .ok (.iload_n 3, 1) := by decide +kernel
theorem dX1_costOfHeld_20 : decode cX1_costOfHeld 20 = .ok (.iconst 1, 1) := by decide +kernel
theorem dX1_costOfHeld_21 : decode cX1_costOfHeld 21 = .ok (.isub, 1) := by decide +kernel
theorem dX1_costOfHeld_22 : decode cX1_costOfHeld 22 = .ok (.imul, 1) := by decide +kernel
theorem dX1_costOfHeld_23 : decode cX1_costOfHeld 23 = .ok (.iadd, 1) := by decide +kernel
theorem dX1_costOfHeld_24 : decode cX1_costOfHeld 24 = .ok (.aload_n 0, 1) := by decide +kernel
theorem dX1_costOfHeld_25 : decode cX1_costOfHeld 25 = .ok (.iload_n 1, 1) := by decide +kernel
theorem dX1_costOfHeld_26 : decode cX1_costOfHeld 26 = .ok (.iload_n 2, 1) := by decide +kernel
theorem dX1_costOfHeld_27 : decode cX1_costOfHeld 27 = .ok (.invokevirtual 89, 3) := by decide +kernel
theorem dX1_costOfHeld_30 : decode cX1_costOfHeld 30 = .ok (.ifCond .eq 10, 3) := by decide +kernel
theorem dX1_costOfHeld_33 : decode cX1_costOfHeld 33 = .ok (.aload_n 0, 1) := by decide +kernel
theorem dX1_costOfHeld_34 : decode cX1_costOfHeld 34 = .ok (.getfield 21, 3) := by decide +kernel
theorem dX1_costOfHeld_37 : decode cX1_costOfHeld 37 = .ok (.goto 4, 3) := by decide +kernel
theorem dX1_costOfHeld_40 : decode cX1_costOfHeld 40 = .ok (.iconst 0, 1) := by decide +kernel
theorem dX1_costOfHeld_41 : decode cX1_costOfHeld 41 = .ok (.iadd, 1) := by decide +kernel
theorem dX1_costOfHeld_42 : decode cX1_costOfHeld 42 = .ok (.ireturn, 1) := by decide +kernel
theorem dX1_countWays_0 : decode cX1_countWays 0 = .ok (.iconst 0, 1) := by decide +kernel
theorem dX1_countWays_1 : decode cX1_countWays 1 = .ok (.istore_n 2, 1) := by decide +kernel
theorem dX1_countWays_2 : decode cX1_countWays 2 = .ok (.iload_n 2, 1) := by decide +kernel
theorem dX1_countWays_3 : decode cX1_countWays 3 = .ok (.aload_n 0, 1) := by decide +kernel
theorem dX1_countWays_4 : decode cX1_countWays 4 = .ok (.getfield 27, 3) := by decide +kernel
theorem dX1_countWays_7 : decode cX1_countWays 7 = .ok (.if_icmp .gt 24, 3) := by decide +kernel
theorem dX1_countWays_10 : decode cX1_countWays 10 = .ok (.aload_n 0, 1) := by decide +kernel
theorem dX1_countWays_11 : decode cX1_countWays 11 = .ok (.getfield 43, 3) := by decide +kernel
theorem dX1_countWays_14 : decode cX1_countWays 14 = .ok (.aload_n 0, 1) := by decide +kernel
theorem dX1_countWays_15 : decode cX1_countWays 15 = .ok (.getfield 24, 3) := by decide +kernel
theorem dX1_countWays_18 : decode cX1_countWays 18 = .ok (.bipush 25, 2) := by decide +kernel
theorem dX1_countWays_20 : decode cX1_countWays 20 = .ok (.imul, 1) := by decide +kernel
theorem dX1_countWays_21 : decode cX1_countWays 21 = .ok (.iload_n 2, 1) := by decide +kernel
theorem dX1_countWays_22 : decode cX1_countWays 22 = .ok (.iadd, 1) := by decide +kernel
theorem dX1_countWays_23 : decode cX1_countWays 23 = .ok (.iconst 1, 1) := by decide +kernel
theorem dX1_countWays_24 : decode cX1_countWays 24 = .ok (.iastore, 1) := by decide +kernel
theorem dX1_countWays_25 : decode cX1_countWays 25 = .ok (.iinc 2 1, 3) := by decide +kernel
theorem dX1_countWays_28 : decode cX1_countWays 28 = .ok (.goto (-26), 3) := by decide +kernel
theorem dX1_countWays_31 : decode cX1_countWays 31 = .ok (.aload_n 0, 1) := by decide +kernel
theorem dX1_countWays_32 : decode cX1_countWays 32 = .ok (.getfield 24, 3) := by decide +kernel
theorem dX1_countWays_35 : decode cX1_countWays 35 = .ok (.iconst 1, 1) := by decide +kernel
theorem dX1_countWays_36 : decode cX1_countWays 36 = .ok (.isub, 1) := by decide +kernel
theorem dX1_countWays_37 : decode cX1_countWays 37 = .ok (.istore_n 2, 1) := by decide +kernel
theorem dX1_countWays_38 : decode cX1_countWays 38 = .ok (.iload_n 2, 1) := by decide +kernel
theorem dX1_countWays_39 : decode cX1_countWays 39 = .ok (.ifCond .lt 59, 3) := by decide +kernel
theorem dX1_countWays_42 : decode cX1_countWays 42 = .ok (.aload_n 0, 1) := by decide +kernel
theorem dX1_countWays_43 : decode cX1_countWays 43 = .ok (.getfield 43, 3) := by decide +kernel
theorem dX1_countWays_46 : decode cX1_countWays 46 = .ok (.iload_n 2, 1) := by decide +kernel
theorem dX1_countWays_47 : decode cX1_countWays 47 = .ok (.bipush 25, 2) := by decide +kernel
theorem dX1_countWays_49 : decode cX1_countWays 49 = .ok (.imul, 1) := by decide +kernel
theorem dX1_countWays_50 : decode cX1_countWays 50 = .ok (.aload_n 0, 1) := by decide +kernel
theorem dX1_countWays_51 : decode cX1_countWays 51 = .ok (.getfield 27, 3) := by decide +kernel
theorem dX1_countWays_54 : decode cX1_countWays 54 = .ok (.iadd, 1) := by decide +kernel
theorem dX1_countWays_55 : decode cX1_countWays 55 = .ok (.iconst 0, 1) := by decide +kernel
theorem dX1_countWays_56 : decode cX1_countWays 56 = .ok (.iastore, 1) := by decide +kernel
theorem dX1_countWays_57 : decode cX1_countWays 57 = .ok (.aload_n 0, 1) := by decide +kernel
theorem dX1_countWays_58 : decode cX1_countWays 58 = .ok (.getfield 27, 3) := by decide +kernel
theorem dX1_countWays_61 : decode cX1_countWays 61 = .ok (.iconst 1, 1) := by decide +kernel
theorem dX1_countWays_62 : decode cX1_countWays 62 = .ok (.isub, 1) := by decide +kernel
theorem dX1_countWays_63 : decode cX1_countWays 63 = .ok (.istore_n 3, 1) := by decide +kernel
theorem dX1_countWays_64 : decode cX1_countWays 64 = .ok (.iload_n 3, 1) := by decide +kernel
theorem dX1_countWays_65 : decode cX1_countWays 65 = .ok (.ifCond .lt 27, 3) := by decide +kernel
theorem dX1_countWays_68 : decode cX1_countWays 68 = .ok (.aload_n 0, 1) := by decide +kernel
theorem dX1_countWays_69 : decode cX1_countWays 69 = .ok (.getfield 43, 3) := by decide +kernel
theorem dX1_countWays_72 : decode cX1_countWays 72 = .ok (.iload_n 2, 1) := by decide +kernel
theorem dX1_countWays_73 : decode cX1_countWays 73 = .ok (.bipush 25, 2) := by decide +kernel
theorem dX1_countWays_75 : decode cX1_countWays 75 = .ok (.imul, 1) := by decide +kernel
theorem dX1_countWays_76 : decode cX1_countWays 76 = .ok (.iload_n 3, 1) := by decide +kernel
theorem dX1_countWays_77 : decode cX1_countWays 77 = .ok (.iadd, 1) := by decide +kernel
theorem dX1_countWays_78 : decode cX1_countWays 78 = .ok (.aload_n 0, 1) := by decide +kernel
theorem dX1_countWays_79 : decode cX1_countWays 79 = .ok (.iload_n 2, 1) := by decide +kernel
theorem dX1_countWays_80 : decode cX1_countWays 80 = .ok (.iload_n 3, 1) := by decide +kernel
theorem dX1_countWays_81 : decode cX1_countWays 81 = .ok (.iload_n 1, 1) := by decide +kernel
theorem dX1_countWays_82 : decode cX1_countWays 82 = .ok (.invokevirtual 93, 3) := by decide +kernel
theorem dX1_countWays_85 : decode cX1_countWays 85 = .ok (.iastore, 1) := by decide +kernel
theorem dX1_countWays_86 : decode cX1_countWays 86 = .ok (.iinc 3 (-1), 3) := by decide +kernel
theorem dX1_countWays_89 : decode cX1_countWays 89 = .ok (.goto (-25), 3) := by decide +kernel
theorem dX1_countWays_92 : decode cX1_countWays 92 = .ok (.iinc 2 (-1), 3) := by decide +kernel
theorem dX1_countWays_95 : decode cX1_countWays 95 = .ok (.goto (-57), 3) := by decide +kernel
theorem dX1_countWays_98 : decode cX1_countWays 98 = .ok (.aload_n 0, 1) := by decide +kernel
theorem dX1_countWays_99 : decode cX1_countWays 99 = .ok (.getfield 43, 3) := by decide +kernel
theorem dX1_countWays_102 : decode cX1_countWays 102 = .ok (.iconst 0, 1) := by decide +kernel
theorem dX1_countWays_103 : decode cX1_countWays 103 = .ok (.iaload, 1) := by decide +kernel
theorem dX1_countWays_104 : decode cX1_countWays 104 = .ok (.ireturn, 1) := by decide +kernel
theorem dX1_waysFrom_0 : decode cX1_waysFrom 0 = .ok (.aload_n 0, 1) := by decide +kernel
theorem dX1_waysFrom_1 : decode cX1_waysFrom 1 = .ok (.getfield 40, 3) := by decide +kernel
theorem dX1_waysFrom_4 : decode cX1_waysFrom 4 = .ok (.iload_n 1, 1) := by decide +kernel
theorem dX1_waysFrom_5 : decode cX1_waysFrom 5 = .ok (.bipush 25, 2) := by decide +kernel
theorem dX1_waysFrom_7 : decode cX1_waysFrom 7 = .ok (.imul, 1) := by decide +kernel
theorem dX1_waysFrom_8 : decode cX1_waysFrom 8 = .ok (.iload_n 2, 1) := by decide +kernel
theorem dX1_waysFrom_9 : decode cX1_waysFrom 9 = .ok (.iadd, 1) := by decide +kernel
theorem dX1_waysFrom_10 : decode cX1_waysFrom 10 = .ok (.iaload, 1) := by decide +kernel
theorem dX1_waysFrom_11 : decode cX1_waysFrom 11 = .ok (.istore 4, 2) := by decide +kernel
theorem dX1_waysFrom_13 : decode cX1_waysFrom 13 = .ok (.iconst 0, 1) := by decide +kernel
theorem dX1_waysFrom_14 : decode cX1_waysFrom 14 = .ok (.istore 5, 2) := by decide +kernel
theorem dX1_waysFrom_16 : decode cX1_waysFrom 16 = .ok (.iload_n 3, 1) := by decide +kernel
theorem dX1_waysFrom_17 : decode cX1_waysFrom 17 = .ok (.ifCond .eq 14, 3) := by decide +kernel
theorem dX1_waysFrom_20 : decode cX1_waysFrom 20 = .ok (.aload_n 0, 1) := by decide +kernel
theorem dX1_waysFrom_21 : decode cX1_waysFrom 21 = .ok (.iload_n 1, 1) := by decide +kernel
theorem dX1_waysFrom_22 : decode cX1_waysFrom 22 = .ok (.iload_n 2, 1) := by decide +kernel
theorem dX1_waysFrom_23 : decode cX1_waysFrom 23 = .ok (.invokevirtual 71, 3) := by decide +kernel
theorem dX1_waysFrom_26 : decode cX1_waysFrom 26 = .ok (.iload 4, 2) := by decide +kernel
theorem dX1_waysFrom_28 : decode cX1_waysFrom 28 = .ok (.if_icmp .ne 21, 3) := by decide +kernel
theorem dX1_waysFrom_31 : decode cX1_waysFrom 31 = .ok (.iload 5, 2) := by decide +kernel
theorem dX1_waysFrom_33 : decode cX1_waysFrom 33 = .ok (.aload_n 0, 1) := by decide +kernel
theorem dX1_waysFrom_34 : decode cX1_waysFrom 34 = .ok (.getfield 43, 3) := by decide +kernel
theorem dX1_waysFrom_37 : decode cX1_waysFrom 37 = .ok (.iload_n 1, 1) := by decide +kernel
theorem dX1_waysFrom_38 : decode cX1_waysFrom 38 = .ok (.bipush 25, 2) := by decide +kernel
theorem dX1_waysFrom_40 : decode cX1_waysFrom 40 = .ok (.imul, 1) := by decide +kernel
theorem dX1_waysFrom_41 : decode cX1_waysFrom 41 = .ok (.iload_n 2, 1) := by decide +kernel
theorem dX1_waysFrom_42 : decode cX1_waysFrom 42 = .ok (.iadd, 1) := by decide +kernel
theorem dX1_waysFrom_43 : decode cX1_waysFrom 43 = .ok (.iconst 1, 1) := by decide +kernel
theorem dX1_waysFrom_44 : decode cX1_waysFrom 44 = .ok (.iadd, 1) := by decide +kernel
theorem dX1_waysFrom_45 : decode cX1_waysFrom 45 = .ok (.iaload, 1) := by decide +kernel
theorem dX1_waysFrom_46 : decode cX1_waysFrom 46 = .ok (.iadd, 1) := by decide +kernel
theorem dX1_waysFrom_47 : decode cX1_waysFrom 47 = .ok (.istore 5, 2) := by decide +kernel
theorem dX1_waysFrom_49 : decode cX1_waysFrom 49 = .ok (.iconst 1, 1) := by decide +kernel
theorem dX1_waysFrom_50 : decode cX1_waysFrom 50 = .ok (.istore 6, 2) := by decide +kernel
theorem dX1_waysFrom_52 : decode cX1_waysFrom 52 = .ok (.iload 6, 2) := by decide +kernel
theorem dX1_waysFrom_54 : decode cX1_waysFrom 54 = .ok (.aload_n 0, 1) := by decide +kernel
theorem dX1_waysFrom_55 : decode cX1_waysFrom 55 = .ok (.iload_n 2, 1) := by decide +kernel
theorem dX1_waysFrom_56 : decode cX1_waysFrom 56 = .ok (.invokevirtual 76, 3) := by decide +kernel
theorem dX1_waysFrom_59 : decode cX1_waysFrom 59 = .ok (.if_icmp .gt 47, 3) := by decide +kernel
theorem dX1_waysFrom_62 : decode cX1_waysFrom 62 = .ok (.iload_n 3, 1) := by decide +kernel
theorem dX1_waysFrom_63 : decode cX1_waysFrom 63 = .ok (.ifCond .eq 16, 3) := by decide +kernel
theorem dX1_waysFrom_66 : decode cX1_waysFrom 66 = .ok (.aload_n 0, 1) := by decide +kernel
theorem dX1_waysFrom_67 : decode cX1_waysFrom 67 = .ok (.iload_n 1, 1) := by decide +kernel
theorem dX1_waysFrom_68 : decode cX1_waysFrom 68 = .ok (.iload_n 2, 1) := by decide +kernel
theorem dX1_waysFrom_69 : decode cX1_waysFrom 69 = .ok (.iload 6, 2) := by decide +kernel
theorem dX1_waysFrom_71 : decode cX1_waysFrom 71 = .ok (.invokevirtual 80, 3) := by decide +kernel
theorem dX1_waysFrom_74 : decode cX1_waysFrom 74 = .ok (.iload 4, 2) := by decide +kernel
theorem dX1_waysFrom_76 : decode cX1_waysFrom 76 = .ok (.if_icmp .ne 24, 3) := by decide +kernel
theorem dX1_waysFrom_79 : decode cX1_waysFrom 79 = .ok (.iload 5, 2) := by decide +kernel
theorem dX1_waysFrom_81 : decode cX1_waysFrom 81 = .ok (.aload_n 0, 1) := by decide +kernel
theorem dX1_waysFrom_82 : decode cX1_waysFrom 82 = .ok (.getfield 43, 3) := by decide +kernel
theorem dX1_waysFrom_85 : decode cX1_waysFrom 85 = .ok (.iload_n 1, 1) := by decide +kernel
theorem dX1_waysFrom_86 : decode cX1_waysFrom 86 = .ok (.iconst 1, 1) := by decide +kernel
theorem dX1_waysFrom_87 : decode cX1_waysFrom 87 = .ok (.iadd, 1) := by decide +kernel
theorem dX1_waysFrom_88 : decode cX1_waysFrom 88 = .ok (.bipush 25, 2) := by decide +kernel
theorem dX1_waysFrom_90 : decode cX1_waysFrom 90 = .ok (.imul, 1) := by decide +kernel
theorem dX1_waysFrom_91 : decode cX1_waysFrom 91 = .ok (.iload_n 2, 1) := by decide +kernel
theorem dX1_waysFrom_92 : decode cX1_waysFrom 92 = .ok (.iadd, 1) := by decide +kernel
theorem dX1_waysFrom_93 : decode cX1_waysFrom 93 = .ok (.iload 6, 2) := by decide +kernel
theorem dX1_waysFrom_95 : decode cX1_waysFrom 95 = .ok (.iadd, 1) := by decide +kernel
theorem dX1_waysFrom_96 : decode cX1_waysFrom 96 = .ok (.iaload, 1) := by decide +kernel
theorem dX1_waysFrom_97 : decode cX1_waysFrom 97 = .ok (.iadd, 1) := by decide +kernel
theorem dX1_waysFrom_98 : decode cX1_waysFrom 98 = .ok (.istore 5, 2) := by decide +kernel
theorem dX1_waysFrom_100 : decode cX1_waysFrom 100 = .ok (.iinc 6 1, 3) := by decide +kernel
theorem dX1_waysFrom_103 : decode cX1_waysFrom 103 = .ok (.goto (-51), 3) := by decide +kernel
theorem dX1_waysFrom_106 : decode cX1_waysFrom 106 = .ok (.iload 5, 2) := by decide +kernel
theorem dX1_waysFrom_108 : decode cX1_waysFrom 108 = .ok (.ldc 75, 2) := by decide +kernel
theorem dX1_waysFrom_110 : decode cX1_waysFrom 110 = .ok (.invokestatic 84, 3) := by decide +kernel
theorem dX1_waysFrom_113 : decode cX1_waysFrom 113 = .ok (.ireturn, 1) := by decide +kernel
theorem dX1_findBestWay_0 : decode cX1_findBestWay 0 = .ok (.iconst 0, 1) := by decide +kernel
theorem dX1_findBestWay_1 : decode cX1_findBestWay 1 = .ok (.istore_n 1, 1) := by decide +kernel
theorem dX1_findBestWay_2 : decode cX1_findBestWay 2 = .ok (.iconst 0, 1) := by decide +kernel
theorem dX1_findBestWay_3 : decode cX1_findBestWay 3 = .ok (.istore_n 2, 1) := by decide +kernel
theorem dX1_findBestWay_4 : decode cX1_findBestWay 4 = .ok (.iload_n 2, 1) := by decide +kernel
theorem dX1_findBestWay_5 : decode cX1_findBestWay 5 = .ok (.aload_n 0, 1) := by decide +kernel
theorem dX1_findBestWay_6 : decode cX1_findBestWay 6 = .ok (.getfield 24, 3) := by decide +kernel
theorem dX1_findBestWay_9 : decode cX1_findBestWay 9 = .ok (.if_icmp .ge 72, 3) := by decide +kernel
theorem dX1_findBestWay_12 : decode cX1_findBestWay 12 = .ok (.iload_n 1, 1) := by decide +kernel
theorem dX1_findBestWay_13 : decode cX1_findBestWay 13 = .ok (.aload_n 0, 1) := by decide +kernel
theorem dX1_findBestWay_14 : decode cX1_findBestWay 14 = .ok (.getfield 27, 3) := by decide +kernel
theorem dX1_findBestWay_17 : decode cX1_findBestWay 17 = .ok (.if_icmp .ge 18, 3) := by decide +kernel
theorem dX1_findBestWay_20 : decode cX1_findBestWay 20 = .ok (.aload_n 0, 1) := by decide +kernel
theorem dX1_findBestWay_21 : decode cX1_findBestWay 21 = .ok (.iload_n 2, 1) := by decide +kernel
theorem dX1_findBestWay_22 : decode cX1_findBestWay 22 = .ok (.iload_n 1, 1) := by decide +kernel
theorem dX1_findBestWay_23 : decode cX1_findBestWay 23 = .ok (.invokevirtual 97, 3) := by decide +kernel
theorem dX1_findBestWay_26 : decode cX1_findBestWay 26 = .ok (.ifCond .ne 9, 3) := by decide +kernel
theorem dX1_findBestWay_29 : decode cX1_findBestWay 29 = .ok (.iinc 1 1, 3) := by decide +kernel
theorem dX1_findBestWay_32 : decode cX1_findBestWay 32 = .ok (.goto (-20), 3) := by decide +kernel
theorem dX1_findBestWay_35 : decode cX1_findBestWay 35 = .ok (.aload_n 0, 1) := by decide +kernel
theorem dX1_findBestWay_36 : decode cX1_findBestWay 36 = .ok (.getfield 46, 3) := by decide +kernel
theorem dX1_findBestWay_39 : decode cX1_findBestWay 39 = .ok (.iload_n 2, 1) := by decide +kernel
theorem dX1_findBestWay_40 : decode cX1_findBestWay 40 = .ok (.iload_n 1, 1) := by decide +kernel
theorem dX1_findBestWay_41 : decode cX1_findBestWay 41 = .ok (.iastore, 1) := by decide +kernel
theorem dX1_findBestWay_42 : decode cX1_findBestWay 42 = .ok (.aload_n 0, 1) := by decide +kernel
theorem dX1_findBestWay_43 : decode cX1_findBestWay 43 = .ok (.getfield 49, 3) := by decide +kernel
theorem dX1_findBestWay_46 : decode cX1_findBestWay 46 = .ok (.iload_n 2, 1) := by decide +kernel
theorem dX1_findBestWay_47 : decode cX1_findBestWay 47 = .ok (.iload_n 1, 1) := by decide +kernel
theorem dX1_findBestWay_48 : decode cX1_findBestWay 48 = .ok (.aload_n 0, 1) := by decide +kernel
theorem dX1_findBestWay_49 : decode cX1_findBestWay 49 = .ok (.getfield 27, 3) := by decide +kernel
theorem dX1_findBestWay_52 : decode cX1_findBestWay 52 = .ok (.if_icmp .ge 12, 3) := by decide +kernel
theorem dX1_findBestWay_55 : decode cX1_findBestWay 55 = .ok (.aload_n 0, 1) := by decide +kernel
theorem dX1_findBestWay_56 : decode cX1_findBestWay 56 = .ok (.iload_n 2, 1) := by decide +kernel
theorem dX1_findBestWay_57 : decode cX1_findBestWay 57 = .ok (.iload_n 1, 1) := by decide +kernel
theorem dX1_findBestWay_58 : decode cX1_findBestWay 58 = .ok (.invokevirtual 97, 3) := by decide +kernel
theorem dX1_findBestWay_61 : decode cX1_findBestWay 61 = .ok (.goto 4, 3) := by decide +kernel
theorem dX1_findBestWay_64 : decode cX1_findBestWay 64 = .ok (.iconst 0, 1) := by decide +kernel
theorem dX1_findBestWay_65 : decode cX1_findBestWay 65 = .ok (.iastore, 1) := by decide +kernel
theorem dX1_findBestWay_66 : decode cX1_findBestWay 66 = .ok (.iload_n 1, 1) := by decide +kernel
theorem dX1_findBestWay_67 : decode cX1_findBestWay 67 = .ok (.aload_n 0, 1) := by decide +kernel
theorem dX1_findBestWay_68 : decode cX1_findBestWay 68 = .ok (.getfield 49, 3) := by decide +kernel
theorem dX1_findBestWay_71 : decode cX1_findBestWay 71 = .ok (.iload_n 2, 1) := by decide +kernel
theorem dX1_findBestWay_72 : decode cX1_findBestWay 72 = .ok (.iaload, 1) := by decide +kernel
theorem dX1_findBestWay_73 : decode cX1_findBestWay 73 = .ok (.iadd, 1) := by decide +kernel
theorem dX1_findBestWay_74 : decode cX1_findBestWay 74 = .ok (.istore_n 1, 1) := by decide +kernel
theorem dX1_findBestWay_75 : decode cX1_findBestWay 75 = .ok (.iinc 2 1, 3) := by decide +kernel
theorem dX1_findBestWay_78 : decode cX1_findBestWay 78 = .ok (.goto (-74), 3) := by decide +kernel
theorem dX1_findBestWay_81 : decode cX1_findBestWay 81 = .ok (.return_, 1) := by decide +kernel
theorem dX1_heldByBestWay_0 : decode cX1_heldByBestWay 0 = .ok (.iconst 1, 1) := by decide +kernel
theorem dX1_heldByBestWay_1 : decode cX1_heldByBestWay 1 = .ok (.istore_n 3, 1) := by decide +kernel
theorem dX1_heldByBestWay_2 : decode cX1_heldByBestWay 2 = .ok (.iload_n 3, 1) := by decide +kernel
theorem dX1_heldByBestWay_3 : decode cX1_heldByBestWay 3 = .ok (.aload_n 0, 1) := by decide +kernel
theorem dX1_heldByBestWay_4 : decode cX1_heldByBestWay 4 = .ok (.iload_n 2, 1) := by decide +kernel
theorem dX1_heldByBestWay_5 : decode cX1_heldByBestWay 5 = .ok (.invokevirtual 76, 3) := by decide +kernel
theorem dX1_heldByBestWay_8 : decode cX1_heldByBestWay 8 = .ok (.if_icmp .gt 32, 3) := by decide +kernel
theorem dX1_heldByBestWay_11 : decode cX1_heldByBestWay 11 = .ok (.aload_n 0, 1) := by decide +kernel
theorem dX1_heldByBestWay_12 : decode cX1_heldByBestWay 12 = .ok (.iload_n 1, 1) := by decide +kernel
theorem dX1_heldByBestWay_13 : decode cX1_heldByBestWay 13 = .ok (.iload_n 2, 1) := by decide +kernel
theorem dX1_heldByBestWay_14 : decode cX1_heldByBestWay 14 = .ok (.iload_n 3, 1) := by decide +kernel
theorem dX1_heldByBestWay_15 : decode cX1_heldByBestWay 15 = .ok (.invokevirtual 80, 3) := by decide +kernel
theorem dX1_heldByBestWay_18 : decode cX1_heldByBestWay 18 = .ok (.aload_n 0, 1) := by decide +kernel
theorem dX1_heldByBestWay_19 : decode cX1_heldByBestWay 19 = .ok (.getfield 40, 3) := by decide +kernel
theorem dX1_heldByBestWay_22 : decode cX1_heldByBestWay 22 = .ok (.iload_n 1, 1) := by decide +kernel
theorem dX1_heldByBestWay_23 : decode cX1_heldByBestWay 23 = .ok (.bipush 25, 2) := by decide +kernel
theorem dX1_heldByBestWay_25 : decode cX1_heldByBestWay 25 = .ok (.imul, 1) := by decide +kernel
theorem dX1_heldByBestWay_26 : decode cX1_heldByBestWay 26 = .ok (.iload_n 2, 1) := by decide +kernel
theorem dX1_heldByBestWay_27 : decode cX1_heldByBestWay 27 = .ok (.iadd, 1) := by decide +kernel
theorem dX1_heldByBestWay_28 : decode cX1_heldByBestWay 28 = .ok (.iaload, 1) := by decide +kernel
theorem dX1_heldByBestWay_29 : decode cX1_heldByBestWay 29 = .ok (.if_icmp .ne 5, 3) := by decide +kernel
theorem dX1_heldByBestWay_32 : decode cX1_heldByBestWay 32 = .ok (.iload_n 3, 1) := by decide +kernel
theorem dX1_heldByBestWay_33 : decode cX1_heldByBestWay 33 = .ok (.ireturn, 1) := by decide +kernel
theorem dX1_heldByBestWay_34 : decode cX1_heldByBestWay 34 = .ok (.iinc 3 1, 3) := by decide +kernel
theorem dX1_heldByBestWay_37 : decode cX1_heldByBestWay 37 = .ok (.goto (-35), 3) := by decide +kernel
theorem dX1_heldByBestWay_40 : decode cX1_heldByBestWay 40 = .ok (.iconst 0, 1) := by decide +kernel
theorem dX1_heldByBestWay_41 : decode cX1_heldByBestWay 41 = .ok (.ireturn, 1) := by decide +kernel
theorem dX1_freeBeats_0 : decode cX1_freeBeats 0 = .ok (.aload_n 0, 1) := by decide +kernel
theorem dX1_freeBeats_1 : decode cX1_freeBeats 1 = .ok (.invokevirtual 100, 3) := by decide +kernel
theorem dX1_freeBeats_4 : decode cX1_freeBeats 4 = .ok (.iconst 0, 1) := by decide +kernel
theorem dX1_freeBeats_5 : decode cX1_freeBeats 5 = .ok (.istore_n 1, 1) := by decide +kernel
theorem dX1_freeBeats_6 : decode cX1_freeBeats 6 = .ok (.iconst 0, 1) := by decide +kernel
theorem dX1_freeBeats_7 : decode cX1_freeBeats 7 = .ok (.istore_n 2, 1) := by decide +kernel
theorem dX1_freeBeats_8 : decode cX1_freeBeats 8 = .ok (.iload_n 2, 1) := by decide +kernel
theorem dX1_freeBeats_9 : decode cX1_freeBeats 9 = .ok (.aload_n 0, 1) := by decide +kernel
theorem dX1_freeBeats_10 : decode cX1_freeBeats 10 = .ok (.getfield 27, 3) := by decide +kernel
theorem dX1_freeBeats_13 : decode cX1_freeBeats 13 = .ok (.if_icmp .ge 21, 3) := by decide +kernel
theorem dX1_freeBeats_16 : decode cX1_freeBeats 16 = .ok (.aload_n 0, 1) := by decide +kernel
theorem dX1_freeBeats_17 : decode cX1_freeBeats 17 = .ok (.getfield 34, 3) := by decide +kernel
theorem dX1_freeBeats_20 : decode cX1_freeBeats 20 = .ok (.iload_n 2, 1) := by decide +kernel
theorem dX1_freeBeats_21 : decode cX1_freeBeats 21 = .ok (.iaload, 1) := by decide +kernel
theorem dX1_freeBeats_22 : decode cX1_freeBeats 22 = .ok (.ifCond .eq 6, 3) := by decide +kernel
theorem dX1_freeBeats_25 : decode cX1_freeBeats 25 = .ok (.iinc 1 1, 3) := by decide +kernel
theorem dX1_freeBeats_28 : decode cX1_freeBeats 28 = .ok (.iinc 2 1, 3) := by decide +kernel
theorem dX1_freeBeats_31 : decode cX1_freeBeats 31 = .ok (.goto (-23), 3) := by decide +kernel
theorem dX1_freeBeats_34 : decode cX1_freeBeats 34 = .ok (.iconst 0, 1) := by decide +kernel
theorem dX1_freeBeats_35 : decode cX1_freeBeats 35 = .ok (.istore_n 2, 1) := by decide +kernel
theorem dX1_freeBeats_36 : decode cX1_freeBeats 36 = .ok (.iload_n 2, 1) := by decide +kernel
theorem dX1_freeBeats_37 : decode cX1_freeBeats 37 = .ok (.aload_n 0, 1) := by decide +kernel
theorem dX1_freeBeats_38 : decode cX1_freeBeats 38 = .ok (.getfield 24, 3) := by decide +kernel
theorem dX1_freeBeats_41 : decode cX1_freeBeats 41 = .ok (.if_icmp .ge 18, 3) := by decide +kernel
theorem dX1_freeBeats_44 : decode cX1_freeBeats 44 = .ok (.iload_n 1, 1) := by decide +kernel
theorem dX1_freeBeats_45 : decode cX1_freeBeats 45 = .ok (.aload_n 0, 1) := by decide +kernel
theorem dX1_freeBeats_46 : decode cX1_freeBeats 46 = .ok (.getfield 49, 3) := by decide +kernel
theorem dX1_freeBeats_49 : decode cX1_freeBeats 49 = .ok (.iload_n 2, 1) := by decide +kernel
theorem dX1_freeBeats_50 : decode cX1_freeBeats 50 = .ok (.iaload, 1) := by decide +kernel
theorem dX1_freeBeats_51 : decode cX1_freeBeats 51 = .ok (.isub, 1) := by decide +kernel
theorem dX1_freeBeats_52 : decode cX1_freeBeats 52 = .ok (.istore_n 1, 1) := by decide +kernel
theorem dX1_freeBeats_53 : decode cX1_freeBeats 53 = .ok (.iinc 2 1, 3) := by decide +kernel
theorem dX1_freeBeats_56 : decode cX1_freeBeats 56 = .ok (.goto (-20), 3) := by decide +kernel
theorem dX1_freeBeats_59 : decode cX1_freeBeats 59 = .ok (.iload_n 1, 1) := by decide +kernel
theorem dX1_freeBeats_60 : decode cX1_freeBeats 60 = .ok (.ireturn, 1) := by decide +kernel
theorem dX1_hurtSyllables_0 : decode cX1_hurtSyllables 0 = .ok (.aload_n 0, 1) := by decide +kernel
theorem dX1_hurtSyllables_1 : decode cX1_hurtSyllables 1 = .ok (.invokevirtual 100, 3) := by decide +kernel
theorem dX1_hurtSyllables_4 : decode cX1_hurtSyllables 4 = .ok (.iconst 0, 1) := by decide +kernel
theorem dX1_hurtSyllables_5 : decode cX1_hurtSyllables 5 = .ok (.istore_n 1, 1) := by decide +kernel
theorem dX1_hurtSyllables_6 : decode cX1_hurtSyllables 6 = .ok (.iconst 0, 1) := by decide +kernel
theorem dX1_hurtSyllables_7 : decode cX1_hurtSyllables 7 = .ok (.istore_n 2, 1) := by decide +kernel
theorem dX1_hurtSyllables_8 : decode cX1_hurtSyllables 8 = .ok (.iload_n 2, 1) := by decide +kernel
theorem dX1_hurtSyllables_9 : decode cX1_hurtSyllables 9 = .ok (.aload_n 0, 1) := by decide +kernel
theorem dX1_hurtSyllables_10 : decode cX1_hurtSyllables 10 = .ok (.getfield 24, 3) := by decide +kernel
theorem dX1_hurtSyllables_13 : decode cX1_hurtSyllables 13 = .ok (.if_icmp .ge 26, 3) := by decide +kernel
theorem dX1_hurtSyllables_16 : decode cX1_hurtSyllables 16 = .ok (.aload_n 0, 1) := by decide +kernel
theorem dX1_hurtSyllables_17 : decode cX1_hurtSyllables 17 = .ok (.iload_n 2, 1) := by decide +kernel
theorem dX1_hurtSyllables_18 : decode cX1_hurtSyllables 18 = .ok (.aload_n 0, 1) := by decide +kernel
theorem dX1_hurtSyllables_19 : decode cX1_hurtSyllables 19 = .ok (.getfield 46, 3) := by decide +kernel
theorem dX1_hurtSyllables_22 : decode cX1_hurtSyllables 22 = .ok (.iload_n 2, 1) := by decide +kernel
theorem dX1_hurtSyllables_23 : decode cX1_hurtSyllables 23 = .ok (.iaload, 1) := by decide +kernel
theorem dX1_hurtSyllables_24 : decode cX1_hurtSyllables 24 = .ok (.invokevirtual 89, 3) := by decide +kernel
theorem dX1_hurtSyllables_27 : decode cX1_hurtSyllables 27 = .ok (.ifCond .eq 6, 3) := by decide +kernel
theorem dX1_hurtSyllables_30 : decode cX1_hurtSyllables 30 = .ok (.iinc 1 1, 3) := by decide +kernel
theorem dX1_hurtSyllables_33 : decode cX1_hurtSyllables 33 = .ok (.iinc 2 1, 3) := by decide +kernel
theorem dX1_hurtSyllables_36 : decode cX1_hurtSyllables 36 = .ok (.goto (-28), 3) := by decide +kernel
theorem dX1_hurtSyllables_39 : decode cX1_hurtSyllables 39 = .ok (.iload_n 1, 1) := by decide +kernel
theorem dX1_hurtSyllables_40 : decode cX1_hurtSyllables 40 = .ok (.ireturn, 1) := by decide +kernel
end
section
theorem dX2_init_0 : decode cX2_init 0 = .ok (.aload_n 0, 1) := by decide +kernel
theorem dX2_init_1 : decode cX2_init 1 = .ok (.invokespecial 3, 3) := by decide +kernel
theorem dX2_init_4 : decode cX2_init 4 = .ok (.aload_n 0, 1) := by decide +kernel
theorem dX2_init_5 : decode cX2_init 5 = .ok (.bipush 60, 2) := by decide +kernel
theorem dX2_init_7 : decode cX2_init 7 = .ok (.newarray .char, 2) := by decide +kernel
theorem dX2_init_9 : decode cX2_init 9 = .ok (.putfield 9, 3) := by decide +kernel
theorem dX2_init_12 : decode cX2_init 12 = .ok (.aload_n 0, 1) := by decide +kernel
theorem dX2_init_13 : decode cX2_init 13 = .ok (.iconst 0, 1) := by decide +kernel
theorem dX2_init_14 : decode cX2_init 14 = .ok (.putfield 15, 3) := by decide +kernel
theorem dX2_init_17 : decode cX2_init 17 = .ok (.return_, 1) := by decide +kernel
theorem dX2_isSyllable_0 : decode cX2_isSyllable 0 = .ok (.iload_n 0, 1) := by decide +kernel
theorem dX2_isSyllable_1 : decode cX2_isSyllable 1 = .ok (.bipush 120, 2) := by decide +kernel
theorem dX2_isSyllable_3 : decode cX2_isSyllable 3 = .ok (.if_icmp .eq 9, 3) := by decide +kernel
theorem dX2_isSyllable_6 : decode cX2_isSyllable 6 = .ok (.iload_n 0, 1) := by decide +kernel
theorem dX2_isSyllable_7 : decode cX2_isSyllable 7 = .ok (.bipush 88, 2) := by decide +kernel
theorem dX2_isSyllable_9 : decode cX2_isSyllable 9 = .ok (.if_icmp .ne 7, 3) := by decide +kernel
theorem dX2_isSyllable_12 : decode cX2_isSyllable 12 = .ok (.iconst 1, 1) := by decide +kernel
theorem dX2_isSyllable_13 : decode cX2_isSyllable 13 = .ok (.goto 4, 3) := by decide +kernel
theorem dX2_isSyllable_16 : decode cX2_isSyllable 16 = .ok (.iconst 0, 1) := by decide +kernel
theorem dX2_isSyllable_17 : decode cX2_isSyllable 17 = .ok (.ireturn, 1) := by decide +kernel
theorem dX2_isBeat_0 : decode cX2_isBeat 0 = .ok (.iload_n 0, 1) := by decide +kernel
theorem dX2_isBeat_1 : decode cX2_isBeat 1 = .ok (.bipush 115, 2) := by decide +kernel
theorem dX2_isBeat_3 : decode cX2_isBeat 3 = .ok (.if_icmp .eq 15, 3) := by decide +kernel
theorem dX2_isBeat_6 : decode cX2_isBeat 6 = .ok (.iload_n 0, 1) := by decide +kernel
theorem dX2_isBeat_7 : decode cX2_isBeat 7 = .ok (.bipush 119, 2) := by decide +kernel
theorem dX2_isBeat_9 : decode cX2_isBeat 9 = .ok (.if_icmp .eq 9, 3) := by decide +kernel
theorem dX2_isBeat_12 : decode cX2_isBeat 12 = .ok (.iload_n 0, 1) := by decide +kernel
theorem dX2_isBeat_13 : decode cX2_isBeat 13 = .ok (.bipush 46, 2) := by decide +kernel
theorem dX2_isBeat_15 : decode cX2_isBeat 15 = .ok (.if_icmp .ne 7, 3) := by decide +kernel
theorem dX2_isBeat_18 : decode cX2_isBeat 18 = .ok (.iconst 1, 1) := by decide +kernel
theorem dX2_isBeat_19 : decode cX2_isBeat 19 = .ok (.goto 4, 3) := by decide +kernel
theorem dX2_isBeat_22 : decode cX2_isBeat 22 = .ok (.iconst 0, 1) := by decide +kernel
theorem dX2_isBeat_23 : decode cX2_isBeat 23 = .ok (.ireturn, 1) := by decide +kernel
theorem dX2_signsIn_0 : decode cX2_signsIn 0 = .ok (.lload_n 0, 1) := by decide +kernel
theorem dX2_signsIn_1 : decode cX2_signsIn 1 = .ok (.lstore_n 2, 1) := by decide +kernel
theorem dX2_signsIn_2 : decode cX2_signsIn 2 = .ok (.iconst 0, 1) := by decide +kernel
theorem dX2_signsIn_3 : decode cX2_signsIn 3 = .ok (.istore 4, 2) := by decide +kernel
theorem dX2_signsIn_5 : decode cX2_signsIn 5 = .ok (.lload_n 2, 1) := by decide +kernel
theorem dX2_signsIn_6 : decode cX2_signsIn 6 = .ok (.lconst 0, 1) := by decide +kernel
theorem dX2_signsIn_7 : decode cX2_signsIn 7 = .ok (.lcmp, 1) := by decide +kernel
theorem dX2_signsIn_8 : decode cX2_signsIn 8 = .ok (.ifCond .eq 48, 3) := by decide +kernel
theorem dX2_signsIn_11 : decode cX2_signsIn 11 = .ok (.iload 4, 2) := by decide +kernel
theorem dX2_signsIn_13 : decode cX2_signsIn 13 = .ok (.bipush 8, 2) := by decide +kernel
theorem dX2_signsIn_15 : decode cX2_signsIn 15 = .ok (.if_icmp .ge 41, 3) := by decide +kernel
theorem dX2_signsIn_18 : decode cX2_signsIn 18 = .ok (.lload_n 2, 1) := by decide +kernel
theorem dX2_signsIn_19 : decode cX2_signsIn 19 = .ok (.ldc2_w 19, 3) := by decide +kernel
theorem dX2_signsIn_22 : decode cX2_signsIn 22 = .ok (.land, 1) := by decide +kernel
theorem dX2_signsIn_23 : decode cX2_signsIn 23 = .ok (.lstore 5, 2) := by decide +kernel
theorem dX2_signsIn_25 : decode cX2_signsIn 25 = .ok (.lload 5, 2) := by decide +kernel
theorem dX2_signsIn_27 : decode cX2_signsIn 27 = .ok (.ldc2_w 21, 3) := by decide +kernel
theorem dX2_signsIn_30 : decode cX2_signsIn 30 = .ok (.lcmp, 1) := by decide +kernel
theorem dX2_signsIn_31 : decode cX2_signsIn 31 = .ok (.ifCond .lt 12, 3) := by decide +kernel
theorem dX2_signsIn_34 : decode cX2_signsIn 34 = .ok (.lload 5, 2) := by decide +kernel
theorem dX2_signsIn_36 : decode cX2_signsIn 36 = .ok (.ldc2_w 23, 3) := by decide +kernel
theorem dX2_signsIn_39 : decode cX2_signsIn 39 = .ok (.lcmp, 1) := by decide +kernel
theorem dX2_signsIn_40 : decode cX2_signsIn 40 = .ok (.ifCond .le 5, 3) := by decide +kernel
theorem dX2_signsIn_43 : decode cX2_signsIn 43 = .ok (.iconst 0, 1) := by decide +kernel
theorem dX2_signsIn_44 : decode cX2_signsIn 44 = .ok (.ireturn, 1) := by decide +kernel
theorem dX2_signsIn_45 : decode cX2_signsIn 45 = .ok (.lload_n 2, 1) := by decide +kernel
theorem dX2_signsIn_46 : decode cX2_signsIn 46 = .ok (.bipush 8, 2) := by decide +kernel
theorem dX2_signsIn_48 : decode cX2_signsIn 48 = .ok (.lushr, 1) := by decide +kernel
theorem dX2_signsIn_49 : decode cX2_signsIn 49 = .ok (.lstore_n 2, 1) := by decide +kernel
theorem dX2_signsIn_50 : decode cX2_signsIn 50 = .ok (.iinc 4 1, 3) := by decide +kernel
theorem dX2_signsIn_53 : decode cX2_signsIn 53 = .ok (.goto (-48), 3) := by decide +kernel
theorem dX2_signsIn_56 : decode cX2_signsIn 56 = .ok (.iload 4, 2) := by decide +kernel
theorem dX2_signsIn_58 : decode cX2_signsIn 58 = .ok (.ireturn, 1) := by decide +kernel
theorem dX2_append_0 : decode cX2_append 0 = .ok (.iload_n 3, 1) := by decide +kernel
theorem dX2_append_1 : decode cX2_append 1 = .ok (.iconst 1, 1) := by decide +kernel
theorem dX2_append_2 : decode cX2_append 2 = .ok (.isub, 1) := by decide +kernel
theorem dX2_append_3 : decode cX2_append 3 = .ok (.istore 4, 2) := by decide +kernel
theorem dX2_append_5 : decode cX2_append 5 = .ok (.iload 4, 2) := by decide +kernel
theorem dX2_append_7 : decode cX2_append 7 = .ok (.ifCond .lt 50, 3) := by decide +kernel
theorem dX2_append_10 : decode cX2_append 10 = .ok (.aload_n 0, 1) := by decide +kernel
theorem dX2_append_11 : decode cX2_append 11 = .ok (.getfield 15, 3) := by decide +kernel
theorem dX2_append_14 : decode cX2_append 14 = .ok (.bipush 60, 2) := by decide +kernel
theorem dX2_append_16 : decode cX2_append 16 = .ok (.if_icmp .ge 35, 3) := by decide +kernel
theorem dX2_append_19 : decode cX2_append 19 = .ok (.aload_n 0, 1) := by decide +kernel
theorem dX2_append_20 : decode cX2_append 20 = .ok (.getfield 9, 3) := by decide +kernel
theorem dX2_append_23 : decode cX2_append 23 = .ok (.aload_n 0, 1) := by decide +kernel
theorem dX2_append_24 : decode cX2_append 24 = .ok (.getfield 15, 3) := by decide +kernel
theorem dX2_append_27 : decode cX2_append 27 = .ok (.lload_n 1, 1) := by decide +kernel
theorem dX2_append_28 : decode cX2_append 28 = .ok (.bipush 8, 2) := by decide +kernel
theorem dX2_append_30 : decode cX2_append 30 = .ok (.iload 4, 2) := by decide +kernel
theorem dX2_append_32 : decode cX2_append 32 = .ok (.imul, 1) := by decide +kernel
theorem dX2_append_33 : decode cX2_append 33 = .ok (.lushr, 1) := by decide +kernel
theorem dX2_append_34 : decode cX2_append 34 = .ok (.ldc2_w 19, 3) := by decide +kernel
theorem dX2_append_37 : decode cX2_append 37 = .ok (.land, 1) := by decide +kernel
theorem dX2_append_38 : decode cX2_append 38 = .ok (.l2i, 1) := by decide +kernel
theorem dX2_append_39 : decode cX2_append 39 = .ok (.i2c, 1) := by decide +kernel
theorem dX2_append_40 : decode cX2_append 40 = .ok (.castore, 1) := by decide +kernel
theorem dX2_append_41 : decode cX2_append 41 = .ok (.aload_n 0, 1) := by decide +kernel
theorem dX2_append_42 : decode cX2_append 42 = .ok (.dup, 1) := by decide +kernel
theorem dX2_append_43 : decode cX2_append 43 = .ok (.getfield 15, 3) := by decide +kernel
theorem dX2_append_46 : decode cX2_append 46 = .ok (.iconst 1, 1) := by decide +kernel
theorem dX2_append_47 : decode cX2_append 47 = .ok (.iadd, 1) := by decide +kernel
theorem dX2_append_48 : decode cX2_append 48 = .ok (.putfield 15, 3) := by decide +kernel
theorem dX2_append_51 : decode cX2_append 51 = .ok (.iinc 4 (-1), 3) := by decide +kernel
theorem dX2_append_54 : decode cX2_append 54 = .ok (.goto (-49), 3) := by decide +kernel
theorem dX2_append_57 : decode cX2_append 57 = .ok (.return_, 1) := by decide +kernel
theorem dX2_beginsPart_0 : decode cX2_beginsPart 0 = .ok (.iload_n 1, 1) := by decide +kernel
theorem dX2_beginsPart_1 : decode cX2_beginsPart 1 = .ok (.ifCond .eq 28, 3) := by decide +kernel
theorem dX2_beginsPart_4 : decode cX2_beginsPart 4 = .ok (.iload_n 1, 1) := by decide +kernel
theorem dX2_beginsPart_5 : decode cX2_beginsPart 5 = .ok (.ifCond .le 28, 3) := by decide +kernel
theorem dX2_beginsPart_8 : decode cX2_beginsPart 8 = .ok (.iload_n 1, 1) := by decide +kernel
theorem dX2_beginsPart_9 : decode cX2_beginsPart 9 = .ok (.aload_n 0, 1) := by decide +kernel
theorem dX2_beginsPart_10 : decode cX2_beginsPart 10 = .ok (.getfield 15, 3) := by decide +kernel
theorem dX2_beginsPart_13 : decode cX2_beginsPart 13 = .ok (.if_icmp .ge 20, 3) := by decide +kernel
theorem dX2_beginsPart_16 : decode cX2_beginsPart 16 = .ok (.aload_n 0, 1) := by decide +kernel
theorem dX2_beginsPart_17 : decode cX2_beginsPart 17 = .ok (.getfield 9, 3) := by decide +kernel
theorem dX2_beginsPart_20 : decode cX2_beginsPart 20 = .ok (.iload_n 1, 1) := by decide +kernel
theorem dX2_beginsPart_21 : decode cX2_beginsPart 21 = .ok (.iconst 1, 1) := by decide +kernel
theorem dX2_beginsPart_22 : decode cX2_beginsPart 22 = .ok (.isub, 1) := by decide +kernel
theorem dX2_beginsPart_23 : decode cX2_beginsPart 23 = .ok (.caload, 1) := by decide +kernel
theorem dX2_beginsPart_24 : decode cX2_beginsPart 24 = .ok (.bipush 59, 2) := by decide +kernel
theorem dX2_beginsPart_26 : decode cX2_beginsPart 26 = .ok (.if_icmp .ne 7, 3) := by decide +kernel
theorem dX2_beginsPart_29 : decode cX2_beginsPart 29 = .ok (.iconst 1, 1) := by decide +kernel
theorem dX2_beginsPart_30 : decode cX2_beginsPart 30 = .ok (.goto 4, 3) := by decide +kernel
theorem dX2_beginsPart_33 : decode cX2_beginsPart 33 = .ok (.iconst 0, 1) := by decide +kernel
theorem dX2_beginsPart_34 : decode cX2_beginsPart 34 = .ok (.ireturn, 1) := by decide +kernel
theorem dX2_parts_0 : decode cX2_parts 0 = .ok (.iconst 0, 1) := by decide +kernel
theorem dX2_parts_1 : decode cX2_parts 1 = .ok (.istore_n 1, 1) := by decide +kernel
theorem dX2_parts_2 : decode cX2_parts 2 = .ok (.iconst 0, 1) := by decide +kernel
theorem dX2_parts_3 : decode cX2_parts 3 = .ok (.istore_n 2, 1) := by decide +kernel
theorem dX2_parts_4 : decode cX2_parts 4 = .ok (.iload_n 2, 1) := by decide +kernel
theorem dX2_parts_5 : decode cX2_parts 5 = .ok (.aload_n 0, 1) := by decide +kernel
theorem dX2_parts_6 : decode cX2_parts 6 = .ok (.getfield 15, 3) := by decide +kernel
theorem dX2_parts_9 : decode cX2_parts 9 = .ok (.if_icmp .ge 20, 3) := by decide +kernel
theorem dX2_parts_12 : decode cX2_parts 12 = .ok (.aload_n 0, 1) := by decide +kernel
theorem dX2_parts_13 : decode cX2_parts 13 = .ok (.iload_n 2, 1) := by decide +kernel
theorem dX2_parts_14 : decode cX2_parts 14 = .ok (.invokevirtual 25, 3) := by decide +kernel
theorem dX2_parts_17 : decode cX2_parts 17 = .ok (.ifCond .eq 6, 3) := by decide +kernel
theorem dX2_parts_20 : decode cX2_parts 20 = .ok (.iinc 1 1, 3) := by decide +kernel
theorem dX2_parts_23 : decode cX2_parts 23 = .ok (.iinc 2 1, 3) := by decide +kernel
theorem dX2_parts_26 : decode cX2_parts 26 = .ok (.goto (-22), 3) := by decide +kernel
theorem dX2_parts_29 : decode cX2_parts 29 = .ok (.iload_n 1, 1) := by decide +kernel
theorem dX2_parts_30 : decode cX2_parts 30 = .ok (.ireturn, 1) := by decide +kernel
theorem dX2_phraseParts_0 : decode cX2_phraseParts 0 = .ok (.iconst 0, 1) := by decide +kernel
theorem dX2_phraseParts_1 : decode cX2_phraseParts 1 = .ok (.istore_n 1, 1) := by decide +kernel
theorem dX2_phraseParts_2 : decode cX2_phraseParts 2 = .ok (.iconst 0, 1) := by decide +kernel
theorem dX2_phraseParts_3 : decode cX2_phraseParts 3 = .ok (.istore_n 2, 1) := by decide +kernel
theorem dX2_phraseParts_4 : decode cX2_phraseParts 4 = .ok (.iload_n 2, 1) := by decide +kernel
theorem dX2_phraseParts_5 : decode cX2_phraseParts 5 = .ok (.aload_n 0, 1) := by decide +kernel
theorem dX2_phraseParts_6 : decode cX2_phraseParts 6 = .ok (.getfield 15, 3) := by decide +kernel
theorem dX2_phraseParts_9 : decode cX2_phraseParts 9 = .ok (.if_icmp .ge 23, 3) := by decide +kernel
theorem dX2_phraseParts_12 : decode cX2_phraseParts 12 = .ok (.aload_n 0, 1) := by decide +kernel
theorem dX2_phraseParts_13 : decode cX2_phraseParts 13 = .ok (.getfield 9, 3) := by decide +kernel
theorem dX2_phraseParts_16 : decode cX2_phraseParts 16 = .ok (.iload_n 2, 1) := by decide +kernel
theorem dX2_phraseParts_17 : decode cX2_phraseParts 17 = .ok (.caload, 1) := by decide +kernel
theorem dX2_phraseParts_18 : decode cX2_phraseParts 18 = .ok (.bipush 124, 2) := by decide +kernel
theorem dX2_phraseParts_20 : decode cX2_phraseParts 20 = .ok (.if_icmp .ne 6, 3) := by decide +kernel
theorem dX2_phraseParts_23 : decode cX2_phraseParts 23 = .ok (.iinc 1 1, 3) := by decide +kernel
theorem dX2_phraseParts_26 : decode cX2_phraseParts 26 = .ok (.iinc 2 1, 3) := by decide +kernel
theorem dX2_phraseParts_29 : decode cX2_phraseParts 29 = .ok (.goto (-25), 3) := by decide +kernel
theorem dX2_phraseParts_32 : decode cX2_phraseParts 32 = .ok (.iload_n 1, 1) := by decide +kernel
theorem dX2_phraseParts_33 : decode cX2_phraseParts 33 = .ok (.ireturn, 1) := by decide +kernel
theorem dX2_faultPlace_0 : decode cX2_faultPlace 0 = .ok (.iconst 0, 1) := by decide +kernel
theorem dX2_faultPlace_1 : decode cX2_faultPlace 1 = .ok (.istore_n 1, 1) := by decide +kernel
theorem dX2_faultPlace_2 : decode cX2_faultPlace 2 = .ok (.iconst 0, 1) := by decide +kernel
theorem dX2_faultPlace_3 : decode cX2_faultPlace 3 = .ok (.istore_n 2, 1) := by decide +kernel
theorem dX2_faultPlace_4 : decode cX2_faultPlace 4 = .ok (.iconst 0, 1) := by decide +kernel
theorem dX2_faultPlace_5 : decode cX2_faultPlace 5 = .ok (.istore_n 3, 1) := by decide +kernel
theorem dX2_faultPlace_6 : decode cX2_faultPlace 6 = .ok (.iload_n 3, 1) := by decide +kernel
theorem dX2_faultPlace_7 : decode cX2_faultPlace 7 = .ok (.aload_n 0, 1) := by decide +kernel
theorem dX2_faultPlace_8 : decode cX2_faultPlace 8 = .ok (.getfield 15, 3) := by decide +kernel
theorem dX2_faultPlace_11 : decode cX2_faultPlace 11 = .ok (.if_icmp .ge 105, 3) := by decide +kernel
theorem dX2_faultPlace_14 : decode cX2_faultPlace 14 = .ok (.aload_n 0, 1) := by decide +kernel
theorem dX2_faultPlace_15 : decode cX2_faultPlace 15 = .ok (.getfield 9, 3) := by decide +kernel
theorem dX2_faultPlace_18 : decode cX2_faultPlace 18 = .ok (.iload_n 3, 1) := by decide +kernel
theorem dX2_faultPlace_19 : decode cX2_faultPlace 19 = .ok (.caload, 1) := by decide +kernel
theorem dX2_faultPlace_20 : decode cX2_faultPlace 20 = .ok (.istore 4, 2) := by decide +kernel
theorem dX2_faultPlace_22 : decode cX2_faultPlace 22 = .ok (.iload 4, 2) := by decide +kernel
theorem dX2_faultPlace_24 : decode cX2_faultPlace 24 = .ok (.bipush 59, 2) := by decide +kernel
theorem dX2_faultPlace_26 : decode cX2_faultPlace 26 = .ok (.if_icmp .ne 14, 3) := by decide +kernel
theorem dX2_faultPlace_29 : decode cX2_faultPlace 29 = .ok (.iload_n 2, 1) := by decide +kernel
theorem dX2_faultPlace_30 : decode cX2_faultPlace 30 = .ok (.ifCond .le 10, 3) := by decide +kernel
theorem dX2_faultPlace_33 : decode cX2_faultPlace 33 = .ok (.iconst 0, 1) := by decide +kernel
theorem dX2_faultPlace_34 : decode cX2_faultPlace 34 = .ok (.istore_n 1, 1) := by decide +kernel
theorem dX2_faultPlace_35 : decode cX2_faultPlace 35 = .ok (.iconst 0, 1) := by decide +kernel
theorem dX2_faultPlace_36 : decode cX2_faultPlace 36 = .ok (.istore_n 2, 1) := by decide +kernel
theorem dX2_faultPlace_37 : decode cX2_faultPlace 37 = .ok (.goto 73, 3) := by decide +kernel
theorem dX2_faultPlace_40 : decode cX2_faultPlace 40 = .ok (.iload 4, 2) := by decide +kernel
theorem dX2_faultPlace_42 : decode cX2_faultPlace 42 = .ok (.bipush 124, 2) := by decide +kernel
theorem dX2_faultPlace_44 : decode cX2_faultPlace 44 = .ok (.if_icmp .ne 12, 3) := by decide +kernel
theorem dX2_faultPlace_47 : decode cX2_faultPlace 47 = .ok (.iload_n 1, 1) := by decide +kernel
theorem dX2_faultPlace_48 : decode cX2_faultPlace 48 = .ok (.ifCond .ne 8, 3) := by decide +kernel
theorem dX2_faultPlace_51 : decode cX2_faultPlace 51 = .ok (.iconst 2, 1) := by decide +kernel
theorem dX2_faultPlace_52 : decode cX2_faultPlace 52 = .ok (.istore_n 1, 1) := by decide +kernel
theorem dX2_faultPlace_53 : decode cX2_faultPlace 53 = .ok (.goto 57, 3) := by decide +kernel
theorem dX2_faultPlace_56 : decode cX2_faultPlace 56 = .ok (.iload 4, 2) := by decide +kernel
theorem dX2_faultPlace_58 : decode cX2_faultPlace 58 = .ok (.invokestatic 29, 3) := by decide +kernel
theorem dX2_faultPlace_61 : decode cX2_faultPlace 61 = .ok (.ifCond .eq 22, 3) := by decide +kernel
theorem dX2_faultPlace_64 : decode cX2_faultPlace 64 = .ok (.iload_n 1, 1) := by decide +kernel
theorem dX2_faultPlace_65 : decode cX2_faultPlace 65 = .ok (.iconst 2, 1) := by decide +kernel
theorem dX2_faultPlace_66 : decode cX2_faultPlace 66 = .ok (.if_icmp .eq 17, 3) := by decide +kernel
theorem dX2_faultPlace_69 : decode cX2_faultPlace 69 = .ok (.iload_n 2, 1) := by decide +kernel
theorem dX2_faultPlace_70 : decode cX2_faultPlace 70 = .ok (.bipush 16, 2) := by decide +kernel
theorem dX2_faultPlace_72 : decode cX2_faultPlace 72 = .ok (.if_icmp .ge 11, 3) := by decide +kernel
theorem dX2_faultPlace_75 : decode cX2_faultPlace 75 = .ok (.iconst 1, 1) := by decide +kernel
theorem dX2_faultPlace_76 : decode cX2_faultPlace 76 = .ok (.istore_n 1, 1) := by decide +kernel
theorem dX2_faultPlace_77 : decode cX2_faultPlace 77 = .ok (.iinc 2 1, 3) := by decide +kernel
theorem dX2_faultPlace_80 : decode cX2_faultPlace 80 = .ok (.goto 30, 3) := by decide +kernel
theorem dX2_faultPlace_83 : decode cX2_faultPlace 83 = .ok (.iload 4, 2) := by decide +kernel
theorem dX2_faultPlace_85 : decode cX2_faultPlace 85 = .ok (.invokestatic 33, 3) := by decide +kernel
theorem dX2_faultPlace_88 : decode cX2_faultPlace 88 = .ok (.ifCond .eq 20, 3) := by decide +kernel
theorem dX2_faultPlace_91 : decode cX2_faultPlace 91 = .ok (.iload_n 1, 1) := by decide +kernel
theorem dX2_faultPlace_92 : decode cX2_faultPlace 92 = .ok (.iconst 2, 1) := by decide +kernel
theorem dX2_faultPlace_93 : decode cX2_faultPlace 93 = .ok (.if_icmp .ne 15, 3) := by decide +kernel
theorem dX2_faultPlace_96 : decode cX2_faultPlace 96 = .ok (.iload_n 2, 1) := by decide +kernel
theorem dX2_faultPlace_97 : decode cX2_faultPlace 97 = .ok (.bipush 24, 2) := by decide +kernel
theorem dX2_faultPlace_99 : decode cX2_faultPlace 99 = .ok (.if_icmp .ge 9, 3) := by decide +kernel
theorem dX2_faultPlace_102 : decode cX2_faultPlace 102 = .ok (.iinc 2 1, 3) := by decide +kernel
theorem dX2_faultPlace_105 : decode cX2_faultPlace 105 = .ok (.goto 5, 3) := by decide +kernel
theorem dX2_faultPlace_108 : decode cX2_faultPlace 108 = .ok (.iload_n 3, 1) := by decide +kernel
theorem dX2_faultPlace_109 : decode cX2_faultPlace 109 = .ok (.ireturn, 1) := by decide +kernel
theorem dX2_faultPlace_110 : decode cX2_faultPlace 110 = .ok (.iinc 3 1, 3) := by decide +kernel
theorem dX2_faultPlace_113 : decode cX2_faultPlace 113 = .ok (.goto (-107), 3) := by decide +kernel
theorem dX2_faultPlace_116 : decode cX2_faultPlace 116 = .ok (.iload_n 2, 1) := by decide +kernel
theorem dX2_faultPlace_117 : decode cX2_faultPlace 117 = .ok (.ifCond .le 8, 3) := by decide +kernel
theorem dX2_faultPlace_120 : decode cX2_faultPlace 120 = .ok (.bipush (-6), 2) := by decide +kernel
theorem dX2_faultPlace_122 : decode cX2_faultPlace 122 = .ok (.goto 7, 3) := by decide +kernel
theorem dX2_faultPlace_125 : decode cX2_faultPlace 125 = .ok (.aload_n 0, 1) := by decide +kernel
theorem dX2_faultPlace_126 : decode cX2_faultPlace 126 = .ok (.getfield 15, 3) := by decide +kernel
theorem dX2_faultPlace_129 : decode cX2_faultPlace 129 = .ok (.ireturn, 1) := by decide +kernel
end
section
theorem dX3_init_0 : decode cX3_init 0 = .ok (.aload_n 0, 1) := by decide +kernel
theorem dX3_init_1 : decode cX3_init 1 = .ok (.invokespecial 1, 3) := by decide +kernel
theorem dX3_init_4 : decode cX3_init 4 = .ok (.aload_n 0, 1) := by decide +kernel
theorem dX3_init_5 : decode cX3_init 5 = .ok (.new 7, 3) := by decide +kernel
theorem dX3_init_8 : decode cX3_init 8 = .ok (.dup, 1) := by decide +kernel
theorem dX3_init_9 : decode cX3_init 9 = .ok (.invokespecial 9, 3) := by decide +kernel
theorem dX3_init_12 : decode cX3_init 12 = .ok (.putfield 10, 3) := by decide +kernel
theorem dX3_init_15 : decode cX3_init 15 = .ok (.aload_n 0, 1) := by decide +kernel
theorem dX3_init_16 : decode cX3_init 16 = .ok (.new 16, 3) := by decide +kernel
theorem dX3_init_19 : decode cX3_init 19 = .ok (.dup, 1) := by decide +kernel
theorem dX3_init_20 : decode cX3_init 20 = .ok (.invokespecial 18, 3) := by decide +kernel
theorem dX3_init_23 : decode cX3_init 23 = .ok (.putfield 19, 3) := by decide +kernel
theorem dX3_init_26 : decode cX3_init 26 = .ok (.aload_n 0, 1) := by decide +kernel
theorem dX3_init_27 : decode cX3_init 27 = .ok (.new 23, 3) := by decide +kernel
theorem dX3_init_30 : decode cX3_init 30 = .ok (.dup, 1) := by decide +kernel
theorem dX3_init_31 : decode cX3_init 31 = .ok (.invokespecial 25, 3) := by decide +kernel
theorem dX3_init_34 : decode cX3_init 34 = .ok (.putfield 26, 3) := by decide +kernel
theorem dX3_init_37 : decode cX3_init 37 = .ok (.aload_n 0, 1) := by decide +kernel
theorem dX3_init_38 : decode cX3_init 38 = .ok (.bipush 6, 2) := by decide +kernel
theorem dX3_init_40 : decode cX3_init 40 = .ok (.anewarray 7, 3) := by decide +kernel
theorem dX3_init_43 : decode cX3_init 43 = .ok (.putfield 30, 3) := by decide +kernel
theorem dX3_init_46 : decode cX3_init 46 = .ok (.aload_n 0, 1) := by decide +kernel
theorem dX3_init_47 : decode cX3_init 47 = .ok (.iconst 0, 1) := by decide +kernel
theorem dX3_init_48 : decode cX3_init 48 = .ok (.putfield 34, 3) := by decide +kernel
theorem dX3_init_51 : decode cX3_init 51 = .ok (.aload_n 0, 1) := by decide +kernel
theorem dX3_init_52 : decode cX3_init 52 = .ok (.iconst 2, 1) := by decide +kernel
theorem dX3_init_53 : decode cX3_init 53 = .ok (.anewarray 7, 3) := by decide +kernel
theorem dX3_init_56 : decode cX3_init 56 = .ok (.putfield 38, 3) := by decide +kernel
theorem dX3_init_59 : decode cX3_init 59 = .ok (.aload_n 0, 1) := by decide +kernel
theorem dX3_init_60 : decode cX3_init 60 = .ok (.iconst 2, 1) := by decide +kernel
theorem dX3_init_61 : decode cX3_init 61 = .ok (.newarray .boolean, 2) := by decide +kernel
theorem dX3_init_63 : decode cX3_init 63 = .ok (.putfield 41, 3) := by decide +kernel
theorem dX3_init_66 : decode cX3_init 66 = .ok (.iconst 0, 1) := by decide +kernel
theorem dX3_init_67 : decode cX3_init 67 = .ok (.istore_n 1, 1) := by decide +kernel
theorem dX3_init_68 : decode cX3_init 68 = .ok (.iload_n 1, 1) := by decide +kernel
theorem dX3_init_69 : decode cX3_init 69 = .ok (.bipush 6, 2) := by decide +kernel
theorem dX3_init_71 : decode cX3_init 71 = .ok (.if_icmp .ge 22, 3) := by decide +kernel
theorem dX3_init_74 : decode cX3_init 74 = .ok (.aload_n 0, 1) := by decide +kernel
theorem dX3_init_75 : decode cX3_init 75 = .ok (.getfield 30, 3) := by decide +kernel
theorem dX3_init_78 : decode cX3_init 78 = .ok (.iload_n 1, 1) := by decide +kernel
theorem dX3_init_79 : decode cX3_init 79 = .ok (.new 7, 3) := by decide +kernel
theorem dX3_init_82 : decode cX3_init 82 = .ok (.dup, 1) := by decide +kernel
theorem dX3_init_83 : decode cX3_init 83 = .ok (.invokespecial 9, 3) := by decide +kernel
theorem dX3_init_86 : decode cX3_init 86 = .ok (.aastore, 1) := by decide +kernel
theorem dX3_init_87 : decode cX3_init 87 = .ok (.iinc 1 1, 3) := by decide +kernel
theorem dX3_init_90 : decode cX3_init 90 = .ok (.goto (-22), 3) := by decide +kernel
theorem dX3_init_93 : decode cX3_init 93 = .ok (.iconst 0, 1) := by decide +kernel
theorem dX3_init_94 : decode cX3_init 94 = .ok (.istore_n 1, 1) := by decide +kernel
theorem dX3_init_95 : decode cX3_init 95 = .ok (.iload_n 1, 1) := by decide +kernel
theorem dX3_init_96 : decode cX3_init 96 = .ok (.iconst 2, 1) := by decide +kernel
theorem dX3_init_97 : decode cX3_init 97 = .ok (.if_icmp .ge 22, 3) := by decide +kernel
theorem dX3_init_100 : decode cX3_init 100 = .ok (.aload_n 0, 1) := by decide +kernel
theorem dX3_init_101 : decode cX3_init 101 = .ok (.getfield 38, 3) := by decide +kernel
theorem dX3_init_104 : decode cX3_init 104 = .ok (.iload_n 1, 1) := by decide +kernel
theorem dX3_init_105 : decode cX3_init 105 = .ok (.new 7, 3) := by decide +kernel
theorem dX3_init_108 : decode cX3_init 108 = .ok (.dup, 1) := by decide +kernel
theorem dX3_init_109 : decode cX3_init 109 = .ok (.invokespecial 9, 3) := by decide +kernel
theorem dX3_init_112 : decode cX3_init 112 = .ok (.aastore, 1) := by decide +kernel
theorem dX3_init_113 : decode cX3_init 113 = .ok (.iinc 1 1, 3) := by decide +kernel
theorem dX3_init_116 : decode cX3_init 116 = .ok (.goto (-21), 3) := by decide +kernel
theorem dX3_init_119 : decode cX3_init 119 = .ok (.return_, 1) := by decide +kernel
theorem dX3_set_0 : decode cX3_set 0 = .ok (.iload_n 1, 1) := by decide +kernel
theorem dX3_set_1 : decode cX3_set 1 = .ok (.ifCond .lt 8, 3) := by decide +kernel
theorem dX3_set_4 : decode cX3_set 4 = .ok (.iload_n 1, 1) := by decide +kernel
theorem dX3_set_5 : decode cX3_set 5 = .ok (.iconst 4, 1) := by decide +kernel
theorem dX3_set_6 : decode cX3_set 6 = .ok (.if_icmp .lt 6, 3) := by decide +kernel
theorem dX3_set_9 : decode cX3_set 9 = .ok (.bipush (-2), 2) := by decide +kernel
theorem dX3_set_11 : decode cX3_set 11 = .ok (.ireturn, 1) := by decide +kernel
theorem dX3_set_12 : decode cX3_set 12 = .ok (.iload_n 2, 1) := by decide +kernel
theorem dX3_set_13 : decode cX3_set 13 = .ok (.getstatic 45, 3) := by decide +kernel
theorem dX3_set_16 : decode cX3_set 16 = .ok (.iload_n 1, 1) := by decide +kernel
theorem dX3_set_17 : decode cX3_set 17 = .ok (.iaload, 1) := by decide +kernel
theorem dX3_set_18 : decode cX3_set 18 = .ok (.if_icmp .lt 12, 3) := by decide +kernel
theorem dX3_set_21 : decode cX3_set 21 = .ok (.iload_n 2, 1) := by decide +kernel
theorem dX3_set_22 : decode cX3_set 22 = .ok (.getstatic 49, 3) := by decide +kernel
theorem dX3_set_25 : decode cX3_set 25 = .ok (.iload_n 1, 1) := by decide +kernel
theorem dX3_set_26 : decode cX3_set 26 = .ok (.iaload, 1) := by decide +kernel
theorem dX3_set_27 : decode cX3_set 27 = .ok (.if_icmp .le 6, 3) := by decide +kernel
theorem dX3_set_30 : decode cX3_set 30 = .ok (.bipush (-2), 2) := by decide +kernel
theorem dX3_set_32 : decode cX3_set 32 = .ok (.ireturn, 1) := by decide +kernel
theorem dX3_set_33 : decode cX3_set 33 = .ok (.aload_n 0, 1) := by decide +kernel
theorem dX3_set_34 : decode cX3_set 34 = .ok (.invokevirtual 52, 3) := by decide +kernel
theorem dX3_set_37 : decode cX3_set 37 = .ok (.aload_n 0, 1) := by decide +kernel
theorem dX3_set_38 : decode cX3_set 38 = .ok (.getfield 10, 3) := by decide +kernel
theorem dX3_set_41 : decode cX3_set 41 = .ok (.getfield 55, 3) := by decide +kernel
theorem dX3_set_44 : decode cX3_set 44 = .ok (.iload_n 1, 1) := by decide +kernel
theorem dX3_set_45 : decode cX3_set 45 = .ok (.iaload, 1) := by decide +kernel
theorem dX3_set_46 : decode cX3_set 46 = .ok (.istore_n 3, 1) := by decide +kernel
theorem dX3_set_47 : decode cX3_set 47 = .ok (.aload_n 0, 1) := by decide +kernel
theorem dX3_set_48 : decode cX3_set 48 = .ok (.getfield 10, 3) := by decide +kernel
theorem dX3_set_51 : decode cX3_set 51 = .ok (.getfield 55, 3) := by decide +kernel
theorem dX3_set_54 : decode cX3_set 54 = .ok (.iload_n 1, 1) := by decide +kernel
theorem dX3_set_55 : decode cX3_set 55 = .ok (.iload_n 2, 1) := by decide +kernel
theorem dX3_set_56 : decode cX3_set 56 = .ok (.iastore, 1) := by decide +kernel
theorem dX3_set_57 : decode cX3_set 57 = .ok (.iload_n 3, 1) := by decide +kernel
theorem dX3_set_58 : decode cX3_set 58 = .ok (.ireturn, 1) := by decide +kernel
theorem dX3_write_0 : decode cX3_write 0 = .ok (.aload_n 0, 1) := by decide +kernel
theorem dX3_write_1 : decode cX3_write 1 = .ok (.getfield 19, 3) := by decide +kernel
theorem dX3_write_4 : decode cX3_write 4 = .ok (.invokevirtual 58, 3) := by decide +kernel
theorem dX3_write_7 : decode cX3_write 7 = .ok (.bipush (-6), 2) := by decide +kernel
theorem dX3_write_9 : decode cX3_write 9 = .ok (.if_icmp .eq 6, 3) := by decide +kernel
theorem dX3_write_12 : decode cX3_write 12 = .ok (.bipush (-3), 2) := by decide +kernel
theorem dX3_write_14 : decode cX3_write 14 = .ok (.ireturn, 1) := by decide +kernel
theorem dX3_write_15 : decode cX3_write 15 = .ok (.aload_n 0, 1) := by decide +kernel
theorem dX3_write_16 : decode cX3_write 16 = .ok (.getfield 19, 3) := by decide +kernel
theorem dX3_write_19 : decode cX3_write 19 = .ok (.invokevirtual 62, 3) := by decide +kernel
theorem dX3_write_22 : decode cX3_write 22 = .ok (.istore_n 1, 1) := by decide +kernel
theorem dX3_write_23 : decode cX3_write 23 = .ok (.aload_n 0, 1) := by decide +kernel
theorem dX3_write_24 : decode cX3_write 24 = .ok (.getfield 19, 3) := by decide +kernel
theorem dX3_write_27 : decode cX3_write 27 = .ok (.invokevirtual 65, 3) := by decide +kernel
theorem dX3_write_30 : decode cX3_write 30 = .ok (.iload_n 1, 1) := by decide +kernel
theorem dX3_write_31 : decode cX3_write 31 = .ok (.isub, 1) := by decide +kernel
theorem dX3_write_32 : decode cX3_write 32 = .ok (.istore_n 2, 1) := by decide +kernel
theorem dX3_write_33 : decode cX3_write 33 = .ok (.aload_n 0, 1) := by decide +kernel
theorem dX3_write_34 : decode cX3_write 34 = .ok (.getfield 10, 3) := by decide +kernel
theorem dX3_write_37 : decode cX3_write 37 = .ok (.getfield 68, 3) := by decide +kernel
theorem dX3_write_40 : decode cX3_write 40 = .ok (.iload_n 2, 1) := by decide +kernel
theorem dX3_write_41 : decode cX3_write 41 = .ok (.iadd, 1) := by decide +kernel
theorem dX3_write_42 : decode cX3_write 42 = .ok (.bipush 16, 2) := by decide +kernel
theorem dX3_write_44 : decode cX3_write 44 = .ok (.if_icmp .gt 17, 3) := by decide +kernel
theorem dX3_write_47 : decode cX3_write 47 = .ok (.aload_n 0, 1) := by decide +kernel
theorem dX3_write_48 : decode cX3_write 48 = .ok (.getfield 10, 3) := by decide +kernel
theorem dX3_write_51 : decode cX3_write 51 = .ok (.getfield 71, 3) := by decide +kernel
theorem dX3_write_54 : decode cX3_write 54 = .ok (.iload_n 1, 1) := by decide +kernel
theorem dX3_write_55 : decode cX3_write 55 = .ok (.iadd, 1) := by decide +kernel
theorem dX3_write_56 : decode cX3_write 56 = .ok (.bipush 8, 2) := by decide +kernel
theorem dX3_write_58 : decode cX3_write 58 = .ok (.if_icmp .le 6, 3) := by decide +kernel
theorem dX3_write_61 : decode cX3_write 61 = .ok (.bipush (-4), 2) := by decide +kernel
theorem dX3_write_63 : decode cX3_write 63 = .ok (.ireturn, 1) := by decide +kernel
theorem dX3_write_64 : decode cX3_write 64 = .ok (.aload_n 0, 1) := by decide +kernel
theorem dX3_write_65 : decode cX3_write 65 = .ok (.invokevirtual 52, 3) := by decide +kernel
theorem dX3_write_68 : decode cX3_write 68 = .ok (.iconst 0, 1) := by decide +kernel
theorem dX3_write_69 : decode cX3_write 69 = .ok (.istore_n 3, 1) := by decide +kernel
theorem dX3_write_70 : decode cX3_write 70 = .ok (.iload_n 3, 1) := by decide +kernel
theorem dX3_write_71 : decode cX3_write 71 = .ok (.aload_n 0, 1) := by decide +kernel
theorem dX3_write_72 : decode cX3_write 72 = .ok (.getfield 19, 3) := by decide +kernel
theorem dX3_write_75 : decode cX3_write 75 = .ok (.getfield 74, 3) := by decide +kernel
theorem dX3_write_78 : decode cX3_write 78 = .ok (.if_icmp .ge 62, 3) := by decide +kernel
theorem dX3_write_81 : decode cX3_write 81 = .ok (.aload_n 0, 1) := by decide +kernel
theorem dX3_write_82 : decode cX3_write 82 = .ok (.getfield 19, 3) := by decide +kernel
theorem dX3_write_85 : decode cX3_write 85 = .ok (.iload_n 3, 1) := by decide +kernel
theorem dX3_write_86 : decode cX3_write 86 = .ok (.invokevirtual 77, 3) := by decide +kernel
theorem dX3_write_89 : decode cX3_write 89 = .ok (.ifCond .eq 29, 3) := by decide +kernel
theorem dX3_write_92 : decode cX3_write 92 = .ok (.aload_n 0, 1) := by decide +kernel
theorem dX3_write_93 : decode cX3_write 93 = .ok (.getfield 10, 3) := by decide +kernel
theorem dX3_write_96 : decode cX3_write 96 = .ok (.aload_n 0, 1) := by decide +kernel
theorem dX3_write_97 : decode cX3_write 97 = .ok (.getfield 19, 3) := by decide +kernel
theorem dX3_write_100 : decode cX3_write 100 = .ok (.getfield 81, 3) := by decide +kernel
theorem dX3_write_103 : decode cX3_write 103 = .ok (.iload_n 3, 1) := by decide +kernel
theorem dX3_write_104 : decode cX3_write 104 = .ok (.caload, 1) := by decide +kernel
theorem dX3_write_105 : decode cX3_write 105 = .ok (.bipush 124, 2) := by decide +kernel
theorem dX3_write_107 : decode cX3_write 107 = .ok (.if_icmp .ne 7, 3) := by decide +kernel
theorem dX3_write_110 : decode cX3_write 110 = .ok (.iconst 1, 1) := by decide +kernel
theorem dX3_write_111 : decode cX3_write 111 = .ok (.goto 4, 3) := by decide +kernel
theorem dX3_write_114 : decode cX3_write 114 = .ok (.iconst 0, 1) := by decide +kernel
theorem dX3_write_115 : decode cX3_write 115 = .ok (.invokevirtual 85, 3) := by decide +kernel
theorem dX3_write_118 : decode cX3_write 118 = .ok (.aload_n 0, 1) := by decide +kernel
theorem dX3_write_119 : decode cX3_write 119 = .ok (.getfield 10, 3) := by decide +kernel
theorem dX3_write_122 : decode cX3_write 122 = .ok (.aload_n 0, 1) := by decide +kernel
theorem dX3_write_123 : decode cX3_write 123 = .ok (.getfield 19, 3) := by decide +kernel
theorem dX3_write_126 : decode cX3_write 126 = .ok (.getfield 81, 3) := by decide +kernel
theorem dX3_write_129 : decode cX3_write 129 = .ok (.iload_n 3, 1) := by decide +kernel
theorem dX3_write_130 : decode cX3_write 130 = .ok (.caload, 1) := by decide +kernel
theorem dX3_write_131 : decode cX3_write 131 = .ok (.invokevirtual 89, 3) := by decide +kernel
theorem dX3_write_134 : decode cX3_write 134 = .ok (.iinc 3 1, 3) := by decide +kernel
theorem dX3_write_137 : decode cX3_write 137 = .ok (.goto (-67), 3) := by decide +kernel
theorem dX3_write_140 : decode cX3_write 140 = .ok (.aload_n 0, 1) := by decide +kernel
theorem dX3_write_141 : decode cX3_write 141 = .ok (.getfield 19, 3) := by decide +kernel
theorem dX3_write_144 : decode cX3_write 144 = .ok (.iconst 0, 1) := by decide +kernel
theorem dX3_write_145 : decode cX3_write 145 = .ok (.putfield 74, 3) := by decide +kernel
theorem dX3_write_148 : decode cX3_write 148 = .ok (.aload_n 0, 1) := by decide +kernel
theorem dX3_write_149 : decode cX3_write 149 = .ok (.getfield 10, 3) := by decide +kernel
theorem dX3_write_152 : decode cX3_write 152 = .ok (.getfield 68, 3) := by decide +kernel
theorem dX3_write_155 : decode cX3_write 155 = .ok (.ireturn, 1) := by decide +kernel
theorem dX3_dropLine_0 : decode cX3_dropLine 0 = .ok (.aload_n 0, 1) := by decide +kernel
theorem dX3_dropLine_1 : decode cX3_dropLine 1 = .ok (.getfield 10, 3) := by decide +kernel
theorem dX3_dropLine_4 : decode cX3_dropLine 4 = .ok (.iload_n 1, 1) := by decide +kernel
theorem dX3_dropLine_5 : decode cX3_dropLine 5 = .ok (.invokevirtual 93, 3) := by decide +kernel
theorem dX3_dropLine_8 : decode cX3_dropLine 8 = .ok (.ifCond .ne 5, 3) := by decide +kernel
theorem dX3_dropLine_11 : decode cX3_dropLine 11 = .ok (.iconst (-1), 1) := by decide +kernel
theorem dX3_dropLine_12 : decode cX3_dropLine 12 = .ok (.ireturn, 1) := by decide +kernel
theorem dX3_dropLine_13 : decode cX3_dropLine 13 = .ok (.aload_n 0, 1) := by decide +kernel
theorem dX3_dropLine_14 : decode cX3_dropLine 14 = .ok (.invokevirtual 52, 3) := by decide +kernel
theorem dX3_dropLine_17 : decode cX3_dropLine 17 = .ok (.aload_n 0, 1) := by decide +kernel
theorem dX3_dropLine_18 : decode cX3_dropLine 18 = .ok (.getfield 10, 3) := by decide +kernel
theorem dX3_dropLine_21 : decode cX3_dropLine 21 = .ok (.iload_n 1, 1) := by decide +kernel
theorem dX3_dropLine_22 : decode cX3_dropLine 22 = .ok (.invokevirtual 96, 3) := by decide +kernel
theorem dX3_dropLine_25 : decode cX3_dropLine 25 = .ok (.aload_n 0, 1) := by decide +kernel
theorem dX3_dropLine_26 : decode cX3_dropLine 26 = .ok (.getfield 10, 3) := by decide +kernel
theorem dX3_dropLine_29 : decode cX3_dropLine 29 = .ok (.getfield 100, 3) := by decide +kernel
theorem dX3_dropLine_32 : decode cX3_dropLine 32 = .ok (.ireturn, 1) := by decide +kernel
theorem dX3_dropPhrase_0 : decode cX3_dropPhrase 0 = .ok (.aload_n 0, 1) := by decide +kernel
theorem dX3_dropPhrase_1 : decode cX3_dropPhrase 1 = .ok (.getfield 10, 3) := by decide +kernel
theorem dX3_dropPhrase_4 : decode cX3_dropPhrase 4 = .ok (.iload_n 1, 1) := by decide +kernel
theorem dX3_dropPhrase_5 : decode cX3_dropPhrase 5 = .ok (.invokevirtual 103, 3) := by decide +kernel
theorem dX3_dropPhrase_8 : decode cX3_dropPhrase 8 = .ok (.ifCond .ne 5, 3) := by decide +kernel
theorem dX3_dropPhrase_11 : decode cX3_dropPhrase 11 = .ok (.iconst (-1), 1) := by decide +kernel
theorem dX3_dropPhrase_12 : decode cX3_dropPhrase 12 = .ok (.ireturn, 1) := by decide +kernel
theorem dX3_dropPhrase_13 : decode cX3_dropPhrase 13 = .ok (.aload_n 0, 1) := by decide +kernel
theorem dX3_dropPhrase_14 : decode cX3_dropPhrase 14 = .ok (.invokevirtual 52, 3) := by decide +kernel
theorem dX3_dropPhrase_17 : decode cX3_dropPhrase 17 = .ok (.aload_n 0, 1) := by decide +kernel
theorem dX3_dropPhrase_18 : decode cX3_dropPhrase 18 = .ok (.getfield 10, 3) := by decide +kernel
theorem dX3_dropPhrase_21 : decode cX3_dropPhrase 21 = .ok (.iload_n 1, 1) := by decide +kernel
theorem dX3_dropPhrase_22 : decode cX3_dropPhrase 22 = .ok (.invokevirtual 106, 3) := by decide +kernel
theorem dX3_dropPhrase_25 : decode cX3_dropPhrase 25 = .ok (.aload_n 0, 1) := by decide +kernel
theorem dX3_dropPhrase_26 : decode cX3_dropPhrase 26 = .ok (.getfield 10, 3) := by decide +kernel
theorem dX3_dropPhrase_29 : decode cX3_dropPhrase 29 = .ok (.getfield 109, 3) := by decide +kernel
theorem dX3_dropPhrase_32 : decode cX3_dropPhrase 32 = .ok (.ireturn, 1) := by decide +kernel
theorem dX3_stress_0 : decode cX3_stress 0 = .ok (.aload_n 0, 1) := by decide +kernel
theorem dX3_stress_1 : decode cX3_stress 1 = .ok (.getfield 10, 3) := by decide +kernel
theorem dX3_stress_4 : decode cX3_stress 4 = .ok (.iload_n 1, 1) := by decide +kernel
theorem dX3_stress_5 : decode cX3_stress 5 = .ok (.iload_n 2, 1) := by decide +kernel
theorem dX3_stress_6 : decode cX3_stress 6 = .ok (.invokevirtual 112, 3) := by decide +kernel
theorem dX3_stress_9 : decode cX3_stress 9 = .ok (.ifCond .ne 5, 3) := by decide +kernel
theorem dX3_stress_12 : decode cX3_stress 12 = .ok (.iconst (-1), 1) := by decide +kernel
theorem dX3_stress_13 : decode cX3_stress 13 = .ok (.ireturn, 1) := by decide +kernel
theorem dX3_stress_14 : decode cX3_stress 14 = .ok (.aload_n 0, 1) := by decide +kernel
theorem dX3_stress_15 : decode cX3_stress 15 = .ok (.invokevirtual 52, 3) := by decide +kernel
theorem dX3_stress_18 : decode cX3_stress 18 = .ok (.iload_n 1, 1) := by decide +kernel
theorem dX3_stress_19 : decode cX3_stress 19 = .ok (.bipush 16, 2) := by decide +kernel
theorem dX3_stress_21 : decode cX3_stress 21 = .ok (.imul, 1) := by decide +kernel
theorem dX3_stress_22 : decode cX3_stress 22 = .ok (.iload_n 2, 1) := by decide +kernel
theorem dX3_stress_23 : decode cX3_stress 23 = .ok (.iadd, 1) := by decide +kernel
theorem dX3_stress_24 : decode cX3_stress 24 = .ok (.istore 4, 2) := by decide +kernel
theorem dX3_stress_26 : decode cX3_stress 26 = .ok (.aload_n 0, 1) := by decide +kernel
theorem dX3_stress_27 : decode cX3_stress 27 = .ok (.getfield 10, 3) := by decide +kernel
theorem dX3_stress_30 : decode cX3_stress 30 = .ok (.getfield 116, 3) := by decide +kernel
theorem dX3_stress_33 : decode cX3_stress 33 = .ok (.iload 4, 2) := by decide +kernel
theorem dX3_stress_35 : decode cX3_stress 35 = .ok (.iaload, 1) := by decide +kernel
theorem dX3_stress_36 : decode cX3_stress 36 = .ok (.istore 5, 2) := by decide +kernel
theorem dX3_stress_38 : decode cX3_stress 38 = .ok (.aload_n 0, 1) := by decide +kernel
theorem dX3_stress_39 : decode cX3_stress 39 = .ok (.getfield 10, 3) := by decide +kernel
theorem dX3_stress_42 : decode cX3_stress 42 = .ok (.getfield 116, 3) := by decide +kernel
theorem dX3_stress_45 : decode cX3_stress 45 = .ok (.iload 4, 2) := by decide +kernel
theorem dX3_stress_47 : decode cX3_stress 47 = .ok (.iload_n 3, 1) := by decide +kernel
theorem dX3_stress_48 : decode cX3_stress 48 = .ok (.ifCond .eq 7, 3) := by decide +kernel
theorem dX3_stress_51 : decode cX3_stress 51 = .ok (.iconst 1, 1) := by decide +kernel
theorem dX3_stress_52 : decode cX3_stress 52 = .ok (.goto 4, 3) := by decide +kernel
theorem dX3_stress_55 : decode cX3_stress 55 = .ok (.iconst 0, 1) := by decide +kernel
theorem dX3_stress_56 : decode cX3_stress 56 = .ok (.iastore, 1) := by decide +kernel
theorem dX3_stress_57 : decode cX3_stress 57 = .ok (.iload 5, 2) := by decide +kernel
theorem dX3_stress_59 : decode cX3_stress 59 = .ok (.ireturn, 1) := by decide +kernel
theorem dX3_beat_0 : decode cX3_beat 0 = .ok (.aload_n 0, 1) := by decide +kernel
theorem dX3_beat_1 : decode cX3_beat 1 = .ok (.getfield 10, 3) := by decide +kernel
theorem dX3_beat_4 : decode cX3_beat 4 = .ok (.iload_n 1, 1) := by decide +kernel
theorem dX3_beat_5 : decode cX3_beat 5 = .ok (.iload_n 2, 1) := by decide +kernel
theorem dX3_beat_6 : decode cX3_beat 6 = .ok (.invokevirtual 119, 3) := by decide +kernel
theorem dX3_beat_9 : decode cX3_beat 9 = .ok (.ifCond .ne 5, 3) := by decide +kernel
theorem dX3_beat_12 : decode cX3_beat 12 = .ok (.iconst (-1), 1) := by decide +kernel
theorem dX3_beat_13 : decode cX3_beat 13 = .ok (.ireturn, 1) := by decide +kernel
theorem dX3_beat_14 : decode cX3_beat 14 = .ok (.iload_n 3, 1) := by decide +kernel
theorem dX3_beat_15 : decode cX3_beat 15 = .ok (.ifCond .lt 8, 3) := by decide +kernel
theorem dX3_beat_18 : decode cX3_beat 18 = .ok (.iload_n 3, 1) := by decide +kernel
theorem dX3_beat_19 : decode cX3_beat 19 = .ok (.iconst 2, 1) := by decide +kernel
theorem dX3_beat_20 : decode cX3_beat 20 = .ok (.if_icmp .le 6, 3) := by decide +kernel
theorem dX3_beat_23 : decode cX3_beat 23 = .ok (.bipush (-2), 2) := by decide +kernel
theorem dX3_beat_25 : decode cX3_beat 25 = .ok (.ireturn, 1) := by decide +kernel
theorem dX3_beat_26 : decode cX3_beat 26 = .ok (.aload_n 0, 1) := by decide +kernel
theorem dX3_beat_27 : decode cX3_beat 27 = .ok (.invokevirtual 52, 3) := by decide +kernel
theorem dX3_beat_30 : decode cX3_beat 30 = .ok (.iload_n 1, 1) := by decide +kernel
theorem dX3_beat_31 : decode cX3_beat 31 = .ok (.bipush 24, 2) := by decide +kernel
theorem dX3_beat_33 : decode cX3_beat 33 = .ok (.imul, 1) := by decide +kernel
theorem dX3_beat_34 : decode cX3_beat 34 = .ok (.iload_n 2, 1) := by decide +kernel
theorem dX3_beat_35 : decode cX3_beat 35 = .ok (.iadd, 1) := by decide +kernel
theorem dX3_beat_36 : decode cX3_beat 36 = .ok (.istore 4, 2) := by decide +kernel
theorem dX3_beat_38 : decode cX3_beat 38 = .ok (.aload_n 0, 1) := by decide +kernel
theorem dX3_beat_39 : decode cX3_beat 39 = .ok (.getfield 10, 3) := by decide +kernel
theorem dX3_beat_42 : decode cX3_beat 42 = .ok (.getfield 122, 3) := by decide +kernel
theorem dX3_beat_45 : decode cX3_beat 45 = .ok (.iload 4, 2) := by decide +kernel
theorem dX3_beat_47 : decode cX3_beat 47 = .ok (.iaload, 1) := by decide +kernel
theorem dX3_beat_48 : decode cX3_beat 48 = .ok (.istore 5, 2) := by decide +kernel
theorem dX3_beat_50 : decode cX3_beat 50 = .ok (.aload_n 0, 1) := by decide +kernel
theorem dX3_beat_51 : decode cX3_beat 51 = .ok (.getfield 10, 3) := by decide +kernel
theorem dX3_beat_54 : decode cX3_beat 54 = .ok (.getfield 122, 3) := by decide +kernel
theorem dX3_beat_57 : decode cX3_beat 57 = .ok (.iload 4, 2) := by decide +kernel
theorem dX3_beat_59 : decode cX3_beat 59 = .ok (.iload_n 3, 1) := by decide +kernel
theorem dX3_beat_60 : decode cX3_beat 60 = .ok (.iastore, 1) := by decide +kernel
theorem dX3_beat_61 : decode cX3_beat 61 = .ok (.iload 5, 2) := by decide +kernel
theorem dX3_beat_63 : decode cX3_beat 63 = .ok (.ireturn, 1) := by decide +kernel
theorem dX3_sing_0 : decode cX3_sing 0 = .ok (.aload_n 0, 1) := by decide +kernel
theorem dX3_sing_1 : decode cX3_sing 1 = .ok (.getfield 10, 3) := by decide +kernel
theorem dX3_sing_4 : decode cX3_sing 4 = .ok (.iload_n 1, 1) := by decide +kernel
theorem dX3_sing_5 : decode cX3_sing 5 = .ok (.invokevirtual 93, 3) := by decide +kernel
theorem dX3_sing_8 : decode cX3_sing 8 = .ok (.ifCond .ne 5, 3) := by decide +kernel
theorem dX3_sing_11 : decode cX3_sing 11 = .ok (.iconst (-1), 1) := by decide +kernel
theorem dX3_sing_12 : decode cX3_sing 12 = .ok (.ireturn, 1) := by decide +kernel
theorem dX3_sing_13 : decode cX3_sing 13 = .ok (.aload_n 0, 1) := by decide +kernel
theorem dX3_sing_14 : decode cX3_sing 14 = .ok (.getfield 10, 3) := by decide +kernel
theorem dX3_sing_17 : decode cX3_sing 17 = .ok (.getfield 100, 3) := by decide +kernel
theorem dX3_sing_20 : decode cX3_sing 20 = .ok (.bipush 40, 2) := by decide +kernel
theorem dX3_sing_22 : decode cX3_sing 22 = .ok (.if_icmp .lt 6, 3) := by decide +kernel
theorem dX3_sing_25 : decode cX3_sing 25 = .ok (.bipush (-4), 2) := by decide +kernel
theorem dX3_sing_27 : decode cX3_sing 27 = .ok (.ireturn, 1) := by decide +kernel
theorem dX3_sing_28 : decode cX3_sing 28 = .ok (.aload_n 0, 1) := by decide +kernel
theorem dX3_sing_29 : decode cX3_sing 29 = .ok (.invokevirtual 52, 3) := by decide +kernel
theorem dX3_sing_32 : decode cX3_sing 32 = .ok (.aload_n 0, 1) := by decide +kernel
theorem dX3_sing_33 : decode cX3_sing 33 = .ok (.getfield 10, 3) := by decide +kernel
theorem dX3_sing_36 : decode cX3_sing 36 = .ok (.iload_n 1, 1) := by decide +kernel
theorem dX3_sing_37 : decode cX3_sing 37 = .ok (.invokevirtual 125, 3) := by decide +kernel
theorem dX3_sing_40 : decode cX3_sing 40 = .ok (.aload_n 0, 1) := by decide +kernel
theorem dX3_sing_41 : decode cX3_sing 41 = .ok (.getfield 10, 3) := by decide +kernel
theorem dX3_sing_44 : decode cX3_sing 44 = .ok (.getfield 100, 3) := by decide +kernel
theorem dX3_sing_47 : decode cX3_sing 47 = .ok (.ireturn, 1) := by decide +kernel
theorem dX3_play_0 : decode cX3_play 0 = .ok (.aload_n 0, 1) := by decide +kernel
theorem dX3_play_1 : decode cX3_play 1 = .ok (.getfield 10, 3) := by decide +kernel
theorem dX3_play_4 : decode cX3_play 4 = .ok (.iload_n 1, 1) := by decide +kernel
theorem dX3_play_5 : decode cX3_play 5 = .ok (.invokevirtual 103, 3) := by decide +kernel
theorem dX3_play_8 : decode cX3_play 8 = .ok (.ifCond .ne 5, 3) := by decide +kernel
theorem dX3_play_11 : decode cX3_play 11 = .ok (.iconst (-1), 1) := by decide +kernel
theorem dX3_play_12 : decode cX3_play 12 = .ok (.ireturn, 1) := by decide +kernel
theorem dX3_play_13 : decode cX3_play 13 = .ok (.aload_n 0, 1) := by decide +kernel
theorem dX3_play_14 : decode cX3_play 14 = .ok (.getfield 10, 3) := by decide +kernel
theorem dX3_play_17 : decode cX3_play 17 = .ok (.getfield 109, 3) := by decide +kernel
theorem dX3_play_20 : decode cX3_play 20 = .ok (.bipush 8, 2) := by decide +kernel
theorem dX3_play_22 : decode cX3_play 22 = .ok (.if_icmp .lt 6, 3) := by decide +kernel
theorem dX3_play_25 : decode cX3_play 25 = .ok (.bipush (-4), 2) := by decide +kernel
theorem dX3_play_27 : decode cX3_play 27 = .ok (.ireturn, 1) := by decide +kernel
theorem dX3_play_28 : decode cX3_play 28 = .ok (.aload_n 0, 1) := by decide +kernel
theorem dX3_play_29 : decode cX3_play 29 = .ok (.invokevirtual 52, 3) := by decide +kernel
theorem dX3_play_32 : decode cX3_play 32 = .ok (.aload_n 0, 1) := by decide +kernel
theorem dX3_play_33 : decode cX3_play 33 = .ok (.getfield 10, 3) := by decide +kernel
theorem dX3_play_36 : decode cX3_play 36 = .ok (.iload_n 1, 1) := by decide +kernel
theorem dX3_play_37 : decode cX3_play 37 = .ok (.invokevirtual 128, 3) := by decide +kernel
theorem dX3_play_40 : decode cX3_play 40 = .ok (.aload_n 0, 1) := by decide +kernel
theorem dX3_play_41 : decode cX3_play 41 = .ok (.getfield 10, 3) := by decide +kernel
theorem dX3_play_44 : decode cX3_play 44 = .ok (.getfield 109, 3) := by decide +kernel
theorem dX3_play_47 : decode cX3_play 47 = .ok (.ireturn, 1) := by decide +kernel
theorem dX3_verse_0 : decode cX3_verse 0 = .ok (.aload_n 0, 1) := by decide +kernel
theorem dX3_verse_1 : decode cX3_verse 1 = .ok (.getfield 10, 3) := by decide +kernel
theorem dX3_verse_4 : decode cX3_verse 4 = .ok (.iload_n 1, 1) := by decide +kernel
theorem dX3_verse_5 : decode cX3_verse 5 = .ok (.invokevirtual 93, 3) := by decide +kernel
theorem dX3_verse_8 : decode cX3_verse 8 = .ok (.ifCond .eq 25, 3) := by decide +kernel
theorem dX3_verse_11 : decode cX3_verse 11 = .ok (.aload_n 0, 1) := by decide +kernel
theorem dX3_verse_12 : decode cX3_verse 12 = .ok (.getfield 10, 3) := by decide +kernel
theorem dX3_verse_15 : decode cX3_verse 15 = .ok (.iload_n 2, 1) := by decide +kernel
theorem dX3_verse_16 : decode cX3_verse 16 = .ok (.invokevirtual 93, 3) := by decide +kernel
theorem dX3_verse_19 : decode cX3_verse 19 = .ok (.ifCond .eq 14, 3) := by decide +kernel
theorem dX3_verse_22 : decode cX3_verse 22 = .ok (.aload_n 0, 1) := by decide +kernel
theorem dX3_verse_23 : decode cX3_verse 23 = .ok (.getfield 10, 3) := by decide +kernel
theorem dX3_verse_26 : decode cX3_verse 26 = .ok (.iload_n 3, 1) := by decide +kernel
theorem dX3_verse_27 : decode cX3_verse 27 = .ok (.invokevirtual 93, 3) := by decide +kernel
theorem dX3_verse_30 : decode cX3_verse 30 = .ok (.ifCond .ne 5, 3) := by decide +kernel
theorem dX3_verse_33 : decode cX3_verse 33 = .ok (.iconst (-1), 1) := by decide +kernel
theorem dX3_verse_34 : decode cX3_verse 34 = .ok (.ireturn, 1) := by decide +kernel
theorem dX3_verse_35 : decode cX3_verse 35 = .ok (.iload_n 2, 1) := by decide +kernel
theorem dX3_verse_36 : decode cX3_verse 36 = .ok (.iload_n 1, 1) := by decide +kernel
theorem dX3_verse_37 : decode cX3_verse 37 = .ok (.if_icmp .ge 6, 3) := by decide +kernel
theorem dX3_verse_40 : decode cX3_verse 40 = .ok (.bipush (-2), 2) := by decide +kernel
theorem dX3_verse_42 : decode cX3_verse 42 = .ok (.ireturn, 1) := by decide +kernel
theorem dX3_verse_43 : decode cX3_verse 43 = .ok (.aload_n 0, 1) := by decide +kernel
theorem dX3_verse_44 : decode cX3_verse 44 = .ok (.getfield 10, 3) := by decide +kernel
theorem dX3_verse_47 : decode cX3_verse 47 = .ok (.getfield 100, 3) := by decide +kernel
theorem dX3_verse_50 : decode cX3_verse 50 = .ok (.iconst 2, 1) := by decide +kernel
theorem dX3_verse_51 : decode cX3_verse 51 = .ok (.iload_n 2, 1) := by decide +kernel
theorem dX3_verse_52 : decode cX3_verse 52 = .ok (.iload_n 1, 1) := by decide +kernel
theorem dX3_verse_53 : decode cX3_verse 53 = .ok (.isub, 1) := by decide +kernel
theorem dX3_verse_54 : decode cX3_verse 54 = .ok (.iconst 1, 1) := by decide +kernel
theorem dX3_verse_55 : decode cX3_verse 55 = .ok (.iadd, 1) := by decide +kernel
theorem dX3_verse_56 : decode cX3_verse 56 = .ok (.imul, 1) := by decide +kernel
theorem dX3_verse_57 : decode cX3_verse 57 = .ok (.iadd, 1) := by decide +kernel
theorem dX3_verse_58 : decode cX3_verse 58 = .ok (.bipush 40, 2) := by decide +kernel
theorem dX3_verse_60 : decode cX3_verse 60 = .ok (.if_icmp .le 6, 3) := by decide +kernel
theorem dX3_verse_63 : decode cX3_verse 63 = .ok (.bipush (-4), 2) := by decide +kernel
theorem dX3_verse_65 : decode cX3_verse 65 = .ok (.ireturn, 1) := by decide +kernel
theorem dX3_verse_66 : decode cX3_verse 66 = .ok (.aload_n 0, 1) := by decide +kernel
theorem dX3_verse_67 : decode cX3_verse 67 = .ok (.invokevirtual 52, 3) := by decide +kernel
theorem dX3_verse_70 : decode cX3_verse 70 = .ok (.iload_n 1, 1) := by decide +kernel
theorem dX3_verse_71 : decode cX3_verse 71 = .ok (.istore 4, 2) := by decide +kernel
theorem dX3_verse_73 : decode cX3_verse 73 = .ok (.iload 4, 2) := by decide +kernel
theorem dX3_verse_75 : decode cX3_verse 75 = .ok (.iload_n 2, 1) := by decide +kernel
theorem dX3_verse_76 : decode cX3_verse 76 = .ok (.if_icmp .gt 26, 3) := by decide +kernel
theorem dX3_verse_79 : decode cX3_verse 79 = .ok (.aload_n 0, 1) := by decide +kernel
theorem dX3_verse_80 : decode cX3_verse 80 = .ok (.getfield 10, 3) := by decide +kernel
theorem dX3_verse_83 : decode cX3_verse 83 = .ok (.iload 4, 2) := by decide +kernel
theorem dX3_verse_85 : decode cX3_verse 85 = .ok (.invokevirtual 125, 3) := by decide +kernel
theorem dX3_verse_88 : decode cX3_verse 88 = .ok (.aload_n 0, 1) := by decide +kernel
theorem dX3_verse_89 : decode cX3_verse 89 = .ok (.getfield 10, 3) := by decide +kernel
theorem dX3_verse_92 : decode cX3_verse 92 = .ok (.iload_n 3, 1) := by decide +kernel
theorem dX3_verse_93 : decode cX3_verse 93 = .ok (.invokevirtual 125, 3) := by decide +kernel
theorem dX3_verse_96 : decode cX3_verse 96 = .ok (.iinc 4 1, 3) := by decide +kernel
theorem dX3_verse_99 : decode cX3_verse 99 = .ok (.goto (-26), 3) := by decide +kernel
theorem dX3_verse_102 : decode cX3_verse 102 = .ok (.aload_n 0, 1) := by decide +kernel
theorem dX3_verse_103 : decode cX3_verse 103 = .ok (.getfield 10, 3) := by decide +kernel
theorem dX3_verse_106 : decode cX3_verse 106 = .ok (.getfield 100, 3) := by decide +kernel
theorem dX3_verse_109 : decode cX3_verse 109 = .ok (.ireturn, 1) := by decide +kernel
theorem dX3_clear_0 : decode cX3_clear 0 = .ok (.aload_n 0, 1) := by decide +kernel
theorem dX3_clear_1 : decode cX3_clear 1 = .ok (.invokevirtual 52, 3) := by decide +kernel
theorem dX3_clear_4 : decode cX3_clear 4 = .ok (.iload_n 1, 1) := by decide +kernel
theorem dX3_clear_5 : decode cX3_clear 5 = .ok (.ifCond .eq 13, 3) := by decide +kernel
theorem dX3_clear_8 : decode cX3_clear 8 = .ok (.aload_n 0, 1) := by decide +kernel
theorem dX3_clear_9 : decode cX3_clear 9 = .ok (.getfield 10, 3) := by decide +kernel
theorem dX3_clear_12 : decode cX3_clear 12 = .ok (.getfield 109, 3) := by decide +kernel
theorem dX3_clear_15 : decode cX3_clear 15 = .ok (.goto 10, 3) := by decide +kernel
theorem dX3_clear_18 : decode cX3_clear 18 = .ok (.aload_n 0, 1) := by decide +kernel
theorem dX3_clear_19 : decode cX3_clear 19 = .ok (.getfield 10, 3) := by decide +kernel
theorem dX3_clear_22 : decode cX3_clear 22 = .ok (.getfield 100, 3) := by decide +kernel
theorem dX3_clear_25 : decode cX3_clear 25 = .ok (.istore_n 2, 1) := by decide +kernel
theorem dX3_clear_26 : decode cX3_clear 26 = .ok (.iload_n 1, 1) := by decide +kernel
theorem dX3_clear_27 : decode cX3_clear 27 = .ok (.ifCond .eq 14, 3) := by decide +kernel
theorem dX3_clear_30 : decode cX3_clear 30 = .ok (.aload_n 0, 1) := by decide +kernel
theorem dX3_clear_31 : decode cX3_clear 31 = .ok (.getfield 10, 3) := by decide +kernel
theorem dX3_clear_34 : decode cX3_clear 34 = .ok (.iconst 0, 1) := by decide +kernel
theorem dX3_clear_35 : decode cX3_clear 35 = .ok (.putfield 109, 3) := by decide +kernel
theorem dX3_clear_38 : decode cX3_clear 38 = .ok (.goto 11, 3) := by decide +kernel
theorem dX3_clear_41 : decode cX3_clear 41 = .ok (.aload_n 0, 1) := by decide +kernel
theorem dX3_clear_42 : decode cX3_clear 42 = .ok (.getfield 10, 3) := by decide +kernel
theorem dX3_clear_45 : decode cX3_clear 45 = .ok (.iconst 0, 1) := by decide +kernel
theorem dX3_clear_46 : decode cX3_clear 46 = .ok (.putfield 100, 3) := by decide +kernel
theorem dX3_clear_49 : decode cX3_clear 49 = .ok (.iload_n 2, 1) := by decide +kernel
theorem dX3_clear_50 : decode cX3_clear 50 = .ok (.ireturn, 1) := by decide +kernel
theorem dX3_line_0 : decode cX3_line 0 = .ok (.aload_n 0, 1) := by decide +kernel
theorem dX3_line_1 : decode cX3_line 1 = .ok (.getfield 10, 3) := by decide +kernel
theorem dX3_line_4 : decode cX3_line 4 = .ok (.iload_n 1, 1) := by decide +kernel
theorem dX3_line_5 : decode cX3_line 5 = .ok (.invokevirtual 93, 3) := by decide +kernel
theorem dX3_line_8 : decode cX3_line 8 = .ok (.ifCond .ne 5, 3) := by decide +kernel
theorem dX3_line_11 : decode cX3_line 11 = .ok (.iconst (-1), 1) := by decide +kernel
theorem dX3_line_12 : decode cX3_line 12 = .ok (.ireturn, 1) := by decide +kernel
theorem dX3_line_13 : decode cX3_line 13 = .ok (.iload_n 2, 1) := by decide +kernel
theorem dX3_line_14 : decode cX3_line 14 = .ok (.tableswitch 86 0 4 #[34, 44, 53, 62, 80], 34) := by decide +kernel
theorem dX3_line_48 : decode cX3_line 48 = .ok (.aload_n 0, 1) := by decide +kernel
theorem dX3_line_49 : decode cX3_line 49 = .ok (.getfield 10, 3) := by decide +kernel
theorem dX3_line_52 : decode cX3_line 52 = .ok (.getfield 131, 3) := by decide +kernel
theorem dX3_line_55 : decode cX3_line 55 = .ok (.iload_n 1, 1) := by decide +kernel
theorem dX3_line_56 : decode cX3_line 56 = .ok (.iaload, 1) := by decide +kernel
theorem dX3_line_57 : decode cX3_line 57 = .ok (.ireturn, 1) := by decide +kernel
theorem dX3_line_58 : decode cX3_line 58 = .ok (.aload_n 0, 1) := by decide +kernel
theorem dX3_line_59 : decode cX3_line 59 = .ok (.getfield 10, 3) := by decide +kernel
theorem dX3_line_62 : decode cX3_line 62 = .ok (.iload_n 1, 1) := by decide +kernel
theorem dX3_line_63 : decode cX3_line 63 = .ok (.invokevirtual 134, 3) := by decide +kernel
theorem dX3_line_66 : decode cX3_line 66 = .ok (.ireturn, 1) := by decide +kernel
theorem dX3_line_67 : decode cX3_line 67 = .ok (.aload_n 0, 1) := by decide +kernel
theorem dX3_line_68 : decode cX3_line 68 = .ok (.getfield 10, 3) := by decide +kernel
theorem dX3_line_71 : decode cX3_line 71 = .ok (.iload_n 1, 1) := by decide +kernel
theorem dX3_line_72 : decode cX3_line 72 = .ok (.invokevirtual 138, 3) := by decide +kernel
theorem dX3_line_75 : decode cX3_line 75 = .ok (.ireturn, 1) := by decide +kernel
theorem dX3_line_76 : decode cX3_line 76 = .ok (.aload_n 0, 1) := by decide +kernel
theorem dX3_line_77 : decode cX3_line 77 = .ok (.getfield 10, 3) := by decide +kernel
theorem dX3_line_80 : decode cX3_line 80 = .ok (.iload_n 1, 1) := by decide +kernel
theorem dX3_line_81 : decode cX3_line 81 = .ok (.invokevirtual 138, 3) := by decide +kernel
theorem dX3_line_84 : decode cX3_line 84 = .ok (.iconst 2, 1) := by decide +kernel
theorem dX3_line_85 : decode cX3_line 85 = .ok (.if_icmp .lt 7, 3) := by decide +kernel
theorem dX3_line_88 : decode cX3_line 88 = .ok (.iconst 1, 1) := by decide +kernel
theorem dX3_line_89 : decode cX3_line 89 = .ok (.goto 4, 3) := by decide +kernel
theorem dX3_line_92 : decode cX3_line 92 = .ok (.iconst 0, 1) := by decide +kernel
theorem dX3_line_93 : decode cX3_line 93 = .ok (.ireturn, 1) := by decide +kernel
theorem dX3_line_94 : decode cX3_line 94 = .ok (.aload_n 0, 1) := by decide +kernel
theorem dX3_line_95 : decode cX3_line 95 = .ok (.iload_n 1, 1) := by decide +kernel
theorem dX3_line_96 : decode cX3_line 96 = .ok (.invokevirtual 141, 3) := by decide +kernel
theorem dX3_line_99 : decode cX3_line 99 = .ok (.ireturn, 1) := by decide +kernel
theorem dX3_line_100 : decode cX3_line 100 = .ok (.bipush (-2), 2) := by decide +kernel
theorem dX3_line_102 : decode cX3_line 102 = .ok (.ireturn, 1) := by decide +kernel
theorem dX3_phrase_0 : decode cX3_phrase 0 = .ok (.aload_n 0, 1) := by decide +kernel
theorem dX3_phrase_1 : decode cX3_phrase 1 = .ok (.getfield 10, 3) := by decide +kernel
theorem dX3_phrase_4 : decode cX3_phrase 4 = .ok (.iload_n 1, 1) := by decide +kernel
theorem dX3_phrase_5 : decode cX3_phrase 5 = .ok (.invokevirtual 103, 3) := by decide +kernel
theorem dX3_phrase_8 : decode cX3_phrase 8 = .ok (.ifCond .ne 5, 3) := by decide +kernel
theorem dX3_phrase_11 : decode cX3_phrase 11 = .ok (.iconst (-1), 1) := by decide +kernel
theorem dX3_phrase_12 : decode cX3_phrase 12 = .ok (.ireturn, 1) := by decide +kernel
theorem dX3_phrase_13 : decode cX3_phrase 13 = .ok (.iload_n 2, 1) := by decide +kernel
theorem dX3_phrase_14 : decode cX3_phrase 14 = .ok (.tableswitch 96 0 5 #[38, 48, 58, 68, 78, 87], 38) := by decide +kernel
theorem dX3_phrase_52 : decode cX3_phrase 52 = .ok (.aload_n 0, 1) := by decide +kernel
theorem dX3_phrase_53 : decode cX3_phrase 53 = .ok (.getfield 10, 3) := by decide +kernel
theorem dX3_phrase_56 : decode cX3_phrase 56 = .ok (.getfield 144, 3) := by decide +kernel
theorem dX3_phrase_59 : decode cX3_phrase 59 = .ok (.iload_n 1, 1) := by decide +kernel
theorem dX3_phrase_60 : decode cX3_phrase 60 = .ok (.iaload, 1) := by decide +kernel
theorem dX3_phrase_61 : decode cX3_phrase 61 = .ok (.ireturn, 1) := by decide +kernel
theorem dX3_phrase_62 : decode cX3_phrase 62 = .ok (.aload_n 0, 1) := by decide +kernel
theorem dX3_phrase_63 : decode cX3_phrase 63 = .ok (.getfield 10, 3) := by decide +kernel
theorem dX3_phrase_66 : decode cX3_phrase 66 = .ok (.iload_n 1, 1) := by decide +kernel
theorem dX3_phrase_67 : decode cX3_phrase 67 = .ok (.iconst 2, 1) := by decide +kernel
theorem dX3_phrase_68 : decode cX3_phrase 68 = .ok (.invokevirtual 147, 3) := by decide +kernel
theorem dX3_phrase_71 : decode cX3_phrase 71 = .ok (.ireturn, 1) := by decide +kernel
theorem dX3_phrase_72 : decode cX3_phrase 72 = .ok (.aload_n 0, 1) := by decide +kernel
theorem dX3_phrase_73 : decode cX3_phrase 73 = .ok (.getfield 10, 3) := by decide +kernel
theorem dX3_phrase_76 : decode cX3_phrase 76 = .ok (.iload_n 1, 1) := by decide +kernel
theorem dX3_phrase_77 : decode cX3_phrase 77 = .ok (.iconst 1, 1) := by decide +kernel
theorem dX3_phrase_78 : decode cX3_phrase 78 = .ok (.invokevirtual 147, 3) := by decide +kernel
theorem dX3_phrase_81 : decode cX3_phrase 81 = .ok (.ireturn, 1) := by decide +kernel
theorem dX3_phrase_82 : decode cX3_phrase 82 = .ok (.aload_n 0, 1) := by decide +kernel
theorem dX3_phrase_83 : decode cX3_phrase 83 = .ok (.getfield 10, 3) := by decide +kernel
theorem dX3_phrase_86 : decode cX3_phrase 86 = .ok (.iload_n 1, 1) := by decide +kernel
theorem dX3_phrase_87 : decode cX3_phrase 87 = .ok (.iconst 0, 1) := by decide +kernel
theorem dX3_phrase_88 : decode cX3_phrase 88 = .ok (.invokevirtual 147, 3) := by decide +kernel
theorem dX3_phrase_91 : decode cX3_phrase 91 = .ok (.ireturn, 1) := by decide +kernel
theorem dX3_phrase_92 : decode cX3_phrase 92 = .ok (.aload_n 0, 1) := by decide +kernel
theorem dX3_phrase_93 : decode cX3_phrase 93 = .ok (.getfield 10, 3) := by decide +kernel
theorem dX3_phrase_96 : decode cX3_phrase 96 = .ok (.iload_n 1, 1) := by decide +kernel
theorem dX3_phrase_97 : decode cX3_phrase 97 = .ok (.invokevirtual 151, 3) := by decide +kernel
theorem dX3_phrase_100 : decode cX3_phrase 100 = .ok (.ireturn, 1) := by decide +kernel
theorem dX3_phrase_101 : decode cX3_phrase 101 = .ok (.aload_n 0, 1) := by decide +kernel
theorem dX3_phrase_102 : decode cX3_phrase 102 = .ok (.getfield 10, 3) := by decide +kernel
theorem dX3_phrase_105 : decode cX3_phrase 105 = .ok (.iload_n 1, 1) := by decide +kernel
theorem dX3_phrase_106 : decode cX3_phrase 106 = .ok (.invokevirtual 154, 3) := by decide +kernel
theorem dX3_phrase_109 : decode cX3_phrase 109 = .ok (.ireturn, 1) := by decide +kernel
theorem dX3_phrase_110 : decode cX3_phrase 110 = .ok (.bipush (-2), 2) := by decide +kernel
theorem dX3_phrase_112 : decode cX3_phrase 112 = .ok (.ireturn, 1) := by decide +kernel
theorem dX3_isStressed_0 : decode cX3_isStressed 0 = .ok (.aload_n 0, 1) := by decide +kernel
theorem dX3_isStressed_1 : decode cX3_isStressed 1 = .ok (.getfield 10, 3) := by decide +kernel
theorem dX3_isStressed_4 : decode cX3_isStressed 4 = .ok (.iload_n 1, 1) := by decide +kernel
theorem dX3_isStressed_5 : decode cX3_isStressed 5 = .ok (.iload_n 2, 1) := by decide +kernel
theorem dX3_isStressed_6 : decode cX3_isStressed 6 = .ok (.invokevirtual 112, 3) := by decide +kernel
theorem dX3_isStressed_9 : decode cX3_isStressed 9 = .ok (.ifCond .ne 5, 3) := by decide +kernel
theorem dX3_isStressed_12 : decode cX3_isStressed 12 = .ok (.iconst (-1), 1) := by decide +kernel
theorem dX3_isStressed_13 : decode cX3_isStressed 13 = .ok (.ireturn, 1) := by decide +kernel
theorem dX3_isStressed_14 : decode cX3_isStressed 14 = .ok (.aload_n 0, 1) := by decide +kernel
theorem dX3_isStressed_15 : decode cX3_isStressed 15 = .ok (.getfield 10, 3) := by decide +kernel
theorem dX3_isStressed_18 : decode cX3_isStressed 18 = .ok (.getfield 116, 3) := by decide +kernel
theorem dX3_isStressed_21 : decode cX3_isStressed 21 = .ok (.iload_n 1, 1) := by decide +kernel
theorem dX3_isStressed_22 : decode cX3_isStressed 22 = .ok (.bipush 16, 2) := by decide +kernel
theorem dX3_isStressed_24 : decode cX3_isStressed 24 = .ok (.imul, 1) := by decide +kernel
theorem dX3_isStressed_25 : decode cX3_isStressed 25 = .ok (.iload_n 2, 1) := by decide +kernel
theorem dX3_isStressed_26 : decode cX3_isStressed 26 = .ok (.iadd, 1) := by decide +kernel
theorem dX3_isStressed_27 : decode cX3_isStressed 27 = .ok (.iaload, 1) := by decide +kernel
theorem dX3_isStressed_28 : decode cX3_isStressed 28 = .ok (.ireturn, 1) := by decide +kernel
theorem dX3_kindOf_0 : decode cX3_kindOf 0 = .ok (.aload_n 0, 1) := by decide +kernel
theorem dX3_kindOf_1 : decode cX3_kindOf 1 = .ok (.getfield 10, 3) := by decide +kernel
theorem dX3_kindOf_4 : decode cX3_kindOf 4 = .ok (.iload_n 1, 1) := by decide +kernel
theorem dX3_kindOf_5 : decode cX3_kindOf 5 = .ok (.iload_n 2, 1) := by decide +kernel
theorem dX3_kindOf_6 : decode cX3_kindOf 6 = .ok (.invokevirtual 119, 3) := by decide +kernel
theorem dX3_kindOf_9 : decode cX3_kindOf 9 = .ok (.ifCond .ne 5, 3) := by decide +kernel
theorem dX3_kindOf_12 : decode cX3_kindOf 12 = .ok (.iconst (-1), 1) := by decide +kernel
theorem dX3_kindOf_13 : decode cX3_kindOf 13 = .ok (.ireturn, 1) := by decide +kernel
theorem dX3_kindOf_14 : decode cX3_kindOf 14 = .ok (.aload_n 0, 1) := by decide +kernel
theorem dX3_kindOf_15 : decode cX3_kindOf 15 = .ok (.getfield 10, 3) := by decide +kernel
theorem dX3_kindOf_18 : decode cX3_kindOf 18 = .ok (.getfield 122, 3) := by decide +kernel
theorem dX3_kindOf_21 : decode cX3_kindOf 21 = .ok (.iload_n 1, 1) := by decide +kernel
theorem dX3_kindOf_22 : decode cX3_kindOf 22 = .ok (.bipush 24, 2) := by decide +kernel
theorem dX3_kindOf_24 : decode cX3_kindOf 24 = .ok (.imul, 1) := by decide +kernel
theorem dX3_kindOf_25 : decode cX3_kindOf 25 = .ok (.iload_n 2, 1) := by decide +kernel
theorem dX3_kindOf_26 : decode cX3_kindOf 26 = .ok (.iadd, 1) := by decide +kernel
theorem dX3_kindOf_27 : decode cX3_kindOf 27 = .ok (.iaload, 1) := by decide +kernel
theorem dX3_kindOf_28 : decode cX3_kindOf 28 = .ok (.ireturn, 1) := by decide +kernel
theorem dX3_count_0 : decode cX3_count 0 = .ok (.iload_n 1, 1) := by decide +kernel
theorem dX3_count_1 : decode cX3_count 1 = .ok (.tableswitch 152 0 10 #[59, 67, 75, 83, 91, 99, 109, 119, 129, 139, 147], 59) := by decide +kernel
theorem dX3_count_60 : decode cX3_count 60 = .ok (.aload_n 0, 1) := by decide +kernel
theorem dX3_count_61 : decode cX3_count 61 = .ok (.getfield 10, 3) := by decide +kernel
theorem dX3_count_64 : decode cX3_count 64 = .ok (.getfield 68, 3) := by decide +kernel
theorem dX3_count_67 : decode cX3_count 67 = .ok (.ireturn, 1) := by decide +kernel
theorem dX3_count_68 : decode cX3_count 68 = .ok (.aload_n 0, 1) := by decide +kernel
theorem dX3_count_69 : decode cX3_count 69 = .ok (.getfield 10, 3) := by decide +kernel
theorem dX3_count_72 : decode cX3_count 72 = .ok (.getfield 71, 3) := by decide +kernel
theorem dX3_count_75 : decode cX3_count 75 = .ok (.ireturn, 1) := by decide +kernel
theorem dX3_count_76 : decode cX3_count 76 = .ok (.aload_n 0, 1) := by decide +kernel
theorem dX3_count_77 : decode cX3_count 77 = .ok (.getfield 10, 3) := by decide +kernel
theorem dX3_count_80 : decode cX3_count 80 = .ok (.getfield 100, 3) := by decide +kernel
theorem dX3_count_83 : decode cX3_count 83 = .ok (.ireturn, 1) := by decide +kernel
theorem dX3_count_84 : decode cX3_count 84 = .ok (.aload_n 0, 1) := by decide +kernel
theorem dX3_count_85 : decode cX3_count 85 = .ok (.getfield 10, 3) := by decide +kernel
theorem dX3_count_88 : decode cX3_count 88 = .ok (.getfield 109, 3) := by decide +kernel
theorem dX3_count_91 : decode cX3_count 91 = .ok (.ireturn, 1) := by decide +kernel
theorem dX3_count_92 : decode cX3_count 92 = .ok (.aload_n 0, 1) := by decide +kernel
theorem dX3_count_93 : decode cX3_count 93 = .ok (.getfield 10, 3) := by decide +kernel
theorem dX3_count_96 : decode cX3_count 96 = .ok (.invokevirtual 157, 3) := by decide +kernel
theorem dX3_count_99 : decode cX3_count 99 = .ok (.ireturn, 1) := by decide +kernel
theorem dX3_count_100 : decode cX3_count 100 = .ok (.aload_n 0, 1) := by decide +kernel
theorem dX3_count_101 : decode cX3_count 101 = .ok (.getfield 10, 3) := by decide +kernel
theorem dX3_count_104 : decode cX3_count 104 = .ok (.getfield 55, 3) := by decide +kernel
theorem dX3_count_107 : decode cX3_count 107 = .ok (.iconst 0, 1) := by decide +kernel
theorem dX3_count_108 : decode cX3_count 108 = .ok (.iaload, 1) := by decide +kernel
theorem dX3_count_109 : decode cX3_count 109 = .ok (.ireturn, 1) := by decide +kernel
theorem dX3_count_110 : decode cX3_count 110 = .ok (.aload_n 0, 1) := by decide +kernel
theorem dX3_count_111 : decode cX3_count 111 = .ok (.getfield 10, 3) := by decide +kernel
theorem dX3_count_114 : decode cX3_count 114 = .ok (.getfield 55, 3) := by decide +kernel
theorem dX3_count_117 : decode cX3_count 117 = .ok (.iconst 1, 1) := by decide +kernel
theorem dX3_count_118 : decode cX3_count 118 = .ok (.iaload, 1) := by decide +kernel
theorem dX3_count_119 : decode cX3_count 119 = .ok (.ireturn, 1) := by decide +kernel
theorem dX3_count_120 : decode cX3_count 120 = .ok (.aload_n 0, 1) := by decide +kernel
theorem dX3_count_121 : decode cX3_count 121 = .ok (.getfield 10, 3) := by decide +kernel
theorem dX3_count_124 : decode cX3_count 124 = .ok (.getfield 55, 3) := by decide +kernel
theorem dX3_count_127 : decode cX3_count 127 = .ok (.iconst 2, 1) := by decide +kernel
theorem dX3_count_128 : decode cX3_count 128 = .ok (.iaload, 1) := by decide +kernel
theorem dX3_count_129 : decode cX3_count 129 = .ok (.ireturn, 1) := by decide +kernel
theorem dX3_count_130 : decode cX3_count 130 = .ok (.aload_n 0, 1) := by decide +kernel
theorem dX3_count_131 : decode cX3_count 131 = .ok (.getfield 10, 3) := by decide +kernel
theorem dX3_count_134 : decode cX3_count 134 = .ok (.getfield 55, 3) := by decide +kernel
theorem dX3_count_137 : decode cX3_count 137 = .ok (.iconst 3, 1) := by decide +kernel
theorem dX3_count_138 : decode cX3_count 138 = .ok (.iaload, 1) := by decide +kernel
theorem dX3_count_139 : decode cX3_count 139 = .ok (.ireturn, 1) := by decide +kernel
theorem dX3_count_140 : decode cX3_count 140 = .ok (.aload_n 0, 1) := by decide +kernel
theorem dX3_count_141 : decode cX3_count 141 = .ok (.getfield 19, 3) := by decide +kernel
theorem dX3_count_144 : decode cX3_count 144 = .ok (.getfield 74, 3) := by decide +kernel
theorem dX3_count_147 : decode cX3_count 147 = .ok (.ireturn, 1) := by decide +kernel
theorem dX3_count_148 : decode cX3_count 148 = .ok (.aload_n 0, 1) := by decide +kernel
theorem dX3_count_149 : decode cX3_count 149 = .ok (.getfield 34, 3) := by decide +kernel
theorem dX3_count_152 : decode cX3_count 152 = .ok (.ireturn, 1) := by decide +kernel
theorem dX3_count_153 : decode cX3_count 153 = .ok (.bipush (-2), 2) := by decide +kernel
theorem dX3_count_155 : decode cX3_count 155 = .ok (.ireturn, 1) := by decide +kernel
theorem dX3_at_0 : decode cX3_at 0 = .ok (.iload_n 2, 1) := by decide +kernel
theorem dX3_at_1 : decode cX3_at 1 = .ok (.ifCond .lt 28, 3) := by decide +kernel
theorem dX3_at_4 : decode cX3_at 4 = .ok (.iload_n 2, 1) := by decide +kernel
theorem dX3_at_5 : decode cX3_at 5 = .ok (.iload_n 1, 1) := by decide +kernel
theorem dX3_at_6 : decode cX3_at 6 = .ok (.ifCond .eq 13, 3) := by decide +kernel
theorem dX3_at_9 : decode cX3_at 9 = .ok (.aload_n 0, 1) := by decide +kernel
theorem dX3_at_10 : decode cX3_at 10 = .ok (.getfield 10, 3) := by decide +kernel
theorem dX3_at_13 : decode cX3_at 13 = .ok (.getfield 109, 3) := by decide +kernel
theorem dX3_at_16 : decode cX3_at 16 = .ok (.goto 10, 3) := by decide +kernel
theorem dX3_at_19 : decode cX3_at 19 = .ok (.aload_n 0, 1) := by decide +kernel
theorem dX3_at_20 : decode cX3_at 20 = .ok (.getfield 10, 3) := by decide +kernel
theorem dX3_at_23 : decode cX3_at 23 = .ok (.getfield 100, 3) := by decide +kernel
theorem dX3_at_26 : decode cX3_at 26 = .ok (.if_icmp .lt 5, 3) := by decide +kernel
theorem dX3_at_29 : decode cX3_at 29 = .ok (.iconst (-1), 1) := by decide +kernel
theorem dX3_at_30 : decode cX3_at 30 = .ok (.ireturn, 1) := by decide +kernel
theorem dX3_at_31 : decode cX3_at 31 = .ok (.iload_n 1, 1) := by decide +kernel
theorem dX3_at_32 : decode cX3_at 32 = .ok (.ifCond .eq 15, 3) := by decide +kernel
theorem dX3_at_35 : decode cX3_at 35 = .ok (.aload_n 0, 1) := by decide +kernel
theorem dX3_at_36 : decode cX3_at 36 = .ok (.getfield 10, 3) := by decide +kernel
theorem dX3_at_39 : decode cX3_at 39 = .ok (.getfield 160, 3) := by decide +kernel
theorem dX3_at_42 : decode cX3_at 42 = .ok (.iload_n 2, 1) := by decide +kernel
theorem dX3_at_43 : decode cX3_at 43 = .ok (.iaload, 1) := by decide +kernel
theorem dX3_at_44 : decode cX3_at 44 = .ok (.goto 12, 3) := by decide +kernel
theorem dX3_at_47 : decode cX3_at 47 = .ok (.aload_n 0, 1) := by decide +kernel
theorem dX3_at_48 : decode cX3_at 48 = .ok (.getfield 10, 3) := by decide +kernel
theorem dX3_at_51 : decode cX3_at 51 = .ok (.getfield 163, 3) := by decide +kernel
theorem dX3_at_54 : decode cX3_at 54 = .ok (.iload_n 2, 1) := by decide +kernel
theorem dX3_at_55 : decode cX3_at 55 = .ok (.iaload, 1) := by decide +kernel
theorem dX3_at_56 : decode cX3_at 56 = .ok (.ireturn, 1) := by decide +kernel
theorem dX3_fit_0 : decode cX3_fit 0 = .ok (.aload_n 0, 1) := by decide +kernel
theorem dX3_fit_1 : decode cX3_fit 1 = .ok (.getfield 10, 3) := by decide +kernel
theorem dX3_fit_4 : decode cX3_fit 4 = .ok (.iload_n 1, 1) := by decide +kernel
theorem dX3_fit_5 : decode cX3_fit 5 = .ok (.invokevirtual 93, 3) := by decide +kernel
theorem dX3_fit_8 : decode cX3_fit 8 = .ok (.ifCond .eq 14, 3) := by decide +kernel
theorem dX3_fit_11 : decode cX3_fit 11 = .ok (.aload_n 0, 1) := by decide +kernel
theorem dX3_fit_12 : decode cX3_fit 12 = .ok (.getfield 10, 3) := by decide +kernel
theorem dX3_fit_15 : decode cX3_fit 15 = .ok (.iload_n 2, 1) := by decide +kernel
theorem dX3_fit_16 : decode cX3_fit 16 = .ok (.invokevirtual 103, 3) := by decide +kernel
theorem dX3_fit_19 : decode cX3_fit 19 = .ok (.ifCond .ne 5, 3) := by decide +kernel
theorem dX3_fit_22 : decode cX3_fit 22 = .ok (.iconst (-1), 1) := by decide +kernel
theorem dX3_fit_23 : decode cX3_fit 23 = .ok (.ireturn, 1) := by decide +kernel
theorem dX3_fit_24 : decode cX3_fit 24 = .ok (.iload_n 3, 1) := by decide +kernel
theorem dX3_fit_25 : decode cX3_fit 25 = .ok (.ifCond .lt 8, 3) := by decide +kernel
theorem dX3_fit_28 : decode cX3_fit 28 = .ok (.iload_n 3, 1) := by decide +kernel
theorem dX3_fit_29 : decode cX3_fit 29 = .ok (.iconst 4, 1) := by decide +kernel
theorem dX3_fit_30 : decode cX3_fit 30 = .ok (.if_icmp .le 6, 3) := by decide +kernel
theorem dX3_fit_33 : decode cX3_fit 33 = .ok (.bipush (-2), 2) := by decide +kernel
theorem dX3_fit_35 : decode cX3_fit 35 = .ok (.ireturn, 1) := by decide +kernel
theorem dX3_fit_36 : decode cX3_fit 36 = .ok (.aload_n 0, 1) := by decide +kernel
theorem dX3_fit_37 : decode cX3_fit 37 = .ok (.iload_n 1, 1) := by decide +kernel
theorem dX3_fit_38 : decode cX3_fit 38 = .ok (.iload_n 2, 1) := by decide +kernel
theorem dX3_fit_39 : decode cX3_fit 39 = .ok (.invokevirtual 166, 3) := by decide +kernel
theorem dX3_fit_42 : decode cX3_fit 42 = .ok (.istore 4, 2) := by decide +kernel
theorem dX3_fit_44 : decode cX3_fit 44 = .ok (.iload 4, 2) := by decide +kernel
theorem dX3_fit_46 : decode cX3_fit 46 = .ok (.ldc 169, 2) := by decide +kernel
theorem dX3_fit_48 : decode cX3_fit 48 = .ok (.if_icmp .lt 20, 3) := by decide +kernel
theorem dX3_fit_51 : decode cX3_fit 51 = .ok (.iload_n 3, 1) := by decide +kernel
theorem dX3_fit_52 : decode cX3_fit 52 = .ok (.iconst 1, 1) := by decide +kernel
theorem dX3_fit_53 : decode cX3_fit 53 = .ok (.if_icmp .eq 8, 3) := by decide +kernel
theorem dX3_fit_56 : decode cX3_fit 56 = .ok (.iload_n 3, 1) := by decide +kernel
theorem dX3_fit_57 : decode cX3_fit 57 = .ok (.iconst 2, 1) := by decide +kernel
theorem dX3_fit_58 : decode cX3_fit 58 = .ok (.if_icmp .ne 7, 3) := by decide +kernel
theorem dX3_fit_61 : decode cX3_fit 61 = .ok (.iconst 0, 1) := by decide +kernel
theorem dX3_fit_62 : decode cX3_fit 62 = .ok (.goto 5, 3) := by decide +kernel
theorem dX3_fit_65 : decode cX3_fit 65 = .ok (.bipush (-6), 2) := by decide +kernel
theorem dX3_fit_67 : decode cX3_fit 67 = .ok (.ireturn, 1) := by decide +kernel
theorem dX3_fit_68 : decode cX3_fit 68 = .ok (.iload_n 3, 1) := by decide +kernel
theorem dX3_fit_69 : decode cX3_fit 69 = .ok (.tableswitch 65 1 4 #[31, 40, 49, 57], 31) := by decide +kernel
theorem dX3_fit_100 : decode cX3_fit 100 = .ok (.aload_n 0, 1) := by decide +kernel
theorem dX3_fit_101 : decode cX3_fit 101 = .ok (.getfield 26, 3) := by decide +kernel
theorem dX3_fit_104 : decode cX3_fit 104 = .ok (.iconst 0, 1) := by decide +kernel
theorem dX3_fit_105 : decode cX3_fit 105 = .ok (.invokevirtual 170, 3) := by decide +kernel
theorem dX3_fit_108 : decode cX3_fit 108 = .ok (.ireturn, 1) := by decide +kernel
theorem dX3_fit_109 : decode cX3_fit 109 = .ok (.aload_n 0, 1) := by decide +kernel
theorem dX3_fit_110 : decode cX3_fit 110 = .ok (.getfield 26, 3) := by decide +kernel
theorem dX3_fit_113 : decode cX3_fit 113 = .ok (.iconst 1, 1) := by decide +kernel
theorem dX3_fit_114 : decode cX3_fit 114 = .ok (.invokevirtual 170, 3) := by decide +kernel
theorem dX3_fit_117 : decode cX3_fit 117 = .ok (.ireturn, 1) := by decide +kernel
theorem dX3_fit_118 : decode cX3_fit 118 = .ok (.aload_n 0, 1) := by decide +kernel
theorem dX3_fit_119 : decode cX3_fit 119 = .ok (.getfield 26, 3) := by decide +kernel
theorem dX3_fit_122 : decode cX3_fit 122 = .ok (.invokevirtual 174, 3) := by decide +kernel
theorem dX3_fit_125 : decode cX3_fit 125 = .ok (.ireturn, 1) := by decide +kernel
theorem dX3_fit_126 : decode cX3_fit 126 = .ok (.aload_n 0, 1) := by decide +kernel
theorem dX3_fit_127 : decode cX3_fit 127 = .ok (.getfield 26, 3) := by decide +kernel
theorem dX3_fit_130 : decode cX3_fit 130 = .ok (.invokevirtual 177, 3) := by decide +kernel
theorem dX3_fit_133 : decode cX3_fit 133 = .ok (.ireturn, 1) := by decide +kernel
theorem dX3_fit_134 : decode cX3_fit 134 = .ok (.iload 4, 2) := by decide +kernel
theorem dX3_fit_136 : decode cX3_fit 136 = .ok (.ireturn, 1) := by decide +kernel
theorem dX3_lies_0 : decode cX3_lies 0 = .ok (.aload_n 0, 1) := by decide +kernel
theorem dX3_lies_1 : decode cX3_lies 1 = .ok (.getfield 10, 3) := by decide +kernel
theorem dX3_lies_4 : decode cX3_lies 4 = .ok (.iload_n 1, 1) := by decide +kernel
theorem dX3_lies_5 : decode cX3_lies 5 = .ok (.iload_n 3, 1) := by decide +kernel
theorem dX3_lies_6 : decode cX3_lies 6 = .ok (.invokevirtual 112, 3) := by decide +kernel
theorem dX3_lies_9 : decode cX3_lies 9 = .ok (.ifCond .eq 14, 3) := by decide +kernel
theorem dX3_lies_12 : decode cX3_lies 12 = .ok (.aload_n 0, 1) := by decide +kernel
theorem dX3_lies_13 : decode cX3_lies 13 = .ok (.getfield 10, 3) := by decide +kernel
theorem dX3_lies_16 : decode cX3_lies 16 = .ok (.iload_n 2, 1) := by decide +kernel
theorem dX3_lies_17 : decode cX3_lies 17 = .ok (.invokevirtual 103, 3) := by decide +kernel
theorem dX3_lies_20 : decode cX3_lies 20 = .ok (.ifCond .ne 5, 3) := by decide +kernel
theorem dX3_lies_23 : decode cX3_lies 23 = .ok (.iconst (-1), 1) := by decide +kernel
theorem dX3_lies_24 : decode cX3_lies 24 = .ok (.ireturn, 1) := by decide +kernel
theorem dX3_lies_25 : decode cX3_lies 25 = .ok (.iload 4, 2) := by decide +kernel
theorem dX3_lies_27 : decode cX3_lies 27 = .ok (.ifCond .lt 9, 3) := by decide +kernel
theorem dX3_lies_30 : decode cX3_lies 30 = .ok (.iload 4, 2) := by decide +kernel
theorem dX3_lies_32 : decode cX3_lies 32 = .ok (.iconst 1, 1) := by decide +kernel
theorem dX3_lies_33 : decode cX3_lies 33 = .ok (.if_icmp .le 6, 3) := by decide +kernel
theorem dX3_lies_36 : decode cX3_lies 36 = .ok (.bipush (-2), 2) := by decide +kernel
theorem dX3_lies_38 : decode cX3_lies 38 = .ok (.ireturn, 1) := by decide +kernel
theorem dX3_lies_39 : decode cX3_lies 39 = .ok (.aload_n 0, 1) := by decide +kernel
theorem dX3_lies_40 : decode cX3_lies 40 = .ok (.iload_n 1, 1) := by decide +kernel
theorem dX3_lies_41 : decode cX3_lies 41 = .ok (.iload_n 2, 1) := by decide +kernel
theorem dX3_lies_42 : decode cX3_lies 42 = .ok (.invokevirtual 166, 3) := by decide +kernel
theorem dX3_lies_45 : decode cX3_lies 45 = .ok (.ldc 169, 2) := by decide +kernel
theorem dX3_lies_47 : decode cX3_lies 47 = .ok (.if_icmp .lt 6, 3) := by decide +kernel
theorem dX3_lies_50 : decode cX3_lies 50 = .ok (.bipush (-6), 2) := by decide +kernel
theorem dX3_lies_52 : decode cX3_lies 52 = .ok (.ireturn, 1) := by decide +kernel
theorem dX3_lies_53 : decode cX3_lies 53 = .ok (.aload_n 0, 1) := by decide +kernel
theorem dX3_lies_54 : decode cX3_lies 54 = .ok (.getfield 26, 3) := by decide +kernel
theorem dX3_lies_57 : decode cX3_lies 57 = .ok (.invokevirtual 180, 3) := by decide +kernel
theorem dX3_lies_60 : decode cX3_lies 60 = .ok (.iload 4, 2) := by decide +kernel
theorem dX3_lies_62 : decode cX3_lies 62 = .ok (.ifCond .ne 15, 3) := by decide +kernel
theorem dX3_lies_65 : decode cX3_lies 65 = .ok (.aload_n 0, 1) := by decide +kernel
theorem dX3_lies_66 : decode cX3_lies 66 = .ok (.getfield 26, 3) := by decide +kernel
theorem dX3_lies_69 : decode cX3_lies 69 = .ok (.getfield 183, 3) := by decide +kernel
theorem dX3_lies_72 : decode cX3_lies 72 = .ok (.iload_n 3, 1) := by decide +kernel
theorem dX3_lies_73 : decode cX3_lies 73 = .ok (.iaload, 1) := by decide +kernel
theorem dX3_lies_74 : decode cX3_lies 74 = .ok (.goto 12, 3) := by decide +kernel
theorem dX3_lies_77 : decode cX3_lies 77 = .ok (.aload_n 0, 1) := by decide +kernel
theorem dX3_lies_78 : decode cX3_lies 78 = .ok (.getfield 26, 3) := by decide +kernel
theorem dX3_lies_81 : decode cX3_lies 81 = .ok (.getfield 186, 3) := by decide +kernel
theorem dX3_lies_84 : decode cX3_lies 84 = .ok (.iload_n 3, 1) := by decide +kernel
theorem dX3_lies_85 : decode cX3_lies 85 = .ok (.iaload, 1) := by decide +kernel
theorem dX3_lies_86 : decode cX3_lies 86 = .ok (.ireturn, 1) := by decide +kernel
theorem dX3_whole_0 : decode cX3_whole 0 = .ok (.iload_n 1, 1) := by decide +kernel
theorem dX3_whole_1 : decode cX3_whole 1 = .ok (.ifCond .lt 8, 3) := by decide +kernel
theorem dX3_whole_4 : decode cX3_whole 4 = .ok (.iload_n 1, 1) := by decide +kernel
theorem dX3_whole_5 : decode cX3_whole 5 = .ok (.iconst 3, 1) := by decide +kernel
theorem dX3_whole_6 : decode cX3_whole 6 = .ok (.if_icmp .le 6, 3) := by decide +kernel
theorem dX3_whole_9 : decode cX3_whole 9 = .ok (.bipush (-2), 2) := by decide +kernel
theorem dX3_whole_11 : decode cX3_whole 11 = .ok (.ireturn, 1) := by decide +kernel
theorem dX3_whole_12 : decode cX3_whole 12 = .ok (.aload_n 0, 1) := by decide +kernel
theorem dX3_whole_13 : decode cX3_whole 13 = .ok (.getfield 10, 3) := by decide +kernel
theorem dX3_whole_16 : decode cX3_whole 16 = .ok (.getfield 109, 3) := by decide +kernel
theorem dX3_whole_19 : decode cX3_whole 19 = .ok (.iconst 1, 1) := by decide +kernel
theorem dX3_whole_20 : decode cX3_whole 20 = .ok (.if_icmp .ge 6, 3) := by decide +kernel
theorem dX3_whole_23 : decode cX3_whole 23 = .ok (.bipush (-5), 2) := by decide +kernel
theorem dX3_whole_25 : decode cX3_whole 25 = .ok (.ireturn, 1) := by decide +kernel
theorem dX3_whole_26 : decode cX3_whole 26 = .ok (.iconst 0, 1) := by decide +kernel
theorem dX3_whole_27 : decode cX3_whole 27 = .ok (.istore_n 2, 1) := by decide +kernel
theorem dX3_whole_28 : decode cX3_whole 28 = .ok (.iconst 0, 1) := by decide +kernel
theorem dX3_whole_29 : decode cX3_whole 29 = .ok (.istore_n 3, 1) := by decide +kernel
theorem dX3_whole_30 : decode cX3_whole 30 = .ok (.iconst 0, 1) := by decide +kernel
theorem dX3_whole_31 : decode cX3_whole 31 = .ok (.istore 4, 2) := by decide +kernel
theorem dX3_whole_33 : decode cX3_whole 33 = .ok (.iconst (-1), 1) := by decide +kernel
theorem dX3_whole_34 : decode cX3_whole 34 = .ok (.istore 5, 2) := by decide +kernel
theorem dX3_whole_36 : decode cX3_whole 36 = .ok (.bipush (-6), 2) := by decide +kernel
theorem dX3_whole_38 : decode cX3_whole 38 = .ok (.istore 6, 2) := by decide +kernel
theorem dX3_whole_40 : decode cX3_whole 40 = .ok (.iconst 0, 1) := by decide +kernel
theorem dX3_whole_41 : decode cX3_whole 41 = .ok (.istore 7, 2) := by decide +kernel
theorem dX3_whole_43 : decode cX3_whole 43 = .ok (.iload 7, 2) := by decide +kernel
theorem dX3_whole_45 : decode cX3_whole 45 = .ok (.aload_n 0, 1) := by decide +kernel
theorem dX3_whole_46 : decode cX3_whole 46 = .ok (.getfield 10, 3) := by decide +kernel
theorem dX3_whole_49 : decode cX3_whole 49 = .ok (.getfield 100, 3) := by decide +kernel
theorem dX3_whole_52 : decode cX3_whole 52 = .ok (.if_icmp .ge 95, 3) := by decide +kernel
theorem dX3_whole_55 : decode cX3_whole 55 = .ok (.aload_n 0, 1) := by decide +kernel
theorem dX3_whole_56 : decode cX3_whole 56 = .ok (.getfield 10, 3) := by decide +kernel
theorem dX3_whole_59 : decode cX3_whole 59 = .ok (.getfield 160, 3) := by decide +kernel
theorem dX3_whole_62 : decode cX3_whole 62 = .ok (.iload 7, 2) := by decide +kernel
theorem dX3_whole_64 : decode cX3_whole 64 = .ok (.aload_n 0, 1) := by decide +kernel
theorem dX3_whole_65 : decode cX3_whole 65 = .ok (.getfield 10, 3) := by decide +kernel
theorem dX3_whole_68 : decode cX3_whole 68 = .ok (.getfield 109, 3) := by decide +kernel
theorem dX3_whole_71 : decode cX3_whole 71 = .ok (.irem, 1) := by decide +kernel
theorem dX3_whole_72 : decode cX3_whole 72 = .ok (.iaload, 1) := by decide +kernel
theorem dX3_whole_73 : decode cX3_whole 73 = .ok (.istore 8, 2) := by decide +kernel
theorem dX3_whole_75 : decode cX3_whole 75 = .ok (.iload 4, 2) := by decide +kernel
theorem dX3_whole_77 : decode cX3_whole 77 = .ok (.aload_n 0, 1) := by decide +kernel
theorem dX3_whole_78 : decode cX3_whole 78 = .ok (.getfield 10, 3) := by decide +kernel
theorem dX3_whole_81 : decode cX3_whole 81 = .ok (.getfield 144, 3) := by decide +kernel
theorem dX3_whole_84 : decode cX3_whole 84 = .ok (.iload 8, 2) := by decide +kernel
theorem dX3_whole_86 : decode cX3_whole 86 = .ok (.iaload, 1) := by decide +kernel
theorem dX3_whole_87 : decode cX3_whole 87 = .ok (.iadd, 1) := by decide +kernel
theorem dX3_whole_88 : decode cX3_whole 88 = .ok (.istore 4, 2) := by decide +kernel
theorem dX3_whole_90 : decode cX3_whole 90 = .ok (.aload_n 0, 1) := by decide +kernel
theorem dX3_whole_91 : decode cX3_whole 91 = .ok (.aload_n 0, 1) := by decide +kernel
theorem dX3_whole_92 : decode cX3_whole 92 = .ok (.getfield 10, 3) := by decide +kernel
theorem dX3_whole_95 : decode cX3_whole 95 = .ok (.getfield 163, 3) := by decide +kernel
theorem dX3_whole_98 : decode cX3_whole 98 = .ok (.iload 7, 2) := by decide +kernel
theorem dX3_whole_100 : decode cX3_whole 100 = .ok (.iaload, 1) := by decide +kernel
theorem dX3_whole_101 : decode cX3_whole 101 = .ok (.iload 8, 2) := by decide +kernel
theorem dX3_whole_103 : decode cX3_whole 103 = .ok (.invokevirtual 166, 3) := by decide +kernel
theorem dX3_whole_106 : decode cX3_whole 106 = .ok (.istore 9, 2) := by decide +kernel
theorem dX3_whole_108 : decode cX3_whole 108 = .ok (.iload 9, 2) := by decide +kernel
theorem dX3_whole_110 : decode cX3_whole 110 = .ok (.ldc 169, 2) := by decide +kernel
theorem dX3_whole_112 : decode cX3_whole 112 = .ok (.if_icmp .lt 9, 3) := by decide +kernel
theorem dX3_whole_115 : decode cX3_whole 115 = .ok (.iinc 3 1, 3) := by decide +kernel
theorem dX3_whole_118 : decode cX3_whole 118 = .ok (.goto 23, 3) := by decide +kernel
theorem dX3_whole_121 : decode cX3_whole 121 = .ok (.iload_n 2, 1) := by decide +kernel
theorem dX3_whole_122 : decode cX3_whole 122 = .ok (.iload 9, 2) := by decide +kernel
theorem dX3_whole_124 : decode cX3_whole 124 = .ok (.iadd, 1) := by decide +kernel
theorem dX3_whole_125 : decode cX3_whole 125 = .ok (.istore_n 2, 1) := by decide +kernel
theorem dX3_whole_126 : decode cX3_whole 126 = .ok (.iload 9, 2) := by decide +kernel
theorem dX3_whole_128 : decode cX3_whole 128 = .ok (.iload 5, 2) := by decide +kernel
theorem dX3_whole_130 : decode cX3_whole 130 = .ok (.if_icmp .le 11, 3) := by decide +kernel
theorem dX3_whole_133 : decode cX3_whole 133 = .ok (.iload 9, 2) := by decide +kernel
theorem dX3_whole_135 : decode cX3_whole 135 = .ok (.istore 5, 2) := by decide +kernel
theorem dX3_whole_137 : decode cX3_whole 137 = .ok (.iload 7, 2) := by decide +kernel
theorem dX3_whole_139 : decode cX3_whole 139 = .ok (.istore 6, 2) := by decide +kernel
theorem dX3_whole_141 : decode cX3_whole 141 = .ok (.iinc 7 1, 3) := by decide +kernel
theorem dX3_whole_144 : decode cX3_whole 144 = .ok (.goto (-101), 3) := by decide +kernel
theorem dX3_whole_147 : decode cX3_whole 147 = .ok (.iload_n 1, 1) := by decide +kernel
theorem dX3_whole_148 : decode cX3_whole 148 = .ok (.tableswitch 35 0 2 #[28, 30, 32], 28) := by decide +kernel
theorem dX3_whole_176 : decode cX3_whole 176 = .ok (.iload_n 2, 1) := by decide +kernel
theorem dX3_whole_177 : decode cX3_whole 177 = .ok (.ireturn, 1) := by decide +kernel
theorem dX3_whole_178 : decode cX3_whole 178 = .ok (.iload_n 3, 1) := by decide +kernel
theorem dX3_whole_179 : decode cX3_whole 179 = .ok (.ireturn, 1) := by decide +kernel
theorem dX3_whole_180 : decode cX3_whole 180 = .ok (.iload 6, 2) := by decide +kernel
theorem dX3_whole_182 : decode cX3_whole 182 = .ok (.ireturn, 1) := by decide +kernel
theorem dX3_whole_183 : decode cX3_whole 183 = .ok (.iload 4, 2) := by decide +kernel
theorem dX3_whole_185 : decode cX3_whole 185 = .ok (.ireturn, 1) := by decide +kernel
theorem dX3_bestPhrase_0 : decode cX3_bestPhrase 0 = .ok (.bipush (-6), 2) := by decide +kernel
theorem dX3_bestPhrase_2 : decode cX3_bestPhrase 2 = .ok (.istore_n 1, 1) := by decide +kernel
theorem dX3_bestPhrase_3 : decode cX3_bestPhrase 3 = .ok (.iconst 0, 1) := by decide +kernel
theorem dX3_bestPhrase_4 : decode cX3_bestPhrase 4 = .ok (.istore_n 2, 1) := by decide +kernel
theorem dX3_bestPhrase_5 : decode cX3_bestPhrase 5 = .ok (.iconst 0, 1) := by decide +kernel
theorem dX3_bestPhrase_6 : decode cX3_bestPhrase 6 = .ok (.istore_n 3, 1) := by decide +kernel
theorem dX3_bestPhrase_7 : decode cX3_bestPhrase 7 = .ok (.iconst 0, 1) := by decide +kernel
theorem dX3_bestPhrase_8 : decode cX3_bestPhrase 8 = .ok (.istore 4, 2) := by decide +kernel
theorem dX3_bestPhrase_10 : decode cX3_bestPhrase 10 = .ok (.iload 4, 2) := by decide +kernel
theorem dX3_bestPhrase_12 : decode cX3_bestPhrase 12 = .ok (.aload_n 0, 1) := by decide +kernel
theorem dX3_bestPhrase_13 : decode cX3_bestPhrase 13 = .ok (.getfield 10, 3) := by decide +kernel
theorem dX3_bestPhrase_16 : decode cX3_bestPhrase 16 = .ok (.getfield 71, 3) := by decide +kernel
theorem dX3_bestPhrase_19 : decode cX3_bestPhrase 19 = .ok (.if_icmp .ge 126, 3) := by decide +kernel
theorem dX3_bestPhrase_22 : decode cX3_bestPhrase 22 = .ok (.iconst 0, 1) := by decide +kernel
theorem dX3_bestPhrase_23 : decode cX3_bestPhrase 23 = .ok (.istore 5, 2) := by decide +kernel
theorem dX3_bestPhrase_25 : decode cX3_bestPhrase 25 = .ok (.iconst 0, 1) := by decide +kernel
theorem dX3_bestPhrase_26 : decode cX3_bestPhrase 26 = .ok (.istore 6, 2) := by decide +kernel
theorem dX3_bestPhrase_28 : decode cX3_bestPhrase 28 = .ok (.iconst 0, 1) := by decide +kernel
theorem dX3_bestPhrase_29 : decode cX3_bestPhrase 29 = .ok (.istore 7, 2) := by decide +kernel
theorem dX3_bestPhrase_31 : decode cX3_bestPhrase 31 = .ok (.iload 7, 2) := by decide +kernel
theorem dX3_bestPhrase_33 : decode cX3_bestPhrase 33 = .ok (.aload_n 0, 1) := by decide +kernel
theorem dX3_bestPhrase_34 : decode cX3_bestPhrase 34 = .ok (.getfield 10, 3) := by decide +kernel
theorem dX3_bestPhrase_37 : decode cX3_bestPhrase 37 = .ok (.getfield 68, 3) := by decide +kernel
theorem dX3_bestPhrase_40 : decode cX3_bestPhrase 40 = .ok (.if_icmp .ge 66, 3) := by decide +kernel
theorem dX3_bestPhrase_43 : decode cX3_bestPhrase 43 = .ok (.aload_n 0, 1) := by decide +kernel
theorem dX3_bestPhrase_44 : decode cX3_bestPhrase 44 = .ok (.getfield 10, 3) := by decide +kernel
theorem dX3_bestPhrase_47 : decode cX3_bestPhrase 47 = .ok (.iload 7, 2) := by decide +kernel
theorem dX3_bestPhrase_49 : decode cX3_bestPhrase 49 = .ok (.invokevirtual 138, 3) := by decide +kernel
theorem dX3_bestPhrase_52 : decode cX3_bestPhrase 52 = .ok (.istore 8, 2) := by decide +kernel
theorem dX3_bestPhrase_54 : decode cX3_bestPhrase 54 = .ok (.iload 8, 2) := by decide +kernel
theorem dX3_bestPhrase_56 : decode cX3_bestPhrase 56 = .ok (.ifCond .ne 7, 3) := by decide +kernel
theorem dX3_bestPhrase_59 : decode cX3_bestPhrase 59 = .ok (.iconst 0, 1) := by decide +kernel
theorem dX3_bestPhrase_60 : decode cX3_bestPhrase 60 = .ok (.goto 11, 3) := by decide +kernel
theorem dX3_bestPhrase_63 : decode cX3_bestPhrase 63 = .ok (.aload_n 0, 1) := by decide +kernel
theorem dX3_bestPhrase_64 : decode cX3_bestPhrase 64 = .ok (.iload 7, 2) := by decide +kernel
theorem dX3_bestPhrase_66 : decode cX3_bestPhrase 66 = .ok (.iload 4, 2) := by decide +kernel
theorem dX3_bestPhrase_68 : decode cX3_bestPhrase 68 = .ok (.invokevirtual 166, 3) := by decide +kernel
theorem dX3_bestPhrase_71 : decode cX3_bestPhrase 71 = .ok (.istore 9, 2) := by decide +kernel
theorem dX3_bestPhrase_73 : decode cX3_bestPhrase 73 = .ok (.iload 9, 2) := by decide +kernel
theorem dX3_bestPhrase_75 : decode cX3_bestPhrase 75 = .ok (.ldc 169, 2) := by decide +kernel
theorem dX3_bestPhrase_77 : decode cX3_bestPhrase 77 = .ok (.if_icmp .lt 13, 3) := by decide +kernel
theorem dX3_bestPhrase_80 : decode cX3_bestPhrase 80 = .ok (.iload 5, 2) := by decide +kernel
theorem dX3_bestPhrase_82 : decode cX3_bestPhrase 82 = .ok (.iload 8, 2) := by decide +kernel
theorem dX3_bestPhrase_84 : decode cX3_bestPhrase 84 = .ok (.iadd, 1) := by decide +kernel
theorem dX3_bestPhrase_85 : decode cX3_bestPhrase 85 = .ok (.istore 5, 2) := by decide +kernel
theorem dX3_bestPhrase_87 : decode cX3_bestPhrase 87 = .ok (.goto 13, 3) := by decide +kernel
theorem dX3_bestPhrase_90 : decode cX3_bestPhrase 90 = .ok (.iload 6, 2) := by decide +kernel
theorem dX3_bestPhrase_92 : decode cX3_bestPhrase 92 = .ok (.iload 8, 2) := by decide +kernel
theorem dX3_bestPhrase_94 : decode cX3_bestPhrase 94 = .ok (.iload 9, 2) := by decide +kernel
theorem dX3_bestPhrase_96 : decode cX3_bestPhrase 96 = .ok (.imul, 1) := by decide +kernel
theorem dX3_bestPhrase_97 : decode cX3_bestPhrase 97 = .ok (.iadd, 1) := by decide +kernel
theorem dX3_bestPhrase_98 : decode cX3_bestPhrase 98 = .ok (.istore 6, 2) := by decide +kernel
theorem dX3_bestPhrase_100 : decode cX3_bestPhrase 100 = .ok (.iinc 7 1, 3) := by decide +kernel
theorem dX3_bestPhrase_103 : decode cX3_bestPhrase 103 = .ok (.goto (-72), 3) := by decide +kernel
theorem dX3_bestPhrase_106 : decode cX3_bestPhrase 106 = .ok (.iload_n 1, 1) := by decide +kernel
theorem dX3_bestPhrase_107 : decode cX3_bestPhrase 107 = .ok (.bipush (-6), 2) := by decide +kernel
theorem dX3_bestPhrase_109 : decode cX3_bestPhrase 109 = .ok (.if_icmp .eq 21, 3) := by decide +kernel
theorem dX3_bestPhrase_112 : decode cX3_bestPhrase 112 = .ok (.iload 5, 2) := by decide +kernel
theorem dX3_bestPhrase_114 : decode cX3_bestPhrase 114 = .ok (.iload_n 2, 1) := by decide +kernel
theorem dX3_bestPhrase_115 : decode cX3_bestPhrase 115 = .ok (.if_icmp .lt 15, 3) := by decide +kernel
theorem dX3_bestPhrase_118 : decode cX3_bestPhrase 118 = .ok (.iload 5, 2) := by decide +kernel
theorem dX3_bestPhrase_120 : decode cX3_bestPhrase 120 = .ok (.iload_n 2, 1) := by decide +kernel
theorem dX3_bestPhrase_121 : decode cX3_bestPhrase 121 = .ok (.if_icmp .ne 18, 3) := by decide +kernel
theorem dX3_bestPhrase_124 : decode cX3_bestPhrase 124 = .ok (.iload 6, 2) := by decide +kernel
theorem dX3_bestPhrase_126 : decode cX3_bestPhrase 126 = .ok (.iload_n 3, 1) := by decide +kernel
theorem dX3_bestPhrase_127 : decode cX3_bestPhrase 127 = .ok (.if_icmp .ge 12, 3) := by decide +kernel
theorem dX3_bestPhrase_130 : decode cX3_bestPhrase 130 = .ok (.iload 4, 2) := by decide +kernel
theorem dX3_bestPhrase_132 : decode cX3_bestPhrase 132 = .ok (.istore_n 1, 1) := by decide +kernel
theorem dX3_bestPhrase_133 : decode cX3_bestPhrase 133 = .ok (.iload 5, 2) := by decide +kernel
theorem dX3_bestPhrase_135 : decode cX3_bestPhrase 135 = .ok (.istore_n 2, 1) := by decide +kernel
theorem dX3_bestPhrase_136 : decode cX3_bestPhrase 136 = .ok (.iload 6, 2) := by decide +kernel
theorem dX3_bestPhrase_138 : decode cX3_bestPhrase 138 = .ok (.istore_n 3, 1) := by decide +kernel
theorem dX3_bestPhrase_139 : decode cX3_bestPhrase 139 = .ok (.iinc 4 1, 3) := by decide +kernel
theorem dX3_bestPhrase_142 : decode cX3_bestPhrase 142 = .ok (.goto (-132), 3) := by decide +kernel
theorem dX3_bestPhrase_145 : decode cX3_bestPhrase 145 = .ok (.iload_n 1, 1) := by decide +kernel
theorem dX3_bestPhrase_146 : decode cX3_bestPhrase 146 = .ok (.ireturn, 1) := by decide +kernel
theorem dX3_bestChange_0 : decode cX3_bestChange 0 = .ok (.aload_n 0, 1) := by decide +kernel
theorem dX3_bestChange_1 : decode cX3_bestChange 1 = .ok (.getfield 10, 3) := by decide +kernel
theorem dX3_bestChange_4 : decode cX3_bestChange 4 = .ok (.iload_n 1, 1) := by decide +kernel
theorem dX3_bestChange_5 : decode cX3_bestChange 5 = .ok (.invokevirtual 93, 3) := by decide +kernel
theorem dX3_bestChange_8 : decode cX3_bestChange 8 = .ok (.ifCond .eq 14, 3) := by decide +kernel
theorem dX3_bestChange_11 : decode cX3_bestChange 11 = .ok (.aload_n 0, 1) := by decide +kernel
theorem dX3_bestChange_12 : decode cX3_bestChange 12 = .ok (.getfield 10, 3) := by decide +kernel
theorem dX3_bestChange_15 : decode cX3_bestChange 15 = .ok (.iload_n 2, 1) := by decide +kernel
theorem dX3_bestChange_16 : decode cX3_bestChange 16 = .ok (.invokevirtual 103, 3) := by decide +kernel
theorem dX3_bestChange_19 : decode cX3_bestChange 19 = .ok (.ifCond .ne 5, 3) := by decide +kernel
theorem dX3_bestChange_22 : decode cX3_bestChange 22 = .ok (.iconst (-1), 1) := by decide +kernel
theorem dX3_bestChange_23 : decode cX3_bestChange 23 = .ok (.ireturn, 1) := by decide +kernel
theorem dX3_bestChange_24 : decode cX3_bestChange 24 = .ok (.iload_n 3, 1) := by decide +kernel
theorem dX3_bestChange_25 : decode cX3_bestChange 25 = .ok (.ifCond .lt 8, 3) := by decide +kernel
theorem dX3_bestChange_28 : decode cX3_bestChange 28 = .ok (.iload_n 3, 1) := by decide +kernel
theorem dX3_bestChange_29 : decode cX3_bestChange 29 = .ok (.iconst 1, 1) := by decide +kernel
theorem dX3_bestChange_30 : decode cX3_bestChange 30 = .ok (.if_icmp .le 6, 3) := by decide +kernel
theorem dX3_bestChange_33 : decode cX3_bestChange 33 = .ok (.bipush (-2), 2) := by decide +kernel
theorem dX3_bestChange_35 : decode cX3_bestChange 35 = .ok (.ireturn, 1) := by decide +kernel
theorem dX3_bestChange_36 : decode cX3_bestChange 36 = .ok (.aload_n 0, 1) := by decide +kernel
theorem dX3_bestChange_37 : decode cX3_bestChange 37 = .ok (.getfield 26, 3) := by decide +kernel
theorem dX3_bestChange_40 : decode cX3_bestChange 40 = .ok (.aload_n 0, 1) := by decide +kernel
theorem dX3_bestChange_41 : decode cX3_bestChange 41 = .ok (.getfield 10, 3) := by decide +kernel
theorem dX3_bestChange_44 : decode cX3_bestChange 44 = .ok (.iload_n 1, 1) := by decide +kernel
theorem dX3_bestChange_45 : decode cX3_bestChange 45 = .ok (.iload_n 2, 1) := by decide +kernel
theorem dX3_bestChange_46 : decode cX3_bestChange 46 = .ok (.invokevirtual 189, 3) := by decide +kernel
theorem dX3_bestChange_49 : decode cX3_bestChange 49 = .ok (.bipush (-6), 2) := by decide +kernel
theorem dX3_bestChange_51 : decode cX3_bestChange 51 = .ok (.istore 4, 2) := by decide +kernel
theorem dX3_bestChange_53 : decode cX3_bestChange 53 = .ok (.ldc 169, 2) := by decide +kernel
theorem dX3_bestChange_55 : decode cX3_bestChange 55 = .ok (.istore 5, 2) := by decide +kernel
theorem dX3_bestChange_57 : decode cX3_bestChange 57 = .ok (.iconst 0, 1) := by decide +kernel
theorem dX3_bestChange_58 : decode cX3_bestChange 58 = .ok (.istore 6, 2) := by decide +kernel
theorem dX3_bestChange_60 : decode cX3_bestChange 60 = .ok (.iload 6, 2) := by decide +kernel
theorem dX3_bestChange_62 : decode cX3_bestChange 62 = .ok (.aload_n 0, 1) := by decide +kernel
theorem dX3_bestChange_63 : decode cX3_bestChange 63 = .ok (.getfield 10, 3) := by decide +kernel
theorem dX3_bestChange_66 : decode cX3_bestChange 66 = .ok (.getfield 131, 3) := by decide +kernel
theorem dX3_bestChange_69 : decode cX3_bestChange 69 = .ok (.iload_n 1, 1) := by decide +kernel
theorem dX3_bestChange_70 : decode cX3_bestChange 70 = .ok (.iaload, 1) := by decide +kernel
theorem dX3_bestChange_71 : decode cX3_bestChange 71 = .ok (.if_icmp .ge 51, 3) := by decide +kernel
theorem dX3_bestChange_74 : decode cX3_bestChange 74 = .ok (.aload_n 0, 1) := by decide +kernel
theorem dX3_bestChange_75 : decode cX3_bestChange 75 = .ok (.getfield 26, 3) := by decide +kernel
theorem dX3_bestChange_78 : decode cX3_bestChange 78 = .ok (.iload 6, 2) := by decide +kernel
theorem dX3_bestChange_80 : decode cX3_bestChange 80 = .ok (.invokevirtual 193, 3) := by decide +kernel
theorem dX3_bestChange_83 : decode cX3_bestChange 83 = .ok (.aload_n 0, 1) := by decide +kernel
theorem dX3_bestChange_84 : decode cX3_bestChange 84 = .ok (.getfield 26, 3) := by decide +kernel
theorem dX3_bestChange_87 : decode cX3_bestChange 87 = .ok (.invokevirtual 196, 3) := by decide +kernel
theorem dX3_bestChange_90 : decode cX3_bestChange 90 = .ok (.istore 7, 2) := by decide +kernel
theorem dX3_bestChange_92 : decode cX3_bestChange 92 = .ok (.aload_n 0, 1) := by decide +kernel
theorem dX3_bestChange_93 : decode cX3_bestChange 93 = .ok (.getfield 26, 3) := by decide +kernel
theorem dX3_bestChange_96 : decode cX3_bestChange 96 = .ok (.iload 6, 2) := by decide +kernel
theorem dX3_bestChange_98 : decode cX3_bestChange 98 = .ok (.invokevirtual 193, 3) := by decide +kernel
theorem dX3_bestChange_101 : decode cX3_bestChange 101 = .ok (.iload 7, 2) := by decide +kernel
theorem dX3_bestChange_103 : decode cX3_bestChange 103 = .ok (.iload 5, 2) := by decide +kernel
theorem dX3_bestChange_105 : decode cX3_bestChange 105 = .ok (.if_icmp .ge 11, 3) := by decide +kernel
theorem dX3_bestChange_108 : decode cX3_bestChange 108 = .ok (.iload 7, 2) := by decide +kernel
theorem dX3_bestChange_110 : decode cX3_bestChange 110 = .ok (.istore 5, 2) := by decide +kernel
theorem dX3_bestChange_112 : decode cX3_bestChange 112 = .ok (.iload 6, 2) := by decide +kernel
theorem dX3_bestChange_114 : decode cX3_bestChange 114 = .ok (.istore 4, 2) := by decide +kernel
theorem dX3_bestChange_116 : decode cX3_bestChange 116 = .ok (.iinc 6 1, 3) := by decide +kernel
theorem dX3_bestChange_119 : decode cX3_bestChange 119 = .ok (.goto (-59), 3) := by decide +kernel
theorem dX3_bestChange_122 : decode cX3_bestChange 122 = .ok (.iload_n 3, 1) := by decide +kernel
theorem dX3_bestChange_123 : decode cX3_bestChange 123 = .ok (.ifCond .eq 10, 3) := by decide +kernel
theorem dX3_bestChange_126 : decode cX3_bestChange 126 = .ok (.iload 4, 2) := by decide +kernel
theorem dX3_bestChange_128 : decode cX3_bestChange 128 = .ok (.bipush (-6), 2) := by decide +kernel
theorem dX3_bestChange_130 : decode cX3_bestChange 130 = .ok (.if_icmp .ne 8, 3) := by decide +kernel
theorem dX3_bestChange_133 : decode cX3_bestChange 133 = .ok (.iload 4, 2) := by decide +kernel
theorem dX3_bestChange_135 : decode cX3_bestChange 135 = .ok (.goto 5, 3) := by decide +kernel
theorem dX3_bestChange_138 : decode cX3_bestChange 138 = .ok (.iload 5, 2) := by decide +kernel
theorem dX3_bestChange_140 : decode cX3_bestChange 140 = .ok (.ireturn, 1) := by decide +kernel
theorem dX3_enoughBreath_0 : decode cX3_enoughBreath 0 = .ok (.aload_n 0, 1) := by decide +kernel
theorem dX3_enoughBreath_1 : decode cX3_enoughBreath 1 = .ok (.getfield 10, 3) := by decide +kernel
theorem dX3_enoughBreath_4 : decode cX3_enoughBreath 4 = .ok (.iload_n 1, 1) := by decide +kernel
theorem dX3_enoughBreath_5 : decode cX3_enoughBreath 5 = .ok (.invokevirtual 93, 3) := by decide +kernel
theorem dX3_enoughBreath_8 : decode cX3_enoughBreath 8 = .ok (.ifCond .eq 14, 3) := by decide +kernel
theorem dX3_enoughBreath_11 : decode cX3_enoughBreath 11 = .ok (.aload_n 0, 1) := by decide +kernel
theorem dX3_enoughBreath_12 : decode cX3_enoughBreath 12 = .ok (.getfield 10, 3) := by decide +kernel
theorem dX3_enoughBreath_15 : decode cX3_enoughBreath 15 = .ok (.iload_n 2, 1) := by decide +kernel
theorem dX3_enoughBreath_16 : decode cX3_enoughBreath 16 = .ok (.invokevirtual 103, 3) := by decide +kernel
theorem dX3_enoughBreath_19 : decode cX3_enoughBreath 19 = .ok (.ifCond .ne 5, 3) := by decide +kernel
theorem dX3_enoughBreath_22 : decode cX3_enoughBreath 22 = .ok (.iconst (-1), 1) := by decide +kernel
theorem dX3_enoughBreath_23 : decode cX3_enoughBreath 23 = .ok (.ireturn, 1) := by decide +kernel
theorem dX3_enoughBreath_24 : decode cX3_enoughBreath 24 = .ok (.aload_n 0, 1) := by decide +kernel
theorem dX3_enoughBreath_25 : decode cX3_enoughBreath 25 = .ok (.getfield 26, 3) := by decide +kernel
theorem dX3_enoughBreath_28 : decode cX3_enoughBreath 28 = .ok (.aload_n 0, 1) := by decide +kernel
theorem dX3_enoughBreath_29 : decode cX3_enoughBreath 29 = .ok (.getfield 10, 3) := by decide +kernel
theorem dX3_enoughBreath_32 : decode cX3_enoughBreath 32 = .ok (.iload_n 1, 1) := by decide +kernel
theorem dX3_enoughBreath_33 : decode cX3_enoughBreath 33 = .ok (.iload_n 2, 1) := by decide +kernel
theorem dX3_enoughBreath_34 : decode cX3_enoughBreath 34 = .ok (.invokevirtual 189, 3) := by decide +kernel
theorem dX3_enoughBreath_37 : decode cX3_enoughBreath 37 = .ok (.bipush (-6), 2) := by decide +kernel
theorem dX3_enoughBreath_39 : decode cX3_enoughBreath 39 = .ok (.istore_n 3, 1) := by decide +kernel
theorem dX3_enoughBreath_40 : decode cX3_enoughBreath 40 = .ok (.ldc 169, 2) := by decide +kernel
theorem dX3_enoughBreath_42 : decode cX3_enoughBreath 42 = .ok (.istore 4, 2) := by decide +kernel
theorem dX3_enoughBreath_44 : decode cX3_enoughBreath 44 = .ok (.iconst 1, 1) := by decide +kernel
theorem dX3_enoughBreath_45 : decode cX3_enoughBreath 45 = .ok (.istore 5, 2) := by decide +kernel
theorem dX3_enoughBreath_47 : decode cX3_enoughBreath 47 = .ok (.iload 5, 2) := by decide +kernel
theorem dX3_enoughBreath_49 : decode cX3_enoughBreath 49 = .ok (.bipush 8, 2) := by decide +kernel
theorem dX3_enoughBreath_51 : decode cX3_enoughBreath 51 = .ok (.if_icmp .gt 41, 3) := by decide +kernel
theorem dX3_enoughBreath_54 : decode cX3_enoughBreath 54 = .ok (.aload_n 0, 1) := by decide +kernel
theorem dX3_enoughBreath_55 : decode cX3_enoughBreath 55 = .ok (.getfield 26, 3) := by decide +kernel
theorem dX3_enoughBreath_58 : decode cX3_enoughBreath 58 = .ok (.iload 5, 2) := by decide +kernel
theorem dX3_enoughBreath_60 : decode cX3_enoughBreath 60 = .ok (.putfield 199, 3) := by decide +kernel
theorem dX3_enoughBreath_63 : decode cX3_enoughBreath 63 = .ok (.aload_n 0, 1) := by decide +kernel
theorem dX3_enoughBreath_64 : decode cX3_enoughBreath 64 = .ok (.getfield 26, 3) := by decide +kernel
theorem dX3_enoughBreath_67 : decode cX3_enoughBreath 67 = .ok (.invokevirtual 196, 3) := by decide +kernel
theorem dX3_enoughBreath_70 : decode cX3_enoughBreath 70 = .ok (.istore 6, 2) := by decide +kernel
theorem dX3_enoughBreath_72 : decode cX3_enoughBreath 72 = .ok (.iload 6, 2) := by decide +kernel
theorem dX3_enoughBreath_74 : decode cX3_enoughBreath 74 = .ok (.iload 4, 2) := by decide +kernel
theorem dX3_enoughBreath_76 : decode cX3_enoughBreath 76 = .ok (.if_icmp .ge 10, 3) := by decide +kernel
theorem dX3_enoughBreath_79 : decode cX3_enoughBreath 79 = .ok (.iload 6, 2) := by decide +kernel
theorem dX3_enoughBreath_81 : decode cX3_enoughBreath 81 = .ok (.istore 4, 2) := by decide +kernel
theorem dX3_enoughBreath_83 : decode cX3_enoughBreath 83 = .ok (.iload 5, 2) := by decide +kernel
theorem dX3_enoughBreath_85 : decode cX3_enoughBreath 85 = .ok (.istore_n 3, 1) := by decide +kernel
theorem dX3_enoughBreath_86 : decode cX3_enoughBreath 86 = .ok (.iinc 5 1, 3) := by decide +kernel
theorem dX3_enoughBreath_89 : decode cX3_enoughBreath 89 = .ok (.goto (-42), 3) := by decide +kernel
theorem dX3_enoughBreath_92 : decode cX3_enoughBreath 92 = .ok (.iload_n 3, 1) := by decide +kernel
theorem dX3_enoughBreath_93 : decode cX3_enoughBreath 93 = .ok (.ireturn, 1) := by decide +kernel
theorem dX3_put_0 : decode cX3_put 0 = .ok (.lload_n 1, 1) := by decide +kernel
theorem dX3_put_1 : decode cX3_put 1 = .ok (.invokestatic 202, 3) := by decide +kernel
theorem dX3_put_4 : decode cX3_put 4 = .ok (.istore_n 3, 1) := by decide +kernel
theorem dX3_put_5 : decode cX3_put 5 = .ok (.iload_n 3, 1) := by decide +kernel
theorem dX3_put_6 : decode cX3_put 6 = .ok (.iconst 1, 1) := by decide +kernel
theorem dX3_put_7 : decode cX3_put 7 = .ok (.if_icmp .ge 6, 3) := by decide +kernel
theorem dX3_put_10 : decode cX3_put 10 = .ok (.bipush (-2), 2) := by decide +kernel
theorem dX3_put_12 : decode cX3_put 12 = .ok (.ireturn, 1) := by decide +kernel
theorem dX3_put_13 : decode cX3_put 13 = .ok (.aload_n 0, 1) := by decide +kernel
theorem dX3_put_14 : decode cX3_put 14 = .ok (.getfield 19, 3) := by decide +kernel
theorem dX3_put_17 : decode cX3_put 17 = .ok (.getfield 74, 3) := by decide +kernel
theorem dX3_put_20 : decode cX3_put 20 = .ok (.iload_n 3, 1) := by decide +kernel
theorem dX3_put_21 : decode cX3_put 21 = .ok (.iadd, 1) := by decide +kernel
theorem dX3_put_22 : decode cX3_put 22 = .ok (.bipush 60, 2) := by decide +kernel
theorem dX3_put_24 : decode cX3_put 24 = .ok (.if_icmp .le 6, 3) := by decide +kernel
theorem dX3_put_27 : decode cX3_put 27 = .ok (.bipush (-4), 2) := by decide +kernel
theorem dX3_put_29 : decode cX3_put 29 = .ok (.ireturn, 1) := by decide +kernel
theorem dX3_put_30 : decode cX3_put 30 = .ok (.aload_n 0, 1) := by decide +kernel
theorem dX3_put_31 : decode cX3_put 31 = .ok (.getfield 19, 3) := by decide +kernel
theorem dX3_put_34 : decode cX3_put 34 = .ok (.lload_n 1, 1) := by decide +kernel
theorem dX3_put_35 : decode cX3_put 35 = .ok (.iload_n 3, 1) := by decide +kernel
theorem dX3_put_36 : decode cX3_put 36 = .ok (.invokevirtual 206, 3) := by decide +kernel
theorem dX3_put_39 : decode cX3_put 39 = .ok (.aload_n 0, 1) := by decide +kernel
theorem dX3_put_40 : decode cX3_put 40 = .ok (.getfield 19, 3) := by decide +kernel
theorem dX3_put_43 : decode cX3_put 43 = .ok (.getfield 74, 3) := by decide +kernel
theorem dX3_put_46 : decode cX3_put 46 = .ok (.ireturn, 1) := by decide +kernel
theorem dX3_wipe_0 : decode cX3_wipe 0 = .ok (.aload_n 0, 1) := by decide +kernel
theorem dX3_wipe_1 : decode cX3_wipe 1 = .ok (.getfield 19, 3) := by decide +kernel
theorem dX3_wipe_4 : decode cX3_wipe 4 = .ok (.getfield 74, 3) := by decide +kernel
theorem dX3_wipe_7 : decode cX3_wipe 7 = .ok (.istore_n 1, 1) := by decide +kernel
theorem dX3_wipe_8 : decode cX3_wipe 8 = .ok (.aload_n 0, 1) := by decide +kernel
theorem dX3_wipe_9 : decode cX3_wipe 9 = .ok (.getfield 19, 3) := by decide +kernel
theorem dX3_wipe_12 : decode cX3_wipe 12 = .ok (.iconst 0, 1) := by decide +kernel
theorem dX3_wipe_13 : decode cX3_wipe 13 = .ok (.putfield 74, 3) := by decide +kernel
theorem dX3_wipe_16 : decode cX3_wipe 16 = .ok (.iload_n 1, 1) := by decide +kernel
theorem dX3_wipe_17 : decode cX3_wipe 17 = .ok (.ireturn, 1) := by decide +kernel
theorem dX3_fault_0 : decode cX3_fault 0 = .ok (.aload_n 0, 1) := by decide +kernel
theorem dX3_fault_1 : decode cX3_fault 1 = .ok (.getfield 19, 3) := by decide +kernel
theorem dX3_fault_4 : decode cX3_fault 4 = .ok (.invokevirtual 58, 3) := by decide +kernel
theorem dX3_fault_7 : decode cX3_fault 7 = .ok (.ireturn, 1) := by decide +kernel
theorem dX3_undo_0 : decode cX3_undo 0 = .ok (.aload_n 0, 1) := by decide +kernel
theorem dX3_undo_1 : decode cX3_undo 1 = .ok (.getfield 34, 3) := by decide +kernel
theorem dX3_undo_4 : decode cX3_undo 4 = .ok (.iconst 1, 1) := by decide +kernel
theorem dX3_undo_5 : decode cX3_undo 5 = .ok (.if_icmp .ge 6, 3) := by decide +kernel
theorem dX3_undo_8 : decode cX3_undo 8 = .ok (.bipush (-5), 2) := by decide +kernel
theorem dX3_undo_10 : decode cX3_undo 10 = .ok (.ireturn, 1) := by decide +kernel
theorem dX3_undo_11 : decode cX3_undo 11 = .ok (.aload_n 0, 1) := by decide +kernel
theorem dX3_undo_12 : decode cX3_undo 12 = .ok (.dup, 1) := by decide +kernel
theorem dX3_undo_13 : decode cX3_undo 13 = .ok (.getfield 34, 3) := by decide +kernel
theorem dX3_undo_16 : decode cX3_undo 16 = .ok (.iconst 1, 1) := by decide +kernel
theorem dX3_undo_17 : decode cX3_undo 17 = .ok (.isub, 1) := by decide +kernel
theorem dX3_undo_18 : decode cX3_undo 18 = .ok (.putfield 34, 3) := by decide +kernel
theorem dX3_undo_21 : decode cX3_undo 21 = .ok (.aload_n 0, 1) := by decide +kernel
theorem dX3_undo_22 : decode cX3_undo 22 = .ok (.getfield 10, 3) := by decide +kernel
theorem dX3_undo_25 : decode cX3_undo 25 = .ok (.aload_n 0, 1) := by decide +kernel
theorem dX3_undo_26 : decode cX3_undo 26 = .ok (.getfield 30, 3) := by decide +kernel
theorem dX3_undo_29 : decode cX3_undo 29 = .ok (.aload_n 0, 1) := by decide +kernel
theorem dX3_undo_30 : decode cX3_undo 30 = .ok (.getfield 34, 3) := by decide +kernel
theorem dX3_undo_33 : decode cX3_undo 33 = .ok (.aaload, 1) := by decide +kernel
theorem dX3_undo_34 : decode cX3_undo 34 = .ok (.invokevirtual 210, 3) := by decide +kernel
theorem dX3_undo_37 : decode cX3_undo 37 = .ok (.aload_n 0, 1) := by decide +kernel
theorem dX3_undo_38 : decode cX3_undo 38 = .ok (.getfield 34, 3) := by decide +kernel
theorem dX3_undo_41 : decode cX3_undo 41 = .ok (.ireturn, 1) := by decide +kernel
theorem dX3_save_0 : decode cX3_save 0 = .ok (.iload_n 1, 1) := by decide +kernel
theorem dX3_save_1 : decode cX3_save 1 = .ok (.ifCond .lt 8, 3) := by decide +kernel
theorem dX3_save_4 : decode cX3_save 4 = .ok (.iload_n 1, 1) := by decide +kernel
theorem dX3_save_5 : decode cX3_save 5 = .ok (.iconst 2, 1) := by decide +kernel
theorem dX3_save_6 : decode cX3_save 6 = .ok (.if_icmp .lt 6, 3) := by decide +kernel
theorem dX3_save_9 : decode cX3_save 9 = .ok (.bipush (-2), 2) := by decide +kernel
theorem dX3_save_11 : decode cX3_save 11 = .ok (.ireturn, 1) := by decide +kernel
theorem dX3_save_12 : decode cX3_save 12 = .ok (.aload_n 0, 1) := by decide +kernel
theorem dX3_save_13 : decode cX3_save 13 = .ok (.getfield 38, 3) := by decide +kernel
theorem dX3_save_16 : decode cX3_save 16 = .ok (.iload_n 1, 1) := by decide +kernel
theorem dX3_save_17 : decode cX3_save 17 = .ok (.aaload, 1) := by decide +kernel
theorem dX3_save_18 : decode cX3_save 18 = .ok (.aload_n 0, 1) := by decide +kernel
theorem dX3_save_19 : decode cX3_save 19 = .ok (.getfield 10, 3) := by decide +kernel
theorem dX3_save_22 : decode cX3_save 22 = .ok (.invokevirtual 210, 3) := by decide +kernel
theorem dX3_save_25 : decode cX3_save 25 = .ok (.aload_n 0, 1) := by decide +kernel
theorem dX3_save_26 : decode cX3_save 26 = .ok (.getfield 41, 3) := by decide +kernel
theorem dX3_save_29 : decode cX3_save 29 = .ok (.iload_n 1, 1) := by decide +kernel
theorem dX3_save_30 : decode cX3_save 30 = .ok (.iconst 1, 1) := by decide +kernel
theorem dX3_save_31 : decode cX3_save 31 = .ok (.bastore, 1) := by decide +kernel
theorem dX3_save_32 : decode cX3_save 32 = .ok (.aload_n 0, 1) := by decide +kernel
theorem dX3_save_33 : decode cX3_save 33 = .ok (.getfield 10, 3) := by decide +kernel
theorem dX3_save_36 : decode cX3_save 36 = .ok (.getfield 68, 3) := by decide +kernel
theorem dX3_save_39 : decode cX3_save 39 = .ok (.ireturn, 1) := by decide +kernel
theorem dX3_restore_0 : decode cX3_restore 0 = .ok (.iload_n 1, 1) := by decide +kernel
theorem dX3_restore_1 : decode cX3_restore 1 = .ok (.ifCond .lt 8, 3) := by decide +kernel
theorem dX3_restore_4 : decode cX3_restore 4 = .ok (.iload_n 1, 1) := by decide +kernel
theorem dX3_restore_5 : decode cX3_restore 5 = .ok (.iconst 2, 1) := by decide +kernel
theorem dX3_restore_6 : decode cX3_restore 6 = .ok (.if_icmp .lt 6, 3) := by decide +kernel
theorem dX3_restore_9 : decode cX3_restore 9 = .ok (.bipush (-2), 2) := by decide +kernel
theorem dX3_restore_11 : decode cX3_restore 11 = .ok (.ireturn, 1) := by decide +kernel
theorem dX3_restore_12 : decode cX3_restore 12 = .ok (.aload_n 0, 1) := by decide +kernel
theorem dX3_restore_13 : decode cX3_restore 13 = .ok (.getfield 41, 3) := by decide +kernel
theorem dX3_restore_16 : decode cX3_restore 16 = .ok (.iload_n 1, 1) := by decide +kernel
theorem dX3_restore_17 : decode cX3_restore 17 = .ok (.baload, 1) := by decide +kernel
theorem dX3_restore_18 : decode cX3_restore 18 = .ok (.ifCond .ne 6, 3) := by decide +kernel
theorem dX3_restore_21 : decode cX3_restore 21 = .ok (.bipush (-5), 2) := by decide +kernel
theorem dX3_restore_23 : decode cX3_restore 23 = .ok (.ireturn, 1) := by decide +kernel
theorem dX3_restore_24 : decode cX3_restore 24 = .ok (.aload_n 0, 1) := by decide +kernel
theorem dX3_restore_25 : decode cX3_restore 25 = .ok (.invokevirtual 52, 3) := by decide +kernel
theorem dX3_restore_28 : decode cX3_restore 28 = .ok (.aload_n 0, 1) := by decide +kernel
theorem dX3_restore_29 : decode cX3_restore 29 = .ok (.getfield 10, 3) := by decide +kernel
theorem dX3_restore_32 : decode cX3_restore 32 = .ok (.aload_n 0, 1) := by decide +kernel
theorem dX3_restore_33 : decode cX3_restore 33 = .ok (.getfield 38, 3) := by decide +kernel
theorem dX3_restore_36 : decode cX3_restore 36 = .ok (.iload_n 1, 1) := by decide +kernel
theorem dX3_restore_37 : decode cX3_restore 37 = .ok (.aaload, 1) := by decide +kernel
theorem dX3_restore_38 : decode cX3_restore 38 = .ok (.invokevirtual 210, 3) := by decide +kernel
theorem dX3_restore_41 : decode cX3_restore 41 = .ok (.aload_n 0, 1) := by decide +kernel
theorem dX3_restore_42 : decode cX3_restore 42 = .ok (.getfield 10, 3) := by decide +kernel
theorem dX3_restore_45 : decode cX3_restore 45 = .ok (.getfield 68, 3) := by decide +kernel
theorem dX3_restore_48 : decode cX3_restore 48 = .ok (.ireturn, 1) := by decide +kernel
theorem dX3_record_0 : decode cX3_record 0 = .ok (.aload_n 0, 1) := by decide +kernel
theorem dX3_record_1 : decode cX3_record 1 = .ok (.getfield 34, 3) := by decide +kernel
theorem dX3_record_4 : decode cX3_record 4 = .ok (.bipush 6, 2) := by decide +kernel
theorem dX3_record_6 : decode cX3_record 6 = .ok (.if_icmp .ne 55, 3) := by decide +kernel
theorem dX3_record_9 : decode cX3_record 9 = .ok (.aload_n 0, 1) := by decide +kernel
theorem dX3_record_10 : decode cX3_record 10 = .ok (.getfield 30, 3) := by decide +kernel
theorem dX3_record_13 : decode cX3_record 13 = .ok (.iconst 0, 1) := by decide +kernel
theorem dX3_record_14 : decode cX3_record 14 = .ok (.aaload, 1) := by decide +kernel
theorem dX3_record_15 : decode cX3_record 15 = .ok (.astore_n 1, 1) := by decide +kernel
theorem dX3_record_16 : decode cX3_record 16 = .ok (.iconst 1, 1) := by decide +kernel
theorem dX3_record_17 : decode cX3_record 17 = .ok (.istore_n 2, 1) := by decide +kernel
theorem dX3_record_18 : decode cX3_record 18 = .ok (.iload_n 2, 1) := by decide +kernel
theorem dX3_record_19 : decode cX3_record 19 = .ok (.bipush 6, 2) := by decide +kernel
theorem dX3_record_21 : decode cX3_record 21 = .ok (.if_icmp .ge 23, 3) := by decide +kernel
theorem dX3_record_24 : decode cX3_record 24 = .ok (.aload_n 0, 1) := by decide +kernel
theorem dX3_record_25 : decode cX3_record 25 = .ok (.getfield 30, 3) := by decide +kernel
theorem dX3_record_28 : decode cX3_record 28 = .ok (.iload_n 2, 1) := by decide +kernel
theorem dX3_record_29 : decode cX3_record 29 = .ok (.iconst 1, 1) := by decide +kernel
theorem dX3_record_30 : decode cX3_record 30 = .ok (.isub, 1) := by decide +kernel
theorem dX3_record_31 : decode cX3_record 31 = .ok (.aload_n 0, 1) := by decide +kernel
theorem dX3_record_32 : decode cX3_record 32 = .ok (.getfield 30, 3) := by decide +kernel
theorem dX3_record_35 : decode cX3_record 35 = .ok (.iload_n 2, 1) := by decide +kernel
theorem dX3_record_36 : decode cX3_record 36 = .ok (.aaload, 1) := by decide +kernel
theorem dX3_record_37 : decode cX3_record 37 = .ok (.aastore, 1) := by decide +kernel
theorem dX3_record_38 : decode cX3_record 38 = .ok (.iinc 2 1, 3) := by decide +kernel
theorem dX3_record_41 : decode cX3_record 41 = .ok (.goto (-23), 3) := by decide +kernel
theorem dX3_record_44 : decode cX3_record 44 = .ok (.aload_n 0, 1) := by decide +kernel
theorem dX3_record_45 : decode cX3_record 45 = .ok (.getfield 30, 3) := by decide +kernel
theorem dX3_record_48 : decode cX3_record 48 = .ok (.iconst 5, 1) := by decide +kernel
theorem dX3_record_49 : decode cX3_record 49 = .ok (.aload_n 1, 1) := by decide +kernel
theorem dX3_record_50 : decode cX3_record 50 = .ok (.aastore, 1) := by decide +kernel
theorem dX3_record_51 : decode cX3_record 51 = .ok (.aload_n 0, 1) := by decide +kernel
theorem dX3_record_52 : decode cX3_record 52 = .ok (.dup, 1) := by decide +kernel
theorem dX3_record_53 : decode cX3_record 53 = .ok (.getfield 34, 3) := by decide +kernel
theorem dX3_record_56 : decode cX3_record 56 = .ok (.iconst 1, 1) := by decide +kernel
theorem dX3_record_57 : decode cX3_record 57 = .ok (.isub, 1) := by decide +kernel
theorem dX3_record_58 : decode cX3_record 58 = .ok (.putfield 34, 3) := by decide +kernel
theorem dX3_record_61 : decode cX3_record 61 = .ok (.aload_n 0, 1) := by decide +kernel
theorem dX3_record_62 : decode cX3_record 62 = .ok (.getfield 30, 3) := by decide +kernel
theorem dX3_record_65 : decode cX3_record 65 = .ok (.aload_n 0, 1) := by decide +kernel
theorem dX3_record_66 : decode cX3_record 66 = .ok (.getfield 34, 3) := by decide +kernel
theorem dX3_record_69 : decode cX3_record 69 = .ok (.aaload, 1) := by decide +kernel
theorem dX3_record_70 : decode cX3_record 70 = .ok (.aload_n 0, 1) := by decide +kernel
theorem dX3_record_71 : decode cX3_record 71 = .ok (.getfield 10, 3) := by decide +kernel
theorem dX3_record_74 : decode cX3_record 74 = .ok (.invokevirtual 210, 3) := by decide +kernel
theorem dX3_record_77 : decode cX3_record 77 = .ok (.aload_n 0, 1) := by decide +kernel
theorem dX3_record_78 : decode cX3_record 78 = .ok (.dup, 1) := by decide +kernel
theorem dX3_record_79 : decode cX3_record 79 = .ok (.getfield 34, 3) := by decide +kernel
theorem dX3_record_82 : decode cX3_record 82 = .ok (.iconst 1, 1) := by decide +kernel
theorem dX3_record_83 : decode cX3_record 83 = .ok (.iadd, 1) := by decide +kernel
theorem dX3_record_84 : decode cX3_record 84 = .ok (.putfield 34, 3) := by decide +kernel
theorem dX3_record_87 : decode cX3_record 87 = .ok (.return_, 1) := by decide +kernel
theorem dX3_leastCostOf_0 : decode cX3_leastCostOf 0 = .ok (.aload_n 0, 1) := by decide +kernel
theorem dX3_leastCostOf_1 : decode cX3_leastCostOf 1 = .ok (.getfield 26, 3) := by decide +kernel
theorem dX3_leastCostOf_4 : decode cX3_leastCostOf 4 = .ok (.aload_n 0, 1) := by decide +kernel
theorem dX3_leastCostOf_5 : decode cX3_leastCostOf 5 = .ok (.getfield 10, 3) := by decide +kernel
theorem dX3_leastCostOf_8 : decode cX3_leastCostOf 8 = .ok (.iload_n 1, 1) := by decide +kernel
theorem dX3_leastCostOf_9 : decode cX3_leastCostOf 9 = .ok (.iload_n 2, 1) := by decide +kernel
theorem dX3_leastCostOf_10 : decode cX3_leastCostOf 10 = .ok (.invokevirtual 189, 3) := by decide +kernel
theorem dX3_leastCostOf_13 : decode cX3_leastCostOf 13 = .ok (.aload_n 0, 1) := by decide +kernel
theorem dX3_leastCostOf_14 : decode cX3_leastCostOf 14 = .ok (.getfield 26, 3) := by decide +kernel
theorem dX3_leastCostOf_17 : decode cX3_leastCostOf 17 = .ok (.invokevirtual 196, 3) := by decide +kernel
theorem dX3_leastCostOf_20 : decode cX3_leastCostOf 20 = .ok (.ireturn, 1) := by decide +kernel
theorem dX3_cheapestPhrase_0 : decode cX3_cheapestPhrase 0 = .ok (.bipush (-6), 2) := by decide +kernel
theorem dX3_cheapestPhrase_2 : decode cX3_cheapestPhrase 2 = .ok (.istore_n 2, 1) := by decide +kernel
theorem dX3_cheapestPhrase_3 : decode cX3_cheapestPhrase 3 = .ok (.ldc 169, 2) := by decide +kernel
theorem dX3_cheapestPhrase_5 : decode cX3_cheapestPhrase 5 = .ok (.istore_n 3, 1) := by decide +kernel
theorem dX3_cheapestPhrase_6 : decode cX3_cheapestPhrase 6 = .ok (.iconst 0, 1) := by decide +kernel
theorem dX3_cheapestPhrase_7 : decode cX3_cheapestPhrase 7 = .ok (.istore 4, 2) := by decide +kernel
theorem dX3_cheapestPhrase_9 : decode cX3_cheapestPhrase 9 = .ok (.iload 4, 2) := by decide +kernel
theorem dX3_cheapestPhrase_11 : decode cX3_cheapestPhrase 11 = .ok (.aload_n 0, 1) := by decide +kernel
theorem dX3_cheapestPhrase_12 : decode cX3_cheapestPhrase 12 = .ok (.getfield 10, 3) := by decide +kernel
theorem dX3_cheapestPhrase_15 : decode cX3_cheapestPhrase 15 = .ok (.getfield 71, 3) := by decide +kernel
theorem dX3_cheapestPhrase_18 : decode cX3_cheapestPhrase 18 = .ok (.if_icmp .ge 30, 3) := by decide +kernel
theorem dX3_cheapestPhrase_21 : decode cX3_cheapestPhrase 21 = .ok (.aload_n 0, 1) := by decide +kernel
theorem dX3_cheapestPhrase_22 : decode cX3_cheapestPhrase 22 = .ok (.iload_n 1, 1) := by decide +kernel
theorem dX3_cheapestPhrase_23 : decode cX3_cheapestPhrase 23 = .ok (.iload 4, 2) := by decide +kernel
theorem dX3_cheapestPhrase_25 : decode cX3_cheapestPhrase 25 = .ok (.invokevirtual 166, 3) := by decide +kernel
theorem dX3_cheapestPhrase_28 : decode cX3_cheapestPhrase 28 = .ok (.istore 5, 2) := by decide +kernel
theorem dX3_cheapestPhrase_30 : decode cX3_cheapestPhrase 30 = .ok (.iload 5, 2) := by decide +kernel
theorem dX3_cheapestPhrase_32 : decode cX3_cheapestPhrase 32 = .ok (.iload_n 3, 1) := by decide +kernel
theorem dX3_cheapestPhrase_33 : decode cX3_cheapestPhrase 33 = .ok (.if_icmp .ge 9, 3) := by decide +kernel
theorem dX3_cheapestPhrase_36 : decode cX3_cheapestPhrase 36 = .ok (.iload 5, 2) := by decide +kernel
theorem dX3_cheapestPhrase_38 : decode cX3_cheapestPhrase 38 = .ok (.istore_n 3, 1) := by decide +kernel
theorem dX3_cheapestPhrase_39 : decode cX3_cheapestPhrase 39 = .ok (.iload 4, 2) := by decide +kernel
theorem dX3_cheapestPhrase_41 : decode cX3_cheapestPhrase 41 = .ok (.istore_n 2, 1) := by decide +kernel
theorem dX3_cheapestPhrase_42 : decode cX3_cheapestPhrase 42 = .ok (.iinc 4 1, 3) := by decide +kernel
theorem dX3_cheapestPhrase_45 : decode cX3_cheapestPhrase 45 = .ok (.goto (-36), 3) := by decide +kernel
theorem dX3_cheapestPhrase_48 : decode cX3_cheapestPhrase 48 = .ok (.iload_n 2, 1) := by decide +kernel
theorem dX3_cheapestPhrase_49 : decode cX3_cheapestPhrase 49 = .ok (.ireturn, 1) := by decide +kernel
end
section
theorem dX4_init_0 : decode cX4_init 0 = .ok (.aload_n 0, 1) := by decide +kernel
theorem dX4_init_1 : decode cX4_init 1 = .ok (.invokespecial 1, 3) := by decide +kernel
theorem dX4_init_4 : decode cX4_init 4 = .ok (.aload_n 0, 1) := by decide +kernel
theorem dX4_init_5 : decode cX4_init 5 = .ok (.bipush 112, 2) := by decide +kernel
theorem dX4_init_7 : decode cX4_init 7 = .ok (.newarray .int, 2) := by decide +kernel
theorem dX4_init_9 : decode cX4_init 9 = .ok (.putfield 7, 3) := by decide +kernel
theorem dX4_init_12 : decode cX4_init 12 = .ok (.aload_n 0, 1) := by decide +kernel
theorem dX4_init_13 : decode cX4_init 13 = .ok (.sipush 672, 3) := by decide +kernel
theorem dX4_init_16 : decode cX4_init 16 = .ok (.newarray .int, 2) := by decide +kernel
theorem dX4_init_18 : decode cX4_init 18 = .ok (.putfield 13, 3) := by decide +kernel
theorem dX4_init_21 : decode cX4_init 21 = .ok (.aload_n 0, 1) := by decide +kernel
theorem dX4_init_22 : decode cX4_init 22 = .ok (.sipush 224, 3) := by decide +kernel
theorem dX4_init_25 : decode cX4_init 25 = .ok (.newarray .int, 2) := by decide +kernel
theorem dX4_init_27 : decode cX4_init 27 = .ok (.putfield 16, 3) := by decide +kernel
theorem dX4_init_30 : decode cX4_init 30 = .ok (.aload_n 0, 1) := by decide +kernel
theorem dX4_init_31 : decode cX4_init 31 = .ok (.iconst 2, 1) := by decide +kernel
theorem dX4_init_32 : decode cX4_init 32 = .ok (.newarray .int, 2) := by decide +kernel
theorem dX4_init_34 : decode cX4_init 34 = .ok (.putfield 19, 3) := by decide +kernel
theorem dX4_init_37 : decode cX4_init 37 = .ok (.aload_n 0, 1) := by decide +kernel
theorem dX4_init_38 : decode cX4_init 38 = .ok (.bipush 60, 2) := by decide +kernel
theorem dX4_init_40 : decode cX4_init 40 = .ok (.newarray .int, 2) := by decide +kernel
theorem dX4_init_42 : decode cX4_init 42 = .ok (.putfield 22, 3) := by decide +kernel
theorem dX4_init_45 : decode cX4_init 45 = .ok (.aload_n 0, 1) := by decide +kernel
theorem dX4_init_46 : decode cX4_init 46 = .ok (.sipush 425, 3) := by decide +kernel
theorem dX4_init_49 : decode cX4_init 49 = .ok (.newarray .int, 2) := by decide +kernel
theorem dX4_init_51 : decode cX4_init 51 = .ok (.putfield 25, 3) := by decide +kernel
theorem dX4_init_54 : decode cX4_init 54 = .ok (.aload_n 0, 1) := by decide +kernel
theorem dX4_init_55 : decode cX4_init 55 = .ok (.sipush 425, 3) := by decide +kernel
theorem dX4_init_58 : decode cX4_init 58 = .ok (.newarray .int, 2) := by decide +kernel
theorem dX4_init_60 : decode cX4_init 60 = .ok (.putfield 28, 3) := by decide +kernel
theorem dX4_init_63 : decode cX4_init 63 = .ok (.aload_n 0, 1) := by decide +kernel
theorem dX4_init_64 : decode cX4_init 64 = .ok (.sipush 425, 3) := by decide +kernel
theorem dX4_init_67 : decode cX4_init 67 = .ok (.newarray .int, 2) := by decide +kernel
theorem dX4_init_69 : decode cX4_init 69 = .ok (.putfield 31, 3) := by decide +kernel
theorem dX4_init_72 : decode cX4_init 72 = .ok (.aload_n 0, 1) := by decide +kernel
theorem dX4_init_73 : decode cX4_init 73 = .ok (.bipush 16, 2) := by decide +kernel
theorem dX4_init_75 : decode cX4_init 75 = .ok (.newarray .int, 2) := by decide +kernel
theorem dX4_init_77 : decode cX4_init 77 = .ok (.putfield 34, 3) := by decide +kernel
theorem dX4_init_80 : decode cX4_init 80 = .ok (.aload_n 0, 1) := by decide +kernel
theorem dX4_init_81 : decode cX4_init 81 = .ok (.bipush 16, 2) := by decide +kernel
theorem dX4_init_83 : decode cX4_init 83 = .ok (.newarray .int, 2) := by decide +kernel
theorem dX4_init_85 : decode cX4_init 85 = .ok (.putfield 37, 3) := by decide +kernel
theorem dX4_init_88 : decode cX4_init 88 = .ok (.aload_n 0, 1) := by decide +kernel
theorem dX4_init_89 : decode cX4_init 89 = .ok (.getfield 7, 3) := by decide +kernel
theorem dX4_init_92 : decode cX4_init 92 = .ok (.iconst 0, 1) := by decide +kernel
theorem dX4_init_93 : decode cX4_init 93 = .ok (.iconst 3, 1) := by decide +kernel
theorem dX4_init_94 : decode cX4_init 94 = .ok (.iastore, 1) := by decide +kernel
theorem dX4_init_95 : decode cX4_init 95 = .ok (.aload_n 0, 1) := by decide +kernel
theorem dX4_init_96 : decode cX4_init 96 = .ok (.getfield 7, 3) := by decide +kernel
theorem dX4_init_99 : decode cX4_init 99 = .ok (.iconst 1, 1) := by decide +kernel
theorem dX4_init_100 : decode cX4_init 100 = .ok (.iconst 1, 1) := by decide +kernel
theorem dX4_init_101 : decode cX4_init 101 = .ok (.iastore, 1) := by decide +kernel
theorem dX4_init_102 : decode cX4_init 102 = .ok (.aload_n 0, 1) := by decide +kernel
theorem dX4_init_103 : decode cX4_init 103 = .ok (.getfield 7, 3) := by decide +kernel
theorem dX4_init_106 : decode cX4_init 106 = .ok (.iconst 2, 1) := by decide +kernel
theorem dX4_init_107 : decode cX4_init 107 = .ok (.iconst 3, 1) := by decide +kernel
theorem dX4_init_108 : decode cX4_init 108 = .ok (.iastore, 1) := by decide +kernel
theorem dX4_init_109 : decode cX4_init 109 = .ok (.aload_n 0, 1) := by decide +kernel
theorem dX4_init_110 : decode cX4_init 110 = .ok (.getfield 7, 3) := by decide +kernel
theorem dX4_init_113 : decode cX4_init 113 = .ok (.iconst 3, 1) := by decide +kernel
theorem dX4_init_114 : decode cX4_init 114 = .ok (.bipush 7, 2) := by decide +kernel
theorem dX4_init_116 : decode cX4_init 116 = .ok (.iastore, 1) := by decide +kernel
theorem dX4_init_117 : decode cX4_init 117 = .ok (.return_, 1) := by decide +kernel
theorem dX4_moves_0 : decode cX4_moves 0 = .ok (.iconst 0, 1) := by decide +kernel
theorem dX4_moves_1 : decode cX4_moves 1 = .ok (.istore 4, 2) := by decide +kernel
theorem dX4_moves_3 : decode cX4_moves 3 = .ok (.iload 4, 2) := by decide +kernel
theorem dX4_moves_5 : decode cX4_moves 5 = .ok (.bipush 112, 2) := by decide +kernel
theorem dX4_moves_7 : decode cX4_moves 7 = .ok (.if_icmp .ge 21, 3) := by decide +kernel
theorem dX4_moves_10 : decode cX4_moves 10 = .ok (.aload_n 2, 1) := by decide +kernel
theorem dX4_moves_11 : decode cX4_moves 11 = .ok (.iload_n 3, 1) := by decide +kernel
theorem dX4_moves_12 : decode cX4_moves 12 = .ok (.iload 4, 2) := by decide +kernel
theorem dX4_moves_14 : decode cX4_moves 14 = .ok (.iadd, 1) := by decide +kernel
theorem dX4_moves_15 : decode cX4_moves 15 = .ok (.aload_n 0, 1) := by decide +kernel
theorem dX4_moves_16 : decode cX4_moves 16 = .ok (.iload_n 1, 1) := by decide +kernel
theorem dX4_moves_17 : decode cX4_moves 17 = .ok (.iload 4, 2) := by decide +kernel
theorem dX4_moves_19 : decode cX4_moves 19 = .ok (.iadd, 1) := by decide +kernel
theorem dX4_moves_20 : decode cX4_moves 20 = .ok (.iaload, 1) := by decide +kernel
theorem dX4_moves_21 : decode cX4_moves 21 = .ok (.iastore, 1) := by decide +kernel
theorem dX4_moves_22 : decode cX4_moves 22 = .ok (.iinc 4 1, 3) := by decide +kernel
theorem dX4_moves_25 : decode cX4_moves 25 = .ok (.goto (-22), 3) := by decide +kernel
theorem dX4_moves_28 : decode cX4_moves 28 = .ok (.return_, 1) := by decide +kernel
theorem dX4_within_0 : decode cX4_within 0 = .ok (.iload_n 0, 1) := by decide +kernel
theorem dX4_within_1 : decode cX4_within 1 = .ok (.iload_n 1, 1) := by decide +kernel
theorem dX4_within_2 : decode cX4_within 2 = .ok (.if_icmp .lt 12, 3) := by decide +kernel
theorem dX4_within_5 : decode cX4_within 5 = .ok (.iload_n 0, 1) := by decide +kernel
theorem dX4_within_6 : decode cX4_within 6 = .ok (.iload_n 2, 1) := by decide +kernel
theorem dX4_within_7 : decode cX4_within 7 = .ok (.if_icmp .gt 7, 3) := by decide +kernel
theorem dX4_within_10 : decode cX4_within 10 = .ok (.iconst 1, 1) := by decide +kernel
theorem dX4_within_11 : decode cX4_within 11 = .ok (.goto 4, 3) := by decide +kernel
theorem dX4_within_14 : decode cX4_within 14 = .ok (.iconst 0, 1) := by decide +kernel
theorem dX4_within_15 : decode cX4_within 15 = .ok (.ireturn, 1) := by decide +kernel
theorem dX4_has_0 : decode cX4_has 0 = .ok (.iload_n 0, 1) := by decide +kernel
theorem dX4_has_1 : decode cX4_has 1 = .ok (.iload_n 1, 1) := by decide +kernel
theorem dX4_has_2 : decode cX4_has 2 = .ok (.ishr, 1) := by decide +kernel
theorem dX4_has_3 : decode cX4_has 3 = .ok (.iconst 1, 1) := by decide +kernel
theorem dX4_has_4 : decode cX4_has 4 = .ok (.iand, 1) := by decide +kernel
theorem dX4_has_5 : decode cX4_has 5 = .ok (.iconst 1, 1) := by decide +kernel
theorem dX4_has_6 : decode cX4_has 6 = .ok (.if_icmp .ne 7, 3) := by decide +kernel
theorem dX4_has_9 : decode cX4_has 9 = .ok (.iconst 1, 1) := by decide +kernel
theorem dX4_has_10 : decode cX4_has 10 = .ok (.goto 4, 3) := by decide +kernel
theorem dX4_has_13 : decode cX4_has 13 = .ok (.iconst 0, 1) := by decide +kernel
theorem dX4_has_14 : decode cX4_has 14 = .ok (.ireturn, 1) := by decide +kernel
theorem dX4_bits_0 : decode cX4_bits 0 = .ok (.iconst 0, 1) := by decide +kernel
theorem dX4_bits_1 : decode cX4_bits 1 = .ok (.istore_n 1, 1) := by decide +kernel
theorem dX4_bits_2 : decode cX4_bits 2 = .ok (.iconst 0, 1) := by decide +kernel
theorem dX4_bits_3 : decode cX4_bits 3 = .ok (.istore_n 2, 1) := by decide +kernel
theorem dX4_bits_4 : decode cX4_bits 4 = .ok (.iload_n 2, 1) := by decide +kernel
theorem dX4_bits_5 : decode cX4_bits 5 = .ok (.bipush 24, 2) := by decide +kernel
theorem dX4_bits_7 : decode cX4_bits 7 = .ok (.if_icmp .ge 17, 3) := by decide +kernel
theorem dX4_bits_10 : decode cX4_bits 10 = .ok (.iload_n 1, 1) := by decide +kernel
theorem dX4_bits_11 : decode cX4_bits 11 = .ok (.iload_n 0, 1) := by decide +kernel
theorem dX4_bits_12 : decode cX4_bits 12 = .ok (.iload_n 2, 1) := by decide +kernel
theorem dX4_bits_13 : decode cX4_bits 13 = .ok (.ishr, 1) := by decide +kernel
theorem dX4_bits_14 : decode cX4_bits 14 = .ok (.iconst 1, 1) := by decide +kernel
theorem dX4_bits_15 : decode cX4_bits 15 = .ok (.iand, 1) := by decide +kernel
theorem dX4_bits_16 : decode cX4_bits 16 = .ok (.iadd, 1) := by decide +kernel
theorem dX4_bits_17 : decode cX4_bits 17 = .ok (.istore_n 1, 1) := by decide +kernel
theorem dX4_bits_18 : decode cX4_bits 18 = .ok (.iinc 2 1, 3) := by decide +kernel
theorem dX4_bits_21 : decode cX4_bits 21 = .ok (.goto (-17), 3) := by decide +kernel
theorem dX4_bits_24 : decode cX4_bits 24 = .ok (.iload_n 1, 1) := by decide +kernel
theorem dX4_bits_25 : decode cX4_bits 25 = .ok (.ireturn, 1) := by decide +kernel
theorem dX4_record_0 : decode cX4_record 0 = .ok (.aload_n 0, 1) := by decide +kernel
theorem dX4_record_1 : decode cX4_record 1 = .ok (.getfield 40, 3) := by decide +kernel
theorem dX4_record_4 : decode cX4_record 4 = .ok (.bipush 6, 2) := by decide +kernel
theorem dX4_record_6 : decode cX4_record 6 = .ok (.if_icmp .ne 43, 3) := by decide +kernel
theorem dX4_record_9 : decode cX4_record 9 = .ok (.iconst 0, 1) := by decide +kernel
theorem dX4_record_10 : decode cX4_record 10 = .ok (.istore_n 1, 1) := by decide +kernel
theorem dX4_record_11 : decode cX4_record 11 = .ok (.iload_n 1, 1) := by decide +kernel
theorem dX4_record_12 : decode cX4_record 12 = .ok (.sipush 560, 3) := by decide +kernel
theorem dX4_record_15 : decode cX4_record 15 = .ok (.if_icmp .ge 24, 3) := by decide +kernel
theorem dX4_record_18 : decode cX4_record 18 = .ok (.aload_n 0, 1) := by decide +kernel
theorem dX4_record_19 : decode cX4_record 19 = .ok (.getfield 13, 3) := by decide +kernel
theorem dX4_record_22 : decode cX4_record 22 = .ok (.iload_n 1, 1) := by decide +kernel
theorem dX4_record_23 : decode cX4_record 23 = .ok (.aload_n 0, 1) := by decide +kernel
theorem dX4_record_24 : decode cX4_record 24 = .ok (.getfield 13, 3) := by decide +kernel
theorem dX4_record_27 : decode cX4_record 27 = .ok (.iload_n 1, 1) := by decide +kernel
theorem dX4_record_28 : decode cX4_record 28 = .ok (.bipush 112, 2) := by decide +kernel
theorem dX4_record_30 : decode cX4_record 30 = .ok (.iadd, 1) := by decide +kernel
theorem dX4_record_31 : decode cX4_record 31 = .ok (.iaload, 1) := by decide +kernel
theorem dX4_record_32 : decode cX4_record 32 = .ok (.iastore, 1) := by decide +kernel
theorem dX4_record_33 : decode cX4_record 33 = .ok (.iinc 1 1, 3) := by decide +kernel
theorem dX4_record_36 : decode cX4_record 36 = .ok (.goto (-25), 3) := by decide +kernel
theorem dX4_record_39 : decode cX4_record 39 = .ok (.aload_n 0, 1) := by decide +kernel
theorem dX4_record_40 : decode cX4_record 40 = .ok (.dup, 1) := by decide +kernel
theorem dX4_record_41 : decode cX4_record 41 = .ok (.getfield 40, 3) := by decide +kernel
theorem dX4_record_44 : decode cX4_record 44 = .ok (.iconst 1, 1) := by decide +kernel
theorem dX4_record_45 : decode cX4_record 45 = .ok (.isub, 1) := by decide +kernel
theorem dX4_record_46 : decode cX4_record 46 = .ok (.putfield 40, 3) := by decide +kernel
theorem dX4_record_49 : decode cX4_record 49 = .ok (.aload_n 0, 1) := by decide +kernel
theorem dX4_record_50 : decode cX4_record 50 = .ok (.getfield 7, 3) := by decide +kernel
theorem dX4_record_53 : decode cX4_record 53 = .ok (.iconst 0, 1) := by decide +kernel
theorem dX4_record_54 : decode cX4_record 54 = .ok (.aload_n 0, 1) := by decide +kernel
theorem dX4_record_55 : decode cX4_record 55 = .ok (.getfield 13, 3) := by decide +kernel
theorem dX4_record_58 : decode cX4_record 58 = .ok (.aload_n 0, 1) := by decide +kernel
theorem dX4_record_59 : decode cX4_record 59 = .ok (.getfield 40, 3) := by decide +kernel
theorem dX4_record_62 : decode cX4_record 62 = .ok (.bipush 112, 2) := by decide +kernel
theorem dX4_record_64 : decode cX4_record 64 = .ok (.imul, 1) := by decide +kernel
theorem dX4_record_65 : decode cX4_record 65 = .ok (.invokestatic 44, 3) := by decide +kernel
theorem dX4_record_68 : decode cX4_record 68 = .ok (.aload_n 0, 1) := by decide +kernel
theorem dX4_record_69 : decode cX4_record 69 = .ok (.dup, 1) := by decide +kernel
theorem dX4_record_70 : decode cX4_record 70 = .ok (.getfield 40, 3) := by decide +kernel
theorem dX4_record_73 : decode cX4_record 73 = .ok (.iconst 1, 1) := by decide +kernel
theorem dX4_record_74 : decode cX4_record 74 = .ok (.iadd, 1) := by decide +kernel
theorem dX4_record_75 : decode cX4_record 75 = .ok (.putfield 40, 3) := by decide +kernel
theorem dX4_record_78 : decode cX4_record 78 = .ok (.return_, 1) := by decide +kernel
theorem dX4_isLine_0 : decode cX4_isLine 0 = .ok (.iload_n 1, 1) := by decide +kernel
theorem dX4_isLine_1 : decode cX4_isLine 1 = .ok (.iconst 0, 1) := by decide +kernel
theorem dX4_isLine_2 : decode cX4_isLine 2 = .ok (.aload_n 0, 1) := by decide +kernel
theorem dX4_isLine_3 : decode cX4_isLine 3 = .ok (.getfield 7, 3) := by decide +kernel
theorem dX4_isLine_6 : decode cX4_isLine 6 = .ok (.iconst 4, 1) := by decide +kernel
theorem dX4_isLine_7 : decode cX4_isLine 7 = .ok (.iaload, 1) := by decide +kernel
theorem dX4_isLine_8 : decode cX4_isLine 8 = .ok (.iconst 1, 1) := by decide +kernel
theorem dX4_isLine_9 : decode cX4_isLine 9 = .ok (.isub, 1) := by decide +kernel
theorem dX4_isLine_10 : decode cX4_isLine 10 = .ok (.invokestatic 48, 3) := by decide +kernel
theorem dX4_isLine_13 : decode cX4_isLine 13 = .ok (.ireturn, 1) := by decide +kernel
theorem dX4_isPhrase_0 : decode cX4_isPhrase 0 = .ok (.iload_n 1, 1) := by decide +kernel
theorem dX4_isPhrase_1 : decode cX4_isPhrase 1 = .ok (.iconst 0, 1) := by decide +kernel
theorem dX4_isPhrase_2 : decode cX4_isPhrase 2 = .ok (.aload_n 0, 1) := by decide +kernel
theorem dX4_isPhrase_3 : decode cX4_isPhrase 3 = .ok (.getfield 7, 3) := by decide +kernel
theorem dX4_isPhrase_6 : decode cX4_isPhrase 6 = .ok (.iconst 5, 1) := by decide +kernel
theorem dX4_isPhrase_7 : decode cX4_isPhrase 7 = .ok (.iaload, 1) := by decide +kernel
theorem dX4_isPhrase_8 : decode cX4_isPhrase 8 = .ok (.iconst 1, 1) := by decide +kernel
theorem dX4_isPhrase_9 : decode cX4_isPhrase 9 = .ok (.isub, 1) := by decide +kernel
theorem dX4_isPhrase_10 : decode cX4_isPhrase 10 = .ok (.invokestatic 48, 3) := by decide +kernel
theorem dX4_isPhrase_13 : decode cX4_isPhrase 13 = .ok (.ireturn, 1) := by decide +kernel
theorem dX4_lineLength_0 : decode cX4_lineLength 0 = .ok (.aload_n 0, 1) := by decide +kernel
theorem dX4_lineLength_1 : decode cX4_lineLength 1 = .ok (.getfield 7, 3) := by decide +kernel
theorem dX4_lineLength_4 : decode cX4_lineLength 4 = .ok (.bipush 8, 2) := by decide +kernel
theorem dX4_lineLength_6 : decode cX4_lineLength 6 = .ok (.iconst 2, 1) := by decide +kernel
theorem dX4_lineLength_7 : decode cX4_lineLength 7 = .ok (.iload_n 1, 1) := by decide +kernel
theorem dX4_lineLength_8 : decode cX4_lineLength 8 = .ok (.imul, 1) := by decide +kernel
theorem dX4_lineLength_9 : decode cX4_lineLength 9 = .ok (.iadd, 1) := by decide +kernel
theorem dX4_lineLength_10 : decode cX4_lineLength 10 = .ok (.iaload, 1) := by decide +kernel
theorem dX4_lineLength_11 : decode cX4_lineLength 11 = .ok (.ireturn, 1) := by decide +kernel
theorem dX4_phraseLength_0 : decode cX4_phraseLength 0 = .ok (.aload_n 0, 1) := by decide +kernel
theorem dX4_phraseLength_1 : decode cX4_phraseLength 1 = .ok (.getfield 7, 3) := by decide +kernel
theorem dX4_phraseLength_4 : decode cX4_phraseLength 4 = .ok (.bipush 40, 2) := by decide +kernel
theorem dX4_phraseLength_6 : decode cX4_phraseLength 6 = .ok (.iconst 3, 1) := by decide +kernel
theorem dX4_phraseLength_7 : decode cX4_phraseLength 7 = .ok (.iload_n 1, 1) := by decide +kernel
theorem dX4_phraseLength_8 : decode cX4_phraseLength 8 = .ok (.imul, 1) := by decide +kernel
theorem dX4_phraseLength_9 : decode cX4_phraseLength 9 = .ok (.iadd, 1) := by decide +kernel
theorem dX4_phraseLength_10 : decode cX4_phraseLength 10 = .ok (.iaload, 1) := by decide +kernel
theorem dX4_phraseLength_11 : decode cX4_phraseLength 11 = .ok (.ireturn, 1) := by decide +kernel
theorem dX4_isSyllable_0 : decode cX4_isSyllable 0 = .ok (.aload_n 0, 1) := by decide +kernel
theorem dX4_isSyllable_1 : decode cX4_isSyllable 1 = .ok (.iload_n 1, 1) := by decide +kernel
theorem dX4_isSyllable_2 : decode cX4_isSyllable 2 = .ok (.invokevirtual 52, 3) := by decide +kernel
theorem dX4_isSyllable_5 : decode cX4_isSyllable 5 = .ok (.ifCond .eq 22, 3) := by decide +kernel
theorem dX4_isSyllable_8 : decode cX4_isSyllable 8 = .ok (.iload_n 2, 1) := by decide +kernel
theorem dX4_isSyllable_9 : decode cX4_isSyllable 9 = .ok (.iconst 0, 1) := by decide +kernel
theorem dX4_isSyllable_10 : decode cX4_isSyllable 10 = .ok (.aload_n 0, 1) := by decide +kernel
theorem dX4_isSyllable_11 : decode cX4_isSyllable 11 = .ok (.iload_n 1, 1) := by decide +kernel
theorem dX4_isSyllable_12 : decode cX4_isSyllable 12 = .ok (.invokevirtual 56, 3) := by decide +kernel
theorem dX4_isSyllable_15 : decode cX4_isSyllable 15 = .ok (.iconst 1, 1) := by decide +kernel
theorem dX4_isSyllable_16 : decode cX4_isSyllable 16 = .ok (.isub, 1) := by decide +kernel
theorem dX4_isSyllable_17 : decode cX4_isSyllable 17 = .ok (.invokestatic 48, 3) := by decide +kernel
theorem dX4_isSyllable_20 : decode cX4_isSyllable 20 = .ok (.ifCond .eq 7, 3) := by decide +kernel
theorem dX4_isSyllable_23 : decode cX4_isSyllable 23 = .ok (.iconst 1, 1) := by decide +kernel
theorem dX4_isSyllable_24 : decode cX4_isSyllable 24 = .ok (.goto 4, 3) := by decide +kernel
theorem dX4_isSyllable_27 : decode cX4_isSyllable 27 = .ok (.iconst 0, 1) := by decide +kernel
theorem dX4_isSyllable_28 : decode cX4_isSyllable 28 = .ok (.ireturn, 1) := by decide +kernel
theorem dX4_isBeat_0 : decode cX4_isBeat 0 = .ok (.aload_n 0, 1) := by decide +kernel
theorem dX4_isBeat_1 : decode cX4_isBeat 1 = .ok (.iload_n 1, 1) := by decide +kernel
theorem dX4_isBeat_2 : decode cX4_isBeat 2 = .ok (.invokevirtual 60, 3) := by decide +kernel
theorem dX4_isBeat_5 : decode cX4_isBeat 5 = .ok (.ifCond .eq 22, 3) := by decide +kernel
theorem dX4_isBeat_8 : decode cX4_isBeat 8 = .ok (.iload_n 2, 1) := by decide +kernel
theorem dX4_isBeat_9 : decode cX4_isBeat 9 = .ok (.iconst 0, 1) := by decide +kernel
theorem dX4_isBeat_10 : decode cX4_isBeat 10 = .ok (.aload_n 0, 1) := by decide +kernel
theorem dX4_isBeat_11 : decode cX4_isBeat 11 = .ok (.iload_n 1, 1) := by decide +kernel
theorem dX4_isBeat_12 : decode cX4_isBeat 12 = .ok (.invokevirtual 63, 3) := by decide +kernel
theorem dX4_isBeat_15 : decode cX4_isBeat 15 = .ok (.iconst 1, 1) := by decide +kernel
theorem dX4_isBeat_16 : decode cX4_isBeat 16 = .ok (.isub, 1) := by decide +kernel
theorem dX4_isBeat_17 : decode cX4_isBeat 17 = .ok (.invokestatic 48, 3) := by decide +kernel
theorem dX4_isBeat_20 : decode cX4_isBeat 20 = .ok (.ifCond .eq 7, 3) := by decide +kernel
theorem dX4_isBeat_23 : decode cX4_isBeat 23 = .ok (.iconst 1, 1) := by decide +kernel
theorem dX4_isBeat_24 : decode cX4_isBeat 24 = .ok (.goto 4, 3) := by decide +kernel
theorem dX4_isBeat_27 : decode cX4_isBeat 27 = .ok (.iconst 0, 1) := by decide +kernel
theorem dX4_isBeat_28 : decode cX4_isBeat 28 = .ok (.ireturn, 1) := by decide +kernel
theorem dX4_sungTimes_0 : decode cX4_sungTimes 0 = .ok (.iconst 0, 1) := by decide +kernel
theorem dX4_sungTimes_1 : decode cX4_sungTimes 1 = .ok (.istore_n 2, 1) := by decide +kernel
theorem dX4_sungTimes_2 : decode cX4_sungTimes 2 = .ok (.iconst 0, 1) := by decide +kernel
theorem dX4_sungTimes_3 : decode cX4_sungTimes 3 = .ok (.istore_n 3, 1) := by decide +kernel
theorem dX4_sungTimes_4 : decode cX4_sungTimes 4 = .ok (.iload_n 3, 1) := by decide +kernel
theorem dX4_sungTimes_5 : decode cX4_sungTimes 5 = .ok (.aload_n 0, 1) := by decide +kernel
theorem dX4_sungTimes_6 : decode cX4_sungTimes 6 = .ok (.getfield 7, 3) := by decide +kernel
theorem dX4_sungTimes_9 : decode cX4_sungTimes 9 = .ok (.bipush 6, 2) := by decide +kernel
theorem dX4_sungTimes_11 : decode cX4_sungTimes 11 = .ok (.iaload, 1) := by decide +kernel
theorem dX4_sungTimes_12 : decode cX4_sungTimes 12 = .ok (.if_icmp .ge 30, 3) := by decide +kernel
theorem dX4_sungTimes_15 : decode cX4_sungTimes 15 = .ok (.iload_n 2, 1) := by decide +kernel
theorem dX4_sungTimes_16 : decode cX4_sungTimes 16 = .ok (.aload_n 0, 1) := by decide +kernel
theorem dX4_sungTimes_17 : decode cX4_sungTimes 17 = .ok (.getfield 7, 3) := by decide +kernel
theorem dX4_sungTimes_20 : decode cX4_sungTimes 20 = .ok (.bipush 64, 2) := by decide +kernel
theorem dX4_sungTimes_22 : decode cX4_sungTimes 22 = .ok (.iload_n 3, 1) := by decide +kernel
theorem dX4_sungTimes_23 : decode cX4_sungTimes 23 = .ok (.iadd, 1) := by decide +kernel
theorem dX4_sungTimes_24 : decode cX4_sungTimes 24 = .ok (.iaload, 1) := by decide +kernel
theorem dX4_sungTimes_25 : decode cX4_sungTimes 25 = .ok (.iload_n 1, 1) := by decide +kernel
theorem dX4_sungTimes_26 : decode cX4_sungTimes 26 = .ok (.if_icmp .ne 7, 3) := by decide +kernel
theorem dX4_sungTimes_29 : decode cX4_sungTimes 29 = .ok (.iconst 1, 1) := by decide +kernel
theorem dX4_sungTimes_30 : decode cX4_sungTimes 30 = .ok (.goto 4, 3) := by decide +kernel
theorem dX4_sungTimes_33 : decode cX4_sungTimes 33 = .ok (.iconst 0, 1) := by decide +kernel
theorem dX4_sungTimes_34 : decode cX4_sungTimes 34 = .ok (.iadd, 1) := by decide +kernel
theorem dX4_sungTimes_35 : decode cX4_sungTimes 35 = .ok (.istore_n 2, 1) := by decide +kernel
theorem dX4_sungTimes_36 : decode cX4_sungTimes 36 = .ok (.iinc 3 1, 3) := by decide +kernel
theorem dX4_sungTimes_39 : decode cX4_sungTimes 39 = .ok (.goto (-35), 3) := by decide +kernel
theorem dX4_sungTimes_42 : decode cX4_sungTimes 42 = .ok (.iload_n 2, 1) := by decide +kernel
theorem dX4_sungTimes_43 : decode cX4_sungTimes 43 = .ok (.ireturn, 1) := by decide +kernel
theorem dX4_playedTimes_0 : decode cX4_playedTimes 0 = .ok (.iconst 0, 1) := by decide +kernel
theorem dX4_playedTimes_1 : decode cX4_playedTimes 1 = .ok (.istore_n 2, 1) := by decide +kernel
theorem dX4_playedTimes_2 : decode cX4_playedTimes 2 = .ok (.iconst 0, 1) := by decide +kernel
theorem dX4_playedTimes_3 : decode cX4_playedTimes 3 = .ok (.istore_n 3, 1) := by decide +kernel
theorem dX4_playedTimes_4 : decode cX4_playedTimes 4 = .ok (.iload_n 3, 1) := by decide +kernel
theorem dX4_playedTimes_5 : decode cX4_playedTimes 5 = .ok (.aload_n 0, 1) := by decide +kernel
theorem dX4_playedTimes_6 : decode cX4_playedTimes 6 = .ok (.getfield 7, 3) := by decide +kernel
theorem dX4_playedTimes_9 : decode cX4_playedTimes 9 = .ok (.bipush 7, 2) := by decide +kernel
theorem dX4_playedTimes_11 : decode cX4_playedTimes 11 = .ok (.iaload, 1) := by decide +kernel
theorem dX4_playedTimes_12 : decode cX4_playedTimes 12 = .ok (.if_icmp .ge 30, 3) := by decide +kernel
theorem dX4_playedTimes_15 : decode cX4_playedTimes 15 = .ok (.iload_n 2, 1) := by decide +kernel
theorem dX4_playedTimes_16 : decode cX4_playedTimes 16 = .ok (.aload_n 0, 1) := by decide +kernel
theorem dX4_playedTimes_17 : decode cX4_playedTimes 17 = .ok (.getfield 7, 3) := by decide +kernel
theorem dX4_playedTimes_20 : decode cX4_playedTimes 20 = .ok (.bipush 104, 2) := by decide +kernel
theorem dX4_playedTimes_22 : decode cX4_playedTimes 22 = .ok (.iload_n 3, 1) := by decide +kernel
theorem dX4_playedTimes_23 : decode cX4_playedTimes 23 = .ok (.iadd, 1) := by decide +kernel
theorem dX4_playedTimes_24 : decode cX4_playedTimes 24 = .ok (.iaload, 1) := by decide +kernel
theorem dX4_playedTimes_25 : decode cX4_playedTimes 25 = .ok (.iload_n 1, 1) := by decide +kernel
theorem dX4_playedTimes_26 : decode cX4_playedTimes 26 = .ok (.if_icmp .ne 7, 3) := by decide +kernel
theorem dX4_playedTimes_29 : decode cX4_playedTimes 29 = .ok (.iconst 1, 1) := by decide +kernel
theorem dX4_playedTimes_30 : decode cX4_playedTimes 30 = .ok (.goto 4, 3) := by decide +kernel
theorem dX4_playedTimes_33 : decode cX4_playedTimes 33 = .ok (.iconst 0, 1) := by decide +kernel
theorem dX4_playedTimes_34 : decode cX4_playedTimes 34 = .ok (.iadd, 1) := by decide +kernel
theorem dX4_playedTimes_35 : decode cX4_playedTimes 35 = .ok (.istore_n 2, 1) := by decide +kernel
theorem dX4_playedTimes_36 : decode cX4_playedTimes 36 = .ok (.iinc 3 1, 3) := by decide +kernel
theorem dX4_playedTimes_39 : decode cX4_playedTimes 39 = .ok (.goto (-35), 3) := by decide +kernel
theorem dX4_playedTimes_42 : decode cX4_playedTimes 42 = .ok (.iload_n 2, 1) := by decide +kernel
theorem dX4_playedTimes_43 : decode cX4_playedTimes 43 = .ok (.ireturn, 1) := by decide +kernel
theorem dX4_look_0 : decode cX4_look 0 = .ok (.aload_n 0, 1) := by decide +kernel
theorem dX4_look_1 : decode cX4_look 1 = .ok (.aload_n 0, 1) := by decide +kernel
theorem dX4_look_2 : decode cX4_look 2 = .ok (.iload_n 1, 1) := by decide +kernel
theorem dX4_look_3 : decode cX4_look 3 = .ok (.invokevirtual 56, 3) := by decide +kernel
theorem dX4_look_6 : decode cX4_look 6 = .ok (.putfield 66, 3) := by decide +kernel
theorem dX4_look_9 : decode cX4_look 9 = .ok (.aload_n 0, 1) := by decide +kernel
theorem dX4_look_10 : decode cX4_look 10 = .ok (.aload_n 0, 1) := by decide +kernel
theorem dX4_look_11 : decode cX4_look 11 = .ok (.getfield 7, 3) := by decide +kernel
theorem dX4_look_14 : decode cX4_look 14 = .ok (.bipush 8, 2) := by decide +kernel
theorem dX4_look_16 : decode cX4_look 16 = .ok (.iconst 2, 1) := by decide +kernel
theorem dX4_look_17 : decode cX4_look 17 = .ok (.iload_n 1, 1) := by decide +kernel
theorem dX4_look_18 : decode cX4_look 18 = .ok (.imul, 1) := by decide +kernel
theorem dX4_look_19 : decode cX4_look 19 = .ok (.iadd, 1) := by decide +kernel
theorem dX4_look_20 : decode cX4_look 20 = .ok (.iconst 1, 1) := by decide +kernel
theorem dX4_look_21 : decode cX4_look 21 = .ok (.iadd, 1) := by decide +kernel
theorem dX4_look_22 : decode cX4_look 22 = .ok (.iaload, 1) := by decide +kernel
theorem dX4_look_23 : decode cX4_look 23 = .ok (.putfield 69, 3) := by decide +kernel
theorem dX4_look_26 : decode cX4_look 26 = .ok (.aload_n 0, 1) := by decide +kernel
theorem dX4_look_27 : decode cX4_look 27 = .ok (.aload_n 0, 1) := by decide +kernel
theorem dX4_look_28 : decode cX4_look 28 = .ok (.iload_n 2, 1) := by decide +kernel
theorem dX4_look_29 : decode cX4_look 29 = .ok (.invokevirtual 63, 3) := by decide +kernel
theorem dX4_look_32 : decode cX4_look 32 = .ok (.putfield 72, 3) := by decide +kernel
theorem dX4_look_35 : decode cX4_look 35 = .ok (.aload_n 0, 1) := by decide +kernel
theorem dX4_look_36 : decode cX4_look 36 = .ok (.aload_n 0, 1) := by decide +kernel
theorem dX4_look_37 : decode cX4_look 37 = .ok (.getfield 7, 3) := by decide +kernel
theorem dX4_look_40 : decode cX4_look 40 = .ok (.bipush 40, 2) := by decide +kernel
theorem dX4_look_42 : decode cX4_look 42 = .ok (.iconst 3, 1) := by decide +kernel
theorem dX4_look_43 : decode cX4_look 43 = .ok (.iload_n 2, 1) := by decide +kernel
theorem dX4_look_44 : decode cX4_look 44 = .ok (.imul, 1) := by decide +kernel
theorem dX4_look_45 : decode cX4_look 45 = .ok (.iadd, 1) := by decide +kernel
theorem dX4_look_46 : decode cX4_look 46 = .ok (.iconst 1, 1) := by decide +kernel
theorem dX4_look_47 : decode cX4_look 47 = .ok (.iadd, 1) := by decide +kernel
theorem dX4_look_48 : decode cX4_look 48 = .ok (.iaload, 1) := by decide +kernel
theorem dX4_look_49 : decode cX4_look 49 = .ok (.putfield 75, 3) := by decide +kernel
theorem dX4_look_52 : decode cX4_look 52 = .ok (.aload_n 0, 1) := by decide +kernel
theorem dX4_look_53 : decode cX4_look 53 = .ok (.aload_n 0, 1) := by decide +kernel
theorem dX4_look_54 : decode cX4_look 54 = .ok (.getfield 75, 3) := by decide +kernel
theorem dX4_look_57 : decode cX4_look 57 = .ok (.aload_n 0, 1) := by decide +kernel
theorem dX4_look_58 : decode cX4_look 58 = .ok (.getfield 7, 3) := by decide +kernel
theorem dX4_look_61 : decode cX4_look 61 = .ok (.bipush 40, 2) := by decide +kernel
theorem dX4_look_63 : decode cX4_look 63 = .ok (.iconst 3, 1) := by decide +kernel
theorem dX4_look_64 : decode cX4_look 64 = .ok (.iload_n 2, 1) := by decide +kernel
theorem dX4_look_65 : decode cX4_look 65 = .ok (.imul, 1) := by decide +kernel
theorem dX4_look_66 : decode cX4_look 66 = .ok (.iadd, 1) := by decide +kernel
theorem dX4_look_67 : decode cX4_look 67 = .ok (.iconst 2, 1) := by decide +kernel
theorem dX4_look_68 : decode cX4_look 68 = .ok (.iadd, 1) := by decide +kernel
theorem dX4_look_69 : decode cX4_look 69 = .ok (.iaload, 1) := by decide +kernel
theorem dX4_look_70 : decode cX4_look 70 = .ok (.ior, 1) := by decide +kernel
theorem dX4_look_71 : decode cX4_look 71 = .ok (.putfield 78, 3) := by decide +kernel
theorem dX4_look_74 : decode cX4_look 74 = .ok (.aload_n 0, 1) := by decide +kernel
theorem dX4_look_75 : decode cX4_look 75 = .ok (.aload_n 0, 1) := by decide +kernel
theorem dX4_look_76 : decode cX4_look 76 = .ok (.getfield 7, 3) := by decide +kernel
theorem dX4_look_79 : decode cX4_look 79 = .ok (.iconst 0, 1) := by decide +kernel
theorem dX4_look_80 : decode cX4_look 80 = .ok (.iaload, 1) := by decide +kernel
theorem dX4_look_81 : decode cX4_look 81 = .ok (.putfield 81, 3) := by decide +kernel
theorem dX4_look_84 : decode cX4_look 84 = .ok (.return_, 1) := by decide +kernel
theorem dX4_hurts_0 : decode cX4_hurts 0 = .ok (.aload_n 0, 1) := by decide +kernel
theorem dX4_hurts_1 : decode cX4_hurts 1 = .ok (.getfield 69, 3) := by decide +kernel
theorem dX4_hurts_4 : decode cX4_hurts 4 = .ok (.iload_n 1, 1) := by decide +kernel
theorem dX4_hurts_5 : decode cX4_hurts 5 = .ok (.invokestatic 84, 3) := by decide +kernel
theorem dX4_hurts_8 : decode cX4_hurts 8 = .ok (.aload_n 0, 1) := by decide +kernel
theorem dX4_hurts_9 : decode cX4_hurts 9 = .ok (.getfield 75, 3) := by decide +kernel
theorem dX4_hurts_12 : decode cX4_hurts 12 = .ok (.iload_n 2, 1) := by decide +kernel
theorem dX4_hurts_13 : decode cX4_hurts 13 = .ok (.invokestatic 84, 3) := by decide +kernel
theorem dX4_hurts_16 : decode cX4_hurts 16 = .ok (.if_icmp .eq 7, 3) := by decide +kernel
theorem dX4_hurts_19 : decode cX4_hurts 19 = .ok (.iconst 1, 1) := by decide +kernel
theorem dX4_hurts_20 : decode cX4_hurts 20 = .ok (.goto 4, 3) := by decide +kernel
theorem dX4_hurts_23 : decode cX4_hurts 23 = .ok (.iconst 0, 1) := by decide +kernel
theorem dX4_hurts_24 : decode cX4_hurts 24 = .ok (.ireturn, 1) := by decide +kernel
theorem dX4_costOn_0 : decode cX4_costOn 0 = .ok (.aload_n 0, 1) := by decide +kernel
theorem dX4_costOn_1 : decode cX4_costOn 1 = .ok (.getfield 25, 3) := by decide +kernel
theorem dX4_costOn_4 : decode cX4_costOn 4 = .ok (.bipush 25, 2) := by decide +kernel
theorem dX4_costOn_6 : decode cX4_costOn 6 = .ok (.iload_n 1, 1) := by decide +kernel
theorem dX4_costOn_7 : decode cX4_costOn 7 = .ok (.iconst 1, 1) := by decide +kernel
theorem dX4_costOn_8 : decode cX4_costOn 8 = .ok (.iadd, 1) := by decide +kernel
theorem dX4_costOn_9 : decode cX4_costOn 9 = .ok (.imul, 1) := by decide +kernel
theorem dX4_costOn_10 : decode cX4_costOn 10 = .ok (.iload_n 2, 1) := by decide +kernel
theorem dX4_costOn_11 : decode cX4_costOn 11 = .ok (.iadd, 1) := by decide +kernel
theorem dX4_costOn_12 : decode cX4_costOn 12 = .ok (.iload_n 3, 1) := by decide +kernel
theorem dX4_costOn_13 : decode cX4_costOn 13 = .ok (.iadd, 1) := by decide +kernel
theorem dX4_costOn_14 : decode cX4_costOn 14 = .ok (.iaload, 1) := by decide +kernel
theorem dX4_costOn_15 : decode cX4_costOn 15 = .ok (.istore 4, 2) := by decide +kernel
theorem dX4_costOn_17 : decode cX4_costOn 17 = .ok (.iload 4, 2) := by decide +kernel
theorem dX4_costOn_19 : decode cX4_costOn 19 = .ok (.ldc 88, 2) := by decide +kernel
theorem dX4_costOn_21 : decode cX4_costOn 21 = .ok (.if_icmp .ne 8, 3) := by decide +kernel
theorem dX4_costOn_24 : decode cX4_costOn 24 = .ok (.ldc 88, 2) := by decide +kernel
theorem dX4_costOn_26 : decode cX4_costOn 26 = .ok (.goto 36, 3) := by decide +kernel
theorem dX4_costOn_29 : decode cX4_costOn 29 = .ok (.iload 4, 2) := by decide +kernel
theorem dX4_costOn_31 : decode cX4_costOn 31 = .ok (.aload_n 0, 1) := by decide +kernel
theorem dX4_costOn_32 : decode cX4_costOn 32 = .ok (.getfield 7, 3) := by decide +kernel
theorem dX4_costOn_35 : decode cX4_costOn 35 = .ok (.iconst 1, 1) := by decide +kernel
theorem dX4_costOn_36 : decode cX4_costOn 36 = .ok (.iaload, 1) := by decide +kernel
theorem dX4_costOn_37 : decode cX4_costOn 37 = .ok (.iload_n 3, 1) := by decide +kernel
theorem dX4_costOn_38 : decode cX4_costOn 38 = .ok (.iconst 1, 1) := by decide +kernel
theorem dX4_costOn_39 : decode cX4_costOn 39 = .ok (.isub, 1) := by decide +kernel
theorem dX4_costOn_40 : decode cX4_costOn 40 = .ok (.imul, 1) := by decide +kernel
theorem dX4_costOn_41 : decode cX4_costOn 41 = .ok (.iadd, 1) := by decide +kernel
theorem dX4_costOn_42 : decode cX4_costOn 42 = .ok (.aload_n 0, 1) := by decide +kernel
theorem dX4_costOn_43 : decode cX4_costOn 43 = .ok (.iload_n 1, 1) := by decide +kernel
theorem dX4_costOn_44 : decode cX4_costOn 44 = .ok (.iload_n 2, 1) := by decide +kernel
theorem dX4_costOn_45 : decode cX4_costOn 45 = .ok (.invokevirtual 89, 3) := by decide +kernel
theorem dX4_costOn_48 : decode cX4_costOn 48 = .ok (.ifCond .eq 12, 3) := by decide +kernel
theorem dX4_costOn_51 : decode cX4_costOn 51 = .ok (.aload_n 0, 1) := by decide +kernel
theorem dX4_costOn_52 : decode cX4_costOn 52 = .ok (.getfield 7, 3) := by decide +kernel
theorem dX4_costOn_55 : decode cX4_costOn 55 = .ok (.iconst 3, 1) := by decide +kernel
theorem dX4_costOn_56 : decode cX4_costOn 56 = .ok (.iaload, 1) := by decide +kernel
theorem dX4_costOn_57 : decode cX4_costOn 57 = .ok (.goto 4, 3) := by decide +kernel
theorem dX4_costOn_60 : decode cX4_costOn 60 = .ok (.iconst 0, 1) := by decide +kernel
theorem dX4_costOn_61 : decode cX4_costOn 61 = .ok (.iadd, 1) := by decide +kernel
theorem dX4_costOn_62 : decode cX4_costOn 62 = .ok (.ireturn, 1) := by decide +kernel
theorem dX4_costFree_0 : decode cX4_costFree 0 = .ok (.aload_n 0, 1) := by decide +kernel
theorem dX4_costFree_1 : decode cX4_costFree 1 = .ok (.getfield 25, 3) := by decide +kernel
theorem dX4_costFree_4 : decode cX4_costFree 4 = .ok (.bipush 25, 2) := by decide +kernel
theorem dX4_costFree_6 : decode cX4_costFree 6 = .ok (.iload_n 1, 1) := by decide +kernel
theorem dX4_costFree_7 : decode cX4_costFree 7 = .ok (.imul, 1) := by decide +kernel
theorem dX4_costFree_8 : decode cX4_costFree 8 = .ok (.iload_n 2, 1) := by decide +kernel
theorem dX4_costFree_9 : decode cX4_costFree 9 = .ok (.iadd, 1) := by decide +kernel
theorem dX4_costFree_10 : decode cX4_costFree 10 = .ok (.iconst 1, 1) := by decide +kernel
theorem dX4_costFree_11 : decode cX4_costFree 11 = .ok (.iadd, 1) := by decide +kernel
theorem dX4_costFree_12 : decode cX4_costFree 12 = .ok (.iaload, 1) := by decide +kernel
theorem dX4_costFree_13 : decode cX4_costFree 13 = .ok (.istore_n 3, 1) := by decide +kernel
theorem dX4_costFree_14 : decode cX4_costFree 14 = .ok (.iload_n 3, 1) := by decide +kernel
theorem dX4_costFree_15 : decode cX4_costFree 15 = .ok (.ldc 88, 2) := by decide +kernel
theorem dX4_costFree_17 : decode cX4_costFree 17 = .ok (.if_icmp .ne 8, 3) := by decide +kernel
theorem dX4_costFree_20 : decode cX4_costFree 20 = .ok (.ldc 88, 2) := by decide +kernel
theorem dX4_costFree_22 : decode cX4_costFree 22 = .ok (.goto 26, 3) := by decide +kernel
theorem dX4_costFree_25 : decode cX4_costFree 25 = .ok (.iload_n 3, 1) := by decide +kernel
theorem dX4_costFree_26 : decode cX4_costFree 26 = .ok (.aload_n 0, 1) := by decide +kernel
theorem dX4_costFree_27 : decode cX4_costFree 27 = .ok (.getfield 78, 3) := by decide +kernel
theorem dX4_costFree_30 : decode cX4_costFree 30 = .ok (.iload_n 2, 1) := by decide +kernel
theorem dX4_costFree_31 : decode cX4_costFree 31 = .ok (.invokestatic 84, 3) := by decide +kernel
theorem dX4_costFree_34 : decode cX4_costFree 34 = .ok (.ifCond .eq 12, 3) := by decide +kernel
theorem dX4_costFree_37 : decode cX4_costFree 37 = .ok (.aload_n 0, 1) := by decide +kernel
theorem dX4_costFree_38 : decode cX4_costFree 38 = .ok (.getfield 7, 3) := by decide +kernel
theorem dX4_costFree_41 : decode cX4_costFree 41 = .ok (.iconst 2, 1) := by decide +kernel
theorem dX4_costFree_42 : decode cX4_costFree 42 = .ok (.iaload, 1) := by decide +kernel
theorem dX4_costFree_43 : decode cX4_costFree 43 = .ok (.goto 4, 3) := by decide +kernel
theorem dX4_costFree_46 : decode cX4_costFree 46 = .ok (.iconst 0, 1) := by decide +kernel
theorem dX4_costFree_47 : decode cX4_costFree 47 = .ok (.iadd, 1) := by decide +kernel
theorem dX4_costFree_48 : decode cX4_costFree 48 = .ok (.ireturn, 1) := by decide +kernel
theorem dX4_capped_0 : decode cX4_capped 0 = .ok (.iload_n 0, 1) := by decide +kernel
theorem dX4_capped_1 : decode cX4_capped 1 = .ok (.ldc 92, 2) := by decide +kernel
theorem dX4_capped_3 : decode cX4_capped 3 = .ok (.if_icmp .le 8, 3) := by decide +kernel
theorem dX4_capped_6 : decode cX4_capped 6 = .ok (.ldc 92, 2) := by decide +kernel
theorem dX4_capped_8 : decode cX4_capped 8 = .ok (.goto 4, 3) := by decide +kernel
theorem dX4_capped_11 : decode cX4_capped 11 = .ok (.iload_n 0, 1) := by decide +kernel
theorem dX4_capped_12 : decode cX4_capped 12 = .ok (.ireturn, 1) := by decide +kernel
theorem dX4_takesIn_0 : decode cX4_takesIn 0 = .ok (.iload_n 2, 1) := by decide +kernel
theorem dX4_takesIn_1 : decode cX4_takesIn 1 = .ok (.aload_n 0, 1) := by decide +kernel
theorem dX4_takesIn_2 : decode cX4_takesIn 2 = .ok (.getfield 25, 3) := by decide +kernel
theorem dX4_takesIn_5 : decode cX4_takesIn 5 = .ok (.iload_n 1, 1) := by decide +kernel
theorem dX4_takesIn_6 : decode cX4_takesIn 6 = .ok (.iaload, 1) := by decide +kernel
theorem dX4_takesIn_7 : decode cX4_takesIn 7 = .ok (.if_icmp .ge 17, 3) := by decide +kernel
theorem dX4_takesIn_10 : decode cX4_takesIn 10 = .ok (.aload_n 0, 1) := by decide +kernel
theorem dX4_takesIn_11 : decode cX4_takesIn 11 = .ok (.getfield 25, 3) := by decide +kernel
theorem dX4_takesIn_14 : decode cX4_takesIn 14 = .ok (.iload_n 1, 1) := by decide +kernel
theorem dX4_takesIn_15 : decode cX4_takesIn 15 = .ok (.iload_n 2, 1) := by decide +kernel
theorem dX4_takesIn_16 : decode cX4_takesIn 16 = .ok (.iastore, 1) := by decide +kernel
theorem dX4_takesIn_17 : decode cX4_takesIn 17 = .ok (.aload_n 0, 1) := by decide +kernel
theorem dX4_takesIn_18 : decode cX4_takesIn 18 = .ok (.getfield 31, 3) := by decide +kernel
theorem dX4_takesIn_21 : decode cX4_takesIn 21 = .ok (.iload_n 1, 1) := by decide +kernel
theorem dX4_takesIn_22 : decode cX4_takesIn 22 = .ok (.iconst 0, 1) := by decide +kernel
theorem dX4_takesIn_23 : decode cX4_takesIn 23 = .ok (.iastore, 1) := by decide +kernel
theorem dX4_takesIn_24 : decode cX4_takesIn 24 = .ok (.iload_n 2, 1) := by decide +kernel
theorem dX4_takesIn_25 : decode cX4_takesIn 25 = .ok (.aload_n 0, 1) := by decide +kernel
theorem dX4_takesIn_26 : decode cX4_takesIn 26 = .ok (.getfield 25, 3) := by decide +kernel
theorem dX4_takesIn_29 : decode cX4_takesIn 29 = .ok (.iload_n 1, 1) := by decide +kernel
theorem dX4_takesIn_30 : decode cX4_takesIn 30 = .ok (.iaload, 1) := by decide +kernel
theorem dX4_takesIn_31 : decode cX4_takesIn 31 = .ok (.if_icmp .ne 31, 3) := by decide +kernel
theorem dX4_takesIn_34 : decode cX4_takesIn 34 = .ok (.iload_n 2, 1) := by decide +kernel
theorem dX4_takesIn_35 : decode cX4_takesIn 35 = .ok (.ldc 88, 2) := by decide +kernel
theorem dX4_takesIn_37 : decode cX4_takesIn 37 = .ok (.if_icmp .eq 25, 3) := by decide +kernel
theorem dX4_takesIn_40 : decode cX4_takesIn 40 = .ok (.aload_n 0, 1) := by decide +kernel
theorem dX4_takesIn_41 : decode cX4_takesIn 41 = .ok (.getfield 31, 3) := by decide +kernel
theorem dX4_takesIn_44 : decode cX4_takesIn 44 = .ok (.iload_n 1, 1) := by decide +kernel
theorem dX4_takesIn_45 : decode cX4_takesIn 45 = .ok (.aload_n 0, 1) := by decide +kernel
theorem dX4_takesIn_46 : decode cX4_takesIn 46 = .ok (.getfield 31, 3) := by decide +kernel
theorem dX4_takesIn_49 : decode cX4_takesIn 49 = .ok (.iload_n 1, 1) := by decide +kernel
theorem dX4_takesIn_50 : decode cX4_takesIn 50 = .ok (.iaload, 1) := by decide +kernel
theorem dX4_takesIn_51 : decode cX4_takesIn 51 = .ok (.aload_n 0, 1) := by decide +kernel
theorem dX4_takesIn_52 : decode cX4_takesIn 52 = .ok (.getfield 31, 3) := by decide +kernel
theorem dX4_takesIn_55 : decode cX4_takesIn 55 = .ok (.iload_n 3, 1) := by decide +kernel
theorem dX4_takesIn_56 : decode cX4_takesIn 56 = .ok (.iaload, 1) := by decide +kernel
theorem dX4_takesIn_57 : decode cX4_takesIn 57 = .ok (.iadd, 1) := by decide +kernel
theorem dX4_takesIn_58 : decode cX4_takesIn 58 = .ok (.invokestatic 93, 3) := by decide +kernel
theorem dX4_takesIn_61 : decode cX4_takesIn 61 = .ok (.iastore, 1) := by decide +kernel
theorem dX4_takesIn_62 : decode cX4_takesIn 62 = .ok (.aload_n 0, 1) := by decide +kernel
theorem dX4_takesIn_63 : decode cX4_takesIn 63 = .ok (.getfield 28, 3) := by decide +kernel
theorem dX4_takesIn_66 : decode cX4_takesIn 66 = .ok (.iload_n 1, 1) := by decide +kernel
theorem dX4_takesIn_67 : decode cX4_takesIn 67 = .ok (.aload_n 0, 1) := by decide +kernel
theorem dX4_takesIn_68 : decode cX4_takesIn 68 = .ok (.getfield 28, 3) := by decide +kernel
theorem dX4_takesIn_71 : decode cX4_takesIn 71 = .ok (.iload_n 1, 1) := by decide +kernel
theorem dX4_takesIn_72 : decode cX4_takesIn 72 = .ok (.iaload, 1) := by decide +kernel
theorem dX4_takesIn_73 : decode cX4_takesIn 73 = .ok (.aload_n 0, 1) := by decide +kernel
theorem dX4_takesIn_74 : decode cX4_takesIn 74 = .ok (.getfield 28, 3) := by decide +kernel
theorem dX4_takesIn_77 : decode cX4_takesIn 77 = .ok (.iload_n 3, 1) := by decide +kernel
theorem dX4_takesIn_78 : decode cX4_takesIn 78 = .ok (.iaload, 1) := by decide +kernel
theorem dX4_takesIn_79 : decode cX4_takesIn 79 = .ok (.iadd, 1) := by decide +kernel
theorem dX4_takesIn_80 : decode cX4_takesIn 80 = .ok (.invokestatic 93, 3) := by decide +kernel
theorem dX4_takesIn_83 : decode cX4_takesIn 83 = .ok (.iastore, 1) := by decide +kernel
theorem dX4_takesIn_84 : decode cX4_takesIn 84 = .ok (.return_, 1) := by decide +kernel
theorem dX4_findAt_0 : decode cX4_findAt 0 = .ok (.bipush 25, 2) := by decide +kernel
theorem dX4_findAt_2 : decode cX4_findAt 2 = .ok (.iload_n 1, 1) := by decide +kernel
theorem dX4_findAt_3 : decode cX4_findAt 3 = .ok (.imul, 1) := by decide +kernel
theorem dX4_findAt_4 : decode cX4_findAt 4 = .ok (.iload_n 2, 1) := by decide +kernel
theorem dX4_findAt_5 : decode cX4_findAt 5 = .ok (.iadd, 1) := by decide +kernel
theorem dX4_findAt_6 : decode cX4_findAt 6 = .ok (.istore_n 3, 1) := by decide +kernel
theorem dX4_findAt_7 : decode cX4_findAt 7 = .ok (.aload_n 0, 1) := by decide +kernel
theorem dX4_findAt_8 : decode cX4_findAt 8 = .ok (.getfield 25, 3) := by decide +kernel
theorem dX4_findAt_11 : decode cX4_findAt 11 = .ok (.iload_n 3, 1) := by decide +kernel
theorem dX4_findAt_12 : decode cX4_findAt 12 = .ok (.ldc 88, 2) := by decide +kernel
theorem dX4_findAt_14 : decode cX4_findAt 14 = .ok (.iastore, 1) := by decide +kernel
theorem dX4_findAt_15 : decode cX4_findAt 15 = .ok (.aload_n 0, 1) := by decide +kernel
theorem dX4_findAt_16 : decode cX4_findAt 16 = .ok (.getfield 28, 3) := by decide +kernel
theorem dX4_findAt_19 : decode cX4_findAt 19 = .ok (.iload_n 3, 1) := by decide +kernel
theorem dX4_findAt_20 : decode cX4_findAt 20 = .ok (.iconst 0, 1) := by decide +kernel
theorem dX4_findAt_21 : decode cX4_findAt 21 = .ok (.iastore, 1) := by decide +kernel
theorem dX4_findAt_22 : decode cX4_findAt 22 = .ok (.aload_n 0, 1) := by decide +kernel
theorem dX4_findAt_23 : decode cX4_findAt 23 = .ok (.getfield 31, 3) := by decide +kernel
theorem dX4_findAt_26 : decode cX4_findAt 26 = .ok (.iload_n 3, 1) := by decide +kernel
theorem dX4_findAt_27 : decode cX4_findAt 27 = .ok (.iconst 0, 1) := by decide +kernel
theorem dX4_findAt_28 : decode cX4_findAt 28 = .ok (.iastore, 1) := by decide +kernel
theorem dX4_findAt_29 : decode cX4_findAt 29 = .ok (.iload_n 2, 1) := by decide +kernel
theorem dX4_findAt_30 : decode cX4_findAt 30 = .ok (.aload_n 0, 1) := by decide +kernel
theorem dX4_findAt_31 : decode cX4_findAt 31 = .ok (.getfield 72, 3) := by decide +kernel
theorem dX4_findAt_34 : decode cX4_findAt 34 = .ok (.if_icmp .ge 17, 3) := by decide +kernel
theorem dX4_findAt_37 : decode cX4_findAt 37 = .ok (.aload_n 0, 1) := by decide +kernel
theorem dX4_findAt_38 : decode cX4_findAt 38 = .ok (.iload_n 3, 1) := by decide +kernel
theorem dX4_findAt_39 : decode cX4_findAt 39 = .ok (.aload_n 0, 1) := by decide +kernel
theorem dX4_findAt_40 : decode cX4_findAt 40 = .ok (.iload_n 1, 1) := by decide +kernel
theorem dX4_findAt_41 : decode cX4_findAt 41 = .ok (.iload_n 2, 1) := by decide +kernel
theorem dX4_findAt_42 : decode cX4_findAt 42 = .ok (.invokevirtual 96, 3) := by decide +kernel
theorem dX4_findAt_45 : decode cX4_findAt 45 = .ok (.iload_n 3, 1) := by decide +kernel
theorem dX4_findAt_46 : decode cX4_findAt 46 = .ok (.iconst 1, 1) := by decide +kernel
theorem dX4_findAt_47 : decode cX4_findAt 47 = .ok (.iadd, 1) := by decide +kernel
theorem dX4_findAt_48 : decode cX4_findAt 48 = .ok (.invokevirtual 100, 3) := by decide +kernel
theorem dX4_findAt_51 : decode cX4_findAt 51 = .ok (.iconst 1, 1) := by decide +kernel
theorem dX4_findAt_52 : decode cX4_findAt 52 = .ok (.istore 4, 2) := by decide +kernel
theorem dX4_findAt_54 : decode cX4_findAt 54 = .ok (.iload_n 1, 1) := by decide +kernel
theorem dX4_findAt_55 : decode cX4_findAt 55 = .ok (.aload_n 0, 1) := by decide +kernel
theorem dX4_findAt_56 : decode cX4_findAt 56 = .ok (.getfield 66, 3) := by decide +kernel
theorem dX4_findAt_59 : decode cX4_findAt 59 = .ok (.if_icmp .ge 69, 3) := by decide +kernel
theorem dX4_findAt_62 : decode cX4_findAt 62 = .ok (.iload 4, 2) := by decide +kernel
theorem dX4_findAt_64 : decode cX4_findAt 64 = .ok (.aload_n 0, 1) := by decide +kernel
theorem dX4_findAt_65 : decode cX4_findAt 65 = .ok (.getfield 81, 3) := by decide +kernel
theorem dX4_findAt_68 : decode cX4_findAt 68 = .ok (.if_icmp .gt 60, 3) := by decide +kernel
theorem dX4_findAt_71 : decode cX4_findAt 71 = .ok (.iload_n 2, 1) := by decide +kernel
theorem dX4_findAt_72 : decode cX4_findAt 72 = .ok (.iload 4, 2) := by decide +kernel
theorem dX4_findAt_74 : decode cX4_findAt 74 = .ok (.iadd, 1) := by decide +kernel
theorem dX4_findAt_75 : decode cX4_findAt 75 = .ok (.aload_n 0, 1) := by decide +kernel
theorem dX4_findAt_76 : decode cX4_findAt 76 = .ok (.getfield 72, 3) := by decide +kernel
theorem dX4_findAt_79 : decode cX4_findAt 79 = .ok (.if_icmp .gt 49, 3) := by decide +kernel
theorem dX4_findAt_82 : decode cX4_findAt 82 = .ok (.aload_n 0, 1) := by decide +kernel
theorem dX4_findAt_83 : decode cX4_findAt 83 = .ok (.getfield 78, 3) := by decide +kernel
theorem dX4_findAt_86 : decode cX4_findAt 86 = .ok (.iload_n 2, 1) := by decide +kernel
theorem dX4_findAt_87 : decode cX4_findAt 87 = .ok (.iload 4, 2) := by decide +kernel
theorem dX4_findAt_89 : decode cX4_findAt 89 = .ok (.iadd, 1) := by decide +kernel
theorem dX4_findAt_90 : decode cX4_findAt 90 = .ok (.iconst 1, 1) := by decide +kernel
theorem dX4_findAt_91 : decode cX4_findAt 91 = .ok (.isub, 1) := by decide +kernel
theorem dX4_findAt_92 : decode cX4_findAt 92 = .ok (.invokestatic 84, 3) := by decide +kernel
theorem dX4_findAt_95 : decode cX4_findAt 95 = .ok (.ifCond .eq 33, 3) := by decide +kernel
theorem dX4_findAt_98 : decode cX4_findAt 98 = .ok (.aload_n 0, 1) := by decide +kernel
theorem dX4_findAt_99 : decode cX4_findAt 99 = .ok (.iload_n 3, 1) := by decide +kernel
theorem dX4_findAt_100 : decode cX4_findAt 100 = .ok (.aload_n 0, 1) := by decide +kernel
theorem dX4_findAt_101 : decode cX4_findAt 101 = .ok (.iload_n 1, 1) := by decide +kernel
theorem dX4_findAt_102 : decode cX4_findAt 102 = .ok (.iload_n 2, 1) := by decide +kernel
theorem dX4_findAt_103 : decode cX4_findAt 103 = .ok (.iload 4, 2) := by decide +kernel
theorem dX4_findAt_105 : decode cX4_findAt 105 = .ok (.invokevirtual 104, 3) := by decide +kernel
theorem dX4_findAt_108 : decode cX4_findAt 108 = .ok (.bipush 25, 2) := by decide +kernel
theorem dX4_findAt_110 : decode cX4_findAt 110 = .ok (.iload_n 1, 1) := by decide +kernel
theorem dX4_findAt_111 : decode cX4_findAt 111 = .ok (.iconst 1, 1) := by decide +kernel
theorem dX4_findAt_112 : decode cX4_findAt 112 = .ok (.iadd, 1) := by decide +kernel
theorem dX4_findAt_113 : decode cX4_findAt 113 = .ok (.imul, 1) := by decide +kernel
theorem dX4_findAt_114 : decode cX4_findAt 114 = .ok (.iload_n 2, 1) := by decide +kernel
theorem dX4_findAt_115 : decode cX4_findAt 115 = .ok (.iadd, 1) := by decide +kernel
theorem dX4_findAt_116 : decode cX4_findAt 116 = .ok (.iload 4, 2) := by decide +kernel
theorem dX4_findAt_118 : decode cX4_findAt 118 = .ok (.iadd, 1) := by decide +kernel
theorem dX4_findAt_119 : decode cX4_findAt 119 = .ok (.invokevirtual 100, 3) := by decide +kernel
theorem dX4_findAt_122 : decode cX4_findAt 122 = .ok (.iinc 4 1, 3) := by decide +kernel
theorem dX4_findAt_125 : decode cX4_findAt 125 = .ok (.goto (-71), 3) := by decide +kernel
theorem dX4_findAt_128 : decode cX4_findAt 128 = .ok (.return_, 1) := by decide +kernel
theorem dX4_findCost_0 : decode cX4_findCost 0 = .ok (.aload_n 0, 1) := by decide +kernel
theorem dX4_findCost_1 : decode cX4_findCost 1 = .ok (.getfield 66, 3) := by decide +kernel
theorem dX4_findCost_4 : decode cX4_findCost 4 = .ok (.istore_n 1, 1) := by decide +kernel
theorem dX4_findCost_5 : decode cX4_findCost 5 = .ok (.iload_n 1, 1) := by decide +kernel
theorem dX4_findCost_6 : decode cX4_findCost 6 = .ok (.ifCond .lt 82, 3) := by decide +kernel
theorem dX4_findCost_9 : decode cX4_findCost 9 = .ok (.aload_n 0, 1) := by decide +kernel
theorem dX4_findCost_10 : decode cX4_findCost 10 = .ok (.getfield 72, 3) := by decide +kernel
theorem dX4_findCost_13 : decode cX4_findCost 13 = .ok (.istore_n 2, 1) := by decide +kernel
theorem dX4_findCost_14 : decode cX4_findCost 14 = .ok (.iload_n 2, 1) := by decide +kernel
theorem dX4_findCost_15 : decode cX4_findCost 15 = .ok (.ifCond .lt 67, 3) := by decide +kernel
theorem dX4_findCost_18 : decode cX4_findCost 18 = .ok (.aload_n 0, 1) := by decide +kernel
theorem dX4_findCost_19 : decode cX4_findCost 19 = .ok (.iload_n 1, 1) := by decide +kernel
theorem dX4_findCost_20 : decode cX4_findCost 20 = .ok (.iload_n 2, 1) := by decide +kernel
theorem dX4_findCost_21 : decode cX4_findCost 21 = .ok (.invokevirtual 108, 3) := by decide +kernel
theorem dX4_findCost_24 : decode cX4_findCost 24 = .ok (.iload_n 1, 1) := by decide +kernel
theorem dX4_findCost_25 : decode cX4_findCost 25 = .ok (.aload_n 0, 1) := by decide +kernel
theorem dX4_findCost_26 : decode cX4_findCost 26 = .ok (.getfield 66, 3) := by decide +kernel
theorem dX4_findCost_29 : decode cX4_findCost 29 = .ok (.if_icmp .ne 47, 3) := by decide +kernel
theorem dX4_findCost_32 : decode cX4_findCost 32 = .ok (.iload_n 2, 1) := by decide +kernel
theorem dX4_findCost_33 : decode cX4_findCost 33 = .ok (.aload_n 0, 1) := by decide +kernel
theorem dX4_findCost_34 : decode cX4_findCost 34 = .ok (.getfield 72, 3) := by decide +kernel
theorem dX4_findCost_37 : decode cX4_findCost 37 = .ok (.if_icmp .ne 39, 3) := by decide +kernel
theorem dX4_findCost_40 : decode cX4_findCost 40 = .ok (.aload_n 0, 1) := by decide +kernel
theorem dX4_findCost_41 : decode cX4_findCost 41 = .ok (.getfield 25, 3) := by decide +kernel
theorem dX4_findCost_44 : decode cX4_findCost 44 = .ok (.bipush 25, 2) := by decide +kernel
theorem dX4_findCost_46 : decode cX4_findCost 46 = .ok (.iload_n 1, 1) := by decide +kernel
theorem dX4_findCost_47 : decode cX4_findCost 47 = .ok (.imul, 1) := by decide +kernel
theorem dX4_findCost_48 : decode cX4_findCost 48 = .ok (.iload_n 2, 1) := by decide +kernel
theorem dX4_findCost_49 : decode cX4_findCost 49 = .ok (.iadd, 1) := by decide +kernel
theorem dX4_findCost_50 : decode cX4_findCost 50 = .ok (.iconst 0, 1) := by decide +kernel
theorem dX4_findCost_51 : decode cX4_findCost 51 = .ok (.iastore, 1) := by decide +kernel
theorem dX4_findCost_52 : decode cX4_findCost 52 = .ok (.aload_n 0, 1) := by decide +kernel
theorem dX4_findCost_53 : decode cX4_findCost 53 = .ok (.getfield 28, 3) := by decide +kernel
theorem dX4_findCost_56 : decode cX4_findCost 56 = .ok (.bipush 25, 2) := by decide +kernel
theorem dX4_findCost_58 : decode cX4_findCost 58 = .ok (.iload_n 1, 1) := by decide +kernel
theorem dX4_findCost_59 : decode cX4_findCost 59 = .ok (.imul, 1) := by decide +kernel
theorem dX4_findCost_60 : decode cX4_findCost 60 = .ok (.iload_n 2, 1) := by decide +kernel
theorem dX4_findCost_61 : decode cX4_findCost 61 = .ok (.iadd, 1) := by decide +kernel
theorem dX4_findCost_62 : decode cX4_findCost 62 = .ok (.iconst 1, 1) := by decide +kernel
theorem dX4_findCost_63 : decode cX4_findCost 63 = .ok (.iastore, 1) := by decide +kernel
theorem dX4_findCost_64 : decode cX4_findCost 64 = .ok (.aload_n 0, 1) := by decide +kernel
theorem dX4_findCost_65 : decode cX4_findCost 65 = .ok (.getfield 31, 3) := by decide +kernel
theorem dX4_findCost_68 : decode cX4_findCost 68 = .ok (.bipush 25, 2) := by decide +kernel
theorem dX4_findCost_70 : decode cX4_findCost 70 = .ok (.iload_n 1, 1) := by decide +kernel
theorem dX4_findCost_71 : decode cX4_findCost 71 = .ok (.imul, 1) := by decide +kernel
theorem dX4_findCost_72 : decode cX4_findCost 72 = .ok (.iload_n 2, 1) := by decide +kernel
theorem dX4_findCost_73 : decode cX4_findCost 73 = .ok (.iadd, 1) := by decide +kernel
theorem dX4_findCost_74 : decode cX4_findCost 74 = .ok (.iconst 1, 1) := by decide +kernel
theorem dX4_findCost_75 : decode cX4_findCost 75 = .ok (.iastore, 1) := by decide +kernel
theorem dX4_findCost_76 : decode cX4_findCost 76 = .ok (.iinc 2 (-1), 3) := by decide +kernel
theorem dX4_findCost_79 : decode cX4_findCost 79 = .ok (.goto (-65), 3) := by decide +kernel
theorem dX4_findCost_82 : decode cX4_findCost 82 = .ok (.iinc 1 (-1), 3) := by decide +kernel
theorem dX4_findCost_85 : decode cX4_findCost 85 = .ok (.goto (-80), 3) := by decide +kernel
theorem dX4_findCost_88 : decode cX4_findCost 88 = .ok (.aload_n 0, 1) := by decide +kernel
theorem dX4_findCost_89 : decode cX4_findCost 89 = .ok (.getfield 25, 3) := by decide +kernel
theorem dX4_findCost_92 : decode cX4_findCost 92 = .ok (.iconst 0, 1) := by decide +kernel
theorem dX4_findCost_93 : decode cX4_findCost 93 = .ok (.iaload, 1) := by decide +kernel
theorem dX4_findCost_94 : decode cX4_findCost 94 = .ok (.ireturn, 1) := by decide +kernel
theorem dX4_beatsFrom_0 : decode cX4_beatsFrom 0 = .ok (.iconst 1, 1) := by decide +kernel
theorem dX4_beatsFrom_1 : decode cX4_beatsFrom 1 = .ok (.istore_n 3, 1) := by decide +kernel
theorem dX4_beatsFrom_2 : decode cX4_beatsFrom 2 = .ok (.iload_n 3, 1) := by decide +kernel
theorem dX4_beatsFrom_3 : decode cX4_beatsFrom 3 = .ok (.aload_n 0, 1) := by decide +kernel
theorem dX4_beatsFrom_4 : decode cX4_beatsFrom 4 = .ok (.getfield 81, 3) := by decide +kernel
theorem dX4_beatsFrom_7 : decode cX4_beatsFrom 7 = .ok (.if_icmp .gt 57, 3) := by decide +kernel
theorem dX4_beatsFrom_10 : decode cX4_beatsFrom 10 = .ok (.iload_n 2, 1) := by decide +kernel
theorem dX4_beatsFrom_11 : decode cX4_beatsFrom 11 = .ok (.iload_n 3, 1) := by decide +kernel
theorem dX4_beatsFrom_12 : decode cX4_beatsFrom 12 = .ok (.iadd, 1) := by decide +kernel
theorem dX4_beatsFrom_13 : decode cX4_beatsFrom 13 = .ok (.aload_n 0, 1) := by decide +kernel
theorem dX4_beatsFrom_14 : decode cX4_beatsFrom 14 = .ok (.getfield 72, 3) := by decide +kernel
theorem dX4_beatsFrom_17 : decode cX4_beatsFrom 17 = .ok (.if_icmp .gt 47, 3) := by decide +kernel
theorem dX4_beatsFrom_20 : decode cX4_beatsFrom 20 = .ok (.aload_n 0, 1) := by decide +kernel
theorem dX4_beatsFrom_21 : decode cX4_beatsFrom 21 = .ok (.getfield 78, 3) := by decide +kernel
theorem dX4_beatsFrom_24 : decode cX4_beatsFrom 24 = .ok (.iload_n 2, 1) := by decide +kernel
theorem dX4_beatsFrom_25 : decode cX4_beatsFrom 25 = .ok (.iload_n 3, 1) := by decide +kernel
theorem dX4_beatsFrom_26 : decode cX4_beatsFrom 26 = .ok (.iadd, 1) := by decide +kernel
theorem dX4_beatsFrom_27 : decode cX4_beatsFrom 27 = .ok (.iconst 1, 1) := by decide +kernel
theorem dX4_beatsFrom_28 : decode cX4_beatsFrom 28 = .ok (.isub, 1) := by decide +kernel
theorem dX4_beatsFrom_29 : decode cX4_beatsFrom 29 = .ok (.invokestatic 84, 3) := by decide +kernel
theorem dX4_beatsFrom_32 : decode cX4_beatsFrom 32 = .ok (.ifCond .eq 32, 3) := by decide +kernel
theorem dX4_beatsFrom_35 : decode cX4_beatsFrom 35 = .ok (.aload_n 0, 1) := by decide +kernel
theorem dX4_beatsFrom_36 : decode cX4_beatsFrom 36 = .ok (.iload_n 1, 1) := by decide +kernel
theorem dX4_beatsFrom_37 : decode cX4_beatsFrom 37 = .ok (.iload_n 2, 1) := by decide +kernel
theorem dX4_beatsFrom_38 : decode cX4_beatsFrom 38 = .ok (.iload_n 3, 1) := by decide +kernel
theorem dX4_beatsFrom_39 : decode cX4_beatsFrom 39 = .ok (.invokevirtual 104, 3) := by decide +kernel
theorem dX4_beatsFrom_42 : decode cX4_beatsFrom 42 = .ok (.aload_n 0, 1) := by decide +kernel
theorem dX4_beatsFrom_43 : decode cX4_beatsFrom 43 = .ok (.getfield 25, 3) := by decide +kernel
theorem dX4_beatsFrom_46 : decode cX4_beatsFrom 46 = .ok (.bipush 25, 2) := by decide +kernel
theorem dX4_beatsFrom_48 : decode cX4_beatsFrom 48 = .ok (.iload_n 1, 1) := by decide +kernel
theorem dX4_beatsFrom_49 : decode cX4_beatsFrom 49 = .ok (.imul, 1) := by decide +kernel
theorem dX4_beatsFrom_50 : decode cX4_beatsFrom 50 = .ok (.iload_n 2, 1) := by decide +kernel
theorem dX4_beatsFrom_51 : decode cX4_beatsFrom 51 = .ok (.iadd, 1) := by decide +kernel
theorem dX4_beatsFrom_52 : decode cX4_beatsFrom 52 = .ok (.iaload, 1) := by decide +kernel
theorem dX4_beatsFrom_53 : decode cX4_beatsFrom 53 = .ok (.if_icmp .ne 5, 3) := by decide +kernel
theorem dX4_beatsFrom_56 : decode cX4_beatsFrom 56 = .ok (.iload_n 3, 1) := by decide +kernel
theorem dX4_beatsFrom_57 : decode cX4_beatsFrom 57 = .ok (.ireturn, 1) := by decide +kernel
theorem dX4_beatsFrom_58 : decode cX4_beatsFrom 58 = .ok (.iinc 3 1, 3) := by decide +kernel
theorem dX4_beatsFrom_61 : decode cX4_beatsFrom 61 = .ok (.goto (-59), 3) := by decide +kernel
theorem dX4_beatsFrom_64 : decode cX4_beatsFrom 64 = .ok (.iconst 0, 1) := by decide +kernel
theorem dX4_beatsFrom_65 : decode cX4_beatsFrom 65 = .ok (.ireturn, 1) := by decide +kernel
theorem dX4_findWay_0 : decode cX4_findWay 0 = .ok (.iconst 0, 1) := by decide +kernel
theorem dX4_findWay_1 : decode cX4_findWay 1 = .ok (.istore_n 1, 1) := by decide +kernel
theorem dX4_findWay_2 : decode cX4_findWay 2 = .ok (.iconst 0, 1) := by decide +kernel
theorem dX4_findWay_3 : decode cX4_findWay 3 = .ok (.istore_n 2, 1) := by decide +kernel
theorem dX4_findWay_4 : decode cX4_findWay 4 = .ok (.iload_n 2, 1) := by decide +kernel
theorem dX4_findWay_5 : decode cX4_findWay 5 = .ok (.aload_n 0, 1) := by decide +kernel
theorem dX4_findWay_6 : decode cX4_findWay 6 = .ok (.getfield 66, 3) := by decide +kernel
theorem dX4_findWay_9 : decode cX4_findWay 9 = .ok (.if_icmp .ge 52, 3) := by decide +kernel
theorem dX4_findWay_12 : decode cX4_findWay 12 = .ok (.aload_n 0, 1) := by decide +kernel
theorem dX4_findWay_13 : decode cX4_findWay 13 = .ok (.iload_n 2, 1) := by decide +kernel
theorem dX4_findWay_14 : decode cX4_findWay 14 = .ok (.iload_n 1, 1) := by decide +kernel
theorem dX4_findWay_15 : decode cX4_findWay 15 = .ok (.invokevirtual 112, 3) := by decide +kernel
theorem dX4_findWay_18 : decode cX4_findWay 18 = .ok (.ifCond .ne 9, 3) := by decide +kernel
theorem dX4_findWay_21 : decode cX4_findWay 21 = .ok (.iinc 1 1, 3) := by decide +kernel
theorem dX4_findWay_24 : decode cX4_findWay 24 = .ok (.goto (-12), 3) := by decide +kernel
theorem dX4_findWay_27 : decode cX4_findWay 27 = .ok (.aload_n 0, 1) := by decide +kernel
theorem dX4_findWay_28 : decode cX4_findWay 28 = .ok (.getfield 34, 3) := by decide +kernel
theorem dX4_findWay_31 : decode cX4_findWay 31 = .ok (.iload_n 2, 1) := by decide +kernel
theorem dX4_findWay_32 : decode cX4_findWay 32 = .ok (.iload_n 1, 1) := by decide +kernel
theorem dX4_findWay_33 : decode cX4_findWay 33 = .ok (.iastore, 1) := by decide +kernel
theorem dX4_findWay_34 : decode cX4_findWay 34 = .ok (.aload_n 0, 1) := by decide +kernel
theorem dX4_findWay_35 : decode cX4_findWay 35 = .ok (.getfield 37, 3) := by decide +kernel
theorem dX4_findWay_38 : decode cX4_findWay 38 = .ok (.iload_n 2, 1) := by decide +kernel
theorem dX4_findWay_39 : decode cX4_findWay 39 = .ok (.aload_n 0, 1) := by decide +kernel
theorem dX4_findWay_40 : decode cX4_findWay 40 = .ok (.iload_n 2, 1) := by decide +kernel
theorem dX4_findWay_41 : decode cX4_findWay 41 = .ok (.iload_n 1, 1) := by decide +kernel
theorem dX4_findWay_42 : decode cX4_findWay 42 = .ok (.invokevirtual 112, 3) := by decide +kernel
theorem dX4_findWay_45 : decode cX4_findWay 45 = .ok (.iastore, 1) := by decide +kernel
theorem dX4_findWay_46 : decode cX4_findWay 46 = .ok (.iload_n 1, 1) := by decide +kernel
theorem dX4_findWay_47 : decode cX4_findWay 47 = .ok (.aload_n 0, 1) := by decide +kernel
theorem dX4_findWay_48 : decode cX4_findWay 48 = .ok (.getfield 37, 3) := by decide +kernel
theorem dX4_findWay_51 : decode cX4_findWay 51 = .ok (.iload_n 2, 1) := by decide +kernel
theorem dX4_findWay_52 : decode cX4_findWay 52 = .ok (.iaload, 1) := by decide +kernel
theorem dX4_findWay_53 : decode cX4_findWay 53 = .ok (.iadd, 1) := by decide +kernel
theorem dX4_findWay_54 : decode cX4_findWay 54 = .ok (.istore_n 1, 1) := by decide +kernel
theorem dX4_findWay_55 : decode cX4_findWay 55 = .ok (.iinc 2 1, 3) := by decide +kernel
theorem dX4_findWay_58 : decode cX4_findWay 58 = .ok (.goto (-54), 3) := by decide +kernel
theorem dX4_findWay_61 : decode cX4_findWay 61 = .ok (.return_, 1) := by decide +kernel
theorem dX4_costOf_0 : decode cX4_costOf 0 = .ok (.aload_n 0, 1) := by decide +kernel
theorem dX4_costOf_1 : decode cX4_costOf 1 = .ok (.iload_n 1, 1) := by decide +kernel
theorem dX4_costOf_2 : decode cX4_costOf 2 = .ok (.iload_n 2, 1) := by decide +kernel
theorem dX4_costOf_3 : decode cX4_costOf 3 = .ok (.invokevirtual 115, 3) := by decide +kernel
theorem dX4_costOf_6 : decode cX4_costOf 6 = .ok (.aload_n 0, 1) := by decide +kernel
theorem dX4_costOf_7 : decode cX4_costOf 7 = .ok (.invokevirtual 118, 3) := by decide +kernel
theorem dX4_costOf_10 : decode cX4_costOf 10 = .ok (.ireturn, 1) := by decide +kernel
theorem dX4_freeBeats_0 : decode cX4_freeBeats 0 = .ok (.aload_n 0, 1) := by decide +kernel
theorem dX4_freeBeats_1 : decode cX4_freeBeats 1 = .ok (.invokevirtual 122, 3) := by decide +kernel
theorem dX4_freeBeats_4 : decode cX4_freeBeats 4 = .ok (.aload_n 0, 1) := by decide +kernel
theorem dX4_freeBeats_5 : decode cX4_freeBeats 5 = .ok (.getfield 78, 3) := by decide +kernel
theorem dX4_freeBeats_8 : decode cX4_freeBeats 8 = .ok (.invokestatic 125, 3) := by decide +kernel
theorem dX4_freeBeats_11 : decode cX4_freeBeats 11 = .ok (.istore_n 1, 1) := by decide +kernel
theorem dX4_freeBeats_12 : decode cX4_freeBeats 12 = .ok (.iconst 0, 1) := by decide +kernel
theorem dX4_freeBeats_13 : decode cX4_freeBeats 13 = .ok (.istore_n 2, 1) := by decide +kernel
theorem dX4_freeBeats_14 : decode cX4_freeBeats 14 = .ok (.iload_n 2, 1) := by decide +kernel
theorem dX4_freeBeats_15 : decode cX4_freeBeats 15 = .ok (.aload_n 0, 1) := by decide +kernel
theorem dX4_freeBeats_16 : decode cX4_freeBeats 16 = .ok (.getfield 66, 3) := by decide +kernel
theorem dX4_freeBeats_19 : decode cX4_freeBeats 19 = .ok (.if_icmp .ge 18, 3) := by decide +kernel
theorem dX4_freeBeats_22 : decode cX4_freeBeats 22 = .ok (.iload_n 1, 1) := by decide +kernel
theorem dX4_freeBeats_23 : decode cX4_freeBeats 23 = .ok (.aload_n 0, 1) := by decide +kernel
theorem dX4_freeBeats_24 : decode cX4_freeBeats 24 = .ok (.getfield 37, 3) := by decide +kernel
theorem dX4_freeBeats_27 : decode cX4_freeBeats 27 = .ok (.iload_n 2, 1) := by decide +kernel
theorem dX4_freeBeats_28 : decode cX4_freeBeats 28 = .ok (.iaload, 1) := by decide +kernel
theorem dX4_freeBeats_29 : decode cX4_freeBeats 29 = .ok (.isub, 1) := by decide +kernel
theorem dX4_freeBeats_30 : decode cX4_freeBeats 30 = .ok (.istore_n 1, 1) := by decide +kernel
theorem dX4_freeBeats_31 : decode cX4_freeBeats 31 = .ok (.iinc 2 1, 3) := by decide +kernel
theorem dX4_freeBeats_34 : decode cX4_freeBeats 34 = .ok (.goto (-20), 3) := by decide +kernel
theorem dX4_freeBeats_37 : decode cX4_freeBeats 37 = .ok (.iload_n 1, 1) := by decide +kernel
theorem dX4_freeBeats_38 : decode cX4_freeBeats 38 = .ok (.ireturn, 1) := by decide +kernel
theorem dX4_hurting_0 : decode cX4_hurting 0 = .ok (.aload_n 0, 1) := by decide +kernel
theorem dX4_hurting_1 : decode cX4_hurting 1 = .ok (.invokevirtual 122, 3) := by decide +kernel
theorem dX4_hurting_4 : decode cX4_hurting 4 = .ok (.iconst 0, 1) := by decide +kernel
theorem dX4_hurting_5 : decode cX4_hurting 5 = .ok (.istore_n 1, 1) := by decide +kernel
theorem dX4_hurting_6 : decode cX4_hurting 6 = .ok (.iconst 0, 1) := by decide +kernel
theorem dX4_hurting_7 : decode cX4_hurting 7 = .ok (.istore_n 2, 1) := by decide +kernel
theorem dX4_hurting_8 : decode cX4_hurting 8 = .ok (.iload_n 2, 1) := by decide +kernel
theorem dX4_hurting_9 : decode cX4_hurting 9 = .ok (.aload_n 0, 1) := by decide +kernel
theorem dX4_hurting_10 : decode cX4_hurting 10 = .ok (.getfield 66, 3) := by decide +kernel
theorem dX4_hurting_13 : decode cX4_hurting 13 = .ok (.if_icmp .ge 31, 3) := by decide +kernel
theorem dX4_hurting_16 : decode cX4_hurting 16 = .ok (.iload_n 1, 1) := by decide +kernel
theorem dX4_hurting_17 : decode cX4_hurting 17 = .ok (.aload_n 0, 1) := by decide +kernel
theorem dX4_hurting_18 : decode cX4_hurting 18 = .ok (.iload_n 2, 1) := by decide +kernel
theorem dX4_hurting_19 : decode cX4_hurting 19 = .ok (.aload_n 0, 1) := by decide +kernel
theorem dX4_hurting_20 : decode cX4_hurting 20 = .ok (.getfield 34, 3) := by decide +kernel
theorem dX4_hurting_23 : decode cX4_hurting 23 = .ok (.iload_n 2, 1) := by decide +kernel
theorem dX4_hurting_24 : decode cX4_hurting 24 = .ok (.iaload, 1) := by decide +kernel
theorem dX4_hurting_25 : decode cX4_hurting 25 = .ok (.invokevirtual 89, 3) := by decide +kernel
theorem dX4_hurting_28 : decode cX4_hurting 28 = .ok (.ifCond .eq 7, 3) := by decide +kernel
theorem dX4_hurting_31 : decode cX4_hurting 31 = .ok (.iconst 1, 1) := by decide +kernel
theorem dX4_hurting_32 : decode cX4_hurting 32 = .ok (.goto 4, 3) := by decide +kernel
theorem dX4_hurting_35 : decode cX4_hurting 35 = .ok (.iconst 0, 1) := by decide +kernel
theorem dX4_hurting_36 : decode cX4_hurting 36 = .ok (.iadd, 1) := by decide +kernel
theorem dX4_hurting_37 : decode cX4_hurting 37 = .ok (.istore_n 1, 1) := by decide +kernel
theorem dX4_hurting_38 : decode cX4_hurting 38 = .ok (.iinc 2 1, 3) := by decide +kernel
theorem dX4_hurting_41 : decode cX4_hurting 41 = .ok (.goto (-33), 3) := by decide +kernel
theorem dX4_hurting_44 : decode cX4_hurting 44 = .ok (.iload_n 1, 1) := by decide +kernel
theorem dX4_hurting_45 : decode cX4_hurting 45 = .ok (.ireturn, 1) := by decide +kernel
theorem dX4_isValue_0 : decode cX4_isValue 0 = .ok (.iload_n 0, 1) := by decide +kernel
theorem dX4_isValue_1 : decode cX4_isValue 1 = .ok (.tableswitch 55 0 3 #[31, 39, 39, 47], 31) := by decide +kernel
theorem dX4_isValue_32 : decode cX4_isValue 32 = .ok (.iload_n 1, 1) := by decide +kernel
theorem dX4_isValue_33 : decode cX4_isValue 33 = .ok (.iconst 1, 1) := by decide +kernel
theorem dX4_isValue_34 : decode cX4_isValue 34 = .ok (.bipush 8, 2) := by decide +kernel
theorem dX4_isValue_36 : decode cX4_isValue 36 = .ok (.invokestatic 48, 3) := by decide +kernel
theorem dX4_isValue_39 : decode cX4_isValue 39 = .ok (.ireturn, 1) := by decide +kernel
theorem dX4_isValue_40 : decode cX4_isValue 40 = .ok (.iload_n 1, 1) := by decide +kernel
theorem dX4_isValue_41 : decode cX4_isValue 41 = .ok (.iconst 0, 1) := by decide +kernel
theorem dX4_isValue_42 : decode cX4_isValue 42 = .ok (.bipush 9, 2) := by decide +kernel
theorem dX4_isValue_44 : decode cX4_isValue 44 = .ok (.invokestatic 48, 3) := by decide +kernel
theorem dX4_isValue_47 : decode cX4_isValue 47 = .ok (.ireturn, 1) := by decide +kernel
theorem dX4_isValue_48 : decode cX4_isValue 48 = .ok (.iload_n 1, 1) := by decide +kernel
theorem dX4_isValue_49 : decode cX4_isValue 49 = .ok (.iconst 0, 1) := by decide +kernel
theorem dX4_isValue_50 : decode cX4_isValue 50 = .ok (.bipush 20, 2) := by decide +kernel
theorem dX4_isValue_52 : decode cX4_isValue 52 = .ok (.invokestatic 48, 3) := by decide +kernel
theorem dX4_isValue_55 : decode cX4_isValue 55 = .ok (.ireturn, 1) := by decide +kernel
theorem dX4_isValue_56 : decode cX4_isValue 56 = .ok (.iconst 0, 1) := by decide +kernel
theorem dX4_isValue_57 : decode cX4_isValue 57 = .ok (.ireturn, 1) := by decide +kernel
theorem dX4_set_0 : decode cX4_set 0 = .ok (.iload_n 1, 1) := by decide +kernel
theorem dX4_set_1 : decode cX4_set 1 = .ok (.iload_n 2, 1) := by decide +kernel
theorem dX4_set_2 : decode cX4_set 2 = .ok (.invokestatic 128, 3) := by decide +kernel
theorem dX4_set_5 : decode cX4_set 5 = .ok (.ifCond .ne 6, 3) := by decide +kernel
theorem dX4_set_8 : decode cX4_set 8 = .ok (.bipush (-2), 2) := by decide +kernel
theorem dX4_set_10 : decode cX4_set 10 = .ok (.ireturn, 1) := by decide +kernel
theorem dX4_set_11 : decode cX4_set 11 = .ok (.aload_n 0, 1) := by decide +kernel
theorem dX4_set_12 : decode cX4_set 12 = .ok (.invokevirtual 131, 3) := by decide +kernel
theorem dX4_set_15 : decode cX4_set 15 = .ok (.aload_n 0, 1) := by decide +kernel
theorem dX4_set_16 : decode cX4_set 16 = .ok (.getfield 7, 3) := by decide +kernel
theorem dX4_set_19 : decode cX4_set 19 = .ok (.iload_n 1, 1) := by decide +kernel
theorem dX4_set_20 : decode cX4_set 20 = .ok (.iaload, 1) := by decide +kernel
theorem dX4_set_21 : decode cX4_set 21 = .ok (.istore_n 3, 1) := by decide +kernel
theorem dX4_set_22 : decode cX4_set 22 = .ok (.aload_n 0, 1) := by decide +kernel
theorem dX4_set_23 : decode cX4_set 23 = .ok (.getfield 7, 3) := by decide +kernel
theorem dX4_set_26 : decode cX4_set 26 = .ok (.iload_n 1, 1) := by decide +kernel
theorem dX4_set_27 : decode cX4_set 27 = .ok (.iload_n 2, 1) := by decide +kernel
theorem dX4_set_28 : decode cX4_set 28 = .ok (.iastore, 1) := by decide +kernel
theorem dX4_set_29 : decode cX4_set 29 = .ok (.iload_n 3, 1) := by decide +kernel
theorem dX4_set_30 : decode cX4_set 30 = .ok (.ireturn, 1) := by decide +kernel
theorem dX4_parts_0 : decode cX4_parts 0 = .ok (.iconst 0, 1) := by decide +kernel
theorem dX4_parts_1 : decode cX4_parts 1 = .ok (.istore_n 2, 1) := by decide +kernel
theorem dX4_parts_2 : decode cX4_parts 2 = .ok (.iconst 0, 1) := by decide +kernel
theorem dX4_parts_3 : decode cX4_parts 3 = .ok (.istore_n 3, 1) := by decide +kernel
theorem dX4_parts_4 : decode cX4_parts 4 = .ok (.iload_n 3, 1) := by decide +kernel
theorem dX4_parts_5 : decode cX4_parts 5 = .ok (.aload_n 0, 1) := by decide +kernel
theorem dX4_parts_6 : decode cX4_parts 6 = .ok (.getfield 134, 3) := by decide +kernel
theorem dX4_parts_9 : decode cX4_parts 9 = .ok (.if_icmp .ge 66, 3) := by decide +kernel
theorem dX4_parts_12 : decode cX4_parts 12 = .ok (.iload_n 3, 1) := by decide +kernel
theorem dX4_parts_13 : decode cX4_parts 13 = .ok (.ifCond .eq 16, 3) := by decide +kernel
theorem dX4_parts_16 : decode cX4_parts 16 = .ok (.aload_n 0, 1) := by decide +kernel
theorem dX4_parts_17 : decode cX4_parts 17 = .ok (.getfield 22, 3) := by decide +kernel
theorem dX4_parts_20 : decode cX4_parts 20 = .ok (.iload_n 3, 1) := by decide +kernel
theorem dX4_parts_21 : decode cX4_parts 21 = .ok (.iconst 1, 1) := by decide +kernel
theorem dX4_parts_22 : decode cX4_parts 22 = .ok (.isub, 1) := by decide +kernel
theorem dX4_parts_23 : decode cX4_parts 23 = .ok (.iaload, 1) := by decide +kernel
theorem dX4_parts_24 : decode cX4_parts 24 = .ok (.bipush 59, 2) := by decide +kernel
theorem dX4_parts_26 : decode cX4_parts 26 = .ok (.if_icmp .ne 7, 3) := by decide +kernel
theorem dX4_parts_29 : decode cX4_parts 29 = .ok (.iconst 1, 1) := by decide +kernel
theorem dX4_parts_30 : decode cX4_parts 30 = .ok (.goto 4, 3) := by decide +kernel
theorem dX4_parts_33 : decode cX4_parts 33 = .ok (.iconst 0, 1) := by decide +kernel
theorem dX4_parts_34 : decode cX4_parts 34 = .ok (.istore 4, 2) := by decide +kernel
theorem dX4_parts_36 : decode cX4_parts 36 = .ok (.iload_n 2, 1) := by decide +kernel
theorem dX4_parts_37 : decode cX4_parts 37 = .ok (.iload 4, 2) := by decide +kernel
theorem dX4_parts_39 : decode cX4_parts 39 = .ok (.ifCond .eq 27, 3) := by decide +kernel
theorem dX4_parts_42 : decode cX4_parts 42 = .ok (.aload_n 0, 1) := by decide +kernel
theorem dX4_parts_43 : decode cX4_parts 43 = .ok (.getfield 22, 3) := by decide +kernel
theorem dX4_parts_46 : decode cX4_parts 46 = .ok (.iload_n 3, 1) := by decide +kernel
theorem dX4_parts_47 : decode cX4_parts 47 = .ok (.iaload, 1) := by decide +kernel
theorem dX4_parts_48 : decode cX4_parts 48 = .ok (.bipush 124, 2) := by decide +kernel
theorem dX4_parts_50 : decode cX4_parts 50 = .ok (.if_icmp .ne 7, 3) := by decide +kernel
theorem dX4_parts_53 : decode cX4_parts 53 = .ok (.iconst 1, 1) := by decide +kernel
theorem dX4_parts_54 : decode cX4_parts 54 = .ok (.goto 4, 3) := by decide +kernel
theorem dX4_parts_57 : decode cX4_parts 57 = .ok (.iconst 0, 1) := by decide +kernel
theorem dX4_parts_58 : decode cX4_parts 58 = .ok (.iload_n 1, 1) := by decide +kernel
theorem dX4_parts_59 : decode cX4_parts 59 = .ok (.if_icmp .ne 7, 3) := by decide +kernel
theorem dX4_parts_62 : decode cX4_parts 62 = .ok (.iconst 1, 1) := by decide +kernel
theorem dX4_parts_63 : decode cX4_parts 63 = .ok (.goto 4, 3) := by decide +kernel
theorem dX4_parts_66 : decode cX4_parts 66 = .ok (.iconst 0, 1) := by decide +kernel
theorem dX4_parts_67 : decode cX4_parts 67 = .ok (.iadd, 1) := by decide +kernel
theorem dX4_parts_68 : decode cX4_parts 68 = .ok (.istore_n 2, 1) := by decide +kernel
theorem dX4_parts_69 : decode cX4_parts 69 = .ok (.iinc 3 1, 3) := by decide +kernel
theorem dX4_parts_72 : decode cX4_parts 72 = .ok (.goto (-68), 3) := by decide +kernel
theorem dX4_parts_75 : decode cX4_parts 75 = .ok (.iload_n 2, 1) := by decide +kernel
theorem dX4_parts_76 : decode cX4_parts 76 = .ok (.ireturn, 1) := by decide +kernel
theorem dX4_writeLine_0 : decode cX4_writeLine 0 = .ok (.bipush 8, 2) := by decide +kernel
theorem dX4_writeLine_2 : decode cX4_writeLine 2 = .ok (.iconst 2, 1) := by decide +kernel
theorem dX4_writeLine_3 : decode cX4_writeLine 3 = .ok (.aload_n 0, 1) := by decide +kernel
theorem dX4_writeLine_4 : decode cX4_writeLine 4 = .ok (.getfield 7, 3) := by decide +kernel
theorem dX4_writeLine_7 : decode cX4_writeLine 7 = .ok (.iconst 4, 1) := by decide +kernel
theorem dX4_writeLine_8 : decode cX4_writeLine 8 = .ok (.iaload, 1) := by decide +kernel
theorem dX4_writeLine_9 : decode cX4_writeLine 9 = .ok (.imul, 1) := by decide +kernel
theorem dX4_writeLine_10 : decode cX4_writeLine 10 = .ok (.iadd, 1) := by decide +kernel
theorem dX4_writeLine_11 : decode cX4_writeLine 11 = .ok (.istore_n 2, 1) := by decide +kernel
theorem dX4_writeLine_12 : decode cX4_writeLine 12 = .ok (.iload_n 1, 1) := by decide +kernel
theorem dX4_writeLine_13 : decode cX4_writeLine 13 = .ok (.istore_n 3, 1) := by decide +kernel
theorem dX4_writeLine_14 : decode cX4_writeLine 14 = .ok (.aload_n 0, 1) := by decide +kernel
theorem dX4_writeLine_15 : decode cX4_writeLine 15 = .ok (.getfield 7, 3) := by decide +kernel
theorem dX4_writeLine_18 : decode cX4_writeLine 18 = .ok (.iload_n 2, 1) := by decide +kernel
theorem dX4_writeLine_19 : decode cX4_writeLine 19 = .ok (.iconst 0, 1) := by decide +kernel
theorem dX4_writeLine_20 : decode cX4_writeLine 20 = .ok (.iastore, 1) := by decide +kernel
theorem dX4_writeLine_21 : decode cX4_writeLine 21 = .ok (.aload_n 0, 1) := by decide +kernel
theorem dX4_writeLine_22 : decode cX4_writeLine 22 = .ok (.getfield 7, 3) := by decide +kernel
theorem dX4_writeLine_25 : decode cX4_writeLine 25 = .ok (.iload_n 2, 1) := by decide +kernel
theorem dX4_writeLine_26 : decode cX4_writeLine 26 = .ok (.iconst 1, 1) := by decide +kernel
theorem dX4_writeLine_27 : decode cX4_writeLine 27 = .ok (.iadd, 1) := by decide +kernel
theorem dX4_writeLine_28 : decode cX4_writeLine 28 = .ok (.iconst 0, 1) := by decide +kernel
theorem dX4_writeLine_29 : decode cX4_writeLine 29 = .ok (.iastore, 1) := by decide +kernel
theorem dX4_writeLine_30 : decode cX4_writeLine 30 = .ok (.iload_n 3, 1) := by decide +kernel
theorem dX4_writeLine_31 : decode cX4_writeLine 31 = .ok (.aload_n 0, 1) := by decide +kernel
theorem dX4_writeLine_32 : decode cX4_writeLine 32 = .ok (.getfield 134, 3) := by decide +kernel
theorem dX4_writeLine_35 : decode cX4_writeLine 35 = .ok (.if_icmp .ge 64, 3) := by decide +kernel
theorem dX4_writeLine_38 : decode cX4_writeLine 38 = .ok (.aload_n 0, 1) := by decide +kernel
theorem dX4_writeLine_39 : decode cX4_writeLine 39 = .ok (.getfield 22, 3) := by decide +kernel
theorem dX4_writeLine_42 : decode cX4_writeLine 42 = .ok (.iload_n 3, 1) := by decide +kernel
theorem dX4_writeLine_43 : decode cX4_writeLine 43 = .ok (.iaload, 1) := by decide +kernel
theorem dX4_writeLine_44 : decode cX4_writeLine 44 = .ok (.bipush 59, 2) := by decide +kernel
theorem dX4_writeLine_46 : decode cX4_writeLine 46 = .ok (.if_icmp .eq 53, 3) := by decide +kernel
theorem dX4_writeLine_49 : decode cX4_writeLine 49 = .ok (.aload_n 0, 1) := by decide +kernel
theorem dX4_writeLine_50 : decode cX4_writeLine 50 = .ok (.getfield 7, 3) := by decide +kernel
theorem dX4_writeLine_53 : decode cX4_writeLine 53 = .ok (.iload_n 2, 1) := by decide +kernel
theorem dX4_writeLine_54 : decode cX4_writeLine 54 = .ok (.iconst 1, 1) := by decide +kernel
theorem dX4_writeLine_55 : decode cX4_writeLine 55 = .ok (.iadd, 1) := by decide +kernel
theorem dX4_writeLine_56 : decode cX4_writeLine 56 = .ok (.dup2, 1) := by decide +kernel
theorem dX4_writeLine_57 : decode cX4_writeLine 57 = .ok (.iaload, 1) := by decide +kernel
theorem dX4_writeLine_58 : decode cX4_writeLine 58 = .ok (.aload_n 0, 1) := by decide +kernel
theorem dX4_writeLine_59 : decode cX4_writeLine 59 = .ok (.getfield 22, 3) := by decide +kernel
theorem dX4_writeLine_62 : decode cX4_writeLine 62 = .ok (.iload_n 3, 1) := by decide +kernel
theorem dX4_writeLine_63 : decode cX4_writeLine 63 = .ok (.iaload, 1) := by decide +kernel
theorem dX4_writeLine_64 : decode cX4_writeLine 64 = .ok (.bipush 88, 2) := by decide +kernel
theorem dX4_writeLine_66 : decode cX4_writeLine 66 = .ok (.if_icmp .ne 14, 3) := by decide +kernel
theorem dX4_writeLine_69 : decode cX4_writeLine 69 = .ok (.iconst 1, 1) := by decide +kernel
theorem dX4_writeLine_70 : decode cX4_writeLine 70 = .ok (.aload_n 0, 1) := by decide +kernel
theorem dX4_writeLine_71 : decode cX4_writeLine 71 = .ok (.getfield 7, 3) := by decide +kernel
theorem dX4_writeLine_74 : decode cX4_writeLine 74 = .ok (.iload_n 2, 1) := by decide +kernel
theorem dX4_writeLine_75 : decode cX4_writeLine 75 = .ok (.iaload, 1) := by decide +kernel
theorem dX4_writeLine_76 : decode cX4_writeLine 76 = .ok (.ishl, 1) := by decide +kernel
theorem dX4_writeLine_77 : decode cX4_writeLine 77 = .ok (.goto 4, 3) := by decide +kernel
theorem dX4_writeLine_80 : decode cX4_writeLine 80 = .ok (.iconst 0, 1) := by decide +kernel
theorem dX4_writeLine_81 : decode cX4_writeLine 81 = .ok (.ior, 1) := by decide +kernel
theorem dX4_writeLine_82 : decode cX4_writeLine 82 = .ok (.iastore, 1) := by decide +kernel
theorem dX4_writeLine_83 : decode cX4_writeLine 83 = .ok (.aload_n 0, 1) := by decide +kernel
theorem dX4_writeLine_84 : decode cX4_writeLine 84 = .ok (.getfield 7, 3) := by decide +kernel
theorem dX4_writeLine_87 : decode cX4_writeLine 87 = .ok (.iload_n 2, 1) := by decide +kernel
theorem dX4_writeLine_88 : decode cX4_writeLine 88 = .ok (.dup2, 1) := by decide +kernel
theorem dX4_writeLine_89 : decode cX4_writeLine 89 = .ok (.iaload, 1) := by decide +kernel
theorem dX4_writeLine_90 : decode cX4_writeLine 90 = .ok (.iconst 1, 1) := by decide +kernel
theorem dX4_writeLine_91 : decode cX4_writeLine 91 = .ok (.iadd, 1) := by decide +kernel
theorem dX4_writeLine_92 : decode cX4_writeLine 92 = .ok (.iastore, 1) := by decide +kernel
theorem dX4_writeLine_93 : decode cX4_writeLine 93 = .ok (.iinc 3 1, 3) := by decide +kernel
theorem dX4_writeLine_96 : decode cX4_writeLine 96 = .ok (.goto (-66), 3) := by decide +kernel
theorem dX4_writeLine_99 : decode cX4_writeLine 99 = .ok (.aload_n 0, 1) := by decide +kernel
theorem dX4_writeLine_100 : decode cX4_writeLine 100 = .ok (.getfield 7, 3) := by decide +kernel
theorem dX4_writeLine_103 : decode cX4_writeLine 103 = .ok (.iconst 4, 1) := by decide +kernel
theorem dX4_writeLine_104 : decode cX4_writeLine 104 = .ok (.dup2, 1) := by decide +kernel
theorem dX4_writeLine_105 : decode cX4_writeLine 105 = .ok (.iaload, 1) := by decide +kernel
theorem dX4_writeLine_106 : decode cX4_writeLine 106 = .ok (.iconst 1, 1) := by decide +kernel
theorem dX4_writeLine_107 : decode cX4_writeLine 107 = .ok (.iadd, 1) := by decide +kernel
theorem dX4_writeLine_108 : decode cX4_writeLine 108 = .ok (.iastore, 1) := by decide +kernel
theorem dX4_writeLine_109 : decode cX4_writeLine 109 = .ok (.iload_n 3, 1) := by decide +kernel
theorem dX4_writeLine_110 : decode cX4_writeLine 110 = .ok (.ireturn, 1) := by decide +kernel
theorem dX4_writePhrase_0 : decode cX4_writePhrase 0 = .ok (.bipush 40, 2) := by decide +kernel
theorem dX4_writePhrase_2 : decode cX4_writePhrase 2 = .ok (.iconst 3, 1) := by decide +kernel
theorem dX4_writePhrase_3 : decode cX4_writePhrase 3 = .ok (.aload_n 0, 1) := by decide +kernel
theorem dX4_writePhrase_4 : decode cX4_writePhrase 4 = .ok (.getfield 7, 3) := by decide +kernel
theorem dX4_writePhrase_7 : decode cX4_writePhrase 7 = .ok (.iconst 5, 1) := by decide +kernel
theorem dX4_writePhrase_8 : decode cX4_writePhrase 8 = .ok (.iaload, 1) := by decide +kernel
theorem dX4_writePhrase_9 : decode cX4_writePhrase 9 = .ok (.imul, 1) := by decide +kernel
theorem dX4_writePhrase_10 : decode cX4_writePhrase 10 = .ok (.iadd, 1) := by decide +kernel
theorem dX4_writePhrase_11 : decode cX4_writePhrase 11 = .ok (.istore_n 2, 1) := by decide +kernel
theorem dX4_writePhrase_12 : decode cX4_writePhrase 12 = .ok (.iload_n 1, 1) := by decide +kernel
theorem dX4_writePhrase_13 : decode cX4_writePhrase 13 = .ok (.iconst 1, 1) := by decide +kernel
theorem dX4_writePhrase_14 : decode cX4_writePhrase 14 = .ok (.iadd, 1) := by decide +kernel
theorem dX4_writePhrase_15 : decode cX4_writePhrase 15 = .ok (.istore_n 3, 1) := by decide +kernel
theorem dX4_writePhrase_16 : decode cX4_writePhrase 16 = .ok (.aload_n 0, 1) := by decide +kernel
theorem dX4_writePhrase_17 : decode cX4_writePhrase 17 = .ok (.getfield 7, 3) := by decide +kernel
theorem dX4_writePhrase_20 : decode cX4_writePhrase 20 = .ok (.iload_n 2, 1) := by decide +kernel
theorem dX4_writePhrase_21 : decode cX4_writePhrase 21 = .ok (.iconst 0, 1) := by decide +kernel
theorem dX4_writePhrase_22 : decode cX4_writePhrase 22 = .ok (.iastore, 1) := by decide +kernel
theorem dX4_writePhrase_23 : decode cX4_writePhrase 23 = .ok (.aload_n 0, 1) := by decide +kernel
theorem dX4_writePhrase_24 : decode cX4_writePhrase 24 = .ok (.getfield 7, 3) := by decide +kernel
theorem dX4_writePhrase_27 : decode cX4_writePhrase 27 = .ok (.iload_n 2, 1) := by decide +kernel
theorem dX4_writePhrase_28 : decode cX4_writePhrase 28 = .ok (.iconst 1, 1) := by decide +kernel
theorem dX4_writePhrase_29 : decode cX4_writePhrase 29 = .ok (.iadd, 1) := by decide +kernel
theorem dX4_writePhrase_30 : decode cX4_writePhrase 30 = .ok (.iconst 0, 1) := by decide +kernel
theorem dX4_writePhrase_31 : decode cX4_writePhrase 31 = .ok (.iastore, 1) := by decide +kernel
theorem dX4_writePhrase_32 : decode cX4_writePhrase 32 = .ok (.aload_n 0, 1) := by decide +kernel
theorem dX4_writePhrase_33 : decode cX4_writePhrase 33 = .ok (.getfield 7, 3) := by decide +kernel
theorem dX4_writePhrase_36 : decode cX4_writePhrase 36 = .ok (.iload_n 2, 1) := by decide +kernel
theorem dX4_writePhrase_37 : decode cX4_writePhrase 37 = .ok (.iconst 2, 1) := by decide +kernel
theorem dX4_writePhrase_38 : decode cX4_writePhrase 38 = .ok (.iadd, 1) := by decide +kernel
theorem dX4_writePhrase_39 : decode cX4_writePhrase 39 = .ok (.iconst 0, 1) := by decide +kernel
theorem dX4_writePhrase_40 : decode cX4_writePhrase 40 = .ok (.iastore, 1) := by decide +kernel
theorem dX4_writePhrase_41 : decode cX4_writePhrase 41 = .ok (.iload_n 3, 1) := by decide +kernel
theorem dX4_writePhrase_42 : decode cX4_writePhrase 42 = .ok (.aload_n 0, 1) := by decide +kernel
theorem dX4_writePhrase_43 : decode cX4_writePhrase 43 = .ok (.getfield 134, 3) := by decide +kernel
theorem dX4_writePhrase_46 : decode cX4_writePhrase 46 = .ok (.if_icmp .ge 98, 3) := by decide +kernel
theorem dX4_writePhrase_49 : decode cX4_writePhrase 49 = .ok (.aload_n 0, 1) := by decide +kernel
theorem dX4_writePhrase_50 : decode cX4_writePhrase 50 = .ok (.getfield 22, 3) := by decide +kernel
theorem dX4_writePhrase_53 : decode cX4_writePhrase 53 = .ok (.iload_n 3, 1) := by decide +kernel
theorem dX4_writePhrase_54 : decode cX4_writePhrase 54 = .ok (.iaload, 1) := by decide +kernel
theorem dX4_writePhrase_55 : decode cX4_writePhrase 55 = .ok (.bipush 59, 2) := by decide +kernel
theorem dX4_writePhrase_57 : decode cX4_writePhrase 57 = .ok (.if_icmp .eq 87, 3) := by decide +kernel
theorem dX4_writePhrase_60 : decode cX4_writePhrase 60 = .ok (.aload_n 0, 1) := by decide +kernel
theorem dX4_writePhrase_61 : decode cX4_writePhrase 61 = .ok (.getfield 7, 3) := by decide +kernel
theorem dX4_writePhrase_64 : decode cX4_writePhrase 64 = .ok (.iload_n 2, 1) := by decide +kernel
theorem dX4_writePhrase_65 : decode cX4_writePhrase 65 = .ok (.iconst 1, 1) := by decide +kernel
theorem dX4_writePhrase_66 : decode cX4_writePhrase 66 = .ok (.iadd, 1) := by decide +kernel
theorem dX4_writePhrase_67 : decode cX4_writePhrase 67 = .ok (.dup2, 1) := by decide +kernel
theorem dX4_writePhrase_68 : decode cX4_writePhrase 68 = .ok (.iaload, 1) := by decide +kernel
theorem dX4_writePhrase_69 : decode cX4_writePhrase 69 = .ok (.aload_n 0, 1) := by decide +kernel
theorem dX4_writePhrase_70 : decode cX4_writePhrase 70 = .ok (.getfield 22, 3) := by decide +kernel
theorem dX4_writePhrase_73 : decode cX4_writePhrase 73 = .ok (.iload_n 3, 1) := by decide +kernel
theorem dX4_writePhrase_74 : decode cX4_writePhrase 74 = .ok (.iaload, 1) := by decide +kernel
theorem dX4_writePhrase_75 : decode cX4_writePhrase 75 = .ok (.bipush 115, 2) := by decide +kernel
theorem dX4_writePhrase_77 : decode cX4_writePhrase 77 = .ok (.if_icmp .ne 14, 3) := by decide +kernel
theorem dX4_writePhrase_80 : decode cX4_writePhrase 80 = .ok (.iconst 1, 1) := by decide +kernel
theorem dX4_writePhrase_81 : decode cX4_writePhrase 81 = .ok (.aload_n 0, 1) := by decide +kernel
theorem dX4_writePhrase_82 : decode cX4_writePhrase 82 = .ok (.getfield 7, 3) := by decide +kernel
theorem dX4_writePhrase_85 : decode cX4_writePhrase 85 = .ok (.iload_n 2, 1) := by decide +kernel
theorem dX4_writePhrase_86 : decode cX4_writePhrase 86 = .ok (.iaload, 1) := by decide +kernel
theorem dX4_writePhrase_87 : decode cX4_writePhrase 87 = .ok (.ishl, 1) := by decide +kernel
theorem dX4_writePhrase_88 : decode cX4_writePhrase 88 = .ok (.goto 4, 3) := by decide +kernel
theorem dX4_writePhrase_91 : decode cX4_writePhrase 91 = .ok (.iconst 0, 1) := by decide +kernel
theorem dX4_writePhrase_92 : decode cX4_writePhrase 92 = .ok (.ior, 1) := by decide +kernel
theorem dX4_writePhrase_93 : decode cX4_writePhrase 93 = .ok (.iastore, 1) := by decide +kernel
theorem dX4_writePhrase_94 : decode cX4_writePhrase 94 = .ok (.aload_n 0, 1) := by decide +kernel
theorem dX4_writePhrase_95 : decode cX4_writePhrase 95 = .ok (.getfield 7, 3) := by decide +kernel
theorem dX4_writePhrase_98 : decode cX4_writePhrase 98 = .ok (.iload_n 2, 1) := by decide +kernel
theorem dX4_writePhrase_99 : decode cX4_writePhrase 99 = .ok (.iconst 2, 1) := by decide +kernel
theorem dX4_writePhrase_100 : decode cX4_writePhrase 100 = .ok (.iadd, 1) := by decide +kernel
theorem dX4_writePhrase_101 : decode cX4_writePhrase 101 = .ok (.dup2, 1) := by decide +kernel
theorem dX4_writePhrase_102 : decode cX4_writePhrase 102 = .ok (.iaload, 1) := by decide +kernel
theorem dX4_writePhrase_103 : decode cX4_writePhrase 103 = .ok (.aload_n 0, 1) := by decide +kernel
theorem dX4_writePhrase_104 : decode cX4_writePhrase 104 = .ok (.getfield 22, 3) := by decide +kernel
theorem dX4_writePhrase_107 : decode cX4_writePhrase 107 = .ok (.iload_n 3, 1) := by decide +kernel
theorem dX4_writePhrase_108 : decode cX4_writePhrase 108 = .ok (.iaload, 1) := by decide +kernel
theorem dX4_writePhrase_109 : decode cX4_writePhrase 109 = .ok (.bipush 119, 2) := by decide +kernel
theorem dX4_writePhrase_111 : decode cX4_writePhrase 111 = .ok (.if_icmp .ne 14, 3) := by decide +kernel
theorem dX4_writePhrase_114 : decode cX4_writePhrase 114 = .ok (.iconst 1, 1) := by decide +kernel
theorem dX4_writePhrase_115 : decode cX4_writePhrase 115 = .ok (.aload_n 0, 1) := by decide +kernel
theorem dX4_writePhrase_116 : decode cX4_writePhrase 116 = .ok (.getfield 7, 3) := by decide +kernel
theorem dX4_writePhrase_119 : decode cX4_writePhrase 119 = .ok (.iload_n 2, 1) := by decide +kernel
theorem dX4_writePhrase_120 : decode cX4_writePhrase 120 = .ok (.iaload, 1) := by decide +kernel
theorem dX4_writePhrase_121 : decode cX4_writePhrase 121 = .ok (.ishl, 1) := by decide +kernel
theorem dX4_writePhrase_122 : decode cX4_writePhrase 122 = .ok (.goto 4, 3) := by decide +kernel
theorem dX4_writePhrase_125 : decode cX4_writePhrase 125 = .ok (.iconst 0, 1) := by decide +kernel
theorem dX4_writePhrase_126 : decode cX4_writePhrase 126 = .ok (.ior, 1) := by decide +kernel
theorem dX4_writePhrase_127 : decode cX4_writePhrase 127 = .ok (.iastore, 1) := by decide +kernel
theorem dX4_writePhrase_128 : decode cX4_writePhrase 128 = .ok (.aload_n 0, 1) := by decide +kernel
theorem dX4_writePhrase_129 : decode cX4_writePhrase 129 = .ok (.getfield 7, 3) := by decide +kernel
theorem dX4_writePhrase_132 : decode cX4_writePhrase 132 = .ok (.iload_n 2, 1) := by decide +kernel
theorem dX4_writePhrase_133 : decode cX4_writePhrase 133 = .ok (.dup2, 1) := by decide +kernel
theorem dX4_writePhrase_134 : decode cX4_writePhrase 134 = .ok (.iaload, 1) := by decide +kernel
theorem dX4_writePhrase_135 : decode cX4_writePhrase 135 = .ok (.iconst 1, 1) := by decide +kernel
theorem dX4_writePhrase_136 : decode cX4_writePhrase 136 = .ok (.iadd, 1) := by decide +kernel
theorem dX4_writePhrase_137 : decode cX4_writePhrase 137 = .ok (.iastore, 1) := by decide +kernel
theorem dX4_writePhrase_138 : decode cX4_writePhrase 138 = .ok (.iinc 3 1, 3) := by decide +kernel
theorem dX4_writePhrase_141 : decode cX4_writePhrase 141 = .ok (.goto (-100), 3) := by decide +kernel
theorem dX4_writePhrase_144 : decode cX4_writePhrase 144 = .ok (.aload_n 0, 1) := by decide +kernel
theorem dX4_writePhrase_145 : decode cX4_writePhrase 145 = .ok (.getfield 7, 3) := by decide +kernel
theorem dX4_writePhrase_148 : decode cX4_writePhrase 148 = .ok (.iconst 5, 1) := by decide +kernel
theorem dX4_writePhrase_149 : decode cX4_writePhrase 149 = .ok (.dup2, 1) := by decide +kernel
theorem dX4_writePhrase_150 : decode cX4_writePhrase 150 = .ok (.iaload, 1) := by decide +kernel
theorem dX4_writePhrase_151 : decode cX4_writePhrase 151 = .ok (.iconst 1, 1) := by decide +kernel
theorem dX4_writePhrase_152 : decode cX4_writePhrase 152 = .ok (.iadd, 1) := by decide +kernel
theorem dX4_writePhrase_153 : decode cX4_writePhrase 153 = .ok (.iastore, 1) := by decide +kernel
theorem dX4_writePhrase_154 : decode cX4_writePhrase 154 = .ok (.iload_n 3, 1) := by decide +kernel
theorem dX4_writePhrase_155 : decode cX4_writePhrase 155 = .ok (.ireturn, 1) := by decide +kernel
theorem dX4_write_0 : decode cX4_write 0 = .ok (.aload_n 0, 1) := by decide +kernel
theorem dX4_write_1 : decode cX4_write 1 = .ok (.invokevirtual 137, 3) := by decide +kernel
theorem dX4_write_4 : decode cX4_write 4 = .ok (.bipush (-6), 2) := by decide +kernel
theorem dX4_write_6 : decode cX4_write 6 = .ok (.if_icmp .eq 6, 3) := by decide +kernel
theorem dX4_write_9 : decode cX4_write 9 = .ok (.bipush (-3), 2) := by decide +kernel
theorem dX4_write_11 : decode cX4_write 11 = .ok (.ireturn, 1) := by decide +kernel
theorem dX4_write_12 : decode cX4_write 12 = .ok (.aload_n 0, 1) := by decide +kernel
theorem dX4_write_13 : decode cX4_write 13 = .ok (.getfield 7, 3) := by decide +kernel
theorem dX4_write_16 : decode cX4_write 16 = .ok (.iconst 4, 1) := by decide +kernel
theorem dX4_write_17 : decode cX4_write 17 = .ok (.iaload, 1) := by decide +kernel
theorem dX4_write_18 : decode cX4_write 18 = .ok (.aload_n 0, 1) := by decide +kernel
theorem dX4_write_19 : decode cX4_write 19 = .ok (.iconst 0, 1) := by decide +kernel
theorem dX4_write_20 : decode cX4_write 20 = .ok (.invokevirtual 140, 3) := by decide +kernel
theorem dX4_write_23 : decode cX4_write 23 = .ok (.iadd, 1) := by decide +kernel
theorem dX4_write_24 : decode cX4_write 24 = .ok (.bipush 16, 2) := by decide +kernel
theorem dX4_write_26 : decode cX4_write 26 = .ok (.if_icmp .gt 20, 3) := by decide +kernel
theorem dX4_write_29 : decode cX4_write 29 = .ok (.aload_n 0, 1) := by decide +kernel
theorem dX4_write_30 : decode cX4_write 30 = .ok (.getfield 7, 3) := by decide +kernel
theorem dX4_write_33 : decode cX4_write 33 = .ok (.iconst 5, 1) := by decide +kernel
theorem dX4_write_34 : decode cX4_write 34 = .ok (.iaload, 1) := by decide +kernel
theorem dX4_write_35 : decode cX4_write 35 = .ok (.aload_n 0, 1) := by decide +kernel
theorem dX4_write_36 : decode cX4_write 36 = .ok (.iconst 1, 1) := by decide +kernel
theorem dX4_write_37 : decode cX4_write 37 = .ok (.invokevirtual 140, 3) := by decide +kernel
theorem dX4_write_40 : decode cX4_write 40 = .ok (.iadd, 1) := by decide +kernel
theorem dX4_write_41 : decode cX4_write 41 = .ok (.bipush 8, 2) := by decide +kernel
theorem dX4_write_43 : decode cX4_write 43 = .ok (.if_icmp .le 6, 3) := by decide +kernel
theorem dX4_write_46 : decode cX4_write 46 = .ok (.bipush (-4), 2) := by decide +kernel
theorem dX4_write_48 : decode cX4_write 48 = .ok (.ireturn, 1) := by decide +kernel
theorem dX4_write_49 : decode cX4_write 49 = .ok (.aload_n 0, 1) := by decide +kernel
theorem dX4_write_50 : decode cX4_write 50 = .ok (.invokevirtual 131, 3) := by decide +kernel
theorem dX4_write_53 : decode cX4_write 53 = .ok (.iconst 0, 1) := by decide +kernel
theorem dX4_write_54 : decode cX4_write 54 = .ok (.istore_n 1, 1) := by decide +kernel
theorem dX4_write_55 : decode cX4_write 55 = .ok (.iload_n 1, 1) := by decide +kernel
theorem dX4_write_56 : decode cX4_write 56 = .ok (.aload_n 0, 1) := by decide +kernel
theorem dX4_write_57 : decode cX4_write 57 = .ok (.getfield 134, 3) := by decide +kernel
theorem dX4_write_60 : decode cX4_write 60 = .ok (.if_icmp .ge 34, 3) := by decide +kernel
theorem dX4_write_63 : decode cX4_write 63 = .ok (.aload_n 0, 1) := by decide +kernel
theorem dX4_write_64 : decode cX4_write 64 = .ok (.getfield 22, 3) := by decide +kernel
theorem dX4_write_67 : decode cX4_write 67 = .ok (.iload_n 1, 1) := by decide +kernel
theorem dX4_write_68 : decode cX4_write 68 = .ok (.iaload, 1) := by decide +kernel
theorem dX4_write_69 : decode cX4_write 69 = .ok (.bipush 124, 2) := by decide +kernel
theorem dX4_write_71 : decode cX4_write 71 = .ok (.if_icmp .ne 11, 3) := by decide +kernel
theorem dX4_write_74 : decode cX4_write 74 = .ok (.aload_n 0, 1) := by decide +kernel
theorem dX4_write_75 : decode cX4_write 75 = .ok (.iload_n 1, 1) := by decide +kernel
theorem dX4_write_76 : decode cX4_write 76 = .ok (.invokevirtual 144, 3) := by decide +kernel
theorem dX4_write_79 : decode cX4_write 79 = .ok (.goto 8, 3) := by decide +kernel
theorem dX4_write_82 : decode cX4_write 82 = .ok (.aload_n 0, 1) := by decide +kernel
theorem dX4_write_83 : decode cX4_write 83 = .ok (.iload_n 1, 1) := by decide +kernel
theorem dX4_write_84 : decode cX4_write 84 = .ok (.invokevirtual 147, 3) := by decide +kernel
theorem dX4_write_87 : decode cX4_write 87 = .ok (.istore_n 1, 1) := by decide +kernel
theorem dX4_write_88 : decode cX4_write 88 = .ok (.iinc 1 1, 3) := by decide +kernel
theorem dX4_write_91 : decode cX4_write 91 = .ok (.goto (-36), 3) := by decide +kernel
theorem dX4_write_94 : decode cX4_write 94 = .ok (.aload_n 0, 1) := by decide +kernel
theorem dX4_write_95 : decode cX4_write 95 = .ok (.iconst 0, 1) := by decide +kernel
theorem dX4_write_96 : decode cX4_write 96 = .ok (.putfield 134, 3) := by decide +kernel
theorem dX4_write_99 : decode cX4_write 99 = .ok (.aload_n 0, 1) := by decide +kernel
theorem dX4_write_100 : decode cX4_write 100 = .ok (.getfield 7, 3) := by decide +kernel
theorem dX4_write_103 : decode cX4_write 103 = .ok (.iconst 4, 1) := by decide +kernel
theorem dX4_write_104 : decode cX4_write 104 = .ok (.iaload, 1) := by decide +kernel
theorem dX4_write_105 : decode cX4_write 105 = .ok (.ireturn, 1) := by decide +kernel
theorem dX4_goes_0 : decode cX4_goes 0 = .ok (.iconst 0, 1) := by decide +kernel
theorem dX4_goes_1 : decode cX4_goes 1 = .ok (.istore 4, 2) := by decide +kernel
theorem dX4_goes_3 : decode cX4_goes 3 = .ok (.iconst 0, 1) := by decide +kernel
theorem dX4_goes_4 : decode cX4_goes 4 = .ok (.istore 5, 2) := by decide +kernel
theorem dX4_goes_6 : decode cX4_goes 6 = .ok (.iload 5, 2) := by decide +kernel
theorem dX4_goes_8 : decode cX4_goes 8 = .ok (.iload_n 3, 1) := by decide +kernel
theorem dX4_goes_9 : decode cX4_goes 9 = .ok (.if_icmp .ge 53, 3) := by decide +kernel
theorem dX4_goes_12 : decode cX4_goes 12 = .ok (.aload_n 0, 1) := by decide +kernel
theorem dX4_goes_13 : decode cX4_goes 13 = .ok (.getfield 7, 3) := by decide +kernel
theorem dX4_goes_16 : decode cX4_goes 16 = .ok (.iload_n 2, 1) := by decide +kernel
theorem dX4_goes_17 : decode cX4_goes 17 = .ok (.iload 5, 2) := by decide +kernel
theorem dX4_goes_19 : decode cX4_goes 19 = .ok (.iadd, 1) := by decide +kernel
theorem dX4_goes_20 : decode cX4_goes 20 = .ok (.iaload, 1) := by decide +kernel
theorem dX4_goes_21 : decode cX4_goes 21 = .ok (.istore 6, 2) := by decide +kernel
theorem dX4_goes_23 : decode cX4_goes 23 = .ok (.iload 6, 2) := by decide +kernel
theorem dX4_goes_25 : decode cX4_goes 25 = .ok (.iload_n 1, 1) := by decide +kernel
theorem dX4_goes_26 : decode cX4_goes 26 = .ok (.if_icmp .eq 30, 3) := by decide +kernel
theorem dX4_goes_29 : decode cX4_goes 29 = .ok (.aload_n 0, 1) := by decide +kernel
theorem dX4_goes_30 : decode cX4_goes 30 = .ok (.getfield 7, 3) := by decide +kernel
theorem dX4_goes_33 : decode cX4_goes 33 = .ok (.iload_n 2, 1) := by decide +kernel
theorem dX4_goes_34 : decode cX4_goes 34 = .ok (.iload 4, 2) := by decide +kernel
theorem dX4_goes_36 : decode cX4_goes 36 = .ok (.iadd, 1) := by decide +kernel
theorem dX4_goes_37 : decode cX4_goes 37 = .ok (.iload 6, 2) := by decide +kernel
theorem dX4_goes_39 : decode cX4_goes 39 = .ok (.iload_n 1, 1) := by decide +kernel
theorem dX4_goes_40 : decode cX4_goes 40 = .ok (.if_icmp .le 10, 3) := by decide +kernel
theorem dX4_goes_43 : decode cX4_goes 43 = .ok (.iload 6, 2) := by decide +kernel
theorem dX4_goes_45 : decode cX4_goes 45 = .ok (.iconst 1, 1) := by decide +kernel
theorem dX4_goes_46 : decode cX4_goes 46 = .ok (.isub, 1) := by decide +kernel
theorem dX4_goes_47 : decode cX4_goes 47 = .ok (.goto 5, 3) := by decide +kernel
theorem dX4_goes_50 : decode cX4_goes 50 = .ok (.iload 6, 2) := by decide +kernel
theorem dX4_goes_52 : decode cX4_goes 52 = .ok (.iastore, 1) := by decide +kernel
theorem dX4_goes_53 : decode cX4_goes 53 = .ok (.iinc 4 1, 3) := by decide +kernel
theorem dX4_goes_56 : decode cX4_goes 56 = .ok (.iinc 5 1, 3) := by decide +kernel
theorem dX4_goes_59 : decode cX4_goes 59 = .ok (.goto (-53), 3) := by decide +kernel
theorem dX4_goes_62 : decode cX4_goes 62 = .ok (.iload 4, 2) := by decide +kernel
theorem dX4_goes_64 : decode cX4_goes 64 = .ok (.ireturn, 1) := by decide +kernel
theorem dX4_dropLine_0 : decode cX4_dropLine 0 = .ok (.aload_n 0, 1) := by decide +kernel
theorem dX4_dropLine_1 : decode cX4_dropLine 1 = .ok (.iload_n 1, 1) := by decide +kernel
theorem dX4_dropLine_2 : decode cX4_dropLine 2 = .ok (.invokevirtual 52, 3) := by decide +kernel
theorem dX4_dropLine_5 : decode cX4_dropLine 5 = .ok (.ifCond .ne 5, 3) := by decide +kernel
theorem dX4_dropLine_8 : decode cX4_dropLine 8 = .ok (.iconst (-1), 1) := by decide +kernel
theorem dX4_dropLine_9 : decode cX4_dropLine 9 = .ok (.ireturn, 1) := by decide +kernel
theorem dX4_dropLine_10 : decode cX4_dropLine 10 = .ok (.aload_n 0, 1) := by decide +kernel
theorem dX4_dropLine_11 : decode cX4_dropLine 11 = .ok (.invokevirtual 131, 3) := by decide +kernel
theorem dX4_dropLine_14 : decode cX4_dropLine 14 = .ok (.aload_n 0, 1) := by decide +kernel
theorem dX4_dropLine_15 : decode cX4_dropLine 15 = .ok (.getfield 7, 3) := by decide +kernel
theorem dX4_dropLine_18 : decode cX4_dropLine 18 = .ok (.iconst 4, 1) := by decide +kernel
theorem dX4_dropLine_19 : decode cX4_dropLine 19 = .ok (.dup2, 1) := by decide +kernel
theorem dX4_dropLine_20 : decode cX4_dropLine 20 = .ok (.iaload, 1) := by decide +kernel
theorem dX4_dropLine_21 : decode cX4_dropLine 21 = .ok (.iconst 1, 1) := by decide +kernel
theorem dX4_dropLine_22 : decode cX4_dropLine 22 = .ok (.isub, 1) := by decide +kernel
theorem dX4_dropLine_23 : decode cX4_dropLine 23 = .ok (.iastore, 1) := by decide +kernel
theorem dX4_dropLine_24 : decode cX4_dropLine 24 = .ok (.bipush 8, 2) := by decide +kernel
theorem dX4_dropLine_26 : decode cX4_dropLine 26 = .ok (.iconst 2, 1) := by decide +kernel
theorem dX4_dropLine_27 : decode cX4_dropLine 27 = .ok (.iload_n 1, 1) := by decide +kernel
theorem dX4_dropLine_28 : decode cX4_dropLine 28 = .ok (.imul, 1) := by decide +kernel
theorem dX4_dropLine_29 : decode cX4_dropLine 29 = .ok (.iadd, 1) := by decide +kernel
theorem dX4_dropLine_30 : decode cX4_dropLine 30 = .ok (.istore_n 2, 1) := by decide +kernel
theorem dX4_dropLine_31 : decode cX4_dropLine 31 = .ok (.iload_n 2, 1) := by decide +kernel
theorem dX4_dropLine_32 : decode cX4_dropLine 32 = .ok (.bipush 8, 2) := by decide +kernel
theorem dX4_dropLine_34 : decode cX4_dropLine 34 = .ok (.iconst 2, 1) := by decide +kernel
theorem dX4_dropLine_35 : decode cX4_dropLine 35 = .ok (.aload_n 0, 1) := by decide +kernel
theorem dX4_dropLine_36 : decode cX4_dropLine 36 = .ok (.getfield 7, 3) := by decide +kernel
theorem dX4_dropLine_39 : decode cX4_dropLine 39 = .ok (.iconst 4, 1) := by decide +kernel
theorem dX4_dropLine_40 : decode cX4_dropLine 40 = .ok (.iaload, 1) := by decide +kernel
theorem dX4_dropLine_41 : decode cX4_dropLine 41 = .ok (.imul, 1) := by decide +kernel
theorem dX4_dropLine_42 : decode cX4_dropLine 42 = .ok (.iadd, 1) := by decide +kernel
theorem dX4_dropLine_43 : decode cX4_dropLine 43 = .ok (.if_icmp .ge 23, 3) := by decide +kernel
theorem dX4_dropLine_46 : decode cX4_dropLine 46 = .ok (.aload_n 0, 1) := by decide +kernel
theorem dX4_dropLine_47 : decode cX4_dropLine 47 = .ok (.getfield 7, 3) := by decide +kernel
theorem dX4_dropLine_50 : decode cX4_dropLine 50 = .ok (.iload_n 2, 1) := by decide +kernel
theorem dX4_dropLine_51 : decode cX4_dropLine 51 = .ok (.aload_n 0, 1) := by decide +kernel
theorem dX4_dropLine_52 : decode cX4_dropLine 52 = .ok (.getfield 7, 3) := by decide +kernel
theorem dX4_dropLine_55 : decode cX4_dropLine 55 = .ok (.iload_n 2, 1) := by decide +kernel
theorem dX4_dropLine_56 : decode cX4_dropLine 56 = .ok (.iconst 2, 1) := by decide +kernel
theorem dX4_dropLine_57 : decode cX4_dropLine 57 = .ok (.iadd, 1) := by decide +kernel
theorem dX4_dropLine_58 : decode cX4_dropLine 58 = .ok (.iaload, 1) := by decide +kernel
theorem dX4_dropLine_59 : decode cX4_dropLine 59 = .ok (.iastore, 1) := by decide +kernel
theorem dX4_dropLine_60 : decode cX4_dropLine 60 = .ok (.iinc 2 1, 3) := by decide +kernel
theorem dX4_dropLine_63 : decode cX4_dropLine 63 = .ok (.goto (-32), 3) := by decide +kernel
theorem dX4_dropLine_66 : decode cX4_dropLine 66 = .ok (.aload_n 0, 1) := by decide +kernel
theorem dX4_dropLine_67 : decode cX4_dropLine 67 = .ok (.getfield 7, 3) := by decide +kernel
theorem dX4_dropLine_70 : decode cX4_dropLine 70 = .ok (.bipush 6, 2) := by decide +kernel
theorem dX4_dropLine_72 : decode cX4_dropLine 72 = .ok (.aload_n 0, 1) := by decide +kernel
theorem dX4_dropLine_73 : decode cX4_dropLine 73 = .ok (.iload_n 1, 1) := by decide +kernel
theorem dX4_dropLine_74 : decode cX4_dropLine 74 = .ok (.bipush 64, 2) := by decide +kernel
theorem dX4_dropLine_76 : decode cX4_dropLine 76 = .ok (.aload_n 0, 1) := by decide +kernel
theorem dX4_dropLine_77 : decode cX4_dropLine 77 = .ok (.getfield 7, 3) := by decide +kernel
theorem dX4_dropLine_80 : decode cX4_dropLine 80 = .ok (.bipush 6, 2) := by decide +kernel
theorem dX4_dropLine_82 : decode cX4_dropLine 82 = .ok (.iaload, 1) := by decide +kernel
theorem dX4_dropLine_83 : decode cX4_dropLine 83 = .ok (.invokevirtual 150, 3) := by decide +kernel
theorem dX4_dropLine_86 : decode cX4_dropLine 86 = .ok (.iastore, 1) := by decide +kernel
theorem dX4_dropLine_87 : decode cX4_dropLine 87 = .ok (.aload_n 0, 1) := by decide +kernel
theorem dX4_dropLine_88 : decode cX4_dropLine 88 = .ok (.getfield 7, 3) := by decide +kernel
theorem dX4_dropLine_91 : decode cX4_dropLine 91 = .ok (.bipush 6, 2) := by decide +kernel
theorem dX4_dropLine_93 : decode cX4_dropLine 93 = .ok (.iaload, 1) := by decide +kernel
theorem dX4_dropLine_94 : decode cX4_dropLine 94 = .ok (.ireturn, 1) := by decide +kernel
theorem dX4_dropPhrase_0 : decode cX4_dropPhrase 0 = .ok (.aload_n 0, 1) := by decide +kernel
theorem dX4_dropPhrase_1 : decode cX4_dropPhrase 1 = .ok (.iload_n 1, 1) := by decide +kernel
theorem dX4_dropPhrase_2 : decode cX4_dropPhrase 2 = .ok (.invokevirtual 60, 3) := by decide +kernel
theorem dX4_dropPhrase_5 : decode cX4_dropPhrase 5 = .ok (.ifCond .ne 5, 3) := by decide +kernel
theorem dX4_dropPhrase_8 : decode cX4_dropPhrase 8 = .ok (.iconst (-1), 1) := by decide +kernel
theorem dX4_dropPhrase_9 : decode cX4_dropPhrase 9 = .ok (.ireturn, 1) := by decide +kernel
theorem dX4_dropPhrase_10 : decode cX4_dropPhrase 10 = .ok (.aload_n 0, 1) := by decide +kernel
theorem dX4_dropPhrase_11 : decode cX4_dropPhrase 11 = .ok (.invokevirtual 131, 3) := by decide +kernel
theorem dX4_dropPhrase_14 : decode cX4_dropPhrase 14 = .ok (.aload_n 0, 1) := by decide +kernel
theorem dX4_dropPhrase_15 : decode cX4_dropPhrase 15 = .ok (.getfield 7, 3) := by decide +kernel
theorem dX4_dropPhrase_18 : decode cX4_dropPhrase 18 = .ok (.iconst 5, 1) := by decide +kernel
theorem dX4_dropPhrase_19 : decode cX4_dropPhrase 19 = .ok (.dup2, 1) := by decide +kernel
theorem dX4_dropPhrase_20 : decode cX4_dropPhrase 20 = .ok (.iaload, 1) := by decide +kernel
theorem dX4_dropPhrase_21 : decode cX4_dropPhrase 21 = .ok (.iconst 1, 1) := by decide +kernel
theorem dX4_dropPhrase_22 : decode cX4_dropPhrase 22 = .ok (.isub, 1) := by decide +kernel
theorem dX4_dropPhrase_23 : decode cX4_dropPhrase 23 = .ok (.iastore, 1) := by decide +kernel
theorem dX4_dropPhrase_24 : decode cX4_dropPhrase 24 = .ok (.bipush 40, 2) := by decide +kernel
theorem dX4_dropPhrase_26 : decode cX4_dropPhrase 26 = .ok (.iconst 3, 1) := by decide +kernel
theorem dX4_dropPhrase_27 : decode cX4_dropPhrase 27 = .ok (.iload_n 1, 1) := by decide +kernel
theorem dX4_dropPhrase_28 : decode cX4_dropPhrase 28 = .ok (.imul, 1) := by decide +kernel
theorem dX4_dropPhrase_29 : decode cX4_dropPhrase 29 = .ok (.iadd, 1) := by decide +kernel
theorem dX4_dropPhrase_30 : decode cX4_dropPhrase 30 = .ok (.istore_n 2, 1) := by decide +kernel
theorem dX4_dropPhrase_31 : decode cX4_dropPhrase 31 = .ok (.iload_n 2, 1) := by decide +kernel
theorem dX4_dropPhrase_32 : decode cX4_dropPhrase 32 = .ok (.bipush 40, 2) := by decide +kernel
theorem dX4_dropPhrase_34 : decode cX4_dropPhrase 34 = .ok (.iconst 3, 1) := by decide +kernel
theorem dX4_dropPhrase_35 : decode cX4_dropPhrase 35 = .ok (.aload_n 0, 1) := by decide +kernel
theorem dX4_dropPhrase_36 : decode cX4_dropPhrase 36 = .ok (.getfield 7, 3) := by decide +kernel
theorem dX4_dropPhrase_39 : decode cX4_dropPhrase 39 = .ok (.iconst 5, 1) := by decide +kernel
theorem dX4_dropPhrase_40 : decode cX4_dropPhrase 40 = .ok (.iaload, 1) := by decide +kernel
theorem dX4_dropPhrase_41 : decode cX4_dropPhrase 41 = .ok (.imul, 1) := by decide +kernel
theorem dX4_dropPhrase_42 : decode cX4_dropPhrase 42 = .ok (.iadd, 1) := by decide +kernel
theorem dX4_dropPhrase_43 : decode cX4_dropPhrase 43 = .ok (.if_icmp .ge 23, 3) := by decide +kernel
theorem dX4_dropPhrase_46 : decode cX4_dropPhrase 46 = .ok (.aload_n 0, 1) := by decide +kernel
theorem dX4_dropPhrase_47 : decode cX4_dropPhrase 47 = .ok (.getfield 7, 3) := by decide +kernel
theorem dX4_dropPhrase_50 : decode cX4_dropPhrase 50 = .ok (.iload_n 2, 1) := by decide +kernel
theorem dX4_dropPhrase_51 : decode cX4_dropPhrase 51 = .ok (.aload_n 0, 1) := by decide +kernel
theorem dX4_dropPhrase_52 : decode cX4_dropPhrase 52 = .ok (.getfield 7, 3) := by decide +kernel
theorem dX4_dropPhrase_55 : decode cX4_dropPhrase 55 = .ok (.iload_n 2, 1) := by decide +kernel
theorem dX4_dropPhrase_56 : decode cX4_dropPhrase 56 = .ok (.iconst 3, 1) := by decide +kernel
theorem dX4_dropPhrase_57 : decode cX4_dropPhrase 57 = .ok (.iadd, 1) := by decide +kernel
theorem dX4_dropPhrase_58 : decode cX4_dropPhrase 58 = .ok (.iaload, 1) := by decide +kernel
theorem dX4_dropPhrase_59 : decode cX4_dropPhrase 59 = .ok (.iastore, 1) := by decide +kernel
theorem dX4_dropPhrase_60 : decode cX4_dropPhrase 60 = .ok (.iinc 2 1, 3) := by decide +kernel
theorem dX4_dropPhrase_63 : decode cX4_dropPhrase 63 = .ok (.goto (-32), 3) := by decide +kernel
theorem dX4_dropPhrase_66 : decode cX4_dropPhrase 66 = .ok (.aload_n 0, 1) := by decide +kernel
theorem dX4_dropPhrase_67 : decode cX4_dropPhrase 67 = .ok (.getfield 7, 3) := by decide +kernel
theorem dX4_dropPhrase_70 : decode cX4_dropPhrase 70 = .ok (.bipush 7, 2) := by decide +kernel
theorem dX4_dropPhrase_72 : decode cX4_dropPhrase 72 = .ok (.aload_n 0, 1) := by decide +kernel
theorem dX4_dropPhrase_73 : decode cX4_dropPhrase 73 = .ok (.iload_n 1, 1) := by decide +kernel
theorem dX4_dropPhrase_74 : decode cX4_dropPhrase 74 = .ok (.bipush 104, 2) := by decide +kernel
theorem dX4_dropPhrase_76 : decode cX4_dropPhrase 76 = .ok (.aload_n 0, 1) := by decide +kernel
theorem dX4_dropPhrase_77 : decode cX4_dropPhrase 77 = .ok (.getfield 7, 3) := by decide +kernel
theorem dX4_dropPhrase_80 : decode cX4_dropPhrase 80 = .ok (.bipush 7, 2) := by decide +kernel
theorem dX4_dropPhrase_82 : decode cX4_dropPhrase 82 = .ok (.iaload, 1) := by decide +kernel
theorem dX4_dropPhrase_83 : decode cX4_dropPhrase 83 = .ok (.invokevirtual 150, 3) := by decide +kernel
theorem dX4_dropPhrase_86 : decode cX4_dropPhrase 86 = .ok (.iastore, 1) := by decide +kernel
theorem dX4_dropPhrase_87 : decode cX4_dropPhrase 87 = .ok (.aload_n 0, 1) := by decide +kernel
theorem dX4_dropPhrase_88 : decode cX4_dropPhrase 88 = .ok (.getfield 7, 3) := by decide +kernel
theorem dX4_dropPhrase_91 : decode cX4_dropPhrase 91 = .ok (.bipush 7, 2) := by decide +kernel
theorem dX4_dropPhrase_93 : decode cX4_dropPhrase 93 = .ok (.iaload, 1) := by decide +kernel
theorem dX4_dropPhrase_94 : decode cX4_dropPhrase 94 = .ok (.ireturn, 1) := by decide +kernel
theorem dX4_stress_0 : decode cX4_stress 0 = .ok (.aload_n 0, 1) := by decide +kernel
theorem dX4_stress_1 : decode cX4_stress 1 = .ok (.iload_n 1, 1) := by decide +kernel
theorem dX4_stress_2 : decode cX4_stress 2 = .ok (.iload_n 2, 1) := by decide +kernel
theorem dX4_stress_3 : decode cX4_stress 3 = .ok (.invokevirtual 153, 3) := by decide +kernel
theorem dX4_stress_6 : decode cX4_stress 6 = .ok (.ifCond .ne 5, 3) := by decide +kernel
theorem dX4_stress_9 : decode cX4_stress 9 = .ok (.iconst (-1), 1) := by decide +kernel
theorem dX4_stress_10 : decode cX4_stress 10 = .ok (.ireturn, 1) := by decide +kernel
theorem dX4_stress_11 : decode cX4_stress 11 = .ok (.aload_n 0, 1) := by decide +kernel
theorem dX4_stress_12 : decode cX4_stress 12 = .ok (.invokevirtual 131, 3) := by decide +kernel
theorem dX4_stress_15 : decode cX4_stress 15 = .ok (.bipush 8, 2) := by decide +kernel
theorem dX4_stress_17 : decode cX4_stress 17 = .ok (.iconst 2, 1) := by decide +kernel
theorem dX4_stress_18 : decode cX4_stress 18 = .ok (.iload_n 1, 1) := by decide +kernel
theorem dX4_stress_19 : decode cX4_stress 19 = .ok (.imul, 1) := by decide +kernel
theorem dX4_stress_20 : decode cX4_stress 20 = .ok (.iadd, 1) := by decide +kernel
theorem dX4_stress_21 : decode cX4_stress 21 = .ok (.iconst 1, 1) := by decide +kernel
theorem dX4_stress_22 : decode cX4_stress 22 = .ok (.iadd, 1) := by decide +kernel
theorem dX4_stress_23 : decode cX4_stress 23 = .ok (.istore 4, 2) := by decide +kernel
theorem dX4_stress_25 : decode cX4_stress 25 = .ok (.aload_n 0, 1) := by decide +kernel
theorem dX4_stress_26 : decode cX4_stress 26 = .ok (.getfield 7, 3) := by decide +kernel
theorem dX4_stress_29 : decode cX4_stress 29 = .ok (.iload 4, 2) := by decide +kernel
theorem dX4_stress_31 : decode cX4_stress 31 = .ok (.iaload, 1) := by decide +kernel
theorem dX4_stress_32 : decode cX4_stress 32 = .ok (.iload_n 2, 1) := by decide +kernel
theorem dX4_stress_33 : decode cX4_stress 33 = .ok (.ishr, 1) := by decide +kernel
theorem dX4_stress_34 : decode cX4_stress 34 = .ok (.iconst 1, 1) := by decide +kernel
theorem dX4_stress_35 : decode cX4_stress 35 = .ok (.iand, 1) := by decide +kernel
theorem dX4_stress_36 : decode cX4_stress 36 = .ok (.istore 5, 2) := by decide +kernel
theorem dX4_stress_38 : decode cX4_stress 38 = .ok (.aload_n 0, 1) := by decide +kernel
theorem dX4_stress_39 : decode cX4_stress 39 = .ok (.getfield 7, 3) := by decide +kernel
theorem dX4_stress_42 : decode cX4_stress 42 = .ok (.iload 4, 2) := by decide +kernel
theorem dX4_stress_44 : decode cX4_stress 44 = .ok (.aload_n 0, 1) := by decide +kernel
theorem dX4_stress_45 : decode cX4_stress 45 = .ok (.getfield 7, 3) := by decide +kernel
theorem dX4_stress_48 : decode cX4_stress 48 = .ok (.iload 4, 2) := by decide +kernel
theorem dX4_stress_50 : decode cX4_stress 50 = .ok (.iaload, 1) := by decide +kernel
theorem dX4_stress_51 : decode cX4_stress 51 = .ok (.iconst 1, 1) := by decide +kernel
theorem dX4_stress_52 : decode cX4_stress 52 = .ok (.iload_n 2, 1) := by decide +kernel
theorem dX4_stress_53 : decode cX4_stress 53 = .ok (.ishl, 1) := by decide +kernel
theorem dX4_stress_54 : decode cX4_stress 54 = .ok (.iconst (-1), 1) := by decide +kernel
theorem dX4_stress_55 : decode cX4_stress 55 = .ok (.ixor, 1) := by decide +kernel
theorem dX4_stress_56 : decode cX4_stress 56 = .ok (.iand, 1) := by decide +kernel
theorem dX4_stress_57 : decode cX4_stress 57 = .ok (.iload_n 3, 1) := by decide +kernel
theorem dX4_stress_58 : decode cX4_stress 58 = .ok (.ifCond .eq 9, 3) := by decide +kernel
theorem dX4_stress_61 : decode cX4_stress 61 = .ok (.iconst 1, 1) := by decide +kernel
theorem dX4_stress_62 : decode cX4_stress 62 = .ok (.iload_n 2, 1) := by decide +kernel
theorem dX4_stress_63 : decode cX4_stress 63 = .ok (.ishl, 1) := by decide +kernel
theorem dX4_stress_64 : decode cX4_stress 64 = .ok (.goto 4, 3) := by decide +kernel
theorem dX4_stress_67 : decode cX4_stress 67 = .ok (.iconst 0, 1) := by decide +kernel
theorem dX4_stress_68 : decode cX4_stress 68 = .ok (.ior, 1) := by decide +kernel
theorem dX4_stress_69 : decode cX4_stress 69 = .ok (.iastore, 1) := by decide +kernel
theorem dX4_stress_70 : decode cX4_stress 70 = .ok (.iload 5, 2) := by decide +kernel
theorem dX4_stress_72 : decode cX4_stress 72 = .ok (.ireturn, 1) := by decide +kernel
theorem dX4_kindAt_0 : decode cX4_kindAt 0 = .ok (.aload_n 0, 1) := by decide +kernel
theorem dX4_kindAt_1 : decode cX4_kindAt 1 = .ok (.getfield 7, 3) := by decide +kernel
theorem dX4_kindAt_4 : decode cX4_kindAt 4 = .ok (.bipush 40, 2) := by decide +kernel
theorem dX4_kindAt_6 : decode cX4_kindAt 6 = .ok (.iconst 3, 1) := by decide +kernel
theorem dX4_kindAt_7 : decode cX4_kindAt 7 = .ok (.iload_n 1, 1) := by decide +kernel
theorem dX4_kindAt_8 : decode cX4_kindAt 8 = .ok (.imul, 1) := by decide +kernel
theorem dX4_kindAt_9 : decode cX4_kindAt 9 = .ok (.iadd, 1) := by decide +kernel
theorem dX4_kindAt_10 : decode cX4_kindAt 10 = .ok (.iconst 1, 1) := by decide +kernel
theorem dX4_kindAt_11 : decode cX4_kindAt 11 = .ok (.iadd, 1) := by decide +kernel
theorem dX4_kindAt_12 : decode cX4_kindAt 12 = .ok (.iaload, 1) := by decide +kernel
theorem dX4_kindAt_13 : decode cX4_kindAt 13 = .ok (.iload_n 2, 1) := by decide +kernel
theorem dX4_kindAt_14 : decode cX4_kindAt 14 = .ok (.invokestatic 84, 3) := by decide +kernel
theorem dX4_kindAt_17 : decode cX4_kindAt 17 = .ok (.ifCond .eq 7, 3) := by decide +kernel
theorem dX4_kindAt_20 : decode cX4_kindAt 20 = .ok (.iconst 2, 1) := by decide +kernel
theorem dX4_kindAt_21 : decode cX4_kindAt 21 = .ok (.goto 28, 3) := by decide +kernel
theorem dX4_kindAt_24 : decode cX4_kindAt 24 = .ok (.aload_n 0, 1) := by decide +kernel
theorem dX4_kindAt_25 : decode cX4_kindAt 25 = .ok (.getfield 7, 3) := by decide +kernel
theorem dX4_kindAt_28 : decode cX4_kindAt 28 = .ok (.bipush 40, 2) := by decide +kernel
theorem dX4_kindAt_30 : decode cX4_kindAt 30 = .ok (.iconst 3, 1) := by decide +kernel
theorem dX4_kindAt_31 : decode cX4_kindAt 31 = .ok (.iload_n 1, 1) := by decide +kernel
theorem dX4_kindAt_32 : decode cX4_kindAt 32 = .ok (.imul, 1) := by decide +kernel
theorem dX4_kindAt_33 : decode cX4_kindAt 33 = .ok (.iadd, 1) := by decide +kernel
theorem dX4_kindAt_34 : decode cX4_kindAt 34 = .ok (.iconst 2, 1) := by decide +kernel
theorem dX4_kindAt_35 : decode cX4_kindAt 35 = .ok (.iadd, 1) := by decide +kernel
theorem dX4_kindAt_36 : decode cX4_kindAt 36 = .ok (.iaload, 1) := by decide +kernel
theorem dX4_kindAt_37 : decode cX4_kindAt 37 = .ok (.iload_n 2, 1) := by decide +kernel
theorem dX4_kindAt_38 : decode cX4_kindAt 38 = .ok (.invokestatic 84, 3) := by decide +kernel
theorem dX4_kindAt_41 : decode cX4_kindAt 41 = .ok (.ifCond .eq 7, 3) := by decide +kernel
theorem dX4_kindAt_44 : decode cX4_kindAt 44 = .ok (.iconst 1, 1) := by decide +kernel
theorem dX4_kindAt_45 : decode cX4_kindAt 45 = .ok (.goto 4, 3) := by decide +kernel
theorem dX4_kindAt_48 : decode cX4_kindAt 48 = .ok (.iconst 0, 1) := by decide +kernel
theorem dX4_kindAt_49 : decode cX4_kindAt 49 = .ok (.ireturn, 1) := by decide +kernel
theorem dX4_beat_0 : decode cX4_beat 0 = .ok (.aload_n 0, 1) := by decide +kernel
theorem dX4_beat_1 : decode cX4_beat 1 = .ok (.iload_n 1, 1) := by decide +kernel
theorem dX4_beat_2 : decode cX4_beat 2 = .ok (.iload_n 2, 1) := by decide +kernel
theorem dX4_beat_3 : decode cX4_beat 3 = .ok (.invokevirtual 156, 3) := by decide +kernel
theorem dX4_beat_6 : decode cX4_beat 6 = .ok (.ifCond .ne 5, 3) := by decide +kernel
theorem dX4_beat_9 : decode cX4_beat 9 = .ok (.iconst (-1), 1) := by decide +kernel
theorem dX4_beat_10 : decode cX4_beat 10 = .ok (.ireturn, 1) := by decide +kernel
theorem dX4_beat_11 : decode cX4_beat 11 = .ok (.iload_n 3, 1) := by decide +kernel
theorem dX4_beat_12 : decode cX4_beat 12 = .ok (.iconst 0, 1) := by decide +kernel
theorem dX4_beat_13 : decode cX4_beat 13 = .ok (.iconst 2, 1) := by decide +kernel
theorem dX4_beat_14 : decode cX4_beat 14 = .ok (.invokestatic 48, 3) := by decide +kernel
theorem dX4_beat_17 : decode cX4_beat 17 = .ok (.ifCond .ne 6, 3) := by decide +kernel
theorem dX4_beat_20 : decode cX4_beat 20 = .ok (.bipush (-2), 2) := by decide +kernel
theorem dX4_beat_22 : decode cX4_beat 22 = .ok (.ireturn, 1) := by decide +kernel
theorem dX4_beat_23 : decode cX4_beat 23 = .ok (.aload_n 0, 1) := by decide +kernel
theorem dX4_beat_24 : decode cX4_beat 24 = .ok (.invokevirtual 131, 3) := by decide +kernel
theorem dX4_beat_27 : decode cX4_beat 27 = .ok (.aload_n 0, 1) := by decide +kernel
theorem dX4_beat_28 : decode cX4_beat 28 = .ok (.iload_n 1, 1) := by decide +kernel
theorem dX4_beat_29 : decode cX4_beat 29 = .ok (.iload_n 2, 1) := by decide +kernel
theorem dX4_beat_30 : decode cX4_beat 30 = .ok (.invokevirtual 159, 3) := by decide +kernel
theorem dX4_beat_33 : decode cX4_beat 33 = .ok (.istore 4, 2) := by decide +kernel
theorem dX4_beat_35 : decode cX4_beat 35 = .ok (.iconst 1, 1) := by decide +kernel
theorem dX4_beat_36 : decode cX4_beat 36 = .ok (.istore 5, 2) := by decide +kernel
theorem dX4_beat_38 : decode cX4_beat 38 = .ok (.iload 5, 2) := by decide +kernel
theorem dX4_beat_40 : decode cX4_beat 40 = .ok (.iconst 2, 1) := by decide +kernel
theorem dX4_beat_41 : decode cX4_beat 41 = .ok (.if_icmp .gt 56, 3) := by decide +kernel
theorem dX4_beat_44 : decode cX4_beat 44 = .ok (.bipush 40, 2) := by decide +kernel
theorem dX4_beat_46 : decode cX4_beat 46 = .ok (.iconst 3, 1) := by decide +kernel
theorem dX4_beat_47 : decode cX4_beat 47 = .ok (.iload_n 1, 1) := by decide +kernel
theorem dX4_beat_48 : decode cX4_beat 48 = .ok (.imul, 1) := by decide +kernel
theorem dX4_beat_49 : decode cX4_beat 49 = .ok (.iadd, 1) := by decide +kernel
theorem dX4_beat_50 : decode cX4_beat 50 = .ok (.iconst 3, 1) := by decide +kernel
theorem dX4_beat_51 : decode cX4_beat 51 = .ok (.iadd, 1) := by decide +kernel
theorem dX4_beat_52 : decode cX4_beat 52 = .ok (.iload 5, 2) := by decide +kernel
theorem dX4_beat_54 : decode cX4_beat 54 = .ok (.isub, 1) := by decide +kernel
theorem dX4_beat_55 : decode cX4_beat 55 = .ok (.istore 6, 2) := by decide +kernel
theorem dX4_beat_57 : decode cX4_beat 57 = .ok (.aload_n 0, 1) := by decide +kernel
theorem dX4_beat_58 : decode cX4_beat 58 = .ok (.getfield 7, 3) := by decide +kernel
theorem dX4_beat_61 : decode cX4_beat 61 = .ok (.iload 6, 2) := by decide +kernel
theorem dX4_beat_63 : decode cX4_beat 63 = .ok (.aload_n 0, 1) := by decide +kernel
theorem dX4_beat_64 : decode cX4_beat 64 = .ok (.getfield 7, 3) := by decide +kernel
theorem dX4_beat_67 : decode cX4_beat 67 = .ok (.iload 6, 2) := by decide +kernel
theorem dX4_beat_69 : decode cX4_beat 69 = .ok (.iaload, 1) := by decide +kernel
theorem dX4_beat_70 : decode cX4_beat 70 = .ok (.iconst 1, 1) := by decide +kernel
theorem dX4_beat_71 : decode cX4_beat 71 = .ok (.iload_n 2, 1) := by decide +kernel
theorem dX4_beat_72 : decode cX4_beat 72 = .ok (.ishl, 1) := by decide +kernel
theorem dX4_beat_73 : decode cX4_beat 73 = .ok (.iconst (-1), 1) := by decide +kernel
theorem dX4_beat_74 : decode cX4_beat 74 = .ok (.ixor, 1) := by decide +kernel
theorem dX4_beat_75 : decode cX4_beat 75 = .ok (.iand, 1) := by decide +kernel
theorem dX4_beat_76 : decode cX4_beat 76 = .ok (.iload_n 3, 1) := by decide +kernel
theorem dX4_beat_77 : decode cX4_beat 77 = .ok (.iload 5, 2) := by decide +kernel
theorem dX4_beat_79 : decode cX4_beat 79 = .ok (.if_icmp .ne 9, 3) := by decide +kernel
theorem dX4_beat_82 : decode cX4_beat 82 = .ok (.iconst 1, 1) := by decide +kernel
theorem dX4_beat_83 : decode cX4_beat 83 = .ok (.iload_n 2, 1) := by decide +kernel
theorem dX4_beat_84 : decode cX4_beat 84 = .ok (.ishl, 1) := by decide +kernel
theorem dX4_beat_85 : decode cX4_beat 85 = .ok (.goto 4, 3) := by decide +kernel
theorem dX4_beat_88 : decode cX4_beat 88 = .ok (.iconst 0, 1) := by decide +kernel
theorem dX4_beat_89 : decode cX4_beat 89 = .ok (.ior, 1) := by decide +kernel
theorem dX4_beat_90 : decode cX4_beat 90 = .ok (.iastore, 1) := by decide +kernel
theorem dX4_beat_91 : decode cX4_beat 91 = .ok (.iinc 5 1, 3) := by decide +kernel
theorem dX4_beat_94 : decode cX4_beat 94 = .ok (.goto (-56), 3) := by decide +kernel
theorem dX4_beat_97 : decode cX4_beat 97 = .ok (.iload 4, 2) := by decide +kernel
theorem dX4_beat_99 : decode cX4_beat 99 = .ok (.ireturn, 1) := by decide +kernel
theorem dX4_sings_0 : decode cX4_sings 0 = .ok (.aload_n 0, 1) := by decide +kernel
theorem dX4_sings_1 : decode cX4_sings 1 = .ok (.getfield 7, 3) := by decide +kernel
theorem dX4_sings_4 : decode cX4_sings 4 = .ok (.bipush 64, 2) := by decide +kernel
theorem dX4_sings_6 : decode cX4_sings 6 = .ok (.aload_n 0, 1) := by decide +kernel
theorem dX4_sings_7 : decode cX4_sings 7 = .ok (.getfield 7, 3) := by decide +kernel
theorem dX4_sings_10 : decode cX4_sings 10 = .ok (.bipush 6, 2) := by decide +kernel
theorem dX4_sings_12 : decode cX4_sings 12 = .ok (.iaload, 1) := by decide +kernel
theorem dX4_sings_13 : decode cX4_sings 13 = .ok (.iadd, 1) := by decide +kernel
theorem dX4_sings_14 : decode cX4_sings 14 = .ok (.iload_n 1, 1) := by decide +kernel
theorem dX4_sings_15 : decode cX4_sings 15 = .ok (.iastore, 1) := by decide +kernel
theorem dX4_sings_16 : decode cX4_sings 16 = .ok (.aload_n 0, 1) := by decide +kernel
theorem dX4_sings_17 : decode cX4_sings 17 = .ok (.getfield 7, 3) := by decide +kernel
theorem dX4_sings_20 : decode cX4_sings 20 = .ok (.bipush 6, 2) := by decide +kernel
theorem dX4_sings_22 : decode cX4_sings 22 = .ok (.dup2, 1) := by decide +kernel
theorem dX4_sings_23 : decode cX4_sings 23 = .ok (.iaload, 1) := by decide +kernel
theorem dX4_sings_24 : decode cX4_sings 24 = .ok (.iconst 1, 1) := by decide +kernel
theorem dX4_sings_25 : decode cX4_sings 25 = .ok (.iadd, 1) := by decide +kernel
theorem dX4_sings_26 : decode cX4_sings 26 = .ok (.iastore, 1) := by decide +kernel
theorem dX4_sings_27 : decode cX4_sings 27 = .ok (.return_, 1) := by decide +kernel
theorem dX4_sing_0 : decode cX4_sing 0 = .ok (.aload_n 0, 1) := by decide +kernel
theorem dX4_sing_1 : decode cX4_sing 1 = .ok (.iload_n 1, 1) := by decide +kernel
theorem dX4_sing_2 : decode cX4_sing 2 = .ok (.invokevirtual 52, 3) := by decide +kernel
theorem dX4_sing_5 : decode cX4_sing 5 = .ok (.ifCond .ne 5, 3) := by decide +kernel
theorem dX4_sing_8 : decode cX4_sing 8 = .ok (.iconst (-1), 1) := by decide +kernel
theorem dX4_sing_9 : decode cX4_sing 9 = .ok (.ireturn, 1) := by decide +kernel
theorem dX4_sing_10 : decode cX4_sing 10 = .ok (.aload_n 0, 1) := by decide +kernel
theorem dX4_sing_11 : decode cX4_sing 11 = .ok (.getfield 7, 3) := by decide +kernel
theorem dX4_sing_14 : decode cX4_sing 14 = .ok (.bipush 6, 2) := by decide +kernel
theorem dX4_sing_16 : decode cX4_sing 16 = .ok (.iaload, 1) := by decide +kernel
theorem dX4_sing_17 : decode cX4_sing 17 = .ok (.bipush 40, 2) := by decide +kernel
theorem dX4_sing_19 : decode cX4_sing 19 = .ok (.if_icmp .ne 6, 3) := by decide +kernel
theorem dX4_sing_22 : decode cX4_sing 22 = .ok (.bipush (-4), 2) := by decide +kernel
theorem dX4_sing_24 : decode cX4_sing 24 = .ok (.ireturn, 1) := by decide +kernel
theorem dX4_sing_25 : decode cX4_sing 25 = .ok (.aload_n 0, 1) := by decide +kernel
theorem dX4_sing_26 : decode cX4_sing 26 = .ok (.invokevirtual 131, 3) := by decide +kernel
theorem dX4_sing_29 : decode cX4_sing 29 = .ok (.aload_n 0, 1) := by decide +kernel
theorem dX4_sing_30 : decode cX4_sing 30 = .ok (.iload_n 1, 1) := by decide +kernel
theorem dX4_sing_31 : decode cX4_sing 31 = .ok (.invokevirtual 162, 3) := by decide +kernel
theorem dX4_sing_34 : decode cX4_sing 34 = .ok (.aload_n 0, 1) := by decide +kernel
theorem dX4_sing_35 : decode cX4_sing 35 = .ok (.getfield 7, 3) := by decide +kernel
theorem dX4_sing_38 : decode cX4_sing 38 = .ok (.bipush 6, 2) := by decide +kernel
theorem dX4_sing_40 : decode cX4_sing 40 = .ok (.iaload, 1) := by decide +kernel
theorem dX4_sing_41 : decode cX4_sing 41 = .ok (.ireturn, 1) := by decide +kernel
theorem dX4_play_0 : decode cX4_play 0 = .ok (.aload_n 0, 1) := by decide +kernel
theorem dX4_play_1 : decode cX4_play 1 = .ok (.iload_n 1, 1) := by decide +kernel
theorem dX4_play_2 : decode cX4_play 2 = .ok (.invokevirtual 60, 3) := by decide +kernel
theorem dX4_play_5 : decode cX4_play 5 = .ok (.ifCond .ne 5, 3) := by decide +kernel
theorem dX4_play_8 : decode cX4_play 8 = .ok (.iconst (-1), 1) := by decide +kernel
theorem dX4_play_9 : decode cX4_play 9 = .ok (.ireturn, 1) := by decide +kernel
theorem dX4_play_10 : decode cX4_play 10 = .ok (.aload_n 0, 1) := by decide +kernel
theorem dX4_play_11 : decode cX4_play 11 = .ok (.getfield 7, 3) := by decide +kernel
theorem dX4_play_14 : decode cX4_play 14 = .ok (.bipush 7, 2) := by decide +kernel
theorem dX4_play_16 : decode cX4_play 16 = .ok (.iaload, 1) := by decide +kernel
theorem dX4_play_17 : decode cX4_play 17 = .ok (.bipush 8, 2) := by decide +kernel
theorem dX4_play_19 : decode cX4_play 19 = .ok (.if_icmp .ne 6, 3) := by decide +kernel
theorem dX4_play_22 : decode cX4_play 22 = .ok (.bipush (-4), 2) := by decide +kernel
theorem dX4_play_24 : decode cX4_play 24 = .ok (.ireturn, 1) := by decide +kernel
theorem dX4_play_25 : decode cX4_play 25 = .ok (.aload_n 0, 1) := by decide +kernel
theorem dX4_play_26 : decode cX4_play 26 = .ok (.invokevirtual 131, 3) := by decide +kernel
theorem dX4_play_29 : decode cX4_play 29 = .ok (.aload_n 0, 1) := by decide +kernel
theorem dX4_play_30 : decode cX4_play 30 = .ok (.getfield 7, 3) := by decide +kernel
theorem dX4_play_33 : decode cX4_play 33 = .ok (.bipush 104, 2) := by decide +kernel
theorem dX4_play_35 : decode cX4_play 35 = .ok (.aload_n 0, 1) := by decide +kernel
theorem dX4_play_36 : decode cX4_play 36 = .ok (.getfield 7, 3) := by decide +kernel
theorem dX4_play_39 : decode cX4_play 39 = .ok (.bipush 7, 2) := by decide +kernel
theorem dX4_play_41 : decode cX4_play 41 = .ok (.iaload, 1) := by decide +kernel
theorem dX4_play_42 : decode cX4_play 42 = .ok (.iadd, 1) := by decide +kernel
theorem dX4_play_43 : decode cX4_play 43 = .ok (.iload_n 1, 1) := by decide +kernel
theorem dX4_play_44 : decode cX4_play 44 = .ok (.iastore, 1) := by decide +kernel
theorem dX4_play_45 : decode cX4_play 45 = .ok (.aload_n 0, 1) := by decide +kernel
theorem dX4_play_46 : decode cX4_play 46 = .ok (.getfield 7, 3) := by decide +kernel
theorem dX4_play_49 : decode cX4_play 49 = .ok (.bipush 7, 2) := by decide +kernel
theorem dX4_play_51 : decode cX4_play 51 = .ok (.dup2, 1) := by decide +kernel
theorem dX4_play_52 : decode cX4_play 52 = .ok (.iaload, 1) := by decide +kernel
theorem dX4_play_53 : decode cX4_play 53 = .ok (.iconst 1, 1) := by decide +kernel
theorem dX4_play_54 : decode cX4_play 54 = .ok (.iadd, 1) := by decide +kernel
theorem dX4_play_55 : decode cX4_play 55 = .ok (.iastore, 1) := by decide +kernel
theorem dX4_play_56 : decode cX4_play 56 = .ok (.aload_n 0, 1) := by decide +kernel
theorem dX4_play_57 : decode cX4_play 57 = .ok (.getfield 7, 3) := by decide +kernel
theorem dX4_play_60 : decode cX4_play 60 = .ok (.bipush 7, 2) := by decide +kernel
theorem dX4_play_62 : decode cX4_play 62 = .ok (.iaload, 1) := by decide +kernel
theorem dX4_play_63 : decode cX4_play 63 = .ok (.ireturn, 1) := by decide +kernel
theorem dX4_verse_0 : decode cX4_verse 0 = .ok (.aload_n 0, 1) := by decide +kernel
theorem dX4_verse_1 : decode cX4_verse 1 = .ok (.iload_n 1, 1) := by decide +kernel
theorem dX4_verse_2 : decode cX4_verse 2 = .ok (.invokevirtual 52, 3) := by decide +kernel
theorem dX4_verse_5 : decode cX4_verse 5 = .ok (.ifCond .eq 19, 3) := by decide +kernel
theorem dX4_verse_8 : decode cX4_verse 8 = .ok (.aload_n 0, 1) := by decide +kernel
theorem dX4_verse_9 : decode cX4_verse 9 = .ok (.iload_n 2, 1) := by decide +kernel
theorem dX4_verse_10 : decode cX4_verse 10 = .ok (.invokevirtual 52, 3) := by decide +kernel
theorem dX4_verse_13 : decode cX4_verse 13 = .ok (.ifCond .eq 11, 3) := by decide +kernel
theorem dX4_verse_16 : decode cX4_verse 16 = .ok (.aload_n 0, 1) := by decide +kernel
theorem dX4_verse_17 : decode cX4_verse 17 = .ok (.iload_n 3, 1) := by decide +kernel
theorem dX4_verse_18 : decode cX4_verse 18 = .ok (.invokevirtual 52, 3) := by decide +kernel
theorem dX4_verse_21 : decode cX4_verse 21 = .ok (.ifCond .ne 5, 3) := by decide +kernel
theorem dX4_verse_24 : decode cX4_verse 24 = .ok (.iconst (-1), 1) := by decide +kernel
theorem dX4_verse_25 : decode cX4_verse 25 = .ok (.ireturn, 1) := by decide +kernel
theorem dX4_verse_26 : decode cX4_verse 26 = .ok (.iload_n 2, 1) := by decide +kernel
theorem dX4_verse_27 : decode cX4_verse 27 = .ok (.iload_n 1, 1) := by decide +kernel
theorem dX4_verse_28 : decode cX4_verse 28 = .ok (.if_icmp .ge 6, 3) := by decide +kernel
theorem dX4_verse_31 : decode cX4_verse 31 = .ok (.bipush (-2), 2) := by decide +kernel
theorem dX4_verse_33 : decode cX4_verse 33 = .ok (.ireturn, 1) := by decide +kernel
theorem dX4_verse_34 : decode cX4_verse 34 = .ok (.aload_n 0, 1) := by decide +kernel
theorem dX4_verse_35 : decode cX4_verse 35 = .ok (.getfield 7, 3) := by decide +kernel
theorem dX4_verse_38 : decode cX4_verse 38 = .ok (.bipush 6, 2) := by decide +kernel
theorem dX4_verse_40 : decode cX4_verse 40 = .ok (.iaload, 1) := by decide +kernel
theorem dX4_verse_41 : decode cX4_verse 41 = .ok (.iconst 2, 1) := by decide +kernel
theorem dX4_verse_42 : decode cX4_verse 42 = .ok (.iload_n 2, 1) := by decide +kernel
theorem dX4_verse_43 : decode cX4_verse 43 = .ok (.iload_n 1, 1) := by decide +kernel
theorem dX4_verse_44 : decode cX4_verse 44 = .ok (.isub, 1) := by decide +kernel
theorem dX4_verse_45 : decode cX4_verse 45 = .ok (.iconst 1, 1) := by decide +kernel
theorem dX4_verse_46 : decode cX4_verse 46 = .ok (.iadd, 1) := by decide +kernel
theorem dX4_verse_47 : decode cX4_verse 47 = .ok (.imul, 1) := by decide +kernel
theorem dX4_verse_48 : decode cX4_verse 48 = .ok (.iadd, 1) := by decide +kernel
theorem dX4_verse_49 : decode cX4_verse 49 = .ok (.bipush 40, 2) := by decide +kernel
theorem dX4_verse_51 : decode cX4_verse 51 = .ok (.if_icmp .le 6, 3) := by decide +kernel
theorem dX4_verse_54 : decode cX4_verse 54 = .ok (.bipush (-4), 2) := by decide +kernel
theorem dX4_verse_56 : decode cX4_verse 56 = .ok (.ireturn, 1) := by decide +kernel
theorem dX4_verse_57 : decode cX4_verse 57 = .ok (.aload_n 0, 1) := by decide +kernel
theorem dX4_verse_58 : decode cX4_verse 58 = .ok (.invokevirtual 131, 3) := by decide +kernel
theorem dX4_verse_61 : decode cX4_verse 61 = .ok (.iload_n 1, 1) := by decide +kernel
theorem dX4_verse_62 : decode cX4_verse 62 = .ok (.istore 4, 2) := by decide +kernel
theorem dX4_verse_64 : decode cX4_verse 64 = .ok (.iload 4, 2) := by decide +kernel
theorem dX4_verse_66 : decode cX4_verse 66 = .ok (.iload_n 2, 1) := by decide +kernel
theorem dX4_verse_67 : decode cX4_verse 67 = .ok (.if_icmp .gt 20, 3) := by decide +kernel
theorem dX4_verse_70 : decode cX4_verse 70 = .ok (.aload_n 0, 1) := by decide +kernel
theorem dX4_verse_71 : decode cX4_verse 71 = .ok (.iload 4, 2) := by decide +kernel
theorem dX4_verse_73 : decode cX4_verse 73 = .ok (.invokevirtual 162, 3) := by decide +kernel
theorem dX4_verse_76 : decode cX4_verse 76 = .ok (.aload_n 0, 1) := by decide +kernel
theorem dX4_verse_77 : decode cX4_verse 77 = .ok (.iload_n 3, 1) := by decide +kernel
theorem dX4_verse_78 : decode cX4_verse 78 = .ok (.invokevirtual 162, 3) := by decide +kernel
theorem dX4_verse_81 : decode cX4_verse 81 = .ok (.iinc 4 1, 3) := by decide +kernel
theorem dX4_verse_84 : decode cX4_verse 84 = .ok (.goto (-20), 3) := by decide +kernel
theorem dX4_verse_87 : decode cX4_verse 87 = .ok (.aload_n 0, 1) := by decide +kernel
theorem dX4_verse_88 : decode cX4_verse 88 = .ok (.getfield 7, 3) := by decide +kernel
theorem dX4_verse_91 : decode cX4_verse 91 = .ok (.bipush 6, 2) := by decide +kernel
theorem dX4_verse_93 : decode cX4_verse 93 = .ok (.iaload, 1) := by decide +kernel
theorem dX4_verse_94 : decode cX4_verse 94 = .ok (.ireturn, 1) := by decide +kernel
theorem dX4_clear_0 : decode cX4_clear 0 = .ok (.aload_n 0, 1) := by decide +kernel
theorem dX4_clear_1 : decode cX4_clear 1 = .ok (.invokevirtual 131, 3) := by decide +kernel
theorem dX4_clear_4 : decode cX4_clear 4 = .ok (.iload_n 1, 1) := by decide +kernel
theorem dX4_clear_5 : decode cX4_clear 5 = .ok (.ifCond .eq 8, 3) := by decide +kernel
theorem dX4_clear_8 : decode cX4_clear 8 = .ok (.bipush 7, 2) := by decide +kernel
theorem dX4_clear_10 : decode cX4_clear 10 = .ok (.goto 5, 3) := by decide +kernel
theorem dX4_clear_13 : decode cX4_clear 13 = .ok (.bipush 6, 2) := by decide +kernel
theorem dX4_clear_15 : decode cX4_clear 15 = .ok (.istore_n 2, 1) := by decide +kernel
theorem dX4_clear_16 : decode cX4_clear 16 = .ok (.aload_n 0, 1) := by decide +kernel
theorem dX4_clear_17 : decode cX4_clear 17 = .ok (.getfield 7, 3) := by decide +kernel
theorem dX4_clear_20 : decode cX4_clear 20 = .ok (.iload_n 2, 1) := by decide +kernel
theorem dX4_clear_21 : decode cX4_clear 21 = .ok (.iaload, 1) := by decide +kernel
theorem dX4_clear_22 : decode cX4_clear 22 = .ok (.istore_n 3, 1) := by decide +kernel
theorem dX4_clear_23 : decode cX4_clear 23 = .ok (.aload_n 0, 1) := by decide +kernel
theorem dX4_clear_24 : decode cX4_clear 24 = .ok (.getfield 7, 3) := by decide +kernel
theorem dX4_clear_27 : decode cX4_clear 27 = .ok (.iload_n 2, 1) := by decide +kernel
theorem dX4_clear_28 : decode cX4_clear 28 = .ok (.iconst 0, 1) := by decide +kernel
theorem dX4_clear_29 : decode cX4_clear 29 = .ok (.iastore, 1) := by decide +kernel
theorem dX4_clear_30 : decode cX4_clear 30 = .ok (.iload_n 3, 1) := by decide +kernel
theorem dX4_clear_31 : decode cX4_clear 31 = .ok (.ireturn, 1) := by decide +kernel
theorem dX4_cheapestPhrase_0 : decode cX4_cheapestPhrase 0 = .ok (.bipush (-6), 2) := by decide +kernel
theorem dX4_cheapestPhrase_2 : decode cX4_cheapestPhrase 2 = .ok (.istore_n 2, 1) := by decide +kernel
theorem dX4_cheapestPhrase_3 : decode cX4_cheapestPhrase 3 = .ok (.ldc 88, 2) := by decide +kernel
theorem dX4_cheapestPhrase_5 : decode cX4_cheapestPhrase 5 = .ok (.istore_n 3, 1) := by decide +kernel
theorem dX4_cheapestPhrase_6 : decode cX4_cheapestPhrase 6 = .ok (.iconst 0, 1) := by decide +kernel
theorem dX4_cheapestPhrase_7 : decode cX4_cheapestPhrase 7 = .ok (.istore 4, 2) := by decide +kernel
theorem dX4_cheapestPhrase_9 : decode cX4_cheapestPhrase 9 = .ok (.iload 4, 2) := by decide +kernel
theorem dX4_cheapestPhrase_11 : decode cX4_cheapestPhrase 11 = .ok (.aload_n 0, 1) := by decide +kernel
theorem dX4_cheapestPhrase_12 : decode cX4_cheapestPhrase 12 = .ok (.getfield 7, 3) := by decide +kernel
theorem dX4_cheapestPhrase_15 : decode cX4_cheapestPhrase 15 = .ok (.iconst 5, 1) := by decide +kernel
theorem dX4_cheapestPhrase_16 : decode cX4_cheapestPhrase 16 = .ok (.iaload, 1) := by decide +kernel
theorem dX4_cheapestPhrase_17 : decode cX4_cheapestPhrase 17 = .ok (.if_icmp .ge 44, 3) := by decide +kernel
theorem dX4_cheapestPhrase_20 : decode cX4_cheapestPhrase 20 = .ok (.aload_n 0, 1) := by decide +kernel
theorem dX4_cheapestPhrase_21 : decode cX4_cheapestPhrase 21 = .ok (.iload_n 1, 1) := by decide +kernel
theorem dX4_cheapestPhrase_22 : decode cX4_cheapestPhrase 22 = .ok (.iload 4, 2) := by decide +kernel
theorem dX4_cheapestPhrase_24 : decode cX4_cheapestPhrase 24 = .ok (.invokevirtual 166, 3) := by decide +kernel
theorem dX4_cheapestPhrase_27 : decode cX4_cheapestPhrase 27 = .ok (.istore 5, 2) := by decide +kernel
theorem dX4_cheapestPhrase_29 : decode cX4_cheapestPhrase 29 = .ok (.iload 5, 2) := by decide +kernel
theorem dX4_cheapestPhrase_31 : decode cX4_cheapestPhrase 31 = .ok (.iload_n 3, 1) := by decide +kernel
theorem dX4_cheapestPhrase_32 : decode cX4_cheapestPhrase 32 = .ok (.if_icmp .ge 8, 3) := by decide +kernel
theorem dX4_cheapestPhrase_35 : decode cX4_cheapestPhrase 35 = .ok (.iload 4, 2) := by decide +kernel
theorem dX4_cheapestPhrase_37 : decode cX4_cheapestPhrase 37 = .ok (.goto 4, 3) := by decide +kernel
theorem dX4_cheapestPhrase_40 : decode cX4_cheapestPhrase 40 = .ok (.iload_n 2, 1) := by decide +kernel
theorem dX4_cheapestPhrase_41 : decode cX4_cheapestPhrase 41 = .ok (.istore_n 2, 1) := by decide +kernel
theorem dX4_cheapestPhrase_42 : decode cX4_cheapestPhrase 42 = .ok (.iload 5, 2) := by decide +kernel
theorem dX4_cheapestPhrase_44 : decode cX4_cheapestPhrase 44 = .ok (.iload_n 3, 1) := by decide +kernel
theorem dX4_cheapestPhrase_45 : decode cX4_cheapestPhrase 45 = .ok (.if_icmp .ge 8, 3) := by decide +kernel
theorem dX4_cheapestPhrase_48 : decode cX4_cheapestPhrase 48 = .ok (.iload 5, 2) := by decide +kernel
theorem dX4_cheapestPhrase_50 : decode cX4_cheapestPhrase 50 = .ok (.goto 4, 3) := by decide +kernel
theorem dX4_cheapestPhrase_53 : decode cX4_cheapestPhrase 53 = .ok (.iload_n 3, 1) := by decide +kernel
theorem dX4_cheapestPhrase_54 : decode cX4_cheapestPhrase 54 = .ok (.istore_n 3, 1) := by decide +kernel
theorem dX4_cheapestPhrase_55 : decode cX4_cheapestPhrase 55 = .ok (.iinc 4 1, 3) := by decide +kernel
theorem dX4_cheapestPhrase_58 : decode cX4_cheapestPhrase 58 = .ok (.goto (-49), 3) := by decide +kernel
theorem dX4_cheapestPhrase_61 : decode cX4_cheapestPhrase 61 = .ok (.iload_n 2, 1) := by decide +kernel
theorem dX4_cheapestPhrase_62 : decode cX4_cheapestPhrase 62 = .ok (.ireturn, 1) := by decide +kernel
theorem dX4_line_0 : decode cX4_line 0 = .ok (.aload_n 0, 1) := by decide +kernel
theorem dX4_line_1 : decode cX4_line 1 = .ok (.iload_n 1, 1) := by decide +kernel
theorem dX4_line_2 : decode cX4_line 2 = .ok (.invokevirtual 52, 3) := by decide +kernel
theorem dX4_line_5 : decode cX4_line 5 = .ok (.ifCond .ne 5, 3) := by decide +kernel
theorem dX4_line_8 : decode cX4_line 8 = .ok (.iconst (-1), 1) := by decide +kernel
theorem dX4_line_9 : decode cX4_line 9 = .ok (.ireturn, 1) := by decide +kernel
theorem dX4_line_10 : decode cX4_line 10 = .ok (.iload_n 2, 1) := by decide +kernel
theorem dX4_line_11 : decode cX4_line 11 = .ok (.tableswitch 83 0 4 #[33, 39, 56, 62, 77], 33) := by decide +kernel
theorem dX4_line_44 : decode cX4_line 44 = .ok (.aload_n 0, 1) := by decide +kernel
theorem dX4_line_45 : decode cX4_line 45 = .ok (.iload_n 1, 1) := by decide +kernel
theorem dX4_line_46 : decode cX4_line 46 = .ok (.invokevirtual 56, 3) := by decide +kernel
theorem dX4_line_49 : decode cX4_line 49 = .ok (.ireturn, 1) := by decide +kernel
theorem dX4_line_50 : decode cX4_line 50 = .ok (.aload_n 0, 1) := by decide +kernel
theorem dX4_line_51 : decode cX4_line 51 = .ok (.getfield 7, 3) := by decide +kernel
theorem dX4_line_54 : decode cX4_line 54 = .ok (.bipush 8, 2) := by decide +kernel
theorem dX4_line_56 : decode cX4_line 56 = .ok (.iconst 2, 1) := by decide +kernel
theorem dX4_line_57 : decode cX4_line 57 = .ok (.iload_n 1, 1) := by decide +kernel
theorem dX4_line_58 : decode cX4_line 58 = .ok (.imul, 1) := by decide +kernel
theorem dX4_line_59 : decode cX4_line 59 = .ok (.iadd, 1) := by decide +kernel
theorem dX4_line_60 : decode cX4_line 60 = .ok (.iconst 1, 1) := by decide +kernel
theorem dX4_line_61 : decode cX4_line 61 = .ok (.iadd, 1) := by decide +kernel
theorem dX4_line_62 : decode cX4_line 62 = .ok (.iaload, 1) := by decide +kernel
theorem dX4_line_63 : decode cX4_line 63 = .ok (.invokestatic 125, 3) := by decide +kernel
theorem dX4_line_66 : decode cX4_line 66 = .ok (.ireturn, 1) := by decide +kernel
theorem dX4_line_67 : decode cX4_line 67 = .ok (.aload_n 0, 1) := by decide +kernel
theorem dX4_line_68 : decode cX4_line 68 = .ok (.iload_n 1, 1) := by decide +kernel
theorem dX4_line_69 : decode cX4_line 69 = .ok (.invokevirtual 169, 3) := by decide +kernel
theorem dX4_line_72 : decode cX4_line 72 = .ok (.ireturn, 1) := by decide +kernel
theorem dX4_line_73 : decode cX4_line 73 = .ok (.aload_n 0, 1) := by decide +kernel
theorem dX4_line_74 : decode cX4_line 74 = .ok (.iload_n 1, 1) := by decide +kernel
theorem dX4_line_75 : decode cX4_line 75 = .ok (.invokevirtual 169, 3) := by decide +kernel
theorem dX4_line_78 : decode cX4_line 78 = .ok (.iconst 1, 1) := by decide +kernel
theorem dX4_line_79 : decode cX4_line 79 = .ok (.if_icmp .le 7, 3) := by decide +kernel
theorem dX4_line_82 : decode cX4_line 82 = .ok (.iconst 1, 1) := by decide +kernel
theorem dX4_line_83 : decode cX4_line 83 = .ok (.goto 4, 3) := by decide +kernel
theorem dX4_line_86 : decode cX4_line 86 = .ok (.iconst 0, 1) := by decide +kernel
theorem dX4_line_87 : decode cX4_line 87 = .ok (.ireturn, 1) := by decide +kernel
theorem dX4_line_88 : decode cX4_line 88 = .ok (.aload_n 0, 1) := by decide +kernel
theorem dX4_line_89 : decode cX4_line 89 = .ok (.iload_n 1, 1) := by decide +kernel
theorem dX4_line_90 : decode cX4_line 90 = .ok (.invokevirtual 172, 3) := by decide +kernel
theorem dX4_line_93 : decode cX4_line 93 = .ok (.ireturn, 1) := by decide +kernel
theorem dX4_line_94 : decode cX4_line 94 = .ok (.bipush (-2), 2) := by decide +kernel
theorem dX4_line_96 : decode cX4_line 96 = .ok (.ireturn, 1) := by decide +kernel
theorem dX4_longestRow_0 : decode cX4_longestRow 0 = .ok (.iconst 0, 1) := by decide +kernel
theorem dX4_longestRow_1 : decode cX4_longestRow 1 = .ok (.istore_n 2, 1) := by decide +kernel
theorem dX4_longestRow_2 : decode cX4_longestRow 2 = .ok (.iconst 0, 1) := by decide +kernel
theorem dX4_longestRow_3 : decode cX4_longestRow 3 = .ok (.istore_n 3, 1) := by decide +kernel
theorem dX4_longestRow_4 : decode cX4_longestRow 4 = .ok (.iconst 0, 1) := by decide +kernel
theorem dX4_longestRow_5 : decode cX4_longestRow 5 = .ok (.istore 4, 2) := by decide +kernel
theorem dX4_longestRow_7 : decode cX4_longestRow 7 = .ok (.iload 4, 2) := by decide +kernel
theorem dX4_longestRow_9 : decode cX4_longestRow 9 = .ok (.aload_n 0, 1) := by decide +kernel
theorem dX4_longestRow_10 : decode cX4_longestRow 10 = .ok (.iload_n 1, 1) := by decide +kernel
theorem dX4_longestRow_11 : decode cX4_longestRow 11 = .ok (.invokevirtual 63, 3) := by decide +kernel
theorem dX4_longestRow_14 : decode cX4_longestRow 14 = .ok (.if_icmp .ge 38, 3) := by decide +kernel
theorem dX4_longestRow_17 : decode cX4_longestRow 17 = .ok (.aload_n 0, 1) := by decide +kernel
theorem dX4_longestRow_18 : decode cX4_longestRow 18 = .ok (.iload_n 1, 1) := by decide +kernel
theorem dX4_longestRow_19 : decode cX4_longestRow 19 = .ok (.iload 4, 2) := by decide +kernel
theorem dX4_longestRow_21 : decode cX4_longestRow 21 = .ok (.invokevirtual 159, 3) := by decide +kernel
theorem dX4_longestRow_24 : decode cX4_longestRow 24 = .ok (.ifCond .ne 7, 3) := by decide +kernel
theorem dX4_longestRow_27 : decode cX4_longestRow 27 = .ok (.iconst 0, 1) := by decide +kernel
theorem dX4_longestRow_28 : decode cX4_longestRow 28 = .ok (.goto 6, 3) := by decide +kernel
theorem dX4_longestRow_31 : decode cX4_longestRow 31 = .ok (.iload_n 3, 1) := by decide +kernel
theorem dX4_longestRow_32 : decode cX4_longestRow 32 = .ok (.iconst 1, 1) := by decide +kernel
theorem dX4_longestRow_33 : decode cX4_longestRow 33 = .ok (.iadd, 1) := by decide +kernel
theorem dX4_longestRow_34 : decode cX4_longestRow 34 = .ok (.istore_n 3, 1) := by decide +kernel
theorem dX4_longestRow_35 : decode cX4_longestRow 35 = .ok (.iload_n 3, 1) := by decide +kernel
theorem dX4_longestRow_36 : decode cX4_longestRow 36 = .ok (.iload_n 2, 1) := by decide +kernel
theorem dX4_longestRow_37 : decode cX4_longestRow 37 = .ok (.if_icmp .le 7, 3) := by decide +kernel
theorem dX4_longestRow_40 : decode cX4_longestRow 40 = .ok (.iload_n 3, 1) := by decide +kernel
theorem dX4_longestRow_41 : decode cX4_longestRow 41 = .ok (.goto 4, 3) := by decide +kernel
theorem dX4_longestRow_44 : decode cX4_longestRow 44 = .ok (.iload_n 2, 1) := by decide +kernel
theorem dX4_longestRow_45 : decode cX4_longestRow 45 = .ok (.istore_n 2, 1) := by decide +kernel
theorem dX4_longestRow_46 : decode cX4_longestRow 46 = .ok (.iinc 4 1, 3) := by decide +kernel
theorem dX4_longestRow_49 : decode cX4_longestRow 49 = .ok (.goto (-42), 3) := by decide +kernel
theorem dX4_longestRow_52 : decode cX4_longestRow 52 = .ok (.iload_n 2, 1) := by decide +kernel
theorem dX4_longestRow_53 : decode cX4_longestRow 53 = .ok (.ireturn, 1) := by decide +kernel
theorem dX4_phrase_0 : decode cX4_phrase 0 = .ok (.aload_n 0, 1) := by decide +kernel
theorem dX4_phrase_1 : decode cX4_phrase 1 = .ok (.iload_n 1, 1) := by decide +kernel
theorem dX4_phrase_2 : decode cX4_phrase 2 = .ok (.invokevirtual 60, 3) := by decide +kernel
theorem dX4_phrase_5 : decode cX4_phrase 5 = .ok (.ifCond .ne 5, 3) := by decide +kernel
theorem dX4_phrase_8 : decode cX4_phrase 8 = .ok (.iconst (-1), 1) := by decide +kernel
theorem dX4_phrase_9 : decode cX4_phrase 9 = .ok (.ireturn, 1) := by decide +kernel
theorem dX4_phrase_10 : decode cX4_phrase 10 = .ok (.aload_n 0, 1) := by decide +kernel
theorem dX4_phrase_11 : decode cX4_phrase 11 = .ok (.getfield 7, 3) := by decide +kernel
theorem dX4_phrase_14 : decode cX4_phrase 14 = .ok (.bipush 40, 2) := by decide +kernel
theorem dX4_phrase_16 : decode cX4_phrase 16 = .ok (.iconst 3, 1) := by decide +kernel
theorem dX4_phrase_17 : decode cX4_phrase 17 = .ok (.iload_n 1, 1) := by decide +kernel
theorem dX4_phrase_18 : decode cX4_phrase 18 = .ok (.imul, 1) := by decide +kernel
theorem dX4_phrase_19 : decode cX4_phrase 19 = .ok (.iadd, 1) := by decide +kernel
theorem dX4_phrase_20 : decode cX4_phrase 20 = .ok (.iconst 1, 1) := by decide +kernel
theorem dX4_phrase_21 : decode cX4_phrase 21 = .ok (.iadd, 1) := by decide +kernel
theorem dX4_phrase_22 : decode cX4_phrase 22 = .ok (.iaload, 1) := by decide +kernel
theorem dX4_phrase_23 : decode cX4_phrase 23 = .ok (.invokestatic 125, 3) := by decide +kernel
theorem dX4_phrase_26 : decode cX4_phrase 26 = .ok (.istore_n 3, 1) := by decide +kernel
theorem dX4_phrase_27 : decode cX4_phrase 27 = .ok (.aload_n 0, 1) := by decide +kernel
theorem dX4_phrase_28 : decode cX4_phrase 28 = .ok (.getfield 7, 3) := by decide +kernel
theorem dX4_phrase_31 : decode cX4_phrase 31 = .ok (.bipush 40, 2) := by decide +kernel
theorem dX4_phrase_33 : decode cX4_phrase 33 = .ok (.iconst 3, 1) := by decide +kernel
theorem dX4_phrase_34 : decode cX4_phrase 34 = .ok (.iload_n 1, 1) := by decide +kernel
theorem dX4_phrase_35 : decode cX4_phrase 35 = .ok (.imul, 1) := by decide +kernel
theorem dX4_phrase_36 : decode cX4_phrase 36 = .ok (.iadd, 1) := by decide +kernel
theorem dX4_phrase_37 : decode cX4_phrase 37 = .ok (.iconst 2, 1) := by decide +kernel
theorem dX4_phrase_38 : decode cX4_phrase 38 = .ok (.iadd, 1) := by decide +kernel
theorem dX4_phrase_39 : decode cX4_phrase 39 = .ok (.iaload, 1) := by decide +kernel
theorem dX4_phrase_40 : decode cX4_phrase 40 = .ok (.invokestatic 125, 3) := by decide +kernel
theorem dX4_phrase_43 : decode cX4_phrase 43 = .ok (.istore 4, 2) := by decide +kernel
theorem dX4_phrase_45 : decode cX4_phrase 45 = .ok (.iload_n 2, 1) := by decide +kernel
theorem dX4_phrase_46 : decode cX4_phrase 46 = .ok (.tableswitch 72 0 5 #[38, 44, 46, 49, 60, 66], 38) := by decide +kernel
theorem dX4_phrase_84 : decode cX4_phrase 84 = .ok (.aload_n 0, 1) := by decide +kernel
theorem dX4_phrase_85 : decode cX4_phrase 85 = .ok (.iload_n 1, 1) := by decide +kernel
theorem dX4_phrase_86 : decode cX4_phrase 86 = .ok (.invokevirtual 63, 3) := by decide +kernel
theorem dX4_phrase_89 : decode cX4_phrase 89 = .ok (.ireturn, 1) := by decide +kernel
theorem dX4_phrase_90 : decode cX4_phrase 90 = .ok (.iload_n 3, 1) := by decide +kernel
theorem dX4_phrase_91 : decode cX4_phrase 91 = .ok (.ireturn, 1) := by decide +kernel
theorem dX4_phrase_92 : decode cX4_phrase 92 = .ok (.iload 4, 2) := by decide +kernel
theorem dX4_phrase_94 : decode cX4_phrase 94 = .ok (.ireturn, 1) := by decide +kernel
theorem dX4_phrase_95 : decode cX4_phrase 95 = .ok (.aload_n 0, 1) := by decide +kernel
theorem dX4_phrase_96 : decode cX4_phrase 96 = .ok (.iload_n 1, 1) := by decide +kernel
theorem dX4_phrase_97 : decode cX4_phrase 97 = .ok (.invokevirtual 63, 3) := by decide +kernel
theorem dX4_phrase_100 : decode cX4_phrase 100 = .ok (.iload_n 3, 1) := by decide +kernel
theorem dX4_phrase_101 : decode cX4_phrase 101 = .ok (.isub, 1) := by decide +kernel
theorem dX4_phrase_102 : decode cX4_phrase 102 = .ok (.iload 4, 2) := by decide +kernel
theorem dX4_phrase_104 : decode cX4_phrase 104 = .ok (.isub, 1) := by decide +kernel
theorem dX4_phrase_105 : decode cX4_phrase 105 = .ok (.ireturn, 1) := by decide +kernel
theorem dX4_phrase_106 : decode cX4_phrase 106 = .ok (.aload_n 0, 1) := by decide +kernel
theorem dX4_phrase_107 : decode cX4_phrase 107 = .ok (.iload_n 1, 1) := by decide +kernel
theorem dX4_phrase_108 : decode cX4_phrase 108 = .ok (.invokevirtual 175, 3) := by decide +kernel
theorem dX4_phrase_111 : decode cX4_phrase 111 = .ok (.ireturn, 1) := by decide +kernel
theorem dX4_phrase_112 : decode cX4_phrase 112 = .ok (.aload_n 0, 1) := by decide +kernel
theorem dX4_phrase_113 : decode cX4_phrase 113 = .ok (.iload_n 1, 1) := by decide +kernel
theorem dX4_phrase_114 : decode cX4_phrase 114 = .ok (.invokevirtual 178, 3) := by decide +kernel
theorem dX4_phrase_117 : decode cX4_phrase 117 = .ok (.ireturn, 1) := by decide +kernel
theorem dX4_phrase_118 : decode cX4_phrase 118 = .ok (.bipush (-2), 2) := by decide +kernel
theorem dX4_phrase_120 : decode cX4_phrase 120 = .ok (.ireturn, 1) := by decide +kernel
theorem dX4_isStressed_0 : decode cX4_isStressed 0 = .ok (.aload_n 0, 1) := by decide +kernel
theorem dX4_isStressed_1 : decode cX4_isStressed 1 = .ok (.iload_n 1, 1) := by decide +kernel
theorem dX4_isStressed_2 : decode cX4_isStressed 2 = .ok (.iload_n 2, 1) := by decide +kernel
theorem dX4_isStressed_3 : decode cX4_isStressed 3 = .ok (.invokevirtual 153, 3) := by decide +kernel
theorem dX4_isStressed_6 : decode cX4_isStressed 6 = .ok (.ifCond .eq 23, 3) := by decide +kernel
theorem dX4_isStressed_9 : decode cX4_isStressed 9 = .ok (.aload_n 0, 1) := by decide +kernel
theorem dX4_isStressed_10 : decode cX4_isStressed 10 = .ok (.getfield 7, 3) := by decide +kernel
theorem dX4_isStressed_13 : decode cX4_isStressed 13 = .ok (.bipush 8, 2) := by decide +kernel
theorem dX4_isStressed_15 : decode cX4_isStressed 15 = .ok (.iconst 2, 1) := by decide +kernel
theorem dX4_isStressed_16 : decode cX4_isStressed 16 = .ok (.iload_n 1, 1) := by decide +kernel
theorem dX4_isStressed_17 : decode cX4_isStressed 17 = .ok (.imul, 1) := by decide +kernel
theorem dX4_isStressed_18 : decode cX4_isStressed 18 = .ok (.iadd, 1) := by decide +kernel
theorem dX4_isStressed_19 : decode cX4_isStressed 19 = .ok (.iconst 1, 1) := by decide +kernel
theorem dX4_isStressed_20 : decode cX4_isStressed 20 = .ok (.iadd, 1) := by decide +kernel
theorem dX4_isStressed_21 : decode cX4_isStressed 21 = .ok (.iaload, 1) := by decide +kernel
theorem dX4_isStressed_22 : decode cX4_isStressed 22 = .ok (.iload_n 2, 1) := by decide +kernel
theorem dX4_isStressed_23 : decode cX4_isStressed 23 = .ok (.ishr, 1) := by decide +kernel
theorem dX4_isStressed_24 : decode cX4_isStressed 24 = .ok (.iconst 1, 1) := by decide +kernel
theorem dX4_isStressed_25 : decode cX4_isStressed 25 = .ok (.iand, 1) := by decide +kernel
theorem dX4_isStressed_26 : decode cX4_isStressed 26 = .ok (.goto 4, 3) := by decide +kernel
theorem dX4_isStressed_29 : decode cX4_isStressed 29 = .ok (.iconst (-1), 1) := by decide +kernel
theorem dX4_isStressed_30 : decode cX4_isStressed 30 = .ok (.ireturn, 1) := by decide +kernel
theorem dX4_kindOf_0 : decode cX4_kindOf 0 = .ok (.aload_n 0, 1) := by decide +kernel
theorem dX4_kindOf_1 : decode cX4_kindOf 1 = .ok (.iload_n 1, 1) := by decide +kernel
theorem dX4_kindOf_2 : decode cX4_kindOf 2 = .ok (.iload_n 2, 1) := by decide +kernel
theorem dX4_kindOf_3 : decode cX4_kindOf 3 = .ok (.invokevirtual 156, 3) := by decide +kernel
theorem dX4_kindOf_6 : decode cX4_kindOf 6 = .ok (.ifCond .eq 12, 3) := by decide +kernel
theorem dX4_kindOf_9 : decode cX4_kindOf 9 = .ok (.aload_n 0, 1) := by decide +kernel
theorem dX4_kindOf_10 : decode cX4_kindOf 10 = .ok (.iload_n 1, 1) := by decide +kernel
theorem dX4_kindOf_11 : decode cX4_kindOf 11 = .ok (.iload_n 2, 1) := by decide +kernel
theorem dX4_kindOf_12 : decode cX4_kindOf 12 = .ok (.invokevirtual 159, 3) := by decide +kernel
theorem dX4_kindOf_15 : decode cX4_kindOf 15 = .ok (.goto 4, 3) := by decide +kernel
theorem dX4_kindOf_18 : decode cX4_kindOf 18 = .ok (.iconst (-1), 1) := by decide +kernel
theorem dX4_kindOf_19 : decode cX4_kindOf 19 = .ok (.ireturn, 1) := by decide +kernel
theorem dX4_burdens_0 : decode cX4_burdens 0 = .ok (.iconst 0, 1) := by decide +kernel
theorem dX4_burdens_1 : decode cX4_burdens 1 = .ok (.istore_n 1, 1) := by decide +kernel
theorem dX4_burdens_2 : decode cX4_burdens 2 = .ok (.iconst 0, 1) := by decide +kernel
theorem dX4_burdens_3 : decode cX4_burdens 3 = .ok (.istore_n 2, 1) := by decide +kernel
theorem dX4_burdens_4 : decode cX4_burdens 4 = .ok (.iload_n 2, 1) := by decide +kernel
theorem dX4_burdens_5 : decode cX4_burdens 5 = .ok (.aload_n 0, 1) := by decide +kernel
theorem dX4_burdens_6 : decode cX4_burdens 6 = .ok (.getfield 7, 3) := by decide +kernel
theorem dX4_burdens_9 : decode cX4_burdens 9 = .ok (.iconst 4, 1) := by decide +kernel
theorem dX4_burdens_10 : decode cX4_burdens 10 = .ok (.iaload, 1) := by decide +kernel
theorem dX4_burdens_11 : decode cX4_burdens 11 = .ok (.if_icmp .ge 26, 3) := by decide +kernel
theorem dX4_burdens_14 : decode cX4_burdens 14 = .ok (.iload_n 1, 1) := by decide +kernel
theorem dX4_burdens_15 : decode cX4_burdens 15 = .ok (.aload_n 0, 1) := by decide +kernel
theorem dX4_burdens_16 : decode cX4_burdens 16 = .ok (.iload_n 2, 1) := by decide +kernel
theorem dX4_burdens_17 : decode cX4_burdens 17 = .ok (.invokevirtual 169, 3) := by decide +kernel
theorem dX4_burdens_20 : decode cX4_burdens 20 = .ok (.iconst 1, 1) := by decide +kernel
theorem dX4_burdens_21 : decode cX4_burdens 21 = .ok (.if_icmp .le 7, 3) := by decide +kernel
theorem dX4_burdens_24 : decode cX4_burdens 24 = .ok (.iconst 1, 1) := by decide +kernel
theorem dX4_burdens_25 : decode cX4_burdens 25 = .ok (.goto 4, 3) := by decide +kernel
theorem dX4_burdens_28 : decode cX4_burdens 28 = .ok (.iconst 0, 1) := by decide +kernel
theorem dX4_burdens_29 : decode cX4_burdens 29 = .ok (.iadd, 1) := by decide +kernel
theorem dX4_burdens_30 : decode cX4_burdens 30 = .ok (.istore_n 1, 1) := by decide +kernel
theorem dX4_burdens_31 : decode cX4_burdens 31 = .ok (.iinc 2 1, 3) := by decide +kernel
theorem dX4_burdens_34 : decode cX4_burdens 34 = .ok (.goto (-30), 3) := by decide +kernel
theorem dX4_burdens_37 : decode cX4_burdens 37 = .ok (.iload_n 1, 1) := by decide +kernel
theorem dX4_burdens_38 : decode cX4_burdens 38 = .ok (.ireturn, 1) := by decide +kernel
theorem dX4_count_0 : decode cX4_count 0 = .ok (.iload_n 1, 1) := by decide +kernel
theorem dX4_count_1 : decode cX4_count 1 = .ok (.tableswitch 92 0 10 #[59, 59, 59, 59, 68, 73, 73, 73, 73, 82, 87], 59) := by decide +kernel
theorem dX4_count_60 : decode cX4_count 60 = .ok (.aload_n 0, 1) := by decide +kernel
theorem dX4_count_61 : decode cX4_count 61 = .ok (.getfield 7, 3) := by decide +kernel
theorem dX4_count_64 : decode cX4_count 64 = .ok (.iconst 4, 1) := by decide +kernel
theorem dX4_count_65 : decode cX4_count 65 = .ok (.iload_n 1, 1) := by decide +kernel
theorem dX4_count_66 : decode cX4_count 66 = .ok (.iadd, 1) := by decide +kernel
theorem dX4_count_67 : decode cX4_count 67 = .ok (.iaload, 1) := by decide +kernel
theorem dX4_count_68 : decode cX4_count 68 = .ok (.ireturn, 1) := by decide +kernel
theorem dX4_count_69 : decode cX4_count 69 = .ok (.aload_n 0, 1) := by decide +kernel
theorem dX4_count_70 : decode cX4_count 70 = .ok (.invokevirtual 181, 3) := by decide +kernel
theorem dX4_count_73 : decode cX4_count 73 = .ok (.ireturn, 1) := by decide +kernel
theorem dX4_count_74 : decode cX4_count 74 = .ok (.aload_n 0, 1) := by decide +kernel
theorem dX4_count_75 : decode cX4_count 75 = .ok (.getfield 7, 3) := by decide +kernel
theorem dX4_count_78 : decode cX4_count 78 = .ok (.iload_n 1, 1) := by decide +kernel
theorem dX4_count_79 : decode cX4_count 79 = .ok (.iconst 5, 1) := by decide +kernel
theorem dX4_count_80 : decode cX4_count 80 = .ok (.isub, 1) := by decide +kernel
theorem dX4_count_81 : decode cX4_count 81 = .ok (.iaload, 1) := by decide +kernel
theorem dX4_count_82 : decode cX4_count 82 = .ok (.ireturn, 1) := by decide +kernel
theorem dX4_count_83 : decode cX4_count 83 = .ok (.aload_n 0, 1) := by decide +kernel
theorem dX4_count_84 : decode cX4_count 84 = .ok (.getfield 134, 3) := by decide +kernel
theorem dX4_count_87 : decode cX4_count 87 = .ok (.ireturn, 1) := by decide +kernel
theorem dX4_count_88 : decode cX4_count 88 = .ok (.aload_n 0, 1) := by decide +kernel
theorem dX4_count_89 : decode cX4_count 89 = .ok (.getfield 40, 3) := by decide +kernel
theorem dX4_count_92 : decode cX4_count 92 = .ok (.ireturn, 1) := by decide +kernel
theorem dX4_count_93 : decode cX4_count 93 = .ok (.bipush (-2), 2) := by decide +kernel
theorem dX4_count_95 : decode cX4_count 95 = .ok (.ireturn, 1) := by decide +kernel
theorem dX4_at_0 : decode cX4_at 0 = .ok (.iload_n 2, 1) := by decide +kernel
theorem dX4_at_1 : decode cX4_at 1 = .ok (.iconst 0, 1) := by decide +kernel
theorem dX4_at_2 : decode cX4_at 2 = .ok (.aload_n 0, 1) := by decide +kernel
theorem dX4_at_3 : decode cX4_at 3 = .ok (.getfield 7, 3) := by decide +kernel
theorem dX4_at_6 : decode cX4_at 6 = .ok (.iload_n 1, 1) := by decide +kernel
theorem dX4_at_7 : decode cX4_at 7 = .ok (.ifCond .eq 8, 3) := by decide +kernel
theorem dX4_at_10 : decode cX4_at 10 = .ok (.bipush 7, 2) := by decide +kernel
theorem dX4_at_12 : decode cX4_at 12 = .ok (.goto 5, 3) := by decide +kernel
theorem dX4_at_15 : decode cX4_at 15 = .ok (.bipush 6, 2) := by decide +kernel
theorem dX4_at_17 : decode cX4_at 17 = .ok (.iaload, 1) := by decide +kernel
theorem dX4_at_18 : decode cX4_at 18 = .ok (.iconst 1, 1) := by decide +kernel
theorem dX4_at_19 : decode cX4_at 19 = .ok (.isub, 1) := by decide +kernel
theorem dX4_at_20 : decode cX4_at 20 = .ok (.invokestatic 48, 3) := by decide +kernel
theorem dX4_at_23 : decode cX4_at 23 = .ok (.ifCond .ne 5, 3) := by decide +kernel
theorem dX4_at_26 : decode cX4_at 26 = .ok (.iconst (-1), 1) := by decide +kernel
theorem dX4_at_27 : decode cX4_at 27 = .ok (.ireturn, 1) := by decide +kernel
theorem dX4_at_28 : decode cX4_at 28 = .ok (.aload_n 0, 1) := by decide +kernel
theorem dX4_at_29 : decode cX4_at 29 = .ok (.getfield 7, 3) := by decide +kernel
theorem dX4_at_32 : decode cX4_at 32 = .ok (.iload_n 1, 1) := by decide +kernel
theorem dX4_at_33 : decode cX4_at 33 = .ok (.ifCond .eq 8, 3) := by decide +kernel
theorem dX4_at_36 : decode cX4_at 36 = .ok (.bipush 104, 2) := by decide +kernel
theorem dX4_at_38 : decode cX4_at 38 = .ok (.goto 5, 3) := by decide +kernel
theorem dX4_at_41 : decode cX4_at 41 = .ok (.bipush 64, 2) := by decide +kernel
theorem dX4_at_43 : decode cX4_at 43 = .ok (.iload_n 2, 1) := by decide +kernel
theorem dX4_at_44 : decode cX4_at 44 = .ok (.iadd, 1) := by decide +kernel
theorem dX4_at_45 : decode cX4_at 45 = .ok (.iaload, 1) := by decide +kernel
theorem dX4_at_46 : decode cX4_at 46 = .ok (.ireturn, 1) := by decide +kernel
theorem dX4_fit_0 : decode cX4_fit 0 = .ok (.aload_n 0, 1) := by decide +kernel
theorem dX4_fit_1 : decode cX4_fit 1 = .ok (.iload_n 1, 1) := by decide +kernel
theorem dX4_fit_2 : decode cX4_fit 2 = .ok (.invokevirtual 52, 3) := by decide +kernel
theorem dX4_fit_5 : decode cX4_fit 5 = .ok (.ifCond .eq 11, 3) := by decide +kernel
theorem dX4_fit_8 : decode cX4_fit 8 = .ok (.aload_n 0, 1) := by decide +kernel
theorem dX4_fit_9 : decode cX4_fit 9 = .ok (.iload_n 2, 1) := by decide +kernel
theorem dX4_fit_10 : decode cX4_fit 10 = .ok (.invokevirtual 60, 3) := by decide +kernel
theorem dX4_fit_13 : decode cX4_fit 13 = .ok (.ifCond .ne 5, 3) := by decide +kernel
theorem dX4_fit_16 : decode cX4_fit 16 = .ok (.iconst (-1), 1) := by decide +kernel
theorem dX4_fit_17 : decode cX4_fit 17 = .ok (.ireturn, 1) := by decide +kernel
theorem dX4_fit_18 : decode cX4_fit 18 = .ok (.iload_n 3, 1) := by decide +kernel
theorem dX4_fit_19 : decode cX4_fit 19 = .ok (.iconst 0, 1) := by decide +kernel
theorem dX4_fit_20 : decode cX4_fit 20 = .ok (.iconst 4, 1) := by decide +kernel
theorem dX4_fit_21 : decode cX4_fit 21 = .ok (.invokestatic 48, 3) := by decide +kernel
theorem dX4_fit_24 : decode cX4_fit 24 = .ok (.ifCond .ne 6, 3) := by decide +kernel
theorem dX4_fit_27 : decode cX4_fit 27 = .ok (.bipush (-2), 2) := by decide +kernel
theorem dX4_fit_29 : decode cX4_fit 29 = .ok (.ireturn, 1) := by decide +kernel
theorem dX4_fit_30 : decode cX4_fit 30 = .ok (.aload_n 0, 1) := by decide +kernel
theorem dX4_fit_31 : decode cX4_fit 31 = .ok (.iload_n 1, 1) := by decide +kernel
theorem dX4_fit_32 : decode cX4_fit 32 = .ok (.iload_n 2, 1) := by decide +kernel
theorem dX4_fit_33 : decode cX4_fit 33 = .ok (.invokevirtual 166, 3) := by decide +kernel
theorem dX4_fit_36 : decode cX4_fit 36 = .ok (.ldc 88, 2) := by decide +kernel
theorem dX4_fit_38 : decode cX4_fit 38 = .ok (.if_icmp .eq 7, 3) := by decide +kernel
theorem dX4_fit_41 : decode cX4_fit 41 = .ok (.iconst 1, 1) := by decide +kernel
theorem dX4_fit_42 : decode cX4_fit 42 = .ok (.goto 4, 3) := by decide +kernel
theorem dX4_fit_45 : decode cX4_fit 45 = .ok (.iconst 0, 1) := by decide +kernel
theorem dX4_fit_46 : decode cX4_fit 46 = .ok (.istore 4, 2) := by decide +kernel
theorem dX4_fit_48 : decode cX4_fit 48 = .ok (.iload_n 3, 1) := by decide +kernel
theorem dX4_fit_49 : decode cX4_fit 49 = .ok (.tableswitch 77 0 3 #[31, 48, 55, 62], 31) := by decide +kernel
theorem dX4_fit_80 : decode cX4_fit 80 = .ok (.iload 4, 2) := by decide +kernel
theorem dX4_fit_82 : decode cX4_fit 82 = .ok (.ifCond .eq 12, 3) := by decide +kernel
theorem dX4_fit_85 : decode cX4_fit 85 = .ok (.aload_n 0, 1) := by decide +kernel
theorem dX4_fit_86 : decode cX4_fit 86 = .ok (.getfield 25, 3) := by decide +kernel
theorem dX4_fit_89 : decode cX4_fit 89 = .ok (.iconst 0, 1) := by decide +kernel
theorem dX4_fit_90 : decode cX4_fit 90 = .ok (.iaload, 1) := by decide +kernel
theorem dX4_fit_91 : decode cX4_fit 91 = .ok (.goto 5, 3) := by decide +kernel
theorem dX4_fit_94 : decode cX4_fit 94 = .ok (.bipush (-6), 2) := by decide +kernel
theorem dX4_fit_96 : decode cX4_fit 96 = .ok (.ireturn, 1) := by decide +kernel
theorem dX4_fit_97 : decode cX4_fit 97 = .ok (.aload_n 0, 1) := by decide +kernel
theorem dX4_fit_98 : decode cX4_fit 98 = .ok (.getfield 28, 3) := by decide +kernel
theorem dX4_fit_101 : decode cX4_fit 101 = .ok (.iconst 0, 1) := by decide +kernel
theorem dX4_fit_102 : decode cX4_fit 102 = .ok (.iaload, 1) := by decide +kernel
theorem dX4_fit_103 : decode cX4_fit 103 = .ok (.ireturn, 1) := by decide +kernel
theorem dX4_fit_104 : decode cX4_fit 104 = .ok (.aload_n 0, 1) := by decide +kernel
theorem dX4_fit_105 : decode cX4_fit 105 = .ok (.getfield 31, 3) := by decide +kernel
theorem dX4_fit_108 : decode cX4_fit 108 = .ok (.iconst 0, 1) := by decide +kernel
theorem dX4_fit_109 : decode cX4_fit 109 = .ok (.iaload, 1) := by decide +kernel
theorem dX4_fit_110 : decode cX4_fit 110 = .ok (.ireturn, 1) := by decide +kernel
theorem dX4_fit_111 : decode cX4_fit 111 = .ok (.iload 4, 2) := by decide +kernel
theorem dX4_fit_113 : decode cX4_fit 113 = .ok (.ifCond .eq 10, 3) := by decide +kernel
theorem dX4_fit_116 : decode cX4_fit 116 = .ok (.aload_n 0, 1) := by decide +kernel
theorem dX4_fit_117 : decode cX4_fit 117 = .ok (.invokevirtual 184, 3) := by decide +kernel
theorem dX4_fit_120 : decode cX4_fit 120 = .ok (.goto 5, 3) := by decide +kernel
theorem dX4_fit_123 : decode cX4_fit 123 = .ok (.bipush (-6), 2) := by decide +kernel
theorem dX4_fit_125 : decode cX4_fit 125 = .ok (.ireturn, 1) := by decide +kernel
theorem dX4_fit_126 : decode cX4_fit 126 = .ok (.iload 4, 2) := by decide +kernel
theorem dX4_fit_128 : decode cX4_fit 128 = .ok (.ifCond .eq 10, 3) := by decide +kernel
theorem dX4_fit_131 : decode cX4_fit 131 = .ok (.aload_n 0, 1) := by decide +kernel
theorem dX4_fit_132 : decode cX4_fit 132 = .ok (.invokevirtual 187, 3) := by decide +kernel
theorem dX4_fit_135 : decode cX4_fit 135 = .ok (.goto 5, 3) := by decide +kernel
theorem dX4_fit_138 : decode cX4_fit 138 = .ok (.bipush (-6), 2) := by decide +kernel
theorem dX4_fit_140 : decode cX4_fit 140 = .ok (.ireturn, 1) := by decide +kernel
theorem dX4_lies_0 : decode cX4_lies 0 = .ok (.aload_n 0, 1) := by decide +kernel
theorem dX4_lies_1 : decode cX4_lies 1 = .ok (.iload_n 1, 1) := by decide +kernel
theorem dX4_lies_2 : decode cX4_lies 2 = .ok (.iload_n 3, 1) := by decide +kernel
theorem dX4_lies_3 : decode cX4_lies 3 = .ok (.invokevirtual 153, 3) := by decide +kernel
theorem dX4_lies_6 : decode cX4_lies 6 = .ok (.ifCond .eq 11, 3) := by decide +kernel
theorem dX4_lies_9 : decode cX4_lies 9 = .ok (.aload_n 0, 1) := by decide +kernel
theorem dX4_lies_10 : decode cX4_lies 10 = .ok (.iload_n 2, 1) := by decide +kernel
theorem dX4_lies_11 : decode cX4_lies 11 = .ok (.invokevirtual 60, 3) := by decide +kernel
theorem dX4_lies_14 : decode cX4_lies 14 = .ok (.ifCond .ne 5, 3) := by decide +kernel
theorem dX4_lies_17 : decode cX4_lies 17 = .ok (.iconst (-1), 1) := by decide +kernel
theorem dX4_lies_18 : decode cX4_lies 18 = .ok (.ireturn, 1) := by decide +kernel
theorem dX4_lies_19 : decode cX4_lies 19 = .ok (.iload 4, 2) := by decide +kernel
theorem dX4_lies_21 : decode cX4_lies 21 = .ok (.iconst 0, 1) := by decide +kernel
theorem dX4_lies_22 : decode cX4_lies 22 = .ok (.iconst 1, 1) := by decide +kernel
theorem dX4_lies_23 : decode cX4_lies 23 = .ok (.invokestatic 48, 3) := by decide +kernel
theorem dX4_lies_26 : decode cX4_lies 26 = .ok (.ifCond .ne 6, 3) := by decide +kernel
theorem dX4_lies_29 : decode cX4_lies 29 = .ok (.bipush (-2), 2) := by decide +kernel
theorem dX4_lies_31 : decode cX4_lies 31 = .ok (.ireturn, 1) := by decide +kernel
theorem dX4_lies_32 : decode cX4_lies 32 = .ok (.aload_n 0, 1) := by decide +kernel
theorem dX4_lies_33 : decode cX4_lies 33 = .ok (.iload_n 1, 1) := by decide +kernel
theorem dX4_lies_34 : decode cX4_lies 34 = .ok (.iload_n 2, 1) := by decide +kernel
theorem dX4_lies_35 : decode cX4_lies 35 = .ok (.invokevirtual 166, 3) := by decide +kernel
theorem dX4_lies_38 : decode cX4_lies 38 = .ok (.ldc 88, 2) := by decide +kernel
theorem dX4_lies_40 : decode cX4_lies 40 = .ok (.if_icmp .ne 6, 3) := by decide +kernel
theorem dX4_lies_43 : decode cX4_lies 43 = .ok (.bipush (-6), 2) := by decide +kernel
theorem dX4_lies_45 : decode cX4_lies 45 = .ok (.ireturn, 1) := by decide +kernel
theorem dX4_lies_46 : decode cX4_lies 46 = .ok (.aload_n 0, 1) := by decide +kernel
theorem dX4_lies_47 : decode cX4_lies 47 = .ok (.invokevirtual 122, 3) := by decide +kernel
theorem dX4_lies_50 : decode cX4_lies 50 = .ok (.iload 4, 2) := by decide +kernel
theorem dX4_lies_52 : decode cX4_lies 52 = .ok (.ifCond .ne 12, 3) := by decide +kernel
theorem dX4_lies_55 : decode cX4_lies 55 = .ok (.aload_n 0, 1) := by decide +kernel
theorem dX4_lies_56 : decode cX4_lies 56 = .ok (.getfield 34, 3) := by decide +kernel
theorem dX4_lies_59 : decode cX4_lies 59 = .ok (.iload_n 3, 1) := by decide +kernel
theorem dX4_lies_60 : decode cX4_lies 60 = .ok (.iaload, 1) := by decide +kernel
theorem dX4_lies_61 : decode cX4_lies 61 = .ok (.goto 9, 3) := by decide +kernel
theorem dX4_lies_64 : decode cX4_lies 64 = .ok (.aload_n 0, 1) := by decide +kernel
theorem dX4_lies_65 : decode cX4_lies 65 = .ok (.getfield 37, 3) := by decide +kernel
theorem dX4_lies_68 : decode cX4_lies 68 = .ok (.iload_n 3, 1) := by decide +kernel
theorem dX4_lies_69 : decode cX4_lies 69 = .ok (.iaload, 1) := by decide +kernel
theorem dX4_lies_70 : decode cX4_lies 70 = .ok (.ireturn, 1) := by decide +kernel
theorem dX4_phraseFor_0 : decode cX4_phraseFor 0 = .ok (.aload_n 0, 1) := by decide +kernel
theorem dX4_phraseFor_1 : decode cX4_phraseFor 1 = .ok (.getfield 7, 3) := by decide +kernel
theorem dX4_phraseFor_4 : decode cX4_phraseFor 4 = .ok (.bipush 104, 2) := by decide +kernel
theorem dX4_phraseFor_6 : decode cX4_phraseFor 6 = .ok (.iload_n 1, 1) := by decide +kernel
theorem dX4_phraseFor_7 : decode cX4_phraseFor 7 = .ok (.aload_n 0, 1) := by decide +kernel
theorem dX4_phraseFor_8 : decode cX4_phraseFor 8 = .ok (.getfield 7, 3) := by decide +kernel
theorem dX4_phraseFor_11 : decode cX4_phraseFor 11 = .ok (.bipush 7, 2) := by decide +kernel
theorem dX4_phraseFor_13 : decode cX4_phraseFor 13 = .ok (.iaload, 1) := by decide +kernel
theorem dX4_phraseFor_14 : decode cX4_phraseFor 14 = .ok (.irem, 1) := by decide +kernel
theorem dX4_phraseFor_15 : decode cX4_phraseFor 15 = .ok (.iadd, 1) := by decide +kernel
theorem dX4_phraseFor_16 : decode cX4_phraseFor 16 = .ok (.iaload, 1) := by decide +kernel
theorem dX4_phraseFor_17 : decode cX4_phraseFor 17 = .ok (.ireturn, 1) := by decide +kernel
theorem dX4_whole_0 : decode cX4_whole 0 = .ok (.iload_n 1, 1) := by decide +kernel
theorem dX4_whole_1 : decode cX4_whole 1 = .ok (.iconst 0, 1) := by decide +kernel
theorem dX4_whole_2 : decode cX4_whole 2 = .ok (.iconst 3, 1) := by decide +kernel
theorem dX4_whole_3 : decode cX4_whole 3 = .ok (.invokestatic 48, 3) := by decide +kernel
theorem dX4_whole_6 : decode cX4_whole 6 = .ok (.ifCond .ne 6, 3) := by decide +kernel
theorem dX4_whole_9 : decode cX4_whole 9 = .ok (.bipush (-2), 2) := by decide +kernel
theorem dX4_whole_11 : decode cX4_whole 11 = .ok (.ireturn, 1) := by decide +kernel
theorem dX4_whole_12 : decode cX4_whole 12 = .ok (.aload_n 0, 1) := by decide +kernel
theorem dX4_whole_13 : decode cX4_whole 13 = .ok (.getfield 7, 3) := by decide +kernel
theorem dX4_whole_16 : decode cX4_whole 16 = .ok (.bipush 7, 2) := by decide +kernel
theorem dX4_whole_18 : decode cX4_whole 18 = .ok (.iaload, 1) := by decide +kernel
theorem dX4_whole_19 : decode cX4_whole 19 = .ok (.ifCond .ne 6, 3) := by decide +kernel
theorem dX4_whole_22 : decode cX4_whole 22 = .ok (.bipush (-5), 2) := by decide +kernel
theorem dX4_whole_24 : decode cX4_whole 24 = .ok (.ireturn, 1) := by decide +kernel
theorem dX4_whole_25 : decode cX4_whole 25 = .ok (.iconst 0, 1) := by decide +kernel
theorem dX4_whole_26 : decode cX4_whole 26 = .ok (.istore_n 2, 1) := by decide +kernel
theorem dX4_whole_27 : decode cX4_whole 27 = .ok (.iconst 0, 1) := by decide +kernel
theorem dX4_whole_28 : decode cX4_whole 28 = .ok (.istore_n 3, 1) := by decide +kernel
theorem dX4_whole_29 : decode cX4_whole 29 = .ok (.bipush (-6), 2) := by decide +kernel
theorem dX4_whole_31 : decode cX4_whole 31 = .ok (.istore 4, 2) := by decide +kernel
theorem dX4_whole_33 : decode cX4_whole 33 = .ok (.iconst (-1), 1) := by decide +kernel
theorem dX4_whole_34 : decode cX4_whole 34 = .ok (.istore 5, 2) := by decide +kernel
theorem dX4_whole_36 : decode cX4_whole 36 = .ok (.iconst 0, 1) := by decide +kernel
theorem dX4_whole_37 : decode cX4_whole 37 = .ok (.istore 6, 2) := by decide +kernel
theorem dX4_whole_39 : decode cX4_whole 39 = .ok (.iconst 0, 1) := by decide +kernel
theorem dX4_whole_40 : decode cX4_whole 40 = .ok (.istore 7, 2) := by decide +kernel
theorem dX4_whole_42 : decode cX4_whole 42 = .ok (.iload 7, 2) := by decide +kernel
theorem dX4_whole_44 : decode cX4_whole 44 = .ok (.aload_n 0, 1) := by decide +kernel
theorem dX4_whole_45 : decode cX4_whole 45 = .ok (.getfield 7, 3) := by decide +kernel
theorem dX4_whole_48 : decode cX4_whole 48 = .ok (.bipush 6, 2) := by decide +kernel
theorem dX4_whole_50 : decode cX4_whole 50 = .ok (.iaload, 1) := by decide +kernel
theorem dX4_whole_51 : decode cX4_whole 51 = .ok (.if_icmp .ge 129, 3) := by decide +kernel
theorem dX4_whole_54 : decode cX4_whole 54 = .ok (.aload_n 0, 1) := by decide +kernel
theorem dX4_whole_55 : decode cX4_whole 55 = .ok (.aload_n 0, 1) := by decide +kernel
theorem dX4_whole_56 : decode cX4_whole 56 = .ok (.getfield 7, 3) := by decide +kernel
theorem dX4_whole_59 : decode cX4_whole 59 = .ok (.bipush 64, 2) := by decide +kernel
theorem dX4_whole_61 : decode cX4_whole 61 = .ok (.iload 7, 2) := by decide +kernel
theorem dX4_whole_63 : decode cX4_whole 63 = .ok (.iadd, 1) := by decide +kernel
theorem dX4_whole_64 : decode cX4_whole 64 = .ok (.iaload, 1) := by decide +kernel
theorem dX4_whole_65 : decode cX4_whole 65 = .ok (.aload_n 0, 1) := by decide +kernel
theorem dX4_whole_66 : decode cX4_whole 66 = .ok (.iload 7, 2) := by decide +kernel
theorem dX4_whole_68 : decode cX4_whole 68 = .ok (.invokevirtual 190, 3) := by decide +kernel
theorem dX4_whole_71 : decode cX4_whole 71 = .ok (.invokevirtual 166, 3) := by decide +kernel
theorem dX4_whole_74 : decode cX4_whole 74 = .ok (.istore 8, 2) := by decide +kernel
theorem dX4_whole_76 : decode cX4_whole 76 = .ok (.iload 8, 2) := by decide +kernel
theorem dX4_whole_78 : decode cX4_whole 78 = .ok (.ldc 88, 2) := by decide +kernel
theorem dX4_whole_80 : decode cX4_whole 80 = .ok (.if_icmp .eq 7, 3) := by decide +kernel
theorem dX4_whole_83 : decode cX4_whole 83 = .ok (.iconst 1, 1) := by decide +kernel
theorem dX4_whole_84 : decode cX4_whole 84 = .ok (.goto 4, 3) := by decide +kernel
theorem dX4_whole_87 : decode cX4_whole 87 = .ok (.iconst 0, 1) := by decide +kernel
theorem dX4_whole_88 : decode cX4_whole 88 = .ok (.istore 9, 2) := by decide +kernel
theorem dX4_whole_90 : decode cX4_whole 90 = .ok (.iload_n 2, 1) := by decide +kernel
theorem dX4_whole_91 : decode cX4_whole 91 = .ok (.iload 9, 2) := by decide +kernel
theorem dX4_whole_93 : decode cX4_whole 93 = .ok (.ifCond .eq 8, 3) := by decide +kernel
theorem dX4_whole_96 : decode cX4_whole 96 = .ok (.iload 8, 2) := by decide +kernel
theorem dX4_whole_98 : decode cX4_whole 98 = .ok (.goto 4, 3) := by decide +kernel
theorem dX4_whole_101 : decode cX4_whole 101 = .ok (.iconst 0, 1) := by decide +kernel
theorem dX4_whole_102 : decode cX4_whole 102 = .ok (.iadd, 1) := by decide +kernel
theorem dX4_whole_103 : decode cX4_whole 103 = .ok (.istore_n 2, 1) := by decide +kernel
theorem dX4_whole_104 : decode cX4_whole 104 = .ok (.iload_n 3, 1) := by decide +kernel
theorem dX4_whole_105 : decode cX4_whole 105 = .ok (.iload 9, 2) := by decide +kernel
theorem dX4_whole_107 : decode cX4_whole 107 = .ok (.ifCond .eq 7, 3) := by decide +kernel
theorem dX4_whole_110 : decode cX4_whole 110 = .ok (.iconst 0, 1) := by decide +kernel
theorem dX4_whole_111 : decode cX4_whole 111 = .ok (.goto 4, 3) := by decide +kernel
theorem dX4_whole_114 : decode cX4_whole 114 = .ok (.iconst 1, 1) := by decide +kernel
theorem dX4_whole_115 : decode cX4_whole 115 = .ok (.iadd, 1) := by decide +kernel
theorem dX4_whole_116 : decode cX4_whole 116 = .ok (.istore_n 3, 1) := by decide +kernel
theorem dX4_whole_117 : decode cX4_whole 117 = .ok (.iload 9, 2) := by decide +kernel
theorem dX4_whole_119 : decode cX4_whole 119 = .ok (.ifCond .eq 15, 3) := by decide +kernel
theorem dX4_whole_122 : decode cX4_whole 122 = .ok (.iload 8, 2) := by decide +kernel
theorem dX4_whole_124 : decode cX4_whole 124 = .ok (.iload 5, 2) := by decide +kernel
theorem dX4_whole_126 : decode cX4_whole 126 = .ok (.if_icmp .le 8, 3) := by decide +kernel
theorem dX4_whole_129 : decode cX4_whole 129 = .ok (.iload 7, 2) := by decide +kernel
theorem dX4_whole_131 : decode cX4_whole 131 = .ok (.goto 5, 3) := by decide +kernel
theorem dX4_whole_134 : decode cX4_whole 134 = .ok (.iload 4, 2) := by decide +kernel
theorem dX4_whole_136 : decode cX4_whole 136 = .ok (.istore 4, 2) := by decide +kernel
theorem dX4_whole_138 : decode cX4_whole 138 = .ok (.iload 9, 2) := by decide +kernel
theorem dX4_whole_140 : decode cX4_whole 140 = .ok (.ifCond .eq 15, 3) := by decide +kernel
theorem dX4_whole_143 : decode cX4_whole 143 = .ok (.iload 8, 2) := by decide +kernel
theorem dX4_whole_145 : decode cX4_whole 145 = .ok (.iload 5, 2) := by decide +kernel
theorem dX4_whole_147 : decode cX4_whole 147 = .ok (.if_icmp .le 8, 3) := by decide +kernel
theorem dX4_whole_150 : decode cX4_whole 150 = .ok (.iload 8, 2) := by decide +kernel
theorem dX4_whole_152 : decode cX4_whole 152 = .ok (.goto 5, 3) := by decide +kernel
theorem dX4_whole_155 : decode cX4_whole 155 = .ok (.iload 5, 2) := by decide +kernel
theorem dX4_whole_157 : decode cX4_whole 157 = .ok (.istore 5, 2) := by decide +kernel
theorem dX4_whole_159 : decode cX4_whole 159 = .ok (.iload 6, 2) := by decide +kernel
theorem dX4_whole_161 : decode cX4_whole 161 = .ok (.aload_n 0, 1) := by decide +kernel
theorem dX4_whole_162 : decode cX4_whole 162 = .ok (.aload_n 0, 1) := by decide +kernel
theorem dX4_whole_163 : decode cX4_whole 163 = .ok (.iload 7, 2) := by decide +kernel
theorem dX4_whole_165 : decode cX4_whole 165 = .ok (.invokevirtual 190, 3) := by decide +kernel
theorem dX4_whole_168 : decode cX4_whole 168 = .ok (.invokevirtual 63, 3) := by decide +kernel
theorem dX4_whole_171 : decode cX4_whole 171 = .ok (.iadd, 1) := by decide +kernel
theorem dX4_whole_172 : decode cX4_whole 172 = .ok (.istore 6, 2) := by decide +kernel
theorem dX4_whole_174 : decode cX4_whole 174 = .ok (.iinc 7 1, 3) := by decide +kernel
theorem dX4_whole_177 : decode cX4_whole 177 = .ok (.goto (-135), 3) := by decide +kernel
theorem dX4_whole_180 : decode cX4_whole 180 = .ok (.iload_n 1, 1) := by decide +kernel
theorem dX4_whole_181 : decode cX4_whole 181 = .ok (.ifCond .ne 7, 3) := by decide +kernel
theorem dX4_whole_184 : decode cX4_whole 184 = .ok (.iload_n 2, 1) := by decide +kernel
theorem dX4_whole_185 : decode cX4_whole 185 = .ok (.goto 24, 3) := by decide +kernel
theorem dX4_whole_188 : decode cX4_whole 188 = .ok (.iload_n 1, 1) := by decide +kernel
theorem dX4_whole_189 : decode cX4_whole 189 = .ok (.iconst 1, 1) := by decide +kernel
theorem dX4_whole_190 : decode cX4_whole 190 = .ok (.if_icmp .ne 7, 3) := by decide +kernel
theorem dX4_whole_193 : decode cX4_whole 193 = .ok (.iload_n 3, 1) := by decide +kernel
theorem dX4_whole_194 : decode cX4_whole 194 = .ok (.goto 15, 3) := by decide +kernel
theorem dX4_whole_197 : decode cX4_whole 197 = .ok (.iload_n 1, 1) := by decide +kernel
theorem dX4_whole_198 : decode cX4_whole 198 = .ok (.iconst 2, 1) := by decide +kernel
theorem dX4_whole_199 : decode cX4_whole 199 = .ok (.if_icmp .ne 8, 3) := by decide +kernel
theorem dX4_whole_202 : decode cX4_whole 202 = .ok (.iload 4, 2) := by decide +kernel
theorem dX4_whole_204 : decode cX4_whole 204 = .ok (.goto 5, 3) := by decide +kernel
theorem dX4_whole_207 : decode cX4_whole 207 = .ok (.iload 6, 2) := by decide +kernel
theorem dX4_whole_209 : decode cX4_whole 209 = .ok (.ireturn, 1) := by decide +kernel
theorem dX4_bestPhrase_0 : decode cX4_bestPhrase 0 = .ok (.bipush (-6), 2) := by decide +kernel
theorem dX4_bestPhrase_2 : decode cX4_bestPhrase 2 = .ok (.istore_n 1, 1) := by decide +kernel
theorem dX4_bestPhrase_3 : decode cX4_bestPhrase 3 = .ok (.iconst 0, 1) := by decide +kernel
theorem dX4_bestPhrase_4 : decode cX4_bestPhrase 4 = .ok (.istore_n 2, 1) := by decide +kernel
theorem dX4_bestPhrase_5 : decode cX4_bestPhrase 5 = .ok (.iconst 0, 1) := by decide +kernel
theorem dX4_bestPhrase_6 : decode cX4_bestPhrase 6 = .ok (.istore_n 3, 1) := by decide +kernel
theorem dX4_bestPhrase_7 : decode cX4_bestPhrase 7 = .ok (.iconst 0, 1) := by decide +kernel
theorem dX4_bestPhrase_8 : decode cX4_bestPhrase 8 = .ok (.istore 4, 2) := by decide +kernel
theorem dX4_bestPhrase_10 : decode cX4_bestPhrase 10 = .ok (.iload 4, 2) := by decide +kernel
theorem dX4_bestPhrase_12 : decode cX4_bestPhrase 12 = .ok (.aload_n 0, 1) := by decide +kernel
theorem dX4_bestPhrase_13 : decode cX4_bestPhrase 13 = .ok (.getfield 7, 3) := by decide +kernel
theorem dX4_bestPhrase_16 : decode cX4_bestPhrase 16 = .ok (.iconst 5, 1) := by decide +kernel
theorem dX4_bestPhrase_17 : decode cX4_bestPhrase 17 = .ok (.iaload, 1) := by decide +kernel
theorem dX4_bestPhrase_18 : decode cX4_bestPhrase 18 = .ok (.if_icmp .ge 156, 3) := by decide +kernel
theorem dX4_bestPhrase_21 : decode cX4_bestPhrase 21 = .ok (.iconst 0, 1) := by decide +kernel
theorem dX4_bestPhrase_22 : decode cX4_bestPhrase 22 = .ok (.istore 5, 2) := by decide +kernel
theorem dX4_bestPhrase_24 : decode cX4_bestPhrase 24 = .ok (.iconst 0, 1) := by decide +kernel
theorem dX4_bestPhrase_25 : decode cX4_bestPhrase 25 = .ok (.istore 6, 2) := by decide +kernel
theorem dX4_bestPhrase_27 : decode cX4_bestPhrase 27 = .ok (.iconst 0, 1) := by decide +kernel
theorem dX4_bestPhrase_28 : decode cX4_bestPhrase 28 = .ok (.istore 7, 2) := by decide +kernel
theorem dX4_bestPhrase_30 : decode cX4_bestPhrase 30 = .ok (.iload 7, 2) := by decide +kernel
theorem dX4_bestPhrase_32 : decode cX4_bestPhrase 32 = .ok (.aload_n 0, 1) := by decide +kernel
theorem dX4_bestPhrase_33 : decode cX4_bestPhrase 33 = .ok (.getfield 7, 3) := by decide +kernel
theorem dX4_bestPhrase_36 : decode cX4_bestPhrase 36 = .ok (.bipush 6, 2) := by decide +kernel
theorem dX4_bestPhrase_38 : decode cX4_bestPhrase 38 = .ok (.iaload, 1) := by decide +kernel
theorem dX4_bestPhrase_39 : decode cX4_bestPhrase 39 = .ok (.if_icmp .ge 62, 3) := by decide +kernel
theorem dX4_bestPhrase_42 : decode cX4_bestPhrase 42 = .ok (.aload_n 0, 1) := by decide +kernel
theorem dX4_bestPhrase_43 : decode cX4_bestPhrase 43 = .ok (.aload_n 0, 1) := by decide +kernel
theorem dX4_bestPhrase_44 : decode cX4_bestPhrase 44 = .ok (.getfield 7, 3) := by decide +kernel
theorem dX4_bestPhrase_47 : decode cX4_bestPhrase 47 = .ok (.bipush 64, 2) := by decide +kernel
theorem dX4_bestPhrase_49 : decode cX4_bestPhrase 49 = .ok (.iload 7, 2) := by decide +kernel
theorem dX4_bestPhrase_51 : decode cX4_bestPhrase 51 = .ok (.iadd, 1) := by decide +kernel
theorem dX4_bestPhrase_52 : decode cX4_bestPhrase 52 = .ok (.iaload, 1) := by decide +kernel
theorem dX4_bestPhrase_53 : decode cX4_bestPhrase 53 = .ok (.iload 4, 2) := by decide +kernel
theorem dX4_bestPhrase_55 : decode cX4_bestPhrase 55 = .ok (.invokevirtual 166, 3) := by decide +kernel
theorem dX4_bestPhrase_58 : decode cX4_bestPhrase 58 = .ok (.istore 8, 2) := by decide +kernel
theorem dX4_bestPhrase_60 : decode cX4_bestPhrase 60 = .ok (.iload 5, 2) := by decide +kernel
theorem dX4_bestPhrase_62 : decode cX4_bestPhrase 62 = .ok (.iload 8, 2) := by decide +kernel
theorem dX4_bestPhrase_64 : decode cX4_bestPhrase 64 = .ok (.ldc 88, 2) := by decide +kernel
theorem dX4_bestPhrase_66 : decode cX4_bestPhrase 66 = .ok (.if_icmp .ne 7, 3) := by decide +kernel
theorem dX4_bestPhrase_69 : decode cX4_bestPhrase 69 = .ok (.iconst 1, 1) := by decide +kernel
theorem dX4_bestPhrase_70 : decode cX4_bestPhrase 70 = .ok (.goto 4, 3) := by decide +kernel
theorem dX4_bestPhrase_73 : decode cX4_bestPhrase 73 = .ok (.iconst 0, 1) := by decide +kernel
theorem dX4_bestPhrase_74 : decode cX4_bestPhrase 74 = .ok (.iadd, 1) := by decide +kernel
theorem dX4_bestPhrase_75 : decode cX4_bestPhrase 75 = .ok (.istore 5, 2) := by decide +kernel
theorem dX4_bestPhrase_77 : decode cX4_bestPhrase 77 = .ok (.iload 6, 2) := by decide +kernel
theorem dX4_bestPhrase_79 : decode cX4_bestPhrase 79 = .ok (.iload 8, 2) := by decide +kernel
theorem dX4_bestPhrase_81 : decode cX4_bestPhrase 81 = .ok (.ldc 88, 2) := by decide +kernel
theorem dX4_bestPhrase_83 : decode cX4_bestPhrase 83 = .ok (.if_icmp .ne 7, 3) := by decide +kernel
theorem dX4_bestPhrase_86 : decode cX4_bestPhrase 86 = .ok (.iconst 0, 1) := by decide +kernel
theorem dX4_bestPhrase_87 : decode cX4_bestPhrase 87 = .ok (.goto 5, 3) := by decide +kernel
theorem dX4_bestPhrase_90 : decode cX4_bestPhrase 90 = .ok (.iload 8, 2) := by decide +kernel
theorem dX4_bestPhrase_92 : decode cX4_bestPhrase 92 = .ok (.iadd, 1) := by decide +kernel
theorem dX4_bestPhrase_93 : decode cX4_bestPhrase 93 = .ok (.istore 6, 2) := by decide +kernel
theorem dX4_bestPhrase_95 : decode cX4_bestPhrase 95 = .ok (.iinc 7 1, 3) := by decide +kernel
theorem dX4_bestPhrase_98 : decode cX4_bestPhrase 98 = .ok (.goto (-68), 3) := by decide +kernel
theorem dX4_bestPhrase_101 : decode cX4_bestPhrase 101 = .ok (.iload_n 1, 1) := by decide +kernel
theorem dX4_bestPhrase_102 : decode cX4_bestPhrase 102 = .ok (.bipush (-6), 2) := by decide +kernel
theorem dX4_bestPhrase_104 : decode cX4_bestPhrase 104 = .ok (.if_icmp .eq 21, 3) := by decide +kernel
theorem dX4_bestPhrase_107 : decode cX4_bestPhrase 107 = .ok (.iload 5, 2) := by decide +kernel
theorem dX4_bestPhrase_109 : decode cX4_bestPhrase 109 = .ok (.iload_n 2, 1) := by decide +kernel
theorem dX4_bestPhrase_110 : decode cX4_bestPhrase 110 = .ok (.if_icmp .lt 15, 3) := by decide +kernel
theorem dX4_bestPhrase_113 : decode cX4_bestPhrase 113 = .ok (.iload 5, 2) := by decide +kernel
theorem dX4_bestPhrase_115 : decode cX4_bestPhrase 115 = .ok (.iload_n 2, 1) := by decide +kernel
theorem dX4_bestPhrase_116 : decode cX4_bestPhrase 116 = .ok (.if_icmp .ne 13, 3) := by decide +kernel
theorem dX4_bestPhrase_119 : decode cX4_bestPhrase 119 = .ok (.iload 6, 2) := by decide +kernel
theorem dX4_bestPhrase_121 : decode cX4_bestPhrase 121 = .ok (.iload_n 3, 1) := by decide +kernel
theorem dX4_bestPhrase_122 : decode cX4_bestPhrase 122 = .ok (.if_icmp .ge 7, 3) := by decide +kernel
theorem dX4_bestPhrase_125 : decode cX4_bestPhrase 125 = .ok (.iconst 1, 1) := by decide +kernel
theorem dX4_bestPhrase_126 : decode cX4_bestPhrase 126 = .ok (.goto 4, 3) := by decide +kernel
theorem dX4_bestPhrase_129 : decode cX4_bestPhrase 129 = .ok (.iconst 0, 1) := by decide +kernel
theorem dX4_bestPhrase_130 : decode cX4_bestPhrase 130 = .ok (.istore 7, 2) := by decide +kernel
theorem dX4_bestPhrase_132 : decode cX4_bestPhrase 132 = .ok (.iload 7, 2) := by decide +kernel
theorem dX4_bestPhrase_134 : decode cX4_bestPhrase 134 = .ok (.ifCond .eq 8, 3) := by decide +kernel
theorem dX4_bestPhrase_137 : decode cX4_bestPhrase 137 = .ok (.iload 4, 2) := by decide +kernel
theorem dX4_bestPhrase_139 : decode cX4_bestPhrase 139 = .ok (.goto 4, 3) := by decide +kernel
theorem dX4_bestPhrase_142 : decode cX4_bestPhrase 142 = .ok (.iload_n 1, 1) := by decide +kernel
theorem dX4_bestPhrase_143 : decode cX4_bestPhrase 143 = .ok (.istore_n 1, 1) := by decide +kernel
theorem dX4_bestPhrase_144 : decode cX4_bestPhrase 144 = .ok (.iload 7, 2) := by decide +kernel
theorem dX4_bestPhrase_146 : decode cX4_bestPhrase 146 = .ok (.ifCond .eq 8, 3) := by decide +kernel
theorem dX4_bestPhrase_149 : decode cX4_bestPhrase 149 = .ok (.iload 5, 2) := by decide +kernel
theorem dX4_bestPhrase_151 : decode cX4_bestPhrase 151 = .ok (.goto 4, 3) := by decide +kernel
theorem dX4_bestPhrase_154 : decode cX4_bestPhrase 154 = .ok (.iload_n 2, 1) := by decide +kernel
theorem dX4_bestPhrase_155 : decode cX4_bestPhrase 155 = .ok (.istore_n 2, 1) := by decide +kernel
theorem dX4_bestPhrase_156 : decode cX4_bestPhrase 156 = .ok (.iload 7, 2) := by decide +kernel
theorem dX4_bestPhrase_158 : decode cX4_bestPhrase 158 = .ok (.ifCond .eq 8, 3) := by decide +kernel
theorem dX4_bestPhrase_161 : decode cX4_bestPhrase 161 = .ok (.iload 6, 2) := by decide +kernel
theorem dX4_bestPhrase_163 : decode cX4_bestPhrase 163 = .ok (.goto 4, 3) := by decide +kernel
theorem dX4_bestPhrase_166 : decode cX4_bestPhrase 166 = .ok (.iload_n 3, 1) := by decide +kernel
theorem dX4_bestPhrase_167 : decode cX4_bestPhrase 167 = .ok (.istore_n 3, 1) := by decide +kernel
theorem dX4_bestPhrase_168 : decode cX4_bestPhrase 168 = .ok (.iinc 4 1, 3) := by decide +kernel
theorem dX4_bestPhrase_171 : decode cX4_bestPhrase 171 = .ok (.goto (-161), 3) := by decide +kernel
theorem dX4_bestPhrase_174 : decode cX4_bestPhrase 174 = .ok (.iload_n 1, 1) := by decide +kernel
theorem dX4_bestPhrase_175 : decode cX4_bestPhrase 175 = .ok (.ireturn, 1) := by decide +kernel
theorem dX4_bestChange_0 : decode cX4_bestChange 0 = .ok (.aload_n 0, 1) := by decide +kernel
theorem dX4_bestChange_1 : decode cX4_bestChange 1 = .ok (.iload_n 1, 1) := by decide +kernel
theorem dX4_bestChange_2 : decode cX4_bestChange 2 = .ok (.invokevirtual 52, 3) := by decide +kernel
theorem dX4_bestChange_5 : decode cX4_bestChange 5 = .ok (.ifCond .eq 11, 3) := by decide +kernel
theorem dX4_bestChange_8 : decode cX4_bestChange 8 = .ok (.aload_n 0, 1) := by decide +kernel
theorem dX4_bestChange_9 : decode cX4_bestChange 9 = .ok (.iload_n 2, 1) := by decide +kernel
theorem dX4_bestChange_10 : decode cX4_bestChange 10 = .ok (.invokevirtual 60, 3) := by decide +kernel
theorem dX4_bestChange_13 : decode cX4_bestChange 13 = .ok (.ifCond .ne 5, 3) := by decide +kernel
theorem dX4_bestChange_16 : decode cX4_bestChange 16 = .ok (.iconst (-1), 1) := by decide +kernel
theorem dX4_bestChange_17 : decode cX4_bestChange 17 = .ok (.ireturn, 1) := by decide +kernel
theorem dX4_bestChange_18 : decode cX4_bestChange 18 = .ok (.iload_n 3, 1) := by decide +kernel
theorem dX4_bestChange_19 : decode cX4_bestChange 19 = .ok (.iconst 0, 1) := by decide +kernel
theorem dX4_bestChange_20 : decode cX4_bestChange 20 = .ok (.iconst 1, 1) := by decide +kernel
theorem dX4_bestChange_21 : decode cX4_bestChange 21 = .ok (.invokestatic 48, 3) := by decide +kernel
theorem dX4_bestChange_24 : decode cX4_bestChange 24 = .ok (.ifCond .ne 6, 3) := by decide +kernel
theorem dX4_bestChange_27 : decode cX4_bestChange 27 = .ok (.bipush (-2), 2) := by decide +kernel
theorem dX4_bestChange_29 : decode cX4_bestChange 29 = .ok (.ireturn, 1) := by decide +kernel
theorem dX4_bestChange_30 : decode cX4_bestChange 30 = .ok (.aload_n 0, 1) := by decide +kernel
theorem dX4_bestChange_31 : decode cX4_bestChange 31 = .ok (.iload_n 1, 1) := by decide +kernel
theorem dX4_bestChange_32 : decode cX4_bestChange 32 = .ok (.iload_n 2, 1) := by decide +kernel
theorem dX4_bestChange_33 : decode cX4_bestChange 33 = .ok (.invokevirtual 115, 3) := by decide +kernel
theorem dX4_bestChange_36 : decode cX4_bestChange 36 = .ok (.bipush (-6), 2) := by decide +kernel
theorem dX4_bestChange_38 : decode cX4_bestChange 38 = .ok (.istore 4, 2) := by decide +kernel
theorem dX4_bestChange_40 : decode cX4_bestChange 40 = .ok (.ldc 88, 2) := by decide +kernel
theorem dX4_bestChange_42 : decode cX4_bestChange 42 = .ok (.istore 5, 2) := by decide +kernel
theorem dX4_bestChange_44 : decode cX4_bestChange 44 = .ok (.iconst 0, 1) := by decide +kernel
theorem dX4_bestChange_45 : decode cX4_bestChange 45 = .ok (.istore 6, 2) := by decide +kernel
theorem dX4_bestChange_47 : decode cX4_bestChange 47 = .ok (.iload 6, 2) := by decide +kernel
theorem dX4_bestChange_49 : decode cX4_bestChange 49 = .ok (.aload_n 0, 1) := by decide +kernel
theorem dX4_bestChange_50 : decode cX4_bestChange 50 = .ok (.getfield 66, 3) := by decide +kernel
theorem dX4_bestChange_53 : decode cX4_bestChange 53 = .ok (.if_icmp .ge 73, 3) := by decide +kernel
theorem dX4_bestChange_56 : decode cX4_bestChange 56 = .ok (.aload_n 0, 1) := by decide +kernel
theorem dX4_bestChange_57 : decode cX4_bestChange 57 = .ok (.dup, 1) := by decide +kernel
theorem dX4_bestChange_58 : decode cX4_bestChange 58 = .ok (.getfield 69, 3) := by decide +kernel
theorem dX4_bestChange_61 : decode cX4_bestChange 61 = .ok (.iconst 1, 1) := by decide +kernel
theorem dX4_bestChange_62 : decode cX4_bestChange 62 = .ok (.iload 6, 2) := by decide +kernel
theorem dX4_bestChange_64 : decode cX4_bestChange 64 = .ok (.ishl, 1) := by decide +kernel
theorem dX4_bestChange_65 : decode cX4_bestChange 65 = .ok (.ixor, 1) := by decide +kernel
theorem dX4_bestChange_66 : decode cX4_bestChange 66 = .ok (.putfield 69, 3) := by decide +kernel
theorem dX4_bestChange_69 : decode cX4_bestChange 69 = .ok (.aload_n 0, 1) := by decide +kernel
theorem dX4_bestChange_70 : decode cX4_bestChange 70 = .ok (.invokevirtual 118, 3) := by decide +kernel
theorem dX4_bestChange_73 : decode cX4_bestChange 73 = .ok (.istore 7, 2) := by decide +kernel
theorem dX4_bestChange_75 : decode cX4_bestChange 75 = .ok (.aload_n 0, 1) := by decide +kernel
theorem dX4_bestChange_76 : decode cX4_bestChange 76 = .ok (.dup, 1) := by decide +kernel
theorem dX4_bestChange_77 : decode cX4_bestChange 77 = .ok (.getfield 69, 3) := by decide +kernel
theorem dX4_bestChange_80 : decode cX4_bestChange 80 = .ok (.iconst 1, 1) := by decide +kernel
theorem dX4_bestChange_81 : decode cX4_bestChange 81 = .ok (.iload 6, 2) := by decide +kernel
theorem dX4_bestChange_83 : decode cX4_bestChange 83 = .ok (.ishl, 1) := by decide +kernel
theorem dX4_bestChange_84 : decode cX4_bestChange 84 = .ok (.ixor, 1) := by decide +kernel
theorem dX4_bestChange_85 : decode cX4_bestChange 85 = .ok (.putfield 69, 3) := by decide +kernel
theorem dX4_bestChange_88 : decode cX4_bestChange 88 = .ok (.iload 7, 2) := by decide +kernel
theorem dX4_bestChange_90 : decode cX4_bestChange 90 = .ok (.iload 5, 2) := by decide +kernel
theorem dX4_bestChange_92 : decode cX4_bestChange 92 = .ok (.if_icmp .ge 8, 3) := by decide +kernel
theorem dX4_bestChange_95 : decode cX4_bestChange 95 = .ok (.iload 6, 2) := by decide +kernel
theorem dX4_bestChange_97 : decode cX4_bestChange 97 = .ok (.goto 5, 3) := by decide +kernel
theorem dX4_bestChange_100 : decode cX4_bestChange 100 = .ok (.iload 4, 2) := by decide +kernel
theorem dX4_bestChange_102 : decode cX4_bestChange 102 = .ok (.istore 4, 2) := by decide +kernel
theorem dX4_bestChange_104 : decode cX4_bestChange 104 = .ok (.iload 7, 2) := by decide +kernel
theorem dX4_bestChange_106 : decode cX4_bestChange 106 = .ok (.iload 5, 2) := by decide +kernel
theorem dX4_bestChange_108 : decode cX4_bestChange 108 = .ok (.if_icmp .ge 8, 3) := by decide +kernel
theorem dX4_bestChange_111 : decode cX4_bestChange 111 = .ok (.iload 7, 2) := by decide +kernel
theorem dX4_bestChange_113 : decode cX4_bestChange 113 = .ok (.goto 5, 3) := by decide +kernel
theorem dX4_bestChange_116 : decode cX4_bestChange 116 = .ok (.iload 5, 2) := by decide +kernel
theorem dX4_bestChange_118 : decode cX4_bestChange 118 = .ok (.istore 5, 2) := by decide +kernel
theorem dX4_bestChange_120 : decode cX4_bestChange 120 = .ok (.iinc 6 1, 3) := by decide +kernel
theorem dX4_bestChange_123 : decode cX4_bestChange 123 = .ok (.goto (-76), 3) := by decide +kernel
theorem dX4_bestChange_126 : decode cX4_bestChange 126 = .ok (.iload 4, 2) := by decide +kernel
theorem dX4_bestChange_128 : decode cX4_bestChange 128 = .ok (.bipush (-6), 2) := by decide +kernel
theorem dX4_bestChange_130 : decode cX4_bestChange 130 = .ok (.if_icmp .eq 7, 3) := by decide +kernel
theorem dX4_bestChange_133 : decode cX4_bestChange 133 = .ok (.iload_n 3, 1) := by decide +kernel
theorem dX4_bestChange_134 : decode cX4_bestChange 134 = .ok (.ifCond .ne 8, 3) := by decide +kernel
theorem dX4_bestChange_137 : decode cX4_bestChange 137 = .ok (.iload 4, 2) := by decide +kernel
theorem dX4_bestChange_139 : decode cX4_bestChange 139 = .ok (.goto 5, 3) := by decide +kernel
theorem dX4_bestChange_142 : decode cX4_bestChange 142 = .ok (.iload 5, 2) := by decide +kernel
theorem dX4_bestChange_144 : decode cX4_bestChange 144 = .ok (.ireturn, 1) := by decide +kernel
theorem dX4_enoughBreath_0 : decode cX4_enoughBreath 0 = .ok (.aload_n 0, 1) := by decide +kernel
theorem dX4_enoughBreath_1 : decode cX4_enoughBreath 1 = .ok (.iload_n 1, 1) := by decide +kernel
theorem dX4_enoughBreath_2 : decode cX4_enoughBreath 2 = .ok (.invokevirtual 52, 3) := by decide +kernel
theorem dX4_enoughBreath_5 : decode cX4_enoughBreath 5 = .ok (.ifCond .eq 11, 3) := by decide +kernel
theorem dX4_enoughBreath_8 : decode cX4_enoughBreath 8 = .ok (.aload_n 0, 1) := by decide +kernel
theorem dX4_enoughBreath_9 : decode cX4_enoughBreath 9 = .ok (.iload_n 2, 1) := by decide +kernel
theorem dX4_enoughBreath_10 : decode cX4_enoughBreath 10 = .ok (.invokevirtual 60, 3) := by decide +kernel
theorem dX4_enoughBreath_13 : decode cX4_enoughBreath 13 = .ok (.ifCond .ne 5, 3) := by decide +kernel
theorem dX4_enoughBreath_16 : decode cX4_enoughBreath 16 = .ok (.iconst (-1), 1) := by decide +kernel
theorem dX4_enoughBreath_17 : decode cX4_enoughBreath 17 = .ok (.ireturn, 1) := by decide +kernel
theorem dX4_enoughBreath_18 : decode cX4_enoughBreath 18 = .ok (.aload_n 0, 1) := by decide +kernel
theorem dX4_enoughBreath_19 : decode cX4_enoughBreath 19 = .ok (.iload_n 1, 1) := by decide +kernel
theorem dX4_enoughBreath_20 : decode cX4_enoughBreath 20 = .ok (.iload_n 2, 1) := by decide +kernel
theorem dX4_enoughBreath_21 : decode cX4_enoughBreath 21 = .ok (.invokevirtual 115, 3) := by decide +kernel
theorem dX4_enoughBreath_24 : decode cX4_enoughBreath 24 = .ok (.bipush (-6), 2) := by decide +kernel
theorem dX4_enoughBreath_26 : decode cX4_enoughBreath 26 = .ok (.istore_n 3, 1) := by decide +kernel
theorem dX4_enoughBreath_27 : decode cX4_enoughBreath 27 = .ok (.ldc 88, 2) := by decide +kernel
theorem dX4_enoughBreath_29 : decode cX4_enoughBreath 29 = .ok (.istore 4, 2) := by decide +kernel
theorem dX4_enoughBreath_31 : decode cX4_enoughBreath 31 = .ok (.iconst 1, 1) := by decide +kernel
theorem dX4_enoughBreath_32 : decode cX4_enoughBreath 32 = .ok (.istore 5, 2) := by decide +kernel
theorem dX4_enoughBreath_34 : decode cX4_enoughBreath 34 = .ok (.iload 5, 2) := by decide +kernel
theorem dX4_enoughBreath_36 : decode cX4_enoughBreath 36 = .ok (.bipush 8, 2) := by decide +kernel
theorem dX4_enoughBreath_38 : decode cX4_enoughBreath 38 = .ok (.if_icmp .gt 51, 3) := by decide +kernel
theorem dX4_enoughBreath_41 : decode cX4_enoughBreath 41 = .ok (.aload_n 0, 1) := by decide +kernel
theorem dX4_enoughBreath_42 : decode cX4_enoughBreath 42 = .ok (.iload 5, 2) := by decide +kernel
theorem dX4_enoughBreath_44 : decode cX4_enoughBreath 44 = .ok (.putfield 81, 3) := by decide +kernel
theorem dX4_enoughBreath_47 : decode cX4_enoughBreath 47 = .ok (.aload_n 0, 1) := by decide +kernel
theorem dX4_enoughBreath_48 : decode cX4_enoughBreath 48 = .ok (.invokevirtual 118, 3) := by decide +kernel
theorem dX4_enoughBreath_51 : decode cX4_enoughBreath 51 = .ok (.istore 6, 2) := by decide +kernel
theorem dX4_enoughBreath_53 : decode cX4_enoughBreath 53 = .ok (.iload 6, 2) := by decide +kernel
theorem dX4_enoughBreath_55 : decode cX4_enoughBreath 55 = .ok (.iload 4, 2) := by decide +kernel
theorem dX4_enoughBreath_57 : decode cX4_enoughBreath 57 = .ok (.if_icmp .ge 8, 3) := by decide +kernel
theorem dX4_enoughBreath_60 : decode cX4_enoughBreath 60 = .ok (.iload 5, 2) := by decide +kernel
theorem dX4_enoughBreath_62 : decode cX4_enoughBreath 62 = .ok (.goto 4, 3) := by decide +kernel
theorem dX4_enoughBreath_65 : decode cX4_enoughBreath 65 = .ok (.iload_n 3, 1) := by decide +kernel
theorem dX4_enoughBreath_66 : decode cX4_enoughBreath 66 = .ok (.istore_n 3, 1) := by decide +kernel
theorem dX4_enoughBreath_67 : decode cX4_enoughBreath 67 = .ok (.iload 6, 2) := by decide +kernel
theorem dX4_enoughBreath_69 : decode cX4_enoughBreath 69 = .ok (.iload 4, 2) := by decide +kernel
theorem dX4_enoughBreath_71 : decode cX4_enoughBreath 71 = .ok (.if_icmp .ge 8, 3) := by decide +kernel
theorem dX4_enoughBreath_74 : decode cX4_enoughBreath 74 = .ok (.iload 6, 2) := by decide +kernel
theorem dX4_enoughBreath_76 : decode cX4_enoughBreath 76 = .ok (.goto 5, 3) := by decide +kernel
theorem dX4_enoughBreath_79 : decode cX4_enoughBreath 79 = .ok (.iload 4, 2) := by decide +kernel
theorem dX4_enoughBreath_81 : decode cX4_enoughBreath 81 = .ok (.istore 4, 2) := by decide +kernel
theorem dX4_enoughBreath_83 : decode cX4_enoughBreath 83 = .ok (.iinc 5 1, 3) := by decide +kernel
theorem dX4_enoughBreath_86 : decode cX4_enoughBreath 86 = .ok (.goto (-52), 3) := by decide +kernel
theorem dX4_enoughBreath_89 : decode cX4_enoughBreath 89 = .ok (.iload_n 3, 1) := by decide +kernel
theorem dX4_enoughBreath_90 : decode cX4_enoughBreath 90 = .ok (.ireturn, 1) := by decide +kernel
theorem dX4_put_0 : decode cX4_put 0 = .ok (.iconst 0, 1) := by decide +kernel
theorem dX4_put_1 : decode cX4_put 1 = .ok (.istore_n 3, 1) := by decide +kernel
theorem dX4_put_2 : decode cX4_put 2 = .ok (.lload_n 1, 1) := by decide +kernel
theorem dX4_put_3 : decode cX4_put 3 = .ok (.lstore 4, 2) := by decide +kernel
theorem dX4_put_5 : decode cX4_put 5 = .ok (.iconst 1, 1) := by decide +kernel
theorem dX4_put_6 : decode cX4_put 6 = .ok (.istore 6, 2) := by decide +kernel
theorem dX4_put_8 : decode cX4_put 8 = .ok (.iload_n 3, 1) := by decide +kernel
theorem dX4_put_9 : decode cX4_put 9 = .ok (.bipush 8, 2) := by decide +kernel
theorem dX4_put_11 : decode cX4_put 11 = .ok (.if_icmp .ge 56, 3) := by decide +kernel
theorem dX4_put_14 : decode cX4_put 14 = .ok (.lload 4, 2) := by decide +kernel
theorem dX4_put_16 : decode cX4_put 16 = .ok (.ldc2_w 193, 3) := by decide +kernel
theorem dX4_put_19 : decode cX4_put 19 = .ok (.land, 1) := by decide +kernel
theorem dX4_put_20 : decode cX4_put 20 = .ok (.lconst 0, 1) := by decide +kernel
theorem dX4_put_21 : decode cX4_put 21 = .ok (.lcmp, 1) := by decide +kernel
theorem dX4_put_22 : decode cX4_put 22 = .ok (.ifCond .eq 45, 3) := by decide +kernel
theorem dX4_put_25 : decode cX4_put 25 = .ok (.iload 6, 2) := by decide +kernel
theorem dX4_put_27 : decode cX4_put 27 = .ok (.ifCond .eq 24, 3) := by decide +kernel
theorem dX4_put_30 : decode cX4_put 30 = .ok (.lload 4, 2) := by decide +kernel
theorem dX4_put_32 : decode cX4_put 32 = .ok (.ldc2_w 193, 3) := by decide +kernel
theorem dX4_put_35 : decode cX4_put 35 = .ok (.land, 1) := by decide +kernel
theorem dX4_put_36 : decode cX4_put 36 = .ok (.l2i, 1) := by decide +kernel
theorem dX4_put_37 : decode cX4_put 37 = .ok (.bipush 33, 2) := by decide +kernel
theorem dX4_put_39 : decode cX4_put 39 = .ok (.bipush 126, 2) := by decide +kernel
theorem dX4_put_41 : decode cX4_put 41 = .ok (.invokestatic 48, 3) := by decide +kernel
theorem dX4_put_44 : decode cX4_put 44 = .ok (.ifCond .eq 7, 3) := by decide +kernel
theorem dX4_put_47 : decode cX4_put 47 = .ok (.iconst 1, 1) := by decide +kernel
theorem dX4_put_48 : decode cX4_put 48 = .ok (.goto 4, 3) := by decide +kernel
theorem dX4_put_51 : decode cX4_put 51 = .ok (.iconst 0, 1) := by decide +kernel
theorem dX4_put_52 : decode cX4_put 52 = .ok (.istore 6, 2) := by decide +kernel
theorem dX4_put_54 : decode cX4_put 54 = .ok (.lload 4, 2) := by decide +kernel
theorem dX4_put_56 : decode cX4_put 56 = .ok (.bipush 8, 2) := by decide +kernel
theorem dX4_put_58 : decode cX4_put 58 = .ok (.lushr, 1) := by decide +kernel
theorem dX4_put_59 : decode cX4_put 59 = .ok (.lstore 4, 2) := by decide +kernel
theorem dX4_put_61 : decode cX4_put 61 = .ok (.iinc 3 1, 3) := by decide +kernel
theorem dX4_put_64 : decode cX4_put 64 = .ok (.goto (-56), 3) := by decide +kernel
theorem dX4_put_67 : decode cX4_put 67 = .ok (.iload_n 3, 1) := by decide +kernel
theorem dX4_put_68 : decode cX4_put 68 = .ok (.ifCond .eq 15, 3) := by decide +kernel
theorem dX4_put_71 : decode cX4_put 71 = .ok (.iload 6, 2) := by decide +kernel
theorem dX4_put_73 : decode cX4_put 73 = .ok (.ifCond .eq 10, 3) := by decide +kernel
theorem dX4_put_76 : decode cX4_put 76 = .ok (.lload 4, 2) := by decide +kernel
theorem dX4_put_78 : decode cX4_put 78 = .ok (.lconst 0, 1) := by decide +kernel
theorem dX4_put_79 : decode cX4_put 79 = .ok (.lcmp, 1) := by decide +kernel
theorem dX4_put_80 : decode cX4_put 80 = .ok (.ifCond .eq 6, 3) := by decide +kernel
theorem dX4_put_83 : decode cX4_put 83 = .ok (.bipush (-2), 2) := by decide +kernel
theorem dX4_put_85 : decode cX4_put 85 = .ok (.ireturn, 1) := by decide +kernel
theorem dX4_put_86 : decode cX4_put 86 = .ok (.aload_n 0, 1) := by decide +kernel
theorem dX4_put_87 : decode cX4_put 87 = .ok (.getfield 134, 3) := by decide +kernel
theorem dX4_put_90 : decode cX4_put 90 = .ok (.iload_n 3, 1) := by decide +kernel
theorem dX4_put_91 : decode cX4_put 91 = .ok (.iadd, 1) := by decide +kernel
theorem dX4_put_92 : decode cX4_put 92 = .ok (.bipush 60, 2) := by decide +kernel
theorem dX4_put_94 : decode cX4_put 94 = .ok (.if_icmp .le 6, 3) := by decide +kernel
theorem dX4_put_97 : decode cX4_put 97 = .ok (.bipush (-4), 2) := by decide +kernel
theorem dX4_put_99 : decode cX4_put 99 = .ok (.ireturn, 1) := by decide +kernel
theorem dX4_put_100 : decode cX4_put 100 = .ok (.iload_n 3, 1) := by decide +kernel
theorem dX4_put_101 : decode cX4_put 101 = .ok (.iconst 1, 1) := by decide +kernel
theorem dX4_put_102 : decode cX4_put 102 = .ok (.isub, 1) := by decide +kernel
theorem dX4_put_103 : decode cX4_put 103 = .ok (.istore 7, 2) := by decide +kernel
theorem dX4_put_105 : decode cX4_put 105 = .ok (.iload 7, 2) := by decide +kernel
theorem dX4_put_107 : decode cX4_put 107 = .ok (.ifCond .lt 40, 3) := by decide +kernel
theorem dX4_put_110 : decode cX4_put 110 = .ok (.aload_n 0, 1) := by decide +kernel
theorem dX4_put_111 : decode cX4_put 111 = .ok (.getfield 22, 3) := by decide +kernel
theorem dX4_put_114 : decode cX4_put 114 = .ok (.aload_n 0, 1) := by decide +kernel
theorem dX4_put_115 : decode cX4_put 115 = .ok (.getfield 134, 3) := by decide +kernel
theorem dX4_put_118 : decode cX4_put 118 = .ok (.lload_n 1, 1) := by decide +kernel
theorem dX4_put_119 : decode cX4_put 119 = .ok (.bipush 8, 2) := by decide +kernel
theorem dX4_put_121 : decode cX4_put 121 = .ok (.iload 7, 2) := by decide +kernel
theorem dX4_put_123 : decode cX4_put 123 = .ok (.imul, 1) := by decide +kernel
theorem dX4_put_124 : decode cX4_put 124 = .ok (.lushr, 1) := by decide +kernel
theorem dX4_put_125 : decode cX4_put 125 = .ok (.ldc2_w 193, 3) := by decide +kernel
theorem dX4_put_128 : decode cX4_put 128 = .ok (.land, 1) := by decide +kernel
theorem dX4_put_129 : decode cX4_put 129 = .ok (.l2i, 1) := by decide +kernel
theorem dX4_put_130 : decode cX4_put 130 = .ok (.iastore, 1) := by decide +kernel
theorem dX4_put_131 : decode cX4_put 131 = .ok (.aload_n 0, 1) := by decide +kernel
theorem dX4_put_132 : decode cX4_put 132 = .ok (.dup, 1) := by decide +kernel
theorem dX4_put_133 : decode cX4_put 133 = .ok (.getfield 134, 3) := by decide +kernel
theorem dX4_put_136 : decode cX4_put 136 = .ok (.iconst 1, 1) := by decide +kernel
theorem dX4_put_137 : decode cX4_put 137 = .ok (.iadd, 1) := by decide +kernel
theorem dX4_put_138 : decode cX4_put 138 = .ok (.putfield 134, 3) := by decide +kernel
theorem dX4_put_141 : decode cX4_put 141 = .ok (.iinc 7 (-1), 3) := by decide +kernel
theorem dX4_put_144 : decode cX4_put 144 = .ok (.goto (-39), 3) := by decide +kernel
theorem dX4_put_147 : decode cX4_put 147 = .ok (.aload_n 0, 1) := by decide +kernel
theorem dX4_put_148 : decode cX4_put 148 = .ok (.getfield 134, 3) := by decide +kernel
theorem dX4_put_151 : decode cX4_put 151 = .ok (.ireturn, 1) := by decide +kernel
theorem dX4_wipe_0 : decode cX4_wipe 0 = .ok (.aload_n 0, 1) := by decide +kernel
theorem dX4_wipe_1 : decode cX4_wipe 1 = .ok (.getfield 134, 3) := by decide +kernel
theorem dX4_wipe_4 : decode cX4_wipe 4 = .ok (.istore_n 1, 1) := by decide +kernel
theorem dX4_wipe_5 : decode cX4_wipe 5 = .ok (.aload_n 0, 1) := by decide +kernel
theorem dX4_wipe_6 : decode cX4_wipe 6 = .ok (.iconst 0, 1) := by decide +kernel
theorem dX4_wipe_7 : decode cX4_wipe 7 = .ok (.putfield 134, 3) := by decide +kernel
theorem dX4_wipe_10 : decode cX4_wipe 10 = .ok (.iload_n 1, 1) := by decide +kernel
theorem dX4_wipe_11 : decode cX4_wipe 11 = .ok (.ireturn, 1) := by decide +kernel
theorem dX4_findFault_0 : decode cX4_findFault 0 = .ok (.iconst 0, 1) := by decide +kernel
theorem dX4_findFault_1 : decode cX4_findFault 1 = .ok (.istore_n 1, 1) := by decide +kernel
theorem dX4_findFault_2 : decode cX4_findFault 2 = .ok (.iconst 0, 1) := by decide +kernel
theorem dX4_findFault_3 : decode cX4_findFault 3 = .ok (.istore_n 2, 1) := by decide +kernel
theorem dX4_findFault_4 : decode cX4_findFault 4 = .ok (.iconst 0, 1) := by decide +kernel
theorem dX4_findFault_5 : decode cX4_findFault 5 = .ok (.istore_n 3, 1) := by decide +kernel
theorem dX4_findFault_6 : decode cX4_findFault 6 = .ok (.iload_n 3, 1) := by decide +kernel
theorem dX4_findFault_7 : decode cX4_findFault 7 = .ok (.aload_n 0, 1) := by decide +kernel
theorem dX4_findFault_8 : decode cX4_findFault 8 = .ok (.getfield 134, 3) := by decide +kernel
theorem dX4_findFault_11 : decode cX4_findFault 11 = .ok (.if_icmp .ge 190, 3) := by decide +kernel
theorem dX4_findFault_14 : decode cX4_findFault 14 = .ok (.aload_n 0, 1) := by decide +kernel
theorem dX4_findFault_15 : decode cX4_findFault 15 = .ok (.getfield 22, 3) := by decide +kernel
theorem dX4_findFault_18 : decode cX4_findFault 18 = .ok (.iload_n 3, 1) := by decide +kernel
theorem dX4_findFault_19 : decode cX4_findFault 19 = .ok (.iaload, 1) := by decide +kernel
theorem dX4_findFault_20 : decode cX4_findFault 20 = .ok (.istore 4, 2) := by decide +kernel
theorem dX4_findFault_22 : decode cX4_findFault 22 = .ok (.iload_n 1, 1) := by decide +kernel
theorem dX4_findFault_23 : decode cX4_findFault 23 = .ok (.ifCond .ne 18, 3) := by decide +kernel
theorem dX4_findFault_26 : decode cX4_findFault 26 = .ok (.iload_n 2, 1) := by decide +kernel
theorem dX4_findFault_27 : decode cX4_findFault 27 = .ok (.ifCond .ne 14, 3) := by decide +kernel
theorem dX4_findFault_30 : decode cX4_findFault 30 = .ok (.iload 4, 2) := by decide +kernel
theorem dX4_findFault_32 : decode cX4_findFault 32 = .ok (.bipush 124, 2) := by decide +kernel
theorem dX4_findFault_34 : decode cX4_findFault 34 = .ok (.if_icmp .ne 7, 3) := by decide +kernel
theorem dX4_findFault_37 : decode cX4_findFault 37 = .ok (.iconst 1, 1) := by decide +kernel
theorem dX4_findFault_38 : decode cX4_findFault 38 = .ok (.goto 4, 3) := by decide +kernel
theorem dX4_findFault_41 : decode cX4_findFault 41 = .ok (.iconst 0, 1) := by decide +kernel
theorem dX4_findFault_42 : decode cX4_findFault 42 = .ok (.istore 5, 2) := by decide +kernel
theorem dX4_findFault_44 : decode cX4_findFault 44 = .ok (.iload_n 2, 1) := by decide +kernel
theorem dX4_findFault_45 : decode cX4_findFault 45 = .ok (.ifCond .ne 27, 3) := by decide +kernel
theorem dX4_findFault_48 : decode cX4_findFault 48 = .ok (.iload_n 1, 1) := by decide +kernel
theorem dX4_findFault_49 : decode cX4_findFault 49 = .ok (.bipush 16, 2) := by decide +kernel
theorem dX4_findFault_51 : decode cX4_findFault 51 = .ok (.if_icmp .ge 21, 3) := by decide +kernel
theorem dX4_findFault_54 : decode cX4_findFault 54 = .ok (.iload 4, 2) := by decide +kernel
theorem dX4_findFault_56 : decode cX4_findFault 56 = .ok (.bipush 120, 2) := by decide +kernel
theorem dX4_findFault_58 : decode cX4_findFault 58 = .ok (.if_icmp .eq 10, 3) := by decide +kernel
theorem dX4_findFault_61 : decode cX4_findFault 61 = .ok (.iload 4, 2) := by decide +kernel
theorem dX4_findFault_63 : decode cX4_findFault 63 = .ok (.bipush 88, 2) := by decide +kernel
theorem dX4_findFault_65 : decode cX4_findFault 65 = .ok (.if_icmp .ne 7, 3) := by decide +kernel
theorem dX4_findFault_68 : decode cX4_findFault 68 = .ok (.iconst 1, 1) := by decide +kernel
theorem dX4_findFault_69 : decode cX4_findFault 69 = .ok (.goto 4, 3) := by decide +kernel
theorem dX4_findFault_72 : decode cX4_findFault 72 = .ok (.iconst 0, 1) := by decide +kernel
theorem dX4_findFault_73 : decode cX4_findFault 73 = .ok (.istore 6, 2) := by decide +kernel
theorem dX4_findFault_75 : decode cX4_findFault 75 = .ok (.iload_n 2, 1) := by decide +kernel
theorem dX4_findFault_76 : decode cX4_findFault 76 = .ok (.ifCond .eq 34, 3) := by decide +kernel
theorem dX4_findFault_79 : decode cX4_findFault 79 = .ok (.iload_n 1, 1) := by decide +kernel
theorem dX4_findFault_80 : decode cX4_findFault 80 = .ok (.bipush 24, 2) := by decide +kernel
theorem dX4_findFault_82 : decode cX4_findFault 82 = .ok (.if_icmp .ge 28, 3) := by decide +kernel
theorem dX4_findFault_85 : decode cX4_findFault 85 = .ok (.iload 4, 2) := by decide +kernel
theorem dX4_findFault_87 : decode cX4_findFault 87 = .ok (.bipush 115, 2) := by decide +kernel
theorem dX4_findFault_89 : decode cX4_findFault 89 = .ok (.if_icmp .eq 17, 3) := by decide +kernel
theorem dX4_findFault_92 : decode cX4_findFault 92 = .ok (.iload 4, 2) := by decide +kernel
theorem dX4_findFault_94 : decode cX4_findFault 94 = .ok (.bipush 119, 2) := by decide +kernel
theorem dX4_findFault_96 : decode cX4_findFault 96 = .ok (.if_icmp .eq 10, 3) := by decide +kernel
theorem dX4_findFault_99 : decode cX4_findFault 99 = .ok (.iload 4, 2) := by decide +kernel
theorem dX4_findFault_101 : decode cX4_findFault 101 = .ok (.bipush 46, 2) := by decide +kernel
theorem dX4_findFault_103 : decode cX4_findFault 103 = .ok (.if_icmp .ne 7, 3) := by decide +kernel
theorem dX4_findFault_106 : decode cX4_findFault 106 = .ok (.iconst 1, 1) := by decide +kernel
theorem dX4_findFault_107 : decode cX4_findFault 107 = .ok (.goto 4, 3) := by decide +kernel
theorem dX4_findFault_110 : decode cX4_findFault 110 = .ok (.iconst 0, 1) := by decide +kernel
theorem dX4_findFault_111 : decode cX4_findFault 111 = .ok (.istore 7, 2) := by decide +kernel
theorem dX4_findFault_113 : decode cX4_findFault 113 = .ok (.iload_n 1, 1) := by decide +kernel
theorem dX4_findFault_114 : decode cX4_findFault 114 = .ok (.ifCond .le 14, 3) := by decide +kernel
theorem dX4_findFault_117 : decode cX4_findFault 117 = .ok (.iload 4, 2) := by decide +kernel
theorem dX4_findFault_119 : decode cX4_findFault 119 = .ok (.bipush 59, 2) := by decide +kernel
theorem dX4_findFault_121 : decode cX4_findFault 121 = .ok (.if_icmp .ne 7, 3) := by decide +kernel
theorem dX4_findFault_124 : decode cX4_findFault 124 = .ok (.iconst 1, 1) := by decide +kernel
theorem dX4_findFault_125 : decode cX4_findFault 125 = .ok (.goto 4, 3) := by decide +kernel
theorem dX4_findFault_128 : decode cX4_findFault 128 = .ok (.iconst 0, 1) := by decide +kernel
theorem dX4_findFault_129 : decode cX4_findFault 129 = .ok (.istore 8, 2) := by decide +kernel
theorem dX4_findFault_131 : decode cX4_findFault 131 = .ok (.iload 5, 2) := by decide +kernel
theorem dX4_findFault_133 : decode cX4_findFault 133 = .ok (.ifCond .ne 20, 3) := by decide +kernel
theorem dX4_findFault_136 : decode cX4_findFault 136 = .ok (.iload 6, 2) := by decide +kernel
theorem dX4_findFault_138 : decode cX4_findFault 138 = .ok (.ifCond .ne 15, 3) := by decide +kernel
theorem dX4_findFault_141 : decode cX4_findFault 141 = .ok (.iload 7, 2) := by decide +kernel
theorem dX4_findFault_143 : decode cX4_findFault 143 = .ok (.ifCond .ne 10, 3) := by decide +kernel
theorem dX4_findFault_146 : decode cX4_findFault 146 = .ok (.iload 8, 2) := by decide +kernel
theorem dX4_findFault_148 : decode cX4_findFault 148 = .ok (.ifCond .ne 5, 3) := by decide +kernel
theorem dX4_findFault_151 : decode cX4_findFault 151 = .ok (.iload_n 3, 1) := by decide +kernel
theorem dX4_findFault_152 : decode cX4_findFault 152 = .ok (.ireturn, 1) := by decide +kernel
theorem dX4_findFault_153 : decode cX4_findFault 153 = .ok (.iload 8, 2) := by decide +kernel
theorem dX4_findFault_155 : decode cX4_findFault 155 = .ok (.ifCond .eq 7, 3) := by decide +kernel
theorem dX4_findFault_158 : decode cX4_findFault 158 = .ok (.iconst 0, 1) := by decide +kernel
theorem dX4_findFault_159 : decode cX4_findFault 159 = .ok (.goto 15, 3) := by decide +kernel
theorem dX4_findFault_162 : decode cX4_findFault 162 = .ok (.iload 5, 2) := by decide +kernel
theorem dX4_findFault_164 : decode cX4_findFault 164 = .ok (.ifCond .eq 7, 3) := by decide +kernel
theorem dX4_findFault_167 : decode cX4_findFault 167 = .ok (.iconst 0, 1) := by decide +kernel
theorem dX4_findFault_168 : decode cX4_findFault 168 = .ok (.goto 6, 3) := by decide +kernel
theorem dX4_findFault_171 : decode cX4_findFault 171 = .ok (.iload_n 1, 1) := by decide +kernel
theorem dX4_findFault_172 : decode cX4_findFault 172 = .ok (.iconst 1, 1) := by decide +kernel
theorem dX4_findFault_173 : decode cX4_findFault 173 = .ok (.iadd, 1) := by decide +kernel
theorem dX4_findFault_174 : decode cX4_findFault 174 = .ok (.istore_n 1, 1) := by decide +kernel
theorem dX4_findFault_175 : decode cX4_findFault 175 = .ok (.iload 5, 2) := by decide +kernel
theorem dX4_findFault_177 : decode cX4_findFault 177 = .ok (.ifCond .ne 12, 3) := by decide +kernel
theorem dX4_findFault_180 : decode cX4_findFault 180 = .ok (.iload_n 2, 1) := by decide +kernel
theorem dX4_findFault_181 : decode cX4_findFault 181 = .ok (.ifCond .eq 12, 3) := by decide +kernel
theorem dX4_findFault_184 : decode cX4_findFault 184 = .ok (.iload 8, 2) := by decide +kernel
theorem dX4_findFault_186 : decode cX4_findFault 186 = .ok (.ifCond .ne 7, 3) := by decide +kernel
theorem dX4_findFault_189 : decode cX4_findFault 189 = .ok (.iconst 1, 1) := by decide +kernel
theorem dX4_findFault_190 : decode cX4_findFault 190 = .ok (.goto 4, 3) := by decide +kernel
theorem dX4_findFault_193 : decode cX4_findFault 193 = .ok (.iconst 0, 1) := by decide +kernel
theorem dX4_findFault_194 : decode cX4_findFault 194 = .ok (.istore_n 2, 1) := by decide +kernel
theorem dX4_findFault_195 : decode cX4_findFault 195 = .ok (.iinc 3 1, 3) := by decide +kernel
theorem dX4_findFault_198 : decode cX4_findFault 198 = .ok (.goto (-192), 3) := by decide +kernel
theorem dX4_findFault_201 : decode cX4_findFault 201 = .ok (.iload_n 1, 1) := by decide +kernel
theorem dX4_findFault_202 : decode cX4_findFault 202 = .ok (.ifCond .le 8, 3) := by decide +kernel
theorem dX4_findFault_205 : decode cX4_findFault 205 = .ok (.bipush (-6), 2) := by decide +kernel
theorem dX4_findFault_207 : decode cX4_findFault 207 = .ok (.goto 7, 3) := by decide +kernel
theorem dX4_findFault_210 : decode cX4_findFault 210 = .ok (.aload_n 0, 1) := by decide +kernel
theorem dX4_findFault_211 : decode cX4_findFault 211 = .ok (.getfield 134, 3) := by decide +kernel
theorem dX4_findFault_214 : decode cX4_findFault 214 = .ok (.ireturn, 1) := by decide +kernel
theorem dX4_fault_0 : decode cX4_fault 0 = .ok (.aload_n 0, 1) := by decide +kernel
theorem dX4_fault_1 : decode cX4_fault 1 = .ok (.invokevirtual 137, 3) := by decide +kernel
theorem dX4_fault_4 : decode cX4_fault 4 = .ok (.ireturn, 1) := by decide +kernel
theorem dX4_undo_0 : decode cX4_undo 0 = .ok (.aload_n 0, 1) := by decide +kernel
theorem dX4_undo_1 : decode cX4_undo 1 = .ok (.getfield 40, 3) := by decide +kernel
theorem dX4_undo_4 : decode cX4_undo 4 = .ok (.ifCond .ne 6, 3) := by decide +kernel
theorem dX4_undo_7 : decode cX4_undo 7 = .ok (.bipush (-5), 2) := by decide +kernel
theorem dX4_undo_9 : decode cX4_undo 9 = .ok (.ireturn, 1) := by decide +kernel
theorem dX4_undo_10 : decode cX4_undo 10 = .ok (.aload_n 0, 1) := by decide +kernel
theorem dX4_undo_11 : decode cX4_undo 11 = .ok (.dup, 1) := by decide +kernel
theorem dX4_undo_12 : decode cX4_undo 12 = .ok (.getfield 40, 3) := by decide +kernel
theorem dX4_undo_15 : decode cX4_undo 15 = .ok (.iconst 1, 1) := by decide +kernel
theorem dX4_undo_16 : decode cX4_undo 16 = .ok (.isub, 1) := by decide +kernel
theorem dX4_undo_17 : decode cX4_undo 17 = .ok (.putfield 40, 3) := by decide +kernel
theorem dX4_undo_20 : decode cX4_undo 20 = .ok (.aload_n 0, 1) := by decide +kernel
theorem dX4_undo_21 : decode cX4_undo 21 = .ok (.getfield 13, 3) := by decide +kernel
theorem dX4_undo_24 : decode cX4_undo 24 = .ok (.aload_n 0, 1) := by decide +kernel
theorem dX4_undo_25 : decode cX4_undo 25 = .ok (.getfield 40, 3) := by decide +kernel
theorem dX4_undo_28 : decode cX4_undo 28 = .ok (.bipush 112, 2) := by decide +kernel
theorem dX4_undo_30 : decode cX4_undo 30 = .ok (.imul, 1) := by decide +kernel
theorem dX4_undo_31 : decode cX4_undo 31 = .ok (.aload_n 0, 1) := by decide +kernel
theorem dX4_undo_32 : decode cX4_undo 32 = .ok (.getfield 7, 3) := by decide +kernel
theorem dX4_undo_35 : decode cX4_undo 35 = .ok (.iconst 0, 1) := by decide +kernel
theorem dX4_undo_36 : decode cX4_undo 36 = .ok (.invokestatic 44, 3) := by decide +kernel
theorem dX4_undo_39 : decode cX4_undo 39 = .ok (.aload_n 0, 1) := by decide +kernel
theorem dX4_undo_40 : decode cX4_undo 40 = .ok (.getfield 40, 3) := by decide +kernel
theorem dX4_undo_43 : decode cX4_undo 43 = .ok (.ireturn, 1) := by decide +kernel
theorem dX4_save_0 : decode cX4_save 0 = .ok (.iload_n 1, 1) := by decide +kernel
theorem dX4_save_1 : decode cX4_save 1 = .ok (.iconst 0, 1) := by decide +kernel
theorem dX4_save_2 : decode cX4_save 2 = .ok (.iconst 1, 1) := by decide +kernel
theorem dX4_save_3 : decode cX4_save 3 = .ok (.invokestatic 48, 3) := by decide +kernel
theorem dX4_save_6 : decode cX4_save 6 = .ok (.ifCond .ne 6, 3) := by decide +kernel
theorem dX4_save_9 : decode cX4_save 9 = .ok (.bipush (-2), 2) := by decide +kernel
theorem dX4_save_11 : decode cX4_save 11 = .ok (.ireturn, 1) := by decide +kernel
theorem dX4_save_12 : decode cX4_save 12 = .ok (.aload_n 0, 1) := by decide +kernel
theorem dX4_save_13 : decode cX4_save 13 = .ok (.getfield 7, 3) := by decide +kernel
theorem dX4_save_16 : decode cX4_save 16 = .ok (.iconst 0, 1) := by decide +kernel
theorem dX4_save_17 : decode cX4_save 17 = .ok (.aload_n 0, 1) := by decide +kernel
theorem dX4_save_18 : decode cX4_save 18 = .ok (.getfield 16, 3) := by decide +kernel
theorem dX4_save_21 : decode cX4_save 21 = .ok (.bipush 112, 2) := by decide +kernel
theorem dX4_save_23 : decode cX4_save 23 = .ok (.iload_n 1, 1) := by decide +kernel
theorem dX4_save_24 : decode cX4_save 24 = .ok (.imul, 1) := by decide +kernel
theorem dX4_save_25 : decode cX4_save 25 = .ok (.invokestatic 44, 3) := by decide +kernel
theorem dX4_save_28 : decode cX4_save 28 = .ok (.aload_n 0, 1) := by decide +kernel
theorem dX4_save_29 : decode cX4_save 29 = .ok (.getfield 19, 3) := by decide +kernel
theorem dX4_save_32 : decode cX4_save 32 = .ok (.iload_n 1, 1) := by decide +kernel
theorem dX4_save_33 : decode cX4_save 33 = .ok (.iconst 1, 1) := by decide +kernel
theorem dX4_save_34 : decode cX4_save 34 = .ok (.iastore, 1) := by decide +kernel
theorem dX4_save_35 : decode cX4_save 35 = .ok (.aload_n 0, 1) := by decide +kernel
theorem dX4_save_36 : decode cX4_save 36 = .ok (.getfield 7, 3) := by decide +kernel
theorem dX4_save_39 : decode cX4_save 39 = .ok (.iconst 4, 1) := by decide +kernel
theorem dX4_save_40 : decode cX4_save 40 = .ok (.iaload, 1) := by decide +kernel
theorem dX4_save_41 : decode cX4_save 41 = .ok (.ireturn, 1) := by decide +kernel
theorem dX4_restore_0 : decode cX4_restore 0 = .ok (.iload_n 1, 1) := by decide +kernel
theorem dX4_restore_1 : decode cX4_restore 1 = .ok (.iconst 0, 1) := by decide +kernel
theorem dX4_restore_2 : decode cX4_restore 2 = .ok (.iconst 1, 1) := by decide +kernel
theorem dX4_restore_3 : decode cX4_restore 3 = .ok (.invokestatic 48, 3) := by decide +kernel
theorem dX4_restore_6 : decode cX4_restore 6 = .ok (.ifCond .ne 6, 3) := by decide +kernel
theorem dX4_restore_9 : decode cX4_restore 9 = .ok (.bipush (-2), 2) := by decide +kernel
theorem dX4_restore_11 : decode cX4_restore 11 = .ok (.ireturn, 1) := by decide +kernel
theorem dX4_restore_12 : decode cX4_restore 12 = .ok (.aload_n 0, 1) := by decide +kernel
theorem dX4_restore_13 : decode cX4_restore 13 = .ok (.getfield 19, 3) := by decide +kernel
theorem dX4_restore_16 : decode cX4_restore 16 = .ok (.iload_n 1, 1) := by decide +kernel
theorem dX4_restore_17 : decode cX4_restore 17 = .ok (.iaload, 1) := by decide +kernel
theorem dX4_restore_18 : decode cX4_restore 18 = .ok (.ifCond .ne 6, 3) := by decide +kernel
theorem dX4_restore_21 : decode cX4_restore 21 = .ok (.bipush (-5), 2) := by decide +kernel
theorem dX4_restore_23 : decode cX4_restore 23 = .ok (.ireturn, 1) := by decide +kernel
theorem dX4_restore_24 : decode cX4_restore 24 = .ok (.aload_n 0, 1) := by decide +kernel
theorem dX4_restore_25 : decode cX4_restore 25 = .ok (.invokevirtual 131, 3) := by decide +kernel
theorem dX4_restore_28 : decode cX4_restore 28 = .ok (.aload_n 0, 1) := by decide +kernel
theorem dX4_restore_29 : decode cX4_restore 29 = .ok (.getfield 16, 3) := by decide +kernel
theorem dX4_restore_32 : decode cX4_restore 32 = .ok (.bipush 112, 2) := by decide +kernel
theorem dX4_restore_34 : decode cX4_restore 34 = .ok (.iload_n 1, 1) := by decide +kernel
theorem dX4_restore_35 : decode cX4_restore 35 = .ok (.imul, 1) := by decide +kernel
theorem dX4_restore_36 : decode cX4_restore 36 = .ok (.aload_n 0, 1) := by decide +kernel
theorem dX4_restore_37 : decode cX4_restore 37 = .ok (.getfield 7, 3) := by decide +kernel
theorem dX4_restore_40 : decode cX4_restore 40 = .ok (.iconst 0, 1) := by decide +kernel
theorem dX4_restore_41 : decode cX4_restore 41 = .ok (.invokestatic 44, 3) := by decide +kernel
theorem dX4_restore_44 : decode cX4_restore 44 = .ok (.aload_n 0, 1) := by decide +kernel
theorem dX4_restore_45 : decode cX4_restore 45 = .ok (.getfield 7, 3) := by decide +kernel
theorem dX4_restore_48 : decode cX4_restore 48 = .ok (.iconst 4, 1) := by decide +kernel
theorem dX4_restore_49 : decode cX4_restore 49 = .ok (.iaload, 1) := by decide +kernel
theorem dX4_restore_50 : decode cX4_restore 50 = .ok (.ireturn, 1) := by decide +kernel
end
section
/-! A SMALL MACHINE OVER ONE WORLD: cells by their places, all numbers as Int, one memory of numbers -/
abbrev tu_v : Type := Int ⊕ (Nat ⊕ Nat)
abbrev tu_i (z : Int) : tu_v := .inl z
abbrev tu_r (i : Nat) : tu_v := .inr (.inl i)
abbrev tu_l (u : Nat) : tu_v := .inr (.inr u)
def tu_J (z : Int) : Int32 := Int32.ofInt z
def tu_K (u : Nat) : Int64 := Int64.ofNat u
def tu_vl (ad : Nat → Nat) (v : tu_v) : Value := match v with
  | .inl z => .int (tu_J z)
  | .inr (.inl i) => .ref (ad i)
  | .inr (.inr u) => .long (tu_K u)
abbrev tu_M : Type := Nat → Nat → Int
def tu_row (M : tu_M) (i : Nat) (f : Nat → Int) : tu_M := fun a => bif Nat.beq a i then f else M a
def tu_u (f : Nat → Int) (k : Nat) (x : Int) : Nat → Int := fun j => bif Nat.beq j k then x else f j
theorem tu_bf {a b : Nat} (h : a ≠ b) : Nat.beq a b = false := by
  cases e : Nat.beq a b
  · rfl
  · exact absurd (Nat.eq_of_beq_eq_true e) h
theorem tu_row_s (M : tu_M) (i : Nat) (f : Nat → Int) : tu_row M i f i = f := by simp [tu_row]
theorem tu_row_n (M : tu_M) {i a : Nat} (f : Nat → Int) (h : a ≠ i) : tu_row M i f a = M a := by
  have e : Nat.beq a i = false := tu_bf h
  simp [tu_row, e]
theorem tu_u_s (f : Nat → Int) (k : Nat) (x : Int) : tu_u f k x k = x := by simp [tu_u]
theorem tu_u_n (f : Nat → Int) {k j : Nat} (x : Int) (h : j ≠ k) : tu_u f k x j = f j := by
  have e : Nat.beq j k = false := tu_bf h
  simp [tu_u, e]
theorem tu_u_if (f : Nat → Int) (k j : Nat) (x : Int) : tu_u f k x j = if j = k then x else f j := by
  by_cases h : j = k
  · subst h; simp [tu_u_s]
  · simp [tu_u_n f x h, h]
theorem tu_rr (M : tu_M) (i : Nat) (f g : Nat → Int) : tu_row (tu_row M i f) i g = tu_row M i g := by
  funext a
  by_cases h : a = i
  · subst h; simp [tu_row_s]
  · simp [tu_row_n _ _ h]
theorem tu_rc (M : tu_M) {i j : Nat} (f g : Nat → Int) (h : Nat.beq i j = false) : tu_row (tu_row M i f) j g = tu_row (tu_row M j g) i f := by
  have h : i ≠ j := fun e => by subst e; simp at h
  funext a
  by_cases h1 : a = i
  · subst h1; rw [tu_row_n _ _ h, tu_row_s, tu_row_s]
  · by_cases h2 : a = j
    · subst h2; rw [tu_row_s, tu_row_n _ _ h1, tu_row_s]
    · rw [tu_row_n _ _ h2, tu_row_n _ _ h1, tu_row_n _ _ h1, tu_row_n _ _ h2]
theorem tu_rx (M : tu_M) (i : Nat) : tu_row M i (M i) = M := by
  funext a
  by_cases h : a = i
  · subst h; rw [tu_row_s]
  · rw [tu_row_n _ _ h]
/-! numbers -/
abbrev tu_rg (z : Int) : Prop := -2147483648 ≤ z ∧ z ≤ 2147483647
theorem tu_J_i {z : Int} (h : tu_rg z) : (tu_J z).toInt = z := by
  have h1 := h.1; have h2 := h.2
  exact Int32.toInt_ofInt_of_le (by simpa using h1) (by have e : (2:Int)^31 = 2147483648 := by decide
                                                        omega)
theorem tu_J_t (x : Int32) : tu_J x.toInt = x := by unfold tu_J; exact Int32.ofInt_toInt x
theorem tu_J_add (a b : Int) : tu_J (a + b) = tu_J a + tu_J b := Int32.ofInt_add ..
theorem tu_J_sub (a b : Int) : tu_J (a - b) = tu_J a - tu_J b := Int32.ofInt_sub ..
theorem tu_J_mul (a b : Int) : tu_J (a * b) = tu_J a * tu_J b := Int32.ofInt_mul ..
theorem tu_J_lt {a b : Int} (ha : tu_rg a) (hb : tu_rg b) : tu_J a < tu_J b ↔ a < b := by rw [Int32.lt_iff_toInt_lt, tu_J_i ha, tu_J_i hb]
theorem tu_J_le {a b : Int} (ha : tu_rg a) (hb : tu_rg b) : tu_J a ≤ tu_J b ↔ a ≤ b := by rw [Int32.le_iff_toInt_le, tu_J_i ha, tu_J_i hb]
theorem tu_J_eq {a b : Int} (ha : tu_rg a) (hb : tu_rg b) : tu_J a = tu_J b ↔ a = b := by
  rw [← Int32.toInt_inj, tu_J_i ha, tu_J_i hb]
theorem tu_rg_t (x : Int32) : tu_rg x.toInt := ⟨by have := Int32.le_toInt x; simpa using this, by have := Int32.toInt_lt x; have e : (2:Int)^31 = 2147483648 := by decide
                                                                                                  omega⟩
theorem tu_J_n {n : Nat} : tu_J (n : Int) = nI n := by
  apply Int32.toBitVec_inj.mp
  simp [tu_J, nI]
theorem tu_in {j : Int} {k n : Nat} (hj : j = (k : Int)) (hk : k < n) (hn : n < 2147483648) : vp_in (tu_J j) n := by
  subst hj; rw [tu_J_n]; exact vp_in_nI hk (by omega)
theorem tu_cl {j : Int} {k n : Nat} (hj : j = (k : Int)) (hk : k < n) (hn : n < 2147483648) : (tu_J j).toNatClampNeg = k := by
  subst hj; rw [tu_J_n]; exact nI_clamp (by omega)
end
section
/-! the cells of the two objects, in the order in which they are made: kind (0 ints, 1 chars, 2 booleans, 3 books, 4 an object), length or class, fields -/
abbrev tu_S : Type := Nat × Nat × List (Option Nat)
def tu_bk (b : Nat) (f : Nat) : tu_S := match f with
  | 0 => (4, 0, [some (b+1), none, some (b+2), some (b+3), none, some (b+4), some (b+5), none, some (b+6), none, some (b+7)])
  | 1 => (0, 4, [])
  | 2 => (0, 16, [])
  | 3 => (0, 256, [])
  | 4 => (0, 8, [])
  | 5 => (0, 192, [])
  | 6 => (0, 40, [])
  | _ => (0, 8, [])
def tu_sh (i : Nat) : tu_S := match i with
  | 0 => (4, 3, [some 1, some 9, some 11, some 19, none, some 20, some 21])
  | 9 => (4, 2, [some 10, none])
  | 10 => (1, 60, [])
  | 11 => (4, 1, [none, none, none, none, none, none, some 12, some 13, some 14, some 15, some 16, some 17, some 18])
  | 12 => (0, 16, [])
  | 13 => (0, 24, [])
  | 14 => (0, 25, [])
  | 15 => (0, 425, [])
  | 16 => (0, 425, [])
  | 17 => (0, 16, [])
  | 18 => (0, 16, [])
  | 19 => (3, 6, [])
  | 20 => (3, 2, [])
  | 21 => (2, 2, [])
  | 86 => (4, 4, [some 87, some 88, none, some 89, some 90, some 91, none, some 92, some 93, some 94, none, none, none, none, none, none, some 95, some 96])
  | 87 => (0, 112, [])
  | 88 => (0, 672, [])
  | 89 => (0, 224, [])
  | 90 => (0, 2, [])
  | 91 => (0, 60, [])
  | 92 => (0, 425, [])
  | 93 => (0, 425, [])
  | 94 => (0, 425, [])
  | 95 => (0, 16, [])
  | 96 => (0, 16, [])
  | i => bif Nat.blt i 9 then tu_bk 1 (i - 1) else tu_bk (22 + 8 * ((i - 22) / 8)) ((i - 22) % 8)
def tu_B (b : Nat) : Prop := b = 1 ∨ ∃ k, k < 8 ∧ b = 22 + 8 * k
theorem tu_sh_bk {b f : Nat} (h : tu_B b) (hf : f < 8) : tu_sh (b + f) = tu_bk b f := by
  rcases h with rfl | ⟨k, hk, rfl⟩
  · rcases (show f = 0 ∨ f = 1 ∨ f = 2 ∨ f = 3 ∨ f = 4 ∨ f = 5 ∨ f = 6 ∨ f = 7 by omega) with rfl | rfl | rfl | rfl | rfl | rfl | rfl | rfl <;> rfl
  · rcases (show k = 0 ∨ k = 1 ∨ k = 2 ∨ k = 3 ∨ k = 4 ∨ k = 5 ∨ k = 6 ∨ k = 7 by omega) with rfl | rfl | rfl | rfl | rfl | rfl | rfl | rfl <;> rcases (show f = 0 ∨ f = 1 ∨ f = 2 ∨ f = 3 ∨ f = 4 ∨ f = 5 ∨ f = 6 ∨ f = 7 by omega) with rfl | rfl | rfl | rfl | rfl | rfl | rfl | rfl <;> rfl
theorem tu_B_lt {b f : Nat} (h : tu_B b) (hf : f < 8) : b + f < 97 := by
  rcases h with rfl | ⟨k, hk, rfl⟩ <;> omega
/-- the words of the tables that every state of a run keeps -/
def tu_tb : List Cond := lw_tbl.filter goodWord
theorem tu_tb_in {w : Cond} (i : Nat) (h : lw_tbl[i]? = some w) (hg : goodWord w = true) : w ∈ tu_tb := List.mem_filter.mpr ⟨List.mem_of_getElem? h, hg⟩
theorem tu_tb_good : ∀ w ∈ tu_tb, (w.onTables && w.keeps) = true ∨ ∃ ty, w = .arrayClass ty := fun w h => good_of_word (List.mem_filter.mp h).2
abbrev tu_G : Type := va_G × ClassId × ClassId × ClassId × ClassId
abbrev tu_cs : List vw_C := [(RX0, TX0, 11), (RX1, TX1, 13), (RX2, TX2, 2), (RX3, TX3, 7), (RX4, TX4, 18)]
abbrev tu_ty (g : tu_G) : List (ClassId × FieldType) := [(g.2.1, .int), (g.2.2.1, .char), (g.2.2.2.1, .boolean), (g.2.2.2.2, .object RX0)]
def tu_fv (ad : Nat → Nat) (row : Nat → Int) : Nat → List (Option Nat) → List Value
  | _, [] => []
  | k, none :: t => .int (tu_J (row k)) :: tu_fv ad row (k + 1) t
  | k, some j :: t => .ref (ad j) :: tu_fv ad row (k + 1) t
def tu_ce (g : tu_G) (ad : Nat → Nat) (row : Nat → Int) (s : tu_S) : va_E := match s with
  | (0, n, _) => .inl (g.2.1, n, .inl (fun j => tu_J (row j)))
  | (1, n, _) => .inl (g.2.2.1, n, .inl (fun j => tu_J (row j)))
  | (2, n, _) => .inl (g.2.2.2.1, n, .inl (fun j => tu_J (row j)))
  | (3, n, _) => .inl (g.2.2.2.2, n, .inr (.inr (.inr (.inr (fun j => some (ad (row j).toNat))))))
  | (_, c, fs) => .inr (c, tu_fv ad row 0 fs)
def tu_ws (g : tu_G) (ad : Nat → Nat) (M : tu_M) : va_W := (List.range 97).map fun i => (ad i, tu_ce g ad (M i) (tu_sh i))
theorem tu_ws_at {g : tu_G} {ad : Nat → Nat} {M : tu_M} {i : Nat} (h : i < 97) : (tu_ws g ad M)[i]? = some (ad i, tu_ce g ad (M i) (tu_sh i)) := by
  simp [tu_ws, h]
theorem tu_ws_set {g : tu_G} {ad : Nat → Nat} {M : tu_M} {i : Nat} (f : Nat → Int) {e : va_E} (he : tu_ce g ad f (tu_sh i) = e) : (tu_ws g ad M).set i (ad i, e) = tu_ws g ad (tu_row M i f) := by
  apply List.ext_getElem?
  intro j
  by_cases hj : j < 97
  · by_cases h : i = j
    · subst h
      rw [List.getElem?_set_self (by simp [tu_ws]; omega), tu_ws_at hj, tu_row_s, he]
    · rw [List.getElem?_set_ne h, tu_ws_at hj, tu_ws_at hj, tu_row_n _ _ (Ne.symm h)]
  · have h1 : ∀ M, (tu_ws g ad M)[j]? = none := fun M => by simp [tu_ws]; omega
    rw [h1]
    apply List.getElem?_eq_none
    simp [tu_ws]; omega
def tu_A (ad : Nat → Nat) : Nat → Prop := fun q => ∃ i, i < 97 ∧ q = ad i
def tu_inj (ad : Nat → Nat) : Prop := ∀ i j, i < 97 → j < 97 → ad i = ad j → i = j
theorem tu_D {g : tu_G} {ad : Nat → Nat} {M : tu_M} (h : tu_inj ad) : va_D (tu_A ad) (tu_ws g ad M) := by
  have lt : ∀ {i : Nat} {q : Nat × va_E}, (tu_ws g ad M)[i]? = some q → i < 97 := fun {i q} hq => by
    have := (List.getElem?_eq_some_iff.mp hq).1
    simpa [tu_ws] using this
  refine ⟨fun i j p q hi hj e => ?_, fun k q hk => ?_⟩
  · have a := lt hi; have b := lt hj
    rw [tu_ws_at a] at hi; rw [tu_ws_at b] at hj
    cases hi; cases hj
    exact h i j a b e
  · have a := lt hk
    rw [tu_ws_at a] at hk
    cases hk
    exact ⟨k, a, rfl⟩
theorem tu_fv_i {ad : Nat → Nat} {row : Nat → Int} : ∀ {fs : List (Option Nat)} {k j : Nat}, fs[k]? = some none → (tu_fv ad row j fs)[k]? = some (.int (tu_J (row (j + k))))
  | [], k, j, h => by simp at h
  | none :: t, 0, j, _ => rfl
  | some a :: t, 0, j, h => by cases h
  | none :: t, k + 1, j, h => by
    have := tu_fv_i (ad := ad) (row := row) (fs := t) (k := k) (j := j + 1) h
    simpa [tu_fv, Nat.add_assoc, Nat.add_comm 1 k] using this
  | some a :: t, k + 1, j, h => by
    have := tu_fv_i (ad := ad) (row := row) (fs := t) (k := k) (j := j + 1) h
    simpa [tu_fv, Nat.add_assoc, Nat.add_comm 1 k] using this
theorem tu_fv_r {ad : Nat → Nat} {row : Nat → Int} {r : Nat} : ∀ {fs : List (Option Nat)} {k j : Nat}, fs[k]? = some (some r) → (tu_fv ad row j fs)[k]? = some (.ref (ad r))
  | [], k, j, h => by simp at h
  | none :: t, 0, j, h => by cases h
  | some a :: t, 0, j, h => by cases h; rfl
  | none :: t, k + 1, j, h => by
    have := tu_fv_r (ad := ad) (row := row) (r := r) (fs := t) (k := k) (j := j + 1) h
    simpa [tu_fv] using this
  | some a :: t, k + 1, j, h => by
    have := tu_fv_r (ad := ad) (row := row) (r := r) (fs := t) (k := k) (j := j + 1) h
    simpa [tu_fv] using this
theorem tu_fv_n {ad : Nat → Nat} {row row' : Nat → Int} : ∀ {fs : List (Option Nat)} {j : Nat}, (∀ k, j ≤ k → row' k = row k) → tu_fv ad row' j fs = tu_fv ad row j fs
  | [], j, h => rfl
  | none :: t, j, h => by
    have := tu_fv_n (ad := ad) (row := row) (row' := row') (fs := t) (j := j + 1) (fun k hk => h k (by omega))
    simp [tu_fv, this, h j (Nat.le_refl _)]
  | some a :: t, j, h => by
    have := tu_fv_n (ad := ad) (row := row) (row' := row') (fs := t) (j := j + 1) (fun k hk => h k (by omega))
    simp [tu_fv, this]
theorem tu_fv_s {ad : Nat → Nat} {row : Nat → Int} {x : Int} : ∀ {fs : List (Option Nat)} {k j : Nat}, fs[k]? = some none → (tu_fv ad row j fs).set k (.int (tu_J x)) = tu_fv ad (tu_u row (j + k) x) j fs
  | [], k, j, h => by simp at h
  | none :: t, 0, j, _ => by
    have := tu_fv_n (ad := ad) (row := row) (row' := tu_u row j x) (fs := t) (j := j + 1) (fun k hk => tu_u_n _ _ (by omega))
    simp [tu_fv, this, tu_u_s]
  | some a :: t, 0, j, h => by cases h
  | none :: t, k + 1, j, h => by
    have := tu_fv_s (ad := ad) (row := row) (x := x) (fs := t) (k := k) (j := j + 1) h
    rw [show j + 1 + k = j + (k + 1) by omega] at this
    simp [tu_fv, this, tu_u_n row (k := j + (k + 1)) (j := j) x (by omega)]
  | some a :: t, k + 1, j, h => by
    have := tu_fv_s (ad := ad) (row := row) (x := x) (fs := t) (k := k) (j := j + 1) h
    rw [show j + 1 + k = j + (k + 1) by omega] at this
    simp [tu_fv, this]
theorem tu_fv_l {ad : Nat → Nat} {row : Nat → Int} : ∀ {fs : List (Option Nat)} {j : Nat}, (tu_fv ad row j fs).length = fs.length
  | [], j => rfl
  | none :: t, j => by simp [tu_fv, tu_fv_l (fs := t)]
  | some a :: t, j => by simp [tu_fv, tu_fv_l (fs := t)]
theorem tu_ju (f : Nat → Int) (k : Nat) (x : Int) : upd (fun j => tu_J (f j)) k (tu_J x) = fun j => tu_J (tu_u f k x j) := by
  funext j
  by_cases h : j = k
  · subst h; simp [upd, tu_u_s]
  · simp [upd, h, tu_u_n]
/-! the two tables of set -/
def tu_f1 (j : Nat) : Int := match j with
  | 0 => 1
  | _ => 0
def tu_f2 (j : Nat) : Int := match j with
  | 0 => 8
  | 1 => 9
  | 2 => 9
  | _ => 20
def tu_st (ad : Nat → Nat) (U : State) (H : Heap) : Prop :=
  (va_Z RX3 "LEAST_VALUES" "[I" (.ref (ad 97)) (tu_A ad) U H ∧ va_T .int (ad 97) 4 (fun j => .int (tu_J (tu_f1 j))) (tu_A ad) U H) ∧
  (va_Z RX3 "GREATEST_VALUES" "[I" (.ref (ad 98)) (tu_A ad) U H ∧ va_T .int (ad 98) 4 (fun j => .int (tu_J (tu_f2 j))) (tu_A ad) U H)
theorem tu_st.moved {ad : Nat → Nat} {u U : State} {H : Heap} (hvm : u.vm.Alike U.vm) (h : tu_st ad u H) : tu_st ad U H :=
  ⟨⟨h.1.1.moved hvm, h.1.2.moved hvm⟩, ⟨h.2.1.moved hvm, h.2.2.moved hvm⟩⟩
theorem tu_st.kept {ad : Nat → Nat} {U : State} {H H1 : Heap} (h : tu_st ad U H) (hq : ∀ a : Nat, a < H.size → ¬ tu_A ad a → H1[a]? = H[a]?) : tu_st ad U H1 :=
  ⟨⟨h.1.1.kept hq, h.1.2.kept hq⟩, ⟨h.2.1.kept hq, h.2.2.kept hq⟩⟩
/-- what holds of a state between the calls -/
def tu_Wo (g : tu_G) (ad : Nat → Nat) (M : tu_M) (U : State) : Prop := va_P g.1 tu_cs (tu_ws g ad M) U.heap ∧ va_K g.1 tu_cs (tu_ty g) U ∧ tu_inj ad ∧ tu_st ad U U.heap
abbrev tu_T : Type := Program × Launch × Env × Room × State × MethodId × Array Value × List Frame × Method × Code × Nat × tu_G × (Nat → Nat) × Nat × Nat × (State → Prop)
/-- the machine, at a place of the code, comes to a state with the goal: for every heap that holds the memory M -/
def tu_W (T : tu_T) (pc : Nat) (lv : List (Nat × tu_v)) (st : List tu_v) (M : tu_M) : Prop := match T with
  | (p, l, e, R, s, m, args, below, meth, c, nL, g, ad, kc, ks, Q) => ∀ (H : Heap) (locs : List Loc) (ls : Array Slot), va_P g.1 tu_cs (tu_ws g ad M) H → va_S (tu_A ad) s.heap H locs → lv_has ls nL (lv.map fun q => (q.1, tu_vl ad q.2)) → W p l e R s m args below meth c H locs kc ks Q (F0 m pc ls (st.map (tu_vl ad)))
/-- what stays all through a method -/
def tu_X (T : tu_T) (cc : ByteArray) (own : String) (fr lo : Nat) : Prop := match T with
  | (p, _, _, R, s, m, args, _, _, c, nL, g, ad, kc, ks, _) => p.tables.exec = Jvm.exec ∧ c.code = cc ∧ c.maxLocals = nL ∧ s.vm.findClass own = some m.cls ∧ (∀ w ∈ tu_tb, w.before args s = true) ∧ va_K g.1 tu_cs (tu_ty g) s ∧ tu_inj ad ∧ tu_st ad s s.heap ∧ fr ≤ R.frames ∧ lo ≤ R.locals ∧ kc ≤ R.cells ∧ ks ≤ R.slots
end
section
section TU
variable {T : tu_T} {cc : ByteArray} {own : String} {fr lo : Nat} {lv : List (Nat × tu_v)} {st : List tu_v} {M : tu_M}
theorem tu_at {ad : Nat → Nat} {ls : Array Slot} {nL : Nat} {lv : List (Nat × tu_v)} (h : lv_has ls nL (lv.map fun q => (q.1, tu_vl ad q.2))) (k : Nat) {i : Nat} {v : tu_v} (hk : lv[k]? = some (i, v)) : ls[i]? = some (.val (tu_vl ad v)) :=
  lv_at h k (by rw [List.getElem?_map, hk]; rfl)
def tu_2 (v : tu_v) : Bool := match v with
  | .inr (.inr _) => true
  | _ => false
theorem tu_2c (ad : Nat → Nat) (v : tu_v) : ((tu_vl ad v).category == 2) = tu_2 v := by
  rcases v with z | i | u <;> rfl
def tu_pt (i : Nat) (v : tu_v) (lv : List (Nat × tu_v)) : List (Nat × tu_v) := (i, v) :: lv.filter (fun q => !(q.1 == i) && !(q.1 + 1 == i && tu_2 q.2))
def tu_pt2 (i : Nat) (v : tu_v) (lv : List (Nat × tu_v)) : List (Nat × tu_v) := (i, v) :: lv.filter (fun q => !(q.1 == i) && (!(q.1 == i + 1) && !(q.1 + 1 == i && tu_2 q.2)))
theorem tu_pt_e (ad : Nat → Nat) (i : Nat) (v : tu_v) (lv : List (Nat × tu_v)) : (i, tu_vl ad v) :: (lv.map fun q => (q.1, tu_vl ad q.2)).filter (fun q => !(q.1 == i) && !(q.1 + 1 == i && q.2.category == 2)) = (tu_pt i v lv).map fun q => (q.1, tu_vl ad q.2) := by
  simp only [tu_pt, List.map_cons, List.filter_map, Function.comp_def, tu_2c]
theorem tu_pt2_e (ad : Nat → Nat) (i : Nat) (v : tu_v) (lv : List (Nat × tu_v)) : (i, tu_vl ad v) :: (lv.map fun q => (q.1, tu_vl ad q.2)).filter (fun q => !(q.1 == i) && (!(q.1 == i + 1) && !(q.1 + 1 == i && q.2.category == 2))) = (tu_pt2 i v lv).map fun q => (q.1, tu_vl ad q.2) := by
  simp only [tu_pt2, List.map_cons, List.filter_map, Function.comp_def, tu_2c]
theorem tu_lit {z : Int} {v : Int32} (h : v = tu_J z) : Value.int v = .int (tu_J z) := by rw [h]

theorem tu_iconst (pc : Nat) (X : tu_X T cc own fr lo) {n : Int} (hd : decode cc pc = .ok (.iconst n, 1))
    (kk : tu_W T (pc + 1) lv (tu_i n :: st) M) : tu_W T pc lv st M := by
  obtain ⟨p, l, e, R, s, m, args, below, meth, c, nL, g, ad, kc, ks, Q⟩ := T
  obtain ⟨hx, hb, hml, hown, hts, hK, hI, hst, hfr, hlo, hkc, hks⟩ := X
  intro H locs ls hP hS hl
  exact lv_iconst hx hb hd rfl (kk H locs ls hP hS hl)

theorem tu_bipush (pc : Nat) (X : tu_X T cc own fr lo) {n : Int} (hd : decode cc pc = .ok (.bipush n, 2)) (hv : (Int8.ofInt n).toInt32 = tu_J n)
    (kk : tu_W T (pc + 2) lv (tu_i n :: st) M) : tu_W T pc lv st M := by
  obtain ⟨p, l, e, R, s, m, args, below, meth, c, nL, g, ad, kc, ks, Q⟩ := T
  obtain ⟨hx, hb, hml, hown, hts, hK, hI, hst, hfr, hlo, hkc, hks⟩ := X
  intro H locs ls hP hS hl
  exact lv_bipush hx hb hd hv (kk H locs ls hP hS hl)

theorem tu_sipush (pc : Nat) (X : tu_X T cc own fr lo) {n : Int} (hd : decode cc pc = .ok (.sipush n, 3)) (hv : (Int16.ofInt n).toInt32 = tu_J n)
    (kk : tu_W T (pc + 3) lv (tu_i n :: st) M) : tu_W T pc lv st M := by
  obtain ⟨p, l, e, R, s, m, args, below, meth, c, nL, g, ad, kc, ks, Q⟩ := T
  obtain ⟨hx, hb, hml, hown, hts, hK, hI, hst, hfr, hlo, hkc, hks⟩ := X
  intro H locs ls hP hS hl
  exact lv_sipush hx hb hd hv (kk H locs ls hP hS hl)

theorem tu_ldc (pc : Nat) (X : tu_X T cc own fr lo) {idx : Nat} {v : Int32} {n : Int} (hd : decode cc pc = .ok (.ldc idx, 2)) (hw : Cond.constant own idx v ∈ tu_tb) (hv : v = tu_J n)
    (kk : tu_W T (pc + 2) lv (tu_i n :: st) M) : tu_W T pc lv st M := by
  obtain ⟨p, l, e, R, s, m, args, below, meth, c, nL, g, ad, kc, ks, Q⟩ := T
  obtain ⟨hx, hb, hml, hown, hts, hK, hI, hst, hfr, hlo, hkc, hks⟩ := X
  intro H locs ls hP hS hl
  subst hv
  exact lv_ldc hx hb hown (hts _ hw) hd (kk H locs ls hP hS hl)

theorem tu_ldc2 (pc : Nat) (X : tu_X T cc own fr lo) {idx : Nat} {v : Int64} {n : Nat} (hd : decode cc pc = .ok (.ldc2_w idx, 3)) (hw : Cond.constantLong own idx v ∈ tu_tb) (hv : v = tu_K n)
    (kk : tu_W T (pc + 3) lv (tu_l n :: st) M) : tu_W T pc lv st M := by
  obtain ⟨p, l, e, R, s, m, args, below, meth, c, nL, g, ad, kc, ks, Q⟩ := T
  obtain ⟨hx, hb, hml, hown, hts, hK, hI, hst, hfr, hlo, hkc, hks⟩ := X
  intro H locs ls hP hS hl
  subst hv
  exact lv_ldc2 hx hb hown (hts _ hw) hd (kk H locs ls hP hS hl)

theorem tu_lconst (pc : Nat) (X : tu_X T cc own fr lo) {n : Fin 2} (hd : decode cc pc = .ok (.lconst n, 1))
    (kk : tu_W T (pc + 1) lv (tu_l n :: st) M) : tu_W T pc lv st M := by
  obtain ⟨p, l, e, R, s, m, args, below, meth, c, nL, g, ad, kc, ks, Q⟩ := T
  obtain ⟨hx, hb, hml, hown, hts, hK, hI, hst, hfr, hlo, hkc, hks⟩ := X
  intro H locs ls hP hS hl
  exact lv_lconst hx hb hd rfl (kk H locs ls hP hS hl)

theorem tu_iload_n (pc : Nat) (X : tu_X T cc own fr lo) {k : Fin 4} {x : Int} (q : Nat) (hd : decode cc pc = .ok (.iload_n k, 1)) (hl0 : lv[q]? = some ((k : Nat), tu_i x))
    (kk : tu_W T (pc + 1) lv (tu_i x :: st) M) : tu_W T pc lv st M := by
  obtain ⟨p, l, e, R, s, m, args, below, meth, c, nL, g, ad, kc, ks, Q⟩ := T
  obtain ⟨hx, hb, hml, hown, hts, hK, hI, hst, hfr, hlo, hkc, hks⟩ := X
  intro H locs ls hP hS hl
  exact lv_iload_n hx hb hd rfl (tu_at hl q hl0) (kk H locs ls hP hS hl)

theorem tu_iload (pc : Nat) (X : tu_X T cc own fr lo) {k : Nat} {x : Int} (q : Nat) (hd : decode cc pc = .ok (.iload k, 2)) (hl0 : lv[q]? = some (k, tu_i x))
    (kk : tu_W T (pc + 2) lv (tu_i x :: st) M) : tu_W T pc lv st M := by
  obtain ⟨p, l, e, R, s, m, args, below, meth, c, nL, g, ad, kc, ks, Q⟩ := T
  obtain ⟨hx, hb, hml, hown, hts, hK, hI, hst, hfr, hlo, hkc, hks⟩ := X
  intro H locs ls hP hS hl
  exact lv_iload hx hb hd (tu_at hl q hl0) (kk H locs ls hP hS hl)

theorem tu_istore_n (pc : Nat) (X : tu_X T cc own fr lo) {k : Fin 4} {x : Int} {lv' : List (Nat × tu_v)} (hd : decode cc pc = .ok (.istore_n k, 1)) (hn : (k : Nat)  < T.2.2.2.2.2.2.2.2.2.2.1) (hl0 : tu_pt (k : Nat) (tu_i x) lv = lv')
    (kk : tu_W T (pc + 1) lv' st M) : tu_W T pc lv (tu_i x :: st) M := by
  obtain ⟨p, l, e, R, s, m, args, below, meth, c, nL, g, ad, kc, ks, Q⟩ := T
  obtain ⟨hx, hb, hml, hown, hts, hK, hI, hst, hfr, hlo, hkc, hks⟩ := X
  intro H locs ls hP hS hl
  subst hl0
  exact lv_istore_n (lv' := (tu_pt (k : Nat) (tu_i x) lv).map fun q => (q.1, tu_vl ad q.2)) hx hb hd rfl hl hn (tu_pt_e ad _ (tu_i x) lv) (fun ls' hl' => kk H locs ls' hP hS hl')

theorem tu_istore (pc : Nat) (X : tu_X T cc own fr lo) {k : Nat} {x : Int} {lv' : List (Nat × tu_v)} (hd : decode cc pc = .ok (.istore k, 2)) (hn : k  < T.2.2.2.2.2.2.2.2.2.2.1) (hl0 : tu_pt k (tu_i x) lv = lv')
    (kk : tu_W T (pc + 2) lv' st M) : tu_W T pc lv (tu_i x :: st) M := by
  obtain ⟨p, l, e, R, s, m, args, below, meth, c, nL, g, ad, kc, ks, Q⟩ := T
  obtain ⟨hx, hb, hml, hown, hts, hK, hI, hst, hfr, hlo, hkc, hks⟩ := X
  intro H locs ls hP hS hl
  subst hl0
  exact lv_istore (lv' := (tu_pt k (tu_i x) lv).map fun q => (q.1, tu_vl ad q.2)) hx hb hd hl hn (tu_pt_e ad _ (tu_i x) lv) (fun ls' hl' => kk H locs ls' hP hS hl')

theorem tu_aload_n (pc : Nat) (X : tu_X T cc own fr lo) {k : Fin 4} {x : Nat} (q : Nat) (hd : decode cc pc = .ok (.aload_n k, 1)) (hl0 : lv[q]? = some ((k : Nat), tu_r x))
    (kk : tu_W T (pc + 1) lv (tu_r x :: st) M) : tu_W T pc lv st M := by
  obtain ⟨p, l, e, R, s, m, args, below, meth, c, nL, g, ad, kc, ks, Q⟩ := T
  obtain ⟨hx, hb, hml, hown, hts, hK, hI, hst, hfr, hlo, hkc, hks⟩ := X
  intro H locs ls hP hS hl
  exact lv_aload_n hx hb hd rfl (tu_at hl q hl0) (kk H locs ls hP hS hl)

theorem tu_aload (pc : Nat) (X : tu_X T cc own fr lo) {k : Nat} {x : Nat} (q : Nat) (hd : decode cc pc = .ok (.aload k, 2)) (hl0 : lv[q]? = some (k, tu_r x))
    (kk : tu_W T (pc + 2) lv (tu_r x :: st) M) : tu_W T pc lv st M := by
  obtain ⟨p, l, e, R, s, m, args, below, meth, c, nL, g, ad, kc, ks, Q⟩ := T
  obtain ⟨hx, hb, hml, hown, hts, hK, hI, hst, hfr, hlo, hkc, hks⟩ := X
  intro H locs ls hP hS hl
  exact lv_aload hx hb hd (tu_at hl q hl0) (kk H locs ls hP hS hl)

theorem tu_astore_n (pc : Nat) (X : tu_X T cc own fr lo) {k : Fin 4} {x : Nat} {lv' : List (Nat × tu_v)} (hd : decode cc pc = .ok (.astore_n k, 1)) (hn : (k : Nat)  < T.2.2.2.2.2.2.2.2.2.2.1) (hl0 : tu_pt (k : Nat) (tu_r x) lv = lv')
    (kk : tu_W T (pc + 1) lv' st M) : tu_W T pc lv (tu_r x :: st) M := by
  obtain ⟨p, l, e, R, s, m, args, below, meth, c, nL, g, ad, kc, ks, Q⟩ := T
  obtain ⟨hx, hb, hml, hown, hts, hK, hI, hst, hfr, hlo, hkc, hks⟩ := X
  intro H locs ls hP hS hl
  subst hl0
  exact lv_astore_n (lv' := (tu_pt (k : Nat) (tu_r x) lv).map fun q => (q.1, tu_vl ad q.2)) hx hb hd rfl hl hn (tu_pt_e ad _ (tu_r x) lv) (fun ls' hl' => kk H locs ls' hP hS hl')

theorem tu_lload_n (pc : Nat) (X : tu_X T cc own fr lo) {k : Fin 4} {x : Nat} (q : Nat) (hd : decode cc pc = .ok (.lload_n k, 1)) (hl0 : lv[q]? = some ((k : Nat), tu_l x))
    (kk : tu_W T (pc + 1) lv (tu_l x :: st) M) : tu_W T pc lv st M := by
  obtain ⟨p, l, e, R, s, m, args, below, meth, c, nL, g, ad, kc, ks, Q⟩ := T
  obtain ⟨hx, hb, hml, hown, hts, hK, hI, hst, hfr, hlo, hkc, hks⟩ := X
  intro H locs ls hP hS hl
  exact lv_lload_n hx hb hd rfl (tu_at hl q hl0) (kk H locs ls hP hS hl)

theorem tu_lload (pc : Nat) (X : tu_X T cc own fr lo) {k : Nat} {x : Nat} (q : Nat) (hd : decode cc pc = .ok (.lload k, 2)) (hl0 : lv[q]? = some (k, tu_l x))
    (kk : tu_W T (pc + 2) lv (tu_l x :: st) M) : tu_W T pc lv st M := by
  obtain ⟨p, l, e, R, s, m, args, below, meth, c, nL, g, ad, kc, ks, Q⟩ := T
  obtain ⟨hx, hb, hml, hown, hts, hK, hI, hst, hfr, hlo, hkc, hks⟩ := X
  intro H locs ls hP hS hl
  exact lv_lload hx hb hd (tu_at hl q hl0) (kk H locs ls hP hS hl)

theorem tu_lstore_n (pc : Nat) (X : tu_X T cc own fr lo) {k : Fin 4} {x : Nat} {lv' : List (Nat × tu_v)} (hd : decode cc pc = .ok (.lstore_n k, 1)) (hn : (k : Nat) + 1 < T.2.2.2.2.2.2.2.2.2.2.1) (hl0 : tu_pt2 (k : Nat) (tu_l x) lv = lv')
    (kk : tu_W T (pc + 1) lv' st M) : tu_W T pc lv (tu_l x :: st) M := by
  obtain ⟨p, l, e, R, s, m, args, below, meth, c, nL, g, ad, kc, ks, Q⟩ := T
  obtain ⟨hx, hb, hml, hown, hts, hK, hI, hst, hfr, hlo, hkc, hks⟩ := X
  intro H locs ls hP hS hl
  subst hl0
  exact lv_lstore_n (lv' := (tu_pt2 (k : Nat) (tu_l x) lv).map fun q => (q.1, tu_vl ad q.2)) hx hb hd rfl hl hn (tu_pt2_e ad _ (tu_l x) lv) (fun ls' hl' => kk H locs ls' hP hS hl')

theorem tu_lstore (pc : Nat) (X : tu_X T cc own fr lo) {k : Nat} {x : Nat} {lv' : List (Nat × tu_v)} (hd : decode cc pc = .ok (.lstore k, 2)) (hn : k + 1 < T.2.2.2.2.2.2.2.2.2.2.1) (hl0 : tu_pt2 k (tu_l x) lv = lv')
    (kk : tu_W T (pc + 2) lv' st M) : tu_W T pc lv (tu_l x :: st) M := by
  obtain ⟨p, l, e, R, s, m, args, below, meth, c, nL, g, ad, kc, ks, Q⟩ := T
  obtain ⟨hx, hb, hml, hown, hts, hK, hI, hst, hfr, hlo, hkc, hks⟩ := X
  intro H locs ls hP hS hl
  subst hl0
  exact lv_lstore (lv' := (tu_pt2 k (tu_l x) lv).map fun q => (q.1, tu_vl ad q.2)) hx hb hd hl hn (tu_pt2_e ad _ (tu_l x) lv) (fun ls' hl' => kk H locs ls' hP hS hl')

theorem tu_iinc (pc : Nat) (X : tu_X T cc own fr lo) {i : Nat} {n x : Int} {lv' : List (Nat × tu_v)} (q : Nat) (hd : decode cc pc = .ok (.iinc i n, 3)) (hk : lv[q]? = some (i, tu_i x)) (hn : i < T.2.2.2.2.2.2.2.2.2.2.1) (hl0 : tu_pt i (tu_i (x + n)) lv = lv')
    (kk : tu_W T (pc + 3) lv' st M) : tu_W T pc lv st M := by
  obtain ⟨p, l, e, R, s, m, args, below, meth, c, nL, g, ad, kc, ks, Q⟩ := T
  obtain ⟨hx, hb, hml, hown, hts, hK, hI, hst, hfr, hlo, hkc, hks⟩ := X
  intro H locs ls hP hS hl
  subst hl0
  exact lv_iinc (v := tu_J (x + n)) (lv' := (tu_pt i (tu_i (x + n)) lv).map fun q => (q.1, tu_vl ad q.2)) hx hb hd hl (k := q) (x := tu_J x) (by rw [List.getElem?_map, hk]; rfl) (tu_J_add x n).symm hn (tu_pt_e ad _ (tu_i (x + n)) lv) (fun ls' hl' => kk H locs ls' hP hS hl')

theorem tu_iadd (pc : Nat) (X : tu_X T cc own fr lo) {a b : Int} (hd : decode cc pc = .ok (.iadd, 1))
    (kk : tu_W T (pc + 1) lv (tu_i (a + b) :: st) M) : tu_W T pc lv (tu_i b :: tu_i a :: st) M := by
  obtain ⟨p, l, e, R, s, m, args, below, meth, c, nL, g, ad, kc, ks, Q⟩ := T
  obtain ⟨hx, hb, hml, hown, hts, hK, hI, hst, hfr, hlo, hkc, hks⟩ := X
  intro H locs ls hP hS hl
  have h := kk H locs ls hP hS hl
  rw [show (tu_i (a + b) :: st).map (tu_vl ad) = .int (tu_J a + tu_J b) :: st.map (tu_vl ad) from by rw [← tu_J_add]; rfl] at h
  exact lv_iadd hx hb hd h

theorem tu_isub (pc : Nat) (X : tu_X T cc own fr lo) {a b : Int} (hd : decode cc pc = .ok (.isub, 1))
    (kk : tu_W T (pc + 1) lv (tu_i (a - b) :: st) M) : tu_W T pc lv (tu_i b :: tu_i a :: st) M := by
  obtain ⟨p, l, e, R, s, m, args, below, meth, c, nL, g, ad, kc, ks, Q⟩ := T
  obtain ⟨hx, hb, hml, hown, hts, hK, hI, hst, hfr, hlo, hkc, hks⟩ := X
  intro H locs ls hP hS hl
  have h := kk H locs ls hP hS hl
  rw [show (tu_i (a - b) :: st).map (tu_vl ad) = .int (tu_J a - tu_J b) :: st.map (tu_vl ad) from by rw [← tu_J_sub]; rfl] at h
  exact lv_isub hx hb hd h

theorem tu_imul (pc : Nat) (X : tu_X T cc own fr lo) {a b : Int} (hd : decode cc pc = .ok (.imul, 1))
    (kk : tu_W T (pc + 1) lv (tu_i (a * b) :: st) M) : tu_W T pc lv (tu_i b :: tu_i a :: st) M := by
  obtain ⟨p, l, e, R, s, m, args, below, meth, c, nL, g, ad, kc, ks, Q⟩ := T
  obtain ⟨hx, hb, hml, hown, hts, hK, hI, hst, hfr, hlo, hkc, hks⟩ := X
  intro H locs ls hP hS hl
  have h := kk H locs ls hP hS hl
  rw [show (tu_i (a * b) :: st).map (tu_vl ad) = .int (tu_J a * tu_J b) :: st.map (tu_vl ad) from by rw [← tu_J_mul]; rfl] at h
  exact lv_imul hx hb hd h

theorem tu_raw {ad : Nat → Nat} {x : Int32} {st : List tu_v} : (tu_i x.toInt :: st).map (tu_vl ad) = .int x :: st.map (tu_vl ad) := by
  show Value.int (tu_J x.toInt) :: _ = _
  rw [tu_J_t]
def tu_and (a b : Int) : Int := (tu_J a &&& tu_J b).toInt
def tu_or (a b : Int) : Int := (tu_J a ||| tu_J b).toInt
def tu_xor (a b : Int) : Int := (tu_J a ^^^ tu_J b).toInt
def tu_shl (a b : Int) : Int := (tu_J a <<< (tu_J b &&& 31)).toInt
def tu_shr (a b : Int) : Int := (tu_J a >>> (tu_J b &&& 31)).toInt
def tu_rem (a b : Int) : Int := (tu_J a - tu_J a / tu_J b * tu_J b).toInt

theorem tu_iand (pc : Nat) (X : tu_X T cc own fr lo) {a b : Int} (hd : decode cc pc = .ok (.iand, 1))
    (kk : tu_W T (pc + 1) lv (tu_i (tu_and a b) :: st) M) : tu_W T pc lv (tu_i b :: tu_i a :: st) M := by
  obtain ⟨p, l, e, R, s, m, args, below, meth, c, nL, g, ad, kc, ks, Q⟩ := T
  obtain ⟨hx, hb, hml, hown, hts, hK, hI, hst, hfr, hlo, hkc, hks⟩ := X
  intro H locs ls hP hS hl
  have h := kk H locs ls hP hS hl
  rw [show (tu_i (tu_and a b) :: st).map (tu_vl ad) = _ from tu_raw] at h
  exact lv_iand hx hb hd h

theorem tu_ior (pc : Nat) (X : tu_X T cc own fr lo) {a b : Int} (hd : decode cc pc = .ok (.ior, 1))
    (kk : tu_W T (pc + 1) lv (tu_i (tu_or a b) :: st) M) : tu_W T pc lv (tu_i b :: tu_i a :: st) M := by
  obtain ⟨p, l, e, R, s, m, args, below, meth, c, nL, g, ad, kc, ks, Q⟩ := T
  obtain ⟨hx, hb, hml, hown, hts, hK, hI, hst, hfr, hlo, hkc, hks⟩ := X
  intro H locs ls hP hS hl
  have h := kk H locs ls hP hS hl
  rw [show (tu_i (tu_or a b) :: st).map (tu_vl ad) = _ from tu_raw] at h
  exact lv_ior hx hb hd h

theorem tu_ixor (pc : Nat) (X : tu_X T cc own fr lo) {a b : Int} (hd : decode cc pc = .ok (.ixor, 1))
    (kk : tu_W T (pc + 1) lv (tu_i (tu_xor a b) :: st) M) : tu_W T pc lv (tu_i b :: tu_i a :: st) M := by
  obtain ⟨p, l, e, R, s, m, args, below, meth, c, nL, g, ad, kc, ks, Q⟩ := T
  obtain ⟨hx, hb, hml, hown, hts, hK, hI, hst, hfr, hlo, hkc, hks⟩ := X
  intro H locs ls hP hS hl
  have h := kk H locs ls hP hS hl
  rw [show (tu_i (tu_xor a b) :: st).map (tu_vl ad) = _ from tu_raw] at h
  exact lv_ixor hx hb hd h

theorem tu_ishl (pc : Nat) (X : tu_X T cc own fr lo) {a b : Int} (hd : decode cc pc = .ok (.ishl, 1))
    (kk : tu_W T (pc + 1) lv (tu_i (tu_shl a b) :: st) M) : tu_W T pc lv (tu_i b :: tu_i a :: st) M := by
  obtain ⟨p, l, e, R, s, m, args, below, meth, c, nL, g, ad, kc, ks, Q⟩ := T
  obtain ⟨hx, hb, hml, hown, hts, hK, hI, hst, hfr, hlo, hkc, hks⟩ := X
  intro H locs ls hP hS hl
  have h := kk H locs ls hP hS hl
  rw [show (tu_i (tu_shl a b) :: st).map (tu_vl ad) = _ from tu_raw] at h
  exact lv_ishl hx hb hd h

theorem tu_ishr (pc : Nat) (X : tu_X T cc own fr lo) {a b : Int} (hd : decode cc pc = .ok (.ishr, 1))
    (kk : tu_W T (pc + 1) lv (tu_i (tu_shr a b) :: st) M) : tu_W T pc lv (tu_i b :: tu_i a :: st) M := by
  obtain ⟨p, l, e, R, s, m, args, below, meth, c, nL, g, ad, kc, ks, Q⟩ := T
  obtain ⟨hx, hb, hml, hown, hts, hK, hI, hst, hfr, hlo, hkc, hks⟩ := X
  intro H locs ls hP hS hl
  have h := kk H locs ls hP hS hl
  rw [show (tu_i (tu_shr a b) :: st).map (tu_vl ad) = _ from tu_raw] at h
  exact lv_ishr hx hb hd h

theorem tu_irem (pc : Nat) (X : tu_X T cc own fr lo) {a b : Int} (hd : decode cc pc = .ok (.irem, 1)) (hr : tu_rg b) (h0 : b ≠ 0)
    (kk : tu_W T (pc + 1) lv (tu_i (tu_rem a b) :: st) M) : tu_W T pc lv (tu_i b :: tu_i a :: st) M := by
  obtain ⟨p, l, e, R, s, m, args, below, meth, c, nL, g, ad, kc, ks, Q⟩ := T
  obtain ⟨hx, hb, hml, hown, hts, hK, hI, hst, hfr, hlo, hkc, hks⟩ := X
  intro H locs ls hP hS hl
  have h := kk H locs ls hP hS hl
  rw [show (tu_i (tu_rem a b) :: st).map (tu_vl ad) = _ from tu_raw] at h
  exact lv_irem hx hb hd (fun z => h0 ((tu_J_eq hr (show tu_rg 0 from ⟨by decide, by decide⟩)).mp (z.trans (by decide)))) h

theorem tu_icmp_eq (pc : Nat) (X : tu_X T cc own fr lo) {a b : Int} {off : Int} (tgt : Nat) (hd : decode cc pc = .ok (.if_icmp .eq off, 3)) (ht : (pc : Int) + off = (tgt : Int)) (ha : tu_rg a) (hb2 : tu_rg b)
    (kt : a = b → tu_W T tgt lv st M)
    (kk : a ≠ b → tu_W T (pc + 3) lv st M) : tu_W T pc lv (tu_i b :: tu_i a :: st) M := by
  obtain ⟨p, l, e, R, s, m, args, below, meth, c, nL, g, ad, kc, ks, Q⟩ := T
  obtain ⟨hx, hb, hml, hown, hts, hK, hI, hst, hfr, hlo, hkc, hks⟩ := X
  intro H locs ls hP hS hl
  exact lv_icmp_eq (tgt := tgt) hx hb hd ht (fun hc => kt (by (first | exact (tu_J_eq ha hb2).mp hc | exact fun z => hc ((tu_J_eq ha hb2).mpr z) | exact Int.not_lt.mp (fun z => hc ((tu_J_eq ha hb2).mpr z)) | exact Int.not_le.mp (fun z => hc ((tu_J_eq ha hb2).mpr z)) | exact Decidable.byContradiction fun z => hc (fun y => z ((tu_J_eq ha hb2).mp y)) | (have hq := mt (tu_J_eq ha hb2).mpr hc; omega) | (have hq := fun y => hc ((tu_J_eq ha hb2).mp y); omega) | (rw [(tu_J_eq ha hb2)] at hc; omega))) H locs ls hP hS hl) (fun hc => kk (by (first | exact (tu_J_eq ha hb2).mp hc | exact fun z => hc ((tu_J_eq ha hb2).mpr z) | exact Int.not_lt.mp (fun z => hc ((tu_J_eq ha hb2).mpr z)) | exact Int.not_le.mp (fun z => hc ((tu_J_eq ha hb2).mpr z)) | exact Decidable.byContradiction fun z => hc (fun y => z ((tu_J_eq ha hb2).mp y)) | (have hq := mt (tu_J_eq ha hb2).mpr hc; omega) | (have hq := fun y => hc ((tu_J_eq ha hb2).mp y); omega) | (rw [(tu_J_eq ha hb2)] at hc; omega))) H locs ls hP hS hl)

theorem tu_if_eq (pc : Nat) (X : tu_X T cc own fr lo) {a : Int} {off : Int} (tgt : Nat) (hd : decode cc pc = .ok (.ifCond .eq off, 3)) (ht : (pc : Int) + off = (tgt : Int)) (ha : tu_rg a) 
    (kt : a = 0 → tu_W T tgt lv st M)
    (kk : a ≠ 0 → tu_W T (pc + 3) lv st M) : tu_W T pc lv (tu_i a :: st) M := by
  obtain ⟨p, l, e, R, s, m, args, below, meth, c, nL, g, ad, kc, ks, Q⟩ := T
  obtain ⟨hx, hb, hml, hown, hts, hK, hI, hst, hfr, hlo, hkc, hks⟩ := X
  intro H locs ls hP hS hl
  exact lv_if_eq (tgt := tgt) hx hb hd ht (fun hc => kt (by (rw [show (0 : Int32) = tu_J 0 from by decide] at hc; first | exact (tu_J_eq ha (show tu_rg 0 from ⟨by decide, by decide⟩)).mp hc | exact fun z => hc ((tu_J_eq ha (show tu_rg 0 from ⟨by decide, by decide⟩)).mpr z) | exact Int.not_lt.mp (fun z => hc ((tu_J_eq ha (show tu_rg 0 from ⟨by decide, by decide⟩)).mpr z)) | exact Int.not_le.mp (fun z => hc ((tu_J_eq ha (show tu_rg 0 from ⟨by decide, by decide⟩)).mpr z)) | exact Decidable.byContradiction fun z => hc (fun y => z ((tu_J_eq ha (show tu_rg 0 from ⟨by decide, by decide⟩)).mp y)) | (have hq := mt (tu_J_eq ha (show tu_rg 0 from ⟨by decide, by decide⟩)).mpr hc; omega) | (have hq := fun y => hc ((tu_J_eq ha (show tu_rg 0 from ⟨by decide, by decide⟩)).mp y); omega) | (rw [(tu_J_eq ha (show tu_rg 0 from ⟨by decide, by decide⟩))] at hc; omega))) H locs ls hP hS hl) (fun hc => kk (by (rw [show (0 : Int32) = tu_J 0 from by decide] at hc; first | exact (tu_J_eq ha (show tu_rg 0 from ⟨by decide, by decide⟩)).mp hc | exact fun z => hc ((tu_J_eq ha (show tu_rg 0 from ⟨by decide, by decide⟩)).mpr z) | exact Int.not_lt.mp (fun z => hc ((tu_J_eq ha (show tu_rg 0 from ⟨by decide, by decide⟩)).mpr z)) | exact Int.not_le.mp (fun z => hc ((tu_J_eq ha (show tu_rg 0 from ⟨by decide, by decide⟩)).mpr z)) | exact Decidable.byContradiction fun z => hc (fun y => z ((tu_J_eq ha (show tu_rg 0 from ⟨by decide, by decide⟩)).mp y)) | (have hq := mt (tu_J_eq ha (show tu_rg 0 from ⟨by decide, by decide⟩)).mpr hc; omega) | (have hq := fun y => hc ((tu_J_eq ha (show tu_rg 0 from ⟨by decide, by decide⟩)).mp y); omega) | (rw [(tu_J_eq ha (show tu_rg 0 from ⟨by decide, by decide⟩))] at hc; omega))) H locs ls hP hS hl)

theorem tu_icmp_ne (pc : Nat) (X : tu_X T cc own fr lo) {a b : Int} {off : Int} (tgt : Nat) (hd : decode cc pc = .ok (.if_icmp .ne off, 3)) (ht : (pc : Int) + off = (tgt : Int)) (ha : tu_rg a) (hb2 : tu_rg b)
    (kt : a ≠ b → tu_W T tgt lv st M)
    (kk : a = b → tu_W T (pc + 3) lv st M) : tu_W T pc lv (tu_i b :: tu_i a :: st) M := by
  obtain ⟨p, l, e, R, s, m, args, below, meth, c, nL, g, ad, kc, ks, Q⟩ := T
  obtain ⟨hx, hb, hml, hown, hts, hK, hI, hst, hfr, hlo, hkc, hks⟩ := X
  intro H locs ls hP hS hl
  exact lv_icmp_ne (tgt := tgt) hx hb hd ht (fun hc => kt (by (first | exact (tu_J_eq ha hb2).mp hc | exact fun z => hc ((tu_J_eq ha hb2).mpr z) | exact Int.not_lt.mp (fun z => hc ((tu_J_eq ha hb2).mpr z)) | exact Int.not_le.mp (fun z => hc ((tu_J_eq ha hb2).mpr z)) | exact Decidable.byContradiction fun z => hc (fun y => z ((tu_J_eq ha hb2).mp y)) | (have hq := mt (tu_J_eq ha hb2).mpr hc; omega) | (have hq := fun y => hc ((tu_J_eq ha hb2).mp y); omega) | (rw [(tu_J_eq ha hb2)] at hc; omega))) H locs ls hP hS hl) (fun hc => kk (by (first | exact (tu_J_eq ha hb2).mp hc | exact fun z => hc ((tu_J_eq ha hb2).mpr z) | exact Int.not_lt.mp (fun z => hc ((tu_J_eq ha hb2).mpr z)) | exact Int.not_le.mp (fun z => hc ((tu_J_eq ha hb2).mpr z)) | exact Decidable.byContradiction fun z => hc (fun y => z ((tu_J_eq ha hb2).mp y)) | (have hq := mt (tu_J_eq ha hb2).mpr hc; omega) | (have hq := fun y => hc ((tu_J_eq ha hb2).mp y); omega) | (rw [(tu_J_eq ha hb2)] at hc; omega))) H locs ls hP hS hl)

theorem tu_if_ne (pc : Nat) (X : tu_X T cc own fr lo) {a : Int} {off : Int} (tgt : Nat) (hd : decode cc pc = .ok (.ifCond .ne off, 3)) (ht : (pc : Int) + off = (tgt : Int)) (ha : tu_rg a) 
    (kt : a ≠ 0 → tu_W T tgt lv st M)
    (kk : a = 0 → tu_W T (pc + 3) lv st M) : tu_W T pc lv (tu_i a :: st) M := by
  obtain ⟨p, l, e, R, s, m, args, below, meth, c, nL, g, ad, kc, ks, Q⟩ := T
  obtain ⟨hx, hb, hml, hown, hts, hK, hI, hst, hfr, hlo, hkc, hks⟩ := X
  intro H locs ls hP hS hl
  exact lv_if_ne (tgt := tgt) hx hb hd ht (fun hc => kt (by (rw [show (0 : Int32) = tu_J 0 from by decide] at hc; first | exact (tu_J_eq ha (show tu_rg 0 from ⟨by decide, by decide⟩)).mp hc | exact fun z => hc ((tu_J_eq ha (show tu_rg 0 from ⟨by decide, by decide⟩)).mpr z) | exact Int.not_lt.mp (fun z => hc ((tu_J_eq ha (show tu_rg 0 from ⟨by decide, by decide⟩)).mpr z)) | exact Int.not_le.mp (fun z => hc ((tu_J_eq ha (show tu_rg 0 from ⟨by decide, by decide⟩)).mpr z)) | exact Decidable.byContradiction fun z => hc (fun y => z ((tu_J_eq ha (show tu_rg 0 from ⟨by decide, by decide⟩)).mp y)) | (have hq := mt (tu_J_eq ha (show tu_rg 0 from ⟨by decide, by decide⟩)).mpr hc; omega) | (have hq := fun y => hc ((tu_J_eq ha (show tu_rg 0 from ⟨by decide, by decide⟩)).mp y); omega) | (rw [(tu_J_eq ha (show tu_rg 0 from ⟨by decide, by decide⟩))] at hc; omega))) H locs ls hP hS hl) (fun hc => kk (by (rw [show (0 : Int32) = tu_J 0 from by decide] at hc; first | exact (tu_J_eq ha (show tu_rg 0 from ⟨by decide, by decide⟩)).mp hc | exact fun z => hc ((tu_J_eq ha (show tu_rg 0 from ⟨by decide, by decide⟩)).mpr z) | exact Int.not_lt.mp (fun z => hc ((tu_J_eq ha (show tu_rg 0 from ⟨by decide, by decide⟩)).mpr z)) | exact Int.not_le.mp (fun z => hc ((tu_J_eq ha (show tu_rg 0 from ⟨by decide, by decide⟩)).mpr z)) | exact Decidable.byContradiction fun z => hc (fun y => z ((tu_J_eq ha (show tu_rg 0 from ⟨by decide, by decide⟩)).mp y)) | (have hq := mt (tu_J_eq ha (show tu_rg 0 from ⟨by decide, by decide⟩)).mpr hc; omega) | (have hq := fun y => hc ((tu_J_eq ha (show tu_rg 0 from ⟨by decide, by decide⟩)).mp y); omega) | (rw [(tu_J_eq ha (show tu_rg 0 from ⟨by decide, by decide⟩))] at hc; omega))) H locs ls hP hS hl)

theorem tu_icmp_lt (pc : Nat) (X : tu_X T cc own fr lo) {a b : Int} {off : Int} (tgt : Nat) (hd : decode cc pc = .ok (.if_icmp .lt off, 3)) (ht : (pc : Int) + off = (tgt : Int)) (ha : tu_rg a) (hb2 : tu_rg b)
    (kt : a < b → tu_W T tgt lv st M)
    (kk : b ≤ a → tu_W T (pc + 3) lv st M) : tu_W T pc lv (tu_i b :: tu_i a :: st) M := by
  obtain ⟨p, l, e, R, s, m, args, below, meth, c, nL, g, ad, kc, ks, Q⟩ := T
  obtain ⟨hx, hb, hml, hown, hts, hK, hI, hst, hfr, hlo, hkc, hks⟩ := X
  intro H locs ls hP hS hl
  exact lv_icmp_lt (tgt := tgt) hx hb hd ht (fun hc => kt (by (first | exact (tu_J_lt ha hb2).mp hc | exact fun z => hc ((tu_J_lt ha hb2).mpr z) | exact Int.not_lt.mp (fun z => hc ((tu_J_lt ha hb2).mpr z)) | exact Int.not_le.mp (fun z => hc ((tu_J_lt ha hb2).mpr z)) | exact Decidable.byContradiction fun z => hc (fun y => z ((tu_J_lt ha hb2).mp y)) | (have hq := mt (tu_J_lt ha hb2).mpr hc; omega) | (have hq := fun y => hc ((tu_J_lt ha hb2).mp y); omega) | (rw [(tu_J_lt ha hb2)] at hc; omega))) H locs ls hP hS hl) (fun hc => kk (by (first | exact (tu_J_lt ha hb2).mp hc | exact fun z => hc ((tu_J_lt ha hb2).mpr z) | exact Int.not_lt.mp (fun z => hc ((tu_J_lt ha hb2).mpr z)) | exact Int.not_le.mp (fun z => hc ((tu_J_lt ha hb2).mpr z)) | exact Decidable.byContradiction fun z => hc (fun y => z ((tu_J_lt ha hb2).mp y)) | (have hq := mt (tu_J_lt ha hb2).mpr hc; omega) | (have hq := fun y => hc ((tu_J_lt ha hb2).mp y); omega) | (rw [(tu_J_lt ha hb2)] at hc; omega))) H locs ls hP hS hl)

theorem tu_if_lt (pc : Nat) (X : tu_X T cc own fr lo) {a : Int} {off : Int} (tgt : Nat) (hd : decode cc pc = .ok (.ifCond .lt off, 3)) (ht : (pc : Int) + off = (tgt : Int)) (ha : tu_rg a) 
    (kt : a < 0 → tu_W T tgt lv st M)
    (kk : 0 ≤ a → tu_W T (pc + 3) lv st M) : tu_W T pc lv (tu_i a :: st) M := by
  obtain ⟨p, l, e, R, s, m, args, below, meth, c, nL, g, ad, kc, ks, Q⟩ := T
  obtain ⟨hx, hb, hml, hown, hts, hK, hI, hst, hfr, hlo, hkc, hks⟩ := X
  intro H locs ls hP hS hl
  exact lv_if_lt (tgt := tgt) hx hb hd ht (fun hc => kt (by (rw [show (0 : Int32) = tu_J 0 from by decide] at hc; first | exact (tu_J_lt ha (show tu_rg 0 from ⟨by decide, by decide⟩)).mp hc | exact fun z => hc ((tu_J_lt ha (show tu_rg 0 from ⟨by decide, by decide⟩)).mpr z) | exact Int.not_lt.mp (fun z => hc ((tu_J_lt ha (show tu_rg 0 from ⟨by decide, by decide⟩)).mpr z)) | exact Int.not_le.mp (fun z => hc ((tu_J_lt ha (show tu_rg 0 from ⟨by decide, by decide⟩)).mpr z)) | exact Decidable.byContradiction fun z => hc (fun y => z ((tu_J_lt ha (show tu_rg 0 from ⟨by decide, by decide⟩)).mp y)) | (have hq := mt (tu_J_lt ha (show tu_rg 0 from ⟨by decide, by decide⟩)).mpr hc; omega) | (have hq := fun y => hc ((tu_J_lt ha (show tu_rg 0 from ⟨by decide, by decide⟩)).mp y); omega) | (rw [(tu_J_lt ha (show tu_rg 0 from ⟨by decide, by decide⟩))] at hc; omega))) H locs ls hP hS hl) (fun hc => kk (by (rw [show (0 : Int32) = tu_J 0 from by decide] at hc; first | exact (tu_J_lt ha (show tu_rg 0 from ⟨by decide, by decide⟩)).mp hc | exact fun z => hc ((tu_J_lt ha (show tu_rg 0 from ⟨by decide, by decide⟩)).mpr z) | exact Int.not_lt.mp (fun z => hc ((tu_J_lt ha (show tu_rg 0 from ⟨by decide, by decide⟩)).mpr z)) | exact Int.not_le.mp (fun z => hc ((tu_J_lt ha (show tu_rg 0 from ⟨by decide, by decide⟩)).mpr z)) | exact Decidable.byContradiction fun z => hc (fun y => z ((tu_J_lt ha (show tu_rg 0 from ⟨by decide, by decide⟩)).mp y)) | (have hq := mt (tu_J_lt ha (show tu_rg 0 from ⟨by decide, by decide⟩)).mpr hc; omega) | (have hq := fun y => hc ((tu_J_lt ha (show tu_rg 0 from ⟨by decide, by decide⟩)).mp y); omega) | (rw [(tu_J_lt ha (show tu_rg 0 from ⟨by decide, by decide⟩))] at hc; omega))) H locs ls hP hS hl)

theorem tu_icmp_ge (pc : Nat) (X : tu_X T cc own fr lo) {a b : Int} {off : Int} (tgt : Nat) (hd : decode cc pc = .ok (.if_icmp .ge off, 3)) (ht : (pc : Int) + off = (tgt : Int)) (ha : tu_rg a) (hb2 : tu_rg b)
    (kt : b ≤ a → tu_W T tgt lv st M)
    (kk : a < b → tu_W T (pc + 3) lv st M) : tu_W T pc lv (tu_i b :: tu_i a :: st) M := by
  obtain ⟨p, l, e, R, s, m, args, below, meth, c, nL, g, ad, kc, ks, Q⟩ := T
  obtain ⟨hx, hb, hml, hown, hts, hK, hI, hst, hfr, hlo, hkc, hks⟩ := X
  intro H locs ls hP hS hl
  exact lv_icmp_ge (tgt := tgt) hx hb hd ht (fun hc => kt (by (first | exact (tu_J_le hb2 ha).mp hc | exact fun z => hc ((tu_J_le hb2 ha).mpr z) | exact Int.not_lt.mp (fun z => hc ((tu_J_le hb2 ha).mpr z)) | exact Int.not_le.mp (fun z => hc ((tu_J_le hb2 ha).mpr z)) | exact Decidable.byContradiction fun z => hc (fun y => z ((tu_J_le hb2 ha).mp y)) | (have hq := mt (tu_J_le hb2 ha).mpr hc; omega) | (have hq := fun y => hc ((tu_J_le hb2 ha).mp y); omega) | (rw [(tu_J_le hb2 ha)] at hc; omega))) H locs ls hP hS hl) (fun hc => kk (by (first | exact (tu_J_le hb2 ha).mp hc | exact fun z => hc ((tu_J_le hb2 ha).mpr z) | exact Int.not_lt.mp (fun z => hc ((tu_J_le hb2 ha).mpr z)) | exact Int.not_le.mp (fun z => hc ((tu_J_le hb2 ha).mpr z)) | exact Decidable.byContradiction fun z => hc (fun y => z ((tu_J_le hb2 ha).mp y)) | (have hq := mt (tu_J_le hb2 ha).mpr hc; omega) | (have hq := fun y => hc ((tu_J_le hb2 ha).mp y); omega) | (rw [(tu_J_le hb2 ha)] at hc; omega))) H locs ls hP hS hl)

theorem tu_if_ge (pc : Nat) (X : tu_X T cc own fr lo) {a : Int} {off : Int} (tgt : Nat) (hd : decode cc pc = .ok (.ifCond .ge off, 3)) (ht : (pc : Int) + off = (tgt : Int)) (ha : tu_rg a) 
    (kt : 0 ≤ a → tu_W T tgt lv st M)
    (kk : a < 0 → tu_W T (pc + 3) lv st M) : tu_W T pc lv (tu_i a :: st) M := by
  obtain ⟨p, l, e, R, s, m, args, below, meth, c, nL, g, ad, kc, ks, Q⟩ := T
  obtain ⟨hx, hb, hml, hown, hts, hK, hI, hst, hfr, hlo, hkc, hks⟩ := X
  intro H locs ls hP hS hl
  exact lv_if_ge (tgt := tgt) hx hb hd ht (fun hc => kt (by (rw [show (0 : Int32) = tu_J 0 from by decide] at hc; first | exact (tu_J_le (show tu_rg 0 from ⟨by decide, by decide⟩) ha).mp hc | exact fun z => hc ((tu_J_le (show tu_rg 0 from ⟨by decide, by decide⟩) ha).mpr z) | exact Int.not_lt.mp (fun z => hc ((tu_J_le (show tu_rg 0 from ⟨by decide, by decide⟩) ha).mpr z)) | exact Int.not_le.mp (fun z => hc ((tu_J_le (show tu_rg 0 from ⟨by decide, by decide⟩) ha).mpr z)) | exact Decidable.byContradiction fun z => hc (fun y => z ((tu_J_le (show tu_rg 0 from ⟨by decide, by decide⟩) ha).mp y)) | (have hq := mt (tu_J_le (show tu_rg 0 from ⟨by decide, by decide⟩) ha).mpr hc; omega) | (have hq := fun y => hc ((tu_J_le (show tu_rg 0 from ⟨by decide, by decide⟩) ha).mp y); omega) | (rw [(tu_J_le (show tu_rg 0 from ⟨by decide, by decide⟩) ha)] at hc; omega))) H locs ls hP hS hl) (fun hc => kk (by (rw [show (0 : Int32) = tu_J 0 from by decide] at hc; first | exact (tu_J_le (show tu_rg 0 from ⟨by decide, by decide⟩) ha).mp hc | exact fun z => hc ((tu_J_le (show tu_rg 0 from ⟨by decide, by decide⟩) ha).mpr z) | exact Int.not_lt.mp (fun z => hc ((tu_J_le (show tu_rg 0 from ⟨by decide, by decide⟩) ha).mpr z)) | exact Int.not_le.mp (fun z => hc ((tu_J_le (show tu_rg 0 from ⟨by decide, by decide⟩) ha).mpr z)) | exact Decidable.byContradiction fun z => hc (fun y => z ((tu_J_le (show tu_rg 0 from ⟨by decide, by decide⟩) ha).mp y)) | (have hq := mt (tu_J_le (show tu_rg 0 from ⟨by decide, by decide⟩) ha).mpr hc; omega) | (have hq := fun y => hc ((tu_J_le (show tu_rg 0 from ⟨by decide, by decide⟩) ha).mp y); omega) | (rw [(tu_J_le (show tu_rg 0 from ⟨by decide, by decide⟩) ha)] at hc; omega))) H locs ls hP hS hl)

theorem tu_icmp_gt (pc : Nat) (X : tu_X T cc own fr lo) {a b : Int} {off : Int} (tgt : Nat) (hd : decode cc pc = .ok (.if_icmp .gt off, 3)) (ht : (pc : Int) + off = (tgt : Int)) (ha : tu_rg a) (hb2 : tu_rg b)
    (kt : b < a → tu_W T tgt lv st M)
    (kk : a ≤ b → tu_W T (pc + 3) lv st M) : tu_W T pc lv (tu_i b :: tu_i a :: st) M := by
  obtain ⟨p, l, e, R, s, m, args, below, meth, c, nL, g, ad, kc, ks, Q⟩ := T
  obtain ⟨hx, hb, hml, hown, hts, hK, hI, hst, hfr, hlo, hkc, hks⟩ := X
  intro H locs ls hP hS hl
  exact lv_icmp_gt (tgt := tgt) hx hb hd ht (fun hc => kt (by (first | exact (tu_J_lt hb2 ha).mp hc | exact fun z => hc ((tu_J_lt hb2 ha).mpr z) | exact Int.not_lt.mp (fun z => hc ((tu_J_lt hb2 ha).mpr z)) | exact Int.not_le.mp (fun z => hc ((tu_J_lt hb2 ha).mpr z)) | exact Decidable.byContradiction fun z => hc (fun y => z ((tu_J_lt hb2 ha).mp y)) | (have hq := mt (tu_J_lt hb2 ha).mpr hc; omega) | (have hq := fun y => hc ((tu_J_lt hb2 ha).mp y); omega) | (rw [(tu_J_lt hb2 ha)] at hc; omega))) H locs ls hP hS hl) (fun hc => kk (by (first | exact (tu_J_lt hb2 ha).mp hc | exact fun z => hc ((tu_J_lt hb2 ha).mpr z) | exact Int.not_lt.mp (fun z => hc ((tu_J_lt hb2 ha).mpr z)) | exact Int.not_le.mp (fun z => hc ((tu_J_lt hb2 ha).mpr z)) | exact Decidable.byContradiction fun z => hc (fun y => z ((tu_J_lt hb2 ha).mp y)) | (have hq := mt (tu_J_lt hb2 ha).mpr hc; omega) | (have hq := fun y => hc ((tu_J_lt hb2 ha).mp y); omega) | (rw [(tu_J_lt hb2 ha)] at hc; omega))) H locs ls hP hS hl)

theorem tu_if_gt (pc : Nat) (X : tu_X T cc own fr lo) {a : Int} {off : Int} (tgt : Nat) (hd : decode cc pc = .ok (.ifCond .gt off, 3)) (ht : (pc : Int) + off = (tgt : Int)) (ha : tu_rg a) 
    (kt : 0 < a → tu_W T tgt lv st M)
    (kk : a ≤ 0 → tu_W T (pc + 3) lv st M) : tu_W T pc lv (tu_i a :: st) M := by
  obtain ⟨p, l, e, R, s, m, args, below, meth, c, nL, g, ad, kc, ks, Q⟩ := T
  obtain ⟨hx, hb, hml, hown, hts, hK, hI, hst, hfr, hlo, hkc, hks⟩ := X
  intro H locs ls hP hS hl
  exact lv_if_gt (tgt := tgt) hx hb hd ht (fun hc => kt (by (rw [show (0 : Int32) = tu_J 0 from by decide] at hc; first | exact (tu_J_lt (show tu_rg 0 from ⟨by decide, by decide⟩) ha).mp hc | exact fun z => hc ((tu_J_lt (show tu_rg 0 from ⟨by decide, by decide⟩) ha).mpr z) | exact Int.not_lt.mp (fun z => hc ((tu_J_lt (show tu_rg 0 from ⟨by decide, by decide⟩) ha).mpr z)) | exact Int.not_le.mp (fun z => hc ((tu_J_lt (show tu_rg 0 from ⟨by decide, by decide⟩) ha).mpr z)) | exact Decidable.byContradiction fun z => hc (fun y => z ((tu_J_lt (show tu_rg 0 from ⟨by decide, by decide⟩) ha).mp y)) | (have hq := mt (tu_J_lt (show tu_rg 0 from ⟨by decide, by decide⟩) ha).mpr hc; omega) | (have hq := fun y => hc ((tu_J_lt (show tu_rg 0 from ⟨by decide, by decide⟩) ha).mp y); omega) | (rw [(tu_J_lt (show tu_rg 0 from ⟨by decide, by decide⟩) ha)] at hc; omega))) H locs ls hP hS hl) (fun hc => kk (by (rw [show (0 : Int32) = tu_J 0 from by decide] at hc; first | exact (tu_J_lt (show tu_rg 0 from ⟨by decide, by decide⟩) ha).mp hc | exact fun z => hc ((tu_J_lt (show tu_rg 0 from ⟨by decide, by decide⟩) ha).mpr z) | exact Int.not_lt.mp (fun z => hc ((tu_J_lt (show tu_rg 0 from ⟨by decide, by decide⟩) ha).mpr z)) | exact Int.not_le.mp (fun z => hc ((tu_J_lt (show tu_rg 0 from ⟨by decide, by decide⟩) ha).mpr z)) | exact Decidable.byContradiction fun z => hc (fun y => z ((tu_J_lt (show tu_rg 0 from ⟨by decide, by decide⟩) ha).mp y)) | (have hq := mt (tu_J_lt (show tu_rg 0 from ⟨by decide, by decide⟩) ha).mpr hc; omega) | (have hq := fun y => hc ((tu_J_lt (show tu_rg 0 from ⟨by decide, by decide⟩) ha).mp y); omega) | (rw [(tu_J_lt (show tu_rg 0 from ⟨by decide, by decide⟩) ha)] at hc; omega))) H locs ls hP hS hl)

theorem tu_icmp_le (pc : Nat) (X : tu_X T cc own fr lo) {a b : Int} {off : Int} (tgt : Nat) (hd : decode cc pc = .ok (.if_icmp .le off, 3)) (ht : (pc : Int) + off = (tgt : Int)) (ha : tu_rg a) (hb2 : tu_rg b)
    (kt : a ≤ b → tu_W T tgt lv st M)
    (kk : b < a → tu_W T (pc + 3) lv st M) : tu_W T pc lv (tu_i b :: tu_i a :: st) M := by
  obtain ⟨p, l, e, R, s, m, args, below, meth, c, nL, g, ad, kc, ks, Q⟩ := T
  obtain ⟨hx, hb, hml, hown, hts, hK, hI, hst, hfr, hlo, hkc, hks⟩ := X
  intro H locs ls hP hS hl
  exact lv_icmp_le (tgt := tgt) hx hb hd ht (fun hc => kt (by (first | exact (tu_J_le ha hb2).mp hc | exact fun z => hc ((tu_J_le ha hb2).mpr z) | exact Int.not_lt.mp (fun z => hc ((tu_J_le ha hb2).mpr z)) | exact Int.not_le.mp (fun z => hc ((tu_J_le ha hb2).mpr z)) | exact Decidable.byContradiction fun z => hc (fun y => z ((tu_J_le ha hb2).mp y)) | (have hq := mt (tu_J_le ha hb2).mpr hc; omega) | (have hq := fun y => hc ((tu_J_le ha hb2).mp y); omega) | (rw [(tu_J_le ha hb2)] at hc; omega))) H locs ls hP hS hl) (fun hc => kk (by (first | exact (tu_J_le ha hb2).mp hc | exact fun z => hc ((tu_J_le ha hb2).mpr z) | exact Int.not_lt.mp (fun z => hc ((tu_J_le ha hb2).mpr z)) | exact Int.not_le.mp (fun z => hc ((tu_J_le ha hb2).mpr z)) | exact Decidable.byContradiction fun z => hc (fun y => z ((tu_J_le ha hb2).mp y)) | (have hq := mt (tu_J_le ha hb2).mpr hc; omega) | (have hq := fun y => hc ((tu_J_le ha hb2).mp y); omega) | (rw [(tu_J_le ha hb2)] at hc; omega))) H locs ls hP hS hl)

theorem tu_if_le (pc : Nat) (X : tu_X T cc own fr lo) {a : Int} {off : Int} (tgt : Nat) (hd : decode cc pc = .ok (.ifCond .le off, 3)) (ht : (pc : Int) + off = (tgt : Int)) (ha : tu_rg a) 
    (kt : a ≤ 0 → tu_W T tgt lv st M)
    (kk : 0 < a → tu_W T (pc + 3) lv st M) : tu_W T pc lv (tu_i a :: st) M := by
  obtain ⟨p, l, e, R, s, m, args, below, meth, c, nL, g, ad, kc, ks, Q⟩ := T
  obtain ⟨hx, hb, hml, hown, hts, hK, hI, hst, hfr, hlo, hkc, hks⟩ := X
  intro H locs ls hP hS hl
  exact lv_if_le (tgt := tgt) hx hb hd ht (fun hc => kt (by (rw [show (0 : Int32) = tu_J 0 from by decide] at hc; first | exact (tu_J_le ha (show tu_rg 0 from ⟨by decide, by decide⟩)).mp hc | exact fun z => hc ((tu_J_le ha (show tu_rg 0 from ⟨by decide, by decide⟩)).mpr z) | exact Int.not_lt.mp (fun z => hc ((tu_J_le ha (show tu_rg 0 from ⟨by decide, by decide⟩)).mpr z)) | exact Int.not_le.mp (fun z => hc ((tu_J_le ha (show tu_rg 0 from ⟨by decide, by decide⟩)).mpr z)) | exact Decidable.byContradiction fun z => hc (fun y => z ((tu_J_le ha (show tu_rg 0 from ⟨by decide, by decide⟩)).mp y)) | (have hq := mt (tu_J_le ha (show tu_rg 0 from ⟨by decide, by decide⟩)).mpr hc; omega) | (have hq := fun y => hc ((tu_J_le ha (show tu_rg 0 from ⟨by decide, by decide⟩)).mp y); omega) | (rw [(tu_J_le ha (show tu_rg 0 from ⟨by decide, by decide⟩))] at hc; omega))) H locs ls hP hS hl) (fun hc => kk (by (rw [show (0 : Int32) = tu_J 0 from by decide] at hc; first | exact (tu_J_le ha (show tu_rg 0 from ⟨by decide, by decide⟩)).mp hc | exact fun z => hc ((tu_J_le ha (show tu_rg 0 from ⟨by decide, by decide⟩)).mpr z) | exact Int.not_lt.mp (fun z => hc ((tu_J_le ha (show tu_rg 0 from ⟨by decide, by decide⟩)).mpr z)) | exact Int.not_le.mp (fun z => hc ((tu_J_le ha (show tu_rg 0 from ⟨by decide, by decide⟩)).mpr z)) | exact Decidable.byContradiction fun z => hc (fun y => z ((tu_J_le ha (show tu_rg 0 from ⟨by decide, by decide⟩)).mp y)) | (have hq := mt (tu_J_le ha (show tu_rg 0 from ⟨by decide, by decide⟩)).mpr hc; omega) | (have hq := fun y => hc ((tu_J_le ha (show tu_rg 0 from ⟨by decide, by decide⟩)).mp y); omega) | (rw [(tu_J_le ha (show tu_rg 0 from ⟨by decide, by decide⟩))] at hc; omega))) H locs ls hP hS hl)

theorem tu_goto (pc : Nat) (X : tu_X T cc own fr lo) {off : Int} (tgt : Nat) (hd : decode cc pc = .ok (.goto off, 3)) (ht : (pc : Int) + off = (tgt : Int))
    (kk : tu_W T tgt lv st M) : tu_W T pc lv st M := by
  obtain ⟨p, l, e, R, s, m, args, below, meth, c, nL, g, ad, kc, ks, Q⟩ := T
  obtain ⟨hx, hb, hml, hown, hts, hK, hI, hst, hfr, hlo, hkc, hks⟩ := X
  intro H locs ls hP hS hl
  exact lv_goto (tgt := tgt) hx hb hd ht (kk H locs ls hP hS hl)

theorem tu_tabOut (pc : Nat) (X : tu_X T cc own fr lo) {dflt lo2 hi : Int} {offs : Array Int} {len : Nat} {a : Int} (tgt : Nat) (hd : decode cc pc = .ok (.tableswitch dflt lo2 hi offs, len)) (ha : tu_rg a) (h : a < lo2 ∨ hi < a) (ht : (pc : Int) + dflt = (tgt : Int))
    (kk : tu_W T tgt lv st M) : tu_W T pc lv (tu_i a :: st) M := by
  obtain ⟨p, l, e, R, s, m, args, below, meth, c, nL, g, ad, kc, ks, Q⟩ := T
  obtain ⟨hx, hb, hml, hown, hts, hK, hI, hst, hfr, hlo, hkc, hks⟩ := X
  intro H locs ls hP hS hl
  exact lv_tableOut (x := tu_J a) (tgt := tgt) hx hb hd (by rw [tu_J_i ha]; exact h) ht (kk H locs ls hP hS hl)

theorem tu_tabIn (pc : Nat) (X : tu_X T cc own fr lo) {dflt lo2 hi : Int} {offs : Array Int} {len : Nat} {a : Int} {off : Int} (tgt : Nat) (hd : decode cc pc = .ok (.tableswitch dflt lo2 hi offs, len)) (ha : tu_rg a) (h1 : ¬ a < lo2) (h2 : ¬ hi < a) (ho : offs[(a - lo2).toNat]? = some off) (ht : (pc : Int) + off = (tgt : Int))
    (kk : tu_W T tgt lv st M) : tu_W T pc lv (tu_i a :: st) M := by
  obtain ⟨p, l, e, R, s, m, args, below, meth, c, nL, g, ad, kc, ks, Q⟩ := T
  obtain ⟨hx, hb, hml, hown, hts, hK, hI, hst, hfr, hlo, hkc, hks⟩ := X
  intro H locs ls hP hS hl
  exact lv_tableIn (x := tu_J a) (tgt := tgt) hx hb hd (by rw [tu_J_i ha]; exact h1) (by rw [tu_J_i ha]; exact h2) (by rw [tu_J_i ha]; exact ho) ht (kk H locs ls hP hS hl)

theorem tu_dup (pc : Nat) (X : tu_X T cc own fr lo) {v : tu_v} (hd : decode cc pc = .ok (.dup, 1)) (hv : tu_2 v = false)
    (kk : tu_W T (pc + 1) lv (v :: v :: st) M) : tu_W T pc lv (v :: st) M := by
  obtain ⟨p, l, e, R, s, m, args, below, meth, c, nL, g, ad, kc, ks, Q⟩ := T
  obtain ⟨hx, hb, hml, hown, hts, hK, hI, hst, hfr, hlo, hkc, hks⟩ := X
  intro H locs ls hP hS hl
  exact lv_dup hx hb hd (by rcases v with z | i | u <;> first | rfl | cases hv) (kk H locs ls hP hS hl)

theorem tu_dup_x1 (pc : Nat) (X : tu_X T cc own fr lo) {v w : tu_v} (hd : decode cc pc = .ok (.dup_x1, 1)) (hv : tu_2 v = false) (hw : tu_2 w = false)
    (kk : tu_W T (pc + 1) lv (v :: w :: v :: st) M) : tu_W T pc lv (v :: w :: st) M := by
  obtain ⟨p, l, e, R, s, m, args, below, meth, c, nL, g, ad, kc, ks, Q⟩ := T
  obtain ⟨hx, hb, hml, hown, hts, hK, hI, hst, hfr, hlo, hkc, hks⟩ := X
  intro H locs ls hP hS hl
  exact lv_dup_x1 hx hb hd (by rcases v with z | i | u <;> first | rfl | cases hv) (by rcases w with z | i | u <;> first | rfl | cases hw) (kk H locs ls hP hS hl)

theorem tu_dup2 (pc : Nat) (X : tu_X T cc own fr lo) {v w : tu_v} (hd : decode cc pc = .ok (.dup2, 1)) (hv : tu_2 v = false) (hw : tu_2 w = false)
    (kk : tu_W T (pc + 1) lv (v :: w :: v :: w :: st) M) : tu_W T pc lv (v :: w :: st) M := by
  obtain ⟨p, l, e, R, s, m, args, below, meth, c, nL, g, ad, kc, ks, Q⟩ := T
  obtain ⟨hx, hb, hml, hown, hts, hK, hI, hst, hfr, hlo, hkc, hks⟩ := X
  intro H locs ls hP hS hl
  exact lv_dup2_11 hx hb hd (by rcases v with z | i | u <;> first | rfl | cases hv) (by rcases w with z | i | u <;> first | rfl | cases hw) (kk H locs ls hP hS hl)

/-- a field's link: the class's place, the field's place, its words in the tables -/
def tu_fl (own : String) (idx ci k : Nat) : Prop := ∃ (C : String) (TT : u_T) (N : Nat), tu_cs[ci]? = some (C, TT, N) ∧ k < N ∧ (∀ w ∈ u_ws C TT N, w ∈ tu_tb) ∧ Cond.fieldLink own idx (TT k).1 (TT k).2.1 (TT k).2.2.1 ∈ tu_tb
/-- and what a store wants of it: an int, not final -/
def tu_fp (own : String) (idx ci k : Nat) : Prop := ∃ (C : String) (TT : u_T) (N : Nat), tu_cs[ci]? = some (C, TT, N) ∧ k < N ∧ (∀ w ∈ u_ws C TT N, w ∈ tu_tb) ∧ Cond.fieldLink own idx (TT k).1 (TT k).2.1 (TT k).2.2.1 ∈ tu_tb ∧ (TT k).2.2.2 = false ∧ parseFieldDescriptor (TT k).2.2.1 = some .int ∧ (∃ ty0 : Nat → FieldType, ∀ j, j < N → parseFieldDescriptor (TT j).2.2.1 = some (ty0 j)) ∧ (∀ a, a < N → ∀ b, b < N → a ≠ b → (TT a).2.1 ≠ (TT b).2.1)
theorem tu_ce4 {g : tu_G} {ad : Nat → Nat} {row : Nat → Int} {s : tu_S} {c : Nat} {fs : List (Option Nat)} (h : s = (4, c, fs)) : tu_ce g ad row s = .inr (c, tu_fv ad row 0 fs) := by subst h; rfl
theorem tu_ce0 {g : tu_G} {ad : Nat → Nat} {row : Nat → Int} {s : tu_S} {n : Nat} (h : s = (0, n, [])) : tu_ce g ad row s = .inl (g.2.1, n, .inl (fun j => tu_J (row j))) := by subst h; rfl
theorem tu_ce1 {g : tu_G} {ad : Nat → Nat} {row : Nat → Int} {s : tu_S} {n : Nat} (h : s = (1, n, [])) : tu_ce g ad row s = .inl (g.2.2.1, n, .inl (fun j => tu_J (row j))) := by subst h; rfl
theorem tu_ce2 {g : tu_G} {ad : Nat → Nat} {row : Nat → Int} {s : tu_S} {n : Nat} (h : s = (2, n, [])) : tu_ce g ad row s = .inl (g.2.2.2.1, n, .inl (fun j => tu_J (row j))) := by subst h; rfl
theorem tu_ce3 {g : tu_G} {ad : Nat → Nat} {row : Nat → Int} {s : tu_S} {n : Nat} (h : s = (3, n, [])) : tu_ce g ad row s = .inl (g.2.2.2.2, n, .inr (.inr (.inr (.inr (fun j => some (ad (row j).toNat)))))) := by subst h; rfl

theorem tu_getI (pc : Nat) (X : tu_X T cc own fr lo) {idx ci k i : Nat} {fs : List (Option Nat)} {x : Int} (hd : decode cc pc = .ok (.getfield idx, 3)) (hf : tu_fl own idx ci k) (hi : i < 97) (hs : tu_sh i = (4, ci, fs)) (hk : fs[k]? = some none) (hv : M i k = x)
    (kk : tu_W T (pc + 3) lv (tu_i x :: st) M) : tu_W T pc lv (tu_r i :: st) M := by
  obtain ⟨p, l, e, R, s, m, args, below, meth, c, nL, g, ad, kc, ks, Q⟩ := T
  obtain ⟨hx, hb, hml, hown, hts, hK, hI, hst, hfr, hlo, hkc, hks⟩ := X
  intro H locs ls hP hS hl
  subst hv
  obtain ⟨C, TT, N, hc, hkN, hin, hlk⟩ := hf
  exact va_get hx hb (v := .int (tu_J (M i k))) hts hin hown hK hP i (by rw [tu_ws_at hi, tu_ce4 hs]) hc k hkN (hts _ hlk) (fun _ h9 => h9) (by have := tu_fv_i (ad := ad) (row := M i) (j := 0) hk; rwa [Nat.zero_add] at this) hd (kk H locs ls hP hS hl)

theorem tu_getR (pc : Nat) (X : tu_X T cc own fr lo) {idx ci k i r : Nat} {fs : List (Option Nat)} (hd : decode cc pc = .ok (.getfield idx, 3)) (hf : tu_fl own idx ci k) (hi : i < 97) (hs : tu_sh i = (4, ci, fs)) (hk : fs[k]? = some (some r))
    (kk : tu_W T (pc + 3) lv (tu_r r :: st) M) : tu_W T pc lv (tu_r i :: st) M := by
  obtain ⟨p, l, e, R, s, m, args, below, meth, c, nL, g, ad, kc, ks, Q⟩ := T
  obtain ⟨hx, hb, hml, hown, hts, hK, hI, hst, hfr, hlo, hkc, hks⟩ := X
  intro H locs ls hP hS hl
  obtain ⟨C, TT, N, hc, hkN, hin, hlk⟩ := hf
  exact va_get hx hb (v := .ref (ad r)) hts hin hown hK hP i (by rw [tu_ws_at hi, tu_ce4 hs]) hc k hkN (hts _ hlk) (fun _ h9 => h9) (tu_fv_r hk) hd (kk H locs ls hP hS hl)

theorem tu_lt {fs : List (Option Nat)} {k : Nat} {z : Option Nat} (h : fs[k]? = some z) : k < fs.length := (List.getElem?_eq_some_iff.mp h).1

theorem tu_putI (pc : Nat) (X : tu_X T cc own fr lo) {idx ci k i : Nat} {fs : List (Option Nat)} {x : Int} {M' : tu_M} (hd : decode cc pc = .ok (.putfield idx, 3)) (hf : tu_fp own idx ci k) (hi : i < 97) (hs : tu_sh i = (4, ci, fs)) (hk : fs[k]? = some none) (hM : tu_row M i (tu_u (M i) k x) = M')
    (kk : tu_W T (pc + 3) lv st M') : tu_W T pc lv (tu_i x :: tu_r i :: st) M := by
  obtain ⟨p, l, e, R, s, m, args, below, meth, c, nL, g, ad, kc, ks, Q⟩ := T
  obtain ⟨hx, hb, hml, hown, hts, hK, hI, hst, hfr, hlo, hkc, hks⟩ := X
  intro H locs ls hP hS hl
  subst hM
  obtain ⟨C, TT, N, hc, hkN, hin, hlk, hfin, hd0, ⟨ty0, hty⟩, hnm⟩ := hf
  refine va_put (v := .int (tu_J x)) hx hb hts hin ty0 hty hnm hown hK hP (tu_D hI) hS i (by rw [tu_ws_at hi, tu_ce4 hs]) hc k hkN (hts _ hlk) (fun _ h9 => h9) hfin hd0 rfl rfl (by rw [tu_fv_l]; exact tu_lt hk) hd (fun H1 locs1 hP1 _ hS1 => kk H1 locs1 ls ?_ hS1 hl)
  rw [tu_ws_set (f := tu_u (M i) k x)] at hP1
  · exact hP1
  · have h1 := tu_fv_s (ad := ad) (row := M i) (x := x) (j := 0) hk
    rw [Nat.zero_add] at h1
    rw [tu_ce4 hs, h1]

theorem tu_iald (pc : Nat) (X : tu_X T cc own fr lo) {i n : Nat} {j x : Int} (q : Nat) (hd : decode cc pc = .ok (.iaload, 1)) (hi : i < 97) (hs : tu_sh i = (0, n, [])) (hn : n < 2147483648) (hj : j = (q : Int)) (hq : q < n) (hv : M i q = x)
    (kk : tu_W T (pc + 1) lv (tu_i x :: st) M) : tu_W T pc lv (tu_i j :: tu_r i :: st) M := by
  obtain ⟨p, l, e, R, s, m, args, below, meth, c, nL, g, ad, kc, ks, Q⟩ := T
  obtain ⟨hx, hb, hml, hown, hts, hK, hI, hst, hfr, hlo, hkc, hks⟩ := X
  intro H locs ls hP hS hl
  subst hv
  refine va_iald hx hb hK hP i 0 (by rw [tu_ws_at hi, tu_ce0 hs]) rfl (tu_in hj hq hn) hd ?_
  rw [tu_cl hj hq hn]
  exact kk H locs ls hP hS hl

theorem tu_cald (pc : Nat) (X : tu_X T cc own fr lo) {i n : Nat} {j x : Int} (q : Nat) (hd : decode cc pc = .ok (.caload, 1)) (hi : i < 97) (hs : tu_sh i = (1, n, [])) (hn : n < 2147483648) (hj : j = (q : Int)) (hq : q < n) (hv : M i q = x)
    (kk : tu_W T (pc + 1) lv (tu_i x :: st) M) : tu_W T pc lv (tu_i j :: tu_r i :: st) M := by
  obtain ⟨p, l, e, R, s, m, args, below, meth, c, nL, g, ad, kc, ks, Q⟩ := T
  obtain ⟨hx, hb, hml, hown, hts, hK, hI, hst, hfr, hlo, hkc, hks⟩ := X
  intro H locs ls hP hS hl
  subst hv
  refine va_cald hx hb hK hP i 1 (by rw [tu_ws_at hi, tu_ce1 hs]) rfl (tu_in hj hq hn) hd ?_
  rw [tu_cl hj hq hn]
  exact kk H locs ls hP hS hl

theorem tu_zald (pc : Nat) (X : tu_X T cc own fr lo) {i n : Nat} {j x : Int} (q : Nat) (hd : decode cc pc = .ok (.baload, 1)) (hi : i < 97) (hs : tu_sh i = (2, n, [])) (hn : n < 2147483648) (hj : j = (q : Int)) (hq : q < n) (hv : M i q = x)
    (kk : tu_W T (pc + 1) lv (tu_i x :: st) M) : tu_W T pc lv (tu_i j :: tu_r i :: st) M := by
  obtain ⟨p, l, e, R, s, m, args, below, meth, c, nL, g, ad, kc, ks, Q⟩ := T
  obtain ⟨hx, hb, hml, hown, hts, hK, hI, hst, hfr, hlo, hkc, hks⟩ := X
  intro H locs ls hP hS hl
  subst hv
  refine va_zald hx hb hK hP i 2 (by rw [tu_ws_at hi, tu_ce2 hs]) rfl (tu_in hj hq hn) hd ?_
  rw [tu_cl hj hq hn]
  exact kk H locs ls hP hS hl

theorem tu_aald (pc : Nat) (X : tu_X T cc own fr lo) {i n r : Nat} {j : Int} (q : Nat) (hd : decode cc pc = .ok (.aaload, 1)) (hi : i < 97) (hs : tu_sh i = (3, n, [])) (hn : n < 2147483648) (hj : j = (q : Int)) (hq : q < n) (hv : (M i q).toNat = r)
    (kk : tu_W T (pc + 1) lv (tu_r r :: st) M) : tu_W T pc lv (tu_i j :: tu_r i :: st) M := by
  obtain ⟨p, l, e, R, s, m, args, below, meth, c, nL, g, ad, kc, ks, Q⟩ := T
  obtain ⟨hx, hb, hml, hown, hts, hK, hI, hst, hfr, hlo, hkc, hks⟩ := X
  intro H locs ls hP hS hl
  subst hv
  refine va_aldq hx hb hK hP i 3 (by rw [tu_ws_at hi, tu_ce3 hs]) rfl (tu_in hj hq hn) hd ?_
  rw [tu_cl hj hq hn]
  exact kk H locs ls hP hS hl

theorem tu_iast (pc : Nat) (X : tu_X T cc own fr lo) {i n : Nat} {j x : Int} {M' : tu_M} (q : Nat) (hd : decode cc pc = .ok (.iastore, 1)) (hi : i < 97) (hs : tu_sh i = (0, n, [])) (hn : n < 2147483648) (hj : j = (q : Int)) (hq : q < n) (hM : tu_row M i (tu_u (M i) q x) = M')
    (kk : tu_W T (pc + 1) lv st M') : tu_W T pc lv (tu_i x :: tu_i j :: tu_r i :: st) M := by
  obtain ⟨p, l, e, R, s, m, args, below, meth, c, nL, g, ad, kc, ks, Q⟩ := T
  obtain ⟨hx, hb, hml, hown, hts, hK, hI, hst, hfr, hlo, hkc, hks⟩ := X
  intro H locs ls hP hS hl
  subst hM
  refine va_iast (x := tu_J x) hx hb hK hP (tu_D hI) hS i 0 (by rw [tu_ws_at hi, tu_ce0 hs]) rfl (tu_in hj hq hn) hd (fun H1 locs1 hP1 _ hS1 => kk H1 locs1 ls ?_ hS1 hl)
  rw [tu_cl hj hq hn, tu_ju] at hP1
  rw [tu_ws_set (f := tu_u (M i) q x)] at hP1
  · exact hP1
  · rw [tu_ce0 hs]

theorem tu_cast (pc : Nat) (X : tu_X T cc own fr lo) {i n : Nat} {j x : Int} {M' : tu_M} (q : Nat) (hd : decode cc pc = .ok (.castore, 1)) (hi : i < 97) (hs : tu_sh i = (1, n, [])) (hn : n < 2147483648) (hj : j = (q : Int)) (hq : q < n) (hx9 : vp_nar .char (tu_J x) = tu_J x) (hM : tu_row M i (tu_u (M i) q x) = M')
    (kk : tu_W T (pc + 1) lv st M') : tu_W T pc lv (tu_i x :: tu_i j :: tu_r i :: st) M := by
  obtain ⟨p, l, e, R, s, m, args, below, meth, c, nL, g, ad, kc, ks, Q⟩ := T
  obtain ⟨hx, hb, hml, hown, hts, hK, hI, hst, hfr, hlo, hkc, hks⟩ := X
  intro H locs ls hP hS hl
  subst hM
  refine va_cast (x := tu_J x) hx hb hK hP (tu_D hI) hS i 1 (by rw [tu_ws_at hi, tu_ce1 hs]) rfl (tu_in hj hq hn) hd (fun H1 locs1 hP1 _ hS1 => kk H1 locs1 ls ?_ hS1 hl)
  rw [tu_cl hj hq hn, hx9, tu_ju] at hP1
  rw [tu_ws_set (f := tu_u (M i) q x)] at hP1
  · exact hP1
  · rw [tu_ce1 hs]

theorem tu_zast (pc : Nat) (X : tu_X T cc own fr lo) {i n : Nat} {j x : Int} {M' : tu_M} (q : Nat) (hd : decode cc pc = .ok (.bastore, 1)) (hi : i < 97) (hs : tu_sh i = (2, n, [])) (hn : n < 2147483648) (hj : j = (q : Int)) (hq : q < n) (hx9 : vp_nar .boolean (tu_J x) = tu_J x) (hM : tu_row M i (tu_u (M i) q x) = M')
    (kk : tu_W T (pc + 1) lv st M') : tu_W T pc lv (tu_i x :: tu_i j :: tu_r i :: st) M := by
  obtain ⟨p, l, e, R, s, m, args, below, meth, c, nL, g, ad, kc, ks, Q⟩ := T
  obtain ⟨hx, hb, hml, hown, hts, hK, hI, hst, hfr, hlo, hkc, hks⟩ := X
  intro H locs ls hP hS hl
  subst hM
  refine va_zast (x := tu_J x) hx hb hK hP (tu_D hI) hS i 2 (by rw [tu_ws_at hi, tu_ce2 hs]) rfl (tu_in hj hq hn) hd (fun H1 locs1 hP1 _ hS1 => kk H1 locs1 ls ?_ hS1 hl)
  rw [tu_cl hj hq hn, hx9, tu_ju] at hP1
  rw [tu_ws_set (f := tu_u (M i) q x)] at hP1
  · exact hP1
  · rw [tu_ce2 hs]

theorem tu_aast (pc : Nat) (X : tu_X T cc own fr lo) {i n r : Nat} {j : Int} {fs : List (Option Nat)} {M' : tu_M} (q : Nat) (hd : decode cc pc = .ok (.aastore, 1)) (hi : i < 97) (hs : tu_sh i = (3, n, [])) (hn : n < 2147483648) (hj : j = (q : Int)) (hq : q < n) (hr : r < 97) (hrs : tu_sh r = (4, 0, fs)) (hM : tu_row M i (tu_u (M i) q (r : Int)) = M')
    (kk : tu_W T (pc + 1) lv st M') : tu_W T pc lv (tu_r r :: tu_i j :: tu_r i :: st) M := by
  obtain ⟨p, l, e, R, s, m, args, below, meth, c, nL, g, ad, kc, ks, Q⟩ := T
  obtain ⟨hx, hb, hml, hown, hts, hK, hI, hst, hfr, hlo, hkc, hks⟩ := X
  intro H locs ls hP hS hl
  subst hM
  refine va_astq (r := (RX0, TX0, 11)) hx hb hK hP (tu_D hI) hS i 3 r 0 (by rw [tu_ws_at hi, tu_ce3 hs]) rfl (by rw [tu_ws_at hr, tu_ce4 hrs]) rfl (tu_in hj hq hn) hd (fun H1 locs1 hP1 _ hS1 => kk H1 locs1 ls ?_ hS1 hl)
  rw [tu_cl hj hq hn] at hP1
  have e : va_up (fun j => some (ad (M i j).toNat)) q (some (ad r)) = fun j => some (ad (tu_u (M i) q (r : Int) j).toNat) := by
    funext a
    by_cases h : a = q
    · subst h; simp [va_up, tu_u_s]
    · simp [va_up, h, tu_u_n]
  rw [e, tu_ws_set (f := tu_u (M i) q (r : Int))] at hP1
  · exact hP1
  · rw [tu_ce3 hs]

end TU
end
section
/-! contracts over the small machine: a method, its arguments, the memory before; what is true of its answer and of the memory behind it -/
abbrev tu_Y : Type := MethodName × ByteArray × Nat × Option FieldType × Nat × Nat
def tu_wd (Y : tu_Y) : List Cond := Cond.code Y.1 Y.2.1 Y.2.2.1 Y.2.2.2.1 :: tu_tb
def tu_rm (Y : tu_Y) : Room := { frames := Y.2.2.2.2.1, cells := 0, slots := 0, locals := Y.2.2.2.2.2 }
def tu_Pr (g : tu_G) (ad : Nat → Nat) (av : List tu_v) (M : tu_M) : Array Value → State → Prop := va_Pc (av.map (tu_vl ad)) (fun U => tu_Wo g ad M U)
/-- an int (or a boolean) comes back -/
def tu_MI (Y : tu_Y) (av : List tu_v) (M : tu_M) (post : Int → tu_M → Prop) : Prop := ∀ (l : Launch) (g : tu_G) (ad : Nat → Nat), Met l Y.1 (tu_wd Y) (tu_rm Y) (tu_Pr g ad av M) (va_Qi (fun r M' => ∃ z : Int, r = tu_J z ∧ post z M') (fun M' t => tu_Wo g ad M' t) (tu_A ad)) 0 0 (tu_A ad)
/-- nothing comes back -/
def tu_MV (Y : tu_Y) (av : List tu_v) (M : tu_M) (post : tu_M → Prop) : Prop := ∀ (l : Launch) (g : tu_G) (ad : Nat → Nat), Met l Y.1 (tu_wd Y) (tu_rm Y) (tu_Pr g ad av M) (va_Qv post (fun M' t => tu_Wo g ad M' t) (tu_A ad)) 0 0 (tu_A ad)
/-- the return's row, as a method's body gets it -/
def tu_RI (T : tu_T) (cc : ByteArray) (post : Int → tu_M → Prop) : Prop := ∀ (pc : Nat) (lv : List (Nat × tu_v)) (M : tu_M) (z : Int), decode cc pc = .ok (.ireturn, 1) → (∀ h : T.2.2.2.2.2.2.2.2.1.sig.returnType = some .boolean, z = 0 ∨ z = 1) → post z M → tu_W T pc lv [tu_i z] M
def tu_RV (T : tu_T) (cc : ByteArray) (post : tu_M → Prop) : Prop := ∀ (pc : Nat) (lv : List (Nat × tu_v)) (M : tu_M), decode cc pc = .ok (.return_, 1) → post M → tu_W T pc lv [] M
def tu_la : Nat → List tu_v → List (Nat × tu_v)
  | _, [] => []
  | i, v :: vs => (i, v) :: tu_la (if tu_2 v = true then i + 2 else i + 1) vs
theorem tu_la_e (ad : Nat → Nat) : ∀ (i : Nat) (vs : List tu_v), lv_args i (vs.map (tu_vl ad)) = (tu_la i vs).map fun q => (q.1, tu_vl ad q.2)
  | _, [] => rfl
  | i, v :: vs => by
    have h : (tu_vl ad v).category = 2 ↔ tu_2 v = true := by rw [← tu_2c ad v, beq_iff_eq]
    simp only [List.map_cons, lv_args, tu_la]
    by_cases hv : tu_2 v = true
    · rw [if_pos (h.mpr hv), if_pos hv, tu_la_e ad _ vs]
    · rw [if_neg (fun z => hv (h.mp z)), if_neg hv, tu_la_e ad _ vs]
def tu_sz : List tu_v → Nat
  | [] => 0
  | v :: vs => (if tu_2 v = true then 2 else 1) + tu_sz vs
theorem tu_sz_e (ad : Nat → Nat) : ∀ vs : List tu_v, (lg_sl (vs.map (tu_vl ad))).length = tu_sz vs
  | [] => rfl
  | v :: vs => by
    have h : (tu_vl ad v).category = 2 ↔ tu_2 v = true := by rw [← tu_2c ad v, beq_iff_eq]
    have ih := tu_sz_e ad vs
    unfold lg_sl at ih ⊢
    rw [List.map_cons, List.flatMap_cons, List.length_append, ih, tu_sz]
    by_cases hv : tu_2 v = true
    · rw [if_pos (h.mpr hv), if_pos hv]; rfl
    · rw [if_neg (fun z => hv (h.mp z)), if_neg hv]; rfl
theorem tu_MI.of {Y : tu_Y} {av : List tu_v} {M : tu_M} {post : Int → tu_M → Prop} {ty : FieldType} (hy : plainName Y.1.cls = true) (hty : Y.2.2.2.1 = some ty) (hb0 : ty = .boolean ∨ ty = .int) (hz : tu_sz av ≤ Y.2.2.1)
    (body : ∀ T : tu_T, tu_X T Y.2.1 Y.1.cls Y.2.2.2.2.1 Y.2.2.2.2.2 → T.2.2.2.2.2.2.2.2.2.2.1 = Y.2.2.1 → T.2.2.2.2.2.2.2.2.1.sig.returnType = some ty → tu_RI T Y.2.1 post → tu_W T 0 (tu_la 0 av) [] M) : tu_MI Y av M post := by
  intro l g ad
  refine Met.ofW (cc := Y.2.1) (maxL := Y.2.2.1) (ret := Y.2.2.2.1) hy rfl ?_
  intro p e s m args below meth c s₁ B hml hv
  obtain ⟨rfl, hP, hK, hI, hst⟩ := hv
  have hts : ∀ w ∈ tu_tb, w.before (av.map (tu_vl ad)).toArray s = true := fun w hw => atoms_spec (ws := tu_wd Y) B.pre w (List.mem_cons_of_mem _ hw)
  have hl := lv_entry (av.map (tu_vl ad)) (n := Y.2.2.1) (by rw [tu_sz_e]; exact hz)
  rw [tu_la_e] at hl
  rw [lg_entry_eq]
  refine body (p, l, e, (headSpec (tu_wd Y) (tu_rm Y)).room, s, m, (av.map (tu_vl ad)).toArray, below, meth, c, Y.2.2.1, g, ad, 0, 0, _) ⟨B.exec, B.bytes, hml, findClass_of_methodNamed B.named, hts, hK, hI, hst, Nat.le_refl _, Nat.le_refl _, Nat.zero_le _, Nat.zero_le _⟩ rfl (B.returns.trans hty) ?_ s.heap [] _ hP va_S.rf hl
  intro pc lv M' z hd hbz hpost H locs ls hP' hS' hl'
  have hn : narrow ty (.int (tu_J z)) = .int (tu_J z) := by
    rcases hb0 with rfl | rfl
    · rcases hbz (B.returns.trans hty) with rfl | rfl <;> rfl
    · rfl
  refine W.zret (v := tu_J z) B.exec B.bytes (B.returns.trans hty) hn (fun t ht hW => ⟨⟨tu_J z, M', rfl, ⟨z, rfl, hpost⟩, ?_, ?_, hI, ?_⟩, hS'.F ht⟩) hS'.2.2 hd B.notSynchronized
  · rw [ht]; exact hP'
  · exact va_K.moved hW.alike hK
  · refine tu_st.kept (H := s.heap) (hst.moved hW.alike) (fun a h1 h2 => ?_)
    rw [ht]; exact hS'.2.1 a h1 h2
theorem tu_MV.of {Y : tu_Y} {av : List tu_v} {M : tu_M} {post : tu_M → Prop} (hy : plainName Y.1.cls = true) (hty : Y.2.2.2.1 = none) (hz : tu_sz av ≤ Y.2.2.1)
    (body : ∀ T : tu_T, tu_X T Y.2.1 Y.1.cls Y.2.2.2.2.1 Y.2.2.2.2.2 → T.2.2.2.2.2.2.2.2.2.2.1 = Y.2.2.1 → tu_RV T Y.2.1 post → tu_W T 0 (tu_la 0 av) [] M) : tu_MV Y av M post := by
  intro l g ad
  refine Met.ofW (cc := Y.2.1) (maxL := Y.2.2.1) (ret := Y.2.2.2.1) hy rfl ?_
  intro p e s m args below meth c s₁ B hml hv
  obtain ⟨rfl, hP, hK, hI, hst⟩ := hv
  have hts : ∀ w ∈ tu_tb, w.before (av.map (tu_vl ad)).toArray s = true := fun w hw => atoms_spec (ws := tu_wd Y) B.pre w (List.mem_cons_of_mem _ hw)
  have hl := lv_entry (av.map (tu_vl ad)) (n := Y.2.2.1) (by rw [tu_sz_e]; exact hz)
  rw [tu_la_e] at hl
  rw [lg_entry_eq]
  refine body (p, l, e, (headSpec (tu_wd Y) (tu_rm Y)).room, s, m, (av.map (tu_vl ad)).toArray, below, meth, c, Y.2.2.1, g, ad, 0, 0, _) ⟨B.exec, B.bytes, hml, findClass_of_methodNamed B.named, hts, hK, hI, hst, Nat.le_refl _, Nat.le_refl _, Nat.zero_le _, Nat.zero_le _⟩ rfl ?_ s.heap [] _ hP va_S.rf hl
  intro pc lv M' hd hpost H locs ls hP' hS' hl'
  refine W.vret B.exec B.bytes (B.returns.trans hty) (fun t ht hW => ⟨⟨M', rfl, hpost, ?_, ?_, hI, ?_⟩, hS'.F ht⟩) hS'.2.2 hd B.notSynchronized
  · rw [ht]; exact hP'
  · exact va_K.moved hW.alike hK
  · refine tu_st.kept (H := s.heap) (hst.moved hW.alike) (fun a h1 h2 => ?_)
    rw [ht]; exact hS'.2.1 a h1 h2
/-! calls -/
/-- what a call of an instance method wants of the tables -/
def tu_sV (own : String) (idx : Nat) (Y : tu_Y) (n : Nat) : Prop := (Cond.methodLink own idx Y.1 ∈ tu_tb ∧ Cond.instanceMethod Y.1 ∈ tu_tb ∧ Cond.selects Y.1.cls Y.1 Y.1 ∈ tu_tb ∧ Cond.initialized Y.1.cls ∈ tu_tb ∧ Cond.code Y.1 Y.2.1 Y.2.2.1 Y.2.2.2.1 ∈ tu_tb) ∧ (Y.1.cls ≠ "java/lang/invoke/MethodHandle" ∧ Y.1.cls ≠ "java/lang/invoke/VarHandle" ∧ (parseMethodDescriptor Y.1.desc).map (fun d => d.parameters.length) = some n)
def tu_sS (own : String) (idx : Nat) (Y : tu_Y) (n : Nat) : Prop := (Cond.methodLink own idx Y.1 ∈ tu_tb ∧ Cond.static Y.1 ∈ tu_tb ∧ Cond.initialized Y.1.cls ∈ tu_tb ∧ Cond.code Y.1 Y.2.1 Y.2.2.1 Y.2.2.2.1 ∈ tu_tb) ∧ (Y.1.cls ≠ "java/lang/invoke/MethodHandle" ∧ Y.1.cls ≠ "java/lang/invoke/VarHandle" ∧ (parseMethodDescriptor Y.1.desc).map (fun d => d.parameters.length) = some n)
theorem tu_gd {Y' Y : tu_Y} (hc : Cond.code Y.1 Y.2.1 Y.2.2.1 Y.2.2.2.1 ∈ tu_tb) : GoodIn (tu_wd Y') (tu_wd Y) := by
  intro w hw
  rcases List.mem_cons.mp hw with rfl | hw
  · exact ⟨List.mem_cons_of_mem _ hc, tu_tb_good _ hc⟩
  · exact ⟨List.mem_cons_of_mem _ hw, tu_tb_good _ hw⟩
theorem tu_gt {Y : tu_Y} (hc : Cond.code Y.1 Y.2.1 Y.2.2.1 Y.2.2.2.1 ∈ tu_tb) : GoodIn tu_tb (tu_wd Y) := by
  intro w hw
  rcases List.mem_cons.mp hw with rfl | hw
  · exact ⟨hc, tu_tb_good _ hc⟩
  · exact ⟨hw, tu_tb_good _ hw⟩
theorem tu_blind {g : tu_G} {ad : Nat → Nat} {av : List tu_v} {M : tu_M} : FrameBlind (tu_Pr g ad av M) := by
  intro a U f mk h
  obtain ⟨h1, h2, h3, h4, h5⟩ := h
  exact ⟨h1, h2, va_K.moved (u := U) (U := U.calling f mk a) (Vm.Alike.refl U.vm) h3, h4, tu_st.moved (u := U) (U := U.calling f mk a) (Vm.Alike.refl U.vm) h5⟩
section TC
variable {T : tu_T} {cc : ByteArray} {own : String} {fr lo : Nat} {lv : List (Nat × tu_v)} {st : List tu_v} {M : tu_M}
theorem tu_cB {R : Room} {s : State} {args : Array Value} {own : String} {idx : Nat} {Y : tu_Y} {n : Nat} (hts : ∀ w ∈ tu_tb, w.before args s = true) (hc : Cond.code Y.1 Y.2.1 Y.2.2.1 Y.2.2.2.1 ∈ tu_tb) (hi : Cond.initialized Y.1.cls ∈ tu_tb) (hl : Cond.methodLink own idx Y.1 ∈ tu_tb) (hd : Y.1.cls ≠ "java/lang/invoke/MethodHandle" ∧ Y.1.cls ≠ "java/lang/invoke/VarHandle" ∧ (parseMethodDescriptor Y.1.desc).map (fun d => d.parameters.length) = some n) (hr : Y.2.2.2.2.1 + 1 ≤ R.frames ∧ 8 + (Y.2.2.1 + 11) + Y.2.2.2.2.2 ≤ R.locals) : CallB R s args own idx Y.1 Y.2.1 Y.2.2.1 Y.2.2.2.1 (tu_wd Y) (tu_rm Y) 0 0 n :=
  callB_of (Ts := tu_tb) n hts (tu_gt hc) rfl rfl rfl (hts _ hi) (hts _ hl) hd hr
theorem tu_recv {g : tu_G} {ad : Nat → Nat} {M : tu_M} {s : State} {H : Heap} {b ci : Nat} {q : vw_C} {fs : List (Option Nat)} (hK : va_K g.1 tu_cs (tu_ty g) s) (hP : va_P g.1 tu_cs (tu_ws g ad M) H) (hb : b < 97) (hs : tu_sh b = (4, ci, fs)) (hc : tu_cs[ci]? = some q) : ∃ cell : Cell, H[ad b]? = some cell ∧ cell.vm.isStatics = false ∧ s.vm.findClass q.1 = some cell.cls :=
  va_recv hK hP hc (by rw [tu_ws_at hb, tu_ce4 hs])
theorem tu_room (l : List tu_v) (ad : Nat → Nat) {m : MethodId} {pc : Nat} {ls : Array Slot} {rest : List Value} (h : l.length ≤ 4) : 2 * (F0 m pc ls rest).monitorRoom + ((l.map (tu_vl ad)).map fun v => v.category).sum ≤ 8 := by
  apply lv_room
  have hc : ∀ v : Value, v.category ≤ 2 := fun v => by rcases lv_cat v with h | h <;> omega
  have h2 : ∀ l : List Value, (l.map fun v => v.category).sum ≤ 2 * l.length := by
    intro l
    induction l with
    | nil => exact Nat.zero_le _
    | cons a l ih =>
      have := hc a
      simp only [List.map_cons, List.sum_cons, List.length_cons]
      omega
  have := h2 (l.map (tu_vl ad))
  rw [List.length_map] at this
  omega
theorem tu_pre {g : tu_G} {ad : Nat → Nat} {M : tu_M} {s : State} {H : Heap} {locs : List Loc} {av : List tu_v} (hK : va_K g.1 tu_cs (tu_ty g) s) (hI : tu_inj ad) (hst : tu_st ad s s.heap) (hP : va_P g.1 tu_cs (tu_ws g ad M) H) (hS : va_S (tu_A ad) s.heap H locs) : ∀ U : State, U.heap = H → s.WarmedH U.vm → tu_Pr g ad av M (av.map (tu_vl ad)).toArray U := by
  intro U hU hW
  refine ⟨rfl, by rw [hU]; exact hP, va_K.moved hW.alike hK, hI, tu_st.kept (H := s.heap) (hst.moved hW.alike) (fun a h1 h2 => ?_)⟩
  rw [hU]; exact hS.2.1 a h1 h2
theorem tu_callVI (pc : Nat) (X : tu_X T cc own fr lo) {Y : tu_Y} {idx b ci n : Nat} {q : vw_C} {fs : List (Option Nat)} {as : List tu_v} {post : Int → tu_M → Prop} (hM : tu_MI Y (tu_r b :: as) M post) (hs : tu_sV own idx Y n) (hd : decode cc pc = .ok (.invokevirtual idx, 3)) (hn : as.length = n) (hb97 : b < 97) (hsh : tu_sh b = (4, ci, fs)) (hci : tu_cs[ci]? = some q) (hqc : q.1 = Y.1.cls) (hlen : st.length ≤ 4) (hroom : Y.2.2.2.2.1 + 1 ≤ fr ∧ 8 + (Y.2.2.1 + 11) + Y.2.2.2.2.2 ≤ lo)
    (kk : ∀ (z : Int) (M' : tu_M), post z M' → tu_W T (pc + 3) lv (tu_i z :: st) M') : tu_W T pc lv (as.reverse ++ tu_r b :: st) M := by
  obtain ⟨p, l, e, R, s, m, args, below, meth, c, nL, g, ad, kc, ks, Q⟩ := T
  obtain ⟨hx, hb, hml, hown, hts, hK, hI, hst, hfr, hlo, hkc, hks⟩ := X
  intro H locs ls hP hS hl
  obtain ⟨⟨hl0, hin, hse, hini, hco⟩, hd3⟩ := hs
  have hr : Y.2.2.2.2.1 + 1 ≤ R.frames ∧ 8 + (Y.2.2.1 + 11) + Y.2.2.2.2.2 ≤ R.locals := ⟨Nat.le_trans hroom.1 hfr, Nat.le_trans hroom.2 hlo⟩
  have cw : CallW R s args own Y.1.cls idx Y.1 Y.2.1 Y.2.2.1 Y.2.2.2.1 (tu_wd Y) (tu_rm Y) 0 0 n := ⟨tu_cB hts hco hini hl0 hd3 hr, hts _ hin, hts _ hse⟩
  have hrc := tu_recv (M := M) (H := H) hK hP hb97 hsh hci
  rw [hqc] at hrc
  have e1 : (as.reverse ++ tu_r b :: st).map (tu_vl ad) = (as.map (tu_vl ad)).reverse ++ .ref (ad b) :: st.map (tu_vl ad) := by simp [List.map_reverse, tu_vl]
  rw [e1]
  refine va_calli (A1 := tu_A ad) (a := (Value.ref (ad b) :: as.map (tu_vl ad)).toArray) (va_runV (cc := cc) (nL := nL) (Ts := tu_tb) (own := own) (C := Y.1.cls) (b := ad b) (As := as.map (tu_vl ad)) (rest := st.map (tu_vl ad)) ⟨hx, hb, hml, hown, hts⟩ (hM l g ad) cw ⟨tu_blind, hrc, tu_pre (av := tu_r b :: as) hK hI hst hP hS⟩ rfl (by simpa using hn) hl.1 rfl (tu_room st ad hlen) hd ⟨by omega, by omega⟩) hS (fun q _ h => h) (fun q h => h) (fun r M' t H1 locs1 ht hvm hpost hB hz hk hS1 => ?_)
  obtain ⟨z, rfl, hpost⟩ := hpost
  obtain ⟨hP1, -, -, -⟩ := hB
  rw [ht] at hP1
  exact kk z M' hpost H1 locs1 ls hP1 hS1 hl
theorem tu_callVV (pc : Nat) (X : tu_X T cc own fr lo) {Y : tu_Y} {idx b ci n : Nat} {q : vw_C} {fs : List (Option Nat)} {as : List tu_v} {post : tu_M → Prop} (hM : tu_MV Y (tu_r b :: as) M post) (hs : tu_sV own idx Y n) (hd : decode cc pc = .ok (.invokevirtual idx, 3)) (hn : as.length = n) (hb97 : b < 97) (hsh : tu_sh b = (4, ci, fs)) (hci : tu_cs[ci]? = some q) (hqc : q.1 = Y.1.cls) (hlen : st.length ≤ 4) (hroom : Y.2.2.2.2.1 + 1 ≤ fr ∧ 8 + (Y.2.2.1 + 11) + Y.2.2.2.2.2 ≤ lo)
    (kk : ∀ (M' : tu_M), post M' → tu_W T (pc + 3) lv st M') : tu_W T pc lv (as.reverse ++ tu_r b :: st) M := by
  obtain ⟨p, l, e, R, s, m, args, below, meth, c, nL, g, ad, kc, ks, Q⟩ := T
  obtain ⟨hx, hb, hml, hown, hts, hK, hI, hst, hfr, hlo, hkc, hks⟩ := X
  intro H locs ls hP hS hl
  obtain ⟨⟨hl0, hin, hse, hini, hco⟩, hd3⟩ := hs
  have hr : Y.2.2.2.2.1 + 1 ≤ R.frames ∧ 8 + (Y.2.2.1 + 11) + Y.2.2.2.2.2 ≤ R.locals := ⟨Nat.le_trans hroom.1 hfr, Nat.le_trans hroom.2 hlo⟩
  have cw : CallW R s args own Y.1.cls idx Y.1 Y.2.1 Y.2.2.1 Y.2.2.2.1 (tu_wd Y) (tu_rm Y) 0 0 n := ⟨tu_cB hts hco hini hl0 hd3 hr, hts _ hin, hts _ hse⟩
  have hrc := tu_recv (M := M) (H := H) hK hP hb97 hsh hci
  rw [hqc] at hrc
  have e1 : (as.reverse ++ tu_r b :: st).map (tu_vl ad) = (as.map (tu_vl ad)).reverse ++ .ref (ad b) :: st.map (tu_vl ad) := by simp [List.map_reverse, tu_vl]
  rw [e1]
  refine va_callv (A1 := tu_A ad) (a := (Value.ref (ad b) :: as.map (tu_vl ad)).toArray) (va_runV (cc := cc) (nL := nL) (Ts := tu_tb) (own := own) (C := Y.1.cls) (b := ad b) (As := as.map (tu_vl ad)) (rest := st.map (tu_vl ad)) ⟨hx, hb, hml, hown, hts⟩ (hM l g ad) cw ⟨tu_blind, hrc, tu_pre (av := tu_r b :: as) hK hI hst hP hS⟩ rfl (by simpa using hn) hl.1 rfl (tu_room st ad hlen) hd ⟨by omega, by omega⟩) hS (fun q _ h => h) (fun q h => h) (fun M' t H1 locs1 ht hvm hpost hB hz hk hS1 => ?_)
  obtain ⟨hP1, -, -, -⟩ := hB
  rw [ht] at hP1
  exact kk M' hpost H1 locs1 ls hP1 hS1 hl
theorem tu_callSI (pc : Nat) (X : tu_X T cc own fr lo) {Y : tu_Y} {idx n : Nat} {as : List tu_v} {post : Int → tu_M → Prop} (hM : tu_MI Y as M post) (hs : tu_sS own idx Y n) (hd : decode cc pc = .ok (.invokestatic idx, 3)) (hn : as.length = n) (hlen : st.length ≤ 4) (hroom : Y.2.2.2.2.1 + 1 ≤ fr ∧ 8 + (Y.2.2.1 + 11) + Y.2.2.2.2.2 ≤ lo)
    (kk : ∀ (z : Int) (M' : tu_M), post z M' → tu_W T (pc + 3) lv (tu_i z :: st) M') : tu_W T pc lv (as.reverse ++ st) M := by
  obtain ⟨p, l, e, R, s, m, args, below, meth, c, nL, g, ad, kc, ks, Q⟩ := T
  obtain ⟨hx, hb, hml, hown, hts, hK, hI, hst, hfr, hlo, hkc, hks⟩ := X
  intro H locs ls hP hS hl
  obtain ⟨⟨hl0, hstt, hini, hco⟩, hd3⟩ := hs
  have hr : Y.2.2.2.2.1 + 1 ≤ R.frames ∧ 8 + (Y.2.2.1 + 11) + Y.2.2.2.2.2 ≤ R.locals := ⟨Nat.le_trans hroom.1 hfr, Nat.le_trans hroom.2 hlo⟩
  have e1 : (as.reverse ++ st).map (tu_vl ad) = (as.map (tu_vl ad)).reverse ++ st.map (tu_vl ad) := by simp [List.map_reverse]
  rw [e1]
  refine va_calli (A1 := tu_A ad) (a := (as.map (tu_vl ad)).toArray) (va_runS (cc := cc) (nL := nL) (Ts := tu_tb) (own := own) (As := as.map (tu_vl ad)) (rest := st.map (tu_vl ad)) ⟨hx, hb, hml, hown, hts⟩ (hM l g ad) ⟨tu_cB hts hco hini hl0 hd3 hr, hts _ hstt⟩ ⟨tu_blind, tu_pre (av := as) hK hI hst hP hS⟩ rfl (by simpa using hn) hl.1 rfl (tu_room st ad hlen) hd ⟨by omega, by omega⟩) hS (fun q _ h => h) (fun q h => h) (fun r M' t H1 locs1 ht hvm hpost hB hz hk hS1 => ?_)
  obtain ⟨z, rfl, hpost⟩ := hpost
  obtain ⟨hP1, -, -, -⟩ := hB
  rw [ht] at hP1
  exact kk z M' hpost H1 locs1 ls hP1 hS1 hl
theorem tu_callSV (pc : Nat) (X : tu_X T cc own fr lo) {Y : tu_Y} {idx n : Nat} {as : List tu_v} {post : tu_M → Prop} (hM : tu_MV Y as M post) (hs : tu_sS own idx Y n) (hd : decode cc pc = .ok (.invokestatic idx, 3)) (hn : as.length = n) (hlen : st.length ≤ 4) (hroom : Y.2.2.2.2.1 + 1 ≤ fr ∧ 8 + (Y.2.2.1 + 11) + Y.2.2.2.2.2 ≤ lo)
    (kk : ∀ (M' : tu_M), post M' → tu_W T (pc + 3) lv st M') : tu_W T pc lv (as.reverse ++ st) M := by
  obtain ⟨p, l, e, R, s, m, args, below, meth, c, nL, g, ad, kc, ks, Q⟩ := T
  obtain ⟨hx, hb, hml, hown, hts, hK, hI, hst, hfr, hlo, hkc, hks⟩ := X
  intro H locs ls hP hS hl
  obtain ⟨⟨hl0, hstt, hini, hco⟩, hd3⟩ := hs
  have hr : Y.2.2.2.2.1 + 1 ≤ R.frames ∧ 8 + (Y.2.2.1 + 11) + Y.2.2.2.2.2 ≤ R.locals := ⟨Nat.le_trans hroom.1 hfr, Nat.le_trans hroom.2 hlo⟩
  have e1 : (as.reverse ++ st).map (tu_vl ad) = (as.map (tu_vl ad)).reverse ++ st.map (tu_vl ad) := by simp [List.map_reverse]
  rw [e1]
  refine va_callv (A1 := tu_A ad) (a := (as.map (tu_vl ad)).toArray) (va_runS (cc := cc) (nL := nL) (Ts := tu_tb) (own := own) (As := as.map (tu_vl ad)) (rest := st.map (tu_vl ad)) ⟨hx, hb, hml, hown, hts⟩ (hM l g ad) ⟨tu_cB hts hco hini hl0 hd3 hr, hts _ hstt⟩ ⟨tu_blind, tu_pre (av := as) hK hI hst hP hS⟩ rfl (by simpa using hn) hl.1 rfl (tu_room st ad hlen) hd ⟨by omega, by omega⟩) hS (fun q _ h => h) (fun q h => h) (fun M' t H1 locs1 ht hvm hpost hB hz hk hS1 => ?_)
  obtain ⟨hP1, -, -, -⟩ := hB
  rw [ht] at hP1
  exact kk M' hpost H1 locs1 ls hP1 hS1 hl
end TC
end
section
/-! rows of the library's members, of the static tables, of longs; jumps -/
section TD
variable {T : tu_T} {cc : ByteArray} {own : String} {fr lo : Nat} {lv : List (Nat × tu_v)} {st : List tu_v} {M : tu_M}
theorem tu_n1 : Cond.native arraycopyName ∈ tu_tb := tu_tb_in 67 rfl rfl
theorem tu_n2 : Cond.static arraycopyName ∈ tu_tb := tu_tb_in 66 rfl rfl
theorem tu_n3 : Cond.initialized "java/lang/System" ∈ tu_tb := tu_tb_in 44 rfl rfl
theorem tu_n4 : Cond.initialized "java/lang/Math" ∈ tu_tb := tu_tb_in 48 rfl rfl
theorem tu_n5 : Cond.static Lib.Math.min.name ∈ tu_tb := tu_tb_in 381 rfl rfl
theorem tu_n6 : Cond.code Lib.Math.min.name Lib.Math.min.code 2 (some .int) ∈ tu_tb := tu_tb_in 382 (by decide +kernel) rfl
theorem tu_n7 : Cond.static Lib.Math.max.name ∈ tu_tb := tu_tb_in 408 rfl rfl
theorem tu_n8 : Cond.code Lib.Math.max.name Lib.Math.max.code 2 (some .int) ∈ tu_tb := tu_tb_in 409 (by decide +kernel) rfl
theorem tu_J0 {z : Int} {n : Nat} (h : z = (n : Int)) (hn : n < 2147483648) : ¬ tu_J z < 0 := by
  subst h; rw [tu_J_n]; exact nI_pos (by omega)
theorem tu_cl' {j : Int} {k : Nat} (hj : j = (k : Int)) (hk : k < 2147483648) : (tu_J j).toNatClampNeg = k := by
  subst hj; rw [tu_J_n]; exact nI_clamp (by omega)
theorem tu_cpy (f g : Nat → Int) (sp dp n : Nat) : va_cpy (fun j => tu_J (f j)) (fun j => tu_J (g j)) sp dp n = fun j => tu_J (va_cpy f g sp dp n j) := by
  funext j
  unfold va_cpy
  split <;> rfl
theorem tu_sum (l : List tu_v) (ad : Nat → Nat) (h : l.length ≤ 4) : ((l.map (tu_vl ad)).map fun v => v.category).sum ≤ 8 := by
  have hc : ∀ v : Value, v.category ≤ 2 := fun v => by rcases lv_cat v with h | h <;> omega
  have h2 : ∀ l : List Value, (l.map fun v => v.category).sum ≤ 2 * l.length := by
    intro l
    induction l with
    | nil => exact Nat.zero_le _
    | cons a l ih =>
      have := hc a
      simp only [List.map_cons, List.sum_cons, List.length_cons]
      omega
  have := h2 (l.map (tu_vl ad))
  rw [List.length_map] at this
  omega
theorem tu_copy (pc : Nat) (X : tu_X T cc own fr lo) {idx i0 i1 n0 n1 : Nat} {sp dp n : Int} {M' : tu_M} (a b k : Nat) (hw : Cond.methodLink own idx arraycopyName ∈ tu_tb) (hd : decode cc pc = .ok (.invokestatic idx, 3)) (h0 : i0 < 97) (h1 : i1 < 97) (hs0 : tu_sh i0 = (0, n0, [])) (hs1 : tu_sh i1 = (0, n1, [])) (hn0 : n0 < 2147483648) (hn1 : n1 < 2147483648) (ha : sp = (a : Int)) (hb2 : dp = (b : Int)) (hk : n = (k : Int)) (h4 : a + k ≤ n0) (h5 : b + k ≤ n1) (hM : tu_row M i1 (va_cpy (M i0) (M i1) a b k) = M') (hlen : st.length ≤ 4) (hfr1 : 1 ≤ fr) (hlo1 : 8 + (nativeFrameWords "java/lang/System" "arraycopy" 5 + 11) ≤ lo)
    (kk : tu_W T (pc + 3) lv st M') : tu_W T pc lv (tu_i n :: tu_i dp :: tu_r i1 :: tu_i sp :: tu_r i0 :: st) M := by
  obtain ⟨p, l, e, R, s, m, args, below, meth, c, nL, g, ad, kc, ks, Q⟩ := T
  obtain ⟨hx, hb, hml, hown, hts, hK, hI, hst, hfr, hlo, hkc, hks⟩ := X
  intro H locs ls hP hS hl
  subst hM
  have hsum := tu_sum st ad hlen
  refine va_copyi (sp := tu_J sp) (dp := tu_J dp) (n := tu_J n) hx hb (hml.trans hl.1.symm) hown (hts _ hw) (hts _ tu_n1) (hts _ tu_n2) (hts _ tu_n3) hK hP (tu_D hI) hS i0 i1 0 0 (by rw [tu_ws_at h0, tu_ce0 hs0]) (by rw [tu_ws_at h1, tu_ce0 hs1]) rfl rfl rfl (tu_J0 ha (by omega)) (tu_J0 hb2 (by omega)) (tu_J0 hk (by omega)) (by rw [tu_cl' ha (by omega), tu_cl' hk (by omega)]; exact h4) (by rw [tu_cl' hb2 (by omega), tu_cl' hk (by omega)]; exact h5) (fun _ _ => rfl) (by omega) (by omega) hd (fun H1 locs1 hP1 _ hS1 => kk H1 locs1 ls ?_ hS1 hl)
  rw [tu_cl' ha (by omega), tu_cl' hb2 (by omega), tu_cl' hk (by omega), tu_cpy] at hP1
  rw [tu_ws_set (f := va_cpy (M i0) (M i1) a b k)] at hP1
  · exact hP1
  · rw [tu_ce0 hs1]
theorem tu_mmin (pc : Nat) (X : tu_X T cc own fr lo) {idx : Nat} {a b : Int} (hw : Cond.methodLink own idx Lib.Math.min.name ∈ tu_tb) (hd : decode cc pc = .ok (.invokestatic idx, 3)) (ha : tu_rg a) (hb2 : tu_rg b) (hlen : st.length ≤ 4) (hfr1 : 1 ≤ fr) (hlo1 : 21 ≤ lo)
    (kk : tu_W T (pc + 3) lv (tu_i (min a b) :: st) M) : tu_W T pc lv (tu_i b :: tu_i a :: st) M := by
  obtain ⟨p, l, e, R, s, m, args, below, meth, c, nL, g, ad, kc, ks, Q⟩ := T
  obtain ⟨hx, hb, hml, hown, hts, hK, hI, hst, hfr, hlo, hkc, hks⟩ := X
  intro H locs ls hP hS hl
  have hsum := tu_sum st ad hlen
  have h := kk H locs ls hP hS hl
  refine va_mmin (x := tu_J a) (y := tu_J b) hx hb (hml.trans hl.1.symm) hown (hts _ hw) (hts _ tu_n5) (hts _ tu_n4) (hts _ tu_n6) (by omega) (by omega) hkc hks hd ?_
  have e1 : (if tu_J b < tu_J a then tu_J b else tu_J a) = tu_J (min a b) := by
    by_cases q : b < a
    · rw [if_pos ((tu_J_lt hb2 ha).mpr q), Int.min_eq_right (by omega)]
    · rw [if_neg (fun z => q ((tu_J_lt hb2 ha).mp z)), Int.min_eq_left (by omega)]
  rw [e1]
  exact h
theorem tu_mmax (pc : Nat) (X : tu_X T cc own fr lo) {idx : Nat} {a b : Int} (hw : Cond.methodLink own idx Lib.Math.max.name ∈ tu_tb) (hd : decode cc pc = .ok (.invokestatic idx, 3)) (ha : tu_rg a) (hb2 : tu_rg b) (hlen : st.length ≤ 4) (hfr1 : 1 ≤ fr) (hlo1 : 21 ≤ lo)
    (kk : tu_W T (pc + 3) lv (tu_i (max a b) :: st) M) : tu_W T pc lv (tu_i b :: tu_i a :: st) M := by
  obtain ⟨p, l, e, R, s, m, args, below, meth, c, nL, g, ad, kc, ks, Q⟩ := T
  obtain ⟨hx, hb, hml, hown, hts, hK, hI, hst, hfr, hlo, hkc, hks⟩ := X
  intro H locs ls hP hS hl
  have hsum := tu_sum st ad hlen
  have h := kk H locs ls hP hS hl
  refine va_mmax (x := tu_J a) (y := tu_J b) hx hb (hml.trans hl.1.symm) hown (hts _ hw) (hts _ tu_n7) (hts _ tu_n4) (hts _ tu_n8) (by omega) (by omega) hkc hks hd ?_
  have e1 : (if tu_J a < tu_J b then tu_J b else tu_J a) = tu_J (max a b) := by
    by_cases q : a < b
    · rw [if_pos ((tu_J_lt ha hb2).mpr q), Int.max_eq_right (by omega)]
    · rw [if_neg (fun z => q ((tu_J_lt ha hb2).mp z)), Int.max_eq_left (by omega)]
  rw [e1]
  exact h
theorem tu_gets1 (pc : Nat) (X : tu_X T cc own fr lo) {idx : Nat} (hw : Cond.fieldLink own idx RX3 "LEAST_VALUES" "[I" ∈ tu_tb) (hd : decode cc pc = .ok (.getstatic idx, 3)) (kk : tu_W T (pc + 3) lv (tu_r 97 :: st) M) : tu_W T pc lv st M := by
  obtain ⟨p, l, e, R, s, m, args, below, meth, c, nL, g, ad, kc, ks, Q⟩ := T
  obtain ⟨hx, hb, hml, hown, hts, hK, hI, hst, hfr, hlo, hkc, hks⟩ := X
  intro H locs ls hP hS hl
  exact va_gets hx hb hst.1.1 hS hown (hts _ hw) (fun _ h => h) hd (kk H locs ls hP hS hl)
theorem tu_gets2 (pc : Nat) (X : tu_X T cc own fr lo) {idx : Nat} (hw : Cond.fieldLink own idx RX3 "GREATEST_VALUES" "[I" ∈ tu_tb) (hd : decode cc pc = .ok (.getstatic idx, 3)) (kk : tu_W T (pc + 3) lv (tu_r 98 :: st) M) : tu_W T pc lv st M := by
  obtain ⟨p, l, e, R, s, m, args, below, meth, c, nL, g, ad, kc, ks, Q⟩ := T
  obtain ⟨hx, hb, hml, hown, hts, hK, hI, hst, hfr, hlo, hkc, hks⟩ := X
  intro H locs ls hP hS hl
  exact va_gets hx hb hst.2.1 hS hown (hts _ hw) (fun _ h => h) hd (kk H locs ls hP hS hl)
theorem tu_tald1 (pc : Nat) (X : tu_X T cc own fr lo) {j : Int} (q : Nat) (hd : decode cc pc = .ok (.iaload, 1)) (hj : j = (q : Int)) (hq : q < 4) (kk : tu_W T (pc + 1) lv (tu_i (tu_f1 q) :: st) M) : tu_W T pc lv (tu_i j :: tu_r 97 :: st) M := by
  obtain ⟨p, l, e, R, s, m, args, below, meth, c, nL, g, ad, kc, ks, Q⟩ := T
  obtain ⟨hx, hb, hml, hown, hts, hK, hI, hst, hfr, hlo, hkc, hks⟩ := X
  intro H locs ls hP hS hl
  exact va_ti hx hb hst.1.2 hS (tu_in hj hq (by decide)) (v := .int (tu_J (tu_f1 q))) (by rw [tu_cl hj hq (by decide)]) hd (kk H locs ls hP hS hl)
theorem tu_tald2 (pc : Nat) (X : tu_X T cc own fr lo) {j : Int} (q : Nat) (hd : decode cc pc = .ok (.iaload, 1)) (hj : j = (q : Int)) (hq : q < 4) (kk : tu_W T (pc + 1) lv (tu_i (tu_f2 q) :: st) M) : tu_W T pc lv (tu_i j :: tu_r 98 :: st) M := by
  obtain ⟨p, l, e, R, s, m, args, below, meth, c, nL, g, ad, kc, ks, Q⟩ := T
  obtain ⟨hx, hb, hml, hown, hts, hK, hI, hst, hfr, hlo, hkc, hks⟩ := X
  intro H locs ls hP hS hl
  exact va_ti hx hb hst.2.2 hS (tu_in hj hq (by decide)) (v := .int (tu_J (tu_f2 q))) (by rw [tu_cl hj hq (by decide)]) hd (kk H locs ls hP hS hl)
/-! longs, as numbers below 2^64 -/
def tu_n64 (x : Int64) : Nat := x.toBitVec.toNat
theorem tu_n64_K (x : Int64) : tu_K (tu_n64 x) = x := by
  apply Int64.toBitVec_inj.mp
  simp [tu_K, tu_n64]
theorem tu_n64_lt (x : Int64) : tu_n64 x < 18446744073709551616 := x.toBitVec.isLt
theorem tu_K_b (u : Nat) : (tu_K u).toBitVec = BitVec.ofNat 64 u := by simp [tu_K]
theorem tu_rawL {ad : Nat → Nat} {x : Int64} {st : List tu_v} : (tu_l (tu_n64 x) :: st).map (tu_vl ad) = .long x :: st.map (tu_vl ad) := by
  show Value.long (tu_K (tu_n64 x)) :: _ = _
  rw [tu_n64_K]
theorem tu_land (pc : Nat) (X : tu_X T cc own fr lo) {a b : Nat} (hd : decode cc pc = .ok (.land, 1)) (kk : tu_W T (pc + 1) lv (tu_l (a &&& b) :: st) M) : tu_W T pc lv (tu_l b :: tu_l a :: st) M := by
  obtain ⟨p, l, e, R, s, m, args, below, meth, c, nL, g, ad, kc, ks, Q⟩ := T
  obtain ⟨hx, hb, hml, hown, hts, hK, hI, hst, hfr, hlo, hkc, hks⟩ := X
  intro H locs ls hP hS hl
  have h := kk H locs ls hP hS hl
  have e1 : tu_K (a &&& b) = tu_K a &&& tu_K b := by
    apply Int64.toBitVec_inj.mp
    rw [Int64.toBitVec_and, tu_K_b, tu_K_b, tu_K_b]
    apply BitVec.eq_of_toNat_eq
    simp [Nat.and_mod_two_pow]
  rw [show (tu_l (a &&& b) :: st).map (tu_vl ad) = .long (tu_K a &&& tu_K b) :: st.map (tu_vl ad) from by rw [← e1]; rfl] at h
  exact lv_land hx hb hd h
theorem tu_lushr (pc : Nat) (X : tu_X T cc own fr lo) {a : Nat} {b : Int} (k : Nat) (hd : decode cc pc = .ok (.lushr, 1)) (ha : a < 18446744073709551616) (hb2 : b = (k : Int)) (hk : k < 64) (kk : tu_W T (pc + 1) lv (tu_l (a / 2 ^ k) :: st) M) : tu_W T pc lv (tu_i b :: tu_l a :: st) M := by
  obtain ⟨p, l, e, R, s, m, args, below, meth, c, nL, g, ad, kc, ks, Q⟩ := T
  obtain ⟨hx, hb, hml, hown, hts, hK, hI, hst, hfr, hlo, hkc, hks⟩ := X
  intro H locs ls hP hS hl
  have h := kk H locs ls hP hS hl
  subst hb2
  have e0 : ∀ k : Nat, k < 64 → (((nI k).toInt64.toUInt64 &&& Int64.toUInt64 63).toBitVec % 64).toNat = k := by decide +kernel
  have e1 : ((tu_K a).toUInt64 >>> ((tu_J (k : Int)).toInt64.toUInt64 &&& Int64.toUInt64 63)).toInt64 = tu_K (a / 2 ^ k) := by
    apply Int64.toBitVec_inj.mp
    apply BitVec.eq_of_toNat_eq
    rw [tu_J_n]
    have e2 := e0 k hk
    have e3 : a / 2 ^ k < 18446744073709551616 := Nat.lt_of_le_of_lt (Nat.div_le_self _ _) ha
    simp only [UInt64.toBitVec_toInt64, UInt64.toBitVec_shiftRight, BitVec.ushiftRight_eq', BitVec.toNat_ushiftRight, Nat.shiftRight_eq_div_pow, tu_K_b, BitVec.toNat_ofNat]
    rw [e2]
    rw [show (tu_K a).toUInt64.toBitVec.toNat = a % 2 ^ 64 from by rw [show (tu_K a).toUInt64.toBitVec = (tu_K a).toBitVec from rfl, tu_K_b, BitVec.toNat_ofNat]]
    rw [Nat.mod_eq_of_lt (by omega), Nat.mod_eq_of_lt (by omega)]
  exact lv_lushr (v := tu_K (a / 2 ^ k)) hx hb hd e1 h
def tu_lc (a b : Nat) : Int := (lg_cmp (tu_K a) (tu_K b)).toInt
theorem tu_lcmp (pc : Nat) (X : tu_X T cc own fr lo) {a b : Nat} (hd : decode cc pc = .ok (.lcmp, 1)) (kk : tu_W T (pc + 1) lv (tu_i (tu_lc a b) :: st) M) : tu_W T pc lv (tu_l b :: tu_l a :: st) M := by
  obtain ⟨p, l, e, R, s, m, args, below, meth, c, nL, g, ad, kc, ks, Q⟩ := T
  obtain ⟨hx, hb, hml, hown, hts, hK, hI, hst, hfr, hlo, hkc, hks⟩ := X
  intro H locs ls hP hS hl
  have h := kk H locs ls hP hS hl
  rw [show (tu_i (tu_lc a b) :: st).map (tu_vl ad) = _ from tu_raw] at h
  exact W.lcmp hx hb hd h
theorem tu_l2i (pc : Nat) (X : tu_X T cc own fr lo) {a : Nat} (hd : decode cc pc = .ok (.l2i, 1)) (kk : tu_W T (pc + 1) lv (tu_i (a : Int) :: st) M) : tu_W T pc lv (tu_l a :: st) M := by
  obtain ⟨p, l, e, R, s, m, args, below, meth, c, nL, g, ad, kc, ks, Q⟩ := T
  obtain ⟨hx, hb, hml, hown, hts, hK, hI, hst, hfr, hlo, hkc, hks⟩ := X
  intro H locs ls hP hS hl
  have h := kk H locs ls hP hS hl
  exact lv_l2i (v := tu_J (a : Int)) hx hb hd (by rw [tu_J_n]; exact lN_i a) h
theorem tu_i2c (pc : Nat) (X : tu_X T cc own fr lo) {a : Int} (k : Nat) (hd : decode cc pc = .ok (.i2c, 1)) (ha : a = (k : Int)) (hk : k < 65536) (kk : tu_W T (pc + 1) lv (tu_i a :: st) M) : tu_W T pc lv (tu_i a :: st) M := by
  obtain ⟨p, l, e, R, s, m, args, below, meth, c, nL, g, ad, kc, ks, Q⟩ := T
  obtain ⟨hx, hb, hml, hown, hts, hK, hI, hst, hfr, hlo, hkc, hks⟩ := X
  intro H locs ls hP hS hl
  have h := kk H locs ls hP hS hl
  subst ha
  refine lv_i2c (v := tu_J (k : Int)) hx hb hd ?_ h
  rw [pk_char, tu_J_n, pk_tn (by omega), Nat.mod_eq_of_lt hk]
theorem tu_i2l (pc : Nat) (X : tu_X T cc own fr lo) {a : Int} (hd : decode cc pc = .ok (.i2l, 1)) (kk : tu_W T (pc + 1) lv (tu_l (tu_n64 (tu_J a).toInt64) :: st) M) : tu_W T pc lv (tu_i a :: st) M := by
  obtain ⟨p, l, e, R, s, m, args, below, meth, c, nL, g, ad, kc, ks, Q⟩ := T
  obtain ⟨hx, hb, hml, hown, hts, hK, hI, hst, hfr, hlo, hkc, hks⟩ := X
  intro H locs ls hP hS hl
  have h := kk H locs ls hP hS hl
  rw [show (tu_l (tu_n64 (tu_J a).toInt64) :: st).map (tu_vl ad) = _ from tu_rawL] at h
  exact lv_i2l hx hb hd rfl h
/-! jumps: other listed locals, the memory in another form -/
def tu_pk (lv : List (Nat × tu_v)) : List Nat → List (Nat × tu_v) → Prop
  | [], [] => True
  | p :: ps, q :: qs => lv[p]? = some q ∧ tu_pk lv ps qs
  | _, _ => False
theorem tu_ei {i : Nat} {x y : Int} (h : x = y) : some (i, tu_i x) = some (i, tu_i y) := by rw [h]
theorem tu_el {i : Nat} {x y : Nat} (h : x = y) : some (i, tu_l x) = some (i, tu_l y) := by rw [h]
theorem tu_pk_in {lv : List (Nat × tu_v)} : ∀ {ps : List Nat} {l : List (Nat × tu_v)}, tu_pk lv ps l → ∀ q ∈ l, q ∈ lv
  | [], [], _, q, h => by cases h
  | p :: ps, a :: l, h, q, hq => by
    rcases List.mem_cons.mp hq with rfl | hq
    · exact List.mem_of_getElem? h.1
    · exact tu_pk_in h.2 q hq
  | [], _ :: _, h, _, _ => h.elim
  | _ :: _, [], h, _, _ => h.elim
theorem tu_jmp {pc : Nat} {lv' : List (Nat × tu_v)} {M' : tu_M} (ps : List Nat) (hp : tu_pk lv ps lv') (hM : M = M') (kk : tu_W T pc lv' st M') : tu_W T pc lv st M := by
  obtain ⟨p, l, e, R, s, m, args, below, meth, c, nL, g, ad, kc, ks, Q⟩ := T
  subst hM
  intro H locs ls hP hS hl
  refine kk H locs ls hP hS ⟨hl.1, hl.2.1, fun q hq => ?_⟩
  obtain ⟨a, ha, rfl⟩ := List.mem_map.mp hq
  exact hl.2.2 _ (List.mem_map.mpr ⟨a, tu_pk_in hp a ha, rfl⟩)
theorem tu_st_eq {pc : Nat} {st' : List tu_v} {M' : tu_M} (h : st = st') (hM : M = M') (kk : tu_W T pc lv st' M') : tu_W T pc lv st M := by subst h; subst hM; exact kk
theorem tu_tp {pc : Nat} {a b : Int} (h : a = b) (kk : tu_W T pc lv (tu_i b :: st) M) : tu_W T pc lv (tu_i a :: st) M := by subst h; exact kk
end TD
/-! truth values -/
def tu_b (c : Prop) [Decidable c] : Int := if c then 1 else 0
theorem tu_b1 {c : Prop} [Decidable c] (h : c) : tu_b c = 1 := if_pos h
theorem tu_b0 {c : Prop} [Decidable c] (h : ¬ c) : tu_b c = 0 := if_neg h
theorem tu_b_rg {c : Prop} [Decidable c] : tu_rg (tu_b c) := by
  unfold tu_b; split <;> exact ⟨by decide, by decide⟩
theorem tu_b_01 {c : Prop} [Decidable c] : tu_b c = 0 ∨ tu_b c = 1 := by unfold tu_b; split <;> simp
theorem tu_b_e0 {c : Prop} [Decidable c] (h : tu_b c = 0) : ¬ c := fun z => by rw [tu_b1 z] at h; cases h
theorem tu_b_n0 {c : Prop} [Decidable c] (h : tu_b c ≠ 0) : c := Decidable.byContradiction fun z => h (tu_b0 z)
end
section
def tu_Y_X0_takeOver : tu_Y := (yX0_takeOver, cX0_takeOver, 2, none, 1, 40)
def tu_Y_X0_hasLine : tu_Y := (yX0_hasLine, cX0_hasLine, 2, (some .boolean), 0, 0)
def tu_Y_X0_hasPhrase : tu_Y := (yX0_hasPhrase, cX0_hasPhrase, 2, (some .boolean), 0, 0)
def tu_Y_X0_hasSyllable : tu_Y := (yX0_hasSyllable, cX0_hasSyllable, 3, (some .boolean), 1, 21)
def tu_Y_X0_hasBeat : tu_Y := (yX0_hasBeat, cX0_hasBeat, 3, (some .boolean), 1, 21)
def tu_Y_X0_beginPart : tu_Y := (yX0_beginPart, cX0_beginPart, 2, none, 0, 0)
def tu_Y_X0_addSign : tu_Y := (yX0_addSign, cX0_addSign, 2, none, 1, 22)
def tu_Y_X0_addSyllable : tu_Y := (yX0_addSyllable, cX0_addSyllable, 3, none, 0, 0)
def tu_Y_X0_addBeat : tu_Y := (yX0_addBeat, cX0_addBeat, 3, none, 0, 0)
def tu_Y_X0_removeLine : tu_Y := (yX0_removeLine, cX0_removeLine, 3, none, 1, 40)
def tu_Y_X0_removePhrase : tu_Y := (yX0_removePhrase, cX0_removePhrase, 3, none, 1, 40)
def tu_Y_X0_withoutNumber : tu_Y := (yX0_withoutNumber, cX0_withoutNumber, 5, (some .int), 0, 0)
def tu_Y_X0_addToBallad : tu_Y := (yX0_addToBallad, cX0_addToBallad, 2, none, 0, 0)
def tu_Y_X0_addToTune : tu_Y := (yX0_addToTune, cX0_addToTune, 2, none, 0, 0)
def tu_Y_X0_timesSung : tu_Y := (yX0_timesSung, cX0_timesSung, 2, (some .int), 1, 24)
def tu_Y_X0_timesPlayed : tu_Y := (yX0_timesPlayed, cX0_timesPlayed, 2, (some .int), 1, 24)
def tu_Y_X0_timesIn : tu_Y := (yX0_timesIn, cX0_timesIn, 5, (some .int), 0, 0)
def tu_Y_X0_burdens : tu_Y := (yX0_burdens, cX0_burdens, 3, (some .int), 2, 45)
def tu_Y_X0_stressedOf : tu_Y := (yX0_stressedOf, cX0_stressedOf, 4, (some .int), 0, 0)
def tu_Y_X0_beatsOfKind : tu_Y := (yX0_beatsOfKind, cX0_beatsOfKind, 5, (some .int), 0, 0)
def tu_Y_X0_longestRow : tu_Y := (yX0_longestRow, cX0_longestRow, 5, (some .int), 1, 21)
def tu_Y_X1_take : tu_Y := (yX1_take, cX1_take, 5, none, 1, 40)
def tu_Y_X1_turnStress : tu_Y := (yX1_turnStress, cX1_turnStress, 2, none, 0, 0)
def tu_Y_X1_leastCost : tu_Y := (yX1_leastCost, cX1_leastCost, 5, (some .int), 2, 45)
def tu_Y_X1_mostHeld : tu_Y := (yX1_mostHeld, cX1_mostHeld, 2, (some .int), 1, 21)
def tu_Y_X1_hurts : tu_Y := (yX1_hurts, cX1_hurts, 3, (some .boolean), 0, 0)
def tu_Y_X1_costOfFree : tu_Y := (yX1_costOfFree, cX1_costOfFree, 3, (some .int), 0, 0)
def tu_Y_X1_costOfHeld : tu_Y := (yX1_costOfHeld, cX1_costOfHeld, 4, (some .int), 1, 22)
def tu_Y_X1_countWays : tu_Y := (yX1_countWays, cX1_countWays, 4, (some .int), 3, 71)
def tu_Y_X1_waysFrom : tu_Y := (yX1_waysFrom, cX1_waysFrom, 7, (some .int), 2, 45)
def tu_Y_X1_findBestWay : tu_Y := (yX1_findBestWay, cX1_findBestWay, 3, none, 3, 68)
def tu_Y_X1_heldByBestWay : tu_Y := (yX1_heldByBestWay, cX1_heldByBestWay, 4, (some .int), 2, 45)
def tu_Y_X1_freeBeats : tu_Y := (yX1_freeBeats, cX1_freeBeats, 3, (some .int), 4, 90)
def tu_Y_X1_hurtSyllables : tu_Y := (yX1_hurtSyllables, cX1_hurtSyllables, 3, (some .int), 4, 90)
def tu_Y_X2_isSyllable : tu_Y := (yX2_isSyllable, cX2_isSyllable, 1, (some .boolean), 0, 0)
def tu_Y_X2_isBeat : tu_Y := (yX2_isBeat, cX2_isBeat, 1, (some .boolean), 0, 0)
def tu_Y_X2_signsIn : tu_Y := (yX2_signsIn, cX2_signsIn, 7, (some .int), 0, 0)
def tu_Y_X2_append : tu_Y := (yX2_append, cX2_append, 5, none, 0, 0)
def tu_Y_X2_beginsPart : tu_Y := (yX2_beginsPart, cX2_beginsPart, 2, (some .boolean), 0, 0)
def tu_Y_X2_parts : tu_Y := (yX2_parts, cX2_parts, 3, (some .int), 1, 21)
def tu_Y_X2_phraseParts : tu_Y := (yX2_phraseParts, cX2_phraseParts, 3, (some .int), 0, 0)
def tu_Y_X2_faultPlace : tu_Y := (yX2_faultPlace, cX2_faultPlace, 5, (some .int), 1, 20)
def tu_Y_X3_set : tu_Y := (yX3_set, cX3_set, 4, (some .int), 3, 83)
def tu_Y_X3_write : tu_Y := (yX3_write, cX3_write, 4, (some .int), 3, 83)
def tu_Y_X3_dropLine : tu_Y := (yX3_dropLine, cX3_dropLine, 2, (some .int), 3, 83)
def tu_Y_X3_dropPhrase : tu_Y := (yX3_dropPhrase, cX3_dropPhrase, 2, (some .int), 3, 83)
def tu_Y_X3_stress : tu_Y := (yX3_stress, cX3_stress, 6, (some .int), 3, 83)
def tu_Y_X3_beat : tu_Y := (yX3_beat, cX3_beat, 6, (some .int), 3, 83)
def tu_Y_X3_sing : tu_Y := (yX3_sing, cX3_sing, 2, (some .int), 3, 83)
def tu_Y_X3_play : tu_Y := (yX3_play, cX3_play, 2, (some .int), 3, 83)
def tu_Y_X3_verse : tu_Y := (yX3_verse, cX3_verse, 5, (some .int), 3, 83)
def tu_Y_X3_clear : tu_Y := (yX3_clear, cX3_clear, 3, (some .int), 3, 83)
def tu_Y_X3_line : tu_Y := (yX3_line, cX3_line, 3, (some .int), 5, 116)
def tu_Y_X3_phrase : tu_Y := (yX3_phrase, cX3_phrase, 3, (some .int), 2, 45)
def tu_Y_X3_isStressed : tu_Y := (yX3_isStressed, cX3_isStressed, 3, (some .int), 2, 43)
def tu_Y_X3_kindOf : tu_Y := (yX3_kindOf, cX3_kindOf, 3, (some .int), 2, 43)
def tu_Y_X3_count : tu_Y := (yX3_count, cX3_count, 2, (some .int), 3, 67)
def tu_Y_X3_at : tu_Y := (yX3_at, cX3_at, 3, (some .int), 0, 0)
def tu_Y_X3_fit : tu_Y := (yX3_fit, cX3_fit, 5, (some .int), 5, 112)
def tu_Y_X3_lies : tu_Y := (yX3_lies, cX3_lies, 5, (some .int), 4, 91)
def tu_Y_X3_whole : tu_Y := (yX3_whole, cX3_whole, 10, (some .int), 4, 91)
def tu_Y_X3_bestPhrase : tu_Y := (yX3_bestPhrase, cX3_bestPhrase, 10, (some .int), 4, 91)
def tu_Y_X3_bestChange : tu_Y := (yX3_bestChange, cX3_bestChange, 8, (some .int), 3, 69)
def tu_Y_X3_enoughBreath : tu_Y := (yX3_enoughBreath, cX3_enoughBreath, 7, (some .int), 3, 69)
def tu_Y_X3_put : tu_Y := (yX3_put, cX3_put, 4, (some .int), 1, 26)
def tu_Y_X3_wipe : tu_Y := (yX3_wipe, cX3_wipe, 2, (some .int), 0, 0)
def tu_Y_X3_fault : tu_Y := (yX3_fault, cX3_fault, 1, (some .int), 2, 44)
def tu_Y_X3_undo : tu_Y := (yX3_undo, cX3_undo, 1, (some .int), 2, 61)
def tu_Y_X3_save : tu_Y := (yX3_save, cX3_save, 2, (some .int), 2, 61)
def tu_Y_X3_restore : tu_Y := (yX3_restore, cX3_restore, 2, (some .int), 3, 83)
def tu_Y_X3_record : tu_Y := (yX3_record, cX3_record, 3, none, 2, 61)
def tu_Y_X3_leastCostOf : tu_Y := (yX3_leastCostOf, cX3_leastCostOf, 3, (some .int), 3, 69)
def tu_Y_X3_cheapestPhrase : tu_Y := (yX3_cheapestPhrase, cX3_cheapestPhrase, 6, (some .int), 4, 91)
def tu_Y_X4_moves : tu_Y := (yX4_moves, cX4_moves, 5, none, 0, 0)
def tu_Y_X4_within : tu_Y := (yX4_within, cX4_within, 3, (some .boolean), 0, 0)
def tu_Y_X4_has : tu_Y := (yX4_has, cX4_has, 2, (some .boolean), 0, 0)
def tu_Y_X4_bits : tu_Y := (yX4_bits, cX4_bits, 3, (some .int), 0, 0)
def tu_Y_X4_record : tu_Y := (yX4_record, cX4_record, 2, none, 1, 24)
def tu_Y_X4_isLine : tu_Y := (yX4_isLine, cX4_isLine, 2, (some .boolean), 1, 22)
def tu_Y_X4_isPhrase : tu_Y := (yX4_isPhrase, cX4_isPhrase, 2, (some .boolean), 1, 22)
def tu_Y_X4_lineLength : tu_Y := (yX4_lineLength, cX4_lineLength, 2, (some .int), 0, 0)
def tu_Y_X4_phraseLength : tu_Y := (yX4_phraseLength, cX4_phraseLength, 2, (some .int), 0, 0)
def tu_Y_X4_isSyllable : tu_Y := (yX4_isSyllable, cX4_isSyllable, 3, (some .boolean), 2, 43)
def tu_Y_X4_isBeat : tu_Y := (yX4_isBeat, cX4_isBeat, 3, (some .boolean), 2, 43)
def tu_Y_X4_sungTimes : tu_Y := (yX4_sungTimes, cX4_sungTimes, 4, (some .int), 0, 0)
def tu_Y_X4_playedTimes : tu_Y := (yX4_playedTimes, cX4_playedTimes, 4, (some .int), 0, 0)
def tu_Y_X4_look : tu_Y := (yX4_look, cX4_look, 3, none, 1, 21)
def tu_Y_X4_hurts : tu_Y := (yX4_hurts, cX4_hurts, 3, (some .boolean), 1, 21)
def tu_Y_X4_costOn : tu_Y := (yX4_costOn, cX4_costOn, 5, (some .int), 2, 43)
def tu_Y_X4_costFree : tu_Y := (yX4_costFree, cX4_costFree, 4, (some .int), 1, 21)
def tu_Y_X4_capped : tu_Y := (yX4_capped, cX4_capped, 1, (some .int), 0, 0)
def tu_Y_X4_takesIn : tu_Y := (yX4_takesIn, cX4_takesIn, 4, none, 1, 20)
def tu_Y_X4_findAt : tu_Y := (yX4_findAt, cX4_findAt, 5, none, 3, 67)
def tu_Y_X4_findCost : tu_Y := (yX4_findCost, cX4_findCost, 3, (some .int), 4, 91)
def tu_Y_X4_beatsFrom : tu_Y := (yX4_beatsFrom, cX4_beatsFrom, 4, (some .int), 3, 67)
def tu_Y_X4_findWay : tu_Y := (yX4_findWay, cX4_findWay, 3, none, 4, 90)
def tu_Y_X4_costOf : tu_Y := (yX4_costOf, cX4_costOf, 3, (some .int), 5, 113)
def tu_Y_X4_freeBeats : tu_Y := (yX4_freeBeats, cX4_freeBeats, 3, (some .int), 5, 112)
def tu_Y_X4_hurting : tu_Y := (yX4_hurting, cX4_hurting, 3, (some .int), 5, 112)
def tu_Y_X4_isValue : tu_Y := (yX4_isValue, cX4_isValue, 2, (some .boolean), 1, 22)
def tu_Y_X4_set : tu_Y := (yX4_set, cX4_set, 4, (some .int), 2, 45)
def tu_Y_X4_parts : tu_Y := (yX4_parts, cX4_parts, 5, (some .int), 0, 0)
def tu_Y_X4_writeLine : tu_Y := (yX4_writeLine, cX4_writeLine, 4, (some .int), 0, 0)
def tu_Y_X4_writePhrase : tu_Y := (yX4_writePhrase, cX4_writePhrase, 4, (some .int), 0, 0)
def tu_Y_X4_write : tu_Y := (yX4_write, cX4_write, 2, (some .int), 2, 45)
def tu_Y_X4_goes : tu_Y := (yX4_goes, cX4_goes, 7, (some .int), 0, 0)
def tu_Y_X4_dropLine : tu_Y := (yX4_dropLine, cX4_dropLine, 3, (some .int), 2, 45)
def tu_Y_X4_dropPhrase : tu_Y := (yX4_dropPhrase, cX4_dropPhrase, 3, (some .int), 2, 45)
def tu_Y_X4_stress : tu_Y := (yX4_stress, cX4_stress, 6, (some .int), 3, 65)
def tu_Y_X4_kindAt : tu_Y := (yX4_kindAt, cX4_kindAt, 3, (some .int), 1, 21)
def tu_Y_X4_beat : tu_Y := (yX4_beat, cX4_beat, 7, (some .int), 3, 65)
def tu_Y_X4_sings : tu_Y := (yX4_sings, cX4_sings, 2, none, 0, 0)
def tu_Y_X4_sing : tu_Y := (yX4_sing, cX4_sing, 2, (some .int), 2, 45)
def tu_Y_X4_play : tu_Y := (yX4_play, cX4_play, 2, (some .int), 2, 45)
def tu_Y_X4_verse : tu_Y := (yX4_verse, cX4_verse, 5, (some .int), 2, 45)
def tu_Y_X4_clear : tu_Y := (yX4_clear, cX4_clear, 4, (some .int), 2, 45)
def tu_Y_X4_cheapestPhrase : tu_Y := (yX4_cheapestPhrase, cX4_cheapestPhrase, 6, (some .int), 6, 135)
def tu_Y_X4_line : tu_Y := (yX4_line, cX4_line, 3, (some .int), 7, 160)
def tu_Y_X4_longestRow : tu_Y := (yX4_longestRow, cX4_longestRow, 5, (some .int), 2, 43)
def tu_Y_X4_phrase : tu_Y := (yX4_phrase, cX4_phrase, 5, (some .int), 3, 67)
def tu_Y_X4_isStressed : tu_Y := (yX4_isStressed, cX4_isStressed, 3, (some .int), 3, 65)
def tu_Y_X4_kindOf : tu_Y := (yX4_kindOf, cX4_kindOf, 3, (some .int), 3, 65)
def tu_Y_X4_burdens : tu_Y := (yX4_burdens, cX4_burdens, 3, (some .int), 1, 23)
def tu_Y_X4_count : tu_Y := (yX4_count, cX4_count, 2, (some .int), 2, 45)
def tu_Y_X4_at : tu_Y := (yX4_at, cX4_at, 3, (some .int), 1, 22)
def tu_Y_X4_fit : tu_Y := (yX4_fit, cX4_fit, 5, (some .int), 6, 135)
def tu_Y_X4_lies : tu_Y := (yX4_lies, cX4_lies, 5, (some .int), 6, 135)
def tu_Y_X4_phraseFor : tu_Y := (yX4_phraseFor, cX4_phraseFor, 2, (some .int), 0, 0)
def tu_Y_X4_whole : tu_Y := (yX4_whole, cX4_whole, 10, (some .int), 6, 135)
def tu_Y_X4_bestPhrase : tu_Y := (yX4_bestPhrase, cX4_bestPhrase, 9, (some .int), 6, 135)
def tu_Y_X4_bestChange : tu_Y := (yX4_bestChange, cX4_bestChange, 8, (some .int), 5, 113)
def tu_Y_X4_enoughBreath : tu_Y := (yX4_enoughBreath, cX4_enoughBreath, 7, (some .int), 5, 113)
def tu_Y_X4_put : tu_Y := (yX4_put, cX4_put, 8, (some .int), 1, 22)
def tu_Y_X4_wipe : tu_Y := (yX4_wipe, cX4_wipe, 2, (some .int), 0, 0)
def tu_Y_X4_findFault : tu_Y := (yX4_findFault, cX4_findFault, 9, (some .int), 0, 0)
def tu_Y_X4_fault : tu_Y := (yX4_fault, cX4_fault, 1, (some .int), 1, 28)
def tu_Y_X4_undo : tu_Y := (yX4_undo, cX4_undo, 1, (some .int), 1, 24)
def tu_Y_X4_save : tu_Y := (yX4_save, cX4_save, 2, (some .int), 1, 24)
def tu_Y_X4_restore : tu_Y := (yX4_restore, cX4_restore, 2, (some .int), 2, 45)
set_option maxRecDepth 20000 in
theorem co_X0_hasLine : Cond.code tu_Y_X0_hasLine.1 tu_Y_X0_hasLine.2.1 tu_Y_X0_hasLine.2.2.1 tu_Y_X0_hasLine.2.2.2.1 ∈ tu_tb := tu_tb_in 276 rfl rfl
set_option maxRecDepth 20000 in
theorem sv_RX0_55 : tu_sV RX0 55 tu_Y_X0_hasLine 1 := ⟨⟨tu_tb_in 304 rfl rfl, tu_tb_in 274 rfl rfl, tu_tb_in 275 rfl rfl, tu_tb_in 43 rfl rfl, co_X0_hasLine⟩, by decide, by decide, by decide⟩
set_option maxRecDepth 20000 in
theorem co_X0_hasPhrase : Cond.code tu_Y_X0_hasPhrase.1 tu_Y_X0_hasPhrase.2.1 tu_Y_X0_hasPhrase.2.2.1 tu_Y_X0_hasPhrase.2.2.2.1 ∈ tu_tb := tu_tb_in 291 rfl rfl
set_option maxRecDepth 20000 in
theorem sv_RX0_59 : tu_sV RX0 59 tu_Y_X0_hasPhrase 1 := ⟨⟨tu_tb_in 313 rfl rfl, tu_tb_in 289 rfl rfl, tu_tb_in 290 rfl rfl, tu_tb_in 43 rfl rfl, co_X0_hasPhrase⟩, by decide, by decide, by decide⟩
set_option maxRecDepth 20000 in
theorem co_X2_isSyllable : Cond.code tu_Y_X2_isSyllable.1 tu_Y_X2_isSyllable.2.1 tu_Y_X2_isSyllable.2.2.1 tu_Y_X2_isSyllable.2.2.2.1 ∈ tu_tb := tu_tb_in 234 rfl rfl
set_option maxRecDepth 20000 in
theorem ss_RX0_62 : tu_sS RX0 62 tu_Y_X2_isSyllable 1 := ⟨⟨tu_tb_in 259 rfl rfl, tu_tb_in 233 rfl rfl, tu_tb_in 45 rfl rfl, co_X2_isSyllable⟩, by decide, by decide, by decide⟩
set_option maxRecDepth 20000 in
theorem co_X0_addSyllable : Cond.code tu_Y_X0_addSyllable.1 tu_Y_X0_addSyllable.2.1 tu_Y_X0_addSyllable.2.2.1 tu_Y_X0_addSyllable.2.2.2.1 ∈ tu_tb := tu_tb_in 263 rfl rfl
set_option maxRecDepth 20000 in
theorem sv_RX0_68 : tu_sV RX0 68 tu_Y_X0_addSyllable 1 := ⟨⟨tu_tb_in 260 rfl rfl, tu_tb_in 261 rfl rfl, tu_tb_in 262 rfl rfl, tu_tb_in 43 rfl rfl, co_X0_addSyllable⟩, by decide, by decide, by decide⟩
set_option maxRecDepth 20000 in
theorem co_X2_isBeat : Cond.code tu_Y_X2_isBeat.1 tu_Y_X2_isBeat.2.1 tu_Y_X2_isBeat.2.2.1 tu_Y_X2_isBeat.2.2.2.1 ∈ tu_tb := tu_tb_in 237 rfl rfl
set_option maxRecDepth 20000 in
theorem ss_RX0_72 : tu_sS RX0 72 tu_Y_X2_isBeat 1 := ⟨⟨tu_tb_in 264 rfl rfl, tu_tb_in 236 rfl rfl, tu_tb_in 45 rfl rfl, co_X2_isBeat⟩, by decide, by decide, by decide⟩
set_option maxRecDepth 20000 in
theorem co_X0_addBeat : Cond.code tu_Y_X0_addBeat.1 tu_Y_X0_addBeat.2.1 tu_Y_X0_addBeat.2.2.1 tu_Y_X0_addBeat.2.2.2.1 ∈ tu_tb := tu_tb_in 268 rfl rfl
set_option maxRecDepth 20000 in
theorem sv_RX0_75 : tu_sV RX0 75 tu_Y_X0_addBeat 1 := ⟨⟨tu_tb_in 265 rfl rfl, tu_tb_in 266 rfl rfl, tu_tb_in 267 rfl rfl, tu_tb_in 43 rfl rfl, co_X0_addBeat⟩, by decide, by decide, by decide⟩
set_option maxRecDepth 20000 in
theorem co_X0_withoutNumber : Cond.code tu_Y_X0_withoutNumber.1 tu_Y_X0_withoutNumber.2.1 tu_Y_X0_withoutNumber.2.2.1 tu_Y_X0_withoutNumber.2.2.2.1 ∈ tu_tb := tu_tb_in 283 rfl rfl
set_option maxRecDepth 20000 in
theorem ss_RX0_78 : tu_sS RX0 78 tu_Y_X0_withoutNumber 3 := ⟨⟨tu_tb_in 281 rfl rfl, tu_tb_in 282 rfl rfl, tu_tb_in 43 rfl rfl, co_X0_withoutNumber⟩, by decide, by decide, by decide⟩
set_option maxRecDepth 20000 in
theorem co_X0_timesIn : Cond.code tu_Y_X0_timesIn.1 tu_Y_X0_timesIn.2.1 tu_Y_X0_timesIn.2.2.1 tu_Y_X0_timesIn.2.2.2.1 ∈ tu_tb := tu_tb_in 352 rfl rfl
set_option maxRecDepth 20000 in
theorem ss_RX0_82 : tu_sS RX0 82 tu_Y_X0_timesIn 3 := ⟨⟨tu_tb_in 350 rfl rfl, tu_tb_in 351 rfl rfl, tu_tb_in 43 rfl rfl, co_X0_timesIn⟩, by decide, by decide, by decide⟩
set_option maxRecDepth 20000 in
theorem co_X0_timesSung : Cond.code tu_Y_X0_timesSung.1 tu_Y_X0_timesSung.2.1 tu_Y_X0_timesSung.2.2.1 tu_Y_X0_timesSung.2.2.2.1 ∈ tu_tb := tu_tb_in 349 rfl rfl
set_option maxRecDepth 20000 in
theorem sv_RX0_85 : tu_sV RX0 85 tu_Y_X0_timesSung 1 := ⟨⟨tu_tb_in 426 rfl rfl, tu_tb_in 347 rfl rfl, tu_tb_in 348 rfl rfl, tu_tb_in 43 rfl rfl, co_X0_timesSung⟩, by decide, by decide, by decide⟩
set_option maxRecDepth 20000 in
theorem co_X1_costOfFree : Cond.code tu_Y_X1_costOfFree.1 tu_Y_X1_costOfFree.2.1 tu_Y_X1_costOfFree.2.2.1 tu_Y_X1_costOfFree.2.2.2.1 ∈ tu_tb := tu_tb_in 374 rfl rfl
set_option maxRecDepth 20000 in
theorem sv_RX1_71 : tu_sV RX1 71 tu_Y_X1_costOfFree 2 := ⟨⟨tu_tb_in 371 rfl rfl, tu_tb_in 373 rfl rfl, tu_tb_in 3 rfl rfl, tu_tb_in 46 rfl rfl, co_X1_costOfFree⟩, by decide, by decide, by decide⟩
set_option maxRecDepth 20000 in
theorem co_X1_mostHeld : Cond.code tu_Y_X1_mostHeld.1 tu_Y_X1_mostHeld.2.1 tu_Y_X1_mostHeld.2.2.1 tu_Y_X1_mostHeld.2.2.2.1 ∈ tu_tb := tu_tb_in 379 rfl rfl
set_option maxRecDepth 20000 in
theorem sv_RX1_76 : tu_sV RX1 76 tu_Y_X1_mostHeld 1 := ⟨⟨tu_tb_in 376 rfl rfl, tu_tb_in 378 rfl rfl, tu_tb_in 4 rfl rfl, tu_tb_in 46 rfl rfl, co_X1_mostHeld⟩, by decide, by decide, by decide⟩
set_option maxRecDepth 20000 in
theorem co_X1_costOfHeld : Cond.code tu_Y_X1_costOfHeld.1 tu_Y_X1_costOfHeld.2.1 tu_Y_X1_costOfHeld.2.2.1 tu_Y_X1_costOfHeld.2.2.2.1 ∈ tu_tb := tu_tb_in 386 rfl rfl
set_option maxRecDepth 20000 in
theorem sv_RX1_80 : tu_sV RX1 80 tu_Y_X1_costOfHeld 3 := ⟨⟨tu_tb_in 383 rfl rfl, tu_tb_in 385 rfl rfl, tu_tb_in 5 rfl rfl, tu_tb_in 46 rfl rfl, co_X1_costOfHeld⟩, by decide, by decide, by decide⟩
set_option maxRecDepth 20000 in
theorem co_X1_hurts : Cond.code tu_Y_X1_hurts.1 tu_Y_X1_hurts.2.1 tu_Y_X1_hurts.2.2.1 tu_Y_X1_hurts.2.2.2.1 ∈ tu_tb := tu_tb_in 390 rfl rfl
set_option maxRecDepth 20000 in
theorem sv_RX1_89 : tu_sV RX1 89 tu_Y_X1_hurts 2 := ⟨⟨tu_tb_in 387 rfl rfl, tu_tb_in 389 rfl rfl, tu_tb_in 6 rfl rfl, tu_tb_in 46 rfl rfl, co_X1_hurts⟩, by decide, by decide, by decide⟩
set_option maxRecDepth 20000 in
theorem co_X1_waysFrom : Cond.code tu_Y_X1_waysFrom.1 tu_Y_X1_waysFrom.2.1 tu_Y_X1_waysFrom.2.2.1 tu_Y_X1_waysFrom.2.2.2.1 ∈ tu_tb := tu_tb_in 442 rfl rfl
set_option maxRecDepth 20000 in
theorem sv_RX1_93 : tu_sV RX1 93 tu_Y_X1_waysFrom 3 := ⟨⟨tu_tb_in 439 rfl rfl, tu_tb_in 441 rfl rfl, tu_tb_in 7 rfl rfl, tu_tb_in 46 rfl rfl, co_X1_waysFrom⟩, by decide, by decide, by decide⟩
set_option maxRecDepth 20000 in
theorem co_X1_heldByBestWay : Cond.code tu_Y_X1_heldByBestWay.1 tu_Y_X1_heldByBestWay.2.1 tu_Y_X1_heldByBestWay.2.2.1 tu_Y_X1_heldByBestWay.2.2.2.1 ∈ tu_tb := tu_tb_in 454 rfl rfl
set_option maxRecDepth 20000 in
theorem sv_RX1_97 : tu_sV RX1 97 tu_Y_X1_heldByBestWay 2 := ⟨⟨tu_tb_in 451 rfl rfl, tu_tb_in 453 rfl rfl, tu_tb_in 8 rfl rfl, tu_tb_in 46 rfl rfl, co_X1_heldByBestWay⟩, by decide, by decide, by decide⟩
set_option maxRecDepth 20000 in
theorem co_X1_findBestWay : Cond.code tu_Y_X1_findBestWay.1 tu_Y_X1_findBestWay.2.1 tu_Y_X1_findBestWay.2.2.1 tu_Y_X1_findBestWay.2.2.2.1 ∈ tu_tb := tu_tb_in 450 rfl rfl
set_option maxRecDepth 20000 in
theorem sv_RX1_100 : tu_sV RX1 100 tu_Y_X1_findBestWay 0 := ⟨⟨tu_tb_in 447 rfl rfl, tu_tb_in 448 rfl rfl, tu_tb_in 449 rfl rfl, tu_tb_in 46 rfl rfl, co_X1_findBestWay⟩, by decide, by decide, by decide⟩
set_option maxRecDepth 20000 in
theorem co_X2_beginsPart : Cond.code tu_Y_X2_beginsPart.1 tu_Y_X2_beginsPart.2.1 tu_Y_X2_beginsPart.2.2.1 tu_Y_X2_beginsPart.2.2.2.1 ∈ tu_tb := tu_tb_in 249 rfl rfl
set_option maxRecDepth 20000 in
theorem sv_RX2_25 : tu_sV RX2 25 tu_Y_X2_beginsPart 1 := ⟨⟨tu_tb_in 246 rfl rfl, tu_tb_in 247 rfl rfl, tu_tb_in 248 rfl rfl, tu_tb_in 45 rfl rfl, co_X2_beginsPart⟩, by decide, by decide, by decide⟩
set_option maxRecDepth 20000 in
theorem ss_RX2_29 : tu_sS RX2 29 tu_Y_X2_isSyllable 1 := ⟨⟨tu_tb_in 232 rfl rfl, tu_tb_in 233 rfl rfl, tu_tb_in 45 rfl rfl, co_X2_isSyllable⟩, by decide, by decide, by decide⟩
set_option maxRecDepth 20000 in
theorem ss_RX2_33 : tu_sS RX2 33 tu_Y_X2_isBeat 1 := ⟨⟨tu_tb_in 235 rfl rfl, tu_tb_in 236 rfl rfl, tu_tb_in 45 rfl rfl, co_X2_isBeat⟩, by decide, by decide, by decide⟩
set_option maxRecDepth 20000 in
theorem co_X3_record : Cond.code tu_Y_X3_record.1 tu_Y_X3_record.2.1 tu_Y_X3_record.2.2.1 tu_Y_X3_record.2.2.2.1 ∈ tu_tb := tu_tb_in 219 rfl rfl
set_option maxRecDepth 20000 in
theorem sv_RX3_52 : tu_sV RX3 52 tu_Y_X3_record 0 := ⟨⟨tu_tb_in 216 rfl rfl, tu_tb_in 218 rfl rfl, tu_tb_in 0 rfl rfl, tu_tb_in 42 rfl rfl, co_X3_record⟩, by decide, by decide, by decide⟩
set_option maxRecDepth 20000 in
theorem co_X2_faultPlace : Cond.code tu_Y_X2_faultPlace.1 tu_Y_X2_faultPlace.2.1 tu_Y_X2_faultPlace.2.2.1 tu_Y_X2_faultPlace.2.2.2.1 ∈ tu_tb := tu_tb_in 231 rfl rfl
set_option maxRecDepth 20000 in
theorem sv_RX3_58 : tu_sV RX3 58 tu_Y_X2_faultPlace 0 := ⟨⟨tu_tb_in 228 rfl rfl, tu_tb_in 229 rfl rfl, tu_tb_in 230 rfl rfl, tu_tb_in 45 rfl rfl, co_X2_faultPlace⟩, by decide, by decide, by decide⟩
set_option maxRecDepth 20000 in
theorem co_X2_phraseParts : Cond.code tu_Y_X2_phraseParts.1 tu_Y_X2_phraseParts.2.1 tu_Y_X2_phraseParts.2.2.1 tu_Y_X2_phraseParts.2.2.2.1 ∈ tu_tb := tu_tb_in 241 rfl rfl
set_option maxRecDepth 20000 in
theorem sv_RX3_62 : tu_sV RX3 62 tu_Y_X2_phraseParts 0 := ⟨⟨tu_tb_in 238 rfl rfl, tu_tb_in 239 rfl rfl, tu_tb_in 240 rfl rfl, tu_tb_in 45 rfl rfl, co_X2_phraseParts⟩, by decide, by decide, by decide⟩
set_option maxRecDepth 20000 in
theorem co_X2_parts : Cond.code tu_Y_X2_parts.1 tu_Y_X2_parts.2.1 tu_Y_X2_parts.2.2.1 tu_Y_X2_parts.2.2.2.1 ∈ tu_tb := tu_tb_in 245 rfl rfl
set_option maxRecDepth 20000 in
theorem sv_RX3_65 : tu_sV RX3 65 tu_Y_X2_parts 0 := ⟨⟨tu_tb_in 242 rfl rfl, tu_tb_in 243 rfl rfl, tu_tb_in 244 rfl rfl, tu_tb_in 45 rfl rfl, co_X2_parts⟩, by decide, by decide, by decide⟩
set_option maxRecDepth 20000 in
theorem sv_RX3_77 : tu_sV RX3 77 tu_Y_X2_beginsPart 1 := ⟨⟨tu_tb_in 250 rfl rfl, tu_tb_in 247 rfl rfl, tu_tb_in 248 rfl rfl, tu_tb_in 45 rfl rfl, co_X2_beginsPart⟩, by decide, by decide, by decide⟩
set_option maxRecDepth 20000 in
theorem co_X0_beginPart : Cond.code tu_Y_X0_beginPart.1 tu_Y_X0_beginPart.2.1 tu_Y_X0_beginPart.2.2.1 tu_Y_X0_beginPart.2.2.2.1 ∈ tu_tb := tu_tb_in 254 rfl rfl
set_option maxRecDepth 20000 in
theorem sv_RX3_85 : tu_sV RX3 85 tu_Y_X0_beginPart 1 := ⟨⟨tu_tb_in 251 rfl rfl, tu_tb_in 252 rfl rfl, tu_tb_in 253 rfl rfl, tu_tb_in 43 rfl rfl, co_X0_beginPart⟩, by decide, by decide, by decide⟩
set_option maxRecDepth 20000 in
theorem co_X0_addSign : Cond.code tu_Y_X0_addSign.1 tu_Y_X0_addSign.2.1 tu_Y_X0_addSign.2.2.1 tu_Y_X0_addSign.2.2.2.1 ∈ tu_tb := tu_tb_in 258 rfl rfl
set_option maxRecDepth 20000 in
theorem sv_RX3_89 : tu_sV RX3 89 tu_Y_X0_addSign 1 := ⟨⟨tu_tb_in 255 rfl rfl, tu_tb_in 256 rfl rfl, tu_tb_in 257 rfl rfl, tu_tb_in 43 rfl rfl, co_X0_addSign⟩, by decide, by decide, by decide⟩
set_option maxRecDepth 20000 in
theorem sv_RX3_93 : tu_sV RX3 93 tu_Y_X0_hasLine 1 := ⟨⟨tu_tb_in 273 rfl rfl, tu_tb_in 274 rfl rfl, tu_tb_in 275 rfl rfl, tu_tb_in 43 rfl rfl, co_X0_hasLine⟩, by decide, by decide, by decide⟩
set_option maxRecDepth 20000 in
theorem co_X0_removeLine : Cond.code tu_Y_X0_removeLine.1 tu_Y_X0_removeLine.2.1 tu_Y_X0_removeLine.2.2.1 tu_Y_X0_removeLine.2.2.2.1 ∈ tu_tb := tu_tb_in 280 rfl rfl
set_option maxRecDepth 20000 in
theorem sv_RX3_96 : tu_sV RX3 96 tu_Y_X0_removeLine 1 := ⟨⟨tu_tb_in 277 rfl rfl, tu_tb_in 278 rfl rfl, tu_tb_in 279 rfl rfl, tu_tb_in 43 rfl rfl, co_X0_removeLine⟩, by decide, by decide, by decide⟩
set_option maxRecDepth 20000 in
theorem sv_RX3_103 : tu_sV RX3 103 tu_Y_X0_hasPhrase 1 := ⟨⟨tu_tb_in 288 rfl rfl, tu_tb_in 289 rfl rfl, tu_tb_in 290 rfl rfl, tu_tb_in 43 rfl rfl, co_X0_hasPhrase⟩, by decide, by decide, by decide⟩
set_option maxRecDepth 20000 in
theorem co_X0_removePhrase : Cond.code tu_Y_X0_removePhrase.1 tu_Y_X0_removePhrase.2.1 tu_Y_X0_removePhrase.2.2.1 tu_Y_X0_removePhrase.2.2.2.1 ∈ tu_tb := tu_tb_in 295 rfl rfl
set_option maxRecDepth 20000 in
theorem sv_RX3_106 : tu_sV RX3 106 tu_Y_X0_removePhrase 1 := ⟨⟨tu_tb_in 292 rfl rfl, tu_tb_in 293 rfl rfl, tu_tb_in 294 rfl rfl, tu_tb_in 43 rfl rfl, co_X0_removePhrase⟩, by decide, by decide, by decide⟩
set_option maxRecDepth 20000 in
theorem co_X0_hasSyllable : Cond.code tu_Y_X0_hasSyllable.1 tu_Y_X0_hasSyllable.2.1 tu_Y_X0_hasSyllable.2.2.1 tu_Y_X0_hasSyllable.2.2.2.1 ∈ tu_tb := tu_tb_in 303 rfl rfl
set_option maxRecDepth 20000 in
theorem sv_RX3_112 : tu_sV RX3 112 tu_Y_X0_hasSyllable 2 := ⟨⟨tu_tb_in 300 rfl rfl, tu_tb_in 301 rfl rfl, tu_tb_in 302 rfl rfl, tu_tb_in 43 rfl rfl, co_X0_hasSyllable⟩, by decide, by decide, by decide⟩
set_option maxRecDepth 20000 in
theorem co_X0_hasBeat : Cond.code tu_Y_X0_hasBeat.1 tu_Y_X0_hasBeat.2.1 tu_Y_X0_hasBeat.2.2.1 tu_Y_X0_hasBeat.2.2.2.1 ∈ tu_tb := tu_tb_in 312 rfl rfl
set_option maxRecDepth 20000 in
theorem sv_RX3_119 : tu_sV RX3 119 tu_Y_X0_hasBeat 2 := ⟨⟨tu_tb_in 309 rfl rfl, tu_tb_in 310 rfl rfl, tu_tb_in 311 rfl rfl, tu_tb_in 43 rfl rfl, co_X0_hasBeat⟩, by decide, by decide, by decide⟩
set_option maxRecDepth 20000 in
theorem co_X0_addToBallad : Cond.code tu_Y_X0_addToBallad.1 tu_Y_X0_addToBallad.2.1 tu_Y_X0_addToBallad.2.2.1 tu_Y_X0_addToBallad.2.2.2.1 ∈ tu_tb := tu_tb_in 321 rfl rfl
set_option maxRecDepth 20000 in
theorem sv_RX3_125 : tu_sV RX3 125 tu_Y_X0_addToBallad 1 := ⟨⟨tu_tb_in 318 rfl rfl, tu_tb_in 319 rfl rfl, tu_tb_in 320 rfl rfl, tu_tb_in 43 rfl rfl, co_X0_addToBallad⟩, by decide, by decide, by decide⟩
set_option maxRecDepth 20000 in
theorem co_X0_addToTune : Cond.code tu_Y_X0_addToTune.1 tu_Y_X0_addToTune.2.1 tu_Y_X0_addToTune.2.2.1 tu_Y_X0_addToTune.2.2.2.1 ∈ tu_tb := tu_tb_in 329 rfl rfl
set_option maxRecDepth 20000 in
theorem sv_RX3_128 : tu_sV RX3 128 tu_Y_X0_addToTune 1 := ⟨⟨tu_tb_in 326 rfl rfl, tu_tb_in 327 rfl rfl, tu_tb_in 328 rfl rfl, tu_tb_in 43 rfl rfl, co_X0_addToTune⟩, by decide, by decide, by decide⟩
set_option maxRecDepth 20000 in
theorem co_X0_stressedOf : Cond.code tu_Y_X0_stressedOf.1 tu_Y_X0_stressedOf.2.1 tu_Y_X0_stressedOf.2.2.1 tu_Y_X0_stressedOf.2.2.2.1 ∈ tu_tb := tu_tb_in 345 rfl rfl
set_option maxRecDepth 20000 in
theorem sv_RX3_134 : tu_sV RX3 134 tu_Y_X0_stressedOf 1 := ⟨⟨tu_tb_in 342 rfl rfl, tu_tb_in 343 rfl rfl, tu_tb_in 344 rfl rfl, tu_tb_in 43 rfl rfl, co_X0_stressedOf⟩, by decide, by decide, by decide⟩
set_option maxRecDepth 20000 in
theorem sv_RX3_138 : tu_sV RX3 138 tu_Y_X0_timesSung 1 := ⟨⟨tu_tb_in 346 rfl rfl, tu_tb_in 347 rfl rfl, tu_tb_in 348 rfl rfl, tu_tb_in 43 rfl rfl, co_X0_timesSung⟩, by decide, by decide, by decide⟩
set_option maxRecDepth 20000 in
theorem co_X3_cheapestPhrase : Cond.code tu_Y_X3_cheapestPhrase.1 tu_Y_X3_cheapestPhrase.2.1 tu_Y_X3_cheapestPhrase.2.2.1 tu_Y_X3_cheapestPhrase.2.2.2.1 ∈ tu_tb := tu_tb_in 356 rfl rfl
set_option maxRecDepth 20000 in
theorem sv_RX3_141 : tu_sV RX3 141 tu_Y_X3_cheapestPhrase 1 := ⟨⟨tu_tb_in 353 rfl rfl, tu_tb_in 355 rfl rfl, tu_tb_in 1 rfl rfl, tu_tb_in 42 rfl rfl, co_X3_cheapestPhrase⟩, by decide, by decide, by decide⟩
set_option maxRecDepth 20000 in
theorem co_X0_beatsOfKind : Cond.code tu_Y_X0_beatsOfKind.1 tu_Y_X0_beatsOfKind.2.1 tu_Y_X0_beatsOfKind.2.2.1 tu_Y_X0_beatsOfKind.2.2.2.1 ∈ tu_tb := tu_tb_in 398 rfl rfl
set_option maxRecDepth 20000 in
theorem sv_RX3_147 : tu_sV RX3 147 tu_Y_X0_beatsOfKind 2 := ⟨⟨tu_tb_in 395 rfl rfl, tu_tb_in 396 rfl rfl, tu_tb_in 397 rfl rfl, tu_tb_in 43 rfl rfl, co_X0_beatsOfKind⟩, by decide, by decide, by decide⟩
set_option maxRecDepth 20000 in
theorem co_X0_timesPlayed : Cond.code tu_Y_X0_timesPlayed.1 tu_Y_X0_timesPlayed.2.1 tu_Y_X0_timesPlayed.2.2.1 tu_Y_X0_timesPlayed.2.2.2.1 ∈ tu_tb := tu_tb_in 402 rfl rfl
set_option maxRecDepth 20000 in
theorem sv_RX3_151 : tu_sV RX3 151 tu_Y_X0_timesPlayed 1 := ⟨⟨tu_tb_in 399 rfl rfl, tu_tb_in 400 rfl rfl, tu_tb_in 401 rfl rfl, tu_tb_in 43 rfl rfl, co_X0_timesPlayed⟩, by decide, by decide, by decide⟩
set_option maxRecDepth 20000 in
theorem co_X0_longestRow : Cond.code tu_Y_X0_longestRow.1 tu_Y_X0_longestRow.2.1 tu_Y_X0_longestRow.2.2.1 tu_Y_X0_longestRow.2.2.2.1 ∈ tu_tb := tu_tb_in 406 rfl rfl
set_option maxRecDepth 20000 in
theorem sv_RX3_154 : tu_sV RX3 154 tu_Y_X0_longestRow 1 := ⟨⟨tu_tb_in 403 rfl rfl, tu_tb_in 404 rfl rfl, tu_tb_in 405 rfl rfl, tu_tb_in 43 rfl rfl, co_X0_longestRow⟩, by decide, by decide, by decide⟩
set_option maxRecDepth 20000 in
theorem co_X0_burdens : Cond.code tu_Y_X0_burdens.1 tu_Y_X0_burdens.2.1 tu_Y_X0_burdens.2.2.1 tu_Y_X0_burdens.2.2.2.1 ∈ tu_tb := tu_tb_in 425 rfl rfl
set_option maxRecDepth 20000 in
theorem sv_RX3_157 : tu_sV RX3 157 tu_Y_X0_burdens 0 := ⟨⟨tu_tb_in 422 rfl rfl, tu_tb_in 423 rfl rfl, tu_tb_in 424 rfl rfl, tu_tb_in 43 rfl rfl, co_X0_burdens⟩, by decide, by decide, by decide⟩
set_option maxRecDepth 20000 in
theorem co_X3_leastCostOf : Cond.code tu_Y_X3_leastCostOf.1 tu_Y_X3_leastCostOf.2.1 tu_Y_X3_leastCostOf.2.2.1 tu_Y_X3_leastCostOf.2.2.2.1 ∈ tu_tb := tu_tb_in 361 rfl rfl
set_option maxRecDepth 20000 in
theorem sv_RX3_166 : tu_sV RX3 166 tu_Y_X3_leastCostOf 2 := ⟨⟨tu_tb_in 358 rfl rfl, tu_tb_in 360 rfl rfl, tu_tb_in 2 rfl rfl, tu_tb_in 42 rfl rfl, co_X3_leastCostOf⟩, by decide, by decide, by decide⟩
set_option maxRecDepth 20000 in
theorem co_X1_countWays : Cond.code tu_Y_X1_countWays.1 tu_Y_X1_countWays.2.1 tu_Y_X1_countWays.2.2.1 tu_Y_X1_countWays.2.2.2.1 ∈ tu_tb := tu_tb_in 438 rfl rfl
set_option maxRecDepth 20000 in
theorem sv_RX3_170 : tu_sV RX3 170 tu_Y_X1_countWays 1 := ⟨⟨tu_tb_in 435 rfl rfl, tu_tb_in 436 rfl rfl, tu_tb_in 437 rfl rfl, tu_tb_in 46 rfl rfl, co_X1_countWays⟩, by decide, by decide, by decide⟩
set_option maxRecDepth 20000 in
theorem co_X1_freeBeats : Cond.code tu_Y_X1_freeBeats.1 tu_Y_X1_freeBeats.2.1 tu_Y_X1_freeBeats.2.2.1 tu_Y_X1_freeBeats.2.2.2.1 ∈ tu_tb := tu_tb_in 446 rfl rfl
set_option maxRecDepth 20000 in
theorem sv_RX3_174 : tu_sV RX3 174 tu_Y_X1_freeBeats 0 := ⟨⟨tu_tb_in 443 rfl rfl, tu_tb_in 444 rfl rfl, tu_tb_in 445 rfl rfl, tu_tb_in 46 rfl rfl, co_X1_freeBeats⟩, by decide, by decide, by decide⟩
set_option maxRecDepth 20000 in
theorem co_X1_hurtSyllables : Cond.code tu_Y_X1_hurtSyllables.1 tu_Y_X1_hurtSyllables.2.1 tu_Y_X1_hurtSyllables.2.2.1 tu_Y_X1_hurtSyllables.2.2.2.1 ∈ tu_tb := tu_tb_in 458 rfl rfl
set_option maxRecDepth 20000 in
theorem sv_RX3_177 : tu_sV RX3 177 tu_Y_X1_hurtSyllables 0 := ⟨⟨tu_tb_in 455 rfl rfl, tu_tb_in 456 rfl rfl, tu_tb_in 457 rfl rfl, tu_tb_in 46 rfl rfl, co_X1_hurtSyllables⟩, by decide, by decide, by decide⟩
set_option maxRecDepth 20000 in
theorem sv_RX3_180 : tu_sV RX3 180 tu_Y_X1_findBestWay 0 := ⟨⟨tu_tb_in 463 rfl rfl, tu_tb_in 448 rfl rfl, tu_tb_in 449 rfl rfl, tu_tb_in 46 rfl rfl, co_X1_findBestWay⟩, by decide, by decide, by decide⟩
set_option maxRecDepth 20000 in
theorem co_X1_take : Cond.code tu_Y_X1_take.1 tu_Y_X1_take.2.1 tu_Y_X1_take.2.2.1 tu_Y_X1_take.2.2.2.1 ∈ tu_tb := tu_tb_in 365 rfl rfl
set_option maxRecDepth 20000 in
theorem sv_RX3_189 : tu_sV RX3 189 tu_Y_X1_take 3 := ⟨⟨tu_tb_in 362 rfl rfl, tu_tb_in 363 rfl rfl, tu_tb_in 364 rfl rfl, tu_tb_in 46 rfl rfl, co_X1_take⟩, by decide, by decide, by decide⟩
set_option maxRecDepth 20000 in
theorem co_X1_turnStress : Cond.code tu_Y_X1_turnStress.1 tu_Y_X1_turnStress.2.1 tu_Y_X1_turnStress.2.2.1 tu_Y_X1_turnStress.2.2.2.1 ∈ tu_tb := tu_tb_in 479 rfl rfl
set_option maxRecDepth 20000 in
theorem sv_RX3_193 : tu_sV RX3 193 tu_Y_X1_turnStress 1 := ⟨⟨tu_tb_in 476 rfl rfl, tu_tb_in 477 rfl rfl, tu_tb_in 478 rfl rfl, tu_tb_in 46 rfl rfl, co_X1_turnStress⟩, by decide, by decide, by decide⟩
set_option maxRecDepth 20000 in
theorem co_X1_leastCost : Cond.code tu_Y_X1_leastCost.1 tu_Y_X1_leastCost.2.1 tu_Y_X1_leastCost.2.2.1 tu_Y_X1_leastCost.2.2.2.1 ∈ tu_tb := tu_tb_in 370 rfl rfl
set_option maxRecDepth 20000 in
theorem sv_RX3_196 : tu_sV RX3 196 tu_Y_X1_leastCost 0 := ⟨⟨tu_tb_in 367 rfl rfl, tu_tb_in 368 rfl rfl, tu_tb_in 369 rfl rfl, tu_tb_in 46 rfl rfl, co_X1_leastCost⟩, by decide, by decide, by decide⟩
set_option maxRecDepth 20000 in
theorem co_X2_signsIn : Cond.code tu_Y_X2_signsIn.1 tu_Y_X2_signsIn.2.1 tu_Y_X2_signsIn.2.2.1 tu_Y_X2_signsIn.2.2.2.1 ∈ tu_tb := tu_tb_in 490 rfl rfl
set_option maxRecDepth 20000 in
theorem ss_RX3_202 : tu_sS RX3 202 tu_Y_X2_signsIn 1 := ⟨⟨tu_tb_in 488 rfl rfl, tu_tb_in 489 rfl rfl, tu_tb_in 45 rfl rfl, co_X2_signsIn⟩, by decide, by decide, by decide⟩
set_option maxRecDepth 20000 in
theorem co_X2_append : Cond.code tu_Y_X2_append.1 tu_Y_X2_append.2.1 tu_Y_X2_append.2.2.1 tu_Y_X2_append.2.2.2.1 ∈ tu_tb := tu_tb_in 497 rfl rfl
set_option maxRecDepth 20000 in
theorem sv_RX3_206 : tu_sV RX3 206 tu_Y_X2_append 2 := ⟨⟨tu_tb_in 494 rfl rfl, tu_tb_in 495 rfl rfl, tu_tb_in 496 rfl rfl, tu_tb_in 45 rfl rfl, co_X2_append⟩, by decide, by decide, by decide⟩
set_option maxRecDepth 20000 in
theorem co_X0_takeOver : Cond.code tu_Y_X0_takeOver.1 tu_Y_X0_takeOver.2.1 tu_Y_X0_takeOver.2.2.1 tu_Y_X0_takeOver.2.2.2.1 ∈ tu_tb := tu_tb_in 223 rfl rfl
set_option maxRecDepth 20000 in
theorem sv_RX3_210 : tu_sV RX3 210 tu_Y_X0_takeOver 1 := ⟨⟨tu_tb_in 220 rfl rfl, tu_tb_in 221 rfl rfl, tu_tb_in 222 rfl rfl, tu_tb_in 43 rfl rfl, co_X0_takeOver⟩, by decide, by decide, by decide⟩
set_option maxRecDepth 20000 in
theorem co_X4_moves : Cond.code tu_Y_X4_moves.1 tu_Y_X4_moves.2.1 tu_Y_X4_moves.2.2.1 tu_Y_X4_moves.2.2.2.1 ∈ tu_tb := tu_tb_in 595 rfl rfl
set_option maxRecDepth 20000 in
theorem ss_RX4_44 : tu_sS RX4 44 tu_Y_X4_moves 4 := ⟨⟨tu_tb_in 593 rfl rfl, tu_tb_in 594 rfl rfl, tu_tb_in 47 rfl rfl, co_X4_moves⟩, by decide, by decide, by decide⟩
set_option maxRecDepth 20000 in
theorem co_X4_within : Cond.code tu_Y_X4_within.1 tu_Y_X4_within.2.1 tu_Y_X4_within.2.2.1 tu_Y_X4_within.2.2.2.1 ∈ tu_tb := tu_tb_in 588 rfl rfl
set_option maxRecDepth 20000 in
theorem ss_RX4_48 : tu_sS RX4 48 tu_Y_X4_within 3 := ⟨⟨tu_tb_in 586 rfl rfl, tu_tb_in 587 rfl rfl, tu_tb_in 47 rfl rfl, co_X4_within⟩, by decide, by decide, by decide⟩
set_option maxRecDepth 20000 in
theorem co_X4_isLine : Cond.code tu_Y_X4_isLine.1 tu_Y_X4_isLine.2.1 tu_Y_X4_isLine.2.2.1 tu_Y_X4_isLine.2.2.2.1 ∈ tu_tb := tu_tb_in 623 rfl rfl
set_option maxRecDepth 20000 in
theorem sv_RX4_52 : tu_sV RX4 52 tu_Y_X4_isLine 1 := ⟨⟨tu_tb_in 620 rfl rfl, tu_tb_in 622 rfl rfl, tu_tb_in 14 rfl rfl, tu_tb_in 47 rfl rfl, co_X4_isLine⟩, by decide, by decide, by decide⟩
set_option maxRecDepth 20000 in
theorem co_X4_lineLength : Cond.code tu_Y_X4_lineLength.1 tu_Y_X4_lineLength.2.1 tu_Y_X4_lineLength.2.2.1 tu_Y_X4_lineLength.2.2.2.1 ∈ tu_tb := tu_tb_in 647 rfl rfl
set_option maxRecDepth 20000 in
theorem sv_RX4_56 : tu_sV RX4 56 tu_Y_X4_lineLength 1 := ⟨⟨tu_tb_in 644 rfl rfl, tu_tb_in 646 rfl rfl, tu_tb_in 18 rfl rfl, tu_tb_in 47 rfl rfl, co_X4_lineLength⟩, by decide, by decide, by decide⟩
set_option maxRecDepth 20000 in
theorem co_X4_isPhrase : Cond.code tu_Y_X4_isPhrase.1 tu_Y_X4_isPhrase.2.1 tu_Y_X4_isPhrase.2.2.1 tu_Y_X4_isPhrase.2.2.2.1 ∈ tu_tb := tu_tb_in 635 rfl rfl
set_option maxRecDepth 20000 in
theorem sv_RX4_60 : tu_sV RX4 60 tu_Y_X4_isPhrase 1 := ⟨⟨tu_tb_in 632 rfl rfl, tu_tb_in 634 rfl rfl, tu_tb_in 16 rfl rfl, tu_tb_in 47 rfl rfl, co_X4_isPhrase⟩, by decide, by decide, by decide⟩
set_option maxRecDepth 20000 in
theorem co_X4_phraseLength : Cond.code tu_Y_X4_phraseLength.1 tu_Y_X4_phraseLength.2.1 tu_Y_X4_phraseLength.2.2.1 tu_Y_X4_phraseLength.2.2.2.1 ∈ tu_tb := tu_tb_in 659 rfl rfl
set_option maxRecDepth 20000 in
theorem sv_RX4_63 : tu_sV RX4 63 tu_Y_X4_phraseLength 1 := ⟨⟨tu_tb_in 656 rfl rfl, tu_tb_in 658 rfl rfl, tu_tb_in 20 rfl rfl, tu_tb_in 47 rfl rfl, co_X4_phraseLength⟩, by decide, by decide, by decide⟩
set_option maxRecDepth 20000 in
theorem co_X4_has : Cond.code tu_Y_X4_has.1 tu_Y_X4_has.2.1 tu_Y_X4_has.2.2.1 tu_Y_X4_has.2.2.2.1 ∈ tu_tb := tu_tb_in 666 rfl rfl
set_option maxRecDepth 20000 in
theorem ss_RX4_84 : tu_sS RX4 84 tu_Y_X4_has 2 := ⟨⟨tu_tb_in 664 rfl rfl, tu_tb_in 665 rfl rfl, tu_tb_in 47 rfl rfl, co_X4_has⟩, by decide, by decide, by decide⟩
set_option maxRecDepth 20000 in
theorem co_X4_hurts : Cond.code tu_Y_X4_hurts.1 tu_Y_X4_hurts.2.1 tu_Y_X4_hurts.2.2.1 tu_Y_X4_hurts.2.2.2.1 ∈ tu_tb := tu_tb_in 738 rfl rfl
set_option maxRecDepth 20000 in
theorem sv_RX4_89 : tu_sV RX4 89 tu_Y_X4_hurts 2 := ⟨⟨tu_tb_in 735 rfl rfl, tu_tb_in 737 rfl rfl, tu_tb_in 32 rfl rfl, tu_tb_in 47 rfl rfl, co_X4_hurts⟩, by decide, by decide, by decide⟩
set_option maxRecDepth 20000 in
theorem co_X4_capped : Cond.code tu_Y_X4_capped.1 tu_Y_X4_capped.2.1 tu_Y_X4_capped.2.2.1 tu_Y_X4_capped.2.2.2.1 ∈ tu_tb := tu_tb_in 729 rfl rfl
set_option maxRecDepth 20000 in
theorem ss_RX4_93 : tu_sS RX4 93 tu_Y_X4_capped 1 := ⟨⟨tu_tb_in 727 rfl rfl, tu_tb_in 728 rfl rfl, tu_tb_in 47 rfl rfl, co_X4_capped⟩, by decide, by decide, by decide⟩
set_option maxRecDepth 20000 in
theorem co_X4_costFree : Cond.code tu_Y_X4_costFree.1 tu_Y_X4_costFree.2.1 tu_Y_X4_costFree.2.2.1 tu_Y_X4_costFree.2.2.2.1 ∈ tu_tb := tu_tb_in 722 rfl rfl
set_option maxRecDepth 20000 in
theorem sv_RX4_96 : tu_sV RX4 96 tu_Y_X4_costFree 2 := ⟨⟨tu_tb_in 719 rfl rfl, tu_tb_in 721 rfl rfl, tu_tb_in 29 rfl rfl, tu_tb_in 47 rfl rfl, co_X4_costFree⟩, by decide, by decide, by decide⟩
set_option maxRecDepth 20000 in
theorem co_X4_takesIn : Cond.code tu_Y_X4_takesIn.1 tu_Y_X4_takesIn.2.1 tu_Y_X4_takesIn.2.2.1 tu_Y_X4_takesIn.2.2.2.1 ∈ tu_tb := tu_tb_in 726 rfl rfl
set_option maxRecDepth 20000 in
theorem sv_RX4_100 : tu_sV RX4 100 tu_Y_X4_takesIn 3 := ⟨⟨tu_tb_in 723 rfl rfl, tu_tb_in 725 rfl rfl, tu_tb_in 30 rfl rfl, tu_tb_in 47 rfl rfl, co_X4_takesIn⟩, by decide, by decide, by decide⟩
set_option maxRecDepth 20000 in
theorem co_X4_costOn : Cond.code tu_Y_X4_costOn.1 tu_Y_X4_costOn.2.1 tu_Y_X4_costOn.2.2.1 tu_Y_X4_costOn.2.2.2.1 ∈ tu_tb := tu_tb_in 734 rfl rfl
set_option maxRecDepth 20000 in
theorem sv_RX4_104 : tu_sV RX4 104 tu_Y_X4_costOn 3 := ⟨⟨tu_tb_in 731 rfl rfl, tu_tb_in 733 rfl rfl, tu_tb_in 31 rfl rfl, tu_tb_in 47 rfl rfl, co_X4_costOn⟩, by decide, by decide, by decide⟩
set_option maxRecDepth 20000 in
theorem co_X4_findAt : Cond.code tu_Y_X4_findAt.1 tu_Y_X4_findAt.2.1 tu_Y_X4_findAt.2.2.1 tu_Y_X4_findAt.2.2.2.1 ∈ tu_tb := tu_tb_in 718 rfl rfl
set_option maxRecDepth 20000 in
theorem sv_RX4_108 : tu_sV RX4 108 tu_Y_X4_findAt 2 := ⟨⟨tu_tb_in 715 rfl rfl, tu_tb_in 717 rfl rfl, tu_tb_in 28 rfl rfl, tu_tb_in 47 rfl rfl, co_X4_findAt⟩, by decide, by decide, by decide⟩
set_option maxRecDepth 20000 in
theorem co_X4_beatsFrom : Cond.code tu_Y_X4_beatsFrom.1 tu_Y_X4_beatsFrom.2.1 tu_Y_X4_beatsFrom.2.2.1 tu_Y_X4_beatsFrom.2.2.2.1 ∈ tu_tb := tu_tb_in 786 rfl rfl
set_option maxRecDepth 20000 in
theorem sv_RX4_112 : tu_sV RX4 112 tu_Y_X4_beatsFrom 2 := ⟨⟨tu_tb_in 783 rfl rfl, tu_tb_in 785 rfl rfl, tu_tb_in 38 rfl rfl, tu_tb_in 47 rfl rfl, co_X4_beatsFrom⟩, by decide, by decide, by decide⟩
set_option maxRecDepth 20000 in
theorem co_X4_look : Cond.code tu_Y_X4_look.1 tu_Y_X4_look.2.1 tu_Y_X4_look.2.2.1 tu_Y_X4_look.2.2.2.1 ∈ tu_tb := tu_tb_in 710 rfl rfl
set_option maxRecDepth 20000 in
theorem sv_RX4_115 : tu_sV RX4 115 tu_Y_X4_look 2 := ⟨⟨tu_tb_in 707 rfl rfl, tu_tb_in 709 rfl rfl, tu_tb_in 26 rfl rfl, tu_tb_in 47 rfl rfl, co_X4_look⟩, by decide, by decide, by decide⟩
set_option maxRecDepth 20000 in
theorem co_X4_findCost : Cond.code tu_Y_X4_findCost.1 tu_Y_X4_findCost.2.1 tu_Y_X4_findCost.2.2.1 tu_Y_X4_findCost.2.2.2.1 ∈ tu_tb := tu_tb_in 714 rfl rfl
set_option maxRecDepth 20000 in
theorem sv_RX4_118 : tu_sV RX4 118 tu_Y_X4_findCost 0 := ⟨⟨tu_tb_in 711 rfl rfl, tu_tb_in 713 rfl rfl, tu_tb_in 27 rfl rfl, tu_tb_in 47 rfl rfl, co_X4_findCost⟩, by decide, by decide, by decide⟩
set_option maxRecDepth 20000 in
theorem co_X4_findWay : Cond.code tu_Y_X4_findWay.1 tu_Y_X4_findWay.2.1 tu_Y_X4_findWay.2.2.1 tu_Y_X4_findWay.2.2.2.1 ∈ tu_tb := tu_tb_in 782 rfl rfl
set_option maxRecDepth 20000 in
theorem sv_RX4_122 : tu_sV RX4 122 tu_Y_X4_findWay 0 := ⟨⟨tu_tb_in 779 rfl rfl, tu_tb_in 781 rfl rfl, tu_tb_in 37 rfl rfl, tu_tb_in 47 rfl rfl, co_X4_findWay⟩, by decide, by decide, by decide⟩
set_option maxRecDepth 20000 in
theorem co_X4_bits : Cond.code tu_Y_X4_bits.1 tu_Y_X4_bits.2.1 tu_Y_X4_bits.2.2.1 tu_Y_X4_bits.2.2.2.1 ∈ tu_tb := tu_tb_in 693 rfl rfl
set_option maxRecDepth 20000 in
theorem ss_RX4_125 : tu_sS RX4 125 tu_Y_X4_bits 1 := ⟨⟨tu_tb_in 691 rfl rfl, tu_tb_in 692 rfl rfl, tu_tb_in 47 rfl rfl, co_X4_bits⟩, by decide, by decide, by decide⟩
set_option maxRecDepth 20000 in
theorem co_X4_isValue : Cond.code tu_Y_X4_isValue.1 tu_Y_X4_isValue.2.1 tu_Y_X4_isValue.2.2.1 tu_Y_X4_isValue.2.2.2.1 ∈ tu_tb := tu_tb_in 585 rfl rfl
set_option maxRecDepth 20000 in
theorem ss_RX4_128 : tu_sS RX4 128 tu_Y_X4_isValue 2 := ⟨⟨tu_tb_in 583 rfl rfl, tu_tb_in 584 rfl rfl, tu_tb_in 47 rfl rfl, co_X4_isValue⟩, by decide, by decide, by decide⟩
set_option maxRecDepth 20000 in
theorem co_X4_record : Cond.code tu_Y_X4_record.1 tu_Y_X4_record.2.1 tu_Y_X4_record.2.2.1 tu_Y_X4_record.2.2.2.1 ∈ tu_tb := tu_tb_in 592 rfl rfl
set_option maxRecDepth 20000 in
theorem sv_RX4_131 : tu_sV RX4 131 tu_Y_X4_record 0 := ⟨⟨tu_tb_in 589 rfl rfl, tu_tb_in 591 rfl rfl, tu_tb_in 9 rfl rfl, tu_tb_in 47 rfl rfl, co_X4_record⟩, by decide, by decide, by decide⟩
set_option maxRecDepth 20000 in
theorem co_X4_findFault : Cond.code tu_Y_X4_findFault.1 tu_Y_X4_findFault.2.1 tu_Y_X4_findFault.2.2.1 tu_Y_X4_findFault.2.2.2.1 ∈ tu_tb := tu_tb_in 603 rfl rfl
set_option maxRecDepth 20000 in
theorem sv_RX4_137 : tu_sV RX4 137 tu_Y_X4_findFault 0 := ⟨⟨tu_tb_in 600 rfl rfl, tu_tb_in 602 rfl rfl, tu_tb_in 10 rfl rfl, tu_tb_in 47 rfl rfl, co_X4_findFault⟩, by decide, by decide, by decide⟩
set_option maxRecDepth 20000 in
theorem co_X4_parts : Cond.code tu_Y_X4_parts.1 tu_Y_X4_parts.2.1 tu_Y_X4_parts.2.2.1 tu_Y_X4_parts.2.2.2.1 ∈ tu_tb := tu_tb_in 607 rfl rfl
set_option maxRecDepth 20000 in
theorem sv_RX4_140 : tu_sV RX4 140 tu_Y_X4_parts 1 := ⟨⟨tu_tb_in 604 rfl rfl, tu_tb_in 606 rfl rfl, tu_tb_in 11 rfl rfl, tu_tb_in 47 rfl rfl, co_X4_parts⟩, by decide, by decide, by decide⟩
set_option maxRecDepth 20000 in
theorem co_X4_writePhrase : Cond.code tu_Y_X4_writePhrase.1 tu_Y_X4_writePhrase.2.1 tu_Y_X4_writePhrase.2.2.1 tu_Y_X4_writePhrase.2.2.2.1 ∈ tu_tb := tu_tb_in 611 rfl rfl
set_option maxRecDepth 20000 in
theorem sv_RX4_144 : tu_sV RX4 144 tu_Y_X4_writePhrase 1 := ⟨⟨tu_tb_in 608 rfl rfl, tu_tb_in 610 rfl rfl, tu_tb_in 12 rfl rfl, tu_tb_in 47 rfl rfl, co_X4_writePhrase⟩, by decide, by decide, by decide⟩
set_option maxRecDepth 20000 in
theorem co_X4_writeLine : Cond.code tu_Y_X4_writeLine.1 tu_Y_X4_writeLine.2.1 tu_Y_X4_writeLine.2.2.1 tu_Y_X4_writeLine.2.2.2.1 ∈ tu_tb := tu_tb_in 615 rfl rfl
set_option maxRecDepth 20000 in
theorem sv_RX4_147 : tu_sV RX4 147 tu_Y_X4_writeLine 1 := ⟨⟨tu_tb_in 612 rfl rfl, tu_tb_in 614 rfl rfl, tu_tb_in 13 rfl rfl, tu_tb_in 47 rfl rfl, co_X4_writeLine⟩, by decide, by decide, by decide⟩
set_option maxRecDepth 20000 in
theorem co_X4_goes : Cond.code tu_Y_X4_goes.1 tu_Y_X4_goes.2.1 tu_Y_X4_goes.2.2.1 tu_Y_X4_goes.2.2.2.1 ∈ tu_tb := tu_tb_in 627 rfl rfl
set_option maxRecDepth 20000 in
theorem sv_RX4_150 : tu_sV RX4 150 tu_Y_X4_goes 3 := ⟨⟨tu_tb_in 624 rfl rfl, tu_tb_in 626 rfl rfl, tu_tb_in 15 rfl rfl, tu_tb_in 47 rfl rfl, co_X4_goes⟩, by decide, by decide, by decide⟩
set_option maxRecDepth 20000 in
theorem co_X4_isSyllable : Cond.code tu_Y_X4_isSyllable.1 tu_Y_X4_isSyllable.2.1 tu_Y_X4_isSyllable.2.2.1 tu_Y_X4_isSyllable.2.2.2.1 ∈ tu_tb := tu_tb_in 643 rfl rfl
set_option maxRecDepth 20000 in
theorem sv_RX4_153 : tu_sV RX4 153 tu_Y_X4_isSyllable 2 := ⟨⟨tu_tb_in 640 rfl rfl, tu_tb_in 642 rfl rfl, tu_tb_in 17 rfl rfl, tu_tb_in 47 rfl rfl, co_X4_isSyllable⟩, by decide, by decide, by decide⟩
set_option maxRecDepth 20000 in
theorem co_X4_isBeat : Cond.code tu_Y_X4_isBeat.1 tu_Y_X4_isBeat.2.1 tu_Y_X4_isBeat.2.2.1 tu_Y_X4_isBeat.2.2.2.1 ∈ tu_tb := tu_tb_in 655 rfl rfl
set_option maxRecDepth 20000 in
theorem sv_RX4_156 : tu_sV RX4 156 tu_Y_X4_isBeat 2 := ⟨⟨tu_tb_in 652 rfl rfl, tu_tb_in 654 rfl rfl, tu_tb_in 19 rfl rfl, tu_tb_in 47 rfl rfl, co_X4_isBeat⟩, by decide, by decide, by decide⟩
set_option maxRecDepth 20000 in
theorem co_X4_kindAt : Cond.code tu_Y_X4_kindAt.1 tu_Y_X4_kindAt.2.1 tu_Y_X4_kindAt.2.2.1 tu_Y_X4_kindAt.2.2.2.1 ∈ tu_tb := tu_tb_in 663 rfl rfl
set_option maxRecDepth 20000 in
theorem sv_RX4_159 : tu_sV RX4 159 tu_Y_X4_kindAt 2 := ⟨⟨tu_tb_in 660 rfl rfl, tu_tb_in 662 rfl rfl, tu_tb_in 21 rfl rfl, tu_tb_in 47 rfl rfl, co_X4_kindAt⟩, by decide, by decide, by decide⟩
set_option maxRecDepth 20000 in
theorem co_X4_sings : Cond.code tu_Y_X4_sings.1 tu_Y_X4_sings.2.1 tu_Y_X4_sings.2.2.1 tu_Y_X4_sings.2.2.2.1 ∈ tu_tb := tu_tb_in 674 rfl rfl
set_option maxRecDepth 20000 in
theorem sv_RX4_162 : tu_sV RX4 162 tu_Y_X4_sings 1 := ⟨⟨tu_tb_in 671 rfl rfl, tu_tb_in 673 rfl rfl, tu_tb_in 22 rfl rfl, tu_tb_in 47 rfl rfl, co_X4_sings⟩, by decide, by decide, by decide⟩
set_option maxRecDepth 20000 in
theorem co_X4_costOf : Cond.code tu_Y_X4_costOf.1 tu_Y_X4_costOf.2.1 tu_Y_X4_costOf.2.2.1 tu_Y_X4_costOf.2.2.2.1 ∈ tu_tb := tu_tb_in 706 rfl rfl
set_option maxRecDepth 20000 in
theorem sv_RX4_166 : tu_sV RX4 166 tu_Y_X4_costOf 2 := ⟨⟨tu_tb_in 703 rfl rfl, tu_tb_in 705 rfl rfl, tu_tb_in 25 rfl rfl, tu_tb_in 47 rfl rfl, co_X4_costOf⟩, by decide, by decide, by decide⟩
set_option maxRecDepth 20000 in
theorem co_X4_sungTimes : Cond.code tu_Y_X4_sungTimes.1 tu_Y_X4_sungTimes.2.1 tu_Y_X4_sungTimes.2.2.1 tu_Y_X4_sungTimes.2.2.2.1 ∈ tu_tb := tu_tb_in 697 rfl rfl
set_option maxRecDepth 20000 in
theorem sv_RX4_169 : tu_sV RX4 169 tu_Y_X4_sungTimes 1 := ⟨⟨tu_tb_in 694 rfl rfl, tu_tb_in 696 rfl rfl, tu_tb_in 23 rfl rfl, tu_tb_in 47 rfl rfl, co_X4_sungTimes⟩, by decide, by decide, by decide⟩
set_option maxRecDepth 20000 in
theorem co_X4_cheapestPhrase : Cond.code tu_Y_X4_cheapestPhrase.1 tu_Y_X4_cheapestPhrase.2.1 tu_Y_X4_cheapestPhrase.2.2.1 tu_Y_X4_cheapestPhrase.2.2.2.1 ∈ tu_tb := tu_tb_in 701 rfl rfl
set_option maxRecDepth 20000 in
theorem sv_RX4_172 : tu_sV RX4 172 tu_Y_X4_cheapestPhrase 1 := ⟨⟨tu_tb_in 698 rfl rfl, tu_tb_in 700 rfl rfl, tu_tb_in 24 rfl rfl, tu_tb_in 47 rfl rfl, co_X4_cheapestPhrase⟩, by decide, by decide, by decide⟩
set_option maxRecDepth 20000 in
theorem co_X4_playedTimes : Cond.code tu_Y_X4_playedTimes.1 tu_Y_X4_playedTimes.2.1 tu_Y_X4_playedTimes.2.2.1 tu_Y_X4_playedTimes.2.2.2.1 ∈ tu_tb := tu_tb_in 746 rfl rfl
set_option maxRecDepth 20000 in
theorem sv_RX4_175 : tu_sV RX4 175 tu_Y_X4_playedTimes 1 := ⟨⟨tu_tb_in 743 rfl rfl, tu_tb_in 745 rfl rfl, tu_tb_in 33 rfl rfl, tu_tb_in 47 rfl rfl, co_X4_playedTimes⟩, by decide, by decide, by decide⟩
set_option maxRecDepth 20000 in
theorem co_X4_longestRow : Cond.code tu_Y_X4_longestRow.1 tu_Y_X4_longestRow.2.1 tu_Y_X4_longestRow.2.2.1 tu_Y_X4_longestRow.2.2.2.1 ∈ tu_tb := tu_tb_in 750 rfl rfl
set_option maxRecDepth 20000 in
theorem sv_RX4_178 : tu_sV RX4 178 tu_Y_X4_longestRow 1 := ⟨⟨tu_tb_in 747 rfl rfl, tu_tb_in 749 rfl rfl, tu_tb_in 34 rfl rfl, tu_tb_in 47 rfl rfl, co_X4_longestRow⟩, by decide, by decide, by decide⟩
set_option maxRecDepth 20000 in
theorem co_X4_burdens : Cond.code tu_Y_X4_burdens.1 tu_Y_X4_burdens.2.1 tu_Y_X4_burdens.2.2.1 tu_Y_X4_burdens.2.2.2.1 ∈ tu_tb := tu_tb_in 766 rfl rfl
set_option maxRecDepth 20000 in
theorem sv_RX4_181 : tu_sV RX4 181 tu_Y_X4_burdens 0 := ⟨⟨tu_tb_in 763 rfl rfl, tu_tb_in 765 rfl rfl, tu_tb_in 35 rfl rfl, tu_tb_in 47 rfl rfl, co_X4_burdens⟩, by decide, by decide, by decide⟩
set_option maxRecDepth 20000 in
theorem co_X4_freeBeats : Cond.code tu_Y_X4_freeBeats.1 tu_Y_X4_freeBeats.2.1 tu_Y_X4_freeBeats.2.2.1 tu_Y_X4_freeBeats.2.2.2.1 ∈ tu_tb := tu_tb_in 778 rfl rfl
set_option maxRecDepth 20000 in
theorem sv_RX4_184 : tu_sV RX4 184 tu_Y_X4_freeBeats 0 := ⟨⟨tu_tb_in 775 rfl rfl, tu_tb_in 777 rfl rfl, tu_tb_in 36 rfl rfl, tu_tb_in 47 rfl rfl, co_X4_freeBeats⟩, by decide, by decide, by decide⟩
set_option maxRecDepth 20000 in
theorem co_X4_hurting : Cond.code tu_Y_X4_hurting.1 tu_Y_X4_hurting.2.1 tu_Y_X4_hurting.2.2.1 tu_Y_X4_hurting.2.2.2.1 ∈ tu_tb := tu_tb_in 790 rfl rfl
set_option maxRecDepth 20000 in
theorem sv_RX4_187 : tu_sV RX4 187 tu_Y_X4_hurting 0 := ⟨⟨tu_tb_in 787 rfl rfl, tu_tb_in 789 rfl rfl, tu_tb_in 39 rfl rfl, tu_tb_in 47 rfl rfl, co_X4_hurting⟩, by decide, by decide, by decide⟩
set_option maxRecDepth 20000 in
theorem co_X4_phraseFor : Cond.code tu_Y_X4_phraseFor.1 tu_Y_X4_phraseFor.2.1 tu_Y_X4_phraseFor.2.2.1 tu_Y_X4_phraseFor.2.2.2.1 ∈ tu_tb := tu_tb_in 802 rfl rfl
set_option maxRecDepth 20000 in
theorem sv_RX4_190 : tu_sV RX4 190 tu_Y_X4_phraseFor 1 := ⟨⟨tu_tb_in 799 rfl rfl, tu_tb_in 801 rfl rfl, tu_tb_in 40 rfl rfl, tu_tb_in 47 rfl rfl, co_X4_phraseFor⟩, by decide, by decide, by decide⟩
set_option maxRecDepth 20000 in
theorem co_X3_set : Cond.code tu_Y_X3_set.1 tu_Y_X3_set.2.1 tu_Y_X3_set.2.2.1 tu_Y_X3_set.2.2.2.1 ∈ tu_tb := tu_tb_in 211 rfl rfl
set_option maxRecDepth 20000 in
theorem sv_RL_13 : tu_sV RL 13 tu_Y_X3_set 2 := ⟨⟨tu_tb_in 208 rfl rfl, tu_tb_in 209 rfl rfl, tu_tb_in 210 rfl rfl, tu_tb_in 42 rfl rfl, co_X3_set⟩, by decide, by decide, by decide⟩
set_option maxRecDepth 20000 in
theorem co_X4_set : Cond.code tu_Y_X4_set.1 tu_Y_X4_set.2.1 tu_Y_X4_set.2.2.1 tu_Y_X4_set.2.2.2.1 ∈ tu_tb := tu_tb_in 582 rfl rfl
set_option maxRecDepth 20000 in
theorem sv_RL_17 : tu_sV RL 17 tu_Y_X4_set 2 := ⟨⟨tu_tb_in 579 rfl rfl, tu_tb_in 580 rfl rfl, tu_tb_in 581 rfl rfl, tu_tb_in 47 rfl rfl, co_X4_set⟩, by decide, by decide, by decide⟩
set_option maxRecDepth 20000 in
theorem co_X3_write : Cond.code tu_Y_X3_write.1 tu_Y_X3_write.2.1 tu_Y_X3_write.2.2.1 tu_Y_X3_write.2.2.2.1 ∈ tu_tb := tu_tb_in 227 rfl rfl
set_option maxRecDepth 20000 in
theorem sv_RL_18 : tu_sV RL 18 tu_Y_X3_write 0 := ⟨⟨tu_tb_in 224 rfl rfl, tu_tb_in 225 rfl rfl, tu_tb_in 226 rfl rfl, tu_tb_in 42 rfl rfl, co_X3_write⟩, by decide, by decide, by decide⟩
set_option maxRecDepth 20000 in
theorem co_X4_write : Cond.code tu_Y_X4_write.1 tu_Y_X4_write.2.1 tu_Y_X4_write.2.2.1 tu_Y_X4_write.2.2.2.1 ∈ tu_tb := tu_tb_in 599 rfl rfl
set_option maxRecDepth 20000 in
theorem sv_RL_22 : tu_sV RL 22 tu_Y_X4_write 0 := ⟨⟨tu_tb_in 596 rfl rfl, tu_tb_in 597 rfl rfl, tu_tb_in 598 rfl rfl, tu_tb_in 47 rfl rfl, co_X4_write⟩, by decide, by decide, by decide⟩
set_option maxRecDepth 20000 in
theorem co_X3_dropLine : Cond.code tu_Y_X3_dropLine.1 tu_Y_X3_dropLine.2.1 tu_Y_X3_dropLine.2.2.1 tu_Y_X3_dropLine.2.2.2.1 ∈ tu_tb := tu_tb_in 272 rfl rfl
set_option maxRecDepth 20000 in
theorem sv_RL_23 : tu_sV RL 23 tu_Y_X3_dropLine 1 := ⟨⟨tu_tb_in 269 rfl rfl, tu_tb_in 270 rfl rfl, tu_tb_in 271 rfl rfl, tu_tb_in 42 rfl rfl, co_X3_dropLine⟩, by decide, by decide, by decide⟩
set_option maxRecDepth 20000 in
theorem co_X4_dropLine : Cond.code tu_Y_X4_dropLine.1 tu_Y_X4_dropLine.2.1 tu_Y_X4_dropLine.2.2.1 tu_Y_X4_dropLine.2.2.2.1 ∈ tu_tb := tu_tb_in 619 rfl rfl
set_option maxRecDepth 20000 in
theorem sv_RL_27 : tu_sV RL 27 tu_Y_X4_dropLine 1 := ⟨⟨tu_tb_in 616 rfl rfl, tu_tb_in 617 rfl rfl, tu_tb_in 618 rfl rfl, tu_tb_in 47 rfl rfl, co_X4_dropLine⟩, by decide, by decide, by decide⟩
set_option maxRecDepth 20000 in
theorem co_X3_dropPhrase : Cond.code tu_Y_X3_dropPhrase.1 tu_Y_X3_dropPhrase.2.1 tu_Y_X3_dropPhrase.2.2.1 tu_Y_X3_dropPhrase.2.2.2.1 ∈ tu_tb := tu_tb_in 287 rfl rfl
set_option maxRecDepth 20000 in
theorem sv_RL_28 : tu_sV RL 28 tu_Y_X3_dropPhrase 1 := ⟨⟨tu_tb_in 284 rfl rfl, tu_tb_in 285 rfl rfl, tu_tb_in 286 rfl rfl, tu_tb_in 42 rfl rfl, co_X3_dropPhrase⟩, by decide, by decide, by decide⟩
set_option maxRecDepth 20000 in
theorem co_X4_dropPhrase : Cond.code tu_Y_X4_dropPhrase.1 tu_Y_X4_dropPhrase.2.1 tu_Y_X4_dropPhrase.2.2.1 tu_Y_X4_dropPhrase.2.2.2.1 ∈ tu_tb := tu_tb_in 631 rfl rfl
set_option maxRecDepth 20000 in
theorem sv_RL_31 : tu_sV RL 31 tu_Y_X4_dropPhrase 1 := ⟨⟨tu_tb_in 628 rfl rfl, tu_tb_in 629 rfl rfl, tu_tb_in 630 rfl rfl, tu_tb_in 47 rfl rfl, co_X4_dropPhrase⟩, by decide, by decide, by decide⟩
set_option maxRecDepth 20000 in
theorem co_X3_stress : Cond.code tu_Y_X3_stress.1 tu_Y_X3_stress.2.1 tu_Y_X3_stress.2.2.1 tu_Y_X3_stress.2.2.2.1 ∈ tu_tb := tu_tb_in 299 rfl rfl
set_option maxRecDepth 20000 in
theorem sv_RL_32 : tu_sV RL 32 tu_Y_X3_stress 3 := ⟨⟨tu_tb_in 296 rfl rfl, tu_tb_in 297 rfl rfl, tu_tb_in 298 rfl rfl, tu_tb_in 42 rfl rfl, co_X3_stress⟩, by decide, by decide, by decide⟩
set_option maxRecDepth 20000 in
theorem co_X4_stress : Cond.code tu_Y_X4_stress.1 tu_Y_X4_stress.2.1 tu_Y_X4_stress.2.2.1 tu_Y_X4_stress.2.2.2.1 ∈ tu_tb := tu_tb_in 639 rfl rfl
set_option maxRecDepth 20000 in
theorem sv_RL_36 : tu_sV RL 36 tu_Y_X4_stress 3 := ⟨⟨tu_tb_in 636 rfl rfl, tu_tb_in 637 rfl rfl, tu_tb_in 638 rfl rfl, tu_tb_in 47 rfl rfl, co_X4_stress⟩, by decide, by decide, by decide⟩
set_option maxRecDepth 20000 in
theorem co_X3_beat : Cond.code tu_Y_X3_beat.1 tu_Y_X3_beat.2.1 tu_Y_X3_beat.2.2.1 tu_Y_X3_beat.2.2.2.1 ∈ tu_tb := tu_tb_in 308 rfl rfl
set_option maxRecDepth 20000 in
theorem sv_RL_37 : tu_sV RL 37 tu_Y_X3_beat 3 := ⟨⟨tu_tb_in 305 rfl rfl, tu_tb_in 306 rfl rfl, tu_tb_in 307 rfl rfl, tu_tb_in 42 rfl rfl, co_X3_beat⟩, by decide, by decide, by decide⟩
set_option maxRecDepth 20000 in
theorem co_X4_beat : Cond.code tu_Y_X4_beat.1 tu_Y_X4_beat.2.1 tu_Y_X4_beat.2.2.1 tu_Y_X4_beat.2.2.2.1 ∈ tu_tb := tu_tb_in 651 rfl rfl
set_option maxRecDepth 20000 in
theorem sv_RL_41 : tu_sV RL 41 tu_Y_X4_beat 3 := ⟨⟨tu_tb_in 648 rfl rfl, tu_tb_in 649 rfl rfl, tu_tb_in 650 rfl rfl, tu_tb_in 47 rfl rfl, co_X4_beat⟩, by decide, by decide, by decide⟩
set_option maxRecDepth 20000 in
theorem co_X3_sing : Cond.code tu_Y_X3_sing.1 tu_Y_X3_sing.2.1 tu_Y_X3_sing.2.2.1 tu_Y_X3_sing.2.2.2.1 ∈ tu_tb := tu_tb_in 317 rfl rfl
set_option maxRecDepth 20000 in
theorem sv_RL_42 : tu_sV RL 42 tu_Y_X3_sing 1 := ⟨⟨tu_tb_in 314 rfl rfl, tu_tb_in 315 rfl rfl, tu_tb_in 316 rfl rfl, tu_tb_in 42 rfl rfl, co_X3_sing⟩, by decide, by decide, by decide⟩
set_option maxRecDepth 20000 in
theorem co_X4_sing : Cond.code tu_Y_X4_sing.1 tu_Y_X4_sing.2.1 tu_Y_X4_sing.2.2.1 tu_Y_X4_sing.2.2.2.1 ∈ tu_tb := tu_tb_in 670 rfl rfl
set_option maxRecDepth 20000 in
theorem sv_RL_45 : tu_sV RL 45 tu_Y_X4_sing 1 := ⟨⟨tu_tb_in 667 rfl rfl, tu_tb_in 668 rfl rfl, tu_tb_in 669 rfl rfl, tu_tb_in 47 rfl rfl, co_X4_sing⟩, by decide, by decide, by decide⟩
set_option maxRecDepth 20000 in
theorem co_X3_play : Cond.code tu_Y_X3_play.1 tu_Y_X3_play.2.1 tu_Y_X3_play.2.2.1 tu_Y_X3_play.2.2.2.1 ∈ tu_tb := tu_tb_in 325 rfl rfl
set_option maxRecDepth 20000 in
theorem sv_RL_46 : tu_sV RL 46 tu_Y_X3_play 1 := ⟨⟨tu_tb_in 322 rfl rfl, tu_tb_in 323 rfl rfl, tu_tb_in 324 rfl rfl, tu_tb_in 42 rfl rfl, co_X3_play⟩, by decide, by decide, by decide⟩
set_option maxRecDepth 20000 in
theorem co_X4_play : Cond.code tu_Y_X4_play.1 tu_Y_X4_play.2.1 tu_Y_X4_play.2.2.1 tu_Y_X4_play.2.2.2.1 ∈ tu_tb := tu_tb_in 678 rfl rfl
set_option maxRecDepth 20000 in
theorem sv_RL_49 : tu_sV RL 49 tu_Y_X4_play 1 := ⟨⟨tu_tb_in 675 rfl rfl, tu_tb_in 676 rfl rfl, tu_tb_in 677 rfl rfl, tu_tb_in 47 rfl rfl, co_X4_play⟩, by decide, by decide, by decide⟩
set_option maxRecDepth 20000 in
theorem co_X3_verse : Cond.code tu_Y_X3_verse.1 tu_Y_X3_verse.2.1 tu_Y_X3_verse.2.2.1 tu_Y_X3_verse.2.2.2.1 ∈ tu_tb := tu_tb_in 333 rfl rfl
set_option maxRecDepth 20000 in
theorem sv_RL_50 : tu_sV RL 50 tu_Y_X3_verse 3 := ⟨⟨tu_tb_in 330 rfl rfl, tu_tb_in 331 rfl rfl, tu_tb_in 332 rfl rfl, tu_tb_in 42 rfl rfl, co_X3_verse⟩, by decide, by decide, by decide⟩
set_option maxRecDepth 20000 in
theorem co_X4_verse : Cond.code tu_Y_X4_verse.1 tu_Y_X4_verse.2.1 tu_Y_X4_verse.2.2.1 tu_Y_X4_verse.2.2.2.1 ∈ tu_tb := tu_tb_in 682 rfl rfl
set_option maxRecDepth 20000 in
theorem sv_RL_53 : tu_sV RL 53 tu_Y_X4_verse 3 := ⟨⟨tu_tb_in 679 rfl rfl, tu_tb_in 680 rfl rfl, tu_tb_in 681 rfl rfl, tu_tb_in 47 rfl rfl, co_X4_verse⟩, by decide, by decide, by decide⟩
set_option maxRecDepth 20000 in
theorem co_X3_clear : Cond.code tu_Y_X3_clear.1 tu_Y_X3_clear.2.1 tu_Y_X3_clear.2.2.1 tu_Y_X3_clear.2.2.2.1 ∈ tu_tb := tu_tb_in 337 rfl rfl
set_option maxRecDepth 20000 in
theorem sv_RL_54 : tu_sV RL 54 tu_Y_X3_clear 1 := ⟨⟨tu_tb_in 334 rfl rfl, tu_tb_in 335 rfl rfl, tu_tb_in 336 rfl rfl, tu_tb_in 42 rfl rfl, co_X3_clear⟩, by decide, by decide, by decide⟩
set_option maxRecDepth 20000 in
theorem co_X4_clear : Cond.code tu_Y_X4_clear.1 tu_Y_X4_clear.2.1 tu_Y_X4_clear.2.2.1 tu_Y_X4_clear.2.2.2.1 ∈ tu_tb := tu_tb_in 686 rfl rfl
set_option maxRecDepth 20000 in
theorem sv_RL_58 : tu_sV RL 58 tu_Y_X4_clear 1 := ⟨⟨tu_tb_in 683 rfl rfl, tu_tb_in 684 rfl rfl, tu_tb_in 685 rfl rfl, tu_tb_in 47 rfl rfl, co_X4_clear⟩, by decide, by decide, by decide⟩
set_option maxRecDepth 20000 in
theorem co_X3_line : Cond.code tu_Y_X3_line.1 tu_Y_X3_line.2.1 tu_Y_X3_line.2.2.1 tu_Y_X3_line.2.2.2.1 ∈ tu_tb := tu_tb_in 341 rfl rfl
set_option maxRecDepth 20000 in
theorem sv_RL_59 : tu_sV RL 59 tu_Y_X3_line 2 := ⟨⟨tu_tb_in 338 rfl rfl, tu_tb_in 339 rfl rfl, tu_tb_in 340 rfl rfl, tu_tb_in 42 rfl rfl, co_X3_line⟩, by decide, by decide, by decide⟩
set_option maxRecDepth 20000 in
theorem co_X4_line : Cond.code tu_Y_X4_line.1 tu_Y_X4_line.2.1 tu_Y_X4_line.2.2.1 tu_Y_X4_line.2.2.2.1 ∈ tu_tb := tu_tb_in 690 rfl rfl
set_option maxRecDepth 20000 in
theorem sv_RL_62 : tu_sV RL 62 tu_Y_X4_line 2 := ⟨⟨tu_tb_in 687 rfl rfl, tu_tb_in 688 rfl rfl, tu_tb_in 689 rfl rfl, tu_tb_in 47 rfl rfl, co_X4_line⟩, by decide, by decide, by decide⟩
set_option maxRecDepth 20000 in
theorem co_X3_phrase : Cond.code tu_Y_X3_phrase.1 tu_Y_X3_phrase.2.1 tu_Y_X3_phrase.2.2.1 tu_Y_X3_phrase.2.2.2.1 ∈ tu_tb := tu_tb_in 394 rfl rfl
set_option maxRecDepth 20000 in
theorem sv_RL_63 : tu_sV RL 63 tu_Y_X3_phrase 2 := ⟨⟨tu_tb_in 391 rfl rfl, tu_tb_in 392 rfl rfl, tu_tb_in 393 rfl rfl, tu_tb_in 42 rfl rfl, co_X3_phrase⟩, by decide, by decide, by decide⟩
set_option maxRecDepth 20000 in
theorem co_X4_phrase : Cond.code tu_Y_X4_phrase.1 tu_Y_X4_phrase.2.1 tu_Y_X4_phrase.2.2.1 tu_Y_X4_phrase.2.2.2.1 ∈ tu_tb := tu_tb_in 742 rfl rfl
set_option maxRecDepth 20000 in
theorem sv_RL_66 : tu_sV RL 66 tu_Y_X4_phrase 2 := ⟨⟨tu_tb_in 739 rfl rfl, tu_tb_in 740 rfl rfl, tu_tb_in 741 rfl rfl, tu_tb_in 47 rfl rfl, co_X4_phrase⟩, by decide, by decide, by decide⟩
set_option maxRecDepth 20000 in
theorem co_X3_isStressed : Cond.code tu_Y_X3_isStressed.1 tu_Y_X3_isStressed.2.1 tu_Y_X3_isStressed.2.2.1 tu_Y_X3_isStressed.2.2.2.1 ∈ tu_tb := tu_tb_in 413 rfl rfl
set_option maxRecDepth 20000 in
theorem sv_RL_67 : tu_sV RL 67 tu_Y_X3_isStressed 2 := ⟨⟨tu_tb_in 410 rfl rfl, tu_tb_in 411 rfl rfl, tu_tb_in 412 rfl rfl, tu_tb_in 42 rfl rfl, co_X3_isStressed⟩, by decide, by decide, by decide⟩
set_option maxRecDepth 20000 in
theorem co_X4_isStressed : Cond.code tu_Y_X4_isStressed.1 tu_Y_X4_isStressed.2.1 tu_Y_X4_isStressed.2.2.1 tu_Y_X4_isStressed.2.2.2.1 ∈ tu_tb := tu_tb_in 754 rfl rfl
set_option maxRecDepth 20000 in
theorem sv_RL_70 : tu_sV RL 70 tu_Y_X4_isStressed 2 := ⟨⟨tu_tb_in 751 rfl rfl, tu_tb_in 752 rfl rfl, tu_tb_in 753 rfl rfl, tu_tb_in 47 rfl rfl, co_X4_isStressed⟩, by decide, by decide, by decide⟩
set_option maxRecDepth 20000 in
theorem co_X3_kindOf : Cond.code tu_Y_X3_kindOf.1 tu_Y_X3_kindOf.2.1 tu_Y_X3_kindOf.2.2.1 tu_Y_X3_kindOf.2.2.2.1 ∈ tu_tb := tu_tb_in 417 rfl rfl
set_option maxRecDepth 20000 in
theorem sv_RL_71 : tu_sV RL 71 tu_Y_X3_kindOf 2 := ⟨⟨tu_tb_in 414 rfl rfl, tu_tb_in 415 rfl rfl, tu_tb_in 416 rfl rfl, tu_tb_in 42 rfl rfl, co_X3_kindOf⟩, by decide, by decide, by decide⟩
set_option maxRecDepth 20000 in
theorem co_X4_kindOf : Cond.code tu_Y_X4_kindOf.1 tu_Y_X4_kindOf.2.1 tu_Y_X4_kindOf.2.2.1 tu_Y_X4_kindOf.2.2.2.1 ∈ tu_tb := tu_tb_in 758 rfl rfl
set_option maxRecDepth 20000 in
theorem sv_RL_74 : tu_sV RL 74 tu_Y_X4_kindOf 2 := ⟨⟨tu_tb_in 755 rfl rfl, tu_tb_in 756 rfl rfl, tu_tb_in 757 rfl rfl, tu_tb_in 47 rfl rfl, co_X4_kindOf⟩, by decide, by decide, by decide⟩
set_option maxRecDepth 20000 in
theorem co_X3_count : Cond.code tu_Y_X3_count.1 tu_Y_X3_count.2.1 tu_Y_X3_count.2.2.1 tu_Y_X3_count.2.2.2.1 ∈ tu_tb := tu_tb_in 421 rfl rfl
set_option maxRecDepth 20000 in
theorem sv_RL_75 : tu_sV RL 75 tu_Y_X3_count 1 := ⟨⟨tu_tb_in 418 rfl rfl, tu_tb_in 419 rfl rfl, tu_tb_in 420 rfl rfl, tu_tb_in 42 rfl rfl, co_X3_count⟩, by decide, by decide, by decide⟩
set_option maxRecDepth 20000 in
theorem co_X4_count : Cond.code tu_Y_X4_count.1 tu_Y_X4_count.2.1 tu_Y_X4_count.2.2.1 tu_Y_X4_count.2.2.2.1 ∈ tu_tb := tu_tb_in 762 rfl rfl
set_option maxRecDepth 20000 in
theorem sv_RL_78 : tu_sV RL 78 tu_Y_X4_count 1 := ⟨⟨tu_tb_in 759 rfl rfl, tu_tb_in 760 rfl rfl, tu_tb_in 761 rfl rfl, tu_tb_in 47 rfl rfl, co_X4_count⟩, by decide, by decide, by decide⟩
set_option maxRecDepth 20000 in
theorem co_X3_at : Cond.code tu_Y_X3_at.1 tu_Y_X3_at.2.1 tu_Y_X3_at.2.2.1 tu_Y_X3_at.2.2.2.1 ∈ tu_tb := tu_tb_in 430 rfl rfl
set_option maxRecDepth 20000 in
theorem sv_RL_79 : tu_sV RL 79 tu_Y_X3_at 2 := ⟨⟨tu_tb_in 427 rfl rfl, tu_tb_in 428 rfl rfl, tu_tb_in 429 rfl rfl, tu_tb_in 42 rfl rfl, co_X3_at⟩, by decide, by decide, by decide⟩
set_option maxRecDepth 20000 in
theorem co_X4_at : Cond.code tu_Y_X4_at.1 tu_Y_X4_at.2.1 tu_Y_X4_at.2.2.1 tu_Y_X4_at.2.2.2.1 ∈ tu_tb := tu_tb_in 770 rfl rfl
set_option maxRecDepth 20000 in
theorem sv_RL_83 : tu_sV RL 83 tu_Y_X4_at 2 := ⟨⟨tu_tb_in 767 rfl rfl, tu_tb_in 768 rfl rfl, tu_tb_in 769 rfl rfl, tu_tb_in 47 rfl rfl, co_X4_at⟩, by decide, by decide, by decide⟩
set_option maxRecDepth 20000 in
theorem co_X3_fit : Cond.code tu_Y_X3_fit.1 tu_Y_X3_fit.2.1 tu_Y_X3_fit.2.2.1 tu_Y_X3_fit.2.2.2.1 ∈ tu_tb := tu_tb_in 434 rfl rfl
set_option maxRecDepth 20000 in
theorem sv_RL_84 : tu_sV RL 84 tu_Y_X3_fit 3 := ⟨⟨tu_tb_in 431 rfl rfl, tu_tb_in 432 rfl rfl, tu_tb_in 433 rfl rfl, tu_tb_in 42 rfl rfl, co_X3_fit⟩, by decide, by decide, by decide⟩
set_option maxRecDepth 20000 in
theorem co_X4_fit : Cond.code tu_Y_X4_fit.1 tu_Y_X4_fit.2.1 tu_Y_X4_fit.2.2.1 tu_Y_X4_fit.2.2.2.1 ∈ tu_tb := tu_tb_in 774 rfl rfl
set_option maxRecDepth 20000 in
theorem sv_RL_87 : tu_sV RL 87 tu_Y_X4_fit 3 := ⟨⟨tu_tb_in 771 rfl rfl, tu_tb_in 772 rfl rfl, tu_tb_in 773 rfl rfl, tu_tb_in 47 rfl rfl, co_X4_fit⟩, by decide, by decide, by decide⟩
set_option maxRecDepth 20000 in
theorem co_X3_lies : Cond.code tu_Y_X3_lies.1 tu_Y_X3_lies.2.1 tu_Y_X3_lies.2.2.1 tu_Y_X3_lies.2.2.2.1 ∈ tu_tb := tu_tb_in 462 rfl rfl
set_option maxRecDepth 20000 in
theorem sv_RL_88 : tu_sV RL 88 tu_Y_X3_lies 4 := ⟨⟨tu_tb_in 459 rfl rfl, tu_tb_in 460 rfl rfl, tu_tb_in 461 rfl rfl, tu_tb_in 42 rfl rfl, co_X3_lies⟩, by decide, by decide, by decide⟩
set_option maxRecDepth 20000 in
theorem co_X4_lies : Cond.code tu_Y_X4_lies.1 tu_Y_X4_lies.2.1 tu_Y_X4_lies.2.2.1 tu_Y_X4_lies.2.2.2.1 ∈ tu_tb := tu_tb_in 794 rfl rfl
set_option maxRecDepth 20000 in
theorem sv_RL_92 : tu_sV RL 92 tu_Y_X4_lies 4 := ⟨⟨tu_tb_in 791 rfl rfl, tu_tb_in 792 rfl rfl, tu_tb_in 793 rfl rfl, tu_tb_in 47 rfl rfl, co_X4_lies⟩, by decide, by decide, by decide⟩
set_option maxRecDepth 20000 in
theorem co_X3_whole : Cond.code tu_Y_X3_whole.1 tu_Y_X3_whole.2.1 tu_Y_X3_whole.2.2.1 tu_Y_X3_whole.2.2.2.1 ∈ tu_tb := tu_tb_in 467 rfl rfl
set_option maxRecDepth 20000 in
theorem sv_RL_93 : tu_sV RL 93 tu_Y_X3_whole 1 := ⟨⟨tu_tb_in 464 rfl rfl, tu_tb_in 465 rfl rfl, tu_tb_in 466 rfl rfl, tu_tb_in 42 rfl rfl, co_X3_whole⟩, by decide, by decide, by decide⟩
set_option maxRecDepth 20000 in
theorem co_X4_whole : Cond.code tu_Y_X4_whole.1 tu_Y_X4_whole.2.1 tu_Y_X4_whole.2.2.1 tu_Y_X4_whole.2.2.2.1 ∈ tu_tb := tu_tb_in 798 rfl rfl
set_option maxRecDepth 20000 in
theorem sv_RL_96 : tu_sV RL 96 tu_Y_X4_whole 1 := ⟨⟨tu_tb_in 795 rfl rfl, tu_tb_in 796 rfl rfl, tu_tb_in 797 rfl rfl, tu_tb_in 47 rfl rfl, co_X4_whole⟩, by decide, by decide, by decide⟩
set_option maxRecDepth 20000 in
theorem co_X3_bestPhrase : Cond.code tu_Y_X3_bestPhrase.1 tu_Y_X3_bestPhrase.2.1 tu_Y_X3_bestPhrase.2.2.1 tu_Y_X3_bestPhrase.2.2.2.1 ∈ tu_tb := tu_tb_in 471 rfl rfl
set_option maxRecDepth 20000 in
theorem sv_RL_97 : tu_sV RL 97 tu_Y_X3_bestPhrase 0 := ⟨⟨tu_tb_in 468 rfl rfl, tu_tb_in 469 rfl rfl, tu_tb_in 470 rfl rfl, tu_tb_in 42 rfl rfl, co_X3_bestPhrase⟩, by decide, by decide, by decide⟩
set_option maxRecDepth 20000 in
theorem co_X4_bestPhrase : Cond.code tu_Y_X4_bestPhrase.1 tu_Y_X4_bestPhrase.2.1 tu_Y_X4_bestPhrase.2.2.1 tu_Y_X4_bestPhrase.2.2.2.1 ∈ tu_tb := tu_tb_in 806 rfl rfl
set_option maxRecDepth 20000 in
theorem sv_RL_100 : tu_sV RL 100 tu_Y_X4_bestPhrase 0 := ⟨⟨tu_tb_in 803 rfl rfl, tu_tb_in 804 rfl rfl, tu_tb_in 805 rfl rfl, tu_tb_in 47 rfl rfl, co_X4_bestPhrase⟩, by decide, by decide, by decide⟩
set_option maxRecDepth 20000 in
theorem co_X3_bestChange : Cond.code tu_Y_X3_bestChange.1 tu_Y_X3_bestChange.2.1 tu_Y_X3_bestChange.2.2.1 tu_Y_X3_bestChange.2.2.2.1 ∈ tu_tb := tu_tb_in 475 rfl rfl
set_option maxRecDepth 20000 in
theorem sv_RL_101 : tu_sV RL 101 tu_Y_X3_bestChange 3 := ⟨⟨tu_tb_in 472 rfl rfl, tu_tb_in 473 rfl rfl, tu_tb_in 474 rfl rfl, tu_tb_in 42 rfl rfl, co_X3_bestChange⟩, by decide, by decide, by decide⟩
set_option maxRecDepth 20000 in
theorem co_X4_bestChange : Cond.code tu_Y_X4_bestChange.1 tu_Y_X4_bestChange.2.1 tu_Y_X4_bestChange.2.2.1 tu_Y_X4_bestChange.2.2.2.1 ∈ tu_tb := tu_tb_in 810 rfl rfl
set_option maxRecDepth 20000 in
theorem sv_RL_104 : tu_sV RL 104 tu_Y_X4_bestChange 3 := ⟨⟨tu_tb_in 807 rfl rfl, tu_tb_in 808 rfl rfl, tu_tb_in 809 rfl rfl, tu_tb_in 47 rfl rfl, co_X4_bestChange⟩, by decide, by decide, by decide⟩
set_option maxRecDepth 20000 in
theorem co_X3_enoughBreath : Cond.code tu_Y_X3_enoughBreath.1 tu_Y_X3_enoughBreath.2.1 tu_Y_X3_enoughBreath.2.2.1 tu_Y_X3_enoughBreath.2.2.2.1 ∈ tu_tb := tu_tb_in 483 rfl rfl
set_option maxRecDepth 20000 in
theorem sv_RL_105 : tu_sV RL 105 tu_Y_X3_enoughBreath 2 := ⟨⟨tu_tb_in 480 rfl rfl, tu_tb_in 481 rfl rfl, tu_tb_in 482 rfl rfl, tu_tb_in 42 rfl rfl, co_X3_enoughBreath⟩, by decide, by decide, by decide⟩
set_option maxRecDepth 20000 in
theorem co_X4_enoughBreath : Cond.code tu_Y_X4_enoughBreath.1 tu_Y_X4_enoughBreath.2.1 tu_Y_X4_enoughBreath.2.2.1 tu_Y_X4_enoughBreath.2.2.2.1 ∈ tu_tb := tu_tb_in 814 rfl rfl
set_option maxRecDepth 20000 in
theorem sv_RL_108 : tu_sV RL 108 tu_Y_X4_enoughBreath 2 := ⟨⟨tu_tb_in 811 rfl rfl, tu_tb_in 812 rfl rfl, tu_tb_in 813 rfl rfl, tu_tb_in 47 rfl rfl, co_X4_enoughBreath⟩, by decide, by decide, by decide⟩
set_option maxRecDepth 20000 in
theorem co_X3_put : Cond.code tu_Y_X3_put.1 tu_Y_X3_put.2.1 tu_Y_X3_put.2.2.1 tu_Y_X3_put.2.2.2.1 ∈ tu_tb := tu_tb_in 487 rfl rfl
set_option maxRecDepth 20000 in
theorem sv_RL_111 : tu_sV RL 111 tu_Y_X3_put 1 := ⟨⟨tu_tb_in 484 rfl rfl, tu_tb_in 485 rfl rfl, tu_tb_in 486 rfl rfl, tu_tb_in 42 rfl rfl, co_X3_put⟩, by decide, by decide, by decide⟩
set_option maxRecDepth 20000 in
theorem co_X4_put : Cond.code tu_Y_X4_put.1 tu_Y_X4_put.2.1 tu_Y_X4_put.2.2.1 tu_Y_X4_put.2.2.2.1 ∈ tu_tb := tu_tb_in 818 rfl rfl
set_option maxRecDepth 20000 in
theorem sv_RL_115 : tu_sV RL 115 tu_Y_X4_put 1 := ⟨⟨tu_tb_in 815 rfl rfl, tu_tb_in 816 rfl rfl, tu_tb_in 817 rfl rfl, tu_tb_in 47 rfl rfl, co_X4_put⟩, by decide, by decide, by decide⟩
set_option maxRecDepth 20000 in
theorem co_X3_wipe : Cond.code tu_Y_X3_wipe.1 tu_Y_X3_wipe.2.1 tu_Y_X3_wipe.2.2.1 tu_Y_X3_wipe.2.2.2.1 ∈ tu_tb := tu_tb_in 501 rfl rfl
set_option maxRecDepth 20000 in
theorem sv_RL_116 : tu_sV RL 116 tu_Y_X3_wipe 0 := ⟨⟨tu_tb_in 498 rfl rfl, tu_tb_in 499 rfl rfl, tu_tb_in 500 rfl rfl, tu_tb_in 42 rfl rfl, co_X3_wipe⟩, by decide, by decide, by decide⟩
set_option maxRecDepth 20000 in
theorem co_X4_wipe : Cond.code tu_Y_X4_wipe.1 tu_Y_X4_wipe.2.1 tu_Y_X4_wipe.2.2.1 tu_Y_X4_wipe.2.2.2.1 ∈ tu_tb := tu_tb_in 823 rfl rfl
set_option maxRecDepth 20000 in
theorem sv_RL_119 : tu_sV RL 119 tu_Y_X4_wipe 0 := ⟨⟨tu_tb_in 820 rfl rfl, tu_tb_in 821 rfl rfl, tu_tb_in 822 rfl rfl, tu_tb_in 47 rfl rfl, co_X4_wipe⟩, by decide, by decide, by decide⟩
set_option maxRecDepth 20000 in
theorem co_X3_fault : Cond.code tu_Y_X3_fault.1 tu_Y_X3_fault.2.1 tu_Y_X3_fault.2.2.1 tu_Y_X3_fault.2.2.2.1 ∈ tu_tb := tu_tb_in 505 rfl rfl
set_option maxRecDepth 20000 in
theorem sv_RL_120 : tu_sV RL 120 tu_Y_X3_fault 0 := ⟨⟨tu_tb_in 502 rfl rfl, tu_tb_in 503 rfl rfl, tu_tb_in 504 rfl rfl, tu_tb_in 42 rfl rfl, co_X3_fault⟩, by decide, by decide, by decide⟩
set_option maxRecDepth 20000 in
theorem co_X4_fault : Cond.code tu_Y_X4_fault.1 tu_Y_X4_fault.2.1 tu_Y_X4_fault.2.2.1 tu_Y_X4_fault.2.2.2.1 ∈ tu_tb := tu_tb_in 827 rfl rfl
set_option maxRecDepth 20000 in
theorem sv_RL_123 : tu_sV RL 123 tu_Y_X4_fault 0 := ⟨⟨tu_tb_in 824 rfl rfl, tu_tb_in 825 rfl rfl, tu_tb_in 826 rfl rfl, tu_tb_in 47 rfl rfl, co_X4_fault⟩, by decide, by decide, by decide⟩
set_option maxRecDepth 20000 in
theorem co_X3_undo : Cond.code tu_Y_X3_undo.1 tu_Y_X3_undo.2.1 tu_Y_X3_undo.2.2.1 tu_Y_X3_undo.2.2.2.1 ∈ tu_tb := tu_tb_in 509 rfl rfl
set_option maxRecDepth 20000 in
theorem sv_RL_124 : tu_sV RL 124 tu_Y_X3_undo 0 := ⟨⟨tu_tb_in 506 rfl rfl, tu_tb_in 507 rfl rfl, tu_tb_in 508 rfl rfl, tu_tb_in 42 rfl rfl, co_X3_undo⟩, by decide, by decide, by decide⟩
set_option maxRecDepth 20000 in
theorem co_X4_undo : Cond.code tu_Y_X4_undo.1 tu_Y_X4_undo.2.1 tu_Y_X4_undo.2.2.1 tu_Y_X4_undo.2.2.2.1 ∈ tu_tb := tu_tb_in 831 rfl rfl
set_option maxRecDepth 20000 in
theorem sv_RL_127 : tu_sV RL 127 tu_Y_X4_undo 0 := ⟨⟨tu_tb_in 828 rfl rfl, tu_tb_in 829 rfl rfl, tu_tb_in 830 rfl rfl, tu_tb_in 47 rfl rfl, co_X4_undo⟩, by decide, by decide, by decide⟩
set_option maxRecDepth 20000 in
theorem co_X3_save : Cond.code tu_Y_X3_save.1 tu_Y_X3_save.2.1 tu_Y_X3_save.2.2.1 tu_Y_X3_save.2.2.2.1 ∈ tu_tb := tu_tb_in 513 rfl rfl
set_option maxRecDepth 20000 in
theorem sv_RL_128 : tu_sV RL 128 tu_Y_X3_save 1 := ⟨⟨tu_tb_in 510 rfl rfl, tu_tb_in 511 rfl rfl, tu_tb_in 512 rfl rfl, tu_tb_in 42 rfl rfl, co_X3_save⟩, by decide, by decide, by decide⟩
set_option maxRecDepth 20000 in
theorem co_X4_save : Cond.code tu_Y_X4_save.1 tu_Y_X4_save.2.1 tu_Y_X4_save.2.2.1 tu_Y_X4_save.2.2.2.1 ∈ tu_tb := tu_tb_in 835 rfl rfl
set_option maxRecDepth 20000 in
theorem sv_RL_131 : tu_sV RL 131 tu_Y_X4_save 1 := ⟨⟨tu_tb_in 832 rfl rfl, tu_tb_in 833 rfl rfl, tu_tb_in 834 rfl rfl, tu_tb_in 47 rfl rfl, co_X4_save⟩, by decide, by decide, by decide⟩
set_option maxRecDepth 20000 in
theorem co_X3_restore : Cond.code tu_Y_X3_restore.1 tu_Y_X3_restore.2.1 tu_Y_X3_restore.2.2.1 tu_Y_X3_restore.2.2.2.1 ∈ tu_tb := tu_tb_in 517 rfl rfl
set_option maxRecDepth 20000 in
theorem sv_RL_132 : tu_sV RL 132 tu_Y_X3_restore 1 := ⟨⟨tu_tb_in 514 rfl rfl, tu_tb_in 515 rfl rfl, tu_tb_in 516 rfl rfl, tu_tb_in 42 rfl rfl, co_X3_restore⟩, by decide, by decide, by decide⟩
set_option maxRecDepth 20000 in
theorem co_X4_restore : Cond.code tu_Y_X4_restore.1 tu_Y_X4_restore.2.1 tu_Y_X4_restore.2.2.1 tu_Y_X4_restore.2.2.2.1 ∈ tu_tb := tu_tb_in 839 rfl rfl
set_option maxRecDepth 20000 in
theorem sv_RL_135 : tu_sV RL 135 tu_Y_X4_restore 1 := ⟨⟨tu_tb_in 836 rfl rfl, tu_tb_in 837 rfl rfl, tu_tb_in 838 rfl rfl, tu_tb_in 47 rfl rfl, co_X4_restore⟩, by decide, by decide, by decide⟩
theorem iw_X0 : ∀ w ∈ u_ws RX0 TX0 11, w ∈ tu_tb := by decide +kernel
theorem iw_X1 : ∀ w ∈ u_ws RX1 TX1 13, w ∈ tu_tb := by decide +kernel
theorem iw_X2 : ∀ w ∈ u_ws RX2 TX2 2, w ∈ tu_tb := by decide +kernel
theorem iw_X3 : ∀ w ∈ u_ws RX3 TX3 7, w ∈ tu_tb := by decide +kernel
theorem iw_X4 : ∀ w ∈ u_ws RX4 TX4 18, w ∈ tu_tb := by decide +kernel
set_option maxRecDepth 20000 in
theorem fl_RX0_9 : tu_fl RX0 9 0 0 := ⟨RX0, TX0, 11, rfl, by decide, iw_X0, tu_tb_in 68 rfl rfl⟩
set_option maxRecDepth 20000 in
theorem fl_RX0_15 : tu_fl RX0 15 0 1 := ⟨RX0, TX0, 11, rfl, by decide, iw_X0, tu_tb_in 71 rfl rfl⟩
set_option maxRecDepth 20000 in
theorem fp_RX0_15 : tu_fp RX0 15 0 1 := ⟨RX0, TX0, 11, rfl, by decide, iw_X0, tu_tb_in 71 rfl rfl, rfl, by decide +kernel, ⟨tyX0, tyX0_ok⟩, nmX0⟩
set_option maxRecDepth 20000 in
theorem fl_RX0_19 : tu_fl RX0 19 0 2 := ⟨RX0, TX0, 11, rfl, by decide, iw_X0, tu_tb_in 73 rfl rfl⟩
set_option maxRecDepth 20000 in
theorem fl_RX0_22 : tu_fl RX0 22 0 3 := ⟨RX0, TX0, 11, rfl, by decide, iw_X0, tu_tb_in 76 rfl rfl⟩
set_option maxRecDepth 20000 in
theorem fl_RX0_25 : tu_fl RX0 25 0 4 := ⟨RX0, TX0, 11, rfl, by decide, iw_X0, tu_tb_in 79 rfl rfl⟩
set_option maxRecDepth 20000 in
theorem fp_RX0_25 : tu_fp RX0 25 0 4 := ⟨RX0, TX0, 11, rfl, by decide, iw_X0, tu_tb_in 79 rfl rfl, rfl, by decide +kernel, ⟨tyX0, tyX0_ok⟩, nmX0⟩
set_option maxRecDepth 20000 in
theorem fl_RX0_28 : tu_fl RX0 28 0 5 := ⟨RX0, TX0, 11, rfl, by decide, iw_X0, tu_tb_in 81 rfl rfl⟩
set_option maxRecDepth 20000 in
theorem fl_RX0_31 : tu_fl RX0 31 0 6 := ⟨RX0, TX0, 11, rfl, by decide, iw_X0, tu_tb_in 84 rfl rfl⟩
set_option maxRecDepth 20000 in
theorem fl_RX0_34 : tu_fl RX0 34 0 7 := ⟨RX0, TX0, 11, rfl, by decide, iw_X0, tu_tb_in 87 rfl rfl⟩
set_option maxRecDepth 20000 in
theorem fp_RX0_34 : tu_fp RX0 34 0 7 := ⟨RX0, TX0, 11, rfl, by decide, iw_X0, tu_tb_in 87 rfl rfl, rfl, by decide +kernel, ⟨tyX0, tyX0_ok⟩, nmX0⟩
set_option maxRecDepth 20000 in
theorem fl_RX0_37 : tu_fl RX0 37 0 8 := ⟨RX0, TX0, 11, rfl, by decide, iw_X0, tu_tb_in 89 rfl rfl⟩
set_option maxRecDepth 20000 in
theorem fl_RX0_40 : tu_fl RX0 40 0 9 := ⟨RX0, TX0, 11, rfl, by decide, iw_X0, tu_tb_in 91 rfl rfl⟩
set_option maxRecDepth 20000 in
theorem fp_RX0_40 : tu_fp RX0 40 0 9 := ⟨RX0, TX0, 11, rfl, by decide, iw_X0, tu_tb_in 91 rfl rfl, rfl, by decide +kernel, ⟨tyX0, tyX0_ok⟩, nmX0⟩
set_option maxRecDepth 20000 in
theorem fl_RX0_43 : tu_fl RX0 43 0 10 := ⟨RX0, TX0, 11, rfl, by decide, iw_X0, tu_tb_in 93 rfl rfl⟩
set_option maxRecDepth 20000 in
theorem fl_RX1_52 : tu_fl RX1 52 0 0 := ⟨RX0, TX0, 11, rfl, by decide, iw_X0, tu_tb_in 69 rfl rfl⟩
set_option maxRecDepth 20000 in
theorem fl_RX1_9 : tu_fl RX1 9 1 0 := ⟨RX1, TX1, 13, rfl, by decide, iw_X1, tu_tb_in 141 rfl rfl⟩
set_option maxRecDepth 20000 in
theorem fp_RX1_9 : tu_fp RX1 9 1 0 := ⟨RX1, TX1, 13, rfl, by decide, iw_X1, tu_tb_in 141 rfl rfl, rfl, by decide +kernel, ⟨tyX1, tyX1_ok⟩, nmX1⟩
set_option maxRecDepth 20000 in
theorem fl_RX1_15 : tu_fl RX1 15 1 1 := ⟨RX1, TX1, 13, rfl, by decide, iw_X1, tu_tb_in 143 rfl rfl⟩
set_option maxRecDepth 20000 in
theorem fp_RX1_15 : tu_fp RX1 15 1 1 := ⟨RX1, TX1, 13, rfl, by decide, iw_X1, tu_tb_in 143 rfl rfl, rfl, by decide +kernel, ⟨tyX1, tyX1_ok⟩, nmX1⟩
set_option maxRecDepth 20000 in
theorem fl_RX1_18 : tu_fl RX1 18 1 2 := ⟨RX1, TX1, 13, rfl, by decide, iw_X1, tu_tb_in 144 rfl rfl⟩
set_option maxRecDepth 20000 in
theorem fp_RX1_18 : tu_fp RX1 18 1 2 := ⟨RX1, TX1, 13, rfl, by decide, iw_X1, tu_tb_in 144 rfl rfl, rfl, by decide +kernel, ⟨tyX1, tyX1_ok⟩, nmX1⟩
set_option maxRecDepth 20000 in
theorem fl_RX1_21 : tu_fl RX1 21 1 3 := ⟨RX1, TX1, 13, rfl, by decide, iw_X1, tu_tb_in 145 rfl rfl⟩
set_option maxRecDepth 20000 in
theorem fp_RX1_21 : tu_fp RX1 21 1 3 := ⟨RX1, TX1, 13, rfl, by decide, iw_X1, tu_tb_in 145 rfl rfl, rfl, by decide +kernel, ⟨tyX1, tyX1_ok⟩, nmX1⟩
set_option maxRecDepth 20000 in
theorem fl_RX1_57 : tu_fl RX1 57 0 2 := ⟨RX0, TX0, 11, rfl, by decide, iw_X0, tu_tb_in 74 rfl rfl⟩
set_option maxRecDepth 20000 in
theorem fl_RX1_24 : tu_fl RX1 24 1 4 := ⟨RX1, TX1, 13, rfl, by decide, iw_X1, tu_tb_in 146 rfl rfl⟩
set_option maxRecDepth 20000 in
theorem fp_RX1_24 : tu_fp RX1 24 1 4 := ⟨RX1, TX1, 13, rfl, by decide, iw_X1, tu_tb_in 146 rfl rfl, rfl, by decide +kernel, ⟨tyX1, tyX1_ok⟩, nmX1⟩
set_option maxRecDepth 20000 in
theorem fl_RX1_60 : tu_fl RX1 60 0 5 := ⟨RX0, TX0, 11, rfl, by decide, iw_X0, tu_tb_in 82 rfl rfl⟩
set_option maxRecDepth 20000 in
theorem fl_RX1_27 : tu_fl RX1 27 1 5 := ⟨RX1, TX1, 13, rfl, by decide, iw_X1, tu_tb_in 147 rfl rfl⟩
set_option maxRecDepth 20000 in
theorem fp_RX1_27 : tu_fp RX1 27 1 5 := ⟨RX1, TX1, 13, rfl, by decide, iw_X1, tu_tb_in 147 rfl rfl, rfl, by decide +kernel, ⟨tyX1, tyX1_ok⟩, nmX1⟩
set_option maxRecDepth 20000 in
theorem fl_RX1_63 : tu_fl RX1 63 0 3 := ⟨RX0, TX0, 11, rfl, by decide, iw_X0, tu_tb_in 77 rfl rfl⟩
set_option maxRecDepth 20000 in
theorem fl_RX1_30 : tu_fl RX1 30 1 6 := ⟨RX1, TX1, 13, rfl, by decide, iw_X1, tu_tb_in 148 rfl rfl⟩
set_option maxRecDepth 20000 in
theorem fl_RX1_70 : tu_fl RX1 70 0 6 := ⟨RX0, TX0, 11, rfl, by decide, iw_X0, tu_tb_in 85 rfl rfl⟩
set_option maxRecDepth 20000 in
theorem fl_RX1_34 : tu_fl RX1 34 1 7 := ⟨RX1, TX1, 13, rfl, by decide, iw_X1, tu_tb_in 149 rfl rfl⟩
set_option maxRecDepth 20000 in
theorem fl_RX1_37 : tu_fl RX1 37 1 8 := ⟨RX1, TX1, 13, rfl, by decide, iw_X1, tu_tb_in 150 rfl rfl⟩
set_option maxRecDepth 20000 in
theorem fl_RX1_40 : tu_fl RX1 40 1 9 := ⟨RX1, TX1, 13, rfl, by decide, iw_X1, tu_tb_in 151 rfl rfl⟩
set_option maxRecDepth 20000 in
theorem fl_RX1_43 : tu_fl RX1 43 1 10 := ⟨RX1, TX1, 13, rfl, by decide, iw_X1, tu_tb_in 152 rfl rfl⟩
set_option maxRecDepth 20000 in
theorem fl_RX1_46 : tu_fl RX1 46 1 11 := ⟨RX1, TX1, 13, rfl, by decide, iw_X1, tu_tb_in 153 rfl rfl⟩
set_option maxRecDepth 20000 in
theorem fl_RX1_49 : tu_fl RX1 49 1 12 := ⟨RX1, TX1, 13, rfl, by decide, iw_X1, tu_tb_in 155 rfl rfl⟩
set_option maxRecDepth 20000 in
theorem fl_RX2_15 : tu_fl RX2 15 2 1 := ⟨RX2, TX2, 2, rfl, by decide, iw_X2, tu_tb_in 127 rfl rfl⟩
set_option maxRecDepth 20000 in
theorem fp_RX2_15 : tu_fp RX2 15 2 1 := ⟨RX2, TX2, 2, rfl, by decide, iw_X2, tu_tb_in 127 rfl rfl, rfl, by decide +kernel, ⟨tyX2, tyX2_ok⟩, nmX2⟩
set_option maxRecDepth 20000 in
theorem fl_RX2_9 : tu_fl RX2 9 2 0 := ⟨RX2, TX2, 2, rfl, by decide, iw_X2, tu_tb_in 125 rfl rfl⟩
set_option maxRecDepth 20000 in
theorem fl_RX3_10 : tu_fl RX3 10 3 0 := ⟨RX3, TX3, 7, rfl, by decide, iw_X3, tu_tb_in 185 rfl rfl⟩
set_option maxRecDepth 20000 in
theorem fl_RX3_55 : tu_fl RX3 55 0 0 := ⟨RX0, TX0, 11, rfl, by decide, iw_X0, tu_tb_in 70 rfl rfl⟩
set_option maxRecDepth 20000 in
theorem fl_RX3_19 : tu_fl RX3 19 3 1 := ⟨RX3, TX3, 7, rfl, by decide, iw_X3, tu_tb_in 186 rfl rfl⟩
set_option maxRecDepth 20000 in
theorem fl_RX3_68 : tu_fl RX3 68 0 1 := ⟨RX0, TX0, 11, rfl, by decide, iw_X0, tu_tb_in 72 rfl rfl⟩
set_option maxRecDepth 20000 in
theorem fl_RX3_71 : tu_fl RX3 71 0 4 := ⟨RX0, TX0, 11, rfl, by decide, iw_X0, tu_tb_in 80 rfl rfl⟩
set_option maxRecDepth 20000 in
theorem fl_RX3_74 : tu_fl RX3 74 2 1 := ⟨RX2, TX2, 2, rfl, by decide, iw_X2, tu_tb_in 128 rfl rfl⟩
set_option maxRecDepth 20000 in
theorem fp_RX3_74 : tu_fp RX3 74 2 1 := ⟨RX2, TX2, 2, rfl, by decide, iw_X2, tu_tb_in 128 rfl rfl, rfl, by decide +kernel, ⟨tyX2, tyX2_ok⟩, nmX2⟩
set_option maxRecDepth 20000 in
theorem fl_RX3_81 : tu_fl RX3 81 2 0 := ⟨RX2, TX2, 2, rfl, by decide, iw_X2, tu_tb_in 126 rfl rfl⟩
set_option maxRecDepth 20000 in
theorem fl_RX3_100 : tu_fl RX3 100 0 7 := ⟨RX0, TX0, 11, rfl, by decide, iw_X0, tu_tb_in 88 rfl rfl⟩
set_option maxRecDepth 20000 in
theorem fp_RX3_100 : tu_fp RX3 100 0 7 := ⟨RX0, TX0, 11, rfl, by decide, iw_X0, tu_tb_in 88 rfl rfl, rfl, by decide +kernel, ⟨tyX0, tyX0_ok⟩, nmX0⟩
set_option maxRecDepth 20000 in
theorem fl_RX3_109 : tu_fl RX3 109 0 9 := ⟨RX0, TX0, 11, rfl, by decide, iw_X0, tu_tb_in 92 rfl rfl⟩
set_option maxRecDepth 20000 in
theorem fp_RX3_109 : tu_fp RX3 109 0 9 := ⟨RX0, TX0, 11, rfl, by decide, iw_X0, tu_tb_in 92 rfl rfl, rfl, by decide +kernel, ⟨tyX0, tyX0_ok⟩, nmX0⟩
set_option maxRecDepth 20000 in
theorem fl_RX3_116 : tu_fl RX3 116 0 3 := ⟨RX0, TX0, 11, rfl, by decide, iw_X0, tu_tb_in 78 rfl rfl⟩
set_option maxRecDepth 20000 in
theorem fl_RX3_122 : tu_fl RX3 122 0 6 := ⟨RX0, TX0, 11, rfl, by decide, iw_X0, tu_tb_in 86 rfl rfl⟩
set_option maxRecDepth 20000 in
theorem fl_RX3_131 : tu_fl RX3 131 0 2 := ⟨RX0, TX0, 11, rfl, by decide, iw_X0, tu_tb_in 75 rfl rfl⟩
set_option maxRecDepth 20000 in
theorem fl_RX3_144 : tu_fl RX3 144 0 5 := ⟨RX0, TX0, 11, rfl, by decide, iw_X0, tu_tb_in 83 rfl rfl⟩
set_option maxRecDepth 20000 in
theorem fl_RX3_34 : tu_fl RX3 34 3 4 := ⟨RX3, TX3, 7, rfl, by decide, iw_X3, tu_tb_in 189 rfl rfl⟩
set_option maxRecDepth 20000 in
theorem fp_RX3_34 : tu_fp RX3 34 3 4 := ⟨RX3, TX3, 7, rfl, by decide, iw_X3, tu_tb_in 189 rfl rfl, rfl, by decide +kernel, ⟨tyX3, tyX3_ok⟩, nmX3⟩
set_option maxRecDepth 20000 in
theorem fl_RX3_160 : tu_fl RX3 160 0 10 := ⟨RX0, TX0, 11, rfl, by decide, iw_X0, tu_tb_in 94 rfl rfl⟩
set_option maxRecDepth 20000 in
theorem fl_RX3_163 : tu_fl RX3 163 0 8 := ⟨RX0, TX0, 11, rfl, by decide, iw_X0, tu_tb_in 90 rfl rfl⟩
set_option maxRecDepth 20000 in
theorem fl_RX3_26 : tu_fl RX3 26 3 2 := ⟨RX3, TX3, 7, rfl, by decide, iw_X3, tu_tb_in 187 rfl rfl⟩
set_option maxRecDepth 20000 in
theorem fl_RX3_183 : tu_fl RX3 183 1 11 := ⟨RX1, TX1, 13, rfl, by decide, iw_X1, tu_tb_in 154 rfl rfl⟩
set_option maxRecDepth 20000 in
theorem fl_RX3_186 : tu_fl RX3 186 1 12 := ⟨RX1, TX1, 13, rfl, by decide, iw_X1, tu_tb_in 156 rfl rfl⟩
set_option maxRecDepth 20000 in
theorem fl_RX3_199 : tu_fl RX3 199 1 0 := ⟨RX1, TX1, 13, rfl, by decide, iw_X1, tu_tb_in 142 rfl rfl⟩
set_option maxRecDepth 20000 in
theorem fp_RX3_199 : tu_fp RX3 199 1 0 := ⟨RX1, TX1, 13, rfl, by decide, iw_X1, tu_tb_in 142 rfl rfl, rfl, by decide +kernel, ⟨tyX1, tyX1_ok⟩, nmX1⟩
set_option maxRecDepth 20000 in
theorem fl_RX3_30 : tu_fl RX3 30 3 3 := ⟨RX3, TX3, 7, rfl, by decide, iw_X3, tu_tb_in 188 rfl rfl⟩
set_option maxRecDepth 20000 in
theorem fl_RX3_38 : tu_fl RX3 38 3 5 := ⟨RX3, TX3, 7, rfl, by decide, iw_X3, tu_tb_in 190 rfl rfl⟩
set_option maxRecDepth 20000 in
theorem fl_RX3_41 : tu_fl RX3 41 3 6 := ⟨RX3, TX3, 7, rfl, by decide, iw_X3, tu_tb_in 191 rfl rfl⟩
set_option maxRecDepth 20000 in
theorem fl_RX4_40 : tu_fl RX4 40 4 2 := ⟨RX4, TX4, 18, rfl, by decide, iw_X4, tu_tb_in 526 rfl rfl⟩
set_option maxRecDepth 20000 in
theorem fp_RX4_40 : tu_fp RX4 40 4 2 := ⟨RX4, TX4, 18, rfl, by decide, iw_X4, tu_tb_in 526 rfl rfl, rfl, by decide +kernel, ⟨tyX4, tyX4_ok⟩, nmX4⟩
set_option maxRecDepth 20000 in
theorem fl_RX4_13 : tu_fl RX4 13 4 1 := ⟨RX4, TX4, 18, rfl, by decide, iw_X4, tu_tb_in 525 rfl rfl⟩
set_option maxRecDepth 20000 in
theorem fl_RX4_7 : tu_fl RX4 7 4 0 := ⟨RX4, TX4, 18, rfl, by decide, iw_X4, tu_tb_in 524 rfl rfl⟩
set_option maxRecDepth 20000 in
theorem fl_RX4_66 : tu_fl RX4 66 4 10 := ⟨RX4, TX4, 18, rfl, by decide, iw_X4, tu_tb_in 534 rfl rfl⟩
set_option maxRecDepth 20000 in
theorem fp_RX4_66 : tu_fp RX4 66 4 10 := ⟨RX4, TX4, 18, rfl, by decide, iw_X4, tu_tb_in 534 rfl rfl, rfl, by decide +kernel, ⟨tyX4, tyX4_ok⟩, nmX4⟩
set_option maxRecDepth 20000 in
theorem fl_RX4_69 : tu_fl RX4 69 4 11 := ⟨RX4, TX4, 18, rfl, by decide, iw_X4, tu_tb_in 535 rfl rfl⟩
set_option maxRecDepth 20000 in
theorem fp_RX4_69 : tu_fp RX4 69 4 11 := ⟨RX4, TX4, 18, rfl, by decide, iw_X4, tu_tb_in 535 rfl rfl, rfl, by decide +kernel, ⟨tyX4, tyX4_ok⟩, nmX4⟩
set_option maxRecDepth 20000 in
theorem fl_RX4_72 : tu_fl RX4 72 4 12 := ⟨RX4, TX4, 18, rfl, by decide, iw_X4, tu_tb_in 536 rfl rfl⟩
set_option maxRecDepth 20000 in
theorem fp_RX4_72 : tu_fp RX4 72 4 12 := ⟨RX4, TX4, 18, rfl, by decide, iw_X4, tu_tb_in 536 rfl rfl, rfl, by decide +kernel, ⟨tyX4, tyX4_ok⟩, nmX4⟩
set_option maxRecDepth 20000 in
theorem fl_RX4_75 : tu_fl RX4 75 4 13 := ⟨RX4, TX4, 18, rfl, by decide, iw_X4, tu_tb_in 537 rfl rfl⟩
set_option maxRecDepth 20000 in
theorem fp_RX4_75 : tu_fp RX4 75 4 13 := ⟨RX4, TX4, 18, rfl, by decide, iw_X4, tu_tb_in 537 rfl rfl, rfl, by decide +kernel, ⟨tyX4, tyX4_ok⟩, nmX4⟩
set_option maxRecDepth 20000 in
theorem fl_RX4_78 : tu_fl RX4 78 4 14 := ⟨RX4, TX4, 18, rfl, by decide, iw_X4, tu_tb_in 538 rfl rfl⟩
set_option maxRecDepth 20000 in
theorem fp_RX4_78 : tu_fp RX4 78 4 14 := ⟨RX4, TX4, 18, rfl, by decide, iw_X4, tu_tb_in 538 rfl rfl, rfl, by decide +kernel, ⟨tyX4, tyX4_ok⟩, nmX4⟩
set_option maxRecDepth 20000 in
theorem fl_RX4_81 : tu_fl RX4 81 4 15 := ⟨RX4, TX4, 18, rfl, by decide, iw_X4, tu_tb_in 539 rfl rfl⟩
set_option maxRecDepth 20000 in
theorem fp_RX4_81 : tu_fp RX4 81 4 15 := ⟨RX4, TX4, 18, rfl, by decide, iw_X4, tu_tb_in 539 rfl rfl, rfl, by decide +kernel, ⟨tyX4, tyX4_ok⟩, nmX4⟩
set_option maxRecDepth 20000 in
theorem fl_RX4_25 : tu_fl RX4 25 4 7 := ⟨RX4, TX4, 18, rfl, by decide, iw_X4, tu_tb_in 531 rfl rfl⟩
set_option maxRecDepth 20000 in
theorem fl_RX4_31 : tu_fl RX4 31 4 9 := ⟨RX4, TX4, 18, rfl, by decide, iw_X4, tu_tb_in 533 rfl rfl⟩
set_option maxRecDepth 20000 in
theorem fl_RX4_28 : tu_fl RX4 28 4 8 := ⟨RX4, TX4, 18, rfl, by decide, iw_X4, tu_tb_in 532 rfl rfl⟩
set_option maxRecDepth 20000 in
theorem fl_RX4_34 : tu_fl RX4 34 4 16 := ⟨RX4, TX4, 18, rfl, by decide, iw_X4, tu_tb_in 540 rfl rfl⟩
set_option maxRecDepth 20000 in
theorem fl_RX4_37 : tu_fl RX4 37 4 17 := ⟨RX4, TX4, 18, rfl, by decide, iw_X4, tu_tb_in 541 rfl rfl⟩
set_option maxRecDepth 20000 in
theorem fl_RX4_134 : tu_fl RX4 134 4 6 := ⟨RX4, TX4, 18, rfl, by decide, iw_X4, tu_tb_in 530 rfl rfl⟩
set_option maxRecDepth 20000 in
theorem fp_RX4_134 : tu_fp RX4 134 4 6 := ⟨RX4, TX4, 18, rfl, by decide, iw_X4, tu_tb_in 530 rfl rfl, rfl, by decide +kernel, ⟨tyX4, tyX4_ok⟩, nmX4⟩
set_option maxRecDepth 20000 in
theorem fl_RX4_22 : tu_fl RX4 22 4 5 := ⟨RX4, TX4, 18, rfl, by decide, iw_X4, tu_tb_in 529 rfl rfl⟩
set_option maxRecDepth 20000 in
theorem fl_RX4_16 : tu_fl RX4 16 4 3 := ⟨RX4, TX4, 18, rfl, by decide, iw_X4, tu_tb_in 527 rfl rfl⟩
set_option maxRecDepth 20000 in
theorem fl_RX4_19 : tu_fl RX4 19 4 4 := ⟨RX4, TX4, 18, rfl, by decide, iw_X4, tu_tb_in 528 rfl rfl⟩
set_option maxRecDepth 20000 in
theorem kw_RX1_75 : Cond.constant RX1 75 (1000000) ∈ tu_tb := tu_tb_in 375 rfl rfl
set_option maxRecDepth 20000 in
theorem kw_RX2_19 : Cond.constantLong RX2 19 (255) ∈ tu_tb := tu_tb_in 491 rfl rfl
set_option maxRecDepth 20000 in
theorem kw_RX2_21 : Cond.constantLong RX2 21 (33) ∈ tu_tb := tu_tb_in 492 rfl rfl
set_option maxRecDepth 20000 in
theorem kw_RX2_23 : Cond.constantLong RX2 23 (126) ∈ tu_tb := tu_tb_in 493 rfl rfl
set_option maxRecDepth 20000 in
theorem kw_RX3_169 : Cond.constant RX3 169 (1000000) ∈ tu_tb := tu_tb_in 357 rfl rfl
set_option maxRecDepth 20000 in
theorem kw_RX4_88 : Cond.constant RX4 88 (1000000000) ∈ tu_tb := tu_tb_in 702 rfl rfl
set_option maxRecDepth 20000 in
theorem kw_RX4_92 : Cond.constant RX4 92 (1000000) ∈ tu_tb := tu_tb_in 730 rfl rfl
set_option maxRecDepth 20000 in
theorem kw_RX4_193 : Cond.constantLong RX4 193 (255) ∈ tu_tb := tu_tb_in 819 rfl rfl
set_option maxRecDepth 20000 in
theorem kw_RL_109 : Cond.constantLong RL 109 (4294967295) ∈ tu_tb := tu_tb_in 840 rfl rfl
set_option maxRecDepth 20000 in
theorem ac_RX0 : Cond.methodLink RX0 49 arraycopyName ∈ tu_tb := tu_tb_in 65 rfl rfl
set_option maxRecDepth 20000 in
theorem ac_RX1 : Cond.methodLink RX1 64 arraycopyName ∈ tu_tb := tu_tb_in 366 rfl rfl
set_option maxRecDepth 20000 in
theorem mn_RX1 : Cond.methodLink RX1 84 Lib.Math.min.name ∈ tu_tb := tu_tb_in 380 rfl rfl
set_option maxRecDepth 20000 in
theorem mx_RX0 : Cond.methodLink RX0 89 Lib.Math.max.name ∈ tu_tb := tu_tb_in 407 rfl rfl
set_option maxRecDepth 20000 in
theorem gs_1 : Cond.fieldLink RX3 45 RX3 "LEAST_VALUES" "[I" ∈ tu_tb := tu_tb_in 212 rfl rfl
set_option maxRecDepth 20000 in
theorem gs_2 : Cond.fieldLink RX3 49 RX3 "GREATEST_VALUES" "[I" ∈ tu_tb := tu_tb_in 214 rfl rfl
theorem nf_le : 8 + (nativeFrameWords "java/lang/System" "arraycopy" 5 + 11) ≤ 40 := by decide
end
section
/-! what the methods answer, in words of their own -/
def tu_ti (f : Nat → Int) (z : Int) : Nat → Int
  | 0 => 0
  | k + 1 => tu_ti f z k + (if f k = z then 1 else 0)
def tu_sm (f : Nat → Int) : Nat → Int
  | 0 => 0
  | k + 1 => tu_sm f k + f k
/-- the row without a rest that ends behind the k-th beat, and the longest one till there -/
def tu_rn (f : Nat → Int) : Nat → Int
  | 0 => 0
  | k + 1 => if f k = 0 then 0 else tu_rn f k + 1
def tu_lg (f : Nat → Int) : Nat → Int
  | 0 => 0
  | k + 1 => max (tu_lg f k) (tu_rn f (k + 1))
/-- a number taken out of a row that begins at o: how many are kept of the first k, and the row then -/
def tu_kc (f : Nat → Int) (o : Nat) (z : Int) : Nat → Nat
  | 0 => 0
  | k + 1 => tu_kc f o z k + (if f (o + k) = z then 0 else 1)
def tu_wr (f : Nat → Int) (o : Nat) (z : Int) : Nat → Nat → Int
  | 0 => f
  | k + 1 => if f (o + k) = z then tu_wr f o z k else tu_u (tu_wr f o z k) (o + tu_kc f o z k) (if z < f (o + k) then f (o + k) - 1 else f (o + k))
theorem tu_kc_le (f : Nat → Int) (o : Nat) (z : Int) : ∀ k, tu_kc f o z k ≤ k
  | 0 => Nat.le_refl _
  | k + 1 => by
    have := tu_kc_le f o z k
    unfold tu_kc; split <;> omega
theorem tu_wr_old (f : Nat → Int) (o : Nat) (z : Int) : ∀ k j, o + tu_kc f o z k ≤ j → tu_wr f o z k j = f j
  | 0, j, _ => rfl
  | k + 1, j, h => by
    unfold tu_kc at h; unfold tu_wr
    split
    · next e => rw [if_pos e] at h; exact tu_wr_old f o z k j (by omega)
    · next e => rw [if_neg e] at h; rw [tu_u_n _ _ (by omega)]; exact tu_wr_old f o z k j (by omega)
theorem tu_ti_01 (f : Nat → Int) (z : Int) : ∀ k : Nat, 0 ≤ tu_ti f z k ∧ tu_ti f z k ≤ k
  | 0 => ⟨Int.le_refl _, Int.le_refl _⟩
  | k + 1 => by
    have := tu_ti_01 f z k
    unfold tu_ti; split <;> omega
theorem tu_rn_le (f : Nat → Int) : ∀ k : Nat, 0 ≤ tu_rn f k ∧ tu_rn f k ≤ k
  | 0 => ⟨Int.le_refl _, Int.le_refl _⟩
  | k + 1 => by
    have := tu_rn_le f k
    unfold tu_rn; split <;> omega
theorem tu_lg_le (f : Nat → Int) : ∀ k : Nat, 0 ≤ tu_lg f k ∧ tu_lg f k ≤ k
  | 0 => ⟨Int.le_refl _, Int.le_refl _⟩
  | k + 1 => by
    have := tu_lg_le f k
    have := tu_rn_le f (k + 1)
    unfold tu_lg; omega
/-- a book: rows 0 (its object), 1 settings, 2 syllable counts, 3 stresses, 4 beat counts, 5 kinds, 6 ballad, 7 tune -/
def tu_BO (B : Nat → Nat → Int) : Prop :=
  ((0 ≤ B 0 1 ∧ B 0 1 ≤ 16) ∧ (0 ≤ B 0 4 ∧ B 0 4 ≤ 8) ∧ (0 ≤ B 0 7 ∧ B 0 7 ≤ 40) ∧ (0 ≤ B 0 9 ∧ B 0 9 ≤ 8)) ∧
  (∀ l : Nat, (l : Int) < B 0 1 → 1 ≤ B 2 l ∧ B 2 l ≤ 16) ∧ (∀ l s : Nat, (l : Int) < B 0 1 → (s : Int) < B 2 l → B 3 (l * 16 + s) = 0 ∨ B 3 (l * 16 + s) = 1) ∧
  (∀ p : Nat, (p : Int) < B 0 4 → 1 ≤ B 4 p ∧ B 4 p ≤ 24) ∧ (∀ p b : Nat, (p : Int) < B 0 4 → (b : Int) < B 4 p → 0 ≤ B 5 (p * 24 + b) ∧ B 5 (p * 24 + b) ≤ 2) ∧
  (∀ k : Nat, (k : Int) < B 0 7 → 0 ≤ B 6 k ∧ B 6 k < B 0 1) ∧ (∀ k : Nat, (k : Int) < B 0 9 → 0 ≤ B 7 k ∧ B 7 k < B 0 4) ∧
  (1 ≤ B 1 0 ∧ B 1 0 ≤ 8) ∧ (0 ≤ B 1 1 ∧ B 1 1 ≤ 9) ∧ (0 ≤ B 1 2 ∧ B 1 2 ≤ 9) ∧ (0 ≤ B 1 3 ∧ B 1 3 ≤ 20)
/-- the current book of the memory -/
def tu_cb (M : tu_M) : Nat → Nat → Int := fun f => M (1 + f)
def tu_OK (M : tu_M) : Prop := tu_BO (tu_cb M)
theorem tu_OK.cnt {M : tu_M} (h : tu_OK M) : (0 ≤ M 1 1 ∧ M 1 1 ≤ 16) ∧ (0 ≤ M 1 4 ∧ M 1 4 ≤ 8) ∧ (0 ≤ M 1 7 ∧ M 1 7 ≤ 40) ∧ (0 ≤ M 1 9 ∧ M 1 9 ≤ 8) := h.1
theorem tu_OK.syl {M : tu_M} (h : tu_OK M) : ∀ l : Nat, (l : Int) < M 1 1 → 1 ≤ M 3 l ∧ M 3 l ≤ 16 := h.2.1
theorem tu_OK.str {M : tu_M} (h : tu_OK M) : ∀ l s : Nat, (l : Int) < M 1 1 → (s : Int) < M 3 l → M 4 (l * 16 + s) = 0 ∨ M 4 (l * 16 + s) = 1 := h.2.2.1
theorem tu_OK.bts {M : tu_M} (h : tu_OK M) : ∀ p : Nat, (p : Int) < M 1 4 → 1 ≤ M 5 p ∧ M 5 p ≤ 24 := h.2.2.2.1
theorem tu_OK.knd {M : tu_M} (h : tu_OK M) : ∀ p b : Nat, (p : Int) < M 1 4 → (b : Int) < M 5 p → 0 ≤ M 6 (p * 24 + b) ∧ M 6 (p * 24 + b) ≤ 2 := h.2.2.2.2.1
theorem tu_OK.bal {M : tu_M} (h : tu_OK M) : ∀ k : Nat, (k : Int) < M 1 7 → 0 ≤ M 7 k ∧ M 7 k < M 1 1 := h.2.2.2.2.2.1
theorem tu_OK.tun {M : tu_M} (h : tu_OK M) : ∀ k : Nat, (k : Int) < M 1 9 → 0 ≤ M 8 k ∧ M 8 k < M 1 4 := h.2.2.2.2.2.2.1
theorem tu_OK.set {M : tu_M} (h : tu_OK M) : (1 ≤ M 2 0 ∧ M 2 0 ≤ 8) ∧ (0 ≤ M 2 1 ∧ M 2 1 ≤ 9) ∧ (0 ≤ M 2 2 ∧ M 2 2 ≤ 9) ∧ (0 ≤ M 2 3 ∧ M 2 3 ≤ 20) := h.2.2.2.2.2.2.2
/-! longs: bytes and comparisons -/
section TE
variable {T : tu_T} {cc : ByteArray} {own : String} {fr lo : Nat} {lv : List (Nat × tu_v)} {st : List tu_v} {M : tu_M}
theorem tu_land255 (pc : Nat) (X : tu_X T cc own fr lo) {a : Nat} (hd : decode cc pc = .ok (.land, 1)) (kk : tu_W T (pc + 1) lv (tu_l (a % 256) :: st) M) : tu_W T pc lv (tu_l 255 :: tu_l a :: st) M := by
  refine tu_land pc X hd ?_
  rw [show a &&& 255 = a % 256 from Nat.and_two_pow_sub_one_eq_mod a 8]
  exact kk
theorem tu_lushr8 (pc : Nat) (X : tu_X T cc own fr lo) {a : Nat} (hd : decode cc pc = .ok (.lushr, 1)) (ha : a < 18446744073709551616) (kk : tu_W T (pc + 1) lv (tu_l (a / 256) :: st) M) : tu_W T pc lv (tu_i 8 :: tu_l a :: st) M :=
  tu_lushr pc X 8 hd ha rfl (by decide) kk
end TE
theorem tu_lc_rg (a b : Nat) : tu_rg (tu_lc a b) := by
  unfold tu_lc lg_cmp
  split
  · exact ⟨by decide, by decide⟩
  · split <;> exact ⟨by decide, by decide⟩
theorem tu_K_inj {a b : Nat} (ha : a < 18446744073709551616) (hb : b < 18446744073709551616) : tu_K a = tu_K b ↔ a = b := by
  refine ⟨fun h => ?_, fun h => by rw [h]⟩
  have h2 := congrArg (fun x : Int64 => x.toBitVec.toNat) h
  simp only [tu_K_b, BitVec.toNat_ofNat] at h2
  omega
theorem tu_K_lt {a b : Nat} (ha : a < 9223372036854775808) (hb : b < 9223372036854775808) : tu_K a < tu_K b ↔ a < b := by
  have h := pk_lLT (a := a) (b := b) (by omega) (by omega)
  exact h
theorem tu_lc_0 {a b : Nat} (ha : a < 18446744073709551616) (hb : b < 18446744073709551616) : tu_lc a b = 0 ↔ a = b := by
  rw [← tu_K_inj ha hb]
  unfold tu_lc lg_cmp
  by_cases h1 : tu_K a > tu_K b
  · rw [if_pos h1]
    refine ⟨fun h => absurd h (by decide), fun h => ?_⟩
    rw [h] at h1
    exact absurd h1 Int64.lt_irrefl
  · rw [if_neg h1]
    by_cases h2 : tu_K a = tu_K b
    · rw [if_pos h2]; exact ⟨fun _ => h2, fun _ => rfl⟩
    · rw [if_neg h2]; exact ⟨fun h => absurd h (by decide), fun h => absurd h h2⟩
theorem tu_lc_neg {a b : Nat} (ha : a < 9223372036854775808) (hb : b < 9223372036854775808) : tu_lc a b < 0 ↔ a < b := by
  rw [← tu_K_lt ha hb]
  unfold tu_lc lg_cmp
  by_cases h1 : tu_K a > tu_K b
  · rw [if_pos h1]
    exact ⟨fun h => absurd h (by decide), fun h => absurd h (Int64.lt_asymm h1)⟩
  · rw [if_neg h1]
    by_cases h2 : tu_K a = tu_K b
    · rw [if_pos h2, h2]; exact ⟨fun h => absurd h (by decide), fun h => absurd h Int64.lt_irrefl⟩
    · rw [if_neg h2]
      refine ⟨fun _ => ?_, fun _ => by decide⟩
      have h3 : ¬ b < a := fun z => h1 ((tu_K_lt hb ha).mpr z)
      have h4 : a ≠ b := fun z => h2 (by rw [z])
      exact (tu_K_lt ha hb).mpr (by omega)
theorem tu_lc_pos {a b : Nat} (ha : a < 9223372036854775808) (hb : b < 9223372036854775808) : tu_lc a b ≤ 0 ↔ a ≤ b := by
  unfold tu_lc lg_cmp
  by_cases h1 : tu_K a > tu_K b
  · rw [if_pos h1]
    have h2 := (tu_K_lt hb ha).mp h1
    exact ⟨fun h => absurd h (by decide), fun h => by omega⟩
  · rw [if_neg h1]
    have h3 : ¬ b < a := fun z => h1 ((tu_K_lt hb ha).mpr z)
    split
    · exact ⟨fun _ => by omega, fun _ => by decide⟩
    · exact ⟨fun _ => by omega, fun _ => by decide⟩
/-- the k-th byte of a number, the number of its characters -/
def tu_by (u k : Nat) : Nat := u / 256 ^ k % 256
def tu_vd (u c : Nat) : Prop := (1 ≤ c ∧ c ≤ 8) ∧ (∀ k, k < c → 33 ≤ tu_by u k ∧ tu_by u k ≤ 126) ∧ u / 256 ^ c = 0
/-- how many characters, 0 if the number holds none or something else -/
def tu_sg (u : Nat) (w : Int) : Prop := (∃ c : Nat, w = (c : Int) ∧ tu_vd u c) ∨ (w = 0 ∧ ∀ c, ¬ tu_vd u c)
/-- characters at the end of a row: the j first of c -/
def tu_ap (f : Nat → Int) (o u c : Nat) : Nat → Nat → Int
  | 0 => f
  | j + 1 => tu_u (tu_ap f o u c j) (o + j) (tu_by u (c - 1 - j) : Nat)
theorem tu_div0 {u a b : Nat} (h : a ≤ b) (h0 : u / 256 ^ a = 0) : u / 256 ^ b = 0 := by
  have h1 : u < 256 ^ a := by
    rcases Nat.div_eq_zero_iff.mp h0 with q | q
    · exact absurd q (Nat.pos_iff_ne_zero.mp (Nat.pow_pos (by decide)))
    · exact q
  exact Nat.div_eq_of_lt (Nat.lt_of_lt_of_le h1 (Nat.pow_le_pow_right (by decide) h))
theorem tu_vd_bad {u k : Nat} (h0 : u / 256 ^ k ≠ 0) (hb : ¬ (33 ≤ tu_by u k ∧ tu_by u k ≤ 126)) : ∀ c, ¬ tu_vd u c := by
  intro c h
  rcases Nat.lt_or_ge k c with q | q
  · exact hb (h.2.1 k q)
  · exact h0 (tu_div0 q h.2.2)
theorem tu_vd_0 {u : Nat} (h0 : u = 0) : ∀ c, ¬ tu_vd u c := by
  intro c h
  have := (h.2.1 0 (by have := h.1.1; omega)).1
  subst h0
  simp [tu_by] at this
theorem tu_vd_one {u c d : Nat} (hc : tu_vd u c) (hd : tu_vd u d) : c = d := by
  have key : ∀ {a b : Nat}, tu_vd u a → tu_vd u b → ¬ a < b := fun {a b} ha hb h => by
    have h1 := (hb.2.1 a h).1
    have h2 := ha.2.2
    unfold tu_by at h1
    rw [h2] at h1
    simp at h1
  have h1 := key hc hd
  have h2 := key hd hc
  omega
theorem tu_sg_one {u : Nat} {a b : Int} (ha : tu_sg u a) (hb : tu_sg u b) : a = b := by
  rcases ha with ⟨c, rfl, hc⟩ | ⟨rfl, hc⟩ <;> rcases hb with ⟨d, rfl, hd⟩ | ⟨rfl, hd⟩
  · rw [tu_vd_one hc hd]
  · exact absurd hc (hd c)
  · exact absurd hd (hc d)
  · rfl
/-! texts: what a character is, behind k others; phrase now (1 or 0), and how many syllables or beats -/
def tu_kd (a : Int × Int) (c : Int) : Nat := if 0 < a.2 ∧ c = 59 then 4 else if a.2 = 0 ∧ a.1 = 0 ∧ c = 124 then 1 else if a.1 = 0 ∧ a.2 < 16 ∧ (c = 120 ∨ c = 88) then 2 else if a.1 = 1 ∧ a.2 < 24 ∧ (c = 115 ∨ c = 119 ∨ c = 46) then 3 else 0
def tu_nx (a : Int × Int) (c : Int) : Int × Int := if tu_kd a c = 4 then (0, 0) else if tu_kd a c = 1 then (1, 0) else (a.1, a.2 + 1)
def tu_ps (f : Nat → Int) : Nat → Int × Int
  | 0 => (0, 0)
  | k + 1 => tu_nx (tu_ps f k) (f k)
/-- the fault of a text of n characters -/
def tu_ft (f : Nat → Int) (n : Nat) (w : Int) : Prop := (∃ k : Nat, k < n ∧ w = (k : Int) ∧ tu_kd (tu_ps f k) (f k) = 0 ∧ ∀ j, j < k → tu_kd (tu_ps f j) (f j) ≠ 0) ∨ ((∀ j, j < n → tu_kd (tu_ps f j) (f j) ≠ 0) ∧ w = if 0 < (tu_ps f n).2 then -6 else (n : Int))
theorem tu_ft_one {f : Nat → Int} {n : Nat} {a b : Int} (ha : tu_ft f n a) (hb : tu_ft f n b) : a = b := by
  rcases ha with ⟨k, h1, rfl, h3, h4⟩ | ⟨h1, rfl⟩ <;> rcases hb with ⟨q, g1, rfl, g3, g4⟩ | ⟨g1, rfl⟩
  · rcases Nat.lt_trichotomy k q with h | h | h
    · exact absurd h3 (g4 k h)
    · rw [h]
    · exact absurd g3 (h4 q h)
  · exact absurd h3 (g1 k h1)
  · exact absurd g3 (h1 q g1)
  · rfl
theorem tu_ps_in (f : Nat → Int) : ∀ k : Nat, ((tu_ps f k).1 = 0 ∨ (tu_ps f k).1 = 1) ∧ 0 ≤ (tu_ps f k).2 ∧ (tu_ps f k).2 ≤ k
  | 0 => ⟨Or.inl rfl, Int.le_refl _, Int.le_refl _⟩
  | k + 1 => by
    have := tu_ps_in f k
    unfold tu_ps tu_nx
    split
    · exact ⟨Or.inl rfl, by omega, by omega⟩
    · split
      · exact ⟨Or.inr rfl, by omega, by omega⟩
      · exact ⟨this.1, by omega, by omega⟩
end
section
set_option maxRecDepth 20000 in
set_option maxHeartbeats 4000000 in
theorem c_X0_hasLine {M : tu_M} (l : Int) (hB : tu_OK M) (hl : tu_rg l) : tu_MI tu_Y_X0_hasLine [tu_r 1, tu_i l] M (fun z M' => M' = M ∧ z = tu_b (0 ≤ l ∧ l < M 1 1)) := by
  have cn := hB.cnt
  refine tu_MI.of (ty := .boolean) (by decide) rfl (by first | exact Or.inl rfl | exact Or.inr rfl) (Nat.le_of_ble_eq_true rfl) (fun T (X : tu_X T cX0_hasLine RX0 0 0) hnl hrt hret => ?_)
  have hret : tu_RI T cX0_hasLine (fun z M' => M' = M ∧ z = tu_b (0 ≤ l ∧ l < M 1 1)) := hret
  have hnl : T.2.2.2.2.2.2.2.2.2.2.1 = 2 := hnl
  show tu_W T 0 [(0, tu_r 1), (1, tu_i l)] [] M
  refine tu_iload_n 0 X 1 dX0_hasLine_0 rfl ?_
  refine tu_if_lt 1 X 16 dX0_hasLine_1 (by decide) (show tu_rg l from by first | assumption | exact ⟨by omega, by omega⟩) (fun br1 => ?_) (fun br1 => ?_)
  ·
    refine tu_iconst 16 X dX0_hasLine_16 ?_
    refine hret 17 _ _ 0 dX0_hasLine_17 (fun _ => Or.inl rfl) ?_
    exact ⟨rfl, (tu_b0 (by omega)).symm⟩
  ·
    refine tu_iload_n 4 X 1 dX0_hasLine_4 rfl ?_
    refine tu_aload_n 5 X 0 dX0_hasLine_5 rfl ?_
    refine tu_getI 6 X (x := M 1 1) dX0_hasLine_6 fl_RX0_15 (by decide) rfl rfl rfl ?_
    refine tu_icmp_ge 9 X 16 dX0_hasLine_9 (by decide) (show tu_rg l from by first | assumption | exact ⟨by omega, by omega⟩) (show tu_rg (M 1 1) from by first | assumption | exact ⟨by omega, by omega⟩) (fun br9 => ?_) (fun br9 => ?_)
    ·
      refine tu_iconst 16 X dX0_hasLine_16 ?_
      refine hret 17 _ _ 0 dX0_hasLine_17 (fun _ => Or.inl rfl) ?_
      exact ⟨rfl, (tu_b0 (by omega)).symm⟩
    ·
      refine tu_iconst 12 X dX0_hasLine_12 ?_
      refine tu_goto 13 X 17 dX0_hasLine_13 (by decide) ?_
      refine hret 17 _ _ 1 dX0_hasLine_17 (fun _ => Or.inr rfl) ?_
      exact ⟨rfl, (tu_b1 (by omega)).symm⟩
set_option maxRecDepth 20000 in
set_option maxHeartbeats 4000000 in
theorem c_X0_hasPhrase {M : tu_M} (l : Int) (hB : tu_OK M) (hl : tu_rg l) : tu_MI tu_Y_X0_hasPhrase [tu_r 1, tu_i l] M (fun z M' => M' = M ∧ z = tu_b (0 ≤ l ∧ l < M 1 4)) := by
  have cn := hB.cnt
  refine tu_MI.of (ty := .boolean) (by decide) rfl (by first | exact Or.inl rfl | exact Or.inr rfl) (Nat.le_of_ble_eq_true rfl) (fun T (X : tu_X T cX0_hasPhrase RX0 0 0) hnl hrt hret => ?_)
  have hret : tu_RI T cX0_hasPhrase (fun z M' => M' = M ∧ z = tu_b (0 ≤ l ∧ l < M 1 4)) := hret
  have hnl : T.2.2.2.2.2.2.2.2.2.2.1 = 2 := hnl
  show tu_W T 0 [(0, tu_r 1), (1, tu_i l)] [] M
  refine tu_iload_n 0 X 1 dX0_hasPhrase_0 rfl ?_
  refine tu_if_lt 1 X 16 dX0_hasPhrase_1 (by decide) (show tu_rg l from by first | assumption | exact ⟨by omega, by omega⟩) (fun br1 => ?_) (fun br1 => ?_)
  ·
    refine tu_iconst 16 X dX0_hasPhrase_16 ?_
    refine hret 17 _ _ 0 dX0_hasPhrase_17 (fun _ => Or.inl rfl) ?_
    exact ⟨rfl, (tu_b0 (by omega)).symm⟩
  ·
    refine tu_iload_n 4 X 1 dX0_hasPhrase_4 rfl ?_
    refine tu_aload_n 5 X 0 dX0_hasPhrase_5 rfl ?_
    refine tu_getI 6 X (x := M 1 4) dX0_hasPhrase_6 fl_RX0_25 (by decide) rfl rfl rfl ?_
    refine tu_icmp_ge 9 X 16 dX0_hasPhrase_9 (by decide) (show tu_rg l from by first | assumption | exact ⟨by omega, by omega⟩) (show tu_rg (M 1 4) from by first | assumption | exact ⟨by omega, by omega⟩) (fun br9 => ?_) (fun br9 => ?_)
    ·
      refine tu_iconst 16 X dX0_hasPhrase_16 ?_
      refine hret 17 _ _ 0 dX0_hasPhrase_17 (fun _ => Or.inl rfl) ?_
      exact ⟨rfl, (tu_b0 (by omega)).symm⟩
    ·
      refine tu_iconst 12 X dX0_hasPhrase_12 ?_
      refine tu_goto 13 X 17 dX0_hasPhrase_13 (by decide) ?_
      refine hret 17 _ _ 1 dX0_hasPhrase_17 (fun _ => Or.inr rfl) ?_
      exact ⟨rfl, (tu_b1 (by omega)).symm⟩
set_option maxRecDepth 20000 in
set_option maxHeartbeats 4000000 in
theorem c_X0_hasSyllable {M : tu_M} (l s : Int) (hB : tu_OK M) (hl : tu_rg l) (hs : tu_rg s) : tu_MI tu_Y_X0_hasSyllable [tu_r 1, tu_i l, tu_i s] M (fun z M' => M' = M ∧ z = tu_b (0 ≤ l ∧ l < M 1 1 ∧ 0 ≤ s ∧ s < M 3 l.toNat)) := by
  have cn := hB.cnt
  refine tu_MI.of (ty := .boolean) (by decide) rfl (by first | exact Or.inl rfl | exact Or.inr rfl) (Nat.le_of_ble_eq_true rfl) (fun T (X : tu_X T cX0_hasSyllable RX0 1 21) hnl hrt hret => ?_)
  have hret : tu_RI T cX0_hasSyllable (fun z M' => M' = M ∧ z = tu_b (0 ≤ l ∧ l < M 1 1 ∧ 0 ≤ s ∧ s < M 3 l.toNat)) := hret
  have hnl : T.2.2.2.2.2.2.2.2.2.2.1 = 3 := hnl
  show tu_W T 0 [(0, tu_r 1), (1, tu_i l), (2, tu_i s)] [] M
  refine tu_aload_n 0 X 0 dX0_hasSyllable_0 rfl ?_
  refine tu_iload_n 1 X 1 dX0_hasSyllable_1 rfl ?_
  refine tu_callVI 2 X (st := []) (as := [tu_i l]) (c_X0_hasLine l (by first | assumption | omega | exact ⟨by omega, by omega⟩ | decide) (by first | assumption | omega | exact ⟨by omega, by omega⟩ | decide)) sv_RX0_55 dX0_hasSyllable_2 rfl (by decide) rfl rfl rfl (by decide) ⟨by decide, by decide⟩ (fun z M' h => ?_)
  obtain ⟨hM2, hz2⟩ := h
  refine tu_st_eq rfl (M' := M) hM2 ?_
  refine tu_tp (b := tu_b (0 ≤ l ∧ l < M 1 1)) hz2 ?_
  refine tu_if_eq 5 X 26 dX0_hasSyllable_5 (by decide) tu_b_rg (fun br5 => ?_) (fun br5 => ?_)
  ·
    have br5 := tu_b_e0 br5
    refine tu_iconst 26 X dX0_hasSyllable_26 ?_
    refine hret 27 _ _ 0 dX0_hasSyllable_27 (fun _ => Or.inl rfl) ?_
    exact ⟨rfl, (tu_b0 (by omega)).symm⟩
  ·
    have br5 := tu_b_n0 br5
    refine tu_iload_n 8 X 2 dX0_hasSyllable_8 rfl ?_
    refine tu_if_lt 9 X 26 dX0_hasSyllable_9 (by decide) (show tu_rg s from by first | assumption | exact ⟨by omega, by omega⟩) (fun br9 => ?_) (fun br9 => ?_)
    ·
      refine tu_iconst 26 X dX0_hasSyllable_26 ?_
      refine hret 27 _ _ 0 dX0_hasSyllable_27 (fun _ => Or.inl rfl) ?_
      exact ⟨rfl, (tu_b0 (by omega)).symm⟩
    ·
      refine tu_iload_n 12 X 2 dX0_hasSyllable_12 rfl ?_
      refine tu_aload_n 13 X 0 dX0_hasSyllable_13 rfl ?_
      refine tu_getR 14 X dX0_hasSyllable_14 fl_RX0_19 (by decide) rfl rfl ?_
      refine tu_iload_n 17 X 1 dX0_hasSyllable_17 rfl ?_
      refine tu_iald 18 X (x := M 3 l.toNat) l.toNat dX0_hasSyllable_18 (by decide) rfl (by decide) (by omega) (by omega) rfl ?_
      have h3 := hB.syl l.toNat (by omega)
      refine tu_icmp_ge 19 X 26 dX0_hasSyllable_19 (by decide) (show tu_rg s from by first | assumption | exact ⟨by omega, by omega⟩) (show tu_rg (M 3 l.toNat) from by first | assumption | exact ⟨by omega, by omega⟩) (fun br19 => ?_) (fun br19 => ?_)
      ·
        refine tu_iconst 26 X dX0_hasSyllable_26 ?_
        refine hret 27 _ _ 0 dX0_hasSyllable_27 (fun _ => Or.inl rfl) ?_
        exact ⟨rfl, (tu_b0 (by omega)).symm⟩
      ·
        refine tu_iconst 22 X dX0_hasSyllable_22 ?_
        refine tu_goto 23 X 27 dX0_hasSyllable_23 (by decide) ?_
        refine hret 27 _ _ 1 dX0_hasSyllable_27 (fun _ => Or.inr rfl) ?_
        exact ⟨rfl, (tu_b1 (by omega)).symm⟩
set_option maxRecDepth 20000 in
set_option maxHeartbeats 4000000 in
theorem c_X0_hasBeat {M : tu_M} (l s : Int) (hB : tu_OK M) (hl : tu_rg l) (hs : tu_rg s) : tu_MI tu_Y_X0_hasBeat [tu_r 1, tu_i l, tu_i s] M (fun z M' => M' = M ∧ z = tu_b (0 ≤ l ∧ l < M 1 4 ∧ 0 ≤ s ∧ s < M 5 l.toNat)) := by
  have cn := hB.cnt
  refine tu_MI.of (ty := .boolean) (by decide) rfl (by first | exact Or.inl rfl | exact Or.inr rfl) (Nat.le_of_ble_eq_true rfl) (fun T (X : tu_X T cX0_hasBeat RX0 1 21) hnl hrt hret => ?_)
  have hret : tu_RI T cX0_hasBeat (fun z M' => M' = M ∧ z = tu_b (0 ≤ l ∧ l < M 1 4 ∧ 0 ≤ s ∧ s < M 5 l.toNat)) := hret
  have hnl : T.2.2.2.2.2.2.2.2.2.2.1 = 3 := hnl
  show tu_W T 0 [(0, tu_r 1), (1, tu_i l), (2, tu_i s)] [] M
  refine tu_aload_n 0 X 0 dX0_hasBeat_0 rfl ?_
  refine tu_iload_n 1 X 1 dX0_hasBeat_1 rfl ?_
  refine tu_callVI 2 X (st := []) (as := [tu_i l]) (c_X0_hasPhrase l (by first | assumption | omega | exact ⟨by omega, by omega⟩ | decide) (by first | assumption | omega | exact ⟨by omega, by omega⟩ | decide)) sv_RX0_59 dX0_hasBeat_2 rfl (by decide) rfl rfl rfl (by decide) ⟨by decide, by decide⟩ (fun z M' h => ?_)
  obtain ⟨hM2, hz2⟩ := h
  refine tu_st_eq rfl (M' := M) hM2 ?_
  refine tu_tp (b := tu_b (0 ≤ l ∧ l < M 1 4)) hz2 ?_
  refine tu_if_eq 5 X 26 dX0_hasBeat_5 (by decide) tu_b_rg (fun br5 => ?_) (fun br5 => ?_)
  ·
    have br5 := tu_b_e0 br5
    refine tu_iconst 26 X dX0_hasBeat_26 ?_
    refine hret 27 _ _ 0 dX0_hasBeat_27 (fun _ => Or.inl rfl) ?_
    exact ⟨rfl, (tu_b0 (by omega)).symm⟩
  ·
    have br5 := tu_b_n0 br5
    refine tu_iload_n 8 X 2 dX0_hasBeat_8 rfl ?_
    refine tu_if_lt 9 X 26 dX0_hasBeat_9 (by decide) (show tu_rg s from by first | assumption | exact ⟨by omega, by omega⟩) (fun br9 => ?_) (fun br9 => ?_)
    ·
      refine tu_iconst 26 X dX0_hasBeat_26 ?_
      refine hret 27 _ _ 0 dX0_hasBeat_27 (fun _ => Or.inl rfl) ?_
      exact ⟨rfl, (tu_b0 (by omega)).symm⟩
    ·
      refine tu_iload_n 12 X 2 dX0_hasBeat_12 rfl ?_
      refine tu_aload_n 13 X 0 dX0_hasBeat_13 rfl ?_
      refine tu_getR 14 X dX0_hasBeat_14 fl_RX0_28 (by decide) rfl rfl ?_
      refine tu_iload_n 17 X 1 dX0_hasBeat_17 rfl ?_
      refine tu_iald 18 X (x := M 5 l.toNat) l.toNat dX0_hasBeat_18 (by decide) rfl (by decide) (by omega) (by omega) rfl ?_
      have h3 := hB.bts l.toNat (by omega)
      refine tu_icmp_ge 19 X 26 dX0_hasBeat_19 (by decide) (show tu_rg s from by first | assumption | exact ⟨by omega, by omega⟩) (show tu_rg (M 5 l.toNat) from by first | assumption | exact ⟨by omega, by omega⟩) (fun br19 => ?_) (fun br19 => ?_)
      ·
        refine tu_iconst 26 X dX0_hasBeat_26 ?_
        refine hret 27 _ _ 0 dX0_hasBeat_27 (fun _ => Or.inl rfl) ?_
        exact ⟨rfl, (tu_b0 (by omega)).symm⟩
      ·
        refine tu_iconst 22 X dX0_hasBeat_22 ?_
        refine tu_goto 23 X 27 dX0_hasBeat_23 (by decide) ?_
        refine hret 27 _ _ 1 dX0_hasBeat_27 (fun _ => Or.inr rfl) ?_
        exact ⟨rfl, (tu_b1 (by omega)).symm⟩
set_option maxRecDepth 20000 in
set_option maxHeartbeats 4000000 in
theorem c_X0_timesIn_7 {M : tu_M} (L : Nat) (w : Int) (hL : L ≤ 40) (hw : tu_rg w) (hr : ∀ k : Nat, k < L → tu_rg (M 7 k)) : tu_MI tu_Y_X0_timesIn [tu_r 7, tu_i ((L : Nat) : Int), tu_i w] M (fun z M' => M' = M ∧ z = tu_ti (M 7) w L) := by
  refine tu_MI.of (ty := .int) (by decide) rfl (by first | exact Or.inl rfl | exact Or.inr rfl) (Nat.le_of_ble_eq_true rfl) (fun T (X : tu_X T cX0_timesIn RX0 0 0) hnl hrt hret => ?_)
  have hret : tu_RI T cX0_timesIn (fun z M' => M' = M ∧ z = tu_ti (M 7) w L) := hret
  have hnl : T.2.2.2.2.2.2.2.2.2.2.1 = 5 := hnl
  show tu_W T 0 [(0, tu_r 7), (1, tu_i ((L : Nat) : Int)), (2, tu_i w)] [] M
  refine tu_iconst 0 X dX0_timesIn_0 ?_
  refine tu_istore_n 1 X (lv' := [(3, tu_i 0), (0, tu_r 7), (1, tu_i ((L : Nat) : Int)), (2, tu_i w)]) dX0_timesIn_1 (by rw [hnl]; decide) rfl ?_
  refine tu_iconst 2 X dX0_timesIn_2 ?_
  refine tu_istore 3 X (lv' := [(4, tu_i 0), (3, tu_i 0), (0, tu_r 7), (1, tu_i ((L : Nat) : Int)), (2, tu_i w)]) dX0_timesIn_3 (by rw [hnl]; decide) rfl ?_
  have lp5 : ∀ (n : Nat) (k : Nat), (k ≤ L) → L - k < n → tu_W T 5 [(0, tu_r 7), (1, tu_i ((L : Nat) : Int)), (2, tu_i w), (3, tu_i (tu_ti (M 7) w k)), (4, tu_i ((k : Nat) : Int))] [] M := by
    intro n
    induction n with
    | zero => intros; omega
    | succ n ih5 =>
      intro k hk hn5
      have e1 := tu_ti_01 (M 7) w k
      refine tu_iload 5 X 4 dX0_timesIn_5 rfl ?_
      refine tu_iload_n 7 X 1 dX0_timesIn_7 rfl ?_
      refine tu_icmp_ge 8 X 28 dX0_timesIn_8 (by decide) (show tu_rg ((k : Nat) : Int) from by first | assumption | exact ⟨by omega, by omega⟩) (show tu_rg ((L : Nat) : Int) from by first | assumption | exact ⟨by omega, by omega⟩) (fun br8 => ?_) (fun br8 => ?_)
      ·
        refine tu_iload_n 28 X 3 dX0_timesIn_28 rfl ?_
        refine hret 29 _ _ (tu_ti (M 7) w k) dX0_timesIn_29 (fun h => by rw [hrt] at h; cases h) ?_
        exact ⟨rfl, by rw [show L = k from by omega]⟩
      ·
        refine tu_aload_n 11 X 0 dX0_timesIn_11 rfl ?_
        refine tu_iload 12 X 4 dX0_timesIn_12 rfl ?_
        refine tu_iald 14 X (x := M 7 k) k dX0_timesIn_14 (by decide) rfl (by decide) (by omega) (by omega) rfl ?_
        have e2 := hr k (by omega)
        refine tu_iload_n 15 X 2 dX0_timesIn_15 rfl ?_
        refine tu_icmp_ne 16 X 22 dX0_timesIn_16 (by decide) (show tu_rg (M 7 k) from by first | assumption | exact ⟨by omega, by omega⟩) (show tu_rg w from by first | assumption | exact ⟨by omega, by omega⟩) (fun br16 => ?_) (fun br16 => ?_)
        ·
          refine tu_iinc 22 X (lv' := [(4, tu_i (((k : Nat) : Int) + 1)), (0, tu_r 7), (1, tu_i ((L : Nat) : Int)), (2, tu_i w), (3, tu_i (tu_ti (M 7) w k))]) 4 dX0_timesIn_22 rfl (by rw [hnl]; decide) rfl ?_
          refine tu_goto 25 X 5 dX0_timesIn_25 (by decide) ?_
          refine tu_jmp [1, 2, 3, 4, 0] (lv' := [(0, tu_r 7), (1, tu_i ((L : Nat) : Int)), (2, tu_i w), (3, tu_i (tu_ti (M 7) w (k + 1))), (4, tu_i (((k + 1) : Nat) : Int))]) ⟨rfl, rfl, rfl, tu_ei (by first | rfl | (simp only [tu_ti]; split <;> omega)), tu_ei (by first | rfl | omega), trivial⟩ rfl (ih5 (k + 1) (by first | assumption | omega) (by omega))
        ·
          refine tu_iinc 19 X (lv' := [(3, tu_i (tu_ti (M 7) w k + 1)), (0, tu_r 7), (1, tu_i ((L : Nat) : Int)), (2, tu_i w), (4, tu_i ((k : Nat) : Int))]) 3 dX0_timesIn_19 rfl (by rw [hnl]; decide) rfl ?_
          refine tu_iinc 22 X (lv' := [(4, tu_i (((k : Nat) : Int) + 1)), (3, tu_i (tu_ti (M 7) w k + 1)), (0, tu_r 7), (1, tu_i ((L : Nat) : Int)), (2, tu_i w)]) 4 dX0_timesIn_22 rfl (by rw [hnl]; decide) rfl ?_
          refine tu_goto 25 X 5 dX0_timesIn_25 (by decide) ?_
          refine tu_jmp [2, 3, 4, 1, 0] (lv' := [(0, tu_r 7), (1, tu_i ((L : Nat) : Int)), (2, tu_i w), (3, tu_i (tu_ti (M 7) w (k + 1))), (4, tu_i (((k + 1) : Nat) : Int))]) ⟨rfl, rfl, rfl, tu_ei (by first | rfl | (simp only [tu_ti]; split <;> omega)), tu_ei (by first | rfl | omega), trivial⟩ rfl (ih5 (k + 1) (by first | assumption | omega) (by omega))
  refine tu_jmp [2, 3, 4, 1, 0] (lv' := [(0, tu_r 7), (1, tu_i ((L : Nat) : Int)), (2, tu_i w), (3, tu_i (tu_ti (M 7) w 0)), (4, tu_i 0)]) ⟨rfl, rfl, rfl, tu_ei (by first | rfl | (simp only [tu_ti]; split <;> omega)), rfl, trivial⟩ rfl (lp5 ((L - 0) + 1) 0 (by first | assumption | omega) (by omega))
set_option maxRecDepth 20000 in
set_option maxHeartbeats 4000000 in
theorem c_X0_timesIn_8 {M : tu_M} (L : Nat) (w : Int) (hL : L ≤ 8) (hw : tu_rg w) (hr : ∀ k : Nat, k < L → tu_rg (M 8 k)) : tu_MI tu_Y_X0_timesIn [tu_r 8, tu_i ((L : Nat) : Int), tu_i w] M (fun z M' => M' = M ∧ z = tu_ti (M 8) w L) := by
  refine tu_MI.of (ty := .int) (by decide) rfl (by first | exact Or.inl rfl | exact Or.inr rfl) (Nat.le_of_ble_eq_true rfl) (fun T (X : tu_X T cX0_timesIn RX0 0 0) hnl hrt hret => ?_)
  have hret : tu_RI T cX0_timesIn (fun z M' => M' = M ∧ z = tu_ti (M 8) w L) := hret
  have hnl : T.2.2.2.2.2.2.2.2.2.2.1 = 5 := hnl
  show tu_W T 0 [(0, tu_r 8), (1, tu_i ((L : Nat) : Int)), (2, tu_i w)] [] M
  refine tu_iconst 0 X dX0_timesIn_0 ?_
  refine tu_istore_n 1 X (lv' := [(3, tu_i 0), (0, tu_r 8), (1, tu_i ((L : Nat) : Int)), (2, tu_i w)]) dX0_timesIn_1 (by rw [hnl]; decide) rfl ?_
  refine tu_iconst 2 X dX0_timesIn_2 ?_
  refine tu_istore 3 X (lv' := [(4, tu_i 0), (3, tu_i 0), (0, tu_r 8), (1, tu_i ((L : Nat) : Int)), (2, tu_i w)]) dX0_timesIn_3 (by rw [hnl]; decide) rfl ?_
  have lp5 : ∀ (n : Nat) (k : Nat), (k ≤ L) → L - k < n → tu_W T 5 [(0, tu_r 8), (1, tu_i ((L : Nat) : Int)), (2, tu_i w), (3, tu_i (tu_ti (M 8) w k)), (4, tu_i ((k : Nat) : Int))] [] M := by
    intro n
    induction n with
    | zero => intros; omega
    | succ n ih5 =>
      intro k hk hn5
      have e1 := tu_ti_01 (M 8) w k
      refine tu_iload 5 X 4 dX0_timesIn_5 rfl ?_
      refine tu_iload_n 7 X 1 dX0_timesIn_7 rfl ?_
      refine tu_icmp_ge 8 X 28 dX0_timesIn_8 (by decide) (show tu_rg ((k : Nat) : Int) from by first | assumption | exact ⟨by omega, by omega⟩) (show tu_rg ((L : Nat) : Int) from by first | assumption | exact ⟨by omega, by omega⟩) (fun br8 => ?_) (fun br8 => ?_)
      ·
        refine tu_iload_n 28 X 3 dX0_timesIn_28 rfl ?_
        refine hret 29 _ _ (tu_ti (M 8) w k) dX0_timesIn_29 (fun h => by rw [hrt] at h; cases h) ?_
        exact ⟨rfl, by rw [show L = k from by omega]⟩
      ·
        refine tu_aload_n 11 X 0 dX0_timesIn_11 rfl ?_
        refine tu_iload 12 X 4 dX0_timesIn_12 rfl ?_
        refine tu_iald 14 X (x := M 8 k) k dX0_timesIn_14 (by decide) rfl (by decide) (by omega) (by omega) rfl ?_
        have e2 := hr k (by omega)
        refine tu_iload_n 15 X 2 dX0_timesIn_15 rfl ?_
        refine tu_icmp_ne 16 X 22 dX0_timesIn_16 (by decide) (show tu_rg (M 8 k) from by first | assumption | exact ⟨by omega, by omega⟩) (show tu_rg w from by first | assumption | exact ⟨by omega, by omega⟩) (fun br16 => ?_) (fun br16 => ?_)
        ·
          refine tu_iinc 22 X (lv' := [(4, tu_i (((k : Nat) : Int) + 1)), (0, tu_r 8), (1, tu_i ((L : Nat) : Int)), (2, tu_i w), (3, tu_i (tu_ti (M 8) w k))]) 4 dX0_timesIn_22 rfl (by rw [hnl]; decide) rfl ?_
          refine tu_goto 25 X 5 dX0_timesIn_25 (by decide) ?_
          refine tu_jmp [1, 2, 3, 4, 0] (lv' := [(0, tu_r 8), (1, tu_i ((L : Nat) : Int)), (2, tu_i w), (3, tu_i (tu_ti (M 8) w (k + 1))), (4, tu_i (((k + 1) : Nat) : Int))]) ⟨rfl, rfl, rfl, tu_ei (by first | rfl | (simp only [tu_ti]; split <;> omega)), tu_ei (by first | rfl | omega), trivial⟩ rfl (ih5 (k + 1) (by first | assumption | omega) (by omega))
        ·
          refine tu_iinc 19 X (lv' := [(3, tu_i (tu_ti (M 8) w k + 1)), (0, tu_r 8), (1, tu_i ((L : Nat) : Int)), (2, tu_i w), (4, tu_i ((k : Nat) : Int))]) 3 dX0_timesIn_19 rfl (by rw [hnl]; decide) rfl ?_
          refine tu_iinc 22 X (lv' := [(4, tu_i (((k : Nat) : Int) + 1)), (3, tu_i (tu_ti (M 8) w k + 1)), (0, tu_r 8), (1, tu_i ((L : Nat) : Int)), (2, tu_i w)]) 4 dX0_timesIn_22 rfl (by rw [hnl]; decide) rfl ?_
          refine tu_goto 25 X 5 dX0_timesIn_25 (by decide) ?_
          refine tu_jmp [2, 3, 4, 1, 0] (lv' := [(0, tu_r 8), (1, tu_i ((L : Nat) : Int)), (2, tu_i w), (3, tu_i (tu_ti (M 8) w (k + 1))), (4, tu_i (((k + 1) : Nat) : Int))]) ⟨rfl, rfl, rfl, tu_ei (by first | rfl | (simp only [tu_ti]; split <;> omega)), tu_ei (by first | rfl | omega), trivial⟩ rfl (ih5 (k + 1) (by first | assumption | omega) (by omega))
  refine tu_jmp [2, 3, 4, 1, 0] (lv' := [(0, tu_r 8), (1, tu_i ((L : Nat) : Int)), (2, tu_i w), (3, tu_i (tu_ti (M 8) w 0)), (4, tu_i 0)]) ⟨rfl, rfl, rfl, tu_ei (by first | rfl | (simp only [tu_ti]; split <;> omega)), rfl, trivial⟩ rfl (lp5 ((L - 0) + 1) 0 (by first | assumption | omega) (by omega))
set_option maxRecDepth 20000 in
set_option maxHeartbeats 4000000 in
theorem c_X0_timesSung {M : tu_M} (w : Int) (hB : tu_OK M) (hw : tu_rg w) : tu_MI tu_Y_X0_timesSung [tu_r 1, tu_i w] M (fun z M' => M' = M ∧ z = tu_ti (M 7) w (M 1 7).toNat) := by
  have cn := hB.cnt
  refine tu_MI.of (ty := .int) (by decide) rfl (by first | exact Or.inl rfl | exact Or.inr rfl) (Nat.le_of_ble_eq_true rfl) (fun T (X : tu_X T cX0_timesSung RX0 1 24) hnl hrt hret => ?_)
  have hret : tu_RI T cX0_timesSung (fun z M' => M' = M ∧ z = tu_ti (M 7) w (M 1 7).toNat) := hret
  have hnl : T.2.2.2.2.2.2.2.2.2.2.1 = 2 := hnl
  show tu_W T 0 [(0, tu_r 1), (1, tu_i w)] [] M
  refine tu_aload_n 0 X 0 dX0_timesSung_0 rfl ?_
  refine tu_getR 1 X dX0_timesSung_1 fl_RX0_37 (by decide) rfl rfl ?_
  refine tu_aload_n 4 X 0 dX0_timesSung_4 rfl ?_
  refine tu_getI 5 X (x := M 1 7) dX0_timesSung_5 fl_RX0_34 (by decide) rfl rfl rfl ?_
  refine tu_iload_n 8 X 1 dX0_timesSung_8 rfl ?_
  refine tu_st_eq (show _ = [tu_i w, tu_i (((M 1 7).toNat : Nat) : Int), tu_r 7] from by simp only [List.cons.injEq, Sum.inl.injEq, and_true, true_and]; omega) rfl ?_
  refine tu_callSI 9 X (st := []) (as := [tu_r 7, tu_i (((M 1 7).toNat : Nat) : Int), tu_i w]) (c_X0_timesIn_7 ((M 1 7).toNat) w (by first | assumption | omega | exact ⟨by omega, by omega⟩ | decide) (by first | assumption | omega | exact ⟨by omega, by omega⟩ | decide) (by intro k hk; have := hB.bal k (by omega); omega)) ss_RX0_82 dX0_timesSung_9 rfl (by decide) ⟨by decide, by decide⟩ (fun z M' h => ?_)
  obtain ⟨hM9, hz9⟩ := h
  refine tu_st_eq rfl (M' := M) hM9 ?_
  refine tu_tp (b := (tu_ti (M 7) w (M 1 7).toNat)) hz9 ?_
  refine hret 12 _ _ (tu_ti (M 7) w (M 1 7).toNat) dX0_timesSung_12 (fun h => by rw [hrt] at h; cases h) ?_
  exact ⟨rfl, by first | rfl | omega⟩
set_option maxRecDepth 20000 in
set_option maxHeartbeats 4000000 in
theorem c_X0_timesPlayed {M : tu_M} (w : Int) (hB : tu_OK M) (hw : tu_rg w) : tu_MI tu_Y_X0_timesPlayed [tu_r 1, tu_i w] M (fun z M' => M' = M ∧ z = tu_ti (M 8) w (M 1 9).toNat) := by
  have cn := hB.cnt
  refine tu_MI.of (ty := .int) (by decide) rfl (by first | exact Or.inl rfl | exact Or.inr rfl) (Nat.le_of_ble_eq_true rfl) (fun T (X : tu_X T cX0_timesPlayed RX0 1 24) hnl hrt hret => ?_)
  have hret : tu_RI T cX0_timesPlayed (fun z M' => M' = M ∧ z = tu_ti (M 8) w (M 1 9).toNat) := hret
  have hnl : T.2.2.2.2.2.2.2.2.2.2.1 = 2 := hnl
  show tu_W T 0 [(0, tu_r 1), (1, tu_i w)] [] M
  refine tu_aload_n 0 X 0 dX0_timesPlayed_0 rfl ?_
  refine tu_getR 1 X dX0_timesPlayed_1 fl_RX0_43 (by decide) rfl rfl ?_
  refine tu_aload_n 4 X 0 dX0_timesPlayed_4 rfl ?_
  refine tu_getI 5 X (x := M 1 9) dX0_timesPlayed_5 fl_RX0_40 (by decide) rfl rfl rfl ?_
  refine tu_iload_n 8 X 1 dX0_timesPlayed_8 rfl ?_
  refine tu_st_eq (show _ = [tu_i w, tu_i (((M 1 9).toNat : Nat) : Int), tu_r 8] from by simp only [List.cons.injEq, Sum.inl.injEq, and_true, true_and]; omega) rfl ?_
  refine tu_callSI 9 X (st := []) (as := [tu_r 8, tu_i (((M 1 9).toNat : Nat) : Int), tu_i w]) (c_X0_timesIn_8 ((M 1 9).toNat) w (by first | assumption | omega | exact ⟨by omega, by omega⟩ | decide) (by first | assumption | omega | exact ⟨by omega, by omega⟩ | decide) (by intro k hk; have := hB.tun k (by omega); omega)) ss_RX0_82 dX0_timesPlayed_9 rfl (by decide) ⟨by decide, by decide⟩ (fun z M' h => ?_)
  obtain ⟨hM9, hz9⟩ := h
  refine tu_st_eq rfl (M' := M) hM9 ?_
  refine tu_tp (b := (tu_ti (M 8) w (M 1 9).toNat)) hz9 ?_
  refine hret 12 _ _ (tu_ti (M 8) w (M 1 9).toNat) dX0_timesPlayed_12 (fun h => by rw [hrt] at h; cases h) ?_
  exact ⟨rfl, by first | rfl | omega⟩
set_option maxRecDepth 20000 in
set_option maxHeartbeats 4000000 in
theorem c_X0_burdens {M : tu_M}  (hB : tu_OK M) : tu_MI tu_Y_X0_burdens [tu_r 1] M (fun z M' => M' = M ∧ z = tu_sm (fun l => if 2 ≤ tu_ti (M 7) ((l : Nat) : Int) (M 1 7).toNat then 1 else 0) (M 1 1).toNat) := by
  have cn := hB.cnt
  refine tu_MI.of (ty := .int) (by decide) rfl (by first | exact Or.inl rfl | exact Or.inr rfl) (Nat.le_of_ble_eq_true rfl) (fun T (X : tu_X T cX0_burdens RX0 2 45) hnl hrt hret => ?_)
  have hret : tu_RI T cX0_burdens (fun z M' => M' = M ∧ z = tu_sm (fun l => if 2 ≤ tu_ti (M 7) ((l : Nat) : Int) (M 1 7).toNat then 1 else 0) (M 1 1).toNat) := hret
  have hnl : T.2.2.2.2.2.2.2.2.2.2.1 = 3 := hnl
  show tu_W T 0 [(0, tu_r 1)] [] M
  refine tu_iconst 0 X dX0_burdens_0 ?_
  refine tu_istore_n 1 X (lv' := [(1, tu_i 0), (0, tu_r 1)]) dX0_burdens_1 (by rw [hnl]; decide) rfl ?_
  refine tu_iconst 2 X dX0_burdens_2 ?_
  refine tu_istore_n 3 X (lv' := [(2, tu_i 0), (1, tu_i 0), (0, tu_r 1)]) dX0_burdens_3 (by rw [hnl]; decide) rfl ?_
  have lp4 : ∀ (n : Nat) (k : Nat), ((k : Int) ≤ M 1 1) → (M 1 1).toNat - k < n → tu_W T 4 [(0, tu_r 1), (1, tu_i (tu_sm (fun l => if 2 ≤ tu_ti (M 7) ((l : Nat) : Int) (M 1 7).toNat then 1 else 0) k)), (2, tu_i ((k : Nat) : Int))] [] M := by
    intro n
    induction n with
    | zero => intros; omega
    | succ n ih4 =>
      intro k hk hn4
      refine tu_iload_n 4 X 2 dX0_burdens_4 rfl ?_
      refine tu_aload_n 5 X 0 dX0_burdens_5 rfl ?_
      refine tu_getI 6 X (x := M 1 1) dX0_burdens_6 fl_RX0_15 (by decide) rfl rfl rfl ?_
      refine tu_icmp_ge 9 X 30 dX0_burdens_9 (by decide) (show tu_rg ((k : Nat) : Int) from by first | assumption | exact ⟨by omega, by omega⟩) (show tu_rg (M 1 1) from by first | assumption | exact ⟨by omega, by omega⟩) (fun br9 => ?_) (fun br9 => ?_)
      ·
        refine tu_iload_n 30 X 1 dX0_burdens_30 rfl ?_
        refine hret 31 _ _ (tu_sm (fun l => if 2 ≤ tu_ti (M 7) ((l : Nat) : Int) (M 1 7).toNat then 1 else 0) k) dX0_burdens_31 (fun h => by rw [hrt] at h; cases h) ?_
        exact ⟨rfl, by rw [show (M 1 1).toNat = k from by omega]⟩
      ·
        refine tu_aload_n 12 X 0 dX0_burdens_12 rfl ?_
        refine tu_iload_n 13 X 2 dX0_burdens_13 rfl ?_
        refine tu_callVI 14 X (st := []) (as := [tu_i ((k : Nat) : Int)]) (c_X0_timesSung ((k : Nat) : Int) (by first | assumption | omega | exact ⟨by omega, by omega⟩ | decide) (by first | assumption | omega | exact ⟨by omega, by omega⟩ | decide)) sv_RX0_85 dX0_burdens_14 rfl (by decide) rfl rfl rfl (by decide) ⟨by decide, by decide⟩ (fun z M' h => ?_)
        obtain ⟨hM14, hz14⟩ := h
        refine tu_st_eq rfl (M' := M) hM14 ?_
        refine tu_tp (b := (tu_ti (M 7) ((k : Nat) : Int) (M 1 7).toNat)) hz14 ?_
        refine tu_iconst 17 X dX0_burdens_17 ?_
        have e1 := tu_ti_01 (M 7) ((k : Nat) : Int) (M 1 7).toNat
        refine tu_icmp_lt 18 X 24 dX0_burdens_18 (by decide) (show tu_rg (tu_ti (M 7) ((k : Nat) : Int) (M 1 7).toNat) from by first | assumption | exact ⟨by omega, by omega⟩) ⟨by decide, by decide⟩ (fun br18 => ?_) (fun br18 => ?_)
        ·
          refine tu_iinc 24 X (lv' := [(2, tu_i (((k : Nat) : Int) + 1)), (0, tu_r 1), (1, tu_i (tu_sm (fun l => if 2 ≤ tu_ti (M 7) ((l : Nat) : Int) (M 1 7).toNat then 1 else 0) k))]) 2 dX0_burdens_24 rfl (by rw [hnl]; decide) rfl ?_
          refine tu_goto 27 X 4 dX0_burdens_27 (by decide) ?_
          refine tu_jmp [1, 2, 0] (lv' := [(0, tu_r 1), (1, tu_i (tu_sm (fun l => if 2 ≤ tu_ti (M 7) ((l : Nat) : Int) (M 1 7).toNat then 1 else 0) (k + 1))), (2, tu_i (((k + 1) : Nat) : Int))]) ⟨rfl, tu_ei (by first | rfl | (simp only [tu_sm]; split <;> omega)), tu_ei (by first | rfl | omega), trivial⟩ rfl (ih4 (k + 1) (by first | assumption | omega) (by omega))
        ·
          refine tu_iinc 21 X (lv' := [(1, tu_i (tu_sm (fun l => if 2 ≤ tu_ti (M 7) ((l : Nat) : Int) (M 1 7).toNat then 1 else 0) k + 1)), (0, tu_r 1), (2, tu_i ((k : Nat) : Int))]) 1 dX0_burdens_21 rfl (by rw [hnl]; decide) rfl ?_
          refine tu_iinc 24 X (lv' := [(2, tu_i (((k : Nat) : Int) + 1)), (1, tu_i (tu_sm (fun l => if 2 ≤ tu_ti (M 7) ((l : Nat) : Int) (M 1 7).toNat then 1 else 0) k + 1)), (0, tu_r 1)]) 2 dX0_burdens_24 rfl (by rw [hnl]; decide) rfl ?_
          refine tu_goto 27 X 4 dX0_burdens_27 (by decide) ?_
          refine tu_jmp [2, 1, 0] (lv' := [(0, tu_r 1), (1, tu_i (tu_sm (fun l => if 2 ≤ tu_ti (M 7) ((l : Nat) : Int) (M 1 7).toNat then 1 else 0) (k + 1))), (2, tu_i (((k + 1) : Nat) : Int))]) ⟨rfl, tu_ei (by first | rfl | (simp only [tu_sm]; split <;> omega)), tu_ei (by first | rfl | omega), trivial⟩ rfl (ih4 (k + 1) (by first | assumption | omega) (by omega))
  refine tu_jmp [2, 1, 0] (lv' := [(0, tu_r 1), (1, tu_i (tu_sm (fun l => if 2 ≤ tu_ti (M 7) ((l : Nat) : Int) (M 1 7).toNat then 1 else 0) 0)), (2, tu_i 0)]) ⟨rfl, tu_ei (by first | rfl | (simp only [tu_sm]; split <;> omega)), rfl, trivial⟩ rfl (lp4 (((M 1 1).toNat - 0) + 1) 0 (by first | assumption | omega) (by omega))
set_option maxRecDepth 20000 in
set_option maxHeartbeats 4000000 in
theorem c_X0_stressedOf {M : tu_M} (l : Nat) (hB : tu_OK M) (hl : (l : Int) < M 1 1) : tu_MI tu_Y_X0_stressedOf [tu_r 1, tu_i ((l : Nat) : Int)] M (fun z M' => M' = M ∧ z = tu_sm (fun q => M 4 (l * 16 + q)) (M 3 l).toNat) := by
  have cn := hB.cnt
  have h3 := hB.syl l hl
  refine tu_MI.of (ty := .int) (by decide) rfl (by first | exact Or.inl rfl | exact Or.inr rfl) (Nat.le_of_ble_eq_true rfl) (fun T (X : tu_X T cX0_stressedOf RX0 0 0) hnl hrt hret => ?_)
  have hret : tu_RI T cX0_stressedOf (fun z M' => M' = M ∧ z = tu_sm (fun q => M 4 (l * 16 + q)) (M 3 l).toNat) := hret
  have hnl : T.2.2.2.2.2.2.2.2.2.2.1 = 4 := hnl
  show tu_W T 0 [(0, tu_r 1), (1, tu_i ((l : Nat) : Int))] [] M
  refine tu_iconst 0 X dX0_stressedOf_0 ?_
  refine tu_istore_n 1 X (lv' := [(2, tu_i 0), (0, tu_r 1), (1, tu_i ((l : Nat) : Int))]) dX0_stressedOf_1 (by rw [hnl]; decide) rfl ?_
  refine tu_iconst 2 X dX0_stressedOf_2 ?_
  refine tu_istore_n 3 X (lv' := [(3, tu_i 0), (2, tu_i 0), (0, tu_r 1), (1, tu_i ((l : Nat) : Int))]) dX0_stressedOf_3 (by rw [hnl]; decide) rfl ?_
  have lp4 : ∀ (n : Nat) (k : Nat), ((k : Int) ≤ M 3 l) → (M 3 l).toNat - k < n → tu_W T 4 [(0, tu_r 1), (1, tu_i ((l : Nat) : Int)), (2, tu_i (tu_sm (fun q => M 4 (l * 16 + q)) k)), (3, tu_i ((k : Nat) : Int))] [] M := by
    intro n
    induction n with
    | zero => intros; omega
    | succ n ih4 =>
      intro k hk hn4
      refine tu_iload_n 4 X 3 dX0_stressedOf_4 rfl ?_
      refine tu_aload_n 5 X 0 dX0_stressedOf_5 rfl ?_
      refine tu_getR 6 X dX0_stressedOf_6 fl_RX0_19 (by decide) rfl rfl ?_
      refine tu_iload_n 9 X 1 dX0_stressedOf_9 rfl ?_
      refine tu_iald 10 X (x := M 3 l) l dX0_stressedOf_10 (by decide) rfl (by decide) (by omega) (by omega) rfl ?_
      refine tu_icmp_ge 11 X 34 dX0_stressedOf_11 (by decide) (show tu_rg ((k : Nat) : Int) from by first | assumption | exact ⟨by omega, by omega⟩) (show tu_rg (M 3 l) from by first | assumption | exact ⟨by omega, by omega⟩) (fun br11 => ?_) (fun br11 => ?_)
      ·
        refine tu_iload_n 34 X 2 dX0_stressedOf_34 rfl ?_
        refine hret 35 _ _ (tu_sm (fun q => M 4 (l * 16 + q)) k) dX0_stressedOf_35 (fun h => by rw [hrt] at h; cases h) ?_
        exact ⟨rfl, by rw [show (M 3 l).toNat = k from by omega]⟩
      ·
        refine tu_iload_n 14 X 2 dX0_stressedOf_14 rfl ?_
        refine tu_aload_n 15 X 0 dX0_stressedOf_15 rfl ?_
        refine tu_getR 16 X dX0_stressedOf_16 fl_RX0_22 (by decide) rfl rfl ?_
        refine tu_iload_n 19 X 1 dX0_stressedOf_19 rfl ?_
        refine tu_bipush 20 X dX0_stressedOf_20 (by decide) ?_
        refine tu_imul 22 X dX0_stressedOf_22 ?_
        refine tu_iload_n 23 X 3 dX0_stressedOf_23 rfl ?_
        refine tu_iadd 24 X dX0_stressedOf_24 ?_
        refine tu_iald 25 X (x := M 4 ((l * 16) + k)) ((l * 16) + k) dX0_stressedOf_25 (by decide) rfl (by decide) (by omega) (by omega) rfl ?_
        refine tu_iadd 26 X dX0_stressedOf_26 ?_
        refine tu_istore_n 27 X (lv' := [(2, tu_i (tu_sm (fun q => M 4 (l * 16 + q)) k + (M 4 ((l * 16) + k)))), (0, tu_r 1), (1, tu_i ((l : Nat) : Int)), (3, tu_i ((k : Nat) : Int))]) dX0_stressedOf_27 (by rw [hnl]; decide) rfl ?_
        refine tu_iinc 28 X (lv' := [(3, tu_i (((k : Nat) : Int) + 1)), (2, tu_i (tu_sm (fun q => M 4 (l * 16 + q)) k + (M 4 ((l * 16) + k)))), (0, tu_r 1), (1, tu_i ((l : Nat) : Int))]) 3 dX0_stressedOf_28 rfl (by rw [hnl]; decide) rfl ?_
        refine tu_goto 31 X 4 dX0_stressedOf_31 (by decide) ?_
        refine tu_jmp [2, 3, 1, 0] (lv' := [(0, tu_r 1), (1, tu_i ((l : Nat) : Int)), (2, tu_i (tu_sm (fun q => M 4 (l * 16 + q)) (k + 1))), (3, tu_i (((k + 1) : Nat) : Int))]) ⟨rfl, rfl, tu_ei (by first | rfl | omega), tu_ei (by first | rfl | omega), trivial⟩ rfl (ih4 (k + 1) (by first | assumption | omega) (by omega))
  refine tu_jmp [2, 3, 1, 0] (lv' := [(0, tu_r 1), (1, tu_i ((l : Nat) : Int)), (2, tu_i (tu_sm (fun q => M 4 (l * 16 + q)) 0)), (3, tu_i 0)]) ⟨rfl, rfl, tu_ei (by first | rfl | omega), rfl, trivial⟩ rfl (lp4 (((M 3 l).toNat - 0) + 1) 0 (by first | assumption | omega) (by omega))
set_option maxRecDepth 20000 in
set_option maxHeartbeats 4000000 in
theorem c_X0_beatsOfKind {M : tu_M} (p : Nat) (w : Int) (hB : tu_OK M) (hp : (p : Int) < M 1 4) (hw : tu_rg w) : tu_MI tu_Y_X0_beatsOfKind [tu_r 1, tu_i ((p : Nat) : Int), tu_i w] M (fun z M' => M' = M ∧ z = tu_ti (fun q => M 6 (p * 24 + q)) w (M 5 p).toNat) := by
  have cn := hB.cnt
  have h3 := hB.bts p hp
  refine tu_MI.of (ty := .int) (by decide) rfl (by first | exact Or.inl rfl | exact Or.inr rfl) (Nat.le_of_ble_eq_true rfl) (fun T (X : tu_X T cX0_beatsOfKind RX0 0 0) hnl hrt hret => ?_)
  have hret : tu_RI T cX0_beatsOfKind (fun z M' => M' = M ∧ z = tu_ti (fun q => M 6 (p * 24 + q)) w (M 5 p).toNat) := hret
  have hnl : T.2.2.2.2.2.2.2.2.2.2.1 = 5 := hnl
  show tu_W T 0 [(0, tu_r 1), (1, tu_i ((p : Nat) : Int)), (2, tu_i w)] [] M
  refine tu_iconst 0 X dX0_beatsOfKind_0 ?_
  refine tu_istore_n 1 X (lv' := [(3, tu_i 0), (0, tu_r 1), (1, tu_i ((p : Nat) : Int)), (2, tu_i w)]) dX0_beatsOfKind_1 (by rw [hnl]; decide) rfl ?_
  refine tu_iconst 2 X dX0_beatsOfKind_2 ?_
  refine tu_istore 3 X (lv' := [(4, tu_i 0), (3, tu_i 0), (0, tu_r 1), (1, tu_i ((p : Nat) : Int)), (2, tu_i w)]) dX0_beatsOfKind_3 (by rw [hnl]; decide) rfl ?_
  have lp5 : ∀ (n : Nat) (k : Nat), ((k : Int) ≤ M 5 p) → (M 5 p).toNat - k < n → tu_W T 5 [(0, tu_r 1), (1, tu_i ((p : Nat) : Int)), (2, tu_i w), (3, tu_i (tu_ti (fun q => M 6 (p * 24 + q)) w k)), (4, tu_i ((k : Nat) : Int))] [] M := by
    intro n
    induction n with
    | zero => intros; omega
    | succ n ih5 =>
      intro k hk hn5
      refine tu_iload 5 X 4 dX0_beatsOfKind_5 rfl ?_
      refine tu_aload_n 7 X 0 dX0_beatsOfKind_7 rfl ?_
      refine tu_getR 8 X dX0_beatsOfKind_8 fl_RX0_28 (by decide) rfl rfl ?_
      refine tu_iload_n 11 X 1 dX0_beatsOfKind_11 rfl ?_
      refine tu_iald 12 X (x := M 5 p) p dX0_beatsOfKind_12 (by decide) rfl (by decide) (by omega) (by omega) rfl ?_
      refine tu_icmp_ge 13 X 41 dX0_beatsOfKind_13 (by decide) (show tu_rg ((k : Nat) : Int) from by first | assumption | exact ⟨by omega, by omega⟩) (show tu_rg (M 5 p) from by first | assumption | exact ⟨by omega, by omega⟩) (fun br13 => ?_) (fun br13 => ?_)
      ·
        refine tu_iload_n 41 X 3 dX0_beatsOfKind_41 rfl ?_
        refine hret 42 _ _ (tu_ti (fun q => M 6 (p * 24 + q)) w k) dX0_beatsOfKind_42 (fun h => by rw [hrt] at h; cases h) ?_
        exact ⟨rfl, by rw [show (M 5 p).toNat = k from by omega]⟩
      ·
        refine tu_aload_n 16 X 0 dX0_beatsOfKind_16 rfl ?_
        refine tu_getR 17 X dX0_beatsOfKind_17 fl_RX0_31 (by decide) rfl rfl ?_
        refine tu_iload_n 20 X 1 dX0_beatsOfKind_20 rfl ?_
        refine tu_bipush 21 X dX0_beatsOfKind_21 (by decide) ?_
        refine tu_imul 23 X dX0_beatsOfKind_23 ?_
        refine tu_iload 24 X 4 dX0_beatsOfKind_24 rfl ?_
        refine tu_iadd 26 X dX0_beatsOfKind_26 ?_
        refine tu_iald 27 X (x := M 6 ((p * 24) + k)) ((p * 24) + k) dX0_beatsOfKind_27 (by decide) rfl (by decide) (by omega) (by omega) rfl ?_
        have e2 := hB.knd p k hp (by omega)
        refine tu_iload_n 28 X 2 dX0_beatsOfKind_28 rfl ?_
        refine tu_icmp_ne 29 X 35 dX0_beatsOfKind_29 (by decide) (show tu_rg (M 6 ((p * 24) + k)) from by first | assumption | exact ⟨by omega, by omega⟩) (show tu_rg w from by first | assumption | exact ⟨by omega, by omega⟩) (fun br29 => ?_) (fun br29 => ?_)
        ·
          refine tu_iinc 35 X (lv' := [(4, tu_i (((k : Nat) : Int) + 1)), (0, tu_r 1), (1, tu_i ((p : Nat) : Int)), (2, tu_i w), (3, tu_i (tu_ti (fun q => M 6 (p * 24 + q)) w k))]) 4 dX0_beatsOfKind_35 rfl (by rw [hnl]; decide) rfl ?_
          refine tu_goto 38 X 5 dX0_beatsOfKind_38 (by decide) ?_
          refine tu_jmp [1, 2, 3, 4, 0] (lv' := [(0, tu_r 1), (1, tu_i ((p : Nat) : Int)), (2, tu_i w), (3, tu_i (tu_ti (fun q => M 6 (p * 24 + q)) w (k + 1))), (4, tu_i (((k + 1) : Nat) : Int))]) ⟨rfl, rfl, rfl, tu_ei (by first | rfl | (simp only [tu_ti]; split <;> omega)), tu_ei (by first | rfl | omega), trivial⟩ rfl (ih5 (k + 1) (by first | assumption | omega) (by omega))
        ·
          refine tu_iinc 32 X (lv' := [(3, tu_i (tu_ti (fun q => M 6 (p * 24 + q)) w k + 1)), (0, tu_r 1), (1, tu_i ((p : Nat) : Int)), (2, tu_i w), (4, tu_i ((k : Nat) : Int))]) 3 dX0_beatsOfKind_32 rfl (by rw [hnl]; decide) rfl ?_
          refine tu_iinc 35 X (lv' := [(4, tu_i (((k : Nat) : Int) + 1)), (3, tu_i (tu_ti (fun q => M 6 (p * 24 + q)) w k + 1)), (0, tu_r 1), (1, tu_i ((p : Nat) : Int)), (2, tu_i w)]) 4 dX0_beatsOfKind_35 rfl (by rw [hnl]; decide) rfl ?_
          refine tu_goto 38 X 5 dX0_beatsOfKind_38 (by decide) ?_
          refine tu_jmp [2, 3, 4, 1, 0] (lv' := [(0, tu_r 1), (1, tu_i ((p : Nat) : Int)), (2, tu_i w), (3, tu_i (tu_ti (fun q => M 6 (p * 24 + q)) w (k + 1))), (4, tu_i (((k + 1) : Nat) : Int))]) ⟨rfl, rfl, rfl, tu_ei (by first | rfl | (simp only [tu_ti]; split <;> omega)), tu_ei (by first | rfl | omega), trivial⟩ rfl (ih5 (k + 1) (by first | assumption | omega) (by omega))
  refine tu_jmp [2, 3, 4, 1, 0] (lv' := [(0, tu_r 1), (1, tu_i ((p : Nat) : Int)), (2, tu_i w), (3, tu_i (tu_ti (fun q => M 6 (p * 24 + q)) w 0)), (4, tu_i 0)]) ⟨rfl, rfl, rfl, tu_ei (by first | rfl | (simp only [tu_ti]; split <;> omega)), rfl, trivial⟩ rfl (lp5 (((M 5 p).toNat - 0) + 1) 0 (by first | assumption | omega) (by omega))
set_option maxRecDepth 20000 in
set_option maxHeartbeats 4000000 in
theorem c_X0_longestRow {M : tu_M} (p : Nat) (hB : tu_OK M) (hp : (p : Int) < M 1 4) : tu_MI tu_Y_X0_longestRow [tu_r 1, tu_i ((p : Nat) : Int)] M (fun z M' => M' = M ∧ z = tu_lg (fun q => M 6 (p * 24 + q)) (M 5 p).toNat) := by
  have cn := hB.cnt
  have h3 := hB.bts p hp
  refine tu_MI.of (ty := .int) (by decide) rfl (by first | exact Or.inl rfl | exact Or.inr rfl) (Nat.le_of_ble_eq_true rfl) (fun T (X : tu_X T cX0_longestRow RX0 1 21) hnl hrt hret => ?_)
  have hret : tu_RI T cX0_longestRow (fun z M' => M' = M ∧ z = tu_lg (fun q => M 6 (p * 24 + q)) (M 5 p).toNat) := hret
  have hnl : T.2.2.2.2.2.2.2.2.2.2.1 = 5 := hnl
  show tu_W T 0 [(0, tu_r 1), (1, tu_i ((p : Nat) : Int))] [] M
  refine tu_iconst 0 X dX0_longestRow_0 ?_
  refine tu_istore_n 1 X (lv' := [(2, tu_i 0), (0, tu_r 1), (1, tu_i ((p : Nat) : Int))]) dX0_longestRow_1 (by rw [hnl]; decide) rfl ?_
  refine tu_iconst 2 X dX0_longestRow_2 ?_
  refine tu_istore_n 3 X (lv' := [(3, tu_i 0), (2, tu_i 0), (0, tu_r 1), (1, tu_i ((p : Nat) : Int))]) dX0_longestRow_3 (by rw [hnl]; decide) rfl ?_
  refine tu_iconst 4 X dX0_longestRow_4 ?_
  refine tu_istore 5 X (lv' := [(4, tu_i 0), (3, tu_i 0), (2, tu_i 0), (0, tu_r 1), (1, tu_i ((p : Nat) : Int))]) dX0_longestRow_5 (by rw [hnl]; decide) rfl ?_
  have lp7 : ∀ (n : Nat) (k : Nat), ((k : Int) ≤ M 5 p) → (M 5 p).toNat - k < n → tu_W T 7 [(0, tu_r 1), (1, tu_i ((p : Nat) : Int)), (2, tu_i (tu_lg (fun q => M 6 (p * 24 + q)) k)), (3, tu_i (tu_rn (fun q => M 6 (p * 24 + q)) k)), (4, tu_i ((k : Nat) : Int))] [] M := by
    intro n
    induction n with
    | zero => intros; omega
    | succ n ih7 =>
      intro k hk hn7
      have e3 := tu_lg_le (fun q => M 6 (p * 24 + q)) k
      have e4 := tu_rn_le (fun q => M 6 (p * 24 + q)) k
      refine tu_iload 7 X 4 dX0_longestRow_7 rfl ?_
      refine tu_aload_n 9 X 0 dX0_longestRow_9 rfl ?_
      refine tu_getR 10 X dX0_longestRow_10 fl_RX0_28 (by decide) rfl rfl ?_
      refine tu_iload_n 13 X 1 dX0_longestRow_13 rfl ?_
      refine tu_iald 14 X (x := M 5 p) p dX0_longestRow_14 (by decide) rfl (by decide) (by omega) (by omega) rfl ?_
      refine tu_icmp_ge 15 X 53 dX0_longestRow_15 (by decide) (show tu_rg ((k : Nat) : Int) from by first | assumption | exact ⟨by omega, by omega⟩) (show tu_rg (M 5 p) from by first | assumption | exact ⟨by omega, by omega⟩) (fun br15 => ?_) (fun br15 => ?_)
      ·
        refine tu_iload_n 53 X 2 dX0_longestRow_53 rfl ?_
        refine hret 54 _ _ (tu_lg (fun q => M 6 (p * 24 + q)) k) dX0_longestRow_54 (fun h => by rw [hrt] at h; cases h) ?_
        exact ⟨rfl, by rw [show (M 5 p).toNat = k from by omega]⟩
      ·
        refine tu_aload_n 18 X 0 dX0_longestRow_18 rfl ?_
        refine tu_getR 19 X dX0_longestRow_19 fl_RX0_31 (by decide) rfl rfl ?_
        refine tu_iload_n 22 X 1 dX0_longestRow_22 rfl ?_
        refine tu_bipush 23 X dX0_longestRow_23 (by decide) ?_
        refine tu_imul 25 X dX0_longestRow_25 ?_
        refine tu_iload 26 X 4 dX0_longestRow_26 rfl ?_
        refine tu_iadd 28 X dX0_longestRow_28 ?_
        refine tu_iald 29 X (x := M 6 ((p * 24) + k)) ((p * 24) + k) dX0_longestRow_29 (by decide) rfl (by decide) (by omega) (by omega) rfl ?_
        have e2 := hB.knd p k hp (by omega)
        refine tu_if_ne 30 X 37 dX0_longestRow_30 (by decide) (show tu_rg (M 6 ((p * 24) + k)) from by first | assumption | exact ⟨by omega, by omega⟩) (fun br30 => ?_) (fun br30 => ?_)
        ·
          refine tu_iload_n 37 X 3 dX0_longestRow_37 rfl ?_
          refine tu_iconst 38 X dX0_longestRow_38 ?_
          refine tu_iadd 39 X dX0_longestRow_39 ?_
          refine tu_istore_n 40 X (lv' := [(3, tu_i (tu_rn (fun q => M 6 (p * 24 + q)) k + 1)), (0, tu_r 1), (1, tu_i ((p : Nat) : Int)), (2, tu_i (tu_lg (fun q => M 6 (p * 24 + q)) k)), (4, tu_i ((k : Nat) : Int))]) dX0_longestRow_40 (by rw [hnl]; decide) rfl ?_
          refine tu_iload_n 41 X 3 dX0_longestRow_41 rfl ?_
          refine tu_iload_n 42 X 0 dX0_longestRow_42 rfl ?_
          refine tu_mmax 43 X mx_RX0 dX0_longestRow_43 (show tu_rg (tu_lg (fun q => M 6 (p * 24 + q)) k) from by first | assumption | exact ⟨by omega, by omega⟩) (show tu_rg (tu_rn (fun q => M 6 (p * 24 + q)) k + 1) from by first | assumption | exact ⟨by omega, by omega⟩) (by decide) (by decide) (by decide) ?_
          refine tu_istore_n 46 X (lv' := [(2, tu_i (max (tu_lg (fun q => M 6 (p * 24 + q)) k) (tu_rn (fun q => M 6 (p * 24 + q)) k + 1))), (3, tu_i (tu_rn (fun q => M 6 (p * 24 + q)) k + 1)), (0, tu_r 1), (1, tu_i ((p : Nat) : Int)), (4, tu_i ((k : Nat) : Int))]) dX0_longestRow_46 (by rw [hnl]; decide) rfl ?_
          refine tu_iinc 47 X (lv' := [(4, tu_i (((k : Nat) : Int) + 1)), (2, tu_i (max (tu_lg (fun q => M 6 (p * 24 + q)) k) (tu_rn (fun q => M 6 (p * 24 + q)) k + 1))), (3, tu_i (tu_rn (fun q => M 6 (p * 24 + q)) k + 1)), (0, tu_r 1), (1, tu_i ((p : Nat) : Int))]) 4 dX0_longestRow_47 rfl (by rw [hnl]; decide) rfl ?_
          refine tu_goto 50 X 7 dX0_longestRow_50 (by decide) ?_
          refine tu_jmp [3, 4, 1, 2, 0] (lv' := [(0, tu_r 1), (1, tu_i ((p : Nat) : Int)), (2, tu_i (tu_lg (fun q => M 6 (p * 24 + q)) (k + 1))), (3, tu_i (tu_rn (fun q => M 6 (p * 24 + q)) (k + 1))), (4, tu_i (((k + 1) : Nat) : Int))]) ⟨rfl, rfl, tu_ei (by first | rfl | (simp only [tu_lg, tu_rn]; split <;> omega)), tu_ei (by first | rfl | (simp only [tu_rn]; split <;> omega)), tu_ei (by first | rfl | omega), trivial⟩ rfl (ih7 (k + 1) (by first | assumption | omega) (by omega))
        ·
          refine tu_iconst 33 X dX0_longestRow_33 ?_
          refine tu_goto 34 X 40 dX0_longestRow_34 (by decide) ?_
          refine tu_istore_n 40 X (lv' := [(3, tu_i 0), (0, tu_r 1), (1, tu_i ((p : Nat) : Int)), (2, tu_i (tu_lg (fun q => M 6 (p * 24 + q)) k)), (4, tu_i ((k : Nat) : Int))]) dX0_longestRow_40 (by rw [hnl]; decide) rfl ?_
          refine tu_iload_n 41 X 3 dX0_longestRow_41 rfl ?_
          refine tu_iload_n 42 X 0 dX0_longestRow_42 rfl ?_
          refine tu_mmax 43 X mx_RX0 dX0_longestRow_43 (show tu_rg (tu_lg (fun q => M 6 (p * 24 + q)) k) from by first | assumption | exact ⟨by omega, by omega⟩) ⟨by decide, by decide⟩ (by decide) (by decide) (by decide) ?_
          refine tu_istore_n 46 X (lv' := [(2, tu_i (max (tu_lg (fun q => M 6 (p * 24 + q)) k) 0)), (3, tu_i 0), (0, tu_r 1), (1, tu_i ((p : Nat) : Int)), (4, tu_i ((k : Nat) : Int))]) dX0_longestRow_46 (by rw [hnl]; decide) rfl ?_
          refine tu_iinc 47 X (lv' := [(4, tu_i (((k : Nat) : Int) + 1)), (2, tu_i (max (tu_lg (fun q => M 6 (p * 24 + q)) k) 0)), (3, tu_i 0), (0, tu_r 1), (1, tu_i ((p : Nat) : Int))]) 4 dX0_longestRow_47 rfl (by rw [hnl]; decide) rfl ?_
          refine tu_goto 50 X 7 dX0_longestRow_50 (by decide) ?_
          refine tu_jmp [3, 4, 1, 2, 0] (lv' := [(0, tu_r 1), (1, tu_i ((p : Nat) : Int)), (2, tu_i (tu_lg (fun q => M 6 (p * 24 + q)) (k + 1))), (3, tu_i (tu_rn (fun q => M 6 (p * 24 + q)) (k + 1))), (4, tu_i (((k + 1) : Nat) : Int))]) ⟨rfl, rfl, tu_ei (by first | rfl | (simp only [tu_lg, tu_rn]; split <;> omega)), tu_ei (by first | rfl | (simp only [tu_rn]; split <;> omega)), tu_ei (by first | rfl | omega), trivial⟩ rfl (ih7 (k + 1) (by first | assumption | omega) (by omega))
  refine tu_jmp [3, 4, 2, 1, 0] (lv' := [(0, tu_r 1), (1, tu_i ((p : Nat) : Int)), (2, tu_i (tu_lg (fun q => M 6 (p * 24 + q)) 0)), (3, tu_i (tu_rn (fun q => M 6 (p * 24 + q)) 0)), (4, tu_i 0)]) ⟨rfl, rfl, tu_ei (by first | rfl | (simp only [tu_lg, tu_rn]; split <;> omega)), tu_ei (by first | rfl | (simp only [tu_rn]; split <;> omega)), rfl, trivial⟩ rfl (lp7 (((M 5 p).toNat - 0) + 1) 0 (by first | assumption | omega) (by omega))
end
section
theorem tu_uu (f : Nat → Int) (k : Nat) (x y : Int) : tu_u (tu_u f k x) k y = tu_u f k y := by
  funext j
  rw [tu_u_if, tu_u_if, tu_u_if]
  split <;> rfl
theorem tu_u_x {f : Nat → Int} {k : Nat} {x : Int} (h : x = f k) : tu_u f k x = f := by
  funext j
  rw [tu_u_if]
  split
  · next e => rw [h, e]
  · rfl
theorem tu_narc {k : Nat} (h : k < 65536) : vp_nar .char (tu_J (k : Int)) = tu_J (k : Int) := by
  unfold vp_nar
  rw [tu_J_n, (pk_charN h).1]

set_option maxRecDepth 20000 in
set_option maxHeartbeats 4000000 in
theorem c_X2_isSyllable {M : tu_M} (c : Int) (hc : tu_rg c) : tu_MI tu_Y_X2_isSyllable [tu_i c] M (fun z M' => M' = M ∧ z = tu_b (c = 120 ∨ c = 88)) := by
  refine tu_MI.of (ty := .boolean) (by decide) rfl (by first | exact Or.inl rfl | exact Or.inr rfl) (Nat.le_of_ble_eq_true rfl) (fun T (X : tu_X T cX2_isSyllable RX2 0 0) hnl hrt hret => ?_)
  have hret : tu_RI T cX2_isSyllable (fun z M' => M' = M ∧ z = tu_b (c = 120 ∨ c = 88)) := hret
  have hnl : T.2.2.2.2.2.2.2.2.2.2.1 = 1 := hnl
  show tu_W T 0 [(0, tu_i c)] [] M
  refine tu_iload_n 0 X 0 dX2_isSyllable_0 rfl ?_
  refine tu_bipush 1 X dX2_isSyllable_1 (by decide) ?_
  refine tu_icmp_eq 3 X 12 dX2_isSyllable_3 (by decide) (show tu_rg c from by first | assumption | exact ⟨by omega, by omega⟩) ⟨by decide, by decide⟩ (fun br3 => ?_) (fun br3 => ?_)
  ·
    refine tu_iconst 12 X dX2_isSyllable_12 ?_
    refine tu_goto 13 X 17 dX2_isSyllable_13 (by decide) ?_
    refine hret 17 _ _ 1 dX2_isSyllable_17 (fun _ => Or.inr rfl) ?_
    exact ⟨rfl, (tu_b1 (by omega)).symm⟩
  ·
    refine tu_iload_n 6 X 0 dX2_isSyllable_6 rfl ?_
    refine tu_bipush 7 X dX2_isSyllable_7 (by decide) ?_
    refine tu_icmp_ne 9 X 16 dX2_isSyllable_9 (by decide) (show tu_rg c from by first | assumption | exact ⟨by omega, by omega⟩) ⟨by decide, by decide⟩ (fun br9 => ?_) (fun br9 => ?_)
    ·
      refine tu_iconst 16 X dX2_isSyllable_16 ?_
      refine hret 17 _ _ 0 dX2_isSyllable_17 (fun _ => Or.inl rfl) ?_
      exact ⟨rfl, (tu_b0 (by omega)).symm⟩
    ·
      refine tu_iconst 12 X dX2_isSyllable_12 ?_
      refine tu_goto 13 X 17 dX2_isSyllable_13 (by decide) ?_
      refine hret 17 _ _ 1 dX2_isSyllable_17 (fun _ => Or.inr rfl) ?_
      exact ⟨rfl, (tu_b1 (by omega)).symm⟩
set_option maxRecDepth 20000 in
set_option maxHeartbeats 4000000 in
theorem c_X2_isBeat {M : tu_M} (c : Int) (hc : tu_rg c) : tu_MI tu_Y_X2_isBeat [tu_i c] M (fun z M' => M' = M ∧ z = tu_b (c = 115 ∨ c = 119 ∨ c = 46)) := by
  refine tu_MI.of (ty := .boolean) (by decide) rfl (by first | exact Or.inl rfl | exact Or.inr rfl) (Nat.le_of_ble_eq_true rfl) (fun T (X : tu_X T cX2_isBeat RX2 0 0) hnl hrt hret => ?_)
  have hret : tu_RI T cX2_isBeat (fun z M' => M' = M ∧ z = tu_b (c = 115 ∨ c = 119 ∨ c = 46)) := hret
  have hnl : T.2.2.2.2.2.2.2.2.2.2.1 = 1 := hnl
  show tu_W T 0 [(0, tu_i c)] [] M
  refine tu_iload_n 0 X 0 dX2_isBeat_0 rfl ?_
  refine tu_bipush 1 X dX2_isBeat_1 (by decide) ?_
  refine tu_icmp_eq 3 X 18 dX2_isBeat_3 (by decide) (show tu_rg c from by first | assumption | exact ⟨by omega, by omega⟩) ⟨by decide, by decide⟩ (fun br3 => ?_) (fun br3 => ?_)
  ·
    refine tu_iconst 18 X dX2_isBeat_18 ?_
    refine tu_goto 19 X 23 dX2_isBeat_19 (by decide) ?_
    refine hret 23 _ _ 1 dX2_isBeat_23 (fun _ => Or.inr rfl) ?_
    exact ⟨rfl, (tu_b1 (by omega)).symm⟩
  ·
    refine tu_iload_n 6 X 0 dX2_isBeat_6 rfl ?_
    refine tu_bipush 7 X dX2_isBeat_7 (by decide) ?_
    refine tu_icmp_eq 9 X 18 dX2_isBeat_9 (by decide) (show tu_rg c from by first | assumption | exact ⟨by omega, by omega⟩) ⟨by decide, by decide⟩ (fun br9 => ?_) (fun br9 => ?_)
    ·
      refine tu_iconst 18 X dX2_isBeat_18 ?_
      refine tu_goto 19 X 23 dX2_isBeat_19 (by decide) ?_
      refine hret 23 _ _ 1 dX2_isBeat_23 (fun _ => Or.inr rfl) ?_
      exact ⟨rfl, (tu_b1 (by omega)).symm⟩
    ·
      refine tu_iload_n 12 X 0 dX2_isBeat_12 rfl ?_
      refine tu_bipush 13 X dX2_isBeat_13 (by decide) ?_
      refine tu_icmp_ne 15 X 22 dX2_isBeat_15 (by decide) (show tu_rg c from by first | assumption | exact ⟨by omega, by omega⟩) ⟨by decide, by decide⟩ (fun br15 => ?_) (fun br15 => ?_)
      ·
        refine tu_iconst 22 X dX2_isBeat_22 ?_
        refine hret 23 _ _ 0 dX2_isBeat_23 (fun _ => Or.inl rfl) ?_
        exact ⟨rfl, (tu_b0 (by omega)).symm⟩
      ·
        refine tu_iconst 18 X dX2_isBeat_18 ?_
        refine tu_goto 19 X 23 dX2_isBeat_19 (by decide) ?_
        refine hret 23 _ _ 1 dX2_isBeat_23 (fun _ => Or.inr rfl) ?_
        exact ⟨rfl, (tu_b1 (by omega)).symm⟩
set_option maxRecDepth 20000 in
set_option maxHeartbeats 4000000 in
theorem c_X2_signsIn {M : tu_M} (u : Nat) (hu : u < 18446744073709551616) : tu_MI tu_Y_X2_signsIn [tu_l u] M (fun z M' => ∃ (w : Int), M' = M ∧ (tu_sg u w) ∧ (0 ≤ w ∧ w ≤ 8) ∧ z = w) := by
  refine tu_MI.of (ty := .int) (by decide) rfl (by first | exact Or.inl rfl | exact Or.inr rfl) (Nat.le_of_ble_eq_true rfl) (fun T (X : tu_X T cX2_signsIn RX2 0 0) hnl hrt hret => ?_)
  have hret : tu_RI T cX2_signsIn (fun z M' => ∃ (w : Int), M' = M ∧ (tu_sg u w) ∧ (0 ≤ w ∧ w ≤ 8) ∧ z = w) := hret
  have hnl : T.2.2.2.2.2.2.2.2.2.2.1 = 7 := hnl
  show tu_W T 0 [(0, tu_l u)] [] M
  refine tu_lload_n 0 X 0 dX2_signsIn_0 rfl ?_
  refine tu_lstore_n 1 X (lv' := [(2, tu_l u), (0, tu_l u)]) dX2_signsIn_1 (by rw [hnl]; decide) rfl ?_
  refine tu_iconst 2 X dX2_signsIn_2 ?_
  refine tu_istore 3 X (lv' := [(4, tu_i 0), (2, tu_l u), (0, tu_l u)]) dX2_signsIn_3 (by rw [hnl]; decide) rfl ?_
  have lp5 : ∀ (n : Nat) (k : Nat), (k ≤ 8) → (∀ j, j < k → 33 ≤ tu_by u j ∧ tu_by u j ≤ 126) → 8 - k < n → tu_W T 5 [(0, tu_l u), (2, tu_l (u / 256 ^ k)), (4, tu_i ((k : Nat) : Int))] [] M := by
    intro n
    induction n with
    | zero => intros; omega
    | succ n ih5 =>
      intro k hk hg hn5
      have e1 : u / 256 ^ k < 18446744073709551616 := Nat.lt_of_le_of_lt (Nat.div_le_self _ _) hu
      refine tu_lload_n 5 X 1 dX2_signsIn_5 rfl ?_
      refine tu_lconst 6 X dX2_signsIn_6 ?_
      refine tu_lcmp 7 X dX2_signsIn_7 ?_
      refine tu_if_eq 8 X 56 dX2_signsIn_8 (by decide) (tu_lc_rg _ _) (fun br8 => ?_) (fun br8 => ?_)
      ·
        have br8 : u / 256 ^ k = 0 := (tu_lc_0 e1 (by decide)).mp br8
        refine tu_iload 56 X 2 dX2_signsIn_56 rfl ?_
        refine hret 58 _ _ ((k : Nat) : Int) dX2_signsIn_58 (fun h => by rw [hrt] at h; cases h) ?_
        refine ⟨_, rfl, ?_, ⟨by omega, by omega⟩, rfl⟩
        have e2 : u / 256 ^ k = 0 := by first | exact br8 | (rw [show k = 8 from by omega]; exact Nat.div_eq_of_lt (by omega))
        rcases Nat.eq_zero_or_pos k with q | q
        · right
          subst q
          exact ⟨rfl, tu_vd_0 (by simpa using e2)⟩
        · left
          exact ⟨k, rfl, ⟨q, hk⟩, hg, e2⟩
      ·
        have br8 : ¬ u / 256 ^ k = 0 := fun z => br8 ((tu_lc_0 e1 (by decide)).mpr z)
        refine tu_iload 11 X 2 dX2_signsIn_11 rfl ?_
        refine tu_bipush 13 X dX2_signsIn_13 (by decide) ?_
        refine tu_icmp_ge 15 X 56 dX2_signsIn_15 (by decide) (show tu_rg ((k : Nat) : Int) from by first | assumption | exact ⟨by omega, by omega⟩) ⟨by decide, by decide⟩ (fun br15 => ?_) (fun br15 => ?_)
        ·
          refine tu_iload 56 X 2 dX2_signsIn_56 rfl ?_
          refine hret 58 _ _ ((k : Nat) : Int) dX2_signsIn_58 (fun h => by rw [hrt] at h; cases h) ?_
          refine ⟨_, rfl, ?_, ⟨by omega, by omega⟩, rfl⟩
          have e2 : u / 256 ^ k = 0 := by first | exact br8 | (rw [show k = 8 from by omega]; exact Nat.div_eq_of_lt (by omega))
          rcases Nat.eq_zero_or_pos k with q | q
          · right
            subst q
            exact ⟨rfl, tu_vd_0 (by simpa using e2)⟩
          · left
            exact ⟨k, rfl, ⟨q, hk⟩, hg, e2⟩
        ·
          refine tu_lload_n 18 X 1 dX2_signsIn_18 rfl ?_
          refine tu_ldc2 19 X (n := 255) dX2_signsIn_19 kw_RX2_19 (by decide) ?_
          refine tu_land255 22 X dX2_signsIn_22 ?_
          refine tu_lstore 23 X (lv' := [(5, tu_l ((u / 256 ^ k) % 256)), (0, tu_l u), (2, tu_l (u / 256 ^ k)), (4, tu_i ((k : Nat) : Int))]) dX2_signsIn_23 (by rw [hnl]; decide) rfl ?_
          refine tu_lload 25 X 0 dX2_signsIn_25 rfl ?_
          refine tu_ldc2 27 X (n := 33) dX2_signsIn_27 kw_RX2_21 (by decide) ?_
          refine tu_lcmp 30 X dX2_signsIn_30 ?_
          refine tu_if_lt 31 X 43 dX2_signsIn_31 (by decide) (tu_lc_rg _ _) (fun br31 => ?_) (fun br31 => ?_)
          ·
            have br31 := (tu_lc_neg (by omega) (by decide)).mp br31
            refine tu_iconst 43 X dX2_signsIn_43 ?_
            refine hret 44 _ _ 0 dX2_signsIn_44 (fun h => by rw [hrt] at h; cases h) ?_
            exact ⟨0, rfl, Or.inr ⟨rfl, tu_vd_bad br8 (by unfold tu_by; omega)⟩, ⟨by decide, by decide⟩, rfl⟩
          ·
            have br31 : ¬ u / 256 ^ k % 256 < 33 := fun z => absurd ((tu_lc_neg (by omega) (by decide)).mpr z) (by omega)
            refine tu_lload 34 X 0 dX2_signsIn_34 rfl ?_
            refine tu_ldc2 36 X (n := 126) dX2_signsIn_36 kw_RX2_23 (by decide) ?_
            refine tu_lcmp 39 X dX2_signsIn_39 ?_
            refine tu_if_le 40 X 45 dX2_signsIn_40 (by decide) (tu_lc_rg _ _) (fun br40 => ?_) (fun br40 => ?_)
            ·
              have br40 := (tu_lc_pos (by omega) (by decide)).mp br40
              refine tu_lload_n 45 X 2 dX2_signsIn_45 rfl ?_
              refine tu_bipush 46 X dX2_signsIn_46 (by decide) ?_
              refine tu_lushr8 48 X dX2_signsIn_48 (by omega) ?_
              refine tu_lstore_n 49 X (lv' := [(2, tu_l ((u / 256 ^ k) / 256)), (5, tu_l ((u / 256 ^ k) % 256)), (0, tu_l u), (4, tu_i ((k : Nat) : Int))]) dX2_signsIn_49 (by rw [hnl]; decide) rfl ?_
              refine tu_iinc 50 X (lv' := [(4, tu_i (((k : Nat) : Int) + 1)), (2, tu_l ((u / 256 ^ k) / 256)), (5, tu_l ((u / 256 ^ k) % 256)), (0, tu_l u)]) 3 dX2_signsIn_50 rfl (by rw [hnl]; decide) rfl ?_
              refine tu_goto 53 X 5 dX2_signsIn_53 (by decide) ?_
              refine tu_jmp [3, 1, 0] (lv' := [(0, tu_l u), (2, tu_l (u / 256 ^ (k + 1))), (4, tu_i (((k + 1) : Nat) : Int))]) ⟨rfl, tu_el (by first | (simp; done) | rw [Nat.pow_succ, Nat.div_div_eq_div_mul]), tu_ei (by first | rfl | omega), trivial⟩ rfl (ih5 (k + 1) (by first | assumption | omega) (by intro j hj; rcases Nat.lt_or_ge j k with q | q; exact hg j q; rw [show j = k from by omega]; unfold tu_by; omega) (by omega))
            ·
              have br40 : ¬ u / 256 ^ k % 256 ≤ 126 := fun z => absurd ((tu_lc_pos (by omega) (by decide)).mpr z) (by omega)
              refine tu_iconst 43 X dX2_signsIn_43 ?_
              refine hret 44 _ _ 0 dX2_signsIn_44 (fun h => by rw [hrt] at h; cases h) ?_
              exact ⟨0, rfl, Or.inr ⟨rfl, tu_vd_bad br8 (by unfold tu_by; omega)⟩, ⟨by decide, by decide⟩, rfl⟩
  refine tu_jmp [2, 1, 0] (lv' := [(0, tu_l u), (2, tu_l (u / 256 ^ 0)), (4, tu_i 0)]) ⟨rfl, tu_el (by first | (simp; done) | rw [Nat.pow_succ, Nat.div_div_eq_div_mul]), rfl, trivial⟩ rfl (lp5 ((8 - 0) + 1) 0 (by first | assumption | omega) (by intro j hj; omega) (by omega))
set_option maxRecDepth 20000 in
set_option maxHeartbeats 4000000 in
theorem c_X2_append {M : tu_M} (u c : Nat) (hp : 0 ≤ M 9 1 ∧ M 9 1 ≤ 60) (hu : u < 18446744073709551616) (hc : c ≤ 8) (hl : M 9 1 + c ≤ 60) : tu_MV tu_Y_X2_append [tu_r 9, tu_l u, tu_i ((c : Nat) : Int)] M (fun M' => M' = tu_row (tu_row M 9 (tu_u (M 9) 1 (M 9 1 + ((c : Nat) : Int)))) 10 (tu_ap (M 10) (M 9 1).toNat u c c)) := by
  refine tu_MV.of (by decide) rfl (Nat.le_of_ble_eq_true rfl) (fun T (X : tu_X T cX2_append RX2 0 0) hnl hret => ?_)
  have hret : tu_RV T cX2_append (fun M' => M' = tu_row (tu_row M 9 (tu_u (M 9) 1 (M 9 1 + ((c : Nat) : Int)))) 10 (tu_ap (M 10) (M 9 1).toNat u c c)) := hret
  have hnl : T.2.2.2.2.2.2.2.2.2.2.1 = 5 := hnl
  show tu_W T 0 [(0, tu_r 9), (1, tu_l u), (3, tu_i ((c : Nat) : Int))] [] M
  refine tu_iload_n 0 X 2 dX2_append_0 rfl ?_
  refine tu_iconst 1 X dX2_append_1 ?_
  refine tu_isub 2 X dX2_append_2 ?_
  refine tu_istore 3 X (lv' := [(4, tu_i (((c : Nat) : Int) - 1)), (0, tu_r 9), (1, tu_l u), (3, tu_i ((c : Nat) : Int))]) dX2_append_3 (by rw [hnl]; decide) rfl ?_
  refine tu_st_eq rfl (M' := tu_row M 9 (M 9)) ((tu_rx M 9).symm) ?_
  refine tu_st_eq rfl (M' := tu_row (tu_row M 9 (M 9)) 10 (M 10)) ((congrArg (fun m => tu_row m 9 (M 9)) ((tu_rx M 10).symm)).trans (tu_rc M (M 10) (M 9) rfl)) ?_
  have lp5 : ∀ (n : Nat) (j : Nat) (y : Int), (j ≤ c) → (y = (c : Int) - 1 - (j : Int)) → c - j < n → tu_W T 5 [(0, tu_r 9), (1, tu_l u), (3, tu_i ((c : Nat) : Int)), (4, tu_i y)] [] (tu_row (tu_row M 9 (tu_u (M 9) 1 (M 9 1 + ((j : Nat) : Int)))) 10 (tu_ap (M 10) (M 9 1).toNat u c j)) := by
    intro n
    induction n with
    | zero => intros; omega
    | succ n ih5 =>
      intro j y hj hy hn5
      refine tu_iload 5 X 3 dX2_append_5 rfl ?_
      refine tu_if_lt 7 X 57 dX2_append_7 (by decide) (show tu_rg y from by first | assumption | exact ⟨by omega, by omega⟩) (fun br7 => ?_) (fun br7 => ?_)
      ·
        refine hret 57 _ _ dX2_append_57 ?_
        rw [show c = j from by omega]
      ·
        refine tu_aload_n 10 X 0 dX2_append_10 rfl ?_
        refine tu_getI 11 X (x := (tu_u (M 9) 1 (M 9 1 + ((j : Nat) : Int))) 1) dX2_append_11 fl_RX2_15 (by decide) rfl rfl rfl ?_
        refine tu_tp (b := ((((M 9 1).toNat + j : Nat)) : Int)) (by rw [tu_u_s]; omega) ?_
        refine tu_bipush 14 X dX2_append_14 (by decide) ?_
        refine tu_icmp_ge 16 X 51 dX2_append_16 (by decide) (show tu_rg ((((M 9 1).toNat + j : Nat)) : Int) from by first | assumption | exact ⟨by omega, by omega⟩) ⟨by decide, by decide⟩ (fun br16 => ?_) (fun br16 => ?_)
        ·
          exact absurd br16 (by omega)
        ·
          refine tu_aload_n 19 X 0 dX2_append_19 rfl ?_
          refine tu_getR 20 X dX2_append_20 fl_RX2_9 (by decide) rfl rfl ?_
          refine tu_aload_n 23 X 0 dX2_append_23 rfl ?_
          refine tu_getI 24 X (x := (tu_u (M 9) 1 (M 9 1 + ((j : Nat) : Int))) 1) dX2_append_24 fl_RX2_15 (by decide) rfl rfl rfl ?_
          refine tu_tp (b := ((((M 9 1).toNat + j : Nat)) : Int)) (by rw [tu_u_s]; omega) ?_
          refine tu_lload_n 27 X 1 dX2_append_27 rfl ?_
          refine tu_bipush 28 X dX2_append_28 (by decide) ?_
          refine tu_iload 30 X 3 dX2_append_30 rfl ?_
          refine tu_tp (b := (((c - 1 - j : Nat)) : Int)) (by omega) ?_
          refine tu_imul 32 X dX2_append_32 ?_
          refine tu_lushr 33 X (8 * (c - 1 - j)) dX2_append_33 (by omega) (by omega) (by omega) ?_
          refine tu_ldc2 34 X (n := 255) dX2_append_34 kw_RX2_19 (by decide) ?_
          refine tu_land255 37 X dX2_append_37 ?_
          refine tu_l2i 38 X dX2_append_38 ?_
          refine tu_i2c 39 X ((u / 2 ^ (8 * (c - 1 - j))) % 256) dX2_append_39 (by omega) (by omega) ?_
          refine tu_tp (b := ((tu_by u (c - 1 - j) : Nat) : Int)) (by rw [tu_by, show (256 : Nat) ^ (c - 1 - j) = 2 ^ (8 * (c - 1 - j)) from (Nat.pow_mul 2 8 _).symm]) ?_
          refine tu_cast 40 X (M' := tu_row (tu_row M 9 (tu_u (M 9) 1 (M 9 1 + ((j : Nat) : Int)))) 10 (tu_ap (M 10) (M 9 1).toNat u c (j + 1))) ((M 9 1).toNat + j) dX2_append_40 (by decide) rfl (by decide) (by omega) (by omega) (by exact tu_narc (by unfold tu_by; omega)) ((tu_rr (tu_row M 9 (tu_u (M 9) 1 (M 9 1 + ((j : Nat) : Int)))) 10 (tu_ap (M 10) (M 9 1).toNat u c j) (tu_u (tu_ap (M 10) (M 9 1).toNat u c j) ((M 9 1).toNat + j) ((tu_by u (c - 1 - j) : Nat) : Int))).trans (congrArg (fun q => tu_row (tu_row M 9 (tu_u (M 9) 1 (M 9 1 + ((j : Nat) : Int)))) 10 q) (show tu_u (tu_ap (M 10) (M 9 1).toNat u c j) ((M 9 1).toNat + j) ((tu_by u (c - 1 - j) : Nat) : Int) = tu_ap (M 10) (M 9 1).toNat u c (j + 1) from by rfl))) ?_
          refine tu_aload_n 41 X 0 dX2_append_41 rfl ?_
          refine tu_dup 42 X dX2_append_42 rfl ?_
          refine tu_getI 43 X (x := (tu_u (M 9) 1 (M 9 1 + ((j : Nat) : Int))) 1) dX2_append_43 fl_RX2_15 (by decide) rfl rfl rfl ?_
          refine tu_tp (b := ((((M 9 1).toNat + j : Nat)) : Int)) (by rw [tu_u_s]; omega) ?_
          refine tu_iconst 46 X dX2_append_46 ?_
          refine tu_iadd 47 X dX2_append_47 ?_
          refine tu_putI 48 X (M' := tu_row (tu_row M 9 (tu_u (M 9) 1 (M 9 1 + (((j + 1) : Nat) : Int)))) 10 (tu_ap (M 10) (M 9 1).toNat u c (j + 1))) dX2_append_48 fp_RX2_15 (by decide) rfl rfl (((tu_rc (tu_row M 9 (tu_u (M 9) 1 (M 9 1 + ((j : Nat) : Int)))) (tu_ap (M 10) (M 9 1).toNat u c (j + 1)) (tu_u (tu_u (M 9) 1 (M 9 1 + ((j : Nat) : Int))) 1 (((((M 9 1).toNat + j : Nat)) : Int) + 1)) rfl).trans (congrArg (fun m => tu_row m 10 (tu_ap (M 10) (M 9 1).toNat u c (j + 1))) (tu_rr M 9 (tu_u (M 9) 1 (M 9 1 + ((j : Nat) : Int))) (tu_u (tu_u (M 9) 1 (M 9 1 + ((j : Nat) : Int))) 1 (((((M 9 1).toNat + j : Nat)) : Int) + 1))))).trans (congrArg (fun m => tu_row m 10 (tu_ap (M 10) (M 9 1).toNat u c (j + 1))) (congrArg (fun q => tu_row M 9 q) (show tu_u (tu_u (M 9) 1 (M 9 1 + ((j : Nat) : Int))) 1 (((((M 9 1).toNat + j : Nat)) : Int) + 1) = tu_u (M 9) 1 (M 9 1 + (((j + 1) : Nat) : Int)) from by rw [tu_uu]; congr 1; omega)))) ?_
          refine tu_iinc 51 X (lv' := [(4, tu_i (y + (-1))), (0, tu_r 9), (1, tu_l u), (3, tu_i ((c : Nat) : Int))]) 3 dX2_append_51 rfl (by rw [hnl]; decide) rfl ?_
          refine tu_goto 54 X 5 dX2_append_54 (by decide) ?_
          refine tu_jmp [1, 2, 3, 0] (lv' := [(0, tu_r 9), (1, tu_l u), (3, tu_i ((c : Nat) : Int)), (4, tu_i (y + (-1)))]) ⟨rfl, rfl, rfl, rfl, trivial⟩ rfl (ih5 (j + 1) (y + (-1)) (by first | assumption | omega) (by first | assumption | omega) (by omega))
  refine tu_jmp [1, 2, 3, 0] (lv' := [(0, tu_r 9), (1, tu_l u), (3, tu_i ((c : Nat) : Int)), (4, tu_i (((c : Nat) : Int) - 1))]) ⟨rfl, rfl, rfl, rfl, trivial⟩ (by rw [show tu_u (M 9) 1 (M 9 1 + ((0 : Nat) : Int)) = M 9 from tu_u_x (by omega)]; rfl) (lp5 ((c - 0) + 1) 0 (((c : Nat) : Int) - 1) (by first | assumption | omega) (by first | assumption | omega) (by omega))
set_option maxRecDepth 20000 in
set_option maxHeartbeats 4000000 in
theorem c_X2_beginsPart {M : tu_M} (k : Nat) (hp : 0 ≤ M 9 1 ∧ M 9 1 ≤ 60) (hk : (k : Int) < M 9 1) (hr : ∀ k : Nat, (k : Int) < M 9 1 → tu_rg (M 10 k)) : tu_MI tu_Y_X2_beginsPart [tu_r 9, tu_i ((k : Nat) : Int)] M (fun z M' => M' = M ∧ z = tu_b (k = 0 ∨ M 10 (k - 1) = 59)) := by
  refine tu_MI.of (ty := .boolean) (by decide) rfl (by first | exact Or.inl rfl | exact Or.inr rfl) (Nat.le_of_ble_eq_true rfl) (fun T (X : tu_X T cX2_beginsPart RX2 0 0) hnl hrt hret => ?_)
  have hret : tu_RI T cX2_beginsPart (fun z M' => M' = M ∧ z = tu_b (k = 0 ∨ M 10 (k - 1) = 59)) := hret
  have hnl : T.2.2.2.2.2.2.2.2.2.2.1 = 2 := hnl
  show tu_W T 0 [(0, tu_r 9), (1, tu_i ((k : Nat) : Int))] [] M
  refine tu_iload_n 0 X 1 dX2_beginsPart_0 rfl ?_
  refine tu_if_eq 1 X 29 dX2_beginsPart_1 (by decide) (show tu_rg ((k : Nat) : Int) from by first | assumption | exact ⟨by omega, by omega⟩) (fun br1 => ?_) (fun br1 => ?_)
  ·
    refine tu_iconst 29 X dX2_beginsPart_29 ?_
    refine tu_goto 30 X 34 dX2_beginsPart_30 (by decide) ?_
    refine hret 34 _ _ 1 dX2_beginsPart_34 (fun _ => Or.inr rfl) ?_
    exact ⟨rfl, (tu_b1 (by omega)).symm⟩
  ·
    refine tu_iload_n 4 X 1 dX2_beginsPart_4 rfl ?_
    refine tu_if_le 5 X 33 dX2_beginsPart_5 (by decide) (show tu_rg ((k : Nat) : Int) from by first | assumption | exact ⟨by omega, by omega⟩) (fun br5 => ?_) (fun br5 => ?_)
    ·
      exact absurd br5 (by omega)
    ·
      refine tu_iload_n 8 X 1 dX2_beginsPart_8 rfl ?_
      refine tu_aload_n 9 X 0 dX2_beginsPart_9 rfl ?_
      refine tu_getI 10 X (x := M 9 1) dX2_beginsPart_10 fl_RX2_15 (by decide) rfl rfl rfl ?_
      refine tu_icmp_ge 13 X 33 dX2_beginsPart_13 (by decide) (show tu_rg ((k : Nat) : Int) from by first | assumption | exact ⟨by omega, by omega⟩) (show tu_rg (M 9 1) from by first | assumption | exact ⟨by omega, by omega⟩) (fun br13 => ?_) (fun br13 => ?_)
      ·
        exact absurd br13 (by omega)
      ·
        refine tu_aload_n 16 X 0 dX2_beginsPart_16 rfl ?_
        refine tu_getR 17 X dX2_beginsPart_17 fl_RX2_9 (by decide) rfl rfl ?_
        refine tu_iload_n 20 X 1 dX2_beginsPart_20 rfl ?_
        refine tu_iconst 21 X dX2_beginsPart_21 ?_
        refine tu_isub 22 X dX2_beginsPart_22 ?_
        refine tu_tp (b := (((k - 1 : Nat)) : Int)) (by omega) ?_
        refine tu_cald 23 X (x := M 10 (k - 1)) (k - 1) dX2_beginsPart_23 (by decide) rfl (by decide) (by omega) (by omega) rfl ?_
        have e1 := hr (k - 1) (by omega)
        refine tu_bipush 24 X dX2_beginsPart_24 (by decide) ?_
        refine tu_icmp_ne 26 X 33 dX2_beginsPart_26 (by decide) (show tu_rg (M 10 (k - 1)) from by first | assumption | exact ⟨by omega, by omega⟩) ⟨by decide, by decide⟩ (fun br26 => ?_) (fun br26 => ?_)
        ·
          refine tu_iconst 33 X dX2_beginsPart_33 ?_
          refine hret 34 _ _ 0 dX2_beginsPart_34 (fun _ => Or.inl rfl) ?_
          exact ⟨rfl, (tu_b0 (by omega)).symm⟩
        ·
          refine tu_iconst 29 X dX2_beginsPart_29 ?_
          refine tu_goto 30 X 34 dX2_beginsPart_30 (by decide) ?_
          refine hret 34 _ _ 1 dX2_beginsPart_34 (fun _ => Or.inr rfl) ?_
          exact ⟨rfl, (tu_b1 (by omega)).symm⟩
set_option maxRecDepth 20000 in
set_option maxHeartbeats 4000000 in
theorem c_X2_parts {M : tu_M}  (hp : 0 ≤ M 9 1 ∧ M 9 1 ≤ 60) (hr : ∀ k : Nat, (k : Int) < M 9 1 → tu_rg (M 10 k)) : tu_MI tu_Y_X2_parts [tu_r 9] M (fun z M' => M' = M ∧ z = tu_sm (fun q => if q = 0 ∨ M 10 (q - 1) = 59 then 1 else 0) (M 9 1).toNat) := by
  refine tu_MI.of (ty := .int) (by decide) rfl (by first | exact Or.inl rfl | exact Or.inr rfl) (Nat.le_of_ble_eq_true rfl) (fun T (X : tu_X T cX2_parts RX2 1 21) hnl hrt hret => ?_)
  have hret : tu_RI T cX2_parts (fun z M' => M' = M ∧ z = tu_sm (fun q => if q = 0 ∨ M 10 (q - 1) = 59 then 1 else 0) (M 9 1).toNat) := hret
  have hnl : T.2.2.2.2.2.2.2.2.2.2.1 = 3 := hnl
  show tu_W T 0 [(0, tu_r 9)] [] M
  refine tu_iconst 0 X dX2_parts_0 ?_
  refine tu_istore_n 1 X (lv' := [(1, tu_i 0), (0, tu_r 9)]) dX2_parts_1 (by rw [hnl]; decide) rfl ?_
  refine tu_iconst 2 X dX2_parts_2 ?_
  refine tu_istore_n 3 X (lv' := [(2, tu_i 0), (1, tu_i 0), (0, tu_r 9)]) dX2_parts_3 (by rw [hnl]; decide) rfl ?_
  have lp4 : ∀ (n : Nat) (k : Nat), ((k : Int) ≤ M 9 1) → (M 9 1).toNat - k < n → tu_W T 4 [(0, tu_r 9), (1, tu_i (tu_sm (fun q => if q = 0 ∨ M 10 (q - 1) = 59 then 1 else 0) k)), (2, tu_i ((k : Nat) : Int))] [] M := by
    intro n
    induction n with
    | zero => intros; omega
    | succ n ih4 =>
      intro k hk hn4
      refine tu_iload_n 4 X 2 dX2_parts_4 rfl ?_
      refine tu_aload_n 5 X 0 dX2_parts_5 rfl ?_
      refine tu_getI 6 X (x := M 9 1) dX2_parts_6 fl_RX2_15 (by decide) rfl rfl rfl ?_
      refine tu_icmp_ge 9 X 29 dX2_parts_9 (by decide) (show tu_rg ((k : Nat) : Int) from by first | assumption | exact ⟨by omega, by omega⟩) (show tu_rg (M 9 1) from by first | assumption | exact ⟨by omega, by omega⟩) (fun br9 => ?_) (fun br9 => ?_)
      ·
        refine tu_iload_n 29 X 1 dX2_parts_29 rfl ?_
        refine hret 30 _ _ (tu_sm (fun q => if q = 0 ∨ M 10 (q - 1) = 59 then 1 else 0) k) dX2_parts_30 (fun h => by rw [hrt] at h; cases h) ?_
        exact ⟨rfl, by rw [show (M 9 1).toNat = k from by omega]⟩
      ·
        refine tu_aload_n 12 X 0 dX2_parts_12 rfl ?_
        refine tu_iload_n 13 X 2 dX2_parts_13 rfl ?_
        refine tu_callVI 14 X (st := []) (as := [tu_i ((k : Nat) : Int)]) (c_X2_beginsPart k (by first | assumption | omega | exact ⟨by omega, by omega⟩ | decide) (by first | assumption | omega | exact ⟨by omega, by omega⟩ | decide) (by first | assumption | omega | exact ⟨by omega, by omega⟩ | decide)) sv_RX2_25 dX2_parts_14 rfl (by decide) rfl rfl rfl (by decide) ⟨by decide, by decide⟩ (fun z M' h => ?_)
        obtain ⟨hM14, hz14⟩ := h
        refine tu_st_eq rfl (M' := M) hM14 ?_
        refine tu_tp (b := tu_b (k = 0 ∨ M 10 (k - 1) = 59)) hz14 ?_
        refine tu_if_eq 17 X 23 dX2_parts_17 (by decide) tu_b_rg (fun br17 => ?_) (fun br17 => ?_)
        ·
          have br17 := tu_b_e0 br17
          refine tu_iinc 23 X (lv' := [(2, tu_i (((k : Nat) : Int) + 1)), (0, tu_r 9), (1, tu_i (tu_sm (fun q => if q = 0 ∨ M 10 (q - 1) = 59 then 1 else 0) k))]) 2 dX2_parts_23 rfl (by rw [hnl]; decide) rfl ?_
          refine tu_goto 26 X 4 dX2_parts_26 (by decide) ?_
          refine tu_jmp [1, 2, 0] (lv' := [(0, tu_r 9), (1, tu_i (tu_sm (fun q => if q = 0 ∨ M 10 (q - 1) = 59 then 1 else 0) (k + 1))), (2, tu_i (((k + 1) : Nat) : Int))]) ⟨rfl, tu_ei (by first | rfl | (simp only [tu_sm]; first | (rw [if_pos (by omega)]; done) | (rw [if_neg (by omega)]; omega))), tu_ei (by first | rfl | omega), trivial⟩ rfl (ih4 (k + 1) (by first | assumption | omega) (by omega))
        ·
          have br17 := tu_b_n0 br17
          refine tu_iinc 20 X (lv' := [(1, tu_i (tu_sm (fun q => if q = 0 ∨ M 10 (q - 1) = 59 then 1 else 0) k + 1)), (0, tu_r 9), (2, tu_i ((k : Nat) : Int))]) 1 dX2_parts_20 rfl (by rw [hnl]; decide) rfl ?_
          refine tu_iinc 23 X (lv' := [(2, tu_i (((k : Nat) : Int) + 1)), (1, tu_i (tu_sm (fun q => if q = 0 ∨ M 10 (q - 1) = 59 then 1 else 0) k + 1)), (0, tu_r 9)]) 2 dX2_parts_23 rfl (by rw [hnl]; decide) rfl ?_
          refine tu_goto 26 X 4 dX2_parts_26 (by decide) ?_
          refine tu_jmp [2, 1, 0] (lv' := [(0, tu_r 9), (1, tu_i (tu_sm (fun q => if q = 0 ∨ M 10 (q - 1) = 59 then 1 else 0) (k + 1))), (2, tu_i (((k + 1) : Nat) : Int))]) ⟨rfl, tu_ei (by first | rfl | (simp only [tu_sm]; first | (rw [if_pos (by omega)]; done) | (rw [if_neg (by omega)]; omega))), tu_ei (by first | rfl | omega), trivial⟩ rfl (ih4 (k + 1) (by first | assumption | omega) (by omega))
  refine tu_jmp [2, 1, 0] (lv' := [(0, tu_r 9), (1, tu_i (tu_sm (fun q => if q = 0 ∨ M 10 (q - 1) = 59 then 1 else 0) 0)), (2, tu_i 0)]) ⟨rfl, tu_ei (by first | rfl | (simp only [tu_sm]; first | (rw [if_pos (by omega)]; done) | (rw [if_neg (by omega)]; omega))), rfl, trivial⟩ rfl (lp4 (((M 9 1).toNat - 0) + 1) 0 (by first | assumption | omega) (by omega))
set_option maxRecDepth 20000 in
set_option maxHeartbeats 4000000 in
theorem c_X2_phraseParts {M : tu_M}  (hp : 0 ≤ M 9 1 ∧ M 9 1 ≤ 60) (hr : ∀ k : Nat, (k : Int) < M 9 1 → tu_rg (M 10 k)) : tu_MI tu_Y_X2_phraseParts [tu_r 9] M (fun z M' => M' = M ∧ z = tu_ti (M 10) 124 (M 9 1).toNat) := by
  refine tu_MI.of (ty := .int) (by decide) rfl (by first | exact Or.inl rfl | exact Or.inr rfl) (Nat.le_of_ble_eq_true rfl) (fun T (X : tu_X T cX2_phraseParts RX2 0 0) hnl hrt hret => ?_)
  have hret : tu_RI T cX2_phraseParts (fun z M' => M' = M ∧ z = tu_ti (M 10) 124 (M 9 1).toNat) := hret
  have hnl : T.2.2.2.2.2.2.2.2.2.2.1 = 3 := hnl
  show tu_W T 0 [(0, tu_r 9)] [] M
  refine tu_iconst 0 X dX2_phraseParts_0 ?_
  refine tu_istore_n 1 X (lv' := [(1, tu_i 0), (0, tu_r 9)]) dX2_phraseParts_1 (by rw [hnl]; decide) rfl ?_
  refine tu_iconst 2 X dX2_phraseParts_2 ?_
  refine tu_istore_n 3 X (lv' := [(2, tu_i 0), (1, tu_i 0), (0, tu_r 9)]) dX2_phraseParts_3 (by rw [hnl]; decide) rfl ?_
  have lp4 : ∀ (n : Nat) (k : Nat), ((k : Int) ≤ M 9 1) → (M 9 1).toNat - k < n → tu_W T 4 [(0, tu_r 9), (1, tu_i (tu_ti (M 10) 124 k)), (2, tu_i ((k : Nat) : Int))] [] M := by
    intro n
    induction n with
    | zero => intros; omega
    | succ n ih4 =>
      intro k hk hn4
      refine tu_iload_n 4 X 2 dX2_phraseParts_4 rfl ?_
      refine tu_aload_n 5 X 0 dX2_phraseParts_5 rfl ?_
      refine tu_getI 6 X (x := M 9 1) dX2_phraseParts_6 fl_RX2_15 (by decide) rfl rfl rfl ?_
      refine tu_icmp_ge 9 X 32 dX2_phraseParts_9 (by decide) (show tu_rg ((k : Nat) : Int) from by first | assumption | exact ⟨by omega, by omega⟩) (show tu_rg (M 9 1) from by first | assumption | exact ⟨by omega, by omega⟩) (fun br9 => ?_) (fun br9 => ?_)
      ·
        refine tu_iload_n 32 X 1 dX2_phraseParts_32 rfl ?_
        refine hret 33 _ _ (tu_ti (M 10) 124 k) dX2_phraseParts_33 (fun h => by rw [hrt] at h; cases h) ?_
        exact ⟨rfl, by rw [show (M 9 1).toNat = k from by omega]⟩
      ·
        refine tu_aload_n 12 X 0 dX2_phraseParts_12 rfl ?_
        refine tu_getR 13 X dX2_phraseParts_13 fl_RX2_9 (by decide) rfl rfl ?_
        refine tu_iload_n 16 X 2 dX2_phraseParts_16 rfl ?_
        refine tu_cald 17 X (x := M 10 k) k dX2_phraseParts_17 (by decide) rfl (by decide) (by omega) (by omega) rfl ?_
        have e2 := hr k (by omega)
        refine tu_bipush 18 X dX2_phraseParts_18 (by decide) ?_
        refine tu_icmp_ne 20 X 26 dX2_phraseParts_20 (by decide) (show tu_rg (M 10 k) from by first | assumption | exact ⟨by omega, by omega⟩) ⟨by decide, by decide⟩ (fun br20 => ?_) (fun br20 => ?_)
        ·
          refine tu_iinc 26 X (lv' := [(2, tu_i (((k : Nat) : Int) + 1)), (0, tu_r 9), (1, tu_i (tu_ti (M 10) 124 k))]) 2 dX2_phraseParts_26 rfl (by rw [hnl]; decide) rfl ?_
          refine tu_goto 29 X 4 dX2_phraseParts_29 (by decide) ?_
          refine tu_jmp [1, 2, 0] (lv' := [(0, tu_r 9), (1, tu_i (tu_ti (M 10) 124 (k + 1))), (2, tu_i (((k + 1) : Nat) : Int))]) ⟨rfl, tu_ei (by first | rfl | (simp only [tu_ti]; split <;> omega)), tu_ei (by first | rfl | omega), trivial⟩ rfl (ih4 (k + 1) (by first | assumption | omega) (by omega))
        ·
          refine tu_iinc 23 X (lv' := [(1, tu_i (tu_ti (M 10) 124 k + 1)), (0, tu_r 9), (2, tu_i ((k : Nat) : Int))]) 1 dX2_phraseParts_23 rfl (by rw [hnl]; decide) rfl ?_
          refine tu_iinc 26 X (lv' := [(2, tu_i (((k : Nat) : Int) + 1)), (1, tu_i (tu_ti (M 10) 124 k + 1)), (0, tu_r 9)]) 2 dX2_phraseParts_26 rfl (by rw [hnl]; decide) rfl ?_
          refine tu_goto 29 X 4 dX2_phraseParts_29 (by decide) ?_
          refine tu_jmp [2, 1, 0] (lv' := [(0, tu_r 9), (1, tu_i (tu_ti (M 10) 124 (k + 1))), (2, tu_i (((k + 1) : Nat) : Int))]) ⟨rfl, tu_ei (by first | rfl | (simp only [tu_ti]; split <;> omega)), tu_ei (by first | rfl | omega), trivial⟩ rfl (ih4 (k + 1) (by first | assumption | omega) (by omega))
  refine tu_jmp [2, 1, 0] (lv' := [(0, tu_r 9), (1, tu_i (tu_ti (M 10) 124 0)), (2, tu_i 0)]) ⟨rfl, tu_ei (by first | rfl | (simp only [tu_ti]; split <;> omega)), rfl, trivial⟩ rfl (lp4 (((M 9 1).toNat - 0) + 1) 0 (by first | assumption | omega) (by omega))
set_option maxRecDepth 20000 in
set_option maxHeartbeats 4000000 in
theorem c_X2_faultPlace {M : tu_M}  (hp : 0 ≤ M 9 1 ∧ M 9 1 ≤ 60) (hr : ∀ k : Nat, (k : Int) < M 9 1 → tu_rg (M 10 k)) : tu_MI tu_Y_X2_faultPlace [tu_r 9] M (fun z M' => ∃ (w : Int), M' = M ∧ (tu_ft (M 10) (M 9 1).toNat w) ∧ z = w) := by
  refine tu_MI.of (ty := .int) (by decide) rfl (by first | exact Or.inl rfl | exact Or.inr rfl) (Nat.le_of_ble_eq_true rfl) (fun T (X : tu_X T cX2_faultPlace RX2 1 20) hnl hrt hret => ?_)
  have hret : tu_RI T cX2_faultPlace (fun z M' => ∃ (w : Int), M' = M ∧ (tu_ft (M 10) (M 9 1).toNat w) ∧ z = w) := hret
  have hnl : T.2.2.2.2.2.2.2.2.2.2.1 = 5 := hnl
  show tu_W T 0 [(0, tu_r 9)] [] M
  refine tu_iconst 0 X dX2_faultPlace_0 ?_
  refine tu_istore_n 1 X (lv' := [(1, tu_i 0), (0, tu_r 9)]) dX2_faultPlace_1 (by rw [hnl]; decide) rfl ?_
  refine tu_iconst 2 X dX2_faultPlace_2 ?_
  refine tu_istore_n 3 X (lv' := [(2, tu_i 0), (1, tu_i 0), (0, tu_r 9)]) dX2_faultPlace_3 (by rw [hnl]; decide) rfl ?_
  refine tu_iconst 4 X dX2_faultPlace_4 ?_
  refine tu_istore_n 5 X (lv' := [(3, tu_i 0), (2, tu_i 0), (1, tu_i 0), (0, tu_r 9)]) dX2_faultPlace_5 (by rw [hnl]; decide) rfl ?_
  have lp6 : ∀ (n : Nat) (k : Nat) (y : Int), ((k : Int) ≤ M 9 1) → (((tu_ps (M 10) k).1 = 1 ∧ y = 2) ∨ ((tu_ps (M 10) k).1 = 0 ∧ (tu_ps (M 10) k).2 = 0 ∧ y = 0) ∨ ((tu_ps (M 10) k).1 = 0 ∧ 0 < (tu_ps (M 10) k).2 ∧ y = 1)) → (∀ j, j < k → tu_kd (tu_ps (M 10) j) (M 10 j) ≠ 0) → (M 9 1).toNat - k < n → tu_W T 6 [(0, tu_r 9), (1, tu_i y), (2, tu_i ((tu_ps (M 10) k).2)), (3, tu_i ((k : Nat) : Int))] [] M := by
    intro n
    induction n with
    | zero => intros; omega
    | succ n ih6 =>
      intro k y hk hy hg hn6
      have e1 := tu_ps_in (M 10) k
      refine tu_iload_n 6 X 3 dX2_faultPlace_6 rfl ?_
      refine tu_aload_n 7 X 0 dX2_faultPlace_7 rfl ?_
      refine tu_getI 8 X (x := M 9 1) dX2_faultPlace_8 fl_RX2_15 (by decide) rfl rfl rfl ?_
      refine tu_icmp_ge 11 X 116 dX2_faultPlace_11 (by decide) (show tu_rg ((k : Nat) : Int) from by first | assumption | exact ⟨by omega, by omega⟩) (show tu_rg (M 9 1) from by first | assumption | exact ⟨by omega, by omega⟩) (fun br11 => ?_) (fun br11 => ?_)
      ·
        refine tu_iload_n 116 X 2 dX2_faultPlace_116 rfl ?_
        refine tu_if_le 117 X 125 dX2_faultPlace_117 (by decide) (show tu_rg ((tu_ps (M 10) k).2) from by first | assumption | exact ⟨by omega, by omega⟩) (fun br117 => ?_) (fun br117 => ?_)
        ·
          refine tu_aload_n 125 X 0 dX2_faultPlace_125 rfl ?_
          refine tu_getI 126 X (x := M 9 1) dX2_faultPlace_126 fl_RX2_15 (by decide) rfl rfl rfl ?_
          refine hret 129 _ _ (M 9 1) dX2_faultPlace_129 (fun h => by rw [hrt] at h; cases h) ?_
          refine ⟨_, rfl, Or.inr ⟨by rw [show (M 9 1).toNat = k from by omega]; exact hg, ?_⟩, rfl⟩
          rw [show (M 9 1).toNat = k from by omega]
          first | (rw [if_pos (by omega)]; done) | (rw [if_neg (by omega)]; omega)
        ·
          refine tu_bipush 120 X dX2_faultPlace_120 (by decide) ?_
          refine tu_goto 122 X 129 dX2_faultPlace_122 (by decide) ?_
          refine hret 129 _ _ (-6) dX2_faultPlace_129 (fun h => by rw [hrt] at h; cases h) ?_
          refine ⟨_, rfl, Or.inr ⟨by rw [show (M 9 1).toNat = k from by omega]; exact hg, ?_⟩, rfl⟩
          rw [show (M 9 1).toNat = k from by omega]
          first | (rw [if_pos (by omega)]; done) | (rw [if_neg (by omega)]; omega)
      ·
        refine tu_aload_n 14 X 0 dX2_faultPlace_14 rfl ?_
        refine tu_getR 15 X dX2_faultPlace_15 fl_RX2_9 (by decide) rfl rfl ?_
        refine tu_iload_n 18 X 3 dX2_faultPlace_18 rfl ?_
        refine tu_cald 19 X (x := M 10 k) k dX2_faultPlace_19 (by decide) rfl (by decide) (by omega) (by omega) rfl ?_
        have e4 := hr k (by omega)
        refine tu_istore 20 X (lv' := [(4, tu_i (M 10 k)), (0, tu_r 9), (1, tu_i y), (2, tu_i ((tu_ps (M 10) k).2)), (3, tu_i ((k : Nat) : Int))]) dX2_faultPlace_20 (by rw [hnl]; decide) rfl ?_
        have lp108 : (¬ (0 < (tu_ps (M 10) k).2 ∧ M 10 k = 59)) → (¬ ((tu_ps (M 10) k).2 = 0 ∧ (tu_ps (M 10) k).1 = 0 ∧ M 10 k = 124)) → (¬ ((tu_ps (M 10) k).1 = 0 ∧ (tu_ps (M 10) k).2 < 16 ∧ (M 10 k = 120 ∨ M 10 k = 88))) → (¬ ((tu_ps (M 10) k).1 = 1 ∧ (tu_ps (M 10) k).2 < 24 ∧ (M 10 k = 115 ∨ M 10 k = 119 ∨ M 10 k = 46))) → tu_W T 108 [(0, tu_r 9), (1, tu_i y), (2, tu_i ((tu_ps (M 10) k).2)), (3, tu_i ((k : Nat) : Int)), (4, tu_i (M 10 k))] [] M := by
            intro  j40 j56 j83 j108
            refine tu_iload_n 108 X 3 dX2_faultPlace_108 rfl ?_
            refine hret 109 _ _ ((k : Nat) : Int) dX2_faultPlace_109 (fun h => by rw [hrt] at h; cases h) ?_
            exact ⟨_, rfl, Or.inl ⟨k, by omega, rfl, by unfold tu_kd; (repeat' split) <;> omega, hg⟩, rfl⟩
        have lp83 : (¬ (0 < (tu_ps (M 10) k).2 ∧ M 10 k = 59)) → (¬ ((tu_ps (M 10) k).2 = 0 ∧ (tu_ps (M 10) k).1 = 0 ∧ M 10 k = 124)) → (¬ ((tu_ps (M 10) k).1 = 0 ∧ (tu_ps (M 10) k).2 < 16 ∧ (M 10 k = 120 ∨ M 10 k = 88))) → tu_W T 83 [(0, tu_r 9), (1, tu_i y), (2, tu_i ((tu_ps (M 10) k).2)), (3, tu_i ((k : Nat) : Int)), (4, tu_i (M 10 k))] [] M := by
            intro  j40 j56 j83
            refine tu_iload 83 X 4 dX2_faultPlace_83 rfl ?_
            refine tu_callSI 85 X (st := []) (as := [tu_i (M 10 k)]) (c_X2_isBeat (M 10 k) (by first | assumption | omega | exact ⟨by omega, by omega⟩ | decide)) ss_RX2_33 dX2_faultPlace_85 rfl (by decide) ⟨by decide, by decide⟩ (fun z M' h => ?_)
            obtain ⟨hM85, hz85⟩ := h
            refine tu_st_eq rfl (M' := M) hM85 ?_
            refine tu_tp (b := tu_b ((M 10 k) = 115 ∨ (M 10 k) = 119 ∨ (M 10 k) = 46)) hz85 ?_
            refine tu_if_eq 88 X 108 dX2_faultPlace_88 (by decide) tu_b_rg (fun br88 => ?_) (fun br88 => ?_)
            ·
              have br88 := tu_b_e0 br88
              refine tu_jmp [0, 1, 2, 3, 4] (lv' := [(0, tu_r 9), (1, tu_i y), (2, tu_i ((tu_ps (M 10) k).2)), (3, tu_i ((k : Nat) : Int)), (4, tu_i (M 10 k))]) ⟨rfl, rfl, rfl, rfl, rfl, trivial⟩ rfl (lp108 (by first | assumption | omega) (by first | assumption | omega) (by first | assumption | omega) (by first | assumption | omega))
            ·
              have br88 := tu_b_n0 br88
              refine tu_iload_n 91 X 1 dX2_faultPlace_91 rfl ?_
              refine tu_iconst 92 X dX2_faultPlace_92 ?_
              refine tu_icmp_ne 93 X 108 dX2_faultPlace_93 (by decide) (show tu_rg y from by first | assumption | exact ⟨by omega, by omega⟩) ⟨by decide, by decide⟩ (fun br93 => ?_) (fun br93 => ?_)
              ·
                refine tu_jmp [0, 1, 2, 3, 4] (lv' := [(0, tu_r 9), (1, tu_i y), (2, tu_i ((tu_ps (M 10) k).2)), (3, tu_i ((k : Nat) : Int)), (4, tu_i (M 10 k))]) ⟨rfl, rfl, rfl, rfl, rfl, trivial⟩ rfl (lp108 (by first | assumption | omega) (by first | assumption | omega) (by first | assumption | omega) (by first | assumption | omega))
              ·
                refine tu_iload_n 96 X 2 dX2_faultPlace_96 rfl ?_
                refine tu_bipush 97 X dX2_faultPlace_97 (by decide) ?_
                refine tu_icmp_ge 99 X 108 dX2_faultPlace_99 (by decide) (show tu_rg ((tu_ps (M 10) k).2) from by first | assumption | exact ⟨by omega, by omega⟩) ⟨by decide, by decide⟩ (fun br99 => ?_) (fun br99 => ?_)
                ·
                  refine tu_jmp [0, 1, 2, 3, 4] (lv' := [(0, tu_r 9), (1, tu_i y), (2, tu_i ((tu_ps (M 10) k).2)), (3, tu_i ((k : Nat) : Int)), (4, tu_i (M 10 k))]) ⟨rfl, rfl, rfl, rfl, rfl, trivial⟩ rfl (lp108 (by first | assumption | omega) (by first | assumption | omega) (by first | assumption | omega) (by first | assumption | omega))
                ·
                  refine tu_iinc 102 X (lv' := [(2, tu_i ((tu_ps (M 10) k).2 + 1)), (0, tu_r 9), (1, tu_i y), (3, tu_i ((k : Nat) : Int)), (4, tu_i (M 10 k))]) 2 dX2_faultPlace_102 rfl (by rw [hnl]; decide) rfl ?_
                  have e2 : tu_kd (tu_ps (M 10) k) (M 10 k) = 3 := by unfold tu_kd; (repeat' split) <;> omega
                  have e3 : tu_ps (M 10) (k + 1) = (1, (tu_ps (M 10) k).2 + 1) := by show tu_nx _ _ = _; simp [tu_nx, e2]; omega
                  have e5 : (tu_ps (M 10) (k + 1)).1 = 1 := by rw [e3]
                  have e6 : (tu_ps (M 10) (k + 1)).2 = (tu_ps (M 10) k).2 + 1 := by rw [e3]
                  refine tu_goto 105 X 110 dX2_faultPlace_105 (by decide) ?_
                  refine tu_iinc 110 X (lv' := [(3, tu_i (((k : Nat) : Int) + 1)), (2, tu_i ((tu_ps (M 10) k).2 + 1)), (0, tu_r 9), (1, tu_i y), (4, tu_i (M 10 k))]) 3 dX2_faultPlace_110 rfl (by rw [hnl]; decide) rfl ?_
                  refine tu_goto 113 X 6 dX2_faultPlace_113 (by decide) ?_
                  refine tu_jmp [2, 3, 1, 0] (lv' := [(0, tu_r 9), (1, tu_i y), (2, tu_i ((tu_ps (M 10) (k + 1)).2)), (3, tu_i (((k + 1) : Nat) : Int))]) ⟨rfl, rfl, tu_ei (by first | rfl | (omega)), tu_ei (by first | rfl | omega), trivial⟩ rfl (ih6 (k + 1) y (by first | assumption | omega) (by omega) (by intro j hj; rcases Nat.lt_or_ge j k with q | q; exact hg j q; rw [show j = k from by omega, e2]; decide) (by omega))
        have lp56 : (¬ (0 < (tu_ps (M 10) k).2 ∧ M 10 k = 59)) → (¬ ((tu_ps (M 10) k).2 = 0 ∧ (tu_ps (M 10) k).1 = 0 ∧ M 10 k = 124)) → tu_W T 56 [(0, tu_r 9), (1, tu_i y), (2, tu_i ((tu_ps (M 10) k).2)), (3, tu_i ((k : Nat) : Int)), (4, tu_i (M 10 k))] [] M := by
            intro  j40 j56
            refine tu_iload 56 X 4 dX2_faultPlace_56 rfl ?_
            refine tu_callSI 58 X (st := []) (as := [tu_i (M 10 k)]) (c_X2_isSyllable (M 10 k) (by first | assumption | omega | exact ⟨by omega, by omega⟩ | decide)) ss_RX2_29 dX2_faultPlace_58 rfl (by decide) ⟨by decide, by decide⟩ (fun z M' h => ?_)
            obtain ⟨hM58, hz58⟩ := h
            refine tu_st_eq rfl (M' := M) hM58 ?_
            refine tu_tp (b := tu_b ((M 10 k) = 120 ∨ (M 10 k) = 88)) hz58 ?_
            refine tu_if_eq 61 X 83 dX2_faultPlace_61 (by decide) tu_b_rg (fun br61 => ?_) (fun br61 => ?_)
            ·
              have br61 := tu_b_e0 br61
              refine tu_jmp [0, 1, 2, 3, 4] (lv' := [(0, tu_r 9), (1, tu_i y), (2, tu_i ((tu_ps (M 10) k).2)), (3, tu_i ((k : Nat) : Int)), (4, tu_i (M 10 k))]) ⟨rfl, rfl, rfl, rfl, rfl, trivial⟩ rfl (lp83 (by first | assumption | omega) (by first | assumption | omega) (by first | assumption | omega))
            ·
              have br61 := tu_b_n0 br61
              refine tu_iload_n 64 X 1 dX2_faultPlace_64 rfl ?_
              refine tu_iconst 65 X dX2_faultPlace_65 ?_
              refine tu_icmp_eq 66 X 83 dX2_faultPlace_66 (by decide) (show tu_rg y from by first | assumption | exact ⟨by omega, by omega⟩) ⟨by decide, by decide⟩ (fun br66 => ?_) (fun br66 => ?_)
              ·
                refine tu_jmp [0, 1, 2, 3, 4] (lv' := [(0, tu_r 9), (1, tu_i y), (2, tu_i ((tu_ps (M 10) k).2)), (3, tu_i ((k : Nat) : Int)), (4, tu_i (M 10 k))]) ⟨rfl, rfl, rfl, rfl, rfl, trivial⟩ rfl (lp83 (by first | assumption | omega) (by first | assumption | omega) (by first | assumption | omega))
              ·
                refine tu_iload_n 69 X 2 dX2_faultPlace_69 rfl ?_
                refine tu_bipush 70 X dX2_faultPlace_70 (by decide) ?_
                refine tu_icmp_ge 72 X 83 dX2_faultPlace_72 (by decide) (show tu_rg ((tu_ps (M 10) k).2) from by first | assumption | exact ⟨by omega, by omega⟩) ⟨by decide, by decide⟩ (fun br72 => ?_) (fun br72 => ?_)
                ·
                  refine tu_jmp [0, 1, 2, 3, 4] (lv' := [(0, tu_r 9), (1, tu_i y), (2, tu_i ((tu_ps (M 10) k).2)), (3, tu_i ((k : Nat) : Int)), (4, tu_i (M 10 k))]) ⟨rfl, rfl, rfl, rfl, rfl, trivial⟩ rfl (lp83 (by first | assumption | omega) (by first | assumption | omega) (by first | assumption | omega))
                ·
                  refine tu_iconst 75 X dX2_faultPlace_75 ?_
                  refine tu_istore_n 76 X (lv' := [(1, tu_i 1), (0, tu_r 9), (2, tu_i ((tu_ps (M 10) k).2)), (3, tu_i ((k : Nat) : Int)), (4, tu_i (M 10 k))]) dX2_faultPlace_76 (by rw [hnl]; decide) rfl ?_
                  refine tu_iinc 77 X (lv' := [(2, tu_i ((tu_ps (M 10) k).2 + 1)), (1, tu_i 1), (0, tu_r 9), (3, tu_i ((k : Nat) : Int)), (4, tu_i (M 10 k))]) 2 dX2_faultPlace_77 rfl (by rw [hnl]; decide) rfl ?_
                  have e2 : tu_kd (tu_ps (M 10) k) (M 10 k) = 2 := by unfold tu_kd; (repeat' split) <;> omega
                  have e3 : tu_ps (M 10) (k + 1) = (0, (tu_ps (M 10) k).2 + 1) := by show tu_nx _ _ = _; simp [tu_nx, e2]; omega
                  have e5 : (tu_ps (M 10) (k + 1)).1 = 0 := by rw [e3]
                  have e6 : (tu_ps (M 10) (k + 1)).2 = (tu_ps (M 10) k).2 + 1 := by rw [e3]
                  refine tu_goto 80 X 110 dX2_faultPlace_80 (by decide) ?_
                  refine tu_iinc 110 X (lv' := [(3, tu_i (((k : Nat) : Int) + 1)), (2, tu_i ((tu_ps (M 10) k).2 + 1)), (1, tu_i 1), (0, tu_r 9), (4, tu_i (M 10 k))]) 3 dX2_faultPlace_110 rfl (by rw [hnl]; decide) rfl ?_
                  refine tu_goto 113 X 6 dX2_faultPlace_113 (by decide) ?_
                  refine tu_jmp [3, 2, 1, 0] (lv' := [(0, tu_r 9), (1, tu_i 1), (2, tu_i ((tu_ps (M 10) (k + 1)).2)), (3, tu_i (((k + 1) : Nat) : Int))]) ⟨rfl, rfl, tu_ei (by first | rfl | (omega)), tu_ei (by first | rfl | omega), trivial⟩ rfl (ih6 (k + 1) 1 (by first | assumption | omega) (by omega) (by intro j hj; rcases Nat.lt_or_ge j k with q | q; exact hg j q; rw [show j = k from by omega, e2]; decide) (by omega))
        have lp40 : (¬ (0 < (tu_ps (M 10) k).2 ∧ M 10 k = 59)) → tu_W T 40 [(0, tu_r 9), (1, tu_i y), (2, tu_i ((tu_ps (M 10) k).2)), (3, tu_i ((k : Nat) : Int)), (4, tu_i (M 10 k))] [] M := by
            intro  j40
            refine tu_iload 40 X 4 dX2_faultPlace_40 rfl ?_
            refine tu_bipush 42 X dX2_faultPlace_42 (by decide) ?_
            refine tu_icmp_ne 44 X 56 dX2_faultPlace_44 (by decide) (show tu_rg (M 10 k) from by first | assumption | exact ⟨by omega, by omega⟩) ⟨by decide, by decide⟩ (fun br44 => ?_) (fun br44 => ?_)
            ·
              refine tu_jmp [0, 1, 2, 3, 4] (lv' := [(0, tu_r 9), (1, tu_i y), (2, tu_i ((tu_ps (M 10) k).2)), (3, tu_i ((k : Nat) : Int)), (4, tu_i (M 10 k))]) ⟨rfl, rfl, rfl, rfl, rfl, trivial⟩ rfl (lp56 (by first | assumption | omega) (by first | assumption | omega))
            ·
              refine tu_iload_n 47 X 1 dX2_faultPlace_47 rfl ?_
              refine tu_if_ne 48 X 56 dX2_faultPlace_48 (by decide) (show tu_rg y from by first | assumption | exact ⟨by omega, by omega⟩) (fun br48 => ?_) (fun br48 => ?_)
              ·
                refine tu_jmp [0, 1, 2, 3, 4] (lv' := [(0, tu_r 9), (1, tu_i y), (2, tu_i ((tu_ps (M 10) k).2)), (3, tu_i ((k : Nat) : Int)), (4, tu_i (M 10 k))]) ⟨rfl, rfl, rfl, rfl, rfl, trivial⟩ rfl (lp56 (by first | assumption | omega) (by first | assumption | omega))
              ·
                refine tu_iconst 51 X dX2_faultPlace_51 ?_
                refine tu_istore_n 52 X (lv' := [(1, tu_i 2), (0, tu_r 9), (2, tu_i ((tu_ps (M 10) k).2)), (3, tu_i ((k : Nat) : Int)), (4, tu_i (M 10 k))]) dX2_faultPlace_52 (by rw [hnl]; decide) rfl ?_
                have e2 : tu_kd (tu_ps (M 10) k) (M 10 k) = 1 := by unfold tu_kd; (repeat' split) <;> omega
                have e3 : tu_ps (M 10) (k + 1) = (1, 0) := by show tu_nx _ _ = _; simp [tu_nx, e2]
                have e5 : (tu_ps (M 10) (k + 1)).1 = 1 := by rw [e3]
                have e6 : (tu_ps (M 10) (k + 1)).2 = 0 := by rw [e3]
                refine tu_goto 53 X 110 dX2_faultPlace_53 (by decide) ?_
                refine tu_iinc 110 X (lv' := [(3, tu_i (((k : Nat) : Int) + 1)), (1, tu_i 2), (0, tu_r 9), (2, tu_i ((tu_ps (M 10) k).2)), (4, tu_i (M 10 k))]) 3 dX2_faultPlace_110 rfl (by rw [hnl]; decide) rfl ?_
                refine tu_goto 113 X 6 dX2_faultPlace_113 (by decide) ?_
                refine tu_jmp [2, 1, 3, 0] (lv' := [(0, tu_r 9), (1, tu_i 2), (2, tu_i ((tu_ps (M 10) (k + 1)).2)), (3, tu_i (((k + 1) : Nat) : Int))]) ⟨rfl, rfl, tu_ei (by first | rfl | (omega)), tu_ei (by first | rfl | omega), trivial⟩ rfl (ih6 (k + 1) 2 (by first | assumption | omega) (by omega) (by intro j hj; rcases Nat.lt_or_ge j k with q | q; exact hg j q; rw [show j = k from by omega, e2]; decide) (by omega))
        refine tu_iload 22 X 0 dX2_faultPlace_22 rfl ?_
        refine tu_bipush 24 X dX2_faultPlace_24 (by decide) ?_
        refine tu_icmp_ne 26 X 40 dX2_faultPlace_26 (by decide) (show tu_rg (M 10 k) from by first | assumption | exact ⟨by omega, by omega⟩) ⟨by decide, by decide⟩ (fun br26 => ?_) (fun br26 => ?_)
        ·
          refine tu_jmp [1, 2, 3, 4, 0] (lv' := [(0, tu_r 9), (1, tu_i y), (2, tu_i ((tu_ps (M 10) k).2)), (3, tu_i ((k : Nat) : Int)), (4, tu_i (M 10 k))]) ⟨rfl, rfl, rfl, rfl, rfl, trivial⟩ rfl (lp40 (by first | assumption | omega))
        ·
          refine tu_iload_n 29 X 3 dX2_faultPlace_29 rfl ?_
          refine tu_if_le 30 X 40 dX2_faultPlace_30 (by decide) (show tu_rg ((tu_ps (M 10) k).2) from by first | assumption | exact ⟨by omega, by omega⟩) (fun br30 => ?_) (fun br30 => ?_)
          ·
            refine tu_jmp [1, 2, 3, 4, 0] (lv' := [(0, tu_r 9), (1, tu_i y), (2, tu_i ((tu_ps (M 10) k).2)), (3, tu_i ((k : Nat) : Int)), (4, tu_i (M 10 k))]) ⟨rfl, rfl, rfl, rfl, rfl, trivial⟩ rfl (lp40 (by first | assumption | omega))
          ·
            refine tu_iconst 33 X dX2_faultPlace_33 ?_
            refine tu_istore_n 34 X (lv' := [(1, tu_i 0), (4, tu_i (M 10 k)), (0, tu_r 9), (2, tu_i ((tu_ps (M 10) k).2)), (3, tu_i ((k : Nat) : Int))]) dX2_faultPlace_34 (by rw [hnl]; decide) rfl ?_
            refine tu_iconst 35 X dX2_faultPlace_35 ?_
            refine tu_istore_n 36 X (lv' := [(2, tu_i 0), (1, tu_i 0), (4, tu_i (M 10 k)), (0, tu_r 9), (3, tu_i ((k : Nat) : Int))]) dX2_faultPlace_36 (by rw [hnl]; decide) rfl ?_
            have e2 : tu_kd (tu_ps (M 10) k) (M 10 k) = 4 := by unfold tu_kd; (repeat' split) <;> omega
            have e3 : tu_ps (M 10) (k + 1) = (0, 0) := by show tu_nx _ _ = _; simp [tu_nx, e2]
            have e5 : (tu_ps (M 10) (k + 1)).1 = 0 := by rw [e3]
            have e6 : (tu_ps (M 10) (k + 1)).2 = 0 := by rw [e3]
            refine tu_goto 37 X 110 dX2_faultPlace_37 (by decide) ?_
            refine tu_iinc 110 X (lv' := [(3, tu_i (((k : Nat) : Int) + 1)), (2, tu_i 0), (1, tu_i 0), (4, tu_i (M 10 k)), (0, tu_r 9)]) 4 dX2_faultPlace_110 rfl (by rw [hnl]; decide) rfl ?_
            refine tu_goto 113 X 6 dX2_faultPlace_113 (by decide) ?_
            refine tu_jmp [4, 2, 1, 0] (lv' := [(0, tu_r 9), (1, tu_i 0), (2, tu_i ((tu_ps (M 10) (k + 1)).2)), (3, tu_i (((k + 1) : Nat) : Int))]) ⟨rfl, rfl, tu_ei (by first | rfl | (omega)), tu_ei (by first | rfl | omega), trivial⟩ rfl (ih6 (k + 1) 0 (by first | assumption | omega) (by omega) (by intro j hj; rcases Nat.lt_or_ge j k with q | q; exact hg j q; rw [show j = k from by omega, e2]; decide) (by omega))
  refine tu_jmp [3, 2, 1, 0] (lv' := [(0, tu_r 9), (1, tu_i 0), (2, tu_i ((tu_ps (M 10) 0).2)), (3, tu_i 0)]) ⟨rfl, rfl, tu_ei (by first | rfl | (omega)), rfl, trivial⟩ rfl (lp6 (((M 9 1).toNat - 0) + 1) 0 0 (by first | assumption | omega) (by exact Or.inr (Or.inl ⟨rfl, rfl, rfl⟩)) (by intro j hj; omega) (by omega))
end
