section
-- ===== PART A: goes FIRST, ahead of the names: the tables' words, and 'selects' of the private methods out of them =====
/-- a private method of a class that the tables say can be made, by its rows of tables_1 -/
def lw_okq (q : MethodName × Nat) : Prop := (q.1.cls ≠ "java/lang/invoke/MethodHandle" ∧ q.1.cls ≠ "java/lang/invoke/VarHandle") ∧ Cond.instantiable q.1.cls q.2 ∈ tables_1 ∧ Cond.privateMethod q.1 ∈ tables_1 ∧ Cond.instanceMethod q.1 ∈ tables_1
theorem lw_p0 : lw_okq (⟨"JarSpirit$Jar", "begin", "(I)V"⟩, 12) := ⟨⟨by decide +kernel, by decide +kernel⟩, List.mem_of_getElem? (i := 22) (by decide +kernel), List.mem_of_getElem? (i := 146) (by decide +kernel), List.mem_of_getElem? (i := 147) (by decide +kernel)⟩
theorem lw_p1 : lw_okq (⟨"JarSpirit", "refuse", "(I)I"⟩, 11) := ⟨⟨by decide +kernel, by decide +kernel⟩, List.mem_of_getElem? (i := 14) (by decide +kernel), List.mem_of_getElem? (i := 199) (by decide +kernel), List.mem_of_getElem? (i := 200) (by decide +kernel)⟩
theorem lw_p2 : lw_okq (⟨"JarSpirit$Jar", "feel", "(II)V"⟩, 12) := ⟨⟨by decide +kernel, by decide +kernel⟩, List.mem_of_getElem? (i := 22) (by decide +kernel), List.mem_of_getElem? (i := 207) (by decide +kernel), List.mem_of_getElem? (i := 208) (by decide +kernel)⟩
theorem lw_p3 : lw_okq (⟨"JarSpirit$Scroll", "advance", "()V"⟩, 6) := ⟨⟨by decide +kernel, by decide +kernel⟩, List.mem_of_getElem? (i := 80) (by decide +kernel), List.mem_of_getElem? (i := 246) (by decide +kernel), List.mem_of_getElem? (i := 247) (by decide +kernel)⟩
theorem lw_p4 : lw_okq (⟨"JarSpirit$Scroll", "byteAt", "(I)I"⟩, 6) := ⟨⟨by decide +kernel, by decide +kernel⟩, List.mem_of_getElem? (i := 80) (by decide +kernel), List.mem_of_getElem? (i := 250) (by decide +kernel), List.mem_of_getElem? (i := 251) (by decide +kernel)⟩
theorem lw_p5 : lw_okq (⟨"JarSpirit$Scroll", "passLetters", "()V"⟩, 6) := ⟨⟨by decide +kernel, by decide +kernel⟩, List.mem_of_getElem? (i := 80) (by decide +kernel), List.mem_of_getElem? (i := 257) (by decide +kernel), List.mem_of_getElem? (i := 258) (by decide +kernel)⟩
theorem lw_p6 : lw_okq (⟨"JarSpirit$Scroll", "passFigures", "()V"⟩, 6) := ⟨⟨by decide +kernel, by decide +kernel⟩, List.mem_of_getElem? (i := 80) (by decide +kernel), List.mem_of_getElem? (i := 264) (by decide +kernel), List.mem_of_getElem? (i := 265) (by decide +kernel)⟩
theorem lw_p7 : lw_okq (⟨"JarSpirit$Scroll", "spells", "(Ljava/lang/String;)Z"⟩, 6) := ⟨⟨by decide +kernel, by decide +kernel⟩, List.mem_of_getElem? (i := 80) (by decide +kernel), List.mem_of_getElem? (i := 272) (by decide +kernel), List.mem_of_getElem? (i := 273) (by decide +kernel)⟩
theorem lw_p8 : lw_okq (⟨"JarSpirit$Scroll", "numberComes", "(II)Z"⟩, 6) := ⟨⟨by decide +kernel, by decide +kernel⟩, List.mem_of_getElem? (i := 80) (by decide +kernel), List.mem_of_getElem? (i := 324) (by decide +kernel), List.mem_of_getElem? (i := 325) (by decide +kernel)⟩
theorem lw_p9 : lw_okq (⟨"JarSpirit$Jar", "listen", "(I)V"⟩, 12) := ⟨⟨by decide +kernel, by decide +kernel⟩, List.mem_of_getElem? (i := 22) (by decide +kernel), List.mem_of_getElem? (i := 350) (by decide +kernel), List.mem_of_getElem? (i := 351) (by decide +kernel)⟩
theorem lw_p10 : lw_okq (⟨"JarSpirit$Jar", "hear", "(III)I"⟩, 12) := ⟨⟨by decide +kernel, by decide +kernel⟩, List.mem_of_getElem? (i := 22) (by decide +kernel), List.mem_of_getElem? (i := 354) (by decide +kernel), List.mem_of_getElem? (i := 355) (by decide +kernel)⟩
theorem lw_p11 : lw_okq (⟨"JarSpirit$Jar", "judge", "(III)I"⟩, 12) := ⟨⟨by decide +kernel, by decide +kernel⟩, List.mem_of_getElem? (i := 22) (by decide +kernel), List.mem_of_getElem? (i := 381) (by decide +kernel), List.mem_of_getElem? (i := 382) (by decide +kernel)⟩
theorem lw_p12 : lw_okq (⟨"JarSpirit$Jar", "take", "(LJarSpirit$Jar;)V"⟩, 12) := ⟨⟨by decide +kernel, by decide +kernel⟩, List.mem_of_getElem? (i := 22) (by decide +kernel), List.mem_of_getElem? (i := 385) (by decide +kernel), List.mem_of_getElem? (i := 386) (by decide +kernel)⟩
theorem lw_p13 : lw_okq (⟨"JarSpirit$Jar", "remember", "()V"⟩, 12) := ⟨⟨by decide +kernel, by decide +kernel⟩, List.mem_of_getElem? (i := 22) (by decide +kernel), List.mem_of_getElem? (i := 397) (by decide +kernel), List.mem_of_getElem? (i := 398) (by decide +kernel)⟩
theorem lw_p14 : lw_okq (⟨"JarSpirit$Jar", "goBack", "()V"⟩, 12) := ⟨⟨by decide +kernel, by decide +kernel⟩, List.mem_of_getElem? (i := 22) (by decide +kernel), List.mem_of_getElem? (i := 412) (by decide +kernel), List.mem_of_getElem? (i := 413) (by decide +kernel)⟩
theorem lw_p15 : lw_okq (⟨"JarSpirit", "refuseBad", "(I)I"⟩, 11) := ⟨⟨by decide +kernel, by decide +kernel⟩, List.mem_of_getElem? (i := 14) (by decide +kernel), List.mem_of_getElem? (i := 425) (by decide +kernel), List.mem_of_getElem? (i := 426) (by decide +kernel)⟩
def lw_privs_1 : List (MethodName × Nat) := [(⟨"JarSpirit$Jar", "begin", "(I)V"⟩, 12), (⟨"JarSpirit", "refuse", "(I)I"⟩, 11), (⟨"JarSpirit$Jar", "feel", "(II)V"⟩, 12), (⟨"JarSpirit$Scroll", "advance", "()V"⟩, 6), (⟨"JarSpirit$Scroll", "byteAt", "(I)I"⟩, 6), (⟨"JarSpirit$Scroll", "passLetters", "()V"⟩, 6), (⟨"JarSpirit$Scroll", "passFigures", "()V"⟩, 6), (⟨"JarSpirit$Scroll", "spells", "(Ljava/lang/String;)Z"⟩, 6), (⟨"JarSpirit$Scroll", "numberComes", "(II)Z"⟩, 6), (⟨"JarSpirit$Jar", "listen", "(I)V"⟩, 12), (⟨"JarSpirit$Jar", "hear", "(III)I"⟩, 12), (⟨"JarSpirit$Jar", "judge", "(III)I"⟩, 12), (⟨"JarSpirit$Jar", "take", "(LJarSpirit$Jar;)V"⟩, 12), (⟨"JarSpirit$Jar", "remember", "()V"⟩, 12), (⟨"JarSpirit$Jar", "goBack", "()V"⟩, 12), (⟨"JarSpirit", "refuseBad", "(I)I"⟩, 11)]
theorem lw_r1 : ∀ q ∈ lw_privs_1, lw_okq q := List.forall_mem_cons.mpr ⟨lw_p0, List.forall_mem_cons.mpr ⟨lw_p1, List.forall_mem_cons.mpr ⟨lw_p2, List.forall_mem_cons.mpr ⟨lw_p3, List.forall_mem_cons.mpr ⟨lw_p4, List.forall_mem_cons.mpr ⟨lw_p5, List.forall_mem_cons.mpr ⟨lw_p6, List.forall_mem_cons.mpr ⟨lw_p7, List.forall_mem_cons.mpr ⟨lw_p8, List.forall_mem_cons.mpr ⟨lw_p9, List.forall_mem_cons.mpr ⟨lw_p10, List.forall_mem_cons.mpr ⟨lw_p11, List.forall_mem_cons.mpr ⟨lw_p12, List.forall_mem_cons.mpr ⟨lw_p13, List.forall_mem_cons.mpr ⟨lw_p14, List.forall_mem_cons.mpr ⟨lw_p15, fun _ h => absurd h List.not_mem_nil⟩⟩⟩⟩⟩⟩⟩⟩⟩⟩⟩⟩⟩⟩⟩⟩
theorem lw_p16 : lw_okq (⟨"JarSpirit$Talk", "spell", "(II)I"⟩, 9) := ⟨⟨by decide +kernel, by decide +kernel⟩, List.mem_of_getElem? (i := 111) (by decide +kernel), List.mem_of_getElem? (i := 435) (by decide +kernel), List.mem_of_getElem? (i := 436) (by decide +kernel)⟩
theorem lw_p17 : lw_okq (⟨"JarSpirit$Talk", "shortestIn", "(LJarSpirit$Jar;)I"⟩, 9) := ⟨⟨by decide +kernel, by decide +kernel⟩, List.mem_of_getElem? (i := 111) (by decide +kernel), List.mem_of_getElem? (i := 450) (by decide +kernel), List.mem_of_getElem? (i := 451) (by decide +kernel)⟩
theorem lw_p18 : lw_okq (⟨"JarSpirit$Talk", "seek", "(LJarSpirit$Jar;IZ)V"⟩, 9) := ⟨⟨by decide +kernel, by decide +kernel⟩, List.mem_of_getElem? (i := 111) (by decide +kernel), List.mem_of_getElem? (i := 455) (by decide +kernel), List.mem_of_getElem? (i := 456) (by decide +kernel)⟩
theorem lw_p19 : lw_okq (⟨"JarSpirit", "lengthOrWord", "(II)I"⟩, 11) := ⟨⟨by decide +kernel, by decide +kernel⟩, List.mem_of_getElem? (i := 14) (by decide +kernel), List.mem_of_getElem? (i := 473) (by decide +kernel), List.mem_of_getElem? (i := 474) (by decide +kernel)⟩
theorem lw_p20 : lw_okq (⟨"JarSpirit$Talk", "longestOut", "(LJarSpirit$Jar;Z)I"⟩, 9) := ⟨⟨by decide +kernel, by decide +kernel⟩, List.mem_of_getElem? (i := 111) (by decide +kernel), List.mem_of_getElem? (i := 481) (by decide +kernel), List.mem_of_getElem? (i := 482) (by decide +kernel)⟩
theorem lw_p21 : lw_okq (⟨"JarSpirit", "setFraction", "(JJ)V"⟩, 11) := ⟨⟨by decide +kernel, by decide +kernel⟩, List.mem_of_getElem? (i := 14) (by decide +kernel), List.mem_of_getElem? (i := 501) (by decide +kernel), List.mem_of_getElem? (i := 502) (by decide +kernel)⟩
theorem lw_p22 : lw_okq (⟨"JarSpirit$Jar", "addNote", "(IIII)V"⟩, 12) := ⟨⟨by decide +kernel, by decide +kernel⟩, List.mem_of_getElem? (i := 22) (by decide +kernel), List.mem_of_getElem? (i := 515) (by decide +kernel), List.mem_of_getElem? (i := 516) (by decide +kernel)⟩
theorem lw_p23 : lw_okq (⟨"JarSpirit$Jar", "notesFit", "(I)Z"⟩, 12) := ⟨⟨by decide +kernel, by decide +kernel⟩, List.mem_of_getElem? (i := 22) (by decide +kernel), List.mem_of_getElem? (i := 527) (by decide +kernel), List.mem_of_getElem? (i := 528) (by decide +kernel)⟩
theorem lw_p24 : lw_okq (⟨"JarSpirit", "pairWorth", "(II)I"⟩, 11) := ⟨⟨by decide +kernel, by decide +kernel⟩, List.mem_of_getElem? (i := 14) (by decide +kernel), List.mem_of_getElem? (i := 546) (by decide +kernel), List.mem_of_getElem? (i := 547) (by decide +kernel)⟩
theorem lw_p25 : lw_okq (⟨"JarSpirit$Talk", "weighIn", "(LJarSpirit$Jar;II)J"⟩, 9) := ⟨⟨by decide +kernel, by decide +kernel⟩, List.mem_of_getElem? (i := 111) (by decide +kernel), List.mem_of_getElem? (i := 555) (by decide +kernel), List.mem_of_getElem? (i := 556) (by decide +kernel)⟩
theorem lw_p26 : lw_okq (⟨"JarSpirit", "imageAt", "(I)LJarSpirit$Jar;"⟩, 11) := ⟨⟨by decide +kernel, by decide +kernel⟩, List.mem_of_getElem? (i := 14) (by decide +kernel), List.mem_of_getElem? (i := 581) (by decide +kernel), List.mem_of_getElem? (i := 582) (by decide +kernel)⟩
theorem lw_p27 : lw_okq (⟨"JarSpiritModel", "fresh", "(I)V"⟩, 24) := ⟨⟨by decide +kernel, by decide +kernel⟩, List.mem_of_getElem? (i := 605) (by decide +kernel), List.mem_of_getElem? (i := 612) (by decide +kernel), List.mem_of_getElem? (i := 613) (by decide +kernel)⟩
theorem lw_p28 : lw_okq (⟨"JarSpiritModel", "noAs", "(I)I"⟩, 24) := ⟨⟨by decide +kernel, by decide +kernel⟩, List.mem_of_getElem? (i := 605) (by decide +kernel), List.mem_of_getElem? (i := 698) (by decide +kernel), List.mem_of_getElem? (i := 699) (by decide +kernel)⟩
theorem lw_p29 : lw_okq (⟨"JarSpiritModel", "no", "(I)I"⟩, 24) := ⟨⟨by decide +kernel, by decide +kernel⟩, List.mem_of_getElem? (i := 605) (by decide +kernel), List.mem_of_getElem? (i := 707) (by decide +kernel), List.mem_of_getElem? (i := 708) (by decide +kernel)⟩
theorem lw_p30 : lw_okq (⟨"JarSpiritModel", "here", "()I"⟩, 24) := ⟨⟨by decide +kernel, by decide +kernel⟩, List.mem_of_getElem? (i := 605) (by decide +kernel), List.mem_of_getElem? (i := 739) (by decide +kernel), List.mem_of_getElem? (i := 740) (by decide +kernel)⟩
theorem lw_p31 : lw_okq (⟨"JarSpiritModel", "takeItem", "(I)V"⟩, 24) := ⟨⟨by decide +kernel, by decide +kernel⟩, List.mem_of_getElem? (i := 605) (by decide +kernel), List.mem_of_getElem? (i := 743) (by decide +kernel), List.mem_of_getElem? (i := 744) (by decide +kernel)⟩
def lw_privs_2 : List (MethodName × Nat) := [(⟨"JarSpirit$Talk", "spell", "(II)I"⟩, 9), (⟨"JarSpirit$Talk", "shortestIn", "(LJarSpirit$Jar;)I"⟩, 9), (⟨"JarSpirit$Talk", "seek", "(LJarSpirit$Jar;IZ)V"⟩, 9), (⟨"JarSpirit", "lengthOrWord", "(II)I"⟩, 11), (⟨"JarSpirit$Talk", "longestOut", "(LJarSpirit$Jar;Z)I"⟩, 9), (⟨"JarSpirit", "setFraction", "(JJ)V"⟩, 11), (⟨"JarSpirit$Jar", "addNote", "(IIII)V"⟩, 12), (⟨"JarSpirit$Jar", "notesFit", "(I)Z"⟩, 12), (⟨"JarSpirit", "pairWorth", "(II)I"⟩, 11), (⟨"JarSpirit$Talk", "weighIn", "(LJarSpirit$Jar;II)J"⟩, 9), (⟨"JarSpirit", "imageAt", "(I)LJarSpirit$Jar;"⟩, 11), (⟨"JarSpiritModel", "fresh", "(I)V"⟩, 24), (⟨"JarSpiritModel", "noAs", "(I)I"⟩, 24), (⟨"JarSpiritModel", "no", "(I)I"⟩, 24), (⟨"JarSpiritModel", "here", "()I"⟩, 24), (⟨"JarSpiritModel", "takeItem", "(I)V"⟩, 24)]
theorem lw_r2 : ∀ q ∈ lw_privs_2, lw_okq q := List.forall_mem_cons.mpr ⟨lw_p16, List.forall_mem_cons.mpr ⟨lw_p17, List.forall_mem_cons.mpr ⟨lw_p18, List.forall_mem_cons.mpr ⟨lw_p19, List.forall_mem_cons.mpr ⟨lw_p20, List.forall_mem_cons.mpr ⟨lw_p21, List.forall_mem_cons.mpr ⟨lw_p22, List.forall_mem_cons.mpr ⟨lw_p23, List.forall_mem_cons.mpr ⟨lw_p24, List.forall_mem_cons.mpr ⟨lw_p25, List.forall_mem_cons.mpr ⟨lw_p26, List.forall_mem_cons.mpr ⟨lw_p27, List.forall_mem_cons.mpr ⟨lw_p28, List.forall_mem_cons.mpr ⟨lw_p29, List.forall_mem_cons.mpr ⟨lw_p30, List.forall_mem_cons.mpr ⟨lw_p31, fun _ h => absurd h List.not_mem_nil⟩⟩⟩⟩⟩⟩⟩⟩⟩⟩⟩⟩⟩⟩⟩⟩
theorem lw_p32 : lw_okq (⟨"JarSpiritModel", "takeWord", "()I"⟩, 24) := ⟨⟨by decide +kernel, by decide +kernel⟩, List.mem_of_getElem? (i := 605) (by decide +kernel), List.mem_of_getElem? (i := 747) (by decide +kernel), List.mem_of_getElem? (i := 748) (by decide +kernel)⟩
theorem lw_p33 : lw_okq (⟨"JarSpiritModel", "wrong", "()V"⟩, 24) := ⟨⟨by decide +kernel, by decide +kernel⟩, List.mem_of_getElem? (i := 605) (by decide +kernel), List.mem_of_getElem? (i := 756) (by decide +kernel), List.mem_of_getElem? (i := 757) (by decide +kernel)⟩
theorem lw_p34 : lw_okq (⟨"JarSpiritModel", "takeNumber", "(II)I"⟩, 24) := ⟨⟨by decide +kernel, by decide +kernel⟩, List.mem_of_getElem? (i := 605) (by decide +kernel), List.mem_of_getElem? (i := 760) (by decide +kernel), List.mem_of_getElem? (i := 761) (by decide +kernel)⟩
theorem lw_p35 : lw_okq (⟨"JarSpiritModel", "takeMood", "()V"⟩, 24) := ⟨⟨by decide +kernel, by decide +kernel⟩, List.mem_of_getElem? (i := 605) (by decide +kernel), List.mem_of_getElem? (i := 766) (by decide +kernel), List.mem_of_getElem? (i := 767) (by decide +kernel)⟩
theorem lw_p36 : lw_okq (⟨"JarSpiritModel", "takeBound", "()V"⟩, 24) := ⟨⟨by decide +kernel, by decide +kernel⟩, List.mem_of_getElem? (i := 605) (by decide +kernel), List.mem_of_getElem? (i := 770) (by decide +kernel), List.mem_of_getElem? (i := 771) (by decide +kernel)⟩
theorem lw_p37 : lw_okq (⟨"JarSpiritModel", "takeVow", "()V"⟩, 24) := ⟨⟨by decide +kernel, by decide +kernel⟩, List.mem_of_getElem? (i := 605) (by decide +kernel), List.mem_of_getElem? (i := 774) (by decide +kernel), List.mem_of_getElem? (i := 775) (by decide +kernel)⟩
theorem lw_p38 : lw_okq (⟨"JarSpiritModel", "takeSay", "()V"⟩, 24) := ⟨⟨by decide +kernel, by decide +kernel⟩, List.mem_of_getElem? (i := 605) (by decide +kernel), List.mem_of_getElem? (i := 778) (by decide +kernel), List.mem_of_getElem? (i := 779) (by decide +kernel)⟩
theorem lw_p39 : lw_okq (⟨"JarSpiritModel", "begin", "()V"⟩, 24) := ⟨⟨by decide +kernel, by decide +kernel⟩, List.mem_of_getElem? (i := 605) (by decide +kernel), List.mem_of_getElem? (i := 782) (by decide +kernel), List.mem_of_getElem? (i := 783) (by decide +kernel)⟩
theorem lw_p40 : lw_okq (⟨"JarSpiritModel", "hear", "(IZ)V"⟩, 24) := ⟨⟨by decide +kernel, by decide +kernel⟩, List.mem_of_getElem? (i := 605) (by decide +kernel), List.mem_of_getElem? (i := 786) (by decide +kernel), List.mem_of_getElem? (i := 787) (by decide +kernel)⟩
theorem lw_p41 : lw_okq (⟨"JarSpiritModel", "angerBy", "(III)I"⟩, 24) := ⟨⟨by decide +kernel, by decide +kernel⟩, List.mem_of_getElem? (i := 605) (by decide +kernel), List.mem_of_getElem? (i := 790) (by decide +kernel), List.mem_of_getElem? (i := 791) (by decide +kernel)⟩
theorem lw_p42 : lw_okq (⟨"JarSpiritModel", "prideBy", "(III)I"⟩, 24) := ⟨⟨by decide +kernel, by decide +kernel⟩, List.mem_of_getElem? (i := 605) (by decide +kernel), List.mem_of_getElem? (i := 797) (by decide +kernel), List.mem_of_getElem? (i := 798) (by decide +kernel)⟩
theorem lw_p43 : lw_okq (⟨"JarSpiritModel", "giveBack", "()V"⟩, 24) := ⟨⟨by decide +kernel, by decide +kernel⟩, List.mem_of_getElem? (i := 605) (by decide +kernel), List.mem_of_getElem? (i := 801) (by decide +kernel), List.mem_of_getElem? (i := 802) (by decide +kernel)⟩
theorem lw_p44 : lw_okq (⟨"JarSpiritModel", "remember", "()V"⟩, 24) := ⟨⟨by decide +kernel, by decide +kernel⟩, List.mem_of_getElem? (i := 605) (by decide +kernel), List.mem_of_getElem? (i := 809) (by decide +kernel), List.mem_of_getElem? (i := 810) (by decide +kernel)⟩
theorem lw_p45 : lw_okq (⟨"JarSpiritModel", "takeRow", "(II)Z"⟩, 24) := ⟨⟨by decide +kernel, by decide +kernel⟩, List.mem_of_getElem? (i := 605) (by decide +kernel), List.mem_of_getElem? (i := 834) (by decide +kernel), List.mem_of_getElem? (i := 835) (by decide +kernel)⟩
theorem lw_p46 : lw_okq (⟨"JarSpiritModel", "findFar", "()V"⟩, 24) := ⟨⟨by decide +kernel, by decide +kernel⟩, List.mem_of_getElem? (i := 605) (by decide +kernel), List.mem_of_getElem? (i := 843) (by decide +kernel), List.mem_of_getElem? (i := 844) (by decide +kernel)⟩
theorem lw_p47 : lw_okq (⟨"JarSpiritModel", "standAt", "(I)V"⟩, 24) := ⟨⟨by decide +kernel, by decide +kernel⟩, List.mem_of_getElem? (i := 605) (by decide +kernel), List.mem_of_getElem? (i := 847) (by decide +kernel), List.mem_of_getElem? (i := 848) (by decide +kernel)⟩
def lw_privs_3 : List (MethodName × Nat) := [(⟨"JarSpiritModel", "takeWord", "()I"⟩, 24), (⟨"JarSpiritModel", "wrong", "()V"⟩, 24), (⟨"JarSpiritModel", "takeNumber", "(II)I"⟩, 24), (⟨"JarSpiritModel", "takeMood", "()V"⟩, 24), (⟨"JarSpiritModel", "takeBound", "()V"⟩, 24), (⟨"JarSpiritModel", "takeVow", "()V"⟩, 24), (⟨"JarSpiritModel", "takeSay", "()V"⟩, 24), (⟨"JarSpiritModel", "begin", "()V"⟩, 24), (⟨"JarSpiritModel", "hear", "(IZ)V"⟩, 24), (⟨"JarSpiritModel", "angerBy", "(III)I"⟩, 24), (⟨"JarSpiritModel", "prideBy", "(III)I"⟩, 24), (⟨"JarSpiritModel", "giveBack", "()V"⟩, 24), (⟨"JarSpiritModel", "remember", "()V"⟩, 24), (⟨"JarSpiritModel", "takeRow", "(II)Z"⟩, 24), (⟨"JarSpiritModel", "findFar", "()V"⟩, 24), (⟨"JarSpiritModel", "standAt", "(I)V"⟩, 24)]
theorem lw_r3 : ∀ q ∈ lw_privs_3, lw_okq q := List.forall_mem_cons.mpr ⟨lw_p32, List.forall_mem_cons.mpr ⟨lw_p33, List.forall_mem_cons.mpr ⟨lw_p34, List.forall_mem_cons.mpr ⟨lw_p35, List.forall_mem_cons.mpr ⟨lw_p36, List.forall_mem_cons.mpr ⟨lw_p37, List.forall_mem_cons.mpr ⟨lw_p38, List.forall_mem_cons.mpr ⟨lw_p39, List.forall_mem_cons.mpr ⟨lw_p40, List.forall_mem_cons.mpr ⟨lw_p41, List.forall_mem_cons.mpr ⟨lw_p42, List.forall_mem_cons.mpr ⟨lw_p43, List.forall_mem_cons.mpr ⟨lw_p44, List.forall_mem_cons.mpr ⟨lw_p45, List.forall_mem_cons.mpr ⟨lw_p46, List.forall_mem_cons.mpr ⟨lw_p47, fun _ h => absurd h List.not_mem_nil⟩⟩⟩⟩⟩⟩⟩⟩⟩⟩⟩⟩⟩⟩⟩⟩
theorem lw_p48 : lw_okq (⟨"JarSpiritModel", "walkIn", "(I)V"⟩, 24) := ⟨⟨by decide +kernel, by decide +kernel⟩, List.mem_of_getElem? (i := 605) (by decide +kernel), List.mem_of_getElem? (i := 854) (by decide +kernel), List.mem_of_getElem? (i := 855) (by decide +kernel)⟩
theorem lw_p49 : lw_okq (⟨"JarSpiritModel", "findStays", "(I)V"⟩, 24) := ⟨⟨by decide +kernel, by decide +kernel⟩, List.mem_of_getElem? (i := 605) (by decide +kernel), List.mem_of_getElem? (i := 862) (by decide +kernel), List.mem_of_getElem? (i := 863) (by decide +kernel)⟩
theorem lw_p50 : lw_okq (⟨"JarSpiritModel", "canStay", "(III)Z"⟩, 24) := ⟨⟨by decide +kernel, by decide +kernel⟩, List.mem_of_getElem? (i := 605) (by decide +kernel), List.mem_of_getElem? (i := 866) (by decide +kernel), List.mem_of_getElem? (i := 867) (by decide +kernel)⟩
theorem lw_p51 : lw_okq (⟨"JarSpiritModel", "longestStay", "()I"⟩, 24) := ⟨⟨by decide +kernel, by decide +kernel⟩, List.mem_of_getElem? (i := 605) (by decide +kernel), List.mem_of_getElem? (i := 873) (by decide +kernel), List.mem_of_getElem? (i := 874) (by decide +kernel)⟩
theorem lw_p52 : lw_okq (⟨"JarSpiritModel", "walkOut", "(II)V"⟩, 24) := ⟨⟨by decide +kernel, by decide +kernel⟩, List.mem_of_getElem? (i := 605) (by decide +kernel), List.mem_of_getElem? (i := 877) (by decide +kernel), List.mem_of_getElem? (i := 878) (by decide +kernel)⟩
theorem lw_p53 : lw_okq (⟨"JarSpiritModel", "fraction", "(JJ)V"⟩, 24) := ⟨⟨by decide +kernel, by decide +kernel⟩, List.mem_of_getElem? (i := 605) (by decide +kernel), List.mem_of_getElem? (i := 897) (by decide +kernel), List.mem_of_getElem? (i := 898) (by decide +kernel)⟩
theorem lw_p54 : lw_okq (⟨"JarSpiritModel", "kindsThatFit", "()I"⟩, 24) := ⟨⟨by decide +kernel, by decide +kernel⟩, List.mem_of_getElem? (i := 605) (by decide +kernel), List.mem_of_getElem? (i := 918) (by decide +kernel), List.mem_of_getElem? (i := 919) (by decide +kernel)⟩
theorem lw_p55 : lw_okq (⟨"JarSpiritModel", "greatestPart", "(II)I"⟩, 24) := ⟨⟨by decide +kernel, by decide +kernel⟩, List.mem_of_getElem? (i := 605) (by decide +kernel), List.mem_of_getElem? (i := 926) (by decide +kernel), List.mem_of_getElem? (i := 927) (by decide +kernel)⟩
theorem lw_p56 : lw_okq (⟨"JarSpiritModel", "gain", "(IZ)I"⟩, 24) := ⟨⟨by decide +kernel, by decide +kernel⟩, List.mem_of_getElem? (i := 605) (by decide +kernel), List.mem_of_getElem? (i := 934) (by decide +kernel), List.mem_of_getElem? (i := 935) (by decide +kernel)⟩
theorem lw_p57 : lw_okq (⟨"JarSpiritModel", "countOf", "(I)I"⟩, 24) := ⟨⟨by decide +kernel, by decide +kernel⟩, List.mem_of_getElem? (i := 605) (by decide +kernel), List.mem_of_getElem? (i := 969) (by decide +kernel), List.mem_of_getElem? (i := 970) (by decide +kernel)⟩
def lw_privs_4 : List (MethodName × Nat) := [(⟨"JarSpiritModel", "walkIn", "(I)V"⟩, 24), (⟨"JarSpiritModel", "findStays", "(I)V"⟩, 24), (⟨"JarSpiritModel", "canStay", "(III)Z"⟩, 24), (⟨"JarSpiritModel", "longestStay", "()I"⟩, 24), (⟨"JarSpiritModel", "walkOut", "(II)V"⟩, 24), (⟨"JarSpiritModel", "fraction", "(JJ)V"⟩, 24), (⟨"JarSpiritModel", "kindsThatFit", "()I"⟩, 24), (⟨"JarSpiritModel", "greatestPart", "(II)I"⟩, 24), (⟨"JarSpiritModel", "gain", "(IZ)I"⟩, 24), (⟨"JarSpiritModel", "countOf", "(I)I"⟩, 24)]
theorem lw_r4 : ∀ q ∈ lw_privs_4, lw_okq q := List.forall_mem_cons.mpr ⟨lw_p48, List.forall_mem_cons.mpr ⟨lw_p49, List.forall_mem_cons.mpr ⟨lw_p50, List.forall_mem_cons.mpr ⟨lw_p51, List.forall_mem_cons.mpr ⟨lw_p52, List.forall_mem_cons.mpr ⟨lw_p53, List.forall_mem_cons.mpr ⟨lw_p54, List.forall_mem_cons.mpr ⟨lw_p55, List.forall_mem_cons.mpr ⟨lw_p56, List.forall_mem_cons.mpr ⟨lw_p57, fun _ h => absurd h List.not_mem_nil⟩⟩⟩⟩⟩⟩⟩⟩⟩⟩
def lw_privs : List (MethodName × Nat) := lw_privs_1 ++ (lw_privs_2 ++ (lw_privs_3 ++ (lw_privs_4)))
def lw_tbl : List Cond := k2_sels lw_privs ++ tables_1
theorem lw_privs_ok : ∀ q ∈ lw_privs, lw_okq q := by
  show ∀ q ∈ lw_privs_1 ++ (lw_privs_2 ++ (lw_privs_3 ++ (lw_privs_4))), lw_okq q
  exact List.forall_mem_append.mpr ⟨lw_r1, List.forall_mem_append.mpr ⟨lw_r2, List.forall_mem_append.mpr ⟨lw_r3, lw_r4⟩⟩⟩
end
section
/-! ===== BEGIN words of one list among another's, by their places ===== -/
/-! ===== END ===== -/

/-! ===== BEGIN printed: names, fields, word lists, decode rows ===== -/
def RX0 : String := "JarSpirit$Jar"
def TX0 : u_T := fun k => match k with
  | 0 => ("JarSpirit$Jar", "kind", "I", false)
  | 1 => ("JarSpirit$Jar", "wrath", "I", false)
  | 2 => ("JarSpirit$Jar", "height", "I", false)
  | 3 => ("JarSpirit$Jar", "mind", "I", false)
  | 4 => ("JarSpirit$Jar", "said", "I", false)
  | 5 => ("JarSpirit$Jar", "noteCount", "I", false)
  | 6 => ("JarSpirit$Jar", "pasts", "I", false)
  | 7 => ("JarSpirit$Jar", "isKept", "Z", false)
  | 8 => ("JarSpirit$Jar", "vows", "[I", true)
  | 9 => ("JarSpirit$Jar", "notes", "[I", true)
  | 10 => ("JarSpirit$Jar", "pastMinds", "[I", true)
  | _ => ("JarSpirit$Jar", "pastSaids", "[I", true)
def tyX0 : Nat → FieldType := fun k => match k with
  | 0 => .int
  | 1 => .int
  | 2 => .int
  | 3 => .int
  | 4 => .int
  | 5 => .int
  | 6 => .int
  | 7 => .boolean
  | 8 => .array .int
  | 9 => .array .int
  | 10 => .array .int
  | _ => .array .int
abbrev wsX00 : List Cond := u_ws RX0 TX0 12
theorem nmX0 : ∀ a, a < 12 → ∀ b, b < 12 → a ≠ b → (TX0 a).2.1 ≠ (TX0 b).2.1 := by decide +kernel
theorem tyX0_ok : ∀ k, k < 12 → parseFieldDescriptor (TX0 k).2.2.1 = some (tyX0 k) := by decide +kernel
abbrev cX0_init : ByteArray := prog_2_method_1_code
def yX0_init : MethodName := ⟨RX0, "<init>", "()V"⟩
abbrev cX0_begin : ByteArray := prog_2_method_2_code
def yX0_begin : MethodName := ⟨RX0, "begin", "(I)V"⟩
abbrev cX0_take : ByteArray := prog_2_method_3_code
def yX0_take : MethodName := ⟨RX0, "take", "(LJarSpirit$Jar;)V"⟩
abbrev cX0_feel : ByteArray := prog_2_method_4_code
def yX0_feel : MethodName := ⟨RX0, "feel", "(II)V"⟩
abbrev cX0_hear : ByteArray := prog_2_method_5_code
def yX0_hear : MethodName := ⟨RX0, "hear", "(III)I"⟩
abbrev cX0_judge : ByteArray := prog_2_method_6_code
def yX0_judge : MethodName := ⟨RX0, "judge", "(III)I"⟩
abbrev cX0_listen : ByteArray := prog_2_method_7_code
def yX0_listen : MethodName := ⟨RX0, "listen", "(I)V"⟩
abbrev cX0_remember : ByteArray := prog_2_method_8_code
def yX0_remember : MethodName := ⟨RX0, "remember", "()V"⟩
abbrev cX0_goBack : ByteArray := prog_2_method_9_code
def yX0_goBack : MethodName := ⟨RX0, "goBack", "()V"⟩
abbrev cX0_addNote : ByteArray := prog_2_method_10_code
def yX0_addNote : MethodName := ⟨RX0, "addNote", "(IIII)V"⟩
abbrev cX0_notesFit : ByteArray := prog_2_method_11_code
def yX0_notesFit : MethodName := ⟨RX0, "notesFit", "(I)Z"⟩
def RX1 : String := "JarSpirit$Scroll"
def TX1 : u_T := fun k => match k with
  | 0 => ("JarSpirit$Scroll", "bytes", "[I", true)
  | 1 => ("JarSpirit$Scroll", "length", "I", false)
  | 2 => ("JarSpirit$Scroll", "next", "I", false)
  | 3 => ("JarSpirit$Scroll", "start", "I", false)
  | 4 => ("JarSpirit$Scroll", "token", "I", false)
  | _ => ("JarSpirit$Scroll", "value", "I", false)
def tyX1 : Nat → FieldType := fun k => match k with
  | 0 => .array .int
  | 1 => .int
  | 2 => .int
  | 3 => .int
  | 4 => .int
  | _ => .int
abbrev wsX10 : List Cond := u_ws RX1 TX1 6
theorem nmX1 : ∀ a, a < 6 → ∀ b, b < 6 → a ≠ b → (TX1 a).2.1 ≠ (TX1 b).2.1 := by decide +kernel
theorem tyX1_ok : ∀ k, k < 6 → parseFieldDescriptor (TX1 k).2.2.1 = some (tyX1 k) := by decide +kernel
abbrev cX1_init : ByteArray := prog_3_method_1_code
def yX1_init : MethodName := ⟨RX1, "<init>", "()V"⟩
abbrev cX1_byteAt : ByteArray := prog_3_method_2_code
def yX1_byteAt : MethodName := ⟨RX1, "byteAt", "(I)I"⟩
abbrev cX1_isLetter : ByteArray := prog_3_method_3_code
def yX1_isLetter : MethodName := ⟨RX1, "isLetter", "(I)Z"⟩
abbrev cX1_isFigure : ByteArray := prog_3_method_4_code
def yX1_isFigure : MethodName := ⟨RX1, "isFigure", "(I)Z"⟩
abbrev cX1_advance : ByteArray := prog_3_method_5_code
def yX1_advance : MethodName := ⟨RX1, "advance", "()V"⟩
abbrev cX1_passLetters : ByteArray := prog_3_method_6_code
def yX1_passLetters : MethodName := ⟨RX1, "passLetters", "()V"⟩
abbrev cX1_passFigures : ByteArray := prog_3_method_7_code
def yX1_passFigures : MethodName := ⟨RX1, "passFigures", "()V"⟩
abbrev cX1_spells : ByteArray := prog_3_method_8_code
def yX1_spells : MethodName := ⟨RX1, "spells", "(Ljava/lang/String;)Z"⟩
abbrev cX1_numberComes : ByteArray := prog_3_method_9_code
def yX1_numberComes : MethodName := ⟨RX1, "numberComes", "(II)Z"⟩
def RX2 : String := "JarSpirit$Talk"
def TX2 : u_T := fun k => match k with
  | 0 => ("JarSpirit$Talk", "row", "[I", true)
  | 1 => ("JarSpirit$Talk", "failed", "[I", true)
  | 2 => ("JarSpirit$Talk", "jar", "LJarSpirit$Jar;", false)
  | 3 => ("JarSpirit$Talk", "end", "I", false)
  | 4 => ("JarSpirit$Talk", "brief", "Z", false)
  | 5 => ("JarSpirit$Talk", "mostPride", "I", false)
  | 6 => ("JarSpirit$Talk", "doubtPride", "I", false)
  | 7 => ("JarSpirit$Talk", "length", "I", false)
  | _ => ("JarSpirit$Talk", "heard", "I", false)
def tyX2 : Nat → FieldType := fun k => match k with
  | 0 => .array .int
  | 1 => .array .int
  | 2 => .object "JarSpirit$Jar"
  | 3 => .int
  | 4 => .boolean
  | 5 => .int
  | 6 => .int
  | 7 => .int
  | _ => .int
abbrev wsX20 : List Cond := u_ws RX2 TX2 9
theorem nmX2 : ∀ a, a < 9 → ∀ b, b < 9 → a ≠ b → (TX2 a).2.1 ≠ (TX2 b).2.1 := by decide +kernel
theorem tyX2_ok : ∀ k, k < 9 → parseFieldDescriptor (TX2 k).2.2.1 = some (tyX2 k) := by decide +kernel
abbrev cX2_init : ByteArray := prog_4_method_1_code
def yX2_init : MethodName := ⟨RX2, "<init>", "()V"⟩
abbrev cX2_spell : ByteArray := prog_4_method_2_code
def yX2_spell : MethodName := ⟨RX2, "spell", "(II)I"⟩
abbrev cX2_shortestIn : ByteArray := prog_4_method_3_code
def yX2_shortestIn : MethodName := ⟨RX2, "shortestIn", "(LJarSpirit$Jar;)I"⟩
abbrev cX2_longestOut : ByteArray := prog_4_method_4_code
def yX2_longestOut : MethodName := ⟨RX2, "longestOut", "(LJarSpirit$Jar;Z)I"⟩
abbrev cX2_seek : ByteArray := prog_4_method_5_code
def yX2_seek : MethodName := ⟨RX2, "seek", "(LJarSpirit$Jar;IZ)V"⟩
abbrev cX2_reaches : ByteArray := prog_4_method_6_code
def yX2_reaches : MethodName := ⟨RX2, "reaches", "(LJarSpirit$Talk;IIII)Z"⟩
abbrev cX2_isHopeless : ByteArray := prog_4_method_7_code
def yX2_isHopeless : MethodName := ⟨RX2, "isHopeless", "(LJarSpirit$Talk;II)Z"⟩
abbrev cX2_weighIn : ByteArray := prog_4_method_8_code
def yX2_weighIn : MethodName := ⟨RX2, "weighIn", "(LJarSpirit$Jar;II)J"⟩
abbrev cX2_weigh : ByteArray := prog_4_method_9_code
def yX2_weigh : MethodName := ⟨RX2, "weigh", "(LJarSpirit$Talk;III)J"⟩
def RX3 : String := "JarSpirit"
def TX3 : u_T := fun k => match k with
  | 0 => ("JarSpirit", "jar", "LJarSpirit$Jar;", true)
  | 1 => ("JarSpirit", "draft", "LJarSpirit$Jar;", true)
  | 2 => ("JarSpirit", "image0", "LJarSpirit$Jar;", true)
  | 3 => ("JarSpirit", "image1", "LJarSpirit$Jar;", true)
  | 4 => ("JarSpirit", "scroll", "LJarSpirit$Scroll;", true)
  | 5 => ("JarSpirit", "talk", "LJarSpirit$Talk;", true)
  | 6 => ("JarSpirit", "above", "J", false)
  | 7 => ("JarSpirit", "below", "J", false)
  | 8 => ("JarSpirit", "badCalls", "I", false)
  | 9 => ("JarSpirit", "noCalls", "I", false)
  | _ => ("JarSpirit", "fullCalls", "I", false)
def tyX3 : Nat → FieldType := fun k => match k with
  | 0 => .object "JarSpirit$Jar"
  | 1 => .object "JarSpirit$Jar"
  | 2 => .object "JarSpirit$Jar"
  | 3 => .object "JarSpirit$Jar"
  | 4 => .object "JarSpirit$Scroll"
  | 5 => .object "JarSpirit$Talk"
  | 6 => .long
  | 7 => .long
  | 8 => .int
  | 9 => .int
  | _ => .int
abbrev wsX30 : List Cond := u_ws RX3 TX3 11
theorem nmX3 : ∀ a, a < 11 → ∀ b, b < 11 → a ≠ b → (TX3 a).2.1 ≠ (TX3 b).2.1 := by decide +kernel
theorem tyX3_ok : ∀ k, k < 11 → parseFieldDescriptor (TX3 k).2.2.1 = some (tyX3 k) := by decide +kernel
abbrev cX3_init : ByteArray := prog_1_method_1_code
def yX3_init : MethodName := ⟨RX3, "<init>", "()V"⟩
abbrev cX3_jar : ByteArray := prog_1_method_2_code
def yX3_jar : MethodName := ⟨RX3, "jar", "(I)I"⟩
abbrev cX3_mood : ByteArray := prog_1_method_3_code
def yX3_mood : MethodName := ⟨RX3, "mood", "(II)I"⟩
abbrev cX3_bound : ByteArray := prog_1_method_4_code
def yX3_bound : MethodName := ⟨RX3, "bound", "(II)I"⟩
abbrev cX3_vow : ByteArray := prog_1_method_5_code
def yX3_vow : MethodName := ⟨RX3, "vow", "(II)I"⟩
abbrev cX3_type : ByteArray := prog_1_method_6_code
def yX3_type : MethodName := ⟨RX3, "type", "(I)I"⟩
abbrev cX3_clear : ByteArray := prog_1_method_7_code
def yX3_clear : MethodName := ⟨RX3, "clear", "()I"⟩
abbrev cX3_read : ByteArray := prog_1_method_8_code
def yX3_read : MethodName := ⟨RX3, "read", "()I"⟩
abbrev cX3_say : ByteArray := prog_1_method_9_code
def yX3_say : MethodName := ⟨RX3, "say", "(I)I"⟩
abbrev cX3_open : ByteArray := prog_1_method_10_code
def yX3_open : MethodName := ⟨RX3, "open", "()I"⟩
abbrev cX3_undo : ByteArray := prog_1_method_11_code
def yX3_undo : MethodName := ⟨RX3, "undo", "()I"⟩
abbrev cX3_now : ByteArray := prog_1_method_12_code
def yX3_now : MethodName := ⟨RX3, "now", "(I)I"⟩
abbrev cX3_moves : ByteArray := prog_1_method_13_code
def yX3_moves : MethodName := ⟨RX3, "moves", "(II)I"⟩
abbrev cX3_words : ByteArray := prog_1_method_14_code
def yX3_words : MethodName := ⟨RX3, "words", "(II)I"⟩
abbrev cX3_fewest : ByteArray := prog_1_method_15_code
def yX3_fewest : MethodName := ⟨RX3, "fewest", "(I)I"⟩
abbrev cX3_delay : ByteArray := prog_1_method_16_code
def yX3_delay : MethodName := ⟨RX3, "delay", "(II)I"⟩
abbrev cX3_strikes : ByteArray := prog_1_method_17_code
def yX3_strikes : MethodName := ⟨RX3, "strikes", "(I)I"⟩
abbrev cX3_since : ByteArray := prog_1_method_18_code
def yX3_since : MethodName := ⟨RX3, "since", "(I)I"⟩
abbrev cX3_cast : ByteArray := prog_1_method_19_code
def yX3_cast : MethodName := ⟨RX3, "cast", "(I)I"⟩
abbrev cX3_reward : ByteArray := prog_1_method_20_code
def yX3_reward : MethodName := ⟨RX3, "reward", "(I)I"⟩
abbrev cX3_note : ByteArray := prog_1_method_21_code
def yX3_note : MethodName := ⟨RX3, "note", "(IIII)I"⟩
abbrev cX3_forget : ByteArray := prog_1_method_22_code
def yX3_forget : MethodName := ⟨RX3, "forget", "()I"⟩
abbrev cX3_is : ByteArray := prog_1_method_23_code
def yX3_is : MethodName := ⟨RX3, "is", "()I"⟩
abbrev cX3_next : ByteArray := prog_1_method_24_code
def yX3_next : MethodName := ⟨RX3, "next", "()I"⟩
abbrev cX3_lie : ByteArray := prog_1_method_25_code
def yX3_lie : MethodName := ⟨RX3, "lie", "(I)I"⟩
abbrev cX3_odds : ByteArray := prog_1_method_26_code
def yX3_odds : MethodName := ⟨RX3, "odds", "(II)I"⟩
abbrev cX3_jars : ByteArray := prog_1_method_27_code
def yX3_jars : MethodName := ⟨RX3, "jars", "(II)I"⟩
abbrev cX3_part : ByteArray := prog_1_method_28_code
def yX3_part : MethodName := ⟨RX3, "part", "(I)J"⟩
abbrev cX3_image : ByteArray := prog_1_method_29_code
def yX3_image : MethodName := ⟨RX3, "image", "(I)I"⟩
abbrev cX3_from : ByteArray := prog_1_method_30_code
def yX3_from : MethodName := ⟨RX3, "from", "(I)I"⟩
abbrev cX3_status : ByteArray := prog_1_method_31_code
def yX3_status : MethodName := ⟨RX3, "status", "(I)I"⟩
abbrev cX3_count : ByteArray := prog_1_method_32_code
def yX3_count : MethodName := ⟨RX3, "count", "(I)I"⟩
abbrev cX3_digest : ByteArray := prog_1_method_33_code
def yX3_digest : MethodName := ⟨RX3, "digest", "()J"⟩
abbrev cX3_refuse : ByteArray := prog_1_method_34_code
def yX3_refuse : MethodName := ⟨RX3, "refuse", "(I)I"⟩
abbrev cX3_refuseBad : ByteArray := prog_1_method_35_code
def yX3_refuseBad : MethodName := ⟨RX3, "refuseBad", "(I)I"⟩
abbrev cX3_lengthOrWord : ByteArray := prog_1_method_36_code
def yX3_lengthOrWord : MethodName := ⟨RX3, "lengthOrWord", "(II)I"⟩
abbrev cX3_imageAt : ByteArray := prog_1_method_37_code
def yX3_imageAt : MethodName := ⟨RX3, "imageAt", "(I)LJarSpirit$Jar;"⟩
abbrev cX3_setFraction : ByteArray := prog_1_method_38_code
def yX3_setFraction : MethodName := ⟨RX3, "setFraction", "(JJ)V"⟩
abbrev cX3_pairWorth : ByteArray := prog_1_method_39_code
def yX3_pairWorth : MethodName := ⟨RX3, "pairWorth", "(II)I"⟩
abbrev cX3_within : ByteArray := prog_1_method_40_code
def yX3_within : MethodName := ⟨RX3, "within", "(III)Z"⟩
abbrev cX3_isWord : ByteArray := prog_1_method_41_code
def yX3_isWord : MethodName := ⟨RX3, "isWord", "(I)Z"⟩
abbrev cX3_at : ByteArray := prog_1_method_42_code
def yX3_at : MethodName := ⟨RX3, "at", "([II)I"⟩
abbrev cX3_put : ByteArray := prog_1_method_43_code
def yX3_put : MethodName := ⟨RX3, "put", "([III)V"⟩
abbrev cX3_powerOfTen : ByteArray := prog_1_method_44_code
def yX3_powerOfTen : MethodName := ⟨RX3, "powerOfTen", "(I)J"⟩
abbrev cX3_commonDivisor : ByteArray := prog_1_method_45_code
def yX3_commonDivisor : MethodName := ⟨RX3, "commonDivisor", "(JJ)J"⟩
abbrev cX3_mind : ByteArray := prog_1_method_46_code
def yX3_mind : MethodName := ⟨RX3, "mind", "(III)I"⟩
abbrev cX3_angerOf : ByteArray := prog_1_method_47_code
def yX3_angerOf : MethodName := ⟨RX3, "angerOf", "(I)I"⟩
abbrev cX3_prideOf : ByteArray := prog_1_method_48_code
def yX3_prideOf : MethodName := ⟨RX3, "prideOf", "(I)I"⟩
abbrev cX3_beingOf : ByteArray := prog_1_method_49_code
def yX3_beingOf : MethodName := ⟨RX3, "beingOf", "(I)I"⟩
abbrev cX3_kept : ByteArray := prog_1_method_50_code
def yX3_kept : MethodName := ⟨RX3, "kept", "(I)I"⟩
abbrev cX3_angerMove : ByteArray := prog_1_method_51_code
def yX3_angerMove : MethodName := ⟨RX3, "angerMove", "(III)I"⟩
abbrev cX3_prideMove : ByteArray := prog_1_method_52_code
def yX3_prideMove : MethodName := ⟨RX3, "prideMove", "(III)I"⟩
abbrev cX3_moveAlike : ByteArray := prog_1_method_53_code
def yX3_moveAlike : MethodName := ⟨RX3, "moveAlike", "(IIII)Z"⟩
abbrev cX3_mostAlike : ByteArray := prog_1_method_54_code
def yX3_mostAlike : MethodName := ⟨RX3, "mostAlike", "(III)I"⟩
abbrev cX3_readItems : ByteArray := prog_1_method_55_code
def yX3_readItems : MethodName := ⟨RX3, "readItems", "(LJarSpirit$Scroll;LJarSpirit$Jar;)I"⟩
abbrev cX3_readFirst : ByteArray := prog_1_method_56_code
def yX3_readFirst : MethodName := ⟨RX3, "readFirst", "(LJarSpirit$Scroll;LJarSpirit$Jar;)Z"⟩
abbrev cX3_readItem : ByteArray := prog_1_method_57_code
def yX3_readItem : MethodName := ⟨RX3, "readItem", "(LJarSpirit$Scroll;LJarSpirit$Jar;)Z"⟩
abbrev cX3_readMood : ByteArray := prog_1_method_58_code
def yX3_readMood : MethodName := ⟨RX3, "readMood", "(LJarSpirit$Scroll;LJarSpirit$Jar;)Z"⟩
abbrev cX3_readBound : ByteArray := prog_1_method_59_code
def yX3_readBound : MethodName := ⟨RX3, "readBound", "(LJarSpirit$Scroll;LJarSpirit$Jar;)Z"⟩
abbrev cX3_readVow : ByteArray := prog_1_method_60_code
def yX3_readVow : MethodName := ⟨RX3, "readVow", "(LJarSpirit$Scroll;LJarSpirit$Jar;)Z"⟩
abbrev cX3_readSay : ByteArray := prog_1_method_61_code
def yX3_readSay : MethodName := ⟨RX3, "readSay", "(LJarSpirit$Scroll;LJarSpirit$Jar;)Z"⟩
def RX4 : String := "JarSpiritModel"
def TX4 : u_T := fun k => match k with
  | 0 => ("JarSpiritModel", "now", "[I", true)
  | 1 => ("JarSpiritModel", "plainAnger", "[I", true)
  | 2 => ("JarSpiritModel", "plainPride", "[I", true)
  | 3 => ("JarSpiritModel", "refused", "[I", true)
  | 4 => ("JarSpiritModel", "anger", "I", false)
  | 5 => ("JarSpiritModel", "pride", "I", false)
  | 6 => ("JarSpiritModel", "said", "I", false)
  | 7 => ("JarSpiritModel", "is", "I", false)
  | 8 => ("JarSpiritModel", "text", "[I", true)
  | 9 => ("JarSpiritModel", "texted", "I", false)
  | 10 => ("JarSpiritModel", "at", "I", false)
  | 11 => ("JarSpiritModel", "from0", "I", false)
  | 12 => ("JarSpiritModel", "fault", "I", false)
  | 13 => ("JarSpiritModel", "number", "I", false)
  | 14 => ("JarSpiritModel", "held", "[I", true)
  | 15 => ("JarSpiritModel", "row", "[I", true)
  | 16 => ("JarSpiritModel", "rowLong", "I", false)
  | 17 => ("JarSpiritModel", "far", "[I", true)
  | 18 => ("JarSpiritModel", "stays", "[Z", true)
  | 19 => ("JarSpiritModel", "found", "[I", true)
  | 20 => ("JarSpiritModel", "above", "J", false)
  | 21 => ("JarSpiritModel", "below", "J", false)
  | 22 => ("JarSpiritModel", "images", "[I", true)
  | _ => ("JarSpiritModel", "isKept", "[Z", true)
def tyX4 : Nat → FieldType := fun k => match k with
  | 0 => .array .int
  | 1 => .array .int
  | 2 => .array .int
  | 3 => .array .int
  | 4 => .int
  | 5 => .int
  | 6 => .int
  | 7 => .int
  | 8 => .array .int
  | 9 => .int
  | 10 => .int
  | 11 => .int
  | 12 => .int
  | 13 => .int
  | 14 => .array .int
  | 15 => .array .int
  | 16 => .int
  | 17 => .array .int
  | 18 => .array .boolean
  | 19 => .array .int
  | 20 => .long
  | 21 => .long
  | 22 => .array .int
  | _ => .array .boolean
abbrev wsX40 : List Cond := u_ws RX4 TX4 24
theorem nmX4 : ∀ a, a < 24 → ∀ b, b < 24 → a ≠ b → (TX4 a).2.1 ≠ (TX4 b).2.1 := by decide +kernel
theorem tyX4_ok : ∀ k, k < 24 → parseFieldDescriptor (TX4 k).2.2.1 = some (tyX4 k) := by decide +kernel
abbrev cX4_init : ByteArray := prog_6_method_1_code
def yX4_init : MethodName := ⟨RX4, "<init>", "()V"⟩
abbrev cX4_in : ByteArray := prog_6_method_3_code
def yX4_in : MethodName := ⟨RX4, "in", "(JJJ)Z"⟩
abbrev cX4_fresh : ByteArray := prog_6_method_4_code
def yX4_fresh : MethodName := ⟨RX4, "fresh", "(I)V"⟩
abbrev cX4_no : ByteArray := prog_6_method_5_code
def yX4_no : MethodName := ⟨RX4, "no", "(I)I"⟩
abbrev cX4_noAs : ByteArray := prog_6_method_6_code
def yX4_noAs : MethodName := ⟨RX4, "noAs", "(I)I"⟩
abbrev cX4_status : ByteArray := prog_6_method_7_code
def yX4_status : MethodName := ⟨RX4, "status", "(I)I"⟩
abbrev cX4_angerBy : ByteArray := prog_6_method_8_code
def yX4_angerBy : MethodName := ⟨RX4, "angerBy", "(III)I"⟩
abbrev cX4_prideBy : ByteArray := prog_6_method_9_code
def yX4_prideBy : MethodName := ⟨RX4, "prideBy", "(III)I"⟩
abbrev cX4_kept : ByteArray := prog_6_method_10_code
def yX4_kept : MethodName := ⟨RX4, "kept", "(I)I"⟩
abbrev cX4_begin : ByteArray := prog_6_method_11_code
def yX4_begin : MethodName := ⟨RX4, "begin", "()V"⟩
abbrev cX4_hear : ByteArray := prog_6_method_12_code
def yX4_hear : MethodName := ⟨RX4, "hear", "(IZ)V"⟩
abbrev cX4_giveBack : ByteArray := prog_6_method_13_code
def yX4_giveBack : MethodName := ⟨RX4, "giveBack", "()V"⟩
abbrev cX4_jar : ByteArray := prog_6_method_14_code
def yX4_jar : MethodName := ⟨RX4, "jar", "(I)I"⟩
abbrev cX4_mood : ByteArray := prog_6_method_15_code
def yX4_mood : MethodName := ⟨RX4, "mood", "(II)I"⟩
abbrev cX4_bound : ByteArray := prog_6_method_16_code
def yX4_bound : MethodName := ⟨RX4, "bound", "(II)I"⟩
abbrev cX4_vow : ByteArray := prog_6_method_17_code
def yX4_vow : MethodName := ⟨RX4, "vow", "(II)I"⟩
abbrev cX4_type : ByteArray := prog_6_method_18_code
def yX4_type : MethodName := ⟨RX4, "type", "(I)I"⟩
abbrev cX4_clear : ByteArray := prog_6_method_19_code
def yX4_clear : MethodName := ⟨RX4, "clear", "()I"⟩
abbrev cX4_here : ByteArray := prog_6_method_20_code
def yX4_here : MethodName := ⟨RX4, "here", "()I"⟩
abbrev cX4_wrong : ByteArray := prog_6_method_21_code
def yX4_wrong : MethodName := ⟨RX4, "wrong", "()V"⟩
abbrev cX4_takeNumber : ByteArray := prog_6_method_22_code
def yX4_takeNumber : MethodName := ⟨RX4, "takeNumber", "(II)I"⟩
abbrev cX4_takeWord : ByteArray := prog_6_method_23_code
def yX4_takeWord : MethodName := ⟨RX4, "takeWord", "()I"⟩
abbrev cX4_wordOf : ByteArray := prog_6_method_24_code
def yX4_wordOf : MethodName := ⟨RX4, "wordOf", "(IIIII)I"⟩
abbrev cX4_takeMood : ByteArray := prog_6_method_25_code
def yX4_takeMood : MethodName := ⟨RX4, "takeMood", "()V"⟩
abbrev cX4_takeBound : ByteArray := prog_6_method_26_code
def yX4_takeBound : MethodName := ⟨RX4, "takeBound", "()V"⟩
abbrev cX4_takeVow : ByteArray := prog_6_method_27_code
def yX4_takeVow : MethodName := ⟨RX4, "takeVow", "()V"⟩
abbrev cX4_takeSay : ByteArray := prog_6_method_28_code
def yX4_takeSay : MethodName := ⟨RX4, "takeSay", "()V"⟩
abbrev cX4_takeItem : ByteArray := prog_6_method_29_code
def yX4_takeItem : MethodName := ⟨RX4, "takeItem", "(I)V"⟩
abbrev cX4_read : ByteArray := prog_6_method_30_code
def yX4_read : MethodName := ⟨RX4, "read", "()I"⟩
abbrev cX4_remember : ByteArray := prog_6_method_31_code
def yX4_remember : MethodName := ⟨RX4, "remember", "()V"⟩
abbrev cX4_say : ByteArray := prog_6_method_32_code
def yX4_say : MethodName := ⟨RX4, "say", "(I)I"⟩
abbrev cX4_open : ByteArray := prog_6_method_33_code
def yX4_open : MethodName := ⟨RX4, "open", "()I"⟩
abbrev cX4_undo : ByteArray := prog_6_method_34_code
def yX4_undo : MethodName := ⟨RX4, "undo", "()I"⟩
abbrev cX4_now : ByteArray := prog_6_method_35_code
def yX4_now : MethodName := ⟨RX4, "now", "(I)I"⟩
abbrev cX4_moves : ByteArray := prog_6_method_36_code
def yX4_moves : MethodName := ⟨RX4, "moves", "(II)I"⟩
abbrev cX4_takeRow : ByteArray := prog_6_method_37_code
def yX4_takeRow : MethodName := ⟨RX4, "takeRow", "(II)Z"⟩
abbrev cX4_words : ByteArray := prog_6_method_38_code
def yX4_words : MethodName := ⟨RX4, "words", "(II)I"⟩
abbrev cX4_placeOf : ByteArray := prog_6_method_39_code
def yX4_placeOf : MethodName := ⟨RX4, "placeOf", "(III)I"⟩
abbrev cX4_standAt : ByteArray := prog_6_method_40_code
def yX4_standAt : MethodName := ⟨RX4, "standAt", "(I)V"⟩
abbrev cX4_findFar : ByteArray := prog_6_method_41_code
def yX4_findFar : MethodName := ⟨RX4, "findFar", "()V"⟩
abbrev cX4_walkIn : ByteArray := prog_6_method_42_code
def yX4_walkIn : MethodName := ⟨RX4, "walkIn", "(I)V"⟩
abbrev cX4_fewest : ByteArray := prog_6_method_43_code
def yX4_fewest : MethodName := ⟨RX4, "fewest", "(I)I"⟩
abbrev cX4_isSaid : ByteArray := prog_6_method_44_code
def yX4_isSaid : MethodName := ⟨RX4, "isSaid", "(II)Z"⟩
abbrev cX4_canStay : ByteArray := prog_6_method_45_code
def yX4_canStay : MethodName := ⟨RX4, "canStay", "(III)Z"⟩
abbrev cX4_findStays : ByteArray := prog_6_method_46_code
def yX4_findStays : MethodName := ⟨RX4, "findStays", "(I)V"⟩
abbrev cX4_longestStay : ByteArray := prog_6_method_47_code
def yX4_longestStay : MethodName := ⟨RX4, "longestStay", "()I"⟩
abbrev cX4_walkOut : ByteArray := prog_6_method_48_code
def yX4_walkOut : MethodName := ⟨RX4, "walkOut", "(II)V"⟩
abbrev cX4_delay : ByteArray := prog_6_method_49_code
def yX4_delay : MethodName := ⟨RX4, "delay", "(II)I"⟩
abbrev cX4_strikes : ByteArray := prog_6_method_50_code
def yX4_strikes : MethodName := ⟨RX4, "strikes", "(I)I"⟩
abbrev cX4_since : ByteArray := prog_6_method_51_code
def yX4_since : MethodName := ⟨RX4, "since", "(I)I"⟩
abbrev cX4_cast : ByteArray := prog_6_method_52_code
def yX4_cast : MethodName := ⟨RX4, "cast", "(I)I"⟩
abbrev cX4_common : ByteArray := prog_6_method_53_code
def yX4_common : MethodName := ⟨RX4, "common", "(JJ)J"⟩
abbrev cX4_fraction : ByteArray := prog_6_method_54_code
def yX4_fraction : MethodName := ⟨RX4, "fraction", "(JJ)V"⟩
abbrev cX4_reward : ByteArray := prog_6_method_55_code
def yX4_reward : MethodName := ⟨RX4, "reward", "(I)I"⟩
abbrev cX4_note : ByteArray := prog_6_method_56_code
def yX4_note : MethodName := ⟨RX4, "note", "(IIII)I"⟩
abbrev cX4_forget : ByteArray := prog_6_method_57_code
def yX4_forget : MethodName := ⟨RX4, "forget", "()I"⟩
abbrev cX4_kindsThatFit : ByteArray := prog_6_method_58_code
def yX4_kindsThatFit : MethodName := ⟨RX4, "kindsThatFit", "()I"⟩
abbrev cX4_is : ByteArray := prog_6_method_59_code
def yX4_is : MethodName := ⟨RX4, "is", "()I"⟩
abbrev cX4_greatestPart : ByteArray := prog_6_method_60_code
def yX4_greatestPart : MethodName := ⟨RX4, "greatestPart", "(II)I"⟩
abbrev cX4_next : ByteArray := prog_6_method_61_code
def yX4_next : MethodName := ⟨RX4, "next", "()I"⟩
abbrev cX4_gain : ByteArray := prog_6_method_62_code
def yX4_gain : MethodName := ⟨RX4, "gain", "(IZ)I"⟩
abbrev cX4_lie : ByteArray := prog_6_method_63_code
def yX4_lie : MethodName := ⟨RX4, "lie", "(I)I"⟩
abbrev cX4_odds : ByteArray := prog_6_method_64_code
def yX4_odds : MethodName := ⟨RX4, "odds", "(II)I"⟩
abbrev cX4_jars : ByteArray := prog_6_method_65_code
def yX4_jars : MethodName := ⟨RX4, "jars", "(II)I"⟩
abbrev cX4_part : ByteArray := prog_6_method_66_code
def yX4_part : MethodName := ⟨RX4, "part", "(I)J"⟩
abbrev cX4_image : ByteArray := prog_6_method_67_code
def yX4_image : MethodName := ⟨RX4, "image", "(I)I"⟩
abbrev cX4_from : ByteArray := prog_6_method_68_code
def yX4_from : MethodName := ⟨RX4, "from", "(I)I"⟩
abbrev cX4_countOf : ByteArray := prog_6_method_69_code
def yX4_countOf : MethodName := ⟨RX4, "countOf", "(I)I"⟩
abbrev cX4_count : ByteArray := prog_6_method_70_code
def yX4_count : MethodName := ⟨RX4, "count", "(I)I"⟩
abbrev cX4_digest : ByteArray := prog_6_method_71_code
def yX4_digest : MethodName := ⟨RX4, "digest", "()J"⟩
def RJx145de : String := "java/io/Serializable"
def TJx145de : u_T := fun k => match k with
  | _ => ("", "", "", false)
def tyJx145de : Nat → FieldType := fun k => match k with
  | _ => .int
abbrev wsJx145de0 : List Cond := u_ws RJx145de TJx145de 0
theorem nmJx145de : ∀ a, a < 0 → ∀ b, b < 0 → a ≠ b → (TJx145de a).2.1 ≠ (TJx145de b).2.1 := by decide +kernel
theorem tyJx145de_ok : ∀ k, k < 0 → parseFieldDescriptor (TJx145de k).2.2.1 = some (tyJx145de k) := by decide +kernel
def RJx9f9b0 : String := "java/lang/CharSequence"
def TJx9f9b0 : u_T := fun k => match k with
  | _ => ("", "", "", false)
def tyJx9f9b0 : Nat → FieldType := fun k => match k with
  | _ => .int
abbrev wsJx9f9b00 : List Cond := u_ws RJx9f9b0 TJx9f9b0 0
theorem nmJx9f9b0 : ∀ a, a < 0 → ∀ b, b < 0 → a ≠ b → (TJx9f9b0 a).2.1 ≠ (TJx9f9b0 b).2.1 := by decide +kernel
theorem tyJx9f9b0_ok : ∀ k, k < 0 → parseFieldDescriptor (TJx9f9b0 k).2.2.1 = some (tyJx9f9b0 k) := by decide +kernel
def RJxb160c : String := "java/lang/Comparable"
def TJxb160c : u_T := fun k => match k with
  | _ => ("", "", "", false)
def tyJxb160c : Nat → FieldType := fun k => match k with
  | _ => .int
abbrev wsJxb160c0 : List Cond := u_ws RJxb160c TJxb160c 0
theorem nmJxb160c : ∀ a, a < 0 → ∀ b, b < 0 → a ≠ b → (TJxb160c a).2.1 ≠ (TJxb160c b).2.1 := by decide +kernel
theorem tyJxb160c_ok : ∀ k, k < 0 → parseFieldDescriptor (TJxb160c k).2.2.1 = some (tyJxb160c k) := by decide +kernel
def RJ9 : String := "java/lang/Math"
def TJ9 : u_T := fun k => match k with
  | _ => ("", "", "", false)
def tyJ9 : Nat → FieldType := fun k => match k with
  | _ => .int
abbrev wsJ90 : List Cond := u_ws RJ9 TJ9 0
theorem nmJ9 : ∀ a, a < 0 → ∀ b, b < 0 → a ≠ b → (TJ9 a).2.1 ≠ (TJ9 b).2.1 := by decide +kernel
theorem tyJ9_ok : ∀ k, k < 0 → parseFieldDescriptor (TJ9 k).2.2.1 = some (tyJ9 k) := by decide +kernel
abbrev cJ9_abs_067f4 : ByteArray := prog_7_method_61_code
def yJ9_abs_067f4 : MethodName := ⟨RJ9, "abs", "(J)J"⟩
abbrev cJ9_max_7cf53 : ByteArray := prog_7_method_65_code
def yJ9_max_7cf53 : MethodName := ⟨RJ9, "max", "(II)I"⟩
abbrev cJ9_min_7cf53 : ByteArray := prog_7_method_69_code
def yJ9_min_7cf53 : MethodName := ⟨RJ9, "min", "(II)I"⟩
def RJ0 : String := "java/lang/String"
def TJ0 : u_T := fun k => match k with
  | _ => ("", "", "", false)
def tyJ0 : Nat → FieldType := fun k => match k with
  | _ => .int
abbrev wsJ00 : List Cond := u_ws RJ0 TJ0 0
theorem nmJ0 : ∀ a, a < 0 → ∀ b, b < 0 → a ≠ b → (TJ0 a).2.1 ≠ (TJ0 b).2.1 := by decide +kernel
theorem tyJ0_ok : ∀ k, k < 0 → parseFieldDescriptor (TJ0 k).2.2.1 = some (tyJ0 k) := by decide +kernel
abbrev cJ0_length_8abf5 : ByteArray := prog_8_method_54_code
def yJ0_length_8abf5 : MethodName := ⟨RJ0, "length", "()I"⟩
abbrev cJ0_charAt_5068e : ByteArray := prog_8_method_56_code
def yJ0_charAt_5068e : MethodName := ⟨RJ0, "charAt", "(I)C"⟩
abbrev cJ0_coder_7d493 : ByteArray := prog_8_method_152_code
def yJ0_coder_7d493 : MethodName := ⟨RJ0, "coder", "()B"⟩
abbrev cJ0_isLatin1_aae02 : ByteArray := prog_8_method_154_code
def yJ0_isLatin1_aae02 : MethodName := ⟨RJ0, "isLatin1", "()Z"⟩
abbrev cJ0_checkIndex_df160 : ByteArray := prog_8_method_155_code
def yJ0_checkIndex_df160 : MethodName := ⟨RJ0, "checkIndex", "(II)V"⟩
def RJ1 : String := "java/lang/StringLatin1"
def TJ1 : u_T := fun k => match k with
  | _ => ("", "", "", false)
def tyJ1 : Nat → FieldType := fun k => match k with
  | _ => .int
abbrev wsJ10 : List Cond := u_ws RJ1 TJ1 0
theorem nmJ1 : ∀ a, a < 0 → ∀ b, b < 0 → a ≠ b → (TJ1 a).2.1 ≠ (TJ1 b).2.1 := by decide +kernel
theorem tyJ1_ok : ∀ k, k < 0 → parseFieldDescriptor (TJ1 k).2.2.1 = some (tyJ1 k) := by decide +kernel
abbrev cJ1_charAt_3b067 : ByteArray := prog_9_method_2_code
def yJ1_charAt_3b067 : MethodName := ⟨RJ1, "charAt", "([BI)C"⟩
def RJ2 : String := "java/lang/StringUTF16"
def TJ2 : u_T := fun k => match k with
  | _ => ("", "", "", false)
def tyJ2 : Nat → FieldType := fun k => match k with
  | _ => .int
abbrev wsJ20 : List Cond := u_ws RJ2 TJ2 0
theorem nmJ2 : ∀ a, a < 0 → ∀ b, b < 0 → a ≠ b → (TJ2 a).2.1 ≠ (TJ2 b).2.1 := by decide +kernel
theorem tyJ2_ok : ∀ k, k < 0 → parseFieldDescriptor (TJ2 k).2.2.1 = some (tyJ2 k) := by decide +kernel
abbrev cJ2_getChar_3b067 : ByteArray := prog_10_method_5_code
def yJ2_getChar_3b067 : MethodName := ⟨RJ2, "getChar", "([BI)C"⟩
abbrev cJ2_length_9d52b : ByteArray := prog_10_method_6_code
def yJ2_length_9d52b : MethodName := ⟨RJ2, "length", "([B)I"⟩
abbrev cJ2_charAt_3b067 : ByteArray := prog_10_method_83_code
def yJ2_charAt_3b067 : MethodName := ⟨RJ2, "charAt", "([BI)C"⟩
abbrev cJ2_checkIndex_2214a : ByteArray := prog_10_method_91_code
def yJ2_checkIndex_2214a : MethodName := ⟨RJ2, "checkIndex", "(I[B)V"⟩
def RJ10 : String := "java/lang/System"
def TJ10 : u_T := fun k => match k with
  | _ => ("", "", "", false)
def tyJ10 : Nat → FieldType := fun k => match k with
  | _ => .int
abbrev wsJ100 : List Cond := u_ws RJ10 TJ10 0
theorem nmJ10 : ∀ a, a < 0 → ∀ b, b < 0 → a ≠ b → (TJ10 a).2.1 ≠ (TJ10 b).2.1 := by decide +kernel
theorem tyJ10_ok : ∀ k, k < 0 → parseFieldDescriptor (TJ10 k).2.2.1 = some (tyJ10 k) := by decide +kernel
def RJxfd54e : String := "java/lang/constant/Constable"
def TJxfd54e : u_T := fun k => match k with
  | _ => ("", "", "", false)
def tyJxfd54e : Nat → FieldType := fun k => match k with
  | _ => .int
abbrev wsJxfd54e0 : List Cond := u_ws RJxfd54e TJxfd54e 0
theorem nmJxfd54e : ∀ a, a < 0 → ∀ b, b < 0 → a ≠ b → (TJxfd54e a).2.1 ≠ (TJxfd54e b).2.1 := by decide +kernel
theorem tyJxfd54e_ok : ∀ k, k < 0 → parseFieldDescriptor (TJxfd54e k).2.2.1 = some (tyJxfd54e k) := by decide +kernel
def RJx3cf43 : String := "java/lang/constant/ConstantDesc"
def TJx3cf43 : u_T := fun k => match k with
  | _ => ("", "", "", false)
def tyJx3cf43 : Nat → FieldType := fun k => match k with
  | _ => .int
abbrev wsJx3cf430 : List Cond := u_ws RJx3cf43 TJx3cf43 0
theorem nmJx3cf43 : ∀ a, a < 0 → ∀ b, b < 0 → a ≠ b → (TJx3cf43 a).2.1 ≠ (TJx3cf43 b).2.1 := by decide +kernel
theorem tyJx3cf43_ok : ∀ k, k < 0 → parseFieldDescriptor (TJx3cf43 k).2.2.1 = some (tyJx3cf43 k) := by decide +kernel
def RJ7 : String := "java/util/Arrays"
def TJ7 : u_T := fun k => match k with
  | _ => ("", "", "", false)
def tyJ7 : Nat → FieldType := fun k => match k with
  | _ => .int
abbrev wsJ70 : List Cond := u_ws RJ7 TJ7 0
theorem nmJ7 : ∀ a, a < 0 → ∀ b, b < 0 → a ≠ b → (TJ7 a).2.1 ≠ (TJ7 b).2.1 := by decide +kernel
theorem tyJ7_ok : ∀ k, k < 0 → parseFieldDescriptor (TJ7 k).2.2.1 = some (tyJ7 k) := by decide +kernel
abbrev cJ7_fill_53178 : ByteArray := prog_12_method_103_code
def yJ7_fill_53178 : MethodName := ⟨RJ7, "fill", "([II)V"⟩
def RJ3 : String := "jdk/internal/util/Preconditions"
def TJ3 : u_T := fun k => match k with
  | _ => ("", "", "", false)
def tyJ3 : Nat → FieldType := fun k => match k with
  | _ => .int
abbrev wsJ30 : List Cond := u_ws RJ3 TJ3 0
theorem nmJ3 : ∀ a, a < 0 → ∀ b, b < 0 → a ≠ b → (TJ3 a).2.1 ≠ (TJ3 b).2.1 := by decide +kernel
theorem tyJ3_ok : ∀ k, k < 0 → parseFieldDescriptor (TJ3 k).2.2.1 = some (tyJ3 k) := by decide +kernel
abbrev cJ3_checkIndex_8e157 : ByteArray := prog_13_method_11_code
def yJ3_checkIndex_8e157 : MethodName := ⟨RJ3, "checkIndex", "(IILjava/util/function/BiFunction;)I"⟩
def RL : String := "JarSpiritLaw"
abbrev cL_law : ByteArray := code
def yL_law : MethodName := ⟨RL, "law", "([I)Z"⟩
abbrev vwCl : List vw_C := [(RX0, TX0, 12), (RX1, TX1, 6), (RX2, TX2, 9), (RX3, TX3, 11), (RX4, TX4, 24)]
end
section
theorem dX0_init_0 : decode cX0_init 0 = .ok (.aload_n 0, 1) := by decide +kernel
theorem dX0_init_1 : decode cX0_init 1 = .ok (.invokespecial 3, 3) := by decide +kernel
theorem dX0_init_4 : decode cX0_init 4 = .ok (.aload_n 0, 1) := by decide +kernel
theorem dX0_init_5 : decode cX0_init 5 = .ok (.iconst 0, 1) := by decide +kernel
theorem dX0_init_6 : decode cX0_init 6 = .ok (.putfield 9, 3) := by decide +kernel
theorem dX0_init_9 : decode cX0_init 9 = .ok (.aload_n 0, 1) := by decide +kernel
theorem dX0_init_10 : decode cX0_init 10 = .ok (.bipush 8, 2) := by decide +kernel
theorem dX0_init_12 : decode cX0_init 12 = .ok (.newarray .int, 2) := by decide +kernel
theorem dX0_init_14 : decode cX0_init 14 = .ok (.putfield 15, 3) := by decide +kernel
theorem dX0_init_17 : decode cX0_init 17 = .ok (.aload_n 0, 1) := by decide +kernel
theorem dX0_init_18 : decode cX0_init 18 = .ok (.bipush 24, 2) := by decide +kernel
theorem dX0_init_20 : decode cX0_init 20 = .ok (.newarray .int, 2) := by decide +kernel
theorem dX0_init_22 : decode cX0_init 22 = .ok (.putfield 19, 3) := by decide +kernel
theorem dX0_init_25 : decode cX0_init 25 = .ok (.aload_n 0, 1) := by decide +kernel
theorem dX0_init_26 : decode cX0_init 26 = .ok (.bipush 8, 2) := by decide +kernel
theorem dX0_init_28 : decode cX0_init 28 = .ok (.newarray .int, 2) := by decide +kernel
theorem dX0_init_30 : decode cX0_init 30 = .ok (.putfield 22, 3) := by decide +kernel
theorem dX0_init_33 : decode cX0_init 33 = .ok (.aload_n 0, 1) := by decide +kernel
theorem dX0_init_34 : decode cX0_init 34 = .ok (.bipush 8, 2) := by decide +kernel
theorem dX0_init_36 : decode cX0_init 36 = .ok (.newarray .int, 2) := by decide +kernel
theorem dX0_init_38 : decode cX0_init 38 = .ok (.putfield 25, 3) := by decide +kernel
theorem dX0_init_41 : decode cX0_init 41 = .ok (.return_, 1) := by decide +kernel
theorem dX0_begin_0 : decode cX0_begin 0 = .ok (.aload_n 0, 1) := by decide +kernel
theorem dX0_begin_1 : decode cX0_begin 1 = .ok (.iload_n 1, 1) := by decide +kernel
theorem dX0_begin_2 : decode cX0_begin 2 = .ok (.putfield 28, 3) := by decide +kernel
theorem dX0_begin_5 : decode cX0_begin 5 = .ok (.aload_n 0, 1) := by decide +kernel
theorem dX0_begin_6 : decode cX0_begin 6 = .ok (.bipush 40, 2) := by decide +kernel
theorem dX0_begin_8 : decode cX0_begin 8 = .ok (.putfield 32, 3) := by decide +kernel
theorem dX0_begin_11 : decode cX0_begin 11 = .ok (.aload_n 0, 1) := by decide +kernel
theorem dX0_begin_12 : decode cX0_begin 12 = .ok (.bipush 9, 2) := by decide +kernel
theorem dX0_begin_14 : decode cX0_begin 14 = .ok (.putfield 35, 3) := by decide +kernel
theorem dX0_begin_17 : decode cX0_begin 17 = .ok (.aload_n 0, 1) := by decide +kernel
theorem dX0_begin_18 : decode cX0_begin 18 = .ok (.bipush 20, 2) := by decide +kernel
theorem dX0_begin_20 : decode cX0_begin 20 = .ok (.iconst 0, 1) := by decide +kernel
theorem dX0_begin_21 : decode cX0_begin 21 = .ok (.iconst 0, 1) := by decide +kernel
theorem dX0_begin_22 : decode cX0_begin 22 = .ok (.invokestatic 38, 3) := by decide +kernel
theorem dX0_begin_25 : decode cX0_begin 25 = .ok (.putfield 42, 3) := by decide +kernel
theorem dX0_begin_28 : decode cX0_begin 28 = .ok (.aload_n 0, 1) := by decide +kernel
theorem dX0_begin_29 : decode cX0_begin 29 = .ok (.iconst 0, 1) := by decide +kernel
theorem dX0_begin_30 : decode cX0_begin 30 = .ok (.putfield 44, 3) := by decide +kernel
theorem dX0_begin_33 : decode cX0_begin 33 = .ok (.aload_n 0, 1) := by decide +kernel
theorem dX0_begin_34 : decode cX0_begin 34 = .ok (.iconst 0, 1) := by decide +kernel
theorem dX0_begin_35 : decode cX0_begin 35 = .ok (.putfield 47, 3) := by decide +kernel
theorem dX0_begin_38 : decode cX0_begin 38 = .ok (.aload_n 0, 1) := by decide +kernel
theorem dX0_begin_39 : decode cX0_begin 39 = .ok (.iconst 0, 1) := by decide +kernel
theorem dX0_begin_40 : decode cX0_begin 40 = .ok (.putfield 50, 3) := by decide +kernel
theorem dX0_begin_43 : decode cX0_begin 43 = .ok (.getstatic 53, 3) := by decide +kernel
theorem dX0_begin_46 : decode cX0_begin 46 = .ok (.iconst 0, 1) := by decide +kernel
theorem dX0_begin_47 : decode cX0_begin 47 = .ok (.aload_n 0, 1) := by decide +kernel
theorem dX0_begin_48 : decode cX0_begin 48 = .ok (.getfield 15, 3) := by decide +kernel
theorem dX0_begin_51 : decode cX0_begin 51 = .ok (.iconst 0, 1) := by decide +kernel
theorem dX0_begin_52 : decode cX0_begin 52 = .ok (.bipush 8, 2) := by decide +kernel
theorem dX0_begin_54 : decode cX0_begin 54 = .ok (.invokestatic 56, 3) := by decide +kernel
theorem dX0_begin_57 : decode cX0_begin 57 = .ok (.return_, 1) := by decide +kernel
theorem dX0_take_0 : decode cX0_take 0 = .ok (.aload_n 0, 1) := by decide +kernel
theorem dX0_take_1 : decode cX0_take 1 = .ok (.aload_n 1, 1) := by decide +kernel
theorem dX0_take_2 : decode cX0_take 2 = .ok (.getfield 28, 3) := by decide +kernel
theorem dX0_take_5 : decode cX0_take 5 = .ok (.putfield 28, 3) := by decide +kernel
theorem dX0_take_8 : decode cX0_take 8 = .ok (.aload_n 0, 1) := by decide +kernel
theorem dX0_take_9 : decode cX0_take 9 = .ok (.aload_n 1, 1) := by decide +kernel
theorem dX0_take_10 : decode cX0_take 10 = .ok (.getfield 32, 3) := by decide +kernel
theorem dX0_take_13 : decode cX0_take 13 = .ok (.putfield 32, 3) := by decide +kernel
theorem dX0_take_16 : decode cX0_take 16 = .ok (.aload_n 0, 1) := by decide +kernel
theorem dX0_take_17 : decode cX0_take 17 = .ok (.aload_n 1, 1) := by decide +kernel
theorem dX0_take_18 : decode cX0_take 18 = .ok (.getfield 35, 3) := by decide +kernel
theorem dX0_take_21 : decode cX0_take 21 = .ok (.putfield 35, 3) := by decide +kernel
theorem dX0_take_24 : decode cX0_take 24 = .ok (.aload_n 0, 1) := by decide +kernel
theorem dX0_take_25 : decode cX0_take 25 = .ok (.aload_n 1, 1) := by decide +kernel
theorem dX0_take_26 : decode cX0_take 26 = .ok (.getfield 42, 3) := by decide +kernel
theorem dX0_take_29 : decode cX0_take 29 = .ok (.putfield 42, 3) := by decide +kernel
theorem dX0_take_32 : decode cX0_take 32 = .ok (.aload_n 0, 1) := by decide +kernel
theorem dX0_take_33 : decode cX0_take 33 = .ok (.aload_n 1, 1) := by decide +kernel
theorem dX0_take_34 : decode cX0_take 34 = .ok (.getfield 44, 3) := by decide +kernel
theorem dX0_take_37 : decode cX0_take 37 = .ok (.putfield 44, 3) := by decide +kernel
theorem dX0_take_40 : decode cX0_take 40 = .ok (.aload_n 0, 1) := by decide +kernel
theorem dX0_take_41 : decode cX0_take 41 = .ok (.aload_n 1, 1) := by decide +kernel
theorem dX0_take_42 : decode cX0_take 42 = .ok (.getfield 47, 3) := by decide +kernel
theorem dX0_take_45 : decode cX0_take 45 = .ok (.putfield 47, 3) := by decide +kernel
theorem dX0_take_48 : decode cX0_take 48 = .ok (.aload_n 0, 1) := by decide +kernel
theorem dX0_take_49 : decode cX0_take 49 = .ok (.aload_n 1, 1) := by decide +kernel
theorem dX0_take_50 : decode cX0_take 50 = .ok (.getfield 50, 3) := by decide +kernel
theorem dX0_take_53 : decode cX0_take 53 = .ok (.putfield 50, 3) := by decide +kernel
theorem dX0_take_56 : decode cX0_take 56 = .ok (.aload_n 1, 1) := by decide +kernel
theorem dX0_take_57 : decode cX0_take 57 = .ok (.getfield 15, 3) := by decide +kernel
theorem dX0_take_60 : decode cX0_take 60 = .ok (.iconst 0, 1) := by decide +kernel
theorem dX0_take_61 : decode cX0_take 61 = .ok (.aload_n 0, 1) := by decide +kernel
theorem dX0_take_62 : decode cX0_take 62 = .ok (.getfield 15, 3) := by decide +kernel
theorem dX0_take_65 : decode cX0_take 65 = .ok (.iconst 0, 1) := by decide +kernel
theorem dX0_take_66 : decode cX0_take 66 = .ok (.bipush 8, 2) := by decide +kernel
theorem dX0_take_68 : decode cX0_take 68 = .ok (.invokestatic 56, 3) := by decide +kernel
theorem dX0_take_71 : decode cX0_take 71 = .ok (.aload_n 1, 1) := by decide +kernel
theorem dX0_take_72 : decode cX0_take 72 = .ok (.getfield 19, 3) := by decide +kernel
theorem dX0_take_75 : decode cX0_take 75 = .ok (.iconst 0, 1) := by decide +kernel
theorem dX0_take_76 : decode cX0_take 76 = .ok (.aload_n 0, 1) := by decide +kernel
theorem dX0_take_77 : decode cX0_take 77 = .ok (.getfield 19, 3) := by decide +kernel
theorem dX0_take_80 : decode cX0_take 80 = .ok (.iconst 0, 1) := by decide +kernel
theorem dX0_take_81 : decode cX0_take 81 = .ok (.bipush 24, 2) := by decide +kernel
theorem dX0_take_83 : decode cX0_take 83 = .ok (.invokestatic 56, 3) := by decide +kernel
theorem dX0_take_86 : decode cX0_take 86 = .ok (.aload_n 1, 1) := by decide +kernel
theorem dX0_take_87 : decode cX0_take 87 = .ok (.getfield 22, 3) := by decide +kernel
theorem dX0_take_90 : decode cX0_take 90 = .ok (.iconst 0, 1) := by decide +kernel
theorem dX0_take_91 : decode cX0_take 91 = .ok (.aload_n 0, 1) := by decide +kernel
theorem dX0_take_92 : decode cX0_take 92 = .ok (.getfield 22, 3) := by decide +kernel
theorem dX0_take_95 : decode cX0_take 95 = .ok (.iconst 0, 1) := by decide +kernel
theorem dX0_take_96 : decode cX0_take 96 = .ok (.bipush 8, 2) := by decide +kernel
theorem dX0_take_98 : decode cX0_take 98 = .ok (.invokestatic 56, 3) := by decide +kernel
theorem dX0_take_101 : decode cX0_take 101 = .ok (.aload_n 1, 1) := by decide +kernel
theorem dX0_take_102 : decode cX0_take 102 = .ok (.getfield 25, 3) := by decide +kernel
theorem dX0_take_105 : decode cX0_take 105 = .ok (.iconst 0, 1) := by decide +kernel
theorem dX0_take_106 : decode cX0_take 106 = .ok (.aload_n 0, 1) := by decide +kernel
theorem dX0_take_107 : decode cX0_take 107 = .ok (.getfield 25, 3) := by decide +kernel
theorem dX0_take_110 : decode cX0_take 110 = .ok (.iconst 0, 1) := by decide +kernel
theorem dX0_take_111 : decode cX0_take 111 = .ok (.bipush 8, 2) := by decide +kernel
theorem dX0_take_113 : decode cX0_take 113 = .ok (.invokestatic 56, 3) := by decide +kernel
theorem dX0_take_116 : decode cX0_take 116 = .ok (.return_, 1) := by decide +kernel
theorem dX0_feel_0 : decode cX0_feel 0 = .ok (.aload_n 0, 1) := by decide +kernel
theorem dX0_feel_1 : decode cX0_feel 1 = .ok (.iload_n 1, 1) := by decide +kernel
theorem dX0_feel_2 : decode cX0_feel 2 = .ok (.iload_n 2, 1) := by decide +kernel
theorem dX0_feel_3 : decode cX0_feel 3 = .ok (.aload_n 0, 1) := by decide +kernel
theorem dX0_feel_4 : decode cX0_feel 4 = .ok (.getfield 42, 3) := by decide +kernel
theorem dX0_feel_7 : decode cX0_feel 7 = .ok (.invokestatic 62, 3) := by decide +kernel
theorem dX0_feel_10 : decode cX0_feel 10 = .ok (.invokestatic 38, 3) := by decide +kernel
theorem dX0_feel_13 : decode cX0_feel 13 = .ok (.putfield 42, 3) := by decide +kernel
theorem dX0_feel_16 : decode cX0_feel 16 = .ok (.return_, 1) := by decide +kernel
theorem dX0_hear_0 : decode cX0_hear 0 = .ok (.iload_n 1, 1) := by decide +kernel
theorem dX0_hear_1 : decode cX0_hear 1 = .ok (.invokestatic 66, 3) := by decide +kernel
theorem dX0_hear_4 : decode cX0_hear 4 = .ok (.aload_n 0, 1) := by decide +kernel
theorem dX0_hear_5 : decode cX0_hear 5 = .ok (.getfield 28, 3) := by decide +kernel
theorem dX0_hear_8 : decode cX0_hear 8 = .ok (.iload_n 3, 1) := by decide +kernel
theorem dX0_hear_9 : decode cX0_hear 9 = .ok (.iload_n 2, 1) := by decide +kernel
theorem dX0_hear_10 : decode cX0_hear 10 = .ok (.invokestatic 69, 3) := by decide +kernel
theorem dX0_hear_13 : decode cX0_hear 13 = .ok (.iadd, 1) := by decide +kernel
theorem dX0_hear_14 : decode cX0_hear 14 = .ok (.invokestatic 72, 3) := by decide +kernel
theorem dX0_hear_17 : decode cX0_hear 17 = .ok (.istore 4, 2) := by decide +kernel
theorem dX0_hear_19 : decode cX0_hear 19 = .ok (.iload_n 1, 1) := by decide +kernel
theorem dX0_hear_20 : decode cX0_hear 20 = .ok (.invokestatic 75, 3) := by decide +kernel
theorem dX0_hear_23 : decode cX0_hear 23 = .ok (.aload_n 0, 1) := by decide +kernel
theorem dX0_hear_24 : decode cX0_hear 24 = .ok (.getfield 28, 3) := by decide +kernel
theorem dX0_hear_27 : decode cX0_hear 27 = .ok (.iload_n 3, 1) := by decide +kernel
theorem dX0_hear_28 : decode cX0_hear 28 = .ok (.iload_n 2, 1) := by decide +kernel
theorem dX0_hear_29 : decode cX0_hear 29 = .ok (.invokestatic 78, 3) := by decide +kernel
theorem dX0_hear_32 : decode cX0_hear 32 = .ok (.iadd, 1) := by decide +kernel
theorem dX0_hear_33 : decode cX0_hear 33 = .ok (.invokestatic 72, 3) := by decide +kernel
theorem dX0_hear_36 : decode cX0_hear 36 = .ok (.istore 5, 2) := by decide +kernel
theorem dX0_hear_38 : decode cX0_hear 38 = .ok (.aload_n 0, 1) := by decide +kernel
theorem dX0_hear_39 : decode cX0_hear 39 = .ok (.iload 4, 2) := by decide +kernel
theorem dX0_hear_41 : decode cX0_hear 41 = .ok (.iload 5, 2) := by decide +kernel
theorem dX0_hear_43 : decode cX0_hear 43 = .ok (.iload_n 3, 1) := by decide +kernel
theorem dX0_hear_44 : decode cX0_hear 44 = .ok (.invokevirtual 81, 3) := by decide +kernel
theorem dX0_hear_47 : decode cX0_hear 47 = .ok (.ireturn, 1) := by decide +kernel
theorem dX0_judge_0 : decode cX0_judge 0 = .ok (.iconst 0, 1) := by decide +kernel
theorem dX0_judge_1 : decode cX0_judge 1 = .ok (.istore 4, 2) := by decide +kernel
theorem dX0_judge_3 : decode cX0_judge 3 = .ok (.iload_n 1, 1) := by decide +kernel
theorem dX0_judge_4 : decode cX0_judge 4 = .ok (.aload_n 0, 1) := by decide +kernel
theorem dX0_judge_5 : decode cX0_judge 5 = .ok (.getfield 32, 3) := by decide +kernel
theorem dX0_judge_8 : decode cX0_judge 8 = .ok (.if_icmp .lt 9, 3) := by decide +kernel
theorem dX0_judge_11 : decode cX0_judge 11 = .ok (.iconst 2, 1) := by decide +kernel
theorem dX0_judge_12 : decode cX0_judge 12 = .ok (.istore 4, 2) := by decide +kernel
theorem dX0_judge_14 : decode cX0_judge 14 = .ok (.goto 19, 3) := by decide +kernel
theorem dX0_judge_17 : decode cX0_judge 17 = .ok (.iload_n 3, 1) := by decide +kernel
theorem dX0_judge_18 : decode cX0_judge 18 = .ok (.iconst 1, 1) := by decide +kernel
theorem dX0_judge_19 : decode cX0_judge 19 = .ok (.if_icmp .ne 14, 3) := by decide +kernel
theorem dX0_judge_22 : decode cX0_judge 22 = .ok (.iload_n 2, 1) := by decide +kernel
theorem dX0_judge_23 : decode cX0_judge 23 = .ok (.aload_n 0, 1) := by decide +kernel
theorem dX0_judge_24 : decode cX0_judge 24 = .ok (.getfield 35, 3) := by decide +kernel
theorem dX0_judge_27 : decode cX0_judge 27 = .ok (.if_icmp .lt 6, 3) := by decide +kernel
theorem dX0_judge_30 : decode cX0_judge 30 = .ok (.iconst 1, 1) := by decide +kernel
theorem dX0_judge_31 : decode cX0_judge 31 = .ok (.istore 4, 2) := by decide +kernel
theorem dX0_judge_33 : decode cX0_judge 33 = .ok (.iload_n 1, 1) := by decide +kernel
theorem dX0_judge_34 : decode cX0_judge 34 = .ok (.iload_n 2, 1) := by decide +kernel
theorem dX0_judge_35 : decode cX0_judge 35 = .ok (.iload 4, 2) := by decide +kernel
theorem dX0_judge_37 : decode cX0_judge 37 = .ok (.invokestatic 38, 3) := by decide +kernel
theorem dX0_judge_40 : decode cX0_judge 40 = .ok (.ireturn, 1) := by decide +kernel
theorem dX0_listen_0 : decode cX0_listen 0 = .ok (.aload_n 0, 1) := by decide +kernel
theorem dX0_listen_1 : decode cX0_listen 1 = .ok (.aload_n 0, 1) := by decide +kernel
theorem dX0_listen_2 : decode cX0_listen 2 = .ok (.aload_n 0, 1) := by decide +kernel
theorem dX0_listen_3 : decode cX0_listen 3 = .ok (.getfield 42, 3) := by decide +kernel
theorem dX0_listen_6 : decode cX0_listen 6 = .ok (.aload_n 0, 1) := by decide +kernel
theorem dX0_listen_7 : decode cX0_listen 7 = .ok (.getfield 44, 3) := by decide +kernel
theorem dX0_listen_10 : decode cX0_listen 10 = .ok (.iload_n 1, 1) := by decide +kernel
theorem dX0_listen_11 : decode cX0_listen 11 = .ok (.invokevirtual 84, 3) := by decide +kernel
theorem dX0_listen_14 : decode cX0_listen 14 = .ok (.putfield 42, 3) := by decide +kernel
theorem dX0_listen_17 : decode cX0_listen 17 = .ok (.aload_n 0, 1) := by decide +kernel
theorem dX0_listen_18 : decode cX0_listen 18 = .ok (.dup, 1) := by decide +kernel
theorem dX0_listen_19 : decode cX0_listen 19 = .ok (.getfield 44, 3) := by decide +kernel
theorem dX0_listen_22 : decode cX0_listen 22 = .ok (.iconst 1, 1) := by decide +kernel
theorem dX0_listen_23 : decode cX0_listen 23 = .ok (.iadd, 1) := by decide +kernel
theorem dX0_listen_24 : decode cX0_listen 24 = .ok (.putfield 44, 3) := by decide +kernel
theorem dX0_listen_27 : decode cX0_listen 27 = .ok (.return_, 1) := by decide +kernel
theorem dX0_remember_0 : decode cX0_remember 0 = .ok (.aload_n 0, 1) := by decide +kernel
theorem dX0_remember_1 : decode cX0_remember 1 = .ok (.getfield 50, 3) := by decide +kernel
theorem dX0_remember_4 : decode cX0_remember 4 = .ok (.bipush 8, 2) := by decide +kernel
theorem dX0_remember_6 : decode cX0_remember 6 = .ok (.if_icmp .lt 39, 3) := by decide +kernel
theorem dX0_remember_9 : decode cX0_remember 9 = .ok (.aload_n 0, 1) := by decide +kernel
theorem dX0_remember_10 : decode cX0_remember 10 = .ok (.getfield 22, 3) := by decide +kernel
theorem dX0_remember_13 : decode cX0_remember 13 = .ok (.iconst 1, 1) := by decide +kernel
theorem dX0_remember_14 : decode cX0_remember 14 = .ok (.aload_n 0, 1) := by decide +kernel
theorem dX0_remember_15 : decode cX0_remember 15 = .ok (.getfield 22, 3) := by decide +kernel
theorem dX0_remember_18 : decode cX0_remember 18 = .ok (.iconst 0, 1) := by decide +kernel
theorem dX0_remember_19 : decode cX0_remember 19 = .ok (.bipush 7, 2) := by decide +kernel
theorem dX0_remember_21 : decode cX0_remember 21 = .ok (.invokestatic 56, 3) := by decide +kernel
theorem dX0_remember_24 : decode cX0_remember 24 = .ok (.aload_n 0, 1) := by decide +kernel
theorem dX0_remember_25 : decode cX0_remember 25 = .ok (.getfield 25, 3) := by decide +kernel
theorem dX0_remember_28 : decode cX0_remember 28 = .ok (.iconst 1, 1) := by decide +kernel
theorem dX0_remember_29 : decode cX0_remember 29 = .ok (.aload_n 0, 1) := by decide +kernel
theorem dX0_remember_30 : decode cX0_remember 30 = .ok (.getfield 25, 3) := by decide +kernel
theorem dX0_remember_33 : decode cX0_remember 33 = .ok (.iconst 0, 1) := by decide +kernel
theorem dX0_remember_34 : decode cX0_remember 34 = .ok (.bipush 7, 2) := by decide +kernel
theorem dX0_remember_36 : decode cX0_remember 36 = .ok (.invokestatic 56, 3) := by decide +kernel
theorem dX0_remember_39 : decode cX0_remember 39 = .ok (.aload_n 0, 1) := by decide +kernel
theorem dX0_remember_40 : decode cX0_remember 40 = .ok (.bipush 7, 2) := by decide +kernel
theorem dX0_remember_42 : decode cX0_remember 42 = .ok (.putfield 50, 3) := by decide +kernel
theorem dX0_remember_45 : decode cX0_remember 45 = .ok (.aload_n 0, 1) := by decide +kernel
theorem dX0_remember_46 : decode cX0_remember 46 = .ok (.getfield 22, 3) := by decide +kernel
theorem dX0_remember_49 : decode cX0_remember 49 = .ok (.aload_n 0, 1) := by decide +kernel
theorem dX0_remember_50 : decode cX0_remember 50 = .ok (.getfield 50, 3) := by decide +kernel
theorem dX0_remember_53 : decode cX0_remember 53 = .ok (.aload_n 0, 1) := by decide +kernel
theorem dX0_remember_54 : decode cX0_remember 54 = .ok (.getfield 42, 3) := by decide +kernel
theorem dX0_remember_57 : decode cX0_remember 57 = .ok (.invokestatic 87, 3) := by decide +kernel
theorem dX0_remember_60 : decode cX0_remember 60 = .ok (.aload_n 0, 1) := by decide +kernel
theorem dX0_remember_61 : decode cX0_remember 61 = .ok (.getfield 25, 3) := by decide +kernel
theorem dX0_remember_64 : decode cX0_remember 64 = .ok (.aload_n 0, 1) := by decide +kernel
theorem dX0_remember_65 : decode cX0_remember 65 = .ok (.getfield 50, 3) := by decide +kernel
theorem dX0_remember_68 : decode cX0_remember 68 = .ok (.aload_n 0, 1) := by decide +kernel
theorem dX0_remember_69 : decode cX0_remember 69 = .ok (.getfield 44, 3) := by decide +kernel
theorem dX0_remember_72 : decode cX0_remember 72 = .ok (.invokestatic 87, 3) := by decide +kernel
theorem dX0_remember_75 : decode cX0_remember 75 = .ok (.aload_n 0, 1) := by decide +kernel
theorem dX0_remember_76 : decode cX0_remember 76 = .ok (.dup, 1) := by decide +kernel
theorem dX0_remember_77 : decode cX0_remember 77 = .ok (.getfield 50, 3) := by decide +kernel
theorem dX0_remember_80 : decode cX0_remember 80 = .ok (.iconst 1, 1) := by decide +kernel
theorem dX0_remember_81 : decode cX0_remember 81 = .ok (.iadd, 1) := by decide +kernel
theorem dX0_remember_82 : decode cX0_remember 82 = .ok (.putfield 50, 3) := by decide +kernel
theorem dX0_remember_85 : decode cX0_remember 85 = .ok (.return_, 1) := by decide +kernel
theorem dX0_goBack_0 : decode cX0_goBack 0 = .ok (.aload_n 0, 1) := by decide +kernel
theorem dX0_goBack_1 : decode cX0_goBack 1 = .ok (.dup, 1) := by decide +kernel
theorem dX0_goBack_2 : decode cX0_goBack 2 = .ok (.getfield 50, 3) := by decide +kernel
theorem dX0_goBack_5 : decode cX0_goBack 5 = .ok (.iconst 1, 1) := by decide +kernel
theorem dX0_goBack_6 : decode cX0_goBack 6 = .ok (.isub, 1) := by decide +kernel
theorem dX0_goBack_7 : decode cX0_goBack 7 = .ok (.putfield 50, 3) := by decide +kernel
theorem dX0_goBack_10 : decode cX0_goBack 10 = .ok (.aload_n 0, 1) := by decide +kernel
theorem dX0_goBack_11 : decode cX0_goBack 11 = .ok (.aload_n 0, 1) := by decide +kernel
theorem dX0_goBack_12 : decode cX0_goBack 12 = .ok (.getfield 22, 3) := by decide +kernel
theorem dX0_goBack_15 : decode cX0_goBack 15 = .ok (.aload_n 0, 1) := by decide +kernel
theorem dX0_goBack_16 : decode cX0_goBack 16 = .ok (.getfield 50, 3) := by decide +kernel
theorem dX0_goBack_19 : decode cX0_goBack 19 = .ok (.invokestatic 91, 3) := by decide +kernel
theorem dX0_goBack_22 : decode cX0_goBack 22 = .ok (.putfield 42, 3) := by decide +kernel
theorem dX0_goBack_25 : decode cX0_goBack 25 = .ok (.aload_n 0, 1) := by decide +kernel
theorem dX0_goBack_26 : decode cX0_goBack 26 = .ok (.aload_n 0, 1) := by decide +kernel
theorem dX0_goBack_27 : decode cX0_goBack 27 = .ok (.getfield 25, 3) := by decide +kernel
theorem dX0_goBack_30 : decode cX0_goBack 30 = .ok (.aload_n 0, 1) := by decide +kernel
theorem dX0_goBack_31 : decode cX0_goBack 31 = .ok (.getfield 50, 3) := by decide +kernel
theorem dX0_goBack_34 : decode cX0_goBack 34 = .ok (.invokestatic 91, 3) := by decide +kernel
theorem dX0_goBack_37 : decode cX0_goBack 37 = .ok (.putfield 44, 3) := by decide +kernel
theorem dX0_goBack_40 : decode cX0_goBack 40 = .ok (.return_, 1) := by decide +kernel
theorem dX0_addNote_0 : decode cX0_addNote 0 = .ok (.aload_n 0, 1) := by decide +kernel
theorem dX0_addNote_1 : decode cX0_addNote 1 = .ok (.getfield 47, 3) := by decide +kernel
theorem dX0_addNote_4 : decode cX0_addNote 4 = .ok (.iconst 4, 1) := by decide +kernel
theorem dX0_addNote_5 : decode cX0_addNote 5 = .ok (.imul, 1) := by decide +kernel
theorem dX0_addNote_6 : decode cX0_addNote 6 = .ok (.istore 5, 2) := by decide +kernel
theorem dX0_addNote_8 : decode cX0_addNote 8 = .ok (.aload_n 0, 1) := by decide +kernel
theorem dX0_addNote_9 : decode cX0_addNote 9 = .ok (.getfield 19, 3) := by decide +kernel
theorem dX0_addNote_12 : decode cX0_addNote 12 = .ok (.iload 5, 2) := by decide +kernel
theorem dX0_addNote_14 : decode cX0_addNote 14 = .ok (.iload_n 1, 1) := by decide +kernel
theorem dX0_addNote_15 : decode cX0_addNote 15 = .ok (.invokestatic 87, 3) := by decide +kernel
theorem dX0_addNote_18 : decode cX0_addNote 18 = .ok (.aload_n 0, 1) := by decide +kernel
theorem dX0_addNote_19 : decode cX0_addNote 19 = .ok (.getfield 19, 3) := by decide +kernel
theorem dX0_addNote_22 : decode cX0_addNote 22 = .ok (.iload 5, 2) := by decide +kernel
theorem dX0_addNote_24 : decode cX0_addNote 24 = .ok (.iconst 1, 1) := by decide +kernel
theorem dX0_addNote_25 : decode cX0_addNote 25 = .ok (.iadd, 1) := by decide +kernel
theorem dX0_addNote_26 : decode cX0_addNote 26 = .ok (.iload_n 2, 1) := by decide +kernel
theorem dX0_addNote_27 : decode cX0_addNote 27 = .ok (.invokestatic 87, 3) := by decide +kernel
theorem dX0_addNote_30 : decode cX0_addNote 30 = .ok (.aload_n 0, 1) := by decide +kernel
theorem dX0_addNote_31 : decode cX0_addNote 31 = .ok (.getfield 19, 3) := by decide +kernel
theorem dX0_addNote_34 : decode cX0_addNote 34 = .ok (.iload 5, 2) := by decide +kernel
theorem dX0_addNote_36 : decode cX0_addNote 36 = .ok (.iconst 2, 1) := by decide +kernel
theorem dX0_addNote_37 : decode cX0_addNote 37 = .ok (.iadd, 1) := by decide +kernel
theorem dX0_addNote_38 : decode cX0_addNote 38 = .ok (.iload_n 3, 1) := by decide +kernel
theorem dX0_addNote_39 : decode cX0_addNote 39 = .ok (.invokestatic 87, 3) := by decide +kernel
theorem dX0_addNote_42 : decode cX0_addNote 42 = .ok (.aload_n 0, 1) := by decide +kernel
theorem dX0_addNote_43 : decode cX0_addNote 43 = .ok (.getfield 19, 3) := by decide +kernel
theorem dX0_addNote_46 : decode cX0_addNote 46 = .ok (.iload 5, 2) := by decide +kernel
theorem dX0_addNote_48 : decode cX0_addNote 48 = .ok (.iconst 3, 1) := by decide +kernel
theorem dX0_addNote_49 : decode cX0_addNote 49 = .ok (.iadd, 1) := by decide +kernel
theorem dX0_addNote_50 : decode cX0_addNote 50 = .ok (.iload 4, 2) := by decide +kernel
theorem dX0_addNote_52 : decode cX0_addNote 52 = .ok (.invokestatic 87, 3) := by decide +kernel
theorem dX0_addNote_55 : decode cX0_addNote 55 = .ok (.aload_n 0, 1) := by decide +kernel
theorem dX0_addNote_56 : decode cX0_addNote 56 = .ok (.dup, 1) := by decide +kernel
theorem dX0_addNote_57 : decode cX0_addNote 57 = .ok (.getfield 47, 3) := by decide +kernel
theorem dX0_addNote_60 : decode cX0_addNote 60 = .ok (.iconst 1, 1) := by decide +kernel
theorem dX0_addNote_61 : decode cX0_addNote 61 = .ok (.iadd, 1) := by decide +kernel
theorem dX0_addNote_62 : decode cX0_addNote 62 = .ok (.putfield 47, 3) := by decide +kernel
theorem dX0_addNote_65 : decode cX0_addNote 65 = .ok (.return_, 1) := by decide +kernel
theorem dX0_notesFit_0 : decode cX0_notesFit 0 = .ok (.iconst 0, 1) := by decide +kernel
theorem dX0_notesFit_1 : decode cX0_notesFit 1 = .ok (.istore_n 2, 1) := by decide +kernel
theorem dX0_notesFit_2 : decode cX0_notesFit 2 = .ok (.iload_n 2, 1) := by decide +kernel
theorem dX0_notesFit_3 : decode cX0_notesFit 3 = .ok (.aload_n 0, 1) := by decide +kernel
theorem dX0_notesFit_4 : decode cX0_notesFit 4 = .ok (.getfield 47, 3) := by decide +kernel
theorem dX0_notesFit_7 : decode cX0_notesFit 7 = .ok (.if_icmp .ge 91, 3) := by decide +kernel
theorem dX0_notesFit_10 : decode cX0_notesFit 10 = .ok (.iload_n 2, 1) := by decide +kernel
theorem dX0_notesFit_11 : decode cX0_notesFit 11 = .ok (.iconst 4, 1) := by decide +kernel
theorem dX0_notesFit_12 : decode cX0_notesFit 12 = .ok (.imul, 1) := by decide +kernel
theorem dX0_notesFit_13 : decode cX0_notesFit 13 = .ok (.istore_n 3, 1) := by decide +kernel
theorem dX0_notesFit_14 : decode cX0_notesFit 14 = .ok (.aload_n 0, 1) := by decide +kernel
theorem dX0_notesFit_15 : decode cX0_notesFit 15 = .ok (.getfield 19, 3) := by decide +kernel
theorem dX0_notesFit_18 : decode cX0_notesFit 18 = .ok (.iload_n 3, 1) := by decide +kernel
theorem dX0_notesFit_19 : decode cX0_notesFit 19 = .ok (.invokestatic 91, 3) := by decide +kernel
theorem dX0_notesFit_22 : decode cX0_notesFit 22 = .ok (.istore 4, 2) := by decide +kernel
theorem dX0_notesFit_24 : decode cX0_notesFit 24 = .ok (.aload_n 0, 1) := by decide +kernel
theorem dX0_notesFit_25 : decode cX0_notesFit 25 = .ok (.getfield 19, 3) := by decide +kernel
theorem dX0_notesFit_28 : decode cX0_notesFit 28 = .ok (.iload_n 3, 1) := by decide +kernel
theorem dX0_notesFit_29 : decode cX0_notesFit 29 = .ok (.iconst 1, 1) := by decide +kernel
theorem dX0_notesFit_30 : decode cX0_notesFit 30 = .ok (.iadd, 1) := by decide +kernel
theorem dX0_notesFit_31 : decode cX0_notesFit 31 = .ok (.invokestatic 91, 3) := by decide +kernel
theorem dX0_notesFit_34 : decode cX0_notesFit 34 = .ok (.istore 5, 2) := by decide +kernel
theorem dX0_notesFit_36 : decode cX0_notesFit 36 = .ok (.iload_n 1, 1) := by decide +kernel
theorem dX0_notesFit_37 : decode cX0_notesFit 37 = .ok (.iload 4, 2) := by decide +kernel
theorem dX0_notesFit_39 : decode cX0_notesFit 39 = .ok (.iload 5, 2) := by decide +kernel
theorem dX0_notesFit_41 : decode cX0_notesFit 41 = .ok (.invokestatic 69, 3) := by decide +kernel
theorem dX0_notesFit_44 : decode cX0_notesFit 44 = .ok (.aload_n 0, 1) := by decide +kernel
theorem dX0_notesFit_45 : decode cX0_notesFit 45 = .ok (.getfield 19, 3) := by decide +kernel
theorem dX0_notesFit_48 : decode cX0_notesFit 48 = .ok (.iload_n 3, 1) := by decide +kernel
theorem dX0_notesFit_49 : decode cX0_notesFit 49 = .ok (.iconst 2, 1) := by decide +kernel
theorem dX0_notesFit_50 : decode cX0_notesFit 50 = .ok (.iadd, 1) := by decide +kernel
theorem dX0_notesFit_51 : decode cX0_notesFit 51 = .ok (.invokestatic 91, 3) := by decide +kernel
theorem dX0_notesFit_54 : decode cX0_notesFit 54 = .ok (.if_icmp .ne 28, 3) := by decide +kernel
theorem dX0_notesFit_57 : decode cX0_notesFit 57 = .ok (.iload_n 1, 1) := by decide +kernel
theorem dX0_notesFit_58 : decode cX0_notesFit 58 = .ok (.iload 4, 2) := by decide +kernel
theorem dX0_notesFit_60 : decode cX0_notesFit 60 = .ok (.iload 5, 2) := by decide +kernel
theorem dX0_notesFit_62 : decode cX0_notesFit 62 = .ok (.invokestatic 78, 3) := by decide +kernel
theorem dX0_notesFit_65 : decode cX0_notesFit 65 = .ok (.aload_n 0, 1) := by decide +kernel
theorem dX0_notesFit_66 : decode cX0_notesFit 66 = .ok (.getfield 19, 3) := by decide +kernel
theorem dX0_notesFit_69 : decode cX0_notesFit 69 = .ok (.iload_n 3, 1) := by decide +kernel
theorem dX0_notesFit_70 : decode cX0_notesFit 70 = .ok (.iconst 3, 1) := by decide +kernel
theorem dX0_notesFit_71 : decode cX0_notesFit 71 = .ok (.iadd, 1) := by decide +kernel
theorem dX0_notesFit_72 : decode cX0_notesFit 72 = .ok (.invokestatic 91, 3) := by decide +kernel
theorem dX0_notesFit_75 : decode cX0_notesFit 75 = .ok (.if_icmp .ne 7, 3) := by decide +kernel
theorem dX0_notesFit_78 : decode cX0_notesFit 78 = .ok (.iconst 1, 1) := by decide +kernel
theorem dX0_notesFit_79 : decode cX0_notesFit 79 = .ok (.goto 4, 3) := by decide +kernel
theorem dX0_notesFit_82 : decode cX0_notesFit 82 = .ok (.iconst 0, 1) := by decide +kernel
theorem dX0_notesFit_83 : decode cX0_notesFit 83 = .ok (.istore 6, 2) := by decide +kernel
theorem dX0_notesFit_85 : decode cX0_notesFit 85 = .ok (.iload 6, 2) := by decide +kernel
theorem dX0_notesFit_87 : decode cX0_notesFit 87 = .ok (.ifCond .ne 5, 3) := by decide +kernel
theorem dX0_notesFit_90 : decode cX0_notesFit 90 = .ok (.iconst 0, 1) := by decide +kernel
theorem dX0_notesFit_91 : decode cX0_notesFit 91 = .ok (.ireturn, 1) := by decide +kernel
theorem dX0_notesFit_92 : decode cX0_notesFit 92 = .ok (.iinc 2 1, 3) := by decide +kernel
theorem dX0_notesFit_95 : decode cX0_notesFit 95 = .ok (.goto (-93), 3) := by decide +kernel
theorem dX0_notesFit_98 : decode cX0_notesFit 98 = .ok (.iconst 1, 1) := by decide +kernel
theorem dX0_notesFit_99 : decode cX0_notesFit 99 = .ok (.ireturn, 1) := by decide +kernel
theorem dX1_init_0 : decode cX1_init 0 = .ok (.aload_n 0, 1) := by decide +kernel
theorem dX1_init_1 : decode cX1_init 1 = .ok (.invokespecial 3, 3) := by decide +kernel
theorem dX1_init_4 : decode cX1_init 4 = .ok (.aload_n 0, 1) := by decide +kernel
theorem dX1_init_5 : decode cX1_init 5 = .ok (.sipush 150, 3) := by decide +kernel
theorem dX1_init_8 : decode cX1_init 8 = .ok (.newarray .int, 2) := by decide +kernel
theorem dX1_init_10 : decode cX1_init 10 = .ok (.putfield 9, 3) := by decide +kernel
theorem dX1_init_13 : decode cX1_init 13 = .ok (.aload_n 0, 1) := by decide +kernel
theorem dX1_init_14 : decode cX1_init 14 = .ok (.iconst 0, 1) := by decide +kernel
theorem dX1_init_15 : decode cX1_init 15 = .ok (.putfield 15, 3) := by decide +kernel
theorem dX1_init_18 : decode cX1_init 18 = .ok (.aload_n 0, 1) := by decide +kernel
theorem dX1_init_19 : decode cX1_init 19 = .ok (.iconst 0, 1) := by decide +kernel
theorem dX1_init_20 : decode cX1_init 20 = .ok (.putfield 19, 3) := by decide +kernel
theorem dX1_init_23 : decode cX1_init 23 = .ok (.aload_n 0, 1) := by decide +kernel
theorem dX1_init_24 : decode cX1_init 24 = .ok (.iconst 0, 1) := by decide +kernel
theorem dX1_init_25 : decode cX1_init 25 = .ok (.putfield 22, 3) := by decide +kernel
theorem dX1_init_28 : decode cX1_init 28 = .ok (.aload_n 0, 1) := by decide +kernel
theorem dX1_init_29 : decode cX1_init 29 = .ok (.iconst 0, 1) := by decide +kernel
theorem dX1_init_30 : decode cX1_init 30 = .ok (.putfield 25, 3) := by decide +kernel
theorem dX1_init_33 : decode cX1_init 33 = .ok (.aload_n 0, 1) := by decide +kernel
theorem dX1_init_34 : decode cX1_init 34 = .ok (.iconst (-1), 1) := by decide +kernel
theorem dX1_init_35 : decode cX1_init 35 = .ok (.putfield 28, 3) := by decide +kernel
theorem dX1_init_38 : decode cX1_init 38 = .ok (.return_, 1) := by decide +kernel
theorem dX1_byteAt_0 : decode cX1_byteAt 0 = .ok (.iload_n 1, 1) := by decide +kernel
theorem dX1_byteAt_1 : decode cX1_byteAt 1 = .ok (.ifCond .lt 29, 3) := by decide +kernel
theorem dX1_byteAt_4 : decode cX1_byteAt 4 = .ok (.iload_n 1, 1) := by decide +kernel
theorem dX1_byteAt_5 : decode cX1_byteAt 5 = .ok (.aload_n 0, 1) := by decide +kernel
theorem dX1_byteAt_6 : decode cX1_byteAt 6 = .ok (.getfield 15, 3) := by decide +kernel
theorem dX1_byteAt_9 : decode cX1_byteAt 9 = .ok (.if_icmp .ge 21, 3) := by decide +kernel
theorem dX1_byteAt_12 : decode cX1_byteAt 12 = .ok (.iload_n 1, 1) := by decide +kernel
theorem dX1_byteAt_13 : decode cX1_byteAt 13 = .ok (.aload_n 0, 1) := by decide +kernel
theorem dX1_byteAt_14 : decode cX1_byteAt 14 = .ok (.getfield 9, 3) := by decide +kernel
theorem dX1_byteAt_17 : decode cX1_byteAt 17 = .ok (.arraylength, 1) := by decide +kernel
theorem dX1_byteAt_18 : decode cX1_byteAt 18 = .ok (.if_icmp .ge 12, 3) := by decide +kernel
theorem dX1_byteAt_21 : decode cX1_byteAt 21 = .ok (.aload_n 0, 1) := by decide +kernel
theorem dX1_byteAt_22 : decode cX1_byteAt 22 = .ok (.getfield 9, 3) := by decide +kernel
theorem dX1_byteAt_25 : decode cX1_byteAt 25 = .ok (.iload_n 1, 1) := by decide +kernel
theorem dX1_byteAt_26 : decode cX1_byteAt 26 = .ok (.iaload, 1) := by decide +kernel
theorem dX1_byteAt_27 : decode cX1_byteAt 27 = .ok (.goto 4, 3) := by decide +kernel
theorem dX1_byteAt_30 : decode cX1_byteAt 30 = .ok (.iconst (-1), 1) := by decide +kernel
theorem dX1_byteAt_31 : decode cX1_byteAt 31 = .ok (.ireturn, 1) := by decide +kernel
theorem dX1_isLetter_0 : decode cX1_isLetter 0 = .ok (.iload_n 0, 1) := by decide +kernel
theorem dX1_isLetter_1 : decode cX1_isLetter 1 = .ok (.bipush 97, 2) := by decide +kernel
theorem dX1_isLetter_3 : decode cX1_isLetter 3 = .ok (.if_icmp .lt 13, 3) := by decide +kernel
theorem dX1_isLetter_6 : decode cX1_isLetter 6 = .ok (.iload_n 0, 1) := by decide +kernel
theorem dX1_isLetter_7 : decode cX1_isLetter 7 = .ok (.bipush 122, 2) := by decide +kernel
theorem dX1_isLetter_9 : decode cX1_isLetter 9 = .ok (.if_icmp .gt 7, 3) := by decide +kernel
theorem dX1_isLetter_12 : decode cX1_isLetter 12 = .ok (.iconst 1, 1) := by decide +kernel
theorem dX1_isLetter_13 : decode cX1_isLetter 13 = .ok (.goto 4, 3) := by decide +kernel
theorem dX1_isLetter_16 : decode cX1_isLetter 16 = .ok (.iconst 0, 1) := by decide +kernel
theorem dX1_isLetter_17 : decode cX1_isLetter 17 = .ok (.ireturn, 1) := by decide +kernel
theorem dX1_isFigure_0 : decode cX1_isFigure 0 = .ok (.iload_n 0, 1) := by decide +kernel
theorem dX1_isFigure_1 : decode cX1_isFigure 1 = .ok (.bipush 48, 2) := by decide +kernel
theorem dX1_isFigure_3 : decode cX1_isFigure 3 = .ok (.if_icmp .lt 13, 3) := by decide +kernel
theorem dX1_isFigure_6 : decode cX1_isFigure 6 = .ok (.iload_n 0, 1) := by decide +kernel
theorem dX1_isFigure_7 : decode cX1_isFigure 7 = .ok (.bipush 57, 2) := by decide +kernel
theorem dX1_isFigure_9 : decode cX1_isFigure 9 = .ok (.if_icmp .gt 7, 3) := by decide +kernel
theorem dX1_isFigure_12 : decode cX1_isFigure 12 = .ok (.iconst 1, 1) := by decide +kernel
theorem dX1_isFigure_13 : decode cX1_isFigure 13 = .ok (.goto 4, 3) := by decide +kernel
theorem dX1_isFigure_16 : decode cX1_isFigure 16 = .ok (.iconst 0, 1) := by decide +kernel
theorem dX1_isFigure_17 : decode cX1_isFigure 17 = .ok (.ireturn, 1) := by decide +kernel
theorem dX1_advance_0 : decode cX1_advance 0 = .ok (.aload_n 0, 1) := by decide +kernel
theorem dX1_advance_1 : decode cX1_advance 1 = .ok (.getfield 19, 3) := by decide +kernel
theorem dX1_advance_4 : decode cX1_advance 4 = .ok (.aload_n 0, 1) := by decide +kernel
theorem dX1_advance_5 : decode cX1_advance 5 = .ok (.getfield 15, 3) := by decide +kernel
theorem dX1_advance_8 : decode cX1_advance 8 = .ok (.if_icmp .ge 29, 3) := by decide +kernel
theorem dX1_advance_11 : decode cX1_advance 11 = .ok (.aload_n 0, 1) := by decide +kernel
theorem dX1_advance_12 : decode cX1_advance 12 = .ok (.aload_n 0, 1) := by decide +kernel
theorem dX1_advance_13 : decode cX1_advance 13 = .ok (.getfield 19, 3) := by decide +kernel
theorem dX1_advance_16 : decode cX1_advance 16 = .ok (.invokevirtual 31, 3) := by decide +kernel
theorem dX1_advance_19 : decode cX1_advance 19 = .ok (.bipush 32, 2) := by decide +kernel
theorem dX1_advance_21 : decode cX1_advance 21 = .ok (.if_icmp .ne 16, 3) := by decide +kernel
theorem dX1_advance_24 : decode cX1_advance 24 = .ok (.aload_n 0, 1) := by decide +kernel
theorem dX1_advance_25 : decode cX1_advance 25 = .ok (.dup, 1) := by decide +kernel
theorem dX1_advance_26 : decode cX1_advance 26 = .ok (.getfield 19, 3) := by decide +kernel
theorem dX1_advance_29 : decode cX1_advance 29 = .ok (.iconst 1, 1) := by decide +kernel
theorem dX1_advance_30 : decode cX1_advance 30 = .ok (.iadd, 1) := by decide +kernel
theorem dX1_advance_31 : decode cX1_advance 31 = .ok (.putfield 19, 3) := by decide +kernel
theorem dX1_advance_34 : decode cX1_advance 34 = .ok (.goto (-34), 3) := by decide +kernel
theorem dX1_advance_37 : decode cX1_advance 37 = .ok (.aload_n 0, 1) := by decide +kernel
theorem dX1_advance_38 : decode cX1_advance 38 = .ok (.aload_n 0, 1) := by decide +kernel
theorem dX1_advance_39 : decode cX1_advance 39 = .ok (.getfield 19, 3) := by decide +kernel
theorem dX1_advance_42 : decode cX1_advance 42 = .ok (.putfield 22, 3) := by decide +kernel
theorem dX1_advance_45 : decode cX1_advance 45 = .ok (.aload_n 0, 1) := by decide +kernel
theorem dX1_advance_46 : decode cX1_advance 46 = .ok (.aload_n 0, 1) := by decide +kernel
theorem dX1_advance_47 : decode cX1_advance 47 = .ok (.getfield 22, 3) := by decide +kernel
theorem dX1_advance_50 : decode cX1_advance 50 = .ok (.invokevirtual 31, 3) := by decide +kernel
theorem dX1_advance_53 : decode cX1_advance 53 = .ok (.istore_n 1, 1) := by decide +kernel
theorem dX1_advance_54 : decode cX1_advance 54 = .ok (.iload_n 1, 1) := by decide +kernel
theorem dX1_advance_55 : decode cX1_advance 55 = .ok (.invokestatic 35, 3) := by decide +kernel
theorem dX1_advance_58 : decode cX1_advance 58 = .ok (.ifCond .eq 10, 3) := by decide +kernel
theorem dX1_advance_61 : decode cX1_advance 61 = .ok (.aload_n 0, 1) := by decide +kernel
theorem dX1_advance_62 : decode cX1_advance 62 = .ok (.invokevirtual 39, 3) := by decide +kernel
theorem dX1_advance_65 : decode cX1_advance 65 = .ok (.goto 61, 3) := by decide +kernel
theorem dX1_advance_68 : decode cX1_advance 68 = .ok (.iload_n 1, 1) := by decide +kernel
theorem dX1_advance_69 : decode cX1_advance 69 = .ok (.invokestatic 42, 3) := by decide +kernel
theorem dX1_advance_72 : decode cX1_advance 72 = .ok (.ifCond .eq 10, 3) := by decide +kernel
theorem dX1_advance_75 : decode cX1_advance 75 = .ok (.aload_n 0, 1) := by decide +kernel
theorem dX1_advance_76 : decode cX1_advance 76 = .ok (.invokevirtual 45, 3) := by decide +kernel
theorem dX1_advance_79 : decode cX1_advance 79 = .ok (.goto 47, 3) := by decide +kernel
theorem dX1_advance_82 : decode cX1_advance 82 = .ok (.aload_n 0, 1) := by decide +kernel
theorem dX1_advance_83 : decode cX1_advance 83 = .ok (.getfield 22, 3) := by decide +kernel
theorem dX1_advance_86 : decode cX1_advance 86 = .ok (.aload_n 0, 1) := by decide +kernel
theorem dX1_advance_87 : decode cX1_advance 87 = .ok (.getfield 15, 3) := by decide +kernel
theorem dX1_advance_90 : decode cX1_advance 90 = .ok (.if_icmp .ge 31, 3) := by decide +kernel
theorem dX1_advance_93 : decode cX1_advance 93 = .ok (.aload_n 0, 1) := by decide +kernel
theorem dX1_advance_94 : decode cX1_advance 94 = .ok (.iload_n 1, 1) := by decide +kernel
theorem dX1_advance_95 : decode cX1_advance 95 = .ok (.bipush 59, 2) := by decide +kernel
theorem dX1_advance_97 : decode cX1_advance 97 = .ok (.if_icmp .ne 7, 3) := by decide +kernel
theorem dX1_advance_100 : decode cX1_advance 100 = .ok (.iconst 3, 1) := by decide +kernel
theorem dX1_advance_101 : decode cX1_advance 101 = .ok (.goto 4, 3) := by decide +kernel
theorem dX1_advance_104 : decode cX1_advance 104 = .ok (.iconst 4, 1) := by decide +kernel
theorem dX1_advance_105 : decode cX1_advance 105 = .ok (.putfield 25, 3) := by decide +kernel
theorem dX1_advance_108 : decode cX1_advance 108 = .ok (.aload_n 0, 1) := by decide +kernel
theorem dX1_advance_109 : decode cX1_advance 109 = .ok (.dup, 1) := by decide +kernel
theorem dX1_advance_110 : decode cX1_advance 110 = .ok (.getfield 19, 3) := by decide +kernel
theorem dX1_advance_113 : decode cX1_advance 113 = .ok (.iconst 1, 1) := by decide +kernel
theorem dX1_advance_114 : decode cX1_advance 114 = .ok (.iadd, 1) := by decide +kernel
theorem dX1_advance_115 : decode cX1_advance 115 = .ok (.putfield 19, 3) := by decide +kernel
theorem dX1_advance_118 : decode cX1_advance 118 = .ok (.goto 8, 3) := by decide +kernel
theorem dX1_advance_121 : decode cX1_advance 121 = .ok (.aload_n 0, 1) := by decide +kernel
theorem dX1_advance_122 : decode cX1_advance 122 = .ok (.iconst 0, 1) := by decide +kernel
theorem dX1_advance_123 : decode cX1_advance 123 = .ok (.putfield 25, 3) := by decide +kernel
theorem dX1_advance_126 : decode cX1_advance 126 = .ok (.return_, 1) := by decide +kernel
theorem dX1_passLetters_0 : decode cX1_passLetters 0 = .ok (.aload_n 0, 1) := by decide +kernel
theorem dX1_passLetters_1 : decode cX1_passLetters 1 = .ok (.iconst 1, 1) := by decide +kernel
theorem dX1_passLetters_2 : decode cX1_passLetters 2 = .ok (.putfield 25, 3) := by decide +kernel
theorem dX1_passLetters_5 : decode cX1_passLetters 5 = .ok (.aload_n 0, 1) := by decide +kernel
theorem dX1_passLetters_6 : decode cX1_passLetters 6 = .ok (.getfield 19, 3) := by decide +kernel
theorem dX1_passLetters_9 : decode cX1_passLetters 9 = .ok (.aload_n 0, 1) := by decide +kernel
theorem dX1_passLetters_10 : decode cX1_passLetters 10 = .ok (.getfield 15, 3) := by decide +kernel
theorem dX1_passLetters_13 : decode cX1_passLetters 13 = .ok (.if_icmp .ge 30, 3) := by decide +kernel
theorem dX1_passLetters_16 : decode cX1_passLetters 16 = .ok (.aload_n 0, 1) := by decide +kernel
theorem dX1_passLetters_17 : decode cX1_passLetters 17 = .ok (.aload_n 0, 1) := by decide +kernel
theorem dX1_passLetters_18 : decode cX1_passLetters 18 = .ok (.getfield 19, 3) := by decide +kernel
theorem dX1_passLetters_21 : decode cX1_passLetters 21 = .ok (.invokevirtual 31, 3) := by decide +kernel
theorem dX1_passLetters_24 : decode cX1_passLetters 24 = .ok (.invokestatic 35, 3) := by decide +kernel
theorem dX1_passLetters_27 : decode cX1_passLetters 27 = .ok (.ifCond .eq 16, 3) := by decide +kernel
theorem dX1_passLetters_30 : decode cX1_passLetters 30 = .ok (.aload_n 0, 1) := by decide +kernel
theorem dX1_passLetters_31 : decode cX1_passLetters 31 = .ok (.dup, 1) := by decide +kernel
theorem dX1_passLetters_32 : decode cX1_passLetters 32 = .ok (.getfield 19, 3) := by decide +kernel
theorem dX1_passLetters_35 : decode cX1_passLetters 35 = .ok (.iconst 1, 1) := by decide +kernel
theorem dX1_passLetters_36 : decode cX1_passLetters 36 = .ok (.iadd, 1) := by decide +kernel
theorem dX1_passLetters_37 : decode cX1_passLetters 37 = .ok (.putfield 19, 3) := by decide +kernel
theorem dX1_passLetters_40 : decode cX1_passLetters 40 = .ok (.goto (-35), 3) := by decide +kernel
theorem dX1_passLetters_43 : decode cX1_passLetters 43 = .ok (.return_, 1) := by decide +kernel
theorem dX1_passFigures_0 : decode cX1_passFigures 0 = .ok (.aload_n 0, 1) := by decide +kernel
theorem dX1_passFigures_1 : decode cX1_passFigures 1 = .ok (.iconst 2, 1) := by decide +kernel
theorem dX1_passFigures_2 : decode cX1_passFigures 2 = .ok (.putfield 25, 3) := by decide +kernel
theorem dX1_passFigures_5 : decode cX1_passFigures 5 = .ok (.iconst 0, 1) := by decide +kernel
theorem dX1_passFigures_6 : decode cX1_passFigures 6 = .ok (.istore_n 1, 1) := by decide +kernel
theorem dX1_passFigures_7 : decode cX1_passFigures 7 = .ok (.aload_n 0, 1) := by decide +kernel
theorem dX1_passFigures_8 : decode cX1_passFigures 8 = .ok (.getfield 19, 3) := by decide +kernel
theorem dX1_passFigures_11 : decode cX1_passFigures 11 = .ok (.aload_n 0, 1) := by decide +kernel
theorem dX1_passFigures_12 : decode cX1_passFigures 12 = .ok (.getfield 15, 3) := by decide +kernel
theorem dX1_passFigures_15 : decode cX1_passFigures 15 = .ok (.if_icmp .ge 47, 3) := by decide +kernel
theorem dX1_passFigures_18 : decode cX1_passFigures 18 = .ok (.aload_n 0, 1) := by decide +kernel
theorem dX1_passFigures_19 : decode cX1_passFigures 19 = .ok (.aload_n 0, 1) := by decide +kernel
theorem dX1_passFigures_20 : decode cX1_passFigures 20 = .ok (.getfield 19, 3) := by decide +kernel
theorem dX1_passFigures_23 : decode cX1_passFigures 23 = .ok (.invokevirtual 31, 3) := by decide +kernel
theorem dX1_passFigures_26 : decode cX1_passFigures 26 = .ok (.invokestatic 42, 3) := by decide +kernel
theorem dX1_passFigures_29 : decode cX1_passFigures 29 = .ok (.ifCond .eq 33, 3) := by decide +kernel
theorem dX1_passFigures_32 : decode cX1_passFigures 32 = .ok (.iload_n 1, 1) := by decide +kernel
theorem dX1_passFigures_33 : decode cX1_passFigures 33 = .ok (.bipush 10, 2) := by decide +kernel
theorem dX1_passFigures_35 : decode cX1_passFigures 35 = .ok (.imul, 1) := by decide +kernel
theorem dX1_passFigures_36 : decode cX1_passFigures 36 = .ok (.aload_n 0, 1) := by decide +kernel
theorem dX1_passFigures_37 : decode cX1_passFigures 37 = .ok (.aload_n 0, 1) := by decide +kernel
theorem dX1_passFigures_38 : decode cX1_passFigures 38 = .ok (.getfield 19, 3) := by decide +kernel
theorem dX1_passFigures_41 : decode cX1_passFigures 41 = .ok (.invokevirtual 31, 3) := by decide +kernel
theorem dX1_passFigures_44 : decode cX1_passFigures 44 = .ok (.iadd, 1) := by decide +kernel
theorem dX1_passFigures_45 : decode cX1_passFigures 45 = .ok (.bipush 48, 2) := by decide +kernel
theorem dX1_passFigures_47 : decode cX1_passFigures 47 = .ok (.isub, 1) := by decide +kernel
theorem dX1_passFigures_48 : decode cX1_passFigures 48 = .ok (.istore_n 1, 1) := by decide +kernel
theorem dX1_passFigures_49 : decode cX1_passFigures 49 = .ok (.aload_n 0, 1) := by decide +kernel
theorem dX1_passFigures_50 : decode cX1_passFigures 50 = .ok (.dup, 1) := by decide +kernel
theorem dX1_passFigures_51 : decode cX1_passFigures 51 = .ok (.getfield 19, 3) := by decide +kernel
theorem dX1_passFigures_54 : decode cX1_passFigures 54 = .ok (.iconst 1, 1) := by decide +kernel
theorem dX1_passFigures_55 : decode cX1_passFigures 55 = .ok (.iadd, 1) := by decide +kernel
theorem dX1_passFigures_56 : decode cX1_passFigures 56 = .ok (.putfield 19, 3) := by decide +kernel
theorem dX1_passFigures_59 : decode cX1_passFigures 59 = .ok (.goto (-52), 3) := by decide +kernel
theorem dX1_passFigures_62 : decode cX1_passFigures 62 = .ok (.aload_n 0, 1) := by decide +kernel
theorem dX1_passFigures_63 : decode cX1_passFigures 63 = .ok (.aload_n 0, 1) := by decide +kernel
theorem dX1_passFigures_64 : decode cX1_passFigures 64 = .ok (.getfield 19, 3) := by decide +kernel
theorem dX1_passFigures_67 : decode cX1_passFigures 67 = .ok (.aload_n 0, 1) := by decide +kernel
theorem dX1_passFigures_68 : decode cX1_passFigures 68 = .ok (.getfield 22, 3) := by decide +kernel
theorem dX1_passFigures_71 : decode cX1_passFigures 71 = .ok (.isub, 1) := by decide +kernel
theorem dX1_passFigures_72 : decode cX1_passFigures 72 = .ok (.iconst 2, 1) := by decide +kernel
theorem dX1_passFigures_73 : decode cX1_passFigures 73 = .ok (.if_icmp .le 7, 3) := by decide +kernel
theorem dX1_passFigures_76 : decode cX1_passFigures 76 = .ok (.iconst (-1), 1) := by decide +kernel
theorem dX1_passFigures_77 : decode cX1_passFigures 77 = .ok (.goto 4, 3) := by decide +kernel
theorem dX1_passFigures_80 : decode cX1_passFigures 80 = .ok (.iload_n 1, 1) := by decide +kernel
theorem dX1_passFigures_81 : decode cX1_passFigures 81 = .ok (.putfield 28, 3) := by decide +kernel
theorem dX1_passFigures_84 : decode cX1_passFigures 84 = .ok (.return_, 1) := by decide +kernel
theorem dX1_spells_0 : decode cX1_spells 0 = .ok (.aload_n 0, 1) := by decide +kernel
theorem dX1_spells_1 : decode cX1_spells 1 = .ok (.getfield 25, 3) := by decide +kernel
theorem dX1_spells_4 : decode cX1_spells 4 = .ok (.iconst 1, 1) := by decide +kernel
theorem dX1_spells_5 : decode cX1_spells 5 = .ok (.if_icmp .ne 19, 3) := by decide +kernel
theorem dX1_spells_8 : decode cX1_spells 8 = .ok (.aload_n 0, 1) := by decide +kernel
theorem dX1_spells_9 : decode cX1_spells 9 = .ok (.getfield 19, 3) := by decide +kernel
theorem dX1_spells_12 : decode cX1_spells 12 = .ok (.aload_n 0, 1) := by decide +kernel
theorem dX1_spells_13 : decode cX1_spells 13 = .ok (.getfield 22, 3) := by decide +kernel
theorem dX1_spells_16 : decode cX1_spells 16 = .ok (.isub, 1) := by decide +kernel
theorem dX1_spells_17 : decode cX1_spells 17 = .ok (.aload_n 1, 1) := by decide +kernel
theorem dX1_spells_18 : decode cX1_spells 18 = .ok (.invokevirtual 48, 3) := by decide +kernel
theorem dX1_spells_21 : decode cX1_spells 21 = .ok (.if_icmp .eq 5, 3) := by decide +kernel
theorem dX1_spells_24 : decode cX1_spells 24 = .ok (.iconst 0, 1) := by decide +kernel
theorem dX1_spells_25 : decode cX1_spells 25 = .ok (.ireturn, 1) := by decide +kernel
theorem dX1_spells_26 : decode cX1_spells 26 = .ok (.iconst 0, 1) := by decide +kernel
theorem dX1_spells_27 : decode cX1_spells 27 = .ok (.istore_n 2, 1) := by decide +kernel
theorem dX1_spells_28 : decode cX1_spells 28 = .ok (.iload_n 2, 1) := by decide +kernel
theorem dX1_spells_29 : decode cX1_spells 29 = .ok (.aload_n 1, 1) := by decide +kernel
theorem dX1_spells_30 : decode cX1_spells 30 = .ok (.invokevirtual 48, 3) := by decide +kernel
theorem dX1_spells_33 : decode cX1_spells 33 = .ok (.if_icmp .ge 29, 3) := by decide +kernel
theorem dX1_spells_36 : decode cX1_spells 36 = .ok (.aload_n 0, 1) := by decide +kernel
theorem dX1_spells_37 : decode cX1_spells 37 = .ok (.aload_n 0, 1) := by decide +kernel
theorem dX1_spells_38 : decode cX1_spells 38 = .ok (.getfield 22, 3) := by decide +kernel
theorem dX1_spells_41 : decode cX1_spells 41 = .ok (.iload_n 2, 1) := by decide +kernel
theorem dX1_spells_42 : decode cX1_spells 42 = .ok (.iadd, 1) := by decide +kernel
theorem dX1_spells_43 : decode cX1_spells 43 = .ok (.invokevirtual 31, 3) := by decide +kernel
theorem dX1_spells_46 : decode cX1_spells 46 = .ok (.aload_n 1, 1) := by decide +kernel
theorem dX1_spells_47 : decode cX1_spells 47 = .ok (.iload_n 2, 1) := by decide +kernel
theorem dX1_spells_48 : decode cX1_spells 48 = .ok (.invokevirtual 53, 3) := by decide +kernel
theorem dX1_spells_51 : decode cX1_spells 51 = .ok (.if_icmp .eq 5, 3) := by decide +kernel
theorem dX1_spells_54 : decode cX1_spells 54 = .ok (.iconst 0, 1) := by decide +kernel
theorem dX1_spells_55 : decode cX1_spells 55 = .ok (.ireturn, 1) := by decide +kernel
theorem dX1_spells_56 : decode cX1_spells 56 = .ok (.iinc 2 1, 3) := by decide +kernel
theorem dX1_spells_59 : decode cX1_spells 59 = .ok (.goto (-31), 3) := by decide +kernel
theorem dX1_spells_62 : decode cX1_spells 62 = .ok (.iconst 1, 1) := by decide +kernel
theorem dX1_spells_63 : decode cX1_spells 63 = .ok (.ireturn, 1) := by decide +kernel
theorem dX1_numberComes_0 : decode cX1_numberComes 0 = .ok (.aload_n 0, 1) := by decide +kernel
theorem dX1_numberComes_1 : decode cX1_numberComes 1 = .ok (.invokevirtual 57, 3) := by decide +kernel
theorem dX1_numberComes_4 : decode cX1_numberComes 4 = .ok (.aload_n 0, 1) := by decide +kernel
theorem dX1_numberComes_5 : decode cX1_numberComes 5 = .ok (.getfield 25, 3) := by decide +kernel
theorem dX1_numberComes_8 : decode cX1_numberComes 8 = .ok (.iconst 2, 1) := by decide +kernel
theorem dX1_numberComes_9 : decode cX1_numberComes 9 = .ok (.if_icmp .ne 19, 3) := by decide +kernel
theorem dX1_numberComes_12 : decode cX1_numberComes 12 = .ok (.aload_n 0, 1) := by decide +kernel
theorem dX1_numberComes_13 : decode cX1_numberComes 13 = .ok (.getfield 28, 3) := by decide +kernel
theorem dX1_numberComes_16 : decode cX1_numberComes 16 = .ok (.iload_n 1, 1) := by decide +kernel
theorem dX1_numberComes_17 : decode cX1_numberComes 17 = .ok (.iload_n 2, 1) := by decide +kernel
theorem dX1_numberComes_18 : decode cX1_numberComes 18 = .ok (.invokestatic 60, 3) := by decide +kernel
theorem dX1_numberComes_21 : decode cX1_numberComes 21 = .ok (.ifCond .eq 7, 3) := by decide +kernel
theorem dX1_numberComes_24 : decode cX1_numberComes 24 = .ok (.iconst 1, 1) := by decide +kernel
theorem dX1_numberComes_25 : decode cX1_numberComes 25 = .ok (.goto 4, 3) := by decide +kernel
theorem dX1_numberComes_28 : decode cX1_numberComes 28 = .ok (.iconst 0, 1) := by decide +kernel
theorem dX1_numberComes_29 : decode cX1_numberComes 29 = .ok (.ireturn, 1) := by decide +kernel
theorem dX2_init_0 : decode cX2_init 0 = .ok (.aload_n 0, 1) := by decide +kernel
theorem dX2_init_1 : decode cX2_init 1 = .ok (.invokespecial 3, 3) := by decide +kernel
theorem dX2_init_4 : decode cX2_init 4 = .ok (.aload_n 0, 1) := by decide +kernel
theorem dX2_init_5 : decode cX2_init 5 = .ok (.bipush 12, 2) := by decide +kernel
theorem dX2_init_7 : decode cX2_init 7 = .ok (.newarray .int, 2) := by decide +kernel
theorem dX2_init_9 : decode cX2_init 9 = .ok (.putfield 9, 3) := by decide +kernel
theorem dX2_init_12 : decode cX2_init 12 = .ok (.aload_n 0, 1) := by decide +kernel
theorem dX2_init_13 : decode cX2_init 13 = .ok (.sipush 10000, 3) := by decide +kernel
theorem dX2_init_16 : decode cX2_init 16 = .ok (.newarray .int, 2) := by decide +kernel
theorem dX2_init_18 : decode cX2_init 18 = .ok (.putfield 15, 3) := by decide +kernel
theorem dX2_init_21 : decode cX2_init 21 = .ok (.aload_n 0, 1) := by decide +kernel
theorem dX2_init_22 : decode cX2_init 22 = .ok (.aconst_null, 1) := by decide +kernel
theorem dX2_init_23 : decode cX2_init 23 = .ok (.putfield 18, 3) := by decide +kernel
theorem dX2_init_26 : decode cX2_init 26 = .ok (.return_, 1) := by decide +kernel
theorem dX2_spell_0 : decode cX2_spell 0 = .ok (.iload_n 1, 1) := by decide +kernel
theorem dX2_spell_1 : decode cX2_spell 1 = .ok (.ifCond .lt 13, 3) := by decide +kernel
theorem dX2_spell_4 : decode cX2_spell 4 = .ok (.iload_n 1, 1) := by decide +kernel
theorem dX2_spell_5 : decode cX2_spell 5 = .ok (.i2l, 1) := by decide +kernel
theorem dX2_spell_6 : decode cX2_spell 6 = .ok (.iload_n 2, 1) := by decide +kernel
theorem dX2_spell_7 : decode cX2_spell 7 = .ok (.invokestatic 22, 3) := by decide +kernel
theorem dX2_spell_10 : decode cX2_spell 10 = .ok (.lcmp, 1) := by decide +kernel
theorem dX2_spell_11 : decode cX2_spell 11 = .ok (.ifCond .lt 5, 3) := by decide +kernel
theorem dX2_spell_14 : decode cX2_spell 14 = .ok (.iconst (-1), 1) := by decide +kernel
theorem dX2_spell_15 : decode cX2_spell 15 = .ok (.ireturn, 1) := by decide +kernel
theorem dX2_spell_16 : decode cX2_spell 16 = .ok (.iconst 0, 1) := by decide +kernel
theorem dX2_spell_17 : decode cX2_spell 17 = .ok (.istore_n 3, 1) := by decide +kernel
theorem dX2_spell_18 : decode cX2_spell 18 = .ok (.iload_n 1, 1) := by decide +kernel
theorem dX2_spell_19 : decode cX2_spell 19 = .ok (.istore 4, 2) := by decide +kernel
theorem dX2_spell_21 : decode cX2_spell 21 = .ok (.iload 4, 2) := by decide +kernel
theorem dX2_spell_23 : decode cX2_spell 23 = .ok (.ifCond .le 22, 3) := by decide +kernel
theorem dX2_spell_26 : decode cX2_spell 26 = .ok (.iload_n 3, 1) := by decide +kernel
theorem dX2_spell_27 : decode cX2_spell 27 = .ok (.bipush 9, 2) := by decide +kernel
theorem dX2_spell_29 : decode cX2_spell 29 = .ok (.if_icmp .ge 16, 3) := by decide +kernel
theorem dX2_spell_32 : decode cX2_spell 32 = .ok (.iinc 3 1, 3) := by decide +kernel
theorem dX2_spell_35 : decode cX2_spell 35 = .ok (.iload 4, 2) := by decide +kernel
theorem dX2_spell_37 : decode cX2_spell 37 = .ok (.bipush 10, 2) := by decide +kernel
theorem dX2_spell_39 : decode cX2_spell 39 = .ok (.idiv, 1) := by decide +kernel
theorem dX2_spell_40 : decode cX2_spell 40 = .ok (.istore 4, 2) := by decide +kernel
theorem dX2_spell_42 : decode cX2_spell 42 = .ok (.goto (-21), 3) := by decide +kernel
theorem dX2_spell_45 : decode cX2_spell 45 = .ok (.iload_n 1, 1) := by decide +kernel
theorem dX2_spell_46 : decode cX2_spell 46 = .ok (.istore 4, 2) := by decide +kernel
theorem dX2_spell_48 : decode cX2_spell 48 = .ok (.iload_n 3, 1) := by decide +kernel
theorem dX2_spell_49 : decode cX2_spell 49 = .ok (.iconst 1, 1) := by decide +kernel
theorem dX2_spell_50 : decode cX2_spell 50 = .ok (.isub, 1) := by decide +kernel
theorem dX2_spell_51 : decode cX2_spell 51 = .ok (.istore 5, 2) := by decide +kernel
theorem dX2_spell_53 : decode cX2_spell 53 = .ok (.iload 5, 2) := by decide +kernel
theorem dX2_spell_55 : decode cX2_spell 55 = .ok (.ifCond .lt 46, 3) := by decide +kernel
theorem dX2_spell_58 : decode cX2_spell 58 = .ok (.iload 4, 2) := by decide +kernel
theorem dX2_spell_60 : decode cX2_spell 60 = .ok (.bipush 10, 2) := by decide +kernel
theorem dX2_spell_62 : decode cX2_spell 62 = .ok (.irem, 1) := by decide +kernel
theorem dX2_spell_63 : decode cX2_spell 63 = .ok (.iconst 1, 1) := by decide +kernel
theorem dX2_spell_64 : decode cX2_spell 64 = .ok (.isub, 1) := by decide +kernel
theorem dX2_spell_65 : decode cX2_spell 65 = .ok (.istore 6, 2) := by decide +kernel
theorem dX2_spell_67 : decode cX2_spell 67 = .ok (.iload 6, 2) := by decide +kernel
theorem dX2_spell_69 : decode cX2_spell 69 = .ok (.invokestatic 26, 3) := by decide +kernel
theorem dX2_spell_72 : decode cX2_spell 72 = .ok (.ifCond .ne 5, 3) := by decide +kernel
theorem dX2_spell_75 : decode cX2_spell 75 = .ok (.iconst (-1), 1) := by decide +kernel
theorem dX2_spell_76 : decode cX2_spell 76 = .ok (.ireturn, 1) := by decide +kernel
theorem dX2_spell_77 : decode cX2_spell 77 = .ok (.aload_n 0, 1) := by decide +kernel
theorem dX2_spell_78 : decode cX2_spell 78 = .ok (.getfield 9, 3) := by decide +kernel
theorem dX2_spell_81 : decode cX2_spell 81 = .ok (.iload 5, 2) := by decide +kernel
theorem dX2_spell_83 : decode cX2_spell 83 = .ok (.iload 6, 2) := by decide +kernel
theorem dX2_spell_85 : decode cX2_spell 85 = .ok (.invokestatic 30, 3) := by decide +kernel
theorem dX2_spell_88 : decode cX2_spell 88 = .ok (.iload 4, 2) := by decide +kernel
theorem dX2_spell_90 : decode cX2_spell 90 = .ok (.bipush 10, 2) := by decide +kernel
theorem dX2_spell_92 : decode cX2_spell 92 = .ok (.idiv, 1) := by decide +kernel
theorem dX2_spell_93 : decode cX2_spell 93 = .ok (.istore 4, 2) := by decide +kernel
theorem dX2_spell_95 : decode cX2_spell 95 = .ok (.iinc 5 (-1), 3) := by decide +kernel
theorem dX2_spell_98 : decode cX2_spell 98 = .ok (.goto (-45), 3) := by decide +kernel
theorem dX2_spell_101 : decode cX2_spell 101 = .ok (.iload_n 3, 1) := by decide +kernel
theorem dX2_spell_102 : decode cX2_spell 102 = .ok (.ireturn, 1) := by decide +kernel
theorem dX2_shortestIn_0 : decode cX2_shortestIn 0 = .ok (.aload_n 1, 1) := by decide +kernel
theorem dX2_shortestIn_1 : decode cX2_shortestIn 1 = .ok (.getfield 34, 3) := by decide +kernel
theorem dX2_shortestIn_4 : decode cX2_shortestIn 4 = .ok (.invokestatic 40, 3) := by decide +kernel
theorem dX2_shortestIn_7 : decode cX2_shortestIn 7 = .ok (.istore_n 2, 1) := by decide +kernel
theorem dX2_shortestIn_8 : decode cX2_shortestIn 8 = .ok (.iload_n 2, 1) := by decide +kernel
theorem dX2_shortestIn_9 : decode cX2_shortestIn 9 = .ok (.ifCond .eq 14, 3) := by decide +kernel
theorem dX2_shortestIn_12 : decode cX2_shortestIn 12 = .ok (.iload_n 2, 1) := by decide +kernel
theorem dX2_shortestIn_13 : decode cX2_shortestIn 13 = .ok (.iconst 1, 1) := by decide +kernel
theorem dX2_shortestIn_14 : decode cX2_shortestIn 14 = .ok (.if_icmp .ne 7, 3) := by decide +kernel
theorem dX2_shortestIn_17 : decode cX2_shortestIn 17 = .ok (.iconst 0, 1) := by decide +kernel
theorem dX2_shortestIn_18 : decode cX2_shortestIn 18 = .ok (.goto 4, 3) := by decide +kernel
theorem dX2_shortestIn_21 : decode cX2_shortestIn 21 = .ok (.iconst (-1), 1) := by decide +kernel
theorem dX2_shortestIn_22 : decode cX2_shortestIn 22 = .ok (.ireturn, 1) := by decide +kernel
theorem dX2_shortestIn_23 : decode cX2_shortestIn 23 = .ok (.aload_n 0, 1) := by decide +kernel
theorem dX2_shortestIn_24 : decode cX2_shortestIn 24 = .ok (.aload_n 1, 1) := by decide +kernel
theorem dX2_shortestIn_25 : decode cX2_shortestIn 25 = .ok (.iconst 1, 1) := by decide +kernel
theorem dX2_shortestIn_26 : decode cX2_shortestIn 26 = .ok (.iconst 0, 1) := by decide +kernel
theorem dX2_shortestIn_27 : decode cX2_shortestIn 27 = .ok (.invokevirtual 44, 3) := by decide +kernel
theorem dX2_shortestIn_30 : decode cX2_shortestIn 30 = .ok (.iconst 1, 1) := by decide +kernel
theorem dX2_shortestIn_31 : decode cX2_shortestIn 31 = .ok (.istore_n 3, 1) := by decide +kernel
theorem dX2_shortestIn_32 : decode cX2_shortestIn 32 = .ok (.iload_n 3, 1) := by decide +kernel
theorem dX2_shortestIn_33 : decode cX2_shortestIn 33 = .ok (.bipush 12, 2) := by decide +kernel
theorem dX2_shortestIn_35 : decode cX2_shortestIn 35 = .ok (.if_icmp .gt 28, 3) := by decide +kernel
theorem dX2_shortestIn_38 : decode cX2_shortestIn 38 = .ok (.aload_n 0, 1) := by decide +kernel
theorem dX2_shortestIn_39 : decode cX2_shortestIn 39 = .ok (.aload_n 1, 1) := by decide +kernel
theorem dX2_shortestIn_40 : decode cX2_shortestIn 40 = .ok (.getfield 34, 3) := by decide +kernel
theorem dX2_shortestIn_43 : decode cX2_shortestIn 43 = .ok (.aload_n 1, 1) := by decide +kernel
theorem dX2_shortestIn_44 : decode cX2_shortestIn 44 = .ok (.getfield 48, 3) := by decide +kernel
theorem dX2_shortestIn_47 : decode cX2_shortestIn 47 = .ok (.iconst 0, 1) := by decide +kernel
theorem dX2_shortestIn_48 : decode cX2_shortestIn 48 = .ok (.iload_n 3, 1) := by decide +kernel
theorem dX2_shortestIn_49 : decode cX2_shortestIn 49 = .ok (.invokestatic 51, 3) := by decide +kernel
theorem dX2_shortestIn_52 : decode cX2_shortestIn 52 = .ok (.ifCond .eq 5, 3) := by decide +kernel
theorem dX2_shortestIn_55 : decode cX2_shortestIn 55 = .ok (.iload_n 3, 1) := by decide +kernel
theorem dX2_shortestIn_56 : decode cX2_shortestIn 56 = .ok (.ireturn, 1) := by decide +kernel
theorem dX2_shortestIn_57 : decode cX2_shortestIn 57 = .ok (.iinc 3 1, 3) := by decide +kernel
theorem dX2_shortestIn_60 : decode cX2_shortestIn 60 = .ok (.goto (-28), 3) := by decide +kernel
theorem dX2_shortestIn_63 : decode cX2_shortestIn 63 = .ok (.iconst (-1), 1) := by decide +kernel
theorem dX2_shortestIn_64 : decode cX2_shortestIn 64 = .ok (.ireturn, 1) := by decide +kernel
theorem dX2_longestOut_0 : decode cX2_longestOut 0 = .ok (.aload_n 1, 1) := by decide +kernel
theorem dX2_longestOut_1 : decode cX2_longestOut 1 = .ok (.getfield 34, 3) := by decide +kernel
theorem dX2_longestOut_4 : decode cX2_longestOut 4 = .ok (.invokestatic 40, 3) := by decide +kernel
theorem dX2_longestOut_7 : decode cX2_longestOut 7 = .ok (.ifCond .eq 5, 3) := by decide +kernel
theorem dX2_longestOut_10 : decode cX2_longestOut 10 = .ok (.iconst 0, 1) := by decide +kernel
theorem dX2_longestOut_11 : decode cX2_longestOut 11 = .ok (.ireturn, 1) := by decide +kernel
theorem dX2_longestOut_12 : decode cX2_longestOut 12 = .ok (.aload_n 0, 1) := by decide +kernel
theorem dX2_longestOut_13 : decode cX2_longestOut 13 = .ok (.aload_n 1, 1) := by decide +kernel
theorem dX2_longestOut_14 : decode cX2_longestOut 14 = .ok (.iconst 0, 1) := by decide +kernel
theorem dX2_longestOut_15 : decode cX2_longestOut 15 = .ok (.iload_n 2, 1) := by decide +kernel
theorem dX2_longestOut_16 : decode cX2_longestOut 16 = .ok (.invokevirtual 44, 3) := by decide +kernel
theorem dX2_longestOut_19 : decode cX2_longestOut 19 = .ok (.bipush 12, 2) := by decide +kernel
theorem dX2_longestOut_21 : decode cX2_longestOut 21 = .ok (.istore_n 3, 1) := by decide +kernel
theorem dX2_longestOut_22 : decode cX2_longestOut 22 = .ok (.iload_n 3, 1) := by decide +kernel
theorem dX2_longestOut_23 : decode cX2_longestOut 23 = .ok (.ifCond .le 28, 3) := by decide +kernel
theorem dX2_longestOut_26 : decode cX2_longestOut 26 = .ok (.aload_n 0, 1) := by decide +kernel
theorem dX2_longestOut_27 : decode cX2_longestOut 27 = .ok (.aload_n 1, 1) := by decide +kernel
theorem dX2_longestOut_28 : decode cX2_longestOut 28 = .ok (.getfield 34, 3) := by decide +kernel
theorem dX2_longestOut_31 : decode cX2_longestOut 31 = .ok (.aload_n 1, 1) := by decide +kernel
theorem dX2_longestOut_32 : decode cX2_longestOut 32 = .ok (.getfield 48, 3) := by decide +kernel
theorem dX2_longestOut_35 : decode cX2_longestOut 35 = .ok (.iconst 0, 1) := by decide +kernel
theorem dX2_longestOut_36 : decode cX2_longestOut 36 = .ok (.iload_n 3, 1) := by decide +kernel
theorem dX2_longestOut_37 : decode cX2_longestOut 37 = .ok (.invokestatic 51, 3) := by decide +kernel
theorem dX2_longestOut_40 : decode cX2_longestOut 40 = .ok (.ifCond .eq 5, 3) := by decide +kernel
theorem dX2_longestOut_43 : decode cX2_longestOut 43 = .ok (.iload_n 3, 1) := by decide +kernel
theorem dX2_longestOut_44 : decode cX2_longestOut 44 = .ok (.ireturn, 1) := by decide +kernel
theorem dX2_longestOut_45 : decode cX2_longestOut 45 = .ok (.iinc 3 (-1), 3) := by decide +kernel
theorem dX2_longestOut_48 : decode cX2_longestOut 48 = .ok (.goto (-26), 3) := by decide +kernel
theorem dX2_longestOut_51 : decode cX2_longestOut 51 = .ok (.iconst 0, 1) := by decide +kernel
theorem dX2_longestOut_52 : decode cX2_longestOut 52 = .ok (.ireturn, 1) := by decide +kernel
theorem dX2_seek_0 : decode cX2_seek 0 = .ok (.aload_n 0, 1) := by decide +kernel
theorem dX2_seek_1 : decode cX2_seek 1 = .ok (.aload_n 1, 1) := by decide +kernel
theorem dX2_seek_2 : decode cX2_seek 2 = .ok (.putfield 18, 3) := by decide +kernel
theorem dX2_seek_5 : decode cX2_seek 5 = .ok (.aload_n 0, 1) := by decide +kernel
theorem dX2_seek_6 : decode cX2_seek 6 = .ok (.iload_n 2, 1) := by decide +kernel
theorem dX2_seek_7 : decode cX2_seek 7 = .ok (.putfield 55, 3) := by decide +kernel
theorem dX2_seek_10 : decode cX2_seek 10 = .ok (.aload_n 0, 1) := by decide +kernel
theorem dX2_seek_11 : decode cX2_seek 11 = .ok (.iload_n 3, 1) := by decide +kernel
theorem dX2_seek_12 : decode cX2_seek 12 = .ok (.putfield 58, 3) := by decide +kernel
theorem dX2_seek_15 : decode cX2_seek 15 = .ok (.aload_n 0, 1) := by decide +kernel
theorem dX2_seek_16 : decode cX2_seek 16 = .ok (.getfield 15, 3) := by decide +kernel
theorem dX2_seek_19 : decode cX2_seek 19 = .ok (.iconst 0, 1) := by decide +kernel
theorem dX2_seek_20 : decode cX2_seek 20 = .ok (.invokestatic 62, 3) := by decide +kernel
theorem dX2_seek_23 : decode cX2_seek 23 = .ok (.aload_n 0, 1) := by decide +kernel
theorem dX2_seek_24 : decode cX2_seek 24 = .ok (.aload_n 1, 1) := by decide +kernel
theorem dX2_seek_25 : decode cX2_seek 25 = .ok (.getfield 68, 3) := by decide +kernel
theorem dX2_seek_28 : decode cX2_seek 28 = .ok (.iconst 1, 1) := by decide +kernel
theorem dX2_seek_29 : decode cX2_seek 29 = .ok (.iconst 0, 1) := by decide +kernel
theorem dX2_seek_30 : decode cX2_seek 30 = .ok (.invokestatic 71, 3) := by decide +kernel
theorem dX2_seek_33 : decode cX2_seek 33 = .ok (.putfield 75, 3) := by decide +kernel
theorem dX2_seek_36 : decode cX2_seek 36 = .ok (.aload_n 0, 1) := by decide +kernel
theorem dX2_seek_37 : decode cX2_seek 37 = .ok (.iconst 0, 1) := by decide +kernel
theorem dX2_seek_38 : decode cX2_seek 38 = .ok (.putfield 78, 3) := by decide +kernel
theorem dX2_seek_41 : decode cX2_seek 41 = .ok (.iconst 0, 1) := by decide +kernel
theorem dX2_seek_42 : decode cX2_seek 42 = .ok (.istore 4, 2) := by decide +kernel
theorem dX2_seek_44 : decode cX2_seek 44 = .ok (.iload 4, 2) := by decide +kernel
theorem dX2_seek_46 : decode cX2_seek 46 = .ok (.bipush 6, 2) := by decide +kernel
theorem dX2_seek_48 : decode cX2_seek 48 = .ok (.if_icmp .ge 30, 3) := by decide +kernel
theorem dX2_seek_51 : decode cX2_seek 51 = .ok (.aload_n 0, 1) := by decide +kernel
theorem dX2_seek_52 : decode cX2_seek 52 = .ok (.aload_n 0, 1) := by decide +kernel
theorem dX2_seek_53 : decode cX2_seek 53 = .ok (.getfield 78, 3) := by decide +kernel
theorem dX2_seek_56 : decode cX2_seek 56 = .ok (.aload_n 1, 1) := by decide +kernel
theorem dX2_seek_57 : decode cX2_seek 57 = .ok (.getfield 68, 3) := by decide +kernel
theorem dX2_seek_60 : decode cX2_seek 60 = .ok (.iload 4, 2) := by decide +kernel
theorem dX2_seek_62 : decode cX2_seek 62 = .ok (.iconst 0, 1) := by decide +kernel
theorem dX2_seek_63 : decode cX2_seek 63 = .ok (.invokestatic 71, 3) := by decide +kernel
theorem dX2_seek_66 : decode cX2_seek 66 = .ok (.invokestatic 81, 3) := by decide +kernel
theorem dX2_seek_69 : decode cX2_seek 69 = .ok (.putfield 78, 3) := by decide +kernel
theorem dX2_seek_72 : decode cX2_seek 72 = .ok (.iinc 4 1, 3) := by decide +kernel
theorem dX2_seek_75 : decode cX2_seek 75 = .ok (.goto (-31), 3) := by decide +kernel
theorem dX2_seek_78 : decode cX2_seek 78 = .ok (.return_, 1) := by decide +kernel
theorem dX2_reaches_0 : decode cX2_reaches 0 = .ok (.aload_n 0, 1) := by decide +kernel
theorem dX2_reaches_1 : decode cX2_reaches 1 = .ok (.getfield 18, 3) := by decide +kernel
theorem dX2_reaches_4 : decode cX2_reaches 4 = .ok (.ifnull 28, 3) := by decide +kernel
theorem dX2_reaches_7 : decode cX2_reaches 7 = .ok (.iload 4, 2) := by decide +kernel
theorem dX2_reaches_9 : decode cX2_reaches 9 = .ok (.iconst 1, 1) := by decide +kernel
theorem dX2_reaches_10 : decode cX2_reaches 10 = .ok (.if_icmp .lt 22, 3) := by decide +kernel
theorem dX2_reaches_13 : decode cX2_reaches 13 = .ok (.iload_n 3, 1) := by decide +kernel
theorem dX2_reaches_14 : decode cX2_reaches 14 = .ok (.iload 4, 2) := by decide +kernel
theorem dX2_reaches_16 : decode cX2_reaches 16 = .ok (.iadd, 1) := by decide +kernel
theorem dX2_reaches_17 : decode cX2_reaches 17 = .ok (.bipush 12, 2) := by decide +kernel
theorem dX2_reaches_19 : decode cX2_reaches 19 = .ok (.if_icmp .gt 13, 3) := by decide +kernel
theorem dX2_reaches_22 : decode cX2_reaches 22 = .ok (.aload_n 0, 1) := by decide +kernel
theorem dX2_reaches_23 : decode cX2_reaches 23 = .ok (.iload_n 1, 1) := by decide +kernel
theorem dX2_reaches_24 : decode cX2_reaches 24 = .ok (.iload 4, 2) := by decide +kernel
theorem dX2_reaches_26 : decode cX2_reaches 26 = .ok (.invokestatic 87, 3) := by decide +kernel
theorem dX2_reaches_29 : decode cX2_reaches 29 = .ok (.ifCond .eq 5, 3) := by decide +kernel
theorem dX2_reaches_32 : decode cX2_reaches 32 = .ok (.iconst 0, 1) := by decide +kernel
theorem dX2_reaches_33 : decode cX2_reaches 33 = .ok (.ireturn, 1) := by decide +kernel
theorem dX2_reaches_34 : decode cX2_reaches 34 = .ok (.iconst 1, 1) := by decide +kernel
theorem dX2_reaches_35 : decode cX2_reaches 35 = .ok (.iload 4, 2) := by decide +kernel
theorem dX2_reaches_37 : decode cX2_reaches 37 = .ok (.iload_n 2, 1) := by decide +kernel
theorem dX2_reaches_38 : decode cX2_reaches 38 = .ok (.iconst 2, 1) := by decide +kernel
theorem dX2_reaches_39 : decode cX2_reaches 39 = .ok (.irem, 1) := by decide +kernel
theorem dX2_reaches_40 : decode cX2_reaches 40 = .ok (.ifCond .ne 7, 3) := by decide +kernel
theorem dX2_reaches_43 : decode cX2_reaches 43 = .ok (.iconst 0, 1) := by decide +kernel
theorem dX2_reaches_44 : decode cX2_reaches 44 = .ok (.goto 5, 3) := by decide +kernel
theorem dX2_reaches_47 : decode cX2_reaches 47 = .ok (.bipush 13, 2) := by decide +kernel
theorem dX2_reaches_49 : decode cX2_reaches 49 = .ok (.iadd, 1) := by decide +kernel
theorem dX2_reaches_50 : decode cX2_reaches 50 = .ok (.ishl, 1) := by decide +kernel
theorem dX2_reaches_51 : decode cX2_reaches 51 = .ok (.istore 5, 2) := by decide +kernel
theorem dX2_reaches_53 : decode cX2_reaches 53 = .ok (.iload_n 1, 1) := by decide +kernel
theorem dX2_reaches_54 : decode cX2_reaches 54 = .ok (.sipush 10000, 3) := by decide +kernel
theorem dX2_reaches_57 : decode cX2_reaches 57 = .ok (.irem, 1) := by decide +kernel
theorem dX2_reaches_58 : decode cX2_reaches 58 = .ok (.istore 6, 2) := by decide +kernel
theorem dX2_reaches_60 : decode cX2_reaches 60 = .ok (.aload_n 0, 1) := by decide +kernel
theorem dX2_reaches_61 : decode cX2_reaches 61 = .ok (.getfield 15, 3) := by decide +kernel
theorem dX2_reaches_64 : decode cX2_reaches 64 = .ok (.iload 6, 2) := by decide +kernel
theorem dX2_reaches_66 : decode cX2_reaches 66 = .ok (.invokestatic 91, 3) := by decide +kernel
theorem dX2_reaches_69 : decode cX2_reaches 69 = .ok (.iload 5, 2) := by decide +kernel
theorem dX2_reaches_71 : decode cX2_reaches 71 = .ok (.iand, 1) := by decide +kernel
theorem dX2_reaches_72 : decode cX2_reaches 72 = .ok (.ifCond .eq 5, 3) := by decide +kernel
theorem dX2_reaches_75 : decode cX2_reaches 75 = .ok (.iconst 0, 1) := by decide +kernel
theorem dX2_reaches_76 : decode cX2_reaches 76 = .ok (.ireturn, 1) := by decide +kernel
theorem dX2_reaches_77 : decode cX2_reaches 77 = .ok (.iconst 0, 1) := by decide +kernel
theorem dX2_reaches_78 : decode cX2_reaches 78 = .ok (.istore 7, 2) := by decide +kernel
theorem dX2_reaches_80 : decode cX2_reaches 80 = .ok (.iload 7, 2) := by decide +kernel
theorem dX2_reaches_82 : decode cX2_reaches 82 = .ok (.bipush 6, 2) := by decide +kernel
theorem dX2_reaches_84 : decode cX2_reaches 84 = .ok (.if_icmp .ge 121, 3) := by decide +kernel
theorem dX2_reaches_87 : decode cX2_reaches 87 = .ok (.aload_n 0, 1) := by decide +kernel
theorem dX2_reaches_88 : decode cX2_reaches 88 = .ok (.getfield 58, 3) := by decide +kernel
theorem dX2_reaches_91 : decode cX2_reaches 91 = .ok (.ifCond .eq 18, 3) := by decide +kernel
theorem dX2_reaches_94 : decode cX2_reaches 94 = .ok (.iload 7, 2) := by decide +kernel
theorem dX2_reaches_96 : decode cX2_reaches 96 = .ok (.iconst 3, 1) := by decide +kernel
theorem dX2_reaches_97 : decode cX2_reaches 97 = .ok (.if_icmp .eq 102, 3) := by decide +kernel
theorem dX2_reaches_100 : decode cX2_reaches 100 = .ok (.iload 7, 2) := by decide +kernel
theorem dX2_reaches_102 : decode cX2_reaches 102 = .ok (.iconst 4, 1) := by decide +kernel
theorem dX2_reaches_103 : decode cX2_reaches 103 = .ok (.if_icmp .ne 6, 3) := by decide +kernel
theorem dX2_reaches_106 : decode cX2_reaches 106 = .ok (.goto 93, 3) := by decide +kernel
theorem dX2_reaches_109 : decode cX2_reaches 109 = .ok (.aload_n 0, 1) := by decide +kernel
theorem dX2_reaches_110 : decode cX2_reaches 110 = .ok (.getfield 18, 3) := by decide +kernel
theorem dX2_reaches_113 : decode cX2_reaches 113 = .ok (.iload_n 1, 1) := by decide +kernel
theorem dX2_reaches_114 : decode cX2_reaches 114 = .ok (.iload_n 2, 1) := by decide +kernel
theorem dX2_reaches_115 : decode cX2_reaches 115 = .ok (.iload 7, 2) := by decide +kernel
theorem dX2_reaches_117 : decode cX2_reaches 117 = .ok (.invokevirtual 95, 3) := by decide +kernel
theorem dX2_reaches_120 : decode cX2_reaches 120 = .ok (.istore 8, 2) := by decide +kernel
theorem dX2_reaches_122 : decode cX2_reaches 122 = .ok (.iload 4, 2) := by decide +kernel
theorem dX2_reaches_124 : decode cX2_reaches 124 = .ok (.iconst 1, 1) := by decide +kernel
theorem dX2_reaches_125 : decode cX2_reaches 125 = .ok (.if_icmp .ne 23, 3) := by decide +kernel
theorem dX2_reaches_128 : decode cX2_reaches 128 = .ok (.iload 8, 2) := by decide +kernel
theorem dX2_reaches_130 : decode cX2_reaches 130 = .ok (.invokestatic 40, 3) := by decide +kernel
theorem dX2_reaches_133 : decode cX2_reaches 133 = .ok (.aload_n 0, 1) := by decide +kernel
theorem dX2_reaches_134 : decode cX2_reaches 134 = .ok (.getfield 55, 3) := by decide +kernel
theorem dX2_reaches_137 : decode cX2_reaches 137 = .ok (.if_icmp .ne 7, 3) := by decide +kernel
theorem dX2_reaches_140 : decode cX2_reaches 140 = .ok (.iconst 1, 1) := by decide +kernel
theorem dX2_reaches_141 : decode cX2_reaches 141 = .ok (.goto 39, 3) := by decide +kernel
theorem dX2_reaches_144 : decode cX2_reaches 144 = .ok (.iconst 0, 1) := by decide +kernel
theorem dX2_reaches_145 : decode cX2_reaches 145 = .ok (.goto 35, 3) := by decide +kernel
theorem dX2_reaches_148 : decode cX2_reaches 148 = .ok (.iload 8, 2) := by decide +kernel
theorem dX2_reaches_150 : decode cX2_reaches 150 = .ok (.invokestatic 40, 3) := by decide +kernel
theorem dX2_reaches_153 : decode cX2_reaches 153 = .ok (.ifCond .ne 26, 3) := by decide +kernel
theorem dX2_reaches_156 : decode cX2_reaches 156 = .ok (.aload_n 0, 1) := by decide +kernel
theorem dX2_reaches_157 : decode cX2_reaches 157 = .ok (.iload 8, 2) := by decide +kernel
theorem dX2_reaches_159 : decode cX2_reaches 159 = .ok (.iload_n 2, 1) := by decide +kernel
theorem dX2_reaches_160 : decode cX2_reaches 160 = .ok (.iconst 1, 1) := by decide +kernel
theorem dX2_reaches_161 : decode cX2_reaches 161 = .ok (.iadd, 1) := by decide +kernel
theorem dX2_reaches_162 : decode cX2_reaches 162 = .ok (.iload_n 3, 1) := by decide +kernel
theorem dX2_reaches_163 : decode cX2_reaches 163 = .ok (.iconst 1, 1) := by decide +kernel
theorem dX2_reaches_164 : decode cX2_reaches 164 = .ok (.iadd, 1) := by decide +kernel
theorem dX2_reaches_165 : decode cX2_reaches 165 = .ok (.iload 4, 2) := by decide +kernel
theorem dX2_reaches_167 : decode cX2_reaches 167 = .ok (.iconst 1, 1) := by decide +kernel
theorem dX2_reaches_168 : decode cX2_reaches 168 = .ok (.isub, 1) := by decide +kernel
theorem dX2_reaches_169 : decode cX2_reaches 169 = .ok (.invokestatic 51, 3) := by decide +kernel
theorem dX2_reaches_172 : decode cX2_reaches 172 = .ok (.ifCond .eq 7, 3) := by decide +kernel
theorem dX2_reaches_175 : decode cX2_reaches 175 = .ok (.iconst 1, 1) := by decide +kernel
theorem dX2_reaches_176 : decode cX2_reaches 176 = .ok (.goto 4, 3) := by decide +kernel
theorem dX2_reaches_179 : decode cX2_reaches 179 = .ok (.iconst 0, 1) := by decide +kernel
theorem dX2_reaches_180 : decode cX2_reaches 180 = .ok (.istore 9, 2) := by decide +kernel
theorem dX2_reaches_182 : decode cX2_reaches 182 = .ok (.iload 9, 2) := by decide +kernel
theorem dX2_reaches_184 : decode cX2_reaches 184 = .ok (.ifCond .eq 15, 3) := by decide +kernel
theorem dX2_reaches_187 : decode cX2_reaches 187 = .ok (.aload_n 0, 1) := by decide +kernel
theorem dX2_reaches_188 : decode cX2_reaches 188 = .ok (.getfield 9, 3) := by decide +kernel
theorem dX2_reaches_191 : decode cX2_reaches 191 = .ok (.iload_n 3, 1) := by decide +kernel
theorem dX2_reaches_192 : decode cX2_reaches 192 = .ok (.iload 7, 2) := by decide +kernel
theorem dX2_reaches_194 : decode cX2_reaches 194 = .ok (.invokestatic 30, 3) := by decide +kernel
theorem dX2_reaches_197 : decode cX2_reaches 197 = .ok (.iconst 1, 1) := by decide +kernel
theorem dX2_reaches_198 : decode cX2_reaches 198 = .ok (.ireturn, 1) := by decide +kernel
theorem dX2_reaches_199 : decode cX2_reaches 199 = .ok (.iinc 7 1, 3) := by decide +kernel
theorem dX2_reaches_202 : decode cX2_reaches 202 = .ok (.goto (-122), 3) := by decide +kernel
theorem dX2_reaches_205 : decode cX2_reaches 205 = .ok (.aload_n 0, 1) := by decide +kernel
theorem dX2_reaches_206 : decode cX2_reaches 206 = .ok (.getfield 15, 3) := by decide +kernel
theorem dX2_reaches_209 : decode cX2_reaches 209 = .ok (.iload 6, 2) := by decide +kernel
theorem dX2_reaches_211 : decode cX2_reaches 211 = .ok (.aload_n 0, 1) := by decide +kernel
theorem dX2_reaches_212 : decode cX2_reaches 212 = .ok (.getfield 15, 3) := by decide +kernel
theorem dX2_reaches_215 : decode cX2_reaches 215 = .ok (.iload 6, 2) := by decide +kernel
theorem dX2_reaches_217 : decode cX2_reaches 217 = .ok (.invokestatic 91, 3) := by decide +kernel
theorem dX2_reaches_220 : decode cX2_reaches 220 = .ok (.iload 5, 2) := by decide +kernel
theorem dX2_reaches_222 : decode cX2_reaches 222 = .ok (.ior, 1) := by decide +kernel
theorem dX2_reaches_223 : decode cX2_reaches 223 = .ok (.invokestatic 30, 3) := by decide +kernel
theorem dX2_reaches_226 : decode cX2_reaches 226 = .ok (.iconst 0, 1) := by decide +kernel
theorem dX2_reaches_227 : decode cX2_reaches 227 = .ok (.ireturn, 1) := by decide +kernel
theorem dX2_isHopeless_0 : decode cX2_isHopeless 0 = .ok (.iload_n 1, 1) := by decide +kernel
theorem dX2_isHopeless_1 : decode cX2_isHopeless 1 = .ok (.invokestatic 98, 3) := by decide +kernel
theorem dX2_isHopeless_4 : decode cX2_isHopeless 4 = .ok (.iload_n 2, 1) := by decide +kernel
theorem dX2_isHopeless_5 : decode cX2_isHopeless 5 = .ok (.iconst 1, 1) := by decide +kernel
theorem dX2_isHopeless_6 : decode cX2_isHopeless 6 = .ok (.isub, 1) := by decide +kernel
theorem dX2_isHopeless_7 : decode cX2_isHopeless 7 = .ok (.aload_n 0, 1) := by decide +kernel
theorem dX2_isHopeless_8 : decode cX2_isHopeless 8 = .ok (.getfield 78, 3) := by decide +kernel
theorem dX2_isHopeless_11 : decode cX2_isHopeless 11 = .ok (.imul, 1) := by decide +kernel
theorem dX2_isHopeless_12 : decode cX2_isHopeless 12 = .ok (.iadd, 1) := by decide +kernel
theorem dX2_isHopeless_13 : decode cX2_isHopeless 13 = .ok (.aload_n 0, 1) := by decide +kernel
theorem dX2_isHopeless_14 : decode cX2_isHopeless 14 = .ok (.getfield 75, 3) := by decide +kernel
theorem dX2_isHopeless_17 : decode cX2_isHopeless 17 = .ok (.iadd, 1) := by decide +kernel
theorem dX2_isHopeless_18 : decode cX2_isHopeless 18 = .ok (.istore_n 3, 1) := by decide +kernel
theorem dX2_isHopeless_19 : decode cX2_isHopeless 19 = .ok (.aload_n 0, 1) := by decide +kernel
theorem dX2_isHopeless_20 : decode cX2_isHopeless 20 = .ok (.getfield 55, 3) := by decide +kernel
theorem dX2_isHopeless_23 : decode cX2_isHopeless 23 = .ok (.iconst 1, 1) := by decide +kernel
theorem dX2_isHopeless_24 : decode cX2_isHopeless 24 = .ok (.if_icmp .ne 25, 3) := by decide +kernel
theorem dX2_isHopeless_27 : decode cX2_isHopeless 27 = .ok (.aload_n 0, 1) := by decide +kernel
theorem dX2_isHopeless_28 : decode cX2_isHopeless 28 = .ok (.getfield 18, 3) := by decide +kernel
theorem dX2_isHopeless_31 : decode cX2_isHopeless 31 = .ok (.ifnull 18, 3) := by decide +kernel
theorem dX2_isHopeless_34 : decode cX2_isHopeless 34 = .ok (.iload_n 3, 1) := by decide +kernel
theorem dX2_isHopeless_35 : decode cX2_isHopeless 35 = .ok (.aload_n 0, 1) := by decide +kernel
theorem dX2_isHopeless_36 : decode cX2_isHopeless 36 = .ok (.getfield 18, 3) := by decide +kernel
theorem dX2_isHopeless_39 : decode cX2_isHopeless 39 = .ok (.getfield 101, 3) := by decide +kernel
theorem dX2_isHopeless_42 : decode cX2_isHopeless 42 = .ok (.if_icmp .ge 7, 3) := by decide +kernel
theorem dX2_isHopeless_45 : decode cX2_isHopeless 45 = .ok (.iconst 1, 1) := by decide +kernel
theorem dX2_isHopeless_46 : decode cX2_isHopeless 46 = .ok (.goto 4, 3) := by decide +kernel
theorem dX2_isHopeless_49 : decode cX2_isHopeless 49 = .ok (.iconst 0, 1) := by decide +kernel
theorem dX2_isHopeless_50 : decode cX2_isHopeless 50 = .ok (.ireturn, 1) := by decide +kernel
theorem dX2_weighIn_0 : decode cX2_weighIn 0 = .ok (.aload_n 0, 1) := by decide +kernel
theorem dX2_weighIn_1 : decode cX2_weighIn 1 = .ok (.aload_n 1, 1) := by decide +kernel
theorem dX2_weighIn_2 : decode cX2_weighIn 2 = .ok (.putfield 18, 3) := by decide +kernel
theorem dX2_weighIn_5 : decode cX2_weighIn 5 = .ok (.aload_n 0, 1) := by decide +kernel
theorem dX2_weighIn_6 : decode cX2_weighIn 6 = .ok (.iload_n 2, 1) := by decide +kernel
theorem dX2_weighIn_7 : decode cX2_weighIn 7 = .ok (.putfield 104, 3) := by decide +kernel
theorem dX2_weighIn_10 : decode cX2_weighIn 10 = .ok (.aload_n 0, 1) := by decide +kernel
theorem dX2_weighIn_11 : decode cX2_weighIn 11 = .ok (.iload_n 3, 1) := by decide +kernel
theorem dX2_weighIn_12 : decode cX2_weighIn 12 = .ok (.putfield 107, 3) := by decide +kernel
theorem dX2_weighIn_15 : decode cX2_weighIn 15 = .ok (.aload_n 0, 1) := by decide +kernel
theorem dX2_weighIn_16 : decode cX2_weighIn 16 = .ok (.aload_n 1, 1) := by decide +kernel
theorem dX2_weighIn_17 : decode cX2_weighIn 17 = .ok (.getfield 34, 3) := by decide +kernel
theorem dX2_weighIn_20 : decode cX2_weighIn 20 = .ok (.aload_n 1, 1) := by decide +kernel
theorem dX2_weighIn_21 : decode cX2_weighIn 21 = .ok (.getfield 48, 3) := by decide +kernel
theorem dX2_weighIn_24 : decode cX2_weighIn 24 = .ok (.iconst 0, 1) := by decide +kernel
theorem dX2_weighIn_25 : decode cX2_weighIn 25 = .ok (.invokestatic 110, 3) := by decide +kernel
theorem dX2_weighIn_28 : decode cX2_weighIn 28 = .ok (.lreturn, 1) := by decide +kernel
theorem dX2_weigh_0 : decode cX2_weigh 0 = .ok (.aload_n 0, 1) := by decide +kernel
theorem dX2_weigh_1 : decode cX2_weigh 1 = .ok (.getfield 18, 3) := by decide +kernel
theorem dX2_weigh_4 : decode cX2_weigh 4 = .ok (.ifnull 24, 3) := by decide +kernel
theorem dX2_weigh_7 : decode cX2_weigh 7 = .ok (.iload_n 3, 1) := by decide +kernel
theorem dX2_weigh_8 : decode cX2_weigh 8 = .ok (.aload_n 0, 1) := by decide +kernel
theorem dX2_weigh_9 : decode cX2_weigh 9 = .ok (.getfield 104, 3) := by decide +kernel
theorem dX2_weigh_12 : decode cX2_weigh 12 = .ok (.if_icmp .ge 16, 3) := by decide +kernel
theorem dX2_weigh_15 : decode cX2_weigh 15 = .ok (.iload_n 3, 1) := by decide +kernel
theorem dX2_weigh_16 : decode cX2_weigh 16 = .ok (.bipush 7, 2) := by decide +kernel
theorem dX2_weigh_18 : decode cX2_weigh 18 = .ok (.if_icmp .ge 10, 3) := by decide +kernel
theorem dX2_weigh_21 : decode cX2_weigh 21 = .ok (.iload_n 1, 1) := by decide +kernel
theorem dX2_weigh_22 : decode cX2_weigh 22 = .ok (.invokestatic 40, 3) := by decide +kernel
theorem dX2_weigh_25 : decode cX2_weigh 25 = .ok (.ifCond .eq 25, 3) := by decide +kernel
theorem dX2_weigh_28 : decode cX2_weigh 28 = .ok (.iload_n 1, 1) := by decide +kernel
theorem dX2_weigh_29 : decode cX2_weigh 29 = .ok (.invokestatic 40, 3) := by decide +kernel
theorem dX2_weigh_32 : decode cX2_weigh 32 = .ok (.iconst 1, 1) := by decide +kernel
theorem dX2_weigh_33 : decode cX2_weigh 33 = .ok (.if_icmp .ne 15, 3) := by decide +kernel
theorem dX2_weigh_36 : decode cX2_weigh 36 = .ok (.aload_n 0, 1) := by decide +kernel
theorem dX2_weigh_37 : decode cX2_weigh 37 = .ok (.getfield 104, 3) := by decide +kernel
theorem dX2_weigh_40 : decode cX2_weigh 40 = .ok (.iload_n 3, 1) := by decide +kernel
theorem dX2_weigh_41 : decode cX2_weigh 41 = .ok (.isub, 1) := by decide +kernel
theorem dX2_weigh_42 : decode cX2_weigh 42 = .ok (.invokestatic 22, 3) := by decide +kernel
theorem dX2_weigh_45 : decode cX2_weigh 45 = .ok (.goto 4, 3) := by decide +kernel
theorem dX2_weigh_48 : decode cX2_weigh 48 = .ok (.lconst 0, 1) := by decide +kernel
theorem dX2_weigh_49 : decode cX2_weigh 49 = .ok (.lreturn, 1) := by decide +kernel
theorem dX2_weigh_50 : decode cX2_weigh 50 = .ok (.aload_n 0, 1) := by decide +kernel
theorem dX2_weigh_51 : decode cX2_weigh 51 = .ok (.getfield 18, 3) := by decide +kernel
theorem dX2_weigh_54 : decode cX2_weigh 54 = .ok (.iload_n 1, 1) := by decide +kernel
theorem dX2_weigh_55 : decode cX2_weigh 55 = .ok (.iload_n 2, 1) := by decide +kernel
theorem dX2_weigh_56 : decode cX2_weigh 56 = .ok (.aload_n 0, 1) := by decide +kernel
theorem dX2_weigh_57 : decode cX2_weigh 57 = .ok (.getfield 9, 3) := by decide +kernel
theorem dX2_weigh_60 : decode cX2_weigh 60 = .ok (.iload_n 3, 1) := by decide +kernel
theorem dX2_weigh_61 : decode cX2_weigh 61 = .ok (.invokestatic 91, 3) := by decide +kernel
theorem dX2_weigh_64 : decode cX2_weigh 64 = .ok (.invokevirtual 95, 3) := by decide +kernel
theorem dX2_weigh_67 : decode cX2_weigh 67 = .ok (.istore 4, 2) := by decide +kernel
theorem dX2_weigh_69 : decode cX2_weigh 69 = .ok (.aload_n 0, 1) := by decide +kernel
theorem dX2_weigh_70 : decode cX2_weigh 70 = .ok (.getfield 107, 3) := by decide +kernel
theorem dX2_weigh_73 : decode cX2_weigh 73 = .ok (.i2l, 1) := by decide +kernel
theorem dX2_weigh_74 : decode cX2_weigh 74 = .ok (.aload_n 0, 1) := by decide +kernel
theorem dX2_weigh_75 : decode cX2_weigh 75 = .ok (.iload 4, 2) := by decide +kernel
theorem dX2_weigh_77 : decode cX2_weigh 77 = .ok (.iload_n 2, 1) := by decide +kernel
theorem dX2_weigh_78 : decode cX2_weigh 78 = .ok (.iconst 1, 1) := by decide +kernel
theorem dX2_weigh_79 : decode cX2_weigh 79 = .ok (.iadd, 1) := by decide +kernel
theorem dX2_weigh_80 : decode cX2_weigh 80 = .ok (.iload_n 3, 1) := by decide +kernel
theorem dX2_weigh_81 : decode cX2_weigh 81 = .ok (.iconst 1, 1) := by decide +kernel
theorem dX2_weigh_82 : decode cX2_weigh 82 = .ok (.iadd, 1) := by decide +kernel
theorem dX2_weigh_83 : decode cX2_weigh 83 = .ok (.invokestatic 110, 3) := by decide +kernel
theorem dX2_weigh_86 : decode cX2_weigh 86 = .ok (.lmul, 1) := by decide +kernel
theorem dX2_weigh_87 : decode cX2_weigh 87 = .ok (.bipush 10, 2) := by decide +kernel
theorem dX2_weigh_89 : decode cX2_weigh 89 = .ok (.aload_n 0, 1) := by decide +kernel
theorem dX2_weigh_90 : decode cX2_weigh 90 = .ok (.getfield 107, 3) := by decide +kernel
theorem dX2_weigh_93 : decode cX2_weigh 93 = .ok (.isub, 1) := by decide +kernel
theorem dX2_weigh_94 : decode cX2_weigh 94 = .ok (.i2l, 1) := by decide +kernel
theorem dX2_weigh_95 : decode cX2_weigh 95 = .ok (.aload_n 0, 1) := by decide +kernel
theorem dX2_weigh_96 : decode cX2_weigh 96 = .ok (.iload_n 1, 1) := by decide +kernel
theorem dX2_weigh_97 : decode cX2_weigh 97 = .ok (.iload_n 2, 1) := by decide +kernel
theorem dX2_weigh_98 : decode cX2_weigh 98 = .ok (.iload_n 3, 1) := by decide +kernel
theorem dX2_weigh_99 : decode cX2_weigh 99 = .ok (.iconst 1, 1) := by decide +kernel
theorem dX2_weigh_100 : decode cX2_weigh 100 = .ok (.iadd, 1) := by decide +kernel
theorem dX2_weigh_101 : decode cX2_weigh 101 = .ok (.invokestatic 110, 3) := by decide +kernel
theorem dX2_weigh_104 : decode cX2_weigh 104 = .ok (.lmul, 1) := by decide +kernel
theorem dX2_weigh_105 : decode cX2_weigh 105 = .ok (.ladd, 1) := by decide +kernel
theorem dX2_weigh_106 : decode cX2_weigh 106 = .ok (.lreturn, 1) := by decide +kernel
theorem dJ9_abs_067f4_0 : decode cJ9_abs_067f4 0 = .ok (.lload_n 0, 1) := by decide +kernel
theorem dJ9_abs_067f4_1 : decode cJ9_abs_067f4 1 = .ok (.lconst 0, 1) := by decide +kernel
theorem dJ9_abs_067f4_2 : decode cJ9_abs_067f4 2 = .ok (.lcmp, 1) := by decide +kernel
theorem dJ9_abs_067f4_3 : decode cJ9_abs_067f4 3 = .ok (.ifCond .ge 8, 3) := by decide +kernel
theorem dJ9_abs_067f4_6 : decode cJ9_abs_067f4 6 = .ok (.lload_n 0, 1) := by decide +kernel
theorem dJ9_abs_067f4_7 : decode cJ9_abs_067f4 7 = .ok (.lneg, 1) := by decide +kernel
theorem dJ9_abs_067f4_8 : decode cJ9_abs_067f4 8 = .ok (.goto 4, 3) := by decide +kernel
theorem dJ9_abs_067f4_11 : decode cJ9_abs_067f4 11 = .ok (.lload_n 0, 1) := by decide +kernel
theorem dJ9_abs_067f4_12 : decode cJ9_abs_067f4 12 = .ok (.lreturn, 1) := by decide +kernel
theorem dJ9_max_7cf53_0 : decode cJ9_max_7cf53 0 = .ok (.iload_n 0, 1) := by decide +kernel
theorem dJ9_max_7cf53_1 : decode cJ9_max_7cf53 1 = .ok (.iload_n 1, 1) := by decide +kernel
theorem dJ9_max_7cf53_2 : decode cJ9_max_7cf53 2 = .ok (.if_icmp .lt 7, 3) := by decide +kernel
theorem dJ9_max_7cf53_5 : decode cJ9_max_7cf53 5 = .ok (.iload_n 0, 1) := by decide +kernel
theorem dJ9_max_7cf53_6 : decode cJ9_max_7cf53 6 = .ok (.goto 4, 3) := by decide +kernel
theorem dJ9_max_7cf53_9 : decode cJ9_max_7cf53 9 = .ok (.iload_n 1, 1) := by decide +kernel
theorem dJ9_max_7cf53_10 : decode cJ9_max_7cf53 10 = .ok (.ireturn, 1) := by decide +kernel
theorem dJ9_min_7cf53_0 : decode cJ9_min_7cf53 0 = .ok (.iload_n 0, 1) := by decide +kernel
theorem dJ9_min_7cf53_1 : decode cJ9_min_7cf53 1 = .ok (.iload_n 1, 1) := by decide +kernel
theorem dJ9_min_7cf53_2 : decode cJ9_min_7cf53 2 = .ok (.if_icmp .gt 7, 3) := by decide +kernel
theorem dJ9_min_7cf53_5 : decode cJ9_min_7cf53 5 = .ok (.iload_n 0, 1) := by decide +kernel
theorem dJ9_min_7cf53_6 : decode cJ9_min_7cf53 6 = .ok (.goto 4, 3) := by decide +kernel
theorem dJ9_min_7cf53_9 : decode cJ9_min_7cf53 9 = .ok (.iload_n 1, 1) := by decide +kernel
theorem dJ9_min_7cf53_10 : decode cJ9_min_7cf53 10 = .ok (.ireturn, 1) := by decide +kernel
theorem dJ0_length_8abf5_0 : decode cJ0_length_8abf5 0 = .ok (.aload_n 0, 1) := by decide +kernel
theorem dJ0_length_8abf5_1 : decode cJ0_length_8abf5 1 = .ok (.getfield 9, 3) := by decide +kernel
theorem dJ0_length_8abf5_4 : decode cJ0_length_8abf5 4 = .ok (.arraylength, 1) := by decide +kernel
theorem dJ0_length_8abf5_5 : decode cJ0_length_8abf5 5 = .ok (.aload_n 0, 1) := by decide +kernel
theorem dJ0_length_8abf5_6 : decode cJ0_length_8abf5 6 = .ok (.invokevirtual 335, 3) := by decide +kernel
theorem dJ0_length_8abf5_9 : decode cJ0_length_8abf5 9 = .ok (.ishr, 1) := by decide +kernel
theorem dJ0_length_8abf5_10 : decode cJ0_length_8abf5 10 = .ok (.ireturn, 1) := by decide +kernel
theorem dJ0_charAt_5068e_0 : decode cJ0_charAt_5068e 0 = .ok (.aload_n 0, 1) := by decide +kernel
theorem dJ0_charAt_5068e_1 : decode cJ0_charAt_5068e 1 = .ok (.invokevirtual 492, 3) := by decide +kernel
theorem dJ0_charAt_5068e_4 : decode cJ0_charAt_5068e 4 = .ok (.ifCond .eq 12, 3) := by decide +kernel
theorem dJ0_charAt_5068e_7 : decode cJ0_charAt_5068e 7 = .ok (.aload_n 0, 1) := by decide +kernel
theorem dJ0_charAt_5068e_8 : decode cJ0_charAt_5068e 8 = .ok (.getfield 9, 3) := by decide +kernel
theorem dJ0_charAt_5068e_11 : decode cJ0_charAt_5068e 11 = .ok (.iload_n 1, 1) := by decide +kernel
theorem dJ0_charAt_5068e_12 : decode cJ0_charAt_5068e 12 = .ok (.invokestatic 495, 3) := by decide +kernel
theorem dJ0_charAt_5068e_15 : decode cJ0_charAt_5068e 15 = .ok (.ireturn, 1) := by decide +kernel
theorem dJ0_charAt_5068e_16 : decode cJ0_charAt_5068e 16 = .ok (.aload_n 0, 1) := by decide +kernel
theorem dJ0_charAt_5068e_17 : decode cJ0_charAt_5068e 17 = .ok (.getfield 9, 3) := by decide +kernel
theorem dJ0_charAt_5068e_20 : decode cJ0_charAt_5068e 20 = .ok (.iload_n 1, 1) := by decide +kernel
theorem dJ0_charAt_5068e_21 : decode cJ0_charAt_5068e 21 = .ok (.invokestatic 498, 3) := by decide +kernel
theorem dJ0_charAt_5068e_24 : decode cJ0_charAt_5068e 24 = .ok (.ireturn, 1) := by decide +kernel
theorem dJ0_coder_7d493_0 : decode cJ0_coder_7d493 0 = .ok (.getstatic 38, 3) := by decide +kernel
theorem dJ0_coder_7d493_3 : decode cJ0_coder_7d493 3 = .ok (.ifCond .eq 10, 3) := by decide +kernel
theorem dJ0_coder_7d493_6 : decode cJ0_coder_7d493 6 = .ok (.aload_n 0, 1) := by decide +kernel
theorem dJ0_coder_7d493_7 : decode cJ0_coder_7d493 7 = .ok (.getfield 15, 3) := by decide +kernel
theorem dJ0_coder_7d493_10 : decode cJ0_coder_7d493 10 = .ok (.goto 4, 3) := by decide +kernel
theorem dJ0_coder_7d493_13 : decode cJ0_coder_7d493 13 = .ok (.iconst 1, 1) := by decide +kernel
end
section
theorem dJ0_coder_7d493_14 : decode cJ0_coder_7d493 14 = .ok (.ireturn, 1) := by decide +kernel
theorem dJ0_isLatin1_aae02_0 : decode cJ0_isLatin1_aae02 0 = .ok (.getstatic 38, 3) := by decide +kernel
theorem dJ0_isLatin1_aae02_3 : decode cJ0_isLatin1_aae02 3 = .ok (.ifCond .eq 14, 3) := by decide +kernel
theorem dJ0_isLatin1_aae02_6 : decode cJ0_isLatin1_aae02 6 = .ok (.aload_n 0, 1) := by decide +kernel
theorem dJ0_isLatin1_aae02_7 : decode cJ0_isLatin1_aae02 7 = .ok (.getfield 15, 3) := by decide +kernel
theorem dJ0_isLatin1_aae02_10 : decode cJ0_isLatin1_aae02 10 = .ok (.ifCond .ne 7, 3) := by decide +kernel
theorem dJ0_isLatin1_aae02_13 : decode cJ0_isLatin1_aae02 13 = .ok (.iconst 1, 1) := by decide +kernel
theorem dJ0_isLatin1_aae02_14 : decode cJ0_isLatin1_aae02 14 = .ok (.goto 4, 3) := by decide +kernel
theorem dJ0_isLatin1_aae02_17 : decode cJ0_isLatin1_aae02 17 = .ok (.iconst 0, 1) := by decide +kernel
theorem dJ0_isLatin1_aae02_18 : decode cJ0_isLatin1_aae02 18 = .ok (.ireturn, 1) := by decide +kernel
theorem dJ0_checkIndex_df160_0 : decode cJ0_checkIndex_df160 0 = .ok (.iload_n 0, 1) := by decide +kernel
theorem dJ0_checkIndex_df160_1 : decode cJ0_checkIndex_df160 1 = .ok (.iload_n 1, 1) := by decide +kernel
theorem dJ0_checkIndex_df160_2 : decode cJ0_checkIndex_df160 2 = .ok (.getstatic 1053, 3) := by decide +kernel
theorem dJ0_checkIndex_df160_5 : decode cJ0_checkIndex_df160 5 = .ok (.invokestatic 1059, 3) := by decide +kernel
theorem dJ0_checkIndex_df160_8 : decode cJ0_checkIndex_df160 8 = .ok (.pop, 1) := by decide +kernel
theorem dJ0_checkIndex_df160_9 : decode cJ0_checkIndex_df160 9 = .ok (.return_, 1) := by decide +kernel
theorem dJ1_charAt_3b067_0 : decode cJ1_charAt_3b067 0 = .ok (.iload_n 1, 1) := by decide +kernel
theorem dJ1_charAt_3b067_1 : decode cJ1_charAt_3b067 1 = .ok (.aload_n 0, 1) := by decide +kernel
theorem dJ1_charAt_3b067_2 : decode cJ1_charAt_3b067 2 = .ok (.arraylength, 1) := by decide +kernel
theorem dJ1_charAt_3b067_3 : decode cJ1_charAt_3b067 3 = .ok (.invokestatic 9, 3) := by decide +kernel
theorem dJ1_charAt_3b067_6 : decode cJ1_charAt_3b067 6 = .ok (.aload_n 0, 1) := by decide +kernel
theorem dJ1_charAt_3b067_7 : decode cJ1_charAt_3b067 7 = .ok (.iload_n 1, 1) := by decide +kernel
theorem dJ1_charAt_3b067_8 : decode cJ1_charAt_3b067 8 = .ok (.baload, 1) := by decide +kernel
theorem dJ1_charAt_3b067_9 : decode cJ1_charAt_3b067 9 = .ok (.sipush 255, 3) := by decide +kernel
theorem dJ1_charAt_3b067_12 : decode cJ1_charAt_3b067 12 = .ok (.iand, 1) := by decide +kernel
theorem dJ1_charAt_3b067_13 : decode cJ1_charAt_3b067 13 = .ok (.i2c, 1) := by decide +kernel
theorem dJ1_charAt_3b067_14 : decode cJ1_charAt_3b067 14 = .ok (.ireturn, 1) := by decide +kernel
theorem dJ2_getChar_3b067_0 : decode cJ2_getChar_3b067 0 = .ok (.getstatic 44, 3) := by decide +kernel
theorem dJ2_getChar_3b067_3 : decode cJ2_getChar_3b067 3 = .ok (.ifCond .ne 25, 3) := by decide +kernel
theorem dJ2_getChar_3b067_6 : decode cJ2_getChar_3b067 6 = .ok (.iload_n 1, 1) := by decide +kernel
theorem dJ2_getChar_3b067_7 : decode cJ2_getChar_3b067 7 = .ok (.ifCond .lt 11, 3) := by decide +kernel
theorem dJ2_getChar_3b067_10 : decode cJ2_getChar_3b067 10 = .ok (.iload_n 1, 1) := by decide +kernel
theorem dJ2_getChar_3b067_11 : decode cJ2_getChar_3b067 11 = .ok (.aload_n 0, 1) := by decide +kernel
theorem dJ2_getChar_3b067_12 : decode cJ2_getChar_3b067 12 = .ok (.invokestatic 48, 3) := by decide +kernel
theorem dJ2_getChar_3b067_15 : decode cJ2_getChar_3b067 15 = .ok (.if_icmp .lt 13, 3) := by decide +kernel
theorem dJ2_getChar_3b067_18 : decode cJ2_getChar_3b067 18 = .ok (.new 52, 3) := by decide +kernel
theorem dJ2_getChar_3b067_21 : decode cJ2_getChar_3b067 21 = .ok (.dup, 1) := by decide +kernel
theorem dJ2_getChar_3b067_22 : decode cJ2_getChar_3b067 22 = .ok (.ldc 54, 2) := by decide +kernel
theorem dJ2_getChar_3b067_24 : decode cJ2_getChar_3b067 24 = .ok (.invokespecial 56, 3) := by decide +kernel
theorem dJ2_getChar_3b067_27 : decode cJ2_getChar_3b067 27 = .ok (.athrow, 1) := by decide +kernel
theorem dJ2_getChar_3b067_28 : decode cJ2_getChar_3b067 28 = .ok (.iload_n 1, 1) := by decide +kernel
theorem dJ2_getChar_3b067_29 : decode cJ2_getChar_3b067 29 = .ok (.iconst 1, 1) := by decide +kernel
theorem dJ2_getChar_3b067_30 : decode cJ2_getChar_3b067 30 = .ok (.ishl, 1) := by decide +kernel
theorem dJ2_getChar_3b067_31 : decode cJ2_getChar_3b067 31 = .ok (.istore_n 1, 1) := by decide +kernel
theorem dJ2_getChar_3b067_32 : decode cJ2_getChar_3b067 32 = .ok (.aload_n 0, 1) := by decide +kernel
theorem dJ2_getChar_3b067_33 : decode cJ2_getChar_3b067 33 = .ok (.iload_n 1, 1) := by decide +kernel
theorem dJ2_getChar_3b067_34 : decode cJ2_getChar_3b067 34 = .ok (.iinc 1 1, 3) := by decide +kernel
theorem dJ2_getChar_3b067_37 : decode cJ2_getChar_3b067 37 = .ok (.baload, 1) := by decide +kernel
theorem dJ2_getChar_3b067_38 : decode cJ2_getChar_3b067 38 = .ok (.sipush 255, 3) := by decide +kernel
theorem dJ2_getChar_3b067_41 : decode cJ2_getChar_3b067 41 = .ok (.iand, 1) := by decide +kernel
theorem dJ2_getChar_3b067_42 : decode cJ2_getChar_3b067 42 = .ok (.getstatic 59, 3) := by decide +kernel
theorem dJ2_getChar_3b067_45 : decode cJ2_getChar_3b067 45 = .ok (.ishl, 1) := by decide +kernel
theorem dJ2_getChar_3b067_46 : decode cJ2_getChar_3b067 46 = .ok (.aload_n 0, 1) := by decide +kernel
theorem dJ2_getChar_3b067_47 : decode cJ2_getChar_3b067 47 = .ok (.iload_n 1, 1) := by decide +kernel
theorem dJ2_getChar_3b067_48 : decode cJ2_getChar_3b067 48 = .ok (.baload, 1) := by decide +kernel
theorem dJ2_getChar_3b067_49 : decode cJ2_getChar_3b067 49 = .ok (.sipush 255, 3) := by decide +kernel
theorem dJ2_getChar_3b067_52 : decode cJ2_getChar_3b067 52 = .ok (.iand, 1) := by decide +kernel
theorem dJ2_getChar_3b067_53 : decode cJ2_getChar_3b067 53 = .ok (.getstatic 63, 3) := by decide +kernel
theorem dJ2_getChar_3b067_56 : decode cJ2_getChar_3b067 56 = .ok (.ishl, 1) := by decide +kernel
theorem dJ2_getChar_3b067_57 : decode cJ2_getChar_3b067 57 = .ok (.ior, 1) := by decide +kernel
theorem dJ2_getChar_3b067_58 : decode cJ2_getChar_3b067 58 = .ok (.i2c, 1) := by decide +kernel
theorem dJ2_getChar_3b067_59 : decode cJ2_getChar_3b067 59 = .ok (.ireturn, 1) := by decide +kernel
theorem dJ2_length_9d52b_0 : decode cJ2_length_9d52b 0 = .ok (.aload_n 0, 1) := by decide +kernel
theorem dJ2_length_9d52b_1 : decode cJ2_length_9d52b 1 = .ok (.arraylength, 1) := by decide +kernel
theorem dJ2_length_9d52b_2 : decode cJ2_length_9d52b 2 = .ok (.iconst 1, 1) := by decide +kernel
theorem dJ2_length_9d52b_3 : decode cJ2_length_9d52b 3 = .ok (.ishr, 1) := by decide +kernel
theorem dJ2_length_9d52b_4 : decode cJ2_length_9d52b 4 = .ok (.ireturn, 1) := by decide +kernel
theorem dJ2_charAt_3b067_0 : decode cJ2_charAt_3b067 0 = .ok (.iload_n 1, 1) := by decide +kernel
theorem dJ2_charAt_3b067_1 : decode cJ2_charAt_3b067 1 = .ok (.aload_n 0, 1) := by decide +kernel
theorem dJ2_charAt_3b067_2 : decode cJ2_charAt_3b067 2 = .ok (.invokestatic 67, 3) := by decide +kernel
theorem dJ2_charAt_3b067_5 : decode cJ2_charAt_3b067 5 = .ok (.aload_n 0, 1) := by decide +kernel
theorem dJ2_charAt_3b067_6 : decode cJ2_charAt_3b067 6 = .ok (.iload_n 1, 1) := by decide +kernel
theorem dJ2_charAt_3b067_7 : decode cJ2_charAt_3b067 7 = .ok (.invokestatic 71, 3) := by decide +kernel
theorem dJ2_charAt_3b067_10 : decode cJ2_charAt_3b067 10 = .ok (.ireturn, 1) := by decide +kernel
theorem dJ2_checkIndex_2214a_0 : decode cJ2_checkIndex_2214a 0 = .ok (.iload_n 0, 1) := by decide +kernel
theorem dJ2_checkIndex_2214a_1 : decode cJ2_checkIndex_2214a 1 = .ok (.aload_n 1, 1) := by decide +kernel
theorem dJ2_checkIndex_2214a_2 : decode cJ2_checkIndex_2214a 2 = .ok (.invokestatic 48, 3) := by decide +kernel
theorem dJ2_checkIndex_2214a_5 : decode cJ2_checkIndex_2214a 5 = .ok (.invokestatic 414, 3) := by decide +kernel
theorem dJ2_checkIndex_2214a_8 : decode cJ2_checkIndex_2214a 8 = .ok (.return_, 1) := by decide +kernel
theorem dJ7_fill_53178_0 : decode cJ7_fill_53178 0 = .ok (.iconst 0, 1) := by decide +kernel
theorem dJ7_fill_53178_1 : decode cJ7_fill_53178 1 = .ok (.istore_n 2, 1) := by decide +kernel
theorem dJ7_fill_53178_2 : decode cJ7_fill_53178 2 = .ok (.aload_n 0, 1) := by decide +kernel
theorem dJ7_fill_53178_3 : decode cJ7_fill_53178 3 = .ok (.arraylength, 1) := by decide +kernel
theorem dJ7_fill_53178_4 : decode cJ7_fill_53178 4 = .ok (.istore_n 3, 1) := by decide +kernel
theorem dJ7_fill_53178_5 : decode cJ7_fill_53178 5 = .ok (.iload_n 2, 1) := by decide +kernel
theorem dJ7_fill_53178_6 : decode cJ7_fill_53178 6 = .ok (.iload_n 3, 1) := by decide +kernel
theorem dJ7_fill_53178_7 : decode cJ7_fill_53178 7 = .ok (.if_icmp .ge 13, 3) := by decide +kernel
theorem dJ7_fill_53178_10 : decode cJ7_fill_53178 10 = .ok (.aload_n 0, 1) := by decide +kernel
theorem dJ7_fill_53178_11 : decode cJ7_fill_53178 11 = .ok (.iload_n 2, 1) := by decide +kernel
theorem dJ7_fill_53178_12 : decode cJ7_fill_53178 12 = .ok (.iload_n 1, 1) := by decide +kernel
theorem dJ7_fill_53178_13 : decode cJ7_fill_53178 13 = .ok (.iastore, 1) := by decide +kernel
theorem dJ7_fill_53178_14 : decode cJ7_fill_53178 14 = .ok (.iinc 2 1, 3) := by decide +kernel
theorem dJ7_fill_53178_17 : decode cJ7_fill_53178 17 = .ok (.goto (-12), 3) := by decide +kernel
theorem dJ7_fill_53178_20 : decode cJ7_fill_53178 20 = .ok (.return_, 1) := by decide +kernel
theorem dJ3_checkIndex_8e157_0 : decode cJ3_checkIndex_8e157 0 = .ok (.iload_n 0, 1) := by decide +kernel
theorem dJ3_checkIndex_8e157_1 : decode cJ3_checkIndex_8e157 1 = .ok (.ifCond .lt 8, 3) := by decide +kernel
theorem dJ3_checkIndex_8e157_4 : decode cJ3_checkIndex_8e157 4 = .ok (.iload_n 0, 1) := by decide +kernel
theorem dJ3_checkIndex_8e157_5 : decode cJ3_checkIndex_8e157 5 = .ok (.iload_n 1, 1) := by decide +kernel
theorem dJ3_checkIndex_8e157_6 : decode cJ3_checkIndex_8e157 6 = .ok (.if_icmp .lt 10, 3) := by decide +kernel
theorem dJ3_checkIndex_8e157_9 : decode cJ3_checkIndex_8e157 9 = .ok (.aload_n 2, 1) := by decide +kernel
theorem dJ3_checkIndex_8e157_10 : decode cJ3_checkIndex_8e157 10 = .ok (.iload_n 0, 1) := by decide +kernel
theorem dJ3_checkIndex_8e157_11 : decode cJ3_checkIndex_8e157 11 = .ok (.iload_n 1, 1) := by decide +kernel
theorem dJ3_checkIndex_8e157_12 : decode cJ3_checkIndex_8e157 12 = .ok (.invokestatic 95, 3) := by decide +kernel
theorem dJ3_checkIndex_8e157_15 : decode cJ3_checkIndex_8e157 15 = .ok (.athrow, 1) := by decide +kernel
theorem dJ3_checkIndex_8e157_16 : decode cJ3_checkIndex_8e157 16 = .ok (.iload_n 0, 1) := by decide +kernel
theorem dJ3_checkIndex_8e157_17 : decode cJ3_checkIndex_8e157 17 = .ok (.ireturn, 1) := by decide +kernel
end
section
theorem dX3_init_0 : decode cX3_init 0 = .ok (.aload_n 0, 1) := by decide +kernel
theorem dX3_init_1 : decode cX3_init 1 = .ok (.invokespecial 3, 3) := by decide +kernel
theorem dX3_init_4 : decode cX3_init 4 = .ok (.aload_n 0, 1) := by decide +kernel
theorem dX3_init_5 : decode cX3_init 5 = .ok (.new 9, 3) := by decide +kernel
theorem dX3_init_8 : decode cX3_init 8 = .ok (.dup, 1) := by decide +kernel
theorem dX3_init_9 : decode cX3_init 9 = .ok (.invokespecial 11, 3) := by decide +kernel
theorem dX3_init_12 : decode cX3_init 12 = .ok (.putfield 12, 3) := by decide +kernel
theorem dX3_init_15 : decode cX3_init 15 = .ok (.aload_n 0, 1) := by decide +kernel
theorem dX3_init_16 : decode cX3_init 16 = .ok (.new 9, 3) := by decide +kernel
theorem dX3_init_19 : decode cX3_init 19 = .ok (.dup, 1) := by decide +kernel
theorem dX3_init_20 : decode cX3_init 20 = .ok (.invokespecial 11, 3) := by decide +kernel
theorem dX3_init_23 : decode cX3_init 23 = .ok (.putfield 16, 3) := by decide +kernel
theorem dX3_init_26 : decode cX3_init 26 = .ok (.aload_n 0, 1) := by decide +kernel
theorem dX3_init_27 : decode cX3_init 27 = .ok (.new 9, 3) := by decide +kernel
theorem dX3_init_30 : decode cX3_init 30 = .ok (.dup, 1) := by decide +kernel
theorem dX3_init_31 : decode cX3_init 31 = .ok (.invokespecial 11, 3) := by decide +kernel
theorem dX3_init_34 : decode cX3_init 34 = .ok (.putfield 19, 3) := by decide +kernel
theorem dX3_init_37 : decode cX3_init 37 = .ok (.aload_n 0, 1) := by decide +kernel
theorem dX3_init_38 : decode cX3_init 38 = .ok (.new 9, 3) := by decide +kernel
theorem dX3_init_41 : decode cX3_init 41 = .ok (.dup, 1) := by decide +kernel
theorem dX3_init_42 : decode cX3_init 42 = .ok (.invokespecial 11, 3) := by decide +kernel
theorem dX3_init_45 : decode cX3_init 45 = .ok (.putfield 22, 3) := by decide +kernel
theorem dX3_init_48 : decode cX3_init 48 = .ok (.aload_n 0, 1) := by decide +kernel
theorem dX3_init_49 : decode cX3_init 49 = .ok (.new 25, 3) := by decide +kernel
theorem dX3_init_52 : decode cX3_init 52 = .ok (.dup, 1) := by decide +kernel
theorem dX3_init_53 : decode cX3_init 53 = .ok (.invokespecial 27, 3) := by decide +kernel
theorem dX3_init_56 : decode cX3_init 56 = .ok (.putfield 28, 3) := by decide +kernel
theorem dX3_init_59 : decode cX3_init 59 = .ok (.aload_n 0, 1) := by decide +kernel
theorem dX3_init_60 : decode cX3_init 60 = .ok (.new 32, 3) := by decide +kernel
theorem dX3_init_63 : decode cX3_init 63 = .ok (.dup, 1) := by decide +kernel
theorem dX3_init_64 : decode cX3_init 64 = .ok (.invokespecial 34, 3) := by decide +kernel
theorem dX3_init_67 : decode cX3_init 67 = .ok (.putfield 35, 3) := by decide +kernel
theorem dX3_init_70 : decode cX3_init 70 = .ok (.aload_n 0, 1) := by decide +kernel
theorem dX3_init_71 : decode cX3_init 71 = .ok (.lconst 0, 1) := by decide +kernel
theorem dX3_init_72 : decode cX3_init 72 = .ok (.putfield 39, 3) := by decide +kernel
theorem dX3_init_75 : decode cX3_init 75 = .ok (.aload_n 0, 1) := by decide +kernel
theorem dX3_init_76 : decode cX3_init 76 = .ok (.lconst 1, 1) := by decide +kernel
theorem dX3_init_77 : decode cX3_init 77 = .ok (.putfield 43, 3) := by decide +kernel
theorem dX3_init_80 : decode cX3_init 80 = .ok (.aload_n 0, 1) := by decide +kernel
theorem dX3_init_81 : decode cX3_init 81 = .ok (.iconst 0, 1) := by decide +kernel
theorem dX3_init_82 : decode cX3_init 82 = .ok (.putfield 46, 3) := by decide +kernel
theorem dX3_init_85 : decode cX3_init 85 = .ok (.aload_n 0, 1) := by decide +kernel
theorem dX3_init_86 : decode cX3_init 86 = .ok (.iconst 0, 1) := by decide +kernel
theorem dX3_init_87 : decode cX3_init 87 = .ok (.putfield 50, 3) := by decide +kernel
theorem dX3_init_90 : decode cX3_init 90 = .ok (.aload_n 0, 1) := by decide +kernel
theorem dX3_init_91 : decode cX3_init 91 = .ok (.iconst 0, 1) := by decide +kernel
theorem dX3_init_92 : decode cX3_init 92 = .ok (.putfield 53, 3) := by decide +kernel
theorem dX3_init_95 : decode cX3_init 95 = .ok (.aload_n 0, 1) := by decide +kernel
theorem dX3_init_96 : decode cX3_init 96 = .ok (.getfield 12, 3) := by decide +kernel
theorem dX3_init_99 : decode cX3_init 99 = .ok (.iconst 0, 1) := by decide +kernel
theorem dX3_init_100 : decode cX3_init 100 = .ok (.invokevirtual 56, 3) := by decide +kernel
theorem dX3_init_103 : decode cX3_init 103 = .ok (.return_, 1) := by decide +kernel
theorem dX3_jar_0 : decode cX3_jar 0 = .ok (.iload_n 1, 1) := by decide +kernel
theorem dX3_jar_1 : decode cX3_jar 1 = .ok (.iconst 0, 1) := by decide +kernel
theorem dX3_jar_2 : decode cX3_jar 2 = .ok (.iconst 5, 1) := by decide +kernel
theorem dX3_jar_3 : decode cX3_jar 3 = .ok (.invokestatic 60, 3) := by decide +kernel
theorem dX3_jar_6 : decode cX3_jar 6 = .ok (.ifCond .ne 10, 3) := by decide +kernel
theorem dX3_jar_9 : decode cX3_jar 9 = .ok (.aload_n 0, 1) := by decide +kernel
theorem dX3_jar_10 : decode cX3_jar 10 = .ok (.bipush (-2), 2) := by decide +kernel
theorem dX3_jar_12 : decode cX3_jar 12 = .ok (.invokevirtual 64, 3) := by decide +kernel
theorem dX3_jar_15 : decode cX3_jar 15 = .ok (.ireturn, 1) := by decide +kernel
theorem dX3_jar_16 : decode cX3_jar 16 = .ok (.aload_n 0, 1) := by decide +kernel
theorem dX3_jar_17 : decode cX3_jar 17 = .ok (.getfield 12, 3) := by decide +kernel
theorem dX3_jar_20 : decode cX3_jar 20 = .ok (.getfield 68, 3) := by decide +kernel
theorem dX3_jar_23 : decode cX3_jar 23 = .ok (.istore_n 2, 1) := by decide +kernel
theorem dX3_jar_24 : decode cX3_jar 24 = .ok (.aload_n 0, 1) := by decide +kernel
theorem dX3_jar_25 : decode cX3_jar 25 = .ok (.getfield 12, 3) := by decide +kernel
theorem dX3_jar_28 : decode cX3_jar 28 = .ok (.iload_n 1, 1) := by decide +kernel
theorem dX3_jar_29 : decode cX3_jar 29 = .ok (.invokevirtual 56, 3) := by decide +kernel
theorem dX3_jar_32 : decode cX3_jar 32 = .ok (.iload_n 2, 1) := by decide +kernel
theorem dX3_jar_33 : decode cX3_jar 33 = .ok (.ireturn, 1) := by decide +kernel
theorem dX3_mood_0 : decode cX3_mood 0 = .ok (.iload_n 1, 1) := by decide +kernel
theorem dX3_mood_1 : decode cX3_mood 1 = .ok (.iconst 0, 1) := by decide +kernel
theorem dX3_mood_2 : decode cX3_mood 2 = .ok (.bipush 99, 2) := by decide +kernel
theorem dX3_mood_4 : decode cX3_mood 4 = .ok (.invokestatic 60, 3) := by decide +kernel
theorem dX3_mood_7 : decode cX3_mood 7 = .ok (.ifCond .eq 13, 3) := by decide +kernel
theorem dX3_mood_10 : decode cX3_mood 10 = .ok (.iload_n 2, 1) := by decide +kernel
theorem dX3_mood_11 : decode cX3_mood 11 = .ok (.iconst 0, 1) := by decide +kernel
theorem dX3_mood_12 : decode cX3_mood 12 = .ok (.bipush 99, 2) := by decide +kernel
theorem dX3_mood_14 : decode cX3_mood 14 = .ok (.invokestatic 60, 3) := by decide +kernel
theorem dX3_mood_17 : decode cX3_mood 17 = .ok (.ifCond .ne 10, 3) := by decide +kernel
theorem dX3_mood_20 : decode cX3_mood 20 = .ok (.aload_n 0, 1) := by decide +kernel
theorem dX3_mood_21 : decode cX3_mood 21 = .ok (.bipush (-2), 2) := by decide +kernel
theorem dX3_mood_23 : decode cX3_mood 23 = .ok (.invokevirtual 64, 3) := by decide +kernel
theorem dX3_mood_26 : decode cX3_mood 26 = .ok (.ireturn, 1) := by decide +kernel
theorem dX3_mood_27 : decode cX3_mood 27 = .ok (.iload_n 1, 1) := by decide +kernel
theorem dX3_mood_28 : decode cX3_mood 28 = .ok (.aload_n 0, 1) := by decide +kernel
theorem dX3_mood_29 : decode cX3_mood 29 = .ok (.getfield 12, 3) := by decide +kernel
theorem dX3_mood_32 : decode cX3_mood 32 = .ok (.getfield 71, 3) := by decide +kernel
theorem dX3_mood_35 : decode cX3_mood 35 = .ok (.if_icmp .lt 10, 3) := by decide +kernel
theorem dX3_mood_38 : decode cX3_mood 38 = .ok (.aload_n 0, 1) := by decide +kernel
theorem dX3_mood_39 : decode cX3_mood 39 = .ok (.bipush (-3), 2) := by decide +kernel
theorem dX3_mood_41 : decode cX3_mood 41 = .ok (.invokevirtual 64, 3) := by decide +kernel
theorem dX3_mood_44 : decode cX3_mood 44 = .ok (.ireturn, 1) := by decide +kernel
theorem dX3_mood_45 : decode cX3_mood 45 = .ok (.aload_n 0, 1) := by decide +kernel
theorem dX3_mood_46 : decode cX3_mood 46 = .ok (.getfield 12, 3) := by decide +kernel
theorem dX3_mood_49 : decode cX3_mood 49 = .ok (.iload_n 1, 1) := by decide +kernel
theorem dX3_mood_50 : decode cX3_mood 50 = .ok (.iload_n 2, 1) := by decide +kernel
theorem dX3_mood_51 : decode cX3_mood 51 = .ok (.invokevirtual 74, 3) := by decide +kernel
theorem dX3_mood_54 : decode cX3_mood 54 = .ok (.iconst 1, 1) := by decide +kernel
theorem dX3_mood_55 : decode cX3_mood 55 = .ok (.ireturn, 1) := by decide +kernel
theorem dX3_bound_0 : decode cX3_bound 0 = .ok (.iload_n 1, 1) := by decide +kernel
theorem dX3_bound_1 : decode cX3_bound 1 = .ok (.iconst 1, 1) := by decide +kernel
theorem dX3_bound_2 : decode cX3_bound 2 = .ok (.bipush 99, 2) := by decide +kernel
theorem dX3_bound_4 : decode cX3_bound 4 = .ok (.invokestatic 60, 3) := by decide +kernel
theorem dX3_bound_7 : decode cX3_bound 7 = .ok (.ifCond .eq 13, 3) := by decide +kernel
theorem dX3_bound_10 : decode cX3_bound 10 = .ok (.iload_n 2, 1) := by decide +kernel
theorem dX3_bound_11 : decode cX3_bound 11 = .ok (.iconst 1, 1) := by decide +kernel
theorem dX3_bound_12 : decode cX3_bound 12 = .ok (.bipush 99, 2) := by decide +kernel
theorem dX3_bound_14 : decode cX3_bound 14 = .ok (.invokestatic 60, 3) := by decide +kernel
theorem dX3_bound_17 : decode cX3_bound 17 = .ok (.ifCond .ne 10, 3) := by decide +kernel
theorem dX3_bound_20 : decode cX3_bound 20 = .ok (.aload_n 0, 1) := by decide +kernel
theorem dX3_bound_21 : decode cX3_bound 21 = .ok (.bipush (-2), 2) := by decide +kernel
theorem dX3_bound_23 : decode cX3_bound 23 = .ok (.invokevirtual 64, 3) := by decide +kernel
theorem dX3_bound_26 : decode cX3_bound 26 = .ok (.ireturn, 1) := by decide +kernel
theorem dX3_bound_27 : decode cX3_bound 27 = .ok (.aload_n 0, 1) := by decide +kernel
theorem dX3_bound_28 : decode cX3_bound 28 = .ok (.getfield 12, 3) := by decide +kernel
theorem dX3_bound_31 : decode cX3_bound 31 = .ok (.getfield 78, 3) := by decide +kernel
theorem dX3_bound_34 : decode cX3_bound 34 = .ok (.invokestatic 81, 3) := by decide +kernel
theorem dX3_bound_37 : decode cX3_bound 37 = .ok (.iload_n 1, 1) := by decide +kernel
theorem dX3_bound_38 : decode cX3_bound 38 = .ok (.if_icmp .lt 10, 3) := by decide +kernel
theorem dX3_bound_41 : decode cX3_bound 41 = .ok (.aload_n 0, 1) := by decide +kernel
theorem dX3_bound_42 : decode cX3_bound 42 = .ok (.bipush (-3), 2) := by decide +kernel
theorem dX3_bound_44 : decode cX3_bound 44 = .ok (.invokevirtual 64, 3) := by decide +kernel
theorem dX3_bound_47 : decode cX3_bound 47 = .ok (.ireturn, 1) := by decide +kernel
theorem dX3_bound_48 : decode cX3_bound 48 = .ok (.aload_n 0, 1) := by decide +kernel
theorem dX3_bound_49 : decode cX3_bound 49 = .ok (.getfield 12, 3) := by decide +kernel
theorem dX3_bound_52 : decode cX3_bound 52 = .ok (.iload_n 1, 1) := by decide +kernel
theorem dX3_bound_53 : decode cX3_bound 53 = .ok (.putfield 71, 3) := by decide +kernel
theorem dX3_bound_56 : decode cX3_bound 56 = .ok (.aload_n 0, 1) := by decide +kernel
theorem dX3_bound_57 : decode cX3_bound 57 = .ok (.getfield 12, 3) := by decide +kernel
theorem dX3_bound_60 : decode cX3_bound 60 = .ok (.iload_n 2, 1) := by decide +kernel
theorem dX3_bound_61 : decode cX3_bound 61 = .ok (.putfield 84, 3) := by decide +kernel
theorem dX3_bound_64 : decode cX3_bound 64 = .ok (.iconst 1, 1) := by decide +kernel
theorem dX3_bound_65 : decode cX3_bound 65 = .ok (.ireturn, 1) := by decide +kernel
theorem dX3_vow_0 : decode cX3_vow 0 = .ok (.iload_n 1, 1) := by decide +kernel
theorem dX3_vow_1 : decode cX3_vow 1 = .ok (.iconst 0, 1) := by decide +kernel
theorem dX3_vow_2 : decode cX3_vow 2 = .ok (.bipush 7, 2) := by decide +kernel
theorem dX3_vow_4 : decode cX3_vow 4 = .ok (.invokestatic 60, 3) := by decide +kernel
theorem dX3_vow_7 : decode cX3_vow 7 = .ok (.ifCond .eq 12, 3) := by decide +kernel
theorem dX3_vow_10 : decode cX3_vow 10 = .ok (.iload_n 2, 1) := by decide +kernel
theorem dX3_vow_11 : decode cX3_vow 11 = .ok (.iconst 0, 1) := by decide +kernel
theorem dX3_vow_12 : decode cX3_vow 12 = .ok (.iconst 4, 1) := by decide +kernel
theorem dX3_vow_13 : decode cX3_vow 13 = .ok (.invokestatic 60, 3) := by decide +kernel
theorem dX3_vow_16 : decode cX3_vow 16 = .ok (.ifCond .ne 10, 3) := by decide +kernel
theorem dX3_vow_19 : decode cX3_vow 19 = .ok (.aload_n 0, 1) := by decide +kernel
theorem dX3_vow_20 : decode cX3_vow 20 = .ok (.bipush (-2), 2) := by decide +kernel
theorem dX3_vow_22 : decode cX3_vow 22 = .ok (.invokevirtual 64, 3) := by decide +kernel
theorem dX3_vow_25 : decode cX3_vow 25 = .ok (.ireturn, 1) := by decide +kernel
theorem dX3_vow_26 : decode cX3_vow 26 = .ok (.aload_n 0, 1) := by decide +kernel
theorem dX3_vow_27 : decode cX3_vow 27 = .ok (.getfield 12, 3) := by decide +kernel
theorem dX3_vow_30 : decode cX3_vow 30 = .ok (.getfield 87, 3) := by decide +kernel
theorem dX3_vow_33 : decode cX3_vow 33 = .ok (.iload_n 1, 1) := by decide +kernel
theorem dX3_vow_34 : decode cX3_vow 34 = .ok (.invokestatic 91, 3) := by decide +kernel
theorem dX3_vow_37 : decode cX3_vow 37 = .ok (.istore_n 3, 1) := by decide +kernel
theorem dX3_vow_38 : decode cX3_vow 38 = .ok (.aload_n 0, 1) := by decide +kernel
theorem dX3_vow_39 : decode cX3_vow 39 = .ok (.getfield 12, 3) := by decide +kernel
theorem dX3_vow_42 : decode cX3_vow 42 = .ok (.getfield 87, 3) := by decide +kernel
theorem dX3_vow_45 : decode cX3_vow 45 = .ok (.iload_n 1, 1) := by decide +kernel
theorem dX3_vow_46 : decode cX3_vow 46 = .ok (.iload_n 2, 1) := by decide +kernel
theorem dX3_vow_47 : decode cX3_vow 47 = .ok (.invokestatic 95, 3) := by decide +kernel
theorem dX3_vow_50 : decode cX3_vow 50 = .ok (.iload_n 3, 1) := by decide +kernel
theorem dX3_vow_51 : decode cX3_vow 51 = .ok (.ireturn, 1) := by decide +kernel
theorem dX3_type_0 : decode cX3_type 0 = .ok (.iload_n 1, 1) := by decide +kernel
theorem dX3_type_1 : decode cX3_type 1 = .ok (.iconst 0, 1) := by decide +kernel
theorem dX3_type_2 : decode cX3_type 2 = .ok (.bipush 127, 2) := by decide +kernel
theorem dX3_type_4 : decode cX3_type 4 = .ok (.invokestatic 60, 3) := by decide +kernel
theorem dX3_type_7 : decode cX3_type 7 = .ok (.ifCond .ne 10, 3) := by decide +kernel
theorem dX3_type_10 : decode cX3_type 10 = .ok (.aload_n 0, 1) := by decide +kernel
theorem dX3_type_11 : decode cX3_type 11 = .ok (.bipush (-2), 2) := by decide +kernel
theorem dX3_type_13 : decode cX3_type 13 = .ok (.invokevirtual 64, 3) := by decide +kernel
theorem dX3_type_16 : decode cX3_type 16 = .ok (.ireturn, 1) := by decide +kernel
theorem dX3_type_17 : decode cX3_type 17 = .ok (.aload_n 0, 1) := by decide +kernel
theorem dX3_type_18 : decode cX3_type 18 = .ok (.getfield 28, 3) := by decide +kernel
theorem dX3_type_21 : decode cX3_type 21 = .ok (.getfield 99, 3) := by decide +kernel
theorem dX3_type_24 : decode cX3_type 24 = .ok (.sipush 150, 3) := by decide +kernel
theorem dX3_type_27 : decode cX3_type 27 = .ok (.if_icmp .lt 10, 3) := by decide +kernel
theorem dX3_type_30 : decode cX3_type 30 = .ok (.aload_n 0, 1) := by decide +kernel
theorem dX3_type_31 : decode cX3_type 31 = .ok (.bipush (-4), 2) := by decide +kernel
theorem dX3_type_33 : decode cX3_type 33 = .ok (.invokevirtual 64, 3) := by decide +kernel
theorem dX3_type_36 : decode cX3_type 36 = .ok (.ireturn, 1) := by decide +kernel
theorem dX3_type_37 : decode cX3_type 37 = .ok (.aload_n 0, 1) := by decide +kernel
theorem dX3_type_38 : decode cX3_type 38 = .ok (.getfield 28, 3) := by decide +kernel
theorem dX3_type_41 : decode cX3_type 41 = .ok (.getfield 102, 3) := by decide +kernel
theorem dX3_type_44 : decode cX3_type 44 = .ok (.aload_n 0, 1) := by decide +kernel
theorem dX3_type_45 : decode cX3_type 45 = .ok (.getfield 28, 3) := by decide +kernel
theorem dX3_type_48 : decode cX3_type 48 = .ok (.getfield 99, 3) := by decide +kernel
theorem dX3_type_51 : decode cX3_type 51 = .ok (.iload_n 1, 1) := by decide +kernel
theorem dX3_type_52 : decode cX3_type 52 = .ok (.invokestatic 95, 3) := by decide +kernel
theorem dX3_type_55 : decode cX3_type 55 = .ok (.aload_n 0, 1) := by decide +kernel
theorem dX3_type_56 : decode cX3_type 56 = .ok (.getfield 28, 3) := by decide +kernel
theorem dX3_type_59 : decode cX3_type 59 = .ok (.dup, 1) := by decide +kernel
theorem dX3_type_60 : decode cX3_type 60 = .ok (.getfield 99, 3) := by decide +kernel
theorem dX3_type_63 : decode cX3_type 63 = .ok (.iconst 1, 1) := by decide +kernel
theorem dX3_type_64 : decode cX3_type 64 = .ok (.iadd, 1) := by decide +kernel
theorem dX3_type_65 : decode cX3_type 65 = .ok (.putfield 99, 3) := by decide +kernel
theorem dX3_type_68 : decode cX3_type 68 = .ok (.aload_n 0, 1) := by decide +kernel
theorem dX3_type_69 : decode cX3_type 69 = .ok (.getfield 28, 3) := by decide +kernel
theorem dX3_type_72 : decode cX3_type 72 = .ok (.getfield 99, 3) := by decide +kernel
theorem dX3_type_75 : decode cX3_type 75 = .ok (.ireturn, 1) := by decide +kernel
theorem dX3_clear_0 : decode cX3_clear 0 = .ok (.aload_n 0, 1) := by decide +kernel
theorem dX3_clear_1 : decode cX3_clear 1 = .ok (.getfield 28, 3) := by decide +kernel
theorem dX3_clear_4 : decode cX3_clear 4 = .ok (.getfield 99, 3) := by decide +kernel
theorem dX3_clear_7 : decode cX3_clear 7 = .ok (.istore_n 1, 1) := by decide +kernel
theorem dX3_clear_8 : decode cX3_clear 8 = .ok (.aload_n 0, 1) := by decide +kernel
theorem dX3_clear_9 : decode cX3_clear 9 = .ok (.getfield 28, 3) := by decide +kernel
theorem dX3_clear_12 : decode cX3_clear 12 = .ok (.iconst 0, 1) := by decide +kernel
theorem dX3_clear_13 : decode cX3_clear 13 = .ok (.putfield 99, 3) := by decide +kernel
theorem dX3_clear_16 : decode cX3_clear 16 = .ok (.iload_n 1, 1) := by decide +kernel
theorem dX3_clear_17 : decode cX3_clear 17 = .ok (.ireturn, 1) := by decide +kernel
theorem dX3_read_0 : decode cX3_read 0 = .ok (.aload_n 0, 1) := by decide +kernel
theorem dX3_read_1 : decode cX3_read 1 = .ok (.getfield 28, 3) := by decide +kernel
theorem dX3_read_4 : decode cX3_read 4 = .ok (.aload_n 0, 1) := by decide +kernel
theorem dX3_read_5 : decode cX3_read 5 = .ok (.getfield 16, 3) := by decide +kernel
theorem dX3_read_8 : decode cX3_read 8 = .ok (.invokestatic 105, 3) := by decide +kernel
theorem dX3_read_11 : decode cX3_read 11 = .ok (.istore_n 1, 1) := by decide +kernel
theorem dX3_read_12 : decode cX3_read 12 = .ok (.iload_n 1, 1) := by decide +kernel
theorem dX3_read_13 : decode cX3_read 13 = .ok (.iconst (-1), 1) := by decide +kernel
theorem dX3_read_14 : decode cX3_read 14 = .ok (.if_icmp .ne 14, 3) := by decide +kernel
theorem dX3_read_17 : decode cX3_read 17 = .ok (.bipush (-10), 2) := by decide +kernel
theorem dX3_read_19 : decode cX3_read 19 = .ok (.aload_n 0, 1) := by decide +kernel
theorem dX3_read_20 : decode cX3_read 20 = .ok (.getfield 28, 3) := by decide +kernel
theorem dX3_read_23 : decode cX3_read 23 = .ok (.getfield 109, 3) := by decide +kernel
theorem dX3_read_26 : decode cX3_read 26 = .ok (.isub, 1) := by decide +kernel
theorem dX3_read_27 : decode cX3_read 27 = .ok (.ireturn, 1) := by decide +kernel
theorem dX3_read_28 : decode cX3_read 28 = .ok (.aload_n 0, 1) := by decide +kernel
theorem dX3_read_29 : decode cX3_read 29 = .ok (.getfield 12, 3) := by decide +kernel
theorem dX3_read_32 : decode cX3_read 32 = .ok (.aload_n 0, 1) := by decide +kernel
theorem dX3_read_33 : decode cX3_read 33 = .ok (.getfield 16, 3) := by decide +kernel
theorem dX3_read_36 : decode cX3_read 36 = .ok (.invokevirtual 112, 3) := by decide +kernel
theorem dX3_read_39 : decode cX3_read 39 = .ok (.iload_n 1, 1) := by decide +kernel
theorem dX3_read_40 : decode cX3_read 40 = .ok (.ireturn, 1) := by decide +kernel
theorem dX3_say_0 : decode cX3_say 0 = .ok (.iload_n 1, 1) := by decide +kernel
theorem dX3_say_1 : decode cX3_say 1 = .ok (.invokestatic 116, 3) := by decide +kernel
theorem dX3_say_4 : decode cX3_say 4 = .ok (.ifCond .ne 10, 3) := by decide +kernel
theorem dX3_say_7 : decode cX3_say 7 = .ok (.aload_n 0, 1) := by decide +kernel
theorem dX3_say_8 : decode cX3_say 8 = .ok (.bipush (-2), 2) := by decide +kernel
theorem dX3_say_10 : decode cX3_say 10 = .ok (.invokevirtual 64, 3) := by decide +kernel
theorem dX3_say_13 : decode cX3_say 13 = .ok (.ireturn, 1) := by decide +kernel
theorem dX3_say_14 : decode cX3_say 14 = .ok (.aload_n 0, 1) := by decide +kernel
theorem dX3_say_15 : decode cX3_say 15 = .ok (.getfield 12, 3) := by decide +kernel
theorem dX3_say_18 : decode cX3_say 18 = .ok (.getfield 78, 3) := by decide +kernel
theorem dX3_say_21 : decode cX3_say 21 = .ok (.invokestatic 120, 3) := by decide +kernel
theorem dX3_say_24 : decode cX3_say 24 = .ok (.ifCond .eq 10, 3) := by decide +kernel
theorem dX3_say_27 : decode cX3_say 27 = .ok (.aload_n 0, 1) := by decide +kernel
theorem dX3_say_28 : decode cX3_say 28 = .ok (.bipush (-3), 2) := by decide +kernel
theorem dX3_say_30 : decode cX3_say 30 = .ok (.invokevirtual 64, 3) := by decide +kernel
theorem dX3_say_33 : decode cX3_say 33 = .ok (.ireturn, 1) := by decide +kernel
theorem dX3_say_34 : decode cX3_say 34 = .ok (.aload_n 0, 1) := by decide +kernel
theorem dX3_say_35 : decode cX3_say 35 = .ok (.getfield 12, 3) := by decide +kernel
theorem dX3_say_38 : decode cX3_say 38 = .ok (.invokevirtual 123, 3) := by decide +kernel
theorem dX3_say_41 : decode cX3_say 41 = .ok (.aload_n 0, 1) := by decide +kernel
theorem dX3_say_42 : decode cX3_say 42 = .ok (.getfield 12, 3) := by decide +kernel
theorem dX3_say_45 : decode cX3_say 45 = .ok (.iload_n 1, 1) := by decide +kernel
theorem dX3_say_46 : decode cX3_say 46 = .ok (.invokevirtual 126, 3) := by decide +kernel
theorem dX3_say_49 : decode cX3_say 49 = .ok (.aload_n 0, 1) := by decide +kernel
theorem dX3_say_50 : decode cX3_say 50 = .ok (.getfield 12, 3) := by decide +kernel
theorem dX3_say_53 : decode cX3_say 53 = .ok (.getfield 78, 3) := by decide +kernel
theorem dX3_say_56 : decode cX3_say 56 = .ok (.invokestatic 120, 3) := by decide +kernel
theorem dX3_say_59 : decode cX3_say 59 = .ok (.ireturn, 1) := by decide +kernel
theorem dX3_open_0 : decode cX3_open 0 = .ok (.aload_n 0, 1) := by decide +kernel
theorem dX3_open_1 : decode cX3_open 1 = .ok (.getfield 12, 3) := by decide +kernel
theorem dX3_open_4 : decode cX3_open 4 = .ok (.getfield 78, 3) := by decide +kernel
theorem dX3_open_7 : decode cX3_open 7 = .ok (.invokestatic 120, 3) := by decide +kernel
theorem dX3_open_10 : decode cX3_open 10 = .ok (.iconst 1, 1) := by decide +kernel
theorem dX3_open_11 : decode cX3_open 11 = .ok (.if_icmp .eq 10, 3) := by decide +kernel
theorem dX3_open_14 : decode cX3_open 14 = .ok (.aload_n 0, 1) := by decide +kernel
theorem dX3_open_15 : decode cX3_open 15 = .ok (.bipush (-3), 2) := by decide +kernel
theorem dX3_open_17 : decode cX3_open 17 = .ok (.invokevirtual 64, 3) := by decide +kernel
theorem dX3_open_20 : decode cX3_open 20 = .ok (.ireturn, 1) := by decide +kernel
theorem dX3_open_21 : decode cX3_open 21 = .ok (.aload_n 0, 1) := by decide +kernel
theorem dX3_open_22 : decode cX3_open 22 = .ok (.getfield 12, 3) := by decide +kernel
theorem dX3_open_25 : decode cX3_open 25 = .ok (.getfield 78, 3) := by decide +kernel
theorem dX3_open_28 : decode cX3_open 28 = .ok (.invokestatic 129, 3) := by decide +kernel
theorem dX3_open_31 : decode cX3_open 31 = .ok (.istore_n 1, 1) := by decide +kernel
theorem dX3_open_32 : decode cX3_open 32 = .ok (.aload_n 0, 1) := by decide +kernel
theorem dX3_open_33 : decode cX3_open 33 = .ok (.getfield 12, 3) := by decide +kernel
theorem dX3_open_36 : decode cX3_open 36 = .ok (.invokevirtual 123, 3) := by decide +kernel
theorem dX3_open_39 : decode cX3_open 39 = .ok (.aload_n 0, 1) := by decide +kernel
theorem dX3_open_40 : decode cX3_open 40 = .ok (.getfield 12, 3) := by decide +kernel
theorem dX3_open_43 : decode cX3_open 43 = .ok (.aload_n 0, 1) := by decide +kernel
theorem dX3_open_44 : decode cX3_open 44 = .ok (.getfield 12, 3) := by decide +kernel
theorem dX3_open_47 : decode cX3_open 47 = .ok (.getfield 78, 3) := by decide +kernel
theorem dX3_open_50 : decode cX3_open 50 = .ok (.invokestatic 81, 3) := by decide +kernel
theorem dX3_open_53 : decode cX3_open 53 = .ok (.iconst 0, 1) := by decide +kernel
theorem dX3_open_54 : decode cX3_open 54 = .ok (.iconst 0, 1) := by decide +kernel
theorem dX3_open_55 : decode cX3_open 55 = .ok (.invokestatic 132, 3) := by decide +kernel
theorem dX3_open_58 : decode cX3_open 58 = .ok (.putfield 78, 3) := by decide +kernel
theorem dX3_open_61 : decode cX3_open 61 = .ok (.iload_n 1, 1) := by decide +kernel
theorem dX3_open_62 : decode cX3_open 62 = .ok (.ireturn, 1) := by decide +kernel
theorem dX3_undo_0 : decode cX3_undo 0 = .ok (.aload_n 0, 1) := by decide +kernel
theorem dX3_undo_1 : decode cX3_undo 1 = .ok (.getfield 12, 3) := by decide +kernel
theorem dX3_undo_4 : decode cX3_undo 4 = .ok (.getfield 135, 3) := by decide +kernel
theorem dX3_undo_7 : decode cX3_undo 7 = .ok (.iconst 1, 1) := by decide +kernel
theorem dX3_undo_8 : decode cX3_undo 8 = .ok (.if_icmp .ge 10, 3) := by decide +kernel
theorem dX3_undo_11 : decode cX3_undo 11 = .ok (.aload_n 0, 1) := by decide +kernel
theorem dX3_undo_12 : decode cX3_undo 12 = .ok (.bipush (-3), 2) := by decide +kernel
theorem dX3_undo_14 : decode cX3_undo 14 = .ok (.invokevirtual 64, 3) := by decide +kernel
theorem dX3_undo_17 : decode cX3_undo 17 = .ok (.ireturn, 1) := by decide +kernel
theorem dX3_undo_18 : decode cX3_undo 18 = .ok (.aload_n 0, 1) := by decide +kernel
theorem dX3_undo_19 : decode cX3_undo 19 = .ok (.getfield 12, 3) := by decide +kernel
theorem dX3_undo_22 : decode cX3_undo 22 = .ok (.invokevirtual 138, 3) := by decide +kernel
theorem dX3_undo_25 : decode cX3_undo 25 = .ok (.aload_n 0, 1) := by decide +kernel
theorem dX3_undo_26 : decode cX3_undo 26 = .ok (.getfield 12, 3) := by decide +kernel
theorem dX3_undo_29 : decode cX3_undo 29 = .ok (.getfield 68, 3) := by decide +kernel
theorem dX3_undo_32 : decode cX3_undo 32 = .ok (.ireturn, 1) := by decide +kernel
theorem dX3_now_0 : decode cX3_now 0 = .ok (.iload_n 1, 1) := by decide +kernel
theorem dX3_now_1 : decode cX3_now 1 = .ok (.tableswitch 108 0 6 #[43, 51, 62, 73, 81, 89, 97], 43) := by decide +kernel
theorem dX3_now_44 : decode cX3_now 44 = .ok (.aload_n 0, 1) := by decide +kernel
theorem dX3_now_45 : decode cX3_now 45 = .ok (.getfield 12, 3) := by decide +kernel
theorem dX3_now_48 : decode cX3_now 48 = .ok (.getfield 141, 3) := by decide +kernel
theorem dX3_now_51 : decode cX3_now 51 = .ok (.ireturn, 1) := by decide +kernel
theorem dX3_now_52 : decode cX3_now 52 = .ok (.aload_n 0, 1) := by decide +kernel
theorem dX3_now_53 : decode cX3_now 53 = .ok (.getfield 12, 3) := by decide +kernel
theorem dX3_now_56 : decode cX3_now 56 = .ok (.getfield 78, 3) := by decide +kernel
theorem dX3_now_59 : decode cX3_now 59 = .ok (.invokestatic 81, 3) := by decide +kernel
theorem dX3_now_62 : decode cX3_now 62 = .ok (.ireturn, 1) := by decide +kernel
theorem dX3_now_63 : decode cX3_now 63 = .ok (.aload_n 0, 1) := by decide +kernel
theorem dX3_now_64 : decode cX3_now 64 = .ok (.getfield 12, 3) := by decide +kernel
theorem dX3_now_67 : decode cX3_now 67 = .ok (.getfield 78, 3) := by decide +kernel
theorem dX3_now_70 : decode cX3_now 70 = .ok (.invokestatic 129, 3) := by decide +kernel
theorem dX3_now_73 : decode cX3_now 73 = .ok (.ireturn, 1) := by decide +kernel
theorem dX3_now_74 : decode cX3_now 74 = .ok (.aload_n 0, 1) := by decide +kernel
theorem dX3_now_75 : decode cX3_now 75 = .ok (.getfield 12, 3) := by decide +kernel
theorem dX3_now_78 : decode cX3_now 78 = .ok (.getfield 71, 3) := by decide +kernel
theorem dX3_now_81 : decode cX3_now 81 = .ok (.ireturn, 1) := by decide +kernel
theorem dX3_now_82 : decode cX3_now 82 = .ok (.aload_n 0, 1) := by decide +kernel
theorem dX3_now_83 : decode cX3_now 83 = .ok (.getfield 12, 3) := by decide +kernel
theorem dX3_now_86 : decode cX3_now 86 = .ok (.getfield 84, 3) := by decide +kernel
theorem dX3_now_89 : decode cX3_now 89 = .ok (.ireturn, 1) := by decide +kernel
theorem dX3_now_90 : decode cX3_now 90 = .ok (.aload_n 0, 1) := by decide +kernel
theorem dX3_now_91 : decode cX3_now 91 = .ok (.getfield 12, 3) := by decide +kernel
theorem dX3_now_94 : decode cX3_now 94 = .ok (.getfield 68, 3) := by decide +kernel
theorem dX3_now_97 : decode cX3_now 97 = .ok (.ireturn, 1) := by decide +kernel
theorem dX3_now_98 : decode cX3_now 98 = .ok (.aload_n 0, 1) := by decide +kernel
theorem dX3_now_99 : decode cX3_now 99 = .ok (.getfield 12, 3) := by decide +kernel
theorem dX3_now_102 : decode cX3_now 102 = .ok (.getfield 78, 3) := by decide +kernel
theorem dX3_now_105 : decode cX3_now 105 = .ok (.invokestatic 120, 3) := by decide +kernel
theorem dX3_now_108 : decode cX3_now 108 = .ok (.ireturn, 1) := by decide +kernel
theorem dX3_now_109 : decode cX3_now 109 = .ok (.aload_n 0, 1) := by decide +kernel
theorem dX3_now_110 : decode cX3_now 110 = .ok (.bipush (-2), 2) := by decide +kernel
theorem dX3_now_112 : decode cX3_now 112 = .ok (.invokevirtual 64, 3) := by decide +kernel
theorem dX3_now_115 : decode cX3_now 115 = .ok (.ireturn, 1) := by decide +kernel
theorem dX3_moves_0 : decode cX3_moves 0 = .ok (.iload_n 1, 1) := by decide +kernel
theorem dX3_moves_1 : decode cX3_moves 1 = .ok (.invokestatic 116, 3) := by decide +kernel
theorem dX3_moves_4 : decode cX3_moves 4 = .ok (.ifCond .eq 12, 3) := by decide +kernel
theorem dX3_moves_7 : decode cX3_moves 7 = .ok (.iload_n 2, 1) := by decide +kernel
theorem dX3_moves_8 : decode cX3_moves 8 = .ok (.iconst 0, 1) := by decide +kernel
theorem dX3_moves_9 : decode cX3_moves 9 = .ok (.iconst 1, 1) := by decide +kernel
theorem dX3_moves_10 : decode cX3_moves 10 = .ok (.invokestatic 60, 3) := by decide +kernel
theorem dX3_moves_13 : decode cX3_moves 13 = .ok (.ifCond .ne 10, 3) := by decide +kernel
theorem dX3_moves_16 : decode cX3_moves 16 = .ok (.aload_n 0, 1) := by decide +kernel
theorem dX3_moves_17 : decode cX3_moves 17 = .ok (.bipush (-100), 2) := by decide +kernel
theorem dX3_moves_19 : decode cX3_moves 19 = .ok (.invokevirtual 144, 3) := by decide +kernel
theorem dX3_moves_22 : decode cX3_moves 22 = .ok (.ireturn, 1) := by decide +kernel
theorem dX3_moves_23 : decode cX3_moves 23 = .ok (.iload_n 2, 1) := by decide +kernel
theorem dX3_moves_24 : decode cX3_moves 24 = .ok (.ifCond .ne 24, 3) := by decide +kernel
theorem dX3_moves_27 : decode cX3_moves 27 = .ok (.aload_n 0, 1) := by decide +kernel
theorem dX3_moves_28 : decode cX3_moves 28 = .ok (.getfield 12, 3) := by decide +kernel
theorem dX3_moves_31 : decode cX3_moves 31 = .ok (.getfield 141, 3) := by decide +kernel
theorem dX3_moves_34 : decode cX3_moves 34 = .ok (.iload_n 1, 1) := by decide +kernel
theorem dX3_moves_35 : decode cX3_moves 35 = .ok (.aload_n 0, 1) := by decide +kernel
theorem dX3_moves_36 : decode cX3_moves 36 = .ok (.getfield 12, 3) := by decide +kernel
theorem dX3_moves_39 : decode cX3_moves 39 = .ok (.getfield 68, 3) := by decide +kernel
theorem dX3_moves_42 : decode cX3_moves 42 = .ok (.invokestatic 147, 3) := by decide +kernel
theorem dX3_moves_45 : decode cX3_moves 45 = .ok (.goto 21, 3) := by decide +kernel
theorem dX3_moves_48 : decode cX3_moves 48 = .ok (.aload_n 0, 1) := by decide +kernel
theorem dX3_moves_49 : decode cX3_moves 49 = .ok (.getfield 12, 3) := by decide +kernel
theorem dX3_moves_52 : decode cX3_moves 52 = .ok (.getfield 141, 3) := by decide +kernel
theorem dX3_moves_55 : decode cX3_moves 55 = .ok (.iload_n 1, 1) := by decide +kernel
theorem dX3_moves_56 : decode cX3_moves 56 = .ok (.aload_n 0, 1) := by decide +kernel
theorem dX3_moves_57 : decode cX3_moves 57 = .ok (.getfield 12, 3) := by decide +kernel
theorem dX3_moves_60 : decode cX3_moves 60 = .ok (.getfield 68, 3) := by decide +kernel
theorem dX3_moves_63 : decode cX3_moves 63 = .ok (.invokestatic 150, 3) := by decide +kernel
theorem dX3_moves_66 : decode cX3_moves 66 = .ok (.ireturn, 1) := by decide +kernel
theorem dX3_words_0 : decode cX3_words 0 = .ok (.aload_n 0, 1) := by decide +kernel
theorem dX3_words_1 : decode cX3_words 1 = .ok (.getfield 35, 3) := by decide +kernel
theorem dX3_words_4 : decode cX3_words 4 = .ok (.iload_n 1, 1) := by decide +kernel
theorem dX3_words_5 : decode cX3_words 5 = .ok (.bipush 9, 2) := by decide +kernel
theorem dX3_words_7 : decode cX3_words 7 = .ok (.invokevirtual 153, 3) := by decide +kernel
theorem dX3_words_10 : decode cX3_words 10 = .ok (.istore_n 3, 1) := by decide +kernel
theorem dX3_words_11 : decode cX3_words 11 = .ok (.iload_n 3, 1) := by decide +kernel
theorem dX3_words_12 : decode cX3_words 12 = .ok (.iconst (-1), 1) := by decide +kernel
theorem dX3_words_13 : decode cX3_words 13 = .ok (.if_icmp .eq 12, 3) := by decide +kernel
theorem dX3_words_16 : decode cX3_words 16 = .ok (.iload_n 2, 1) := by decide +kernel
theorem dX3_words_17 : decode cX3_words 17 = .ok (.iconst 0, 1) := by decide +kernel
theorem dX3_words_18 : decode cX3_words 18 = .ok (.iconst 3, 1) := by decide +kernel
theorem dX3_words_19 : decode cX3_words 19 = .ok (.invokestatic 60, 3) := by decide +kernel
theorem dX3_words_22 : decode cX3_words 22 = .ok (.ifCond .ne 10, 3) := by decide +kernel
theorem dX3_words_25 : decode cX3_words 25 = .ok (.aload_n 0, 1) := by decide +kernel
theorem dX3_words_26 : decode cX3_words 26 = .ok (.bipush (-2), 2) := by decide +kernel
theorem dX3_words_28 : decode cX3_words 28 = .ok (.invokevirtual 64, 3) := by decide +kernel
theorem dX3_words_31 : decode cX3_words 31 = .ok (.ireturn, 1) := by decide +kernel
theorem dX3_words_32 : decode cX3_words 32 = .ok (.aload_n 0, 1) := by decide +kernel
theorem dX3_words_33 : decode cX3_words 33 = .ok (.getfield 12, 3) := by decide +kernel
theorem dX3_words_36 : decode cX3_words 36 = .ok (.getfield 78, 3) := by decide +kernel
theorem dX3_words_39 : decode cX3_words 39 = .ok (.istore 4, 2) := by decide +kernel
theorem dX3_words_41 : decode cX3_words 41 = .ok (.iconst 0, 1) := by decide +kernel
theorem dX3_words_42 : decode cX3_words 42 = .ok (.istore 5, 2) := by decide +kernel
theorem dX3_words_44 : decode cX3_words 44 = .ok (.iconst 0, 1) := by decide +kernel
theorem dX3_words_45 : decode cX3_words 45 = .ok (.istore 6, 2) := by decide +kernel
theorem dX3_words_47 : decode cX3_words 47 = .ok (.iload 6, 2) := by decide +kernel
theorem dX3_words_49 : decode cX3_words 49 = .ok (.iload_n 3, 1) := by decide +kernel
theorem dX3_words_50 : decode cX3_words 50 = .ok (.if_icmp .ge 53, 3) := by decide +kernel
theorem dX3_words_53 : decode cX3_words 53 = .ok (.iload 4, 2) := by decide +kernel
theorem dX3_words_55 : decode cX3_words 55 = .ok (.invokestatic 120, 3) := by decide +kernel
theorem dX3_words_58 : decode cX3_words 58 = .ok (.ifCond .ne 45, 3) := by decide +kernel
theorem dX3_words_61 : decode cX3_words 61 = .ok (.aload_n 0, 1) := by decide +kernel
theorem dX3_words_62 : decode cX3_words 62 = .ok (.getfield 12, 3) := by decide +kernel
theorem dX3_words_65 : decode cX3_words 65 = .ok (.iload 4, 2) := by decide +kernel
theorem dX3_words_67 : decode cX3_words 67 = .ok (.aload_n 0, 1) := by decide +kernel
theorem dX3_words_68 : decode cX3_words 68 = .ok (.getfield 12, 3) := by decide +kernel
theorem dX3_words_71 : decode cX3_words 71 = .ok (.getfield 68, 3) := by decide +kernel
theorem dX3_words_74 : decode cX3_words 74 = .ok (.iload 6, 2) := by decide +kernel
theorem dX3_words_76 : decode cX3_words 76 = .ok (.iadd, 1) := by decide +kernel
theorem dX3_words_77 : decode cX3_words 77 = .ok (.aload_n 0, 1) := by decide +kernel
theorem dX3_words_78 : decode cX3_words 78 = .ok (.getfield 35, 3) := by decide +kernel
theorem dX3_words_81 : decode cX3_words 81 = .ok (.getfield 157, 3) := by decide +kernel
theorem dX3_words_84 : decode cX3_words 84 = .ok (.iload 6, 2) := by decide +kernel
theorem dX3_words_86 : decode cX3_words 86 = .ok (.invokestatic 91, 3) := by decide +kernel
theorem dX3_words_89 : decode cX3_words 89 = .ok (.invokevirtual 160, 3) := by decide +kernel
theorem dX3_words_92 : decode cX3_words 92 = .ok (.istore 4, 2) := by decide +kernel
theorem dX3_words_94 : decode cX3_words 94 = .ok (.iinc 5 1, 3) := by decide +kernel
theorem dX3_words_97 : decode cX3_words 97 = .ok (.iinc 6 1, 3) := by decide +kernel
theorem dX3_words_100 : decode cX3_words 100 = .ok (.goto (-53), 3) := by decide +kernel
theorem dX3_words_103 : decode cX3_words 103 = .ok (.iload_n 2, 1) := by decide +kernel
theorem dX3_words_104 : decode cX3_words 104 = .ok (.tableswitch 46 0 2 #[28, 34, 40], 28) := by decide +kernel
theorem dX3_words_132 : decode cX3_words 132 = .ok (.iload 4, 2) := by decide +kernel
theorem dX3_words_134 : decode cX3_words 134 = .ok (.invokestatic 81, 3) := by decide +kernel
theorem dX3_words_137 : decode cX3_words 137 = .ok (.ireturn, 1) := by decide +kernel
theorem dX3_words_138 : decode cX3_words 138 = .ok (.iload 4, 2) := by decide +kernel
theorem dX3_words_140 : decode cX3_words 140 = .ok (.invokestatic 129, 3) := by decide +kernel
theorem dX3_words_143 : decode cX3_words 143 = .ok (.ireturn, 1) := by decide +kernel
theorem dX3_words_144 : decode cX3_words 144 = .ok (.iload 4, 2) := by decide +kernel
theorem dX3_words_146 : decode cX3_words 146 = .ok (.invokestatic 120, 3) := by decide +kernel
theorem dX3_words_149 : decode cX3_words 149 = .ok (.ireturn, 1) := by decide +kernel
theorem dX3_words_150 : decode cX3_words 150 = .ok (.iload 5, 2) := by decide +kernel
theorem dX3_words_152 : decode cX3_words 152 = .ok (.ireturn, 1) := by decide +kernel
theorem dX3_fewest_0 : decode cX3_fewest 0 = .ok (.iload_n 1, 1) := by decide +kernel
theorem dX3_fewest_1 : decode cX3_fewest 1 = .ok (.iconst (-1), 1) := by decide +kernel
theorem dX3_fewest_2 : decode cX3_fewest 2 = .ok (.if_icmp .ge 10, 3) := by decide +kernel
theorem dX3_fewest_5 : decode cX3_fewest 5 = .ok (.aload_n 0, 1) := by decide +kernel
theorem dX3_fewest_6 : decode cX3_fewest 6 = .ok (.bipush (-10), 2) := by decide +kernel
theorem dX3_fewest_8 : decode cX3_fewest 8 = .ok (.invokevirtual 144, 3) := by decide +kernel
theorem dX3_fewest_11 : decode cX3_fewest 11 = .ok (.ireturn, 1) := by decide +kernel
theorem dX3_fewest_12 : decode cX3_fewest 12 = .ok (.aload_n 0, 1) := by decide +kernel
theorem dX3_fewest_13 : decode cX3_fewest 13 = .ok (.getfield 35, 3) := by decide +kernel
theorem dX3_fewest_16 : decode cX3_fewest 16 = .ok (.aload_n 0, 1) := by decide +kernel
theorem dX3_fewest_17 : decode cX3_fewest 17 = .ok (.getfield 12, 3) := by decide +kernel
theorem dX3_fewest_20 : decode cX3_fewest 20 = .ok (.invokevirtual 163, 3) := by decide +kernel
theorem dX3_fewest_23 : decode cX3_fewest 23 = .ok (.istore_n 2, 1) := by decide +kernel
theorem dX3_fewest_24 : decode cX3_fewest 24 = .ok (.iload_n 2, 1) := by decide +kernel
theorem dX3_fewest_25 : decode cX3_fewest 25 = .ok (.iconst (-1), 1) := by decide +kernel
theorem dX3_fewest_26 : decode cX3_fewest 26 = .ok (.if_icmp .ne 7, 3) := by decide +kernel
theorem dX3_fewest_29 : decode cX3_fewest 29 = .ok (.iconst (-1), 1) := by decide +kernel
theorem dX3_fewest_30 : decode cX3_fewest 30 = .ok (.goto 9, 3) := by decide +kernel
theorem dX3_fewest_33 : decode cX3_fewest 33 = .ok (.aload_n 0, 1) := by decide +kernel
theorem dX3_fewest_34 : decode cX3_fewest 34 = .ok (.iload_n 2, 1) := by decide +kernel
theorem dX3_fewest_35 : decode cX3_fewest 35 = .ok (.iload_n 1, 1) := by decide +kernel
theorem dX3_fewest_36 : decode cX3_fewest 36 = .ok (.invokevirtual 167, 3) := by decide +kernel
theorem dX3_fewest_39 : decode cX3_fewest 39 = .ok (.ireturn, 1) := by decide +kernel
theorem dX3_delay_0 : decode cX3_delay 0 = .ok (.iload_n 1, 1) := by decide +kernel
theorem dX3_delay_1 : decode cX3_delay 1 = .ok (.iconst 0, 1) := by decide +kernel
theorem dX3_delay_2 : decode cX3_delay 2 = .ok (.iconst 1, 1) := by decide +kernel
theorem dX3_delay_3 : decode cX3_delay 3 = .ok (.invokestatic 60, 3) := by decide +kernel
theorem dX3_delay_6 : decode cX3_delay 6 = .ok (.ifCond .eq 8, 3) := by decide +kernel
theorem dX3_delay_9 : decode cX3_delay 9 = .ok (.iload_n 2, 1) := by decide +kernel
theorem dX3_delay_10 : decode cX3_delay 10 = .ok (.iconst (-1), 1) := by decide +kernel
theorem dX3_delay_11 : decode cX3_delay 11 = .ok (.if_icmp .ge 10, 3) := by decide +kernel
theorem dX3_delay_14 : decode cX3_delay 14 = .ok (.aload_n 0, 1) := by decide +kernel
theorem dX3_delay_15 : decode cX3_delay 15 = .ok (.bipush (-10), 2) := by decide +kernel
theorem dX3_delay_17 : decode cX3_delay 17 = .ok (.invokevirtual 144, 3) := by decide +kernel
theorem dX3_delay_20 : decode cX3_delay 20 = .ok (.ireturn, 1) := by decide +kernel
theorem dX3_delay_21 : decode cX3_delay 21 = .ok (.aload_n 0, 1) := by decide +kernel
theorem dX3_delay_22 : decode cX3_delay 22 = .ok (.aload_n 0, 1) := by decide +kernel
theorem dX3_delay_23 : decode cX3_delay 23 = .ok (.getfield 35, 3) := by decide +kernel
theorem dX3_delay_26 : decode cX3_delay 26 = .ok (.aload_n 0, 1) := by decide +kernel
theorem dX3_delay_27 : decode cX3_delay 27 = .ok (.getfield 12, 3) := by decide +kernel
theorem dX3_delay_30 : decode cX3_delay 30 = .ok (.iload_n 1, 1) := by decide +kernel
theorem dX3_delay_31 : decode cX3_delay 31 = .ok (.iconst 1, 1) := by decide +kernel
theorem dX3_delay_32 : decode cX3_delay 32 = .ok (.if_icmp .ne 7, 3) := by decide +kernel
theorem dX3_delay_35 : decode cX3_delay 35 = .ok (.iconst 1, 1) := by decide +kernel
theorem dX3_delay_36 : decode cX3_delay 36 = .ok (.goto 4, 3) := by decide +kernel
theorem dX3_delay_39 : decode cX3_delay 39 = .ok (.iconst 0, 1) := by decide +kernel
theorem dX3_delay_40 : decode cX3_delay 40 = .ok (.invokevirtual 170, 3) := by decide +kernel
theorem dX3_delay_43 : decode cX3_delay 43 = .ok (.iload_n 2, 1) := by decide +kernel
theorem dX3_delay_44 : decode cX3_delay 44 = .ok (.invokevirtual 167, 3) := by decide +kernel
theorem dX3_delay_47 : decode cX3_delay 47 = .ok (.ireturn, 1) := by decide +kernel
theorem dX3_strikes_0 : decode cX3_strikes 0 = .ok (.iload_n 1, 1) := by decide +kernel
theorem dX3_strikes_1 : decode cX3_strikes 1 = .ok (.invokestatic 116, 3) := by decide +kernel
theorem dX3_strikes_4 : decode cX3_strikes 4 = .ok (.ifCond .ne 10, 3) := by decide +kernel
theorem dX3_strikes_7 : decode cX3_strikes 7 = .ok (.aload_n 0, 1) := by decide +kernel
theorem dX3_strikes_8 : decode cX3_strikes 8 = .ok (.bipush (-2), 2) := by decide +kernel
theorem dX3_strikes_10 : decode cX3_strikes 10 = .ok (.invokevirtual 64, 3) := by decide +kernel
theorem dX3_strikes_13 : decode cX3_strikes 13 = .ok (.ireturn, 1) := by decide +kernel
theorem dX3_strikes_14 : decode cX3_strikes 14 = .ok (.aload_n 0, 1) := by decide +kernel
theorem dX3_strikes_15 : decode cX3_strikes 15 = .ok (.getfield 12, 3) := by decide +kernel
theorem dX3_strikes_18 : decode cX3_strikes 18 = .ok (.getfield 78, 3) := by decide +kernel
theorem dX3_strikes_21 : decode cX3_strikes 21 = .ok (.istore_n 2, 1) := by decide +kernel
theorem dX3_strikes_22 : decode cX3_strikes 22 = .ok (.iconst 0, 1) := by decide +kernel
theorem dX3_strikes_23 : decode cX3_strikes 23 = .ok (.istore_n 3, 1) := by decide +kernel
theorem dX3_strikes_24 : decode cX3_strikes 24 = .ok (.iload_n 3, 1) := by decide +kernel
theorem dX3_strikes_25 : decode cX3_strikes 25 = .ok (.bipush 60, 2) := by decide +kernel
theorem dX3_strikes_27 : decode cX3_strikes 27 = .ok (.if_icmp .ge 47, 3) := by decide +kernel
theorem dX3_strikes_30 : decode cX3_strikes 30 = .ok (.iload_n 2, 1) := by decide +kernel
theorem dX3_strikes_31 : decode cX3_strikes 31 = .ok (.invokestatic 120, 3) := by decide +kernel
theorem dX3_strikes_34 : decode cX3_strikes 34 = .ok (.ifCond .ne 40, 3) := by decide +kernel
theorem dX3_strikes_37 : decode cX3_strikes 37 = .ok (.aload_n 0, 1) := by decide +kernel
theorem dX3_strikes_38 : decode cX3_strikes 38 = .ok (.getfield 12, 3) := by decide +kernel
theorem dX3_strikes_41 : decode cX3_strikes 41 = .ok (.iload_n 2, 1) := by decide +kernel
theorem dX3_strikes_42 : decode cX3_strikes 42 = .ok (.aload_n 0, 1) := by decide +kernel
theorem dX3_strikes_43 : decode cX3_strikes 43 = .ok (.getfield 12, 3) := by decide +kernel
theorem dX3_strikes_46 : decode cX3_strikes 46 = .ok (.getfield 68, 3) := by decide +kernel
theorem dX3_strikes_49 : decode cX3_strikes 49 = .ok (.iload_n 3, 1) := by decide +kernel
theorem dX3_strikes_50 : decode cX3_strikes 50 = .ok (.iadd, 1) := by decide +kernel
theorem dX3_strikes_51 : decode cX3_strikes 51 = .ok (.iload_n 1, 1) := by decide +kernel
theorem dX3_strikes_52 : decode cX3_strikes 52 = .ok (.invokevirtual 160, 3) := by decide +kernel
theorem dX3_strikes_55 : decode cX3_strikes 55 = .ok (.istore_n 2, 1) := by decide +kernel
theorem dX3_strikes_56 : decode cX3_strikes 56 = .ok (.iload_n 2, 1) := by decide +kernel
theorem dX3_strikes_57 : decode cX3_strikes 57 = .ok (.invokestatic 120, 3) := by decide +kernel
theorem dX3_strikes_60 : decode cX3_strikes 60 = .ok (.iconst 2, 1) := by decide +kernel
theorem dX3_strikes_61 : decode cX3_strikes 61 = .ok (.if_icmp .ne 7, 3) := by decide +kernel
theorem dX3_strikes_64 : decode cX3_strikes 64 = .ok (.iload_n 3, 1) := by decide +kernel
theorem dX3_strikes_65 : decode cX3_strikes 65 = .ok (.iconst 1, 1) := by decide +kernel
theorem dX3_strikes_66 : decode cX3_strikes 66 = .ok (.iadd, 1) := by decide +kernel
theorem dX3_strikes_67 : decode cX3_strikes 67 = .ok (.ireturn, 1) := by decide +kernel
theorem dX3_strikes_68 : decode cX3_strikes 68 = .ok (.iinc 3 1, 3) := by decide +kernel
theorem dX3_strikes_71 : decode cX3_strikes 71 = .ok (.goto (-47), 3) := by decide +kernel
theorem dX3_strikes_74 : decode cX3_strikes 74 = .ok (.iconst (-1), 1) := by decide +kernel
theorem dX3_strikes_75 : decode cX3_strikes 75 = .ok (.ireturn, 1) := by decide +kernel
theorem dX3_since_0 : decode cX3_since 0 = .ok (.iload_n 1, 1) := by decide +kernel
theorem dX3_since_1 : decode cX3_since 1 = .ok (.iconst 0, 1) := by decide +kernel
theorem dX3_since_2 : decode cX3_since 2 = .ok (.iconst 4, 1) := by decide +kernel
theorem dX3_since_3 : decode cX3_since 3 = .ok (.invokestatic 60, 3) := by decide +kernel
theorem dX3_since_6 : decode cX3_since 6 = .ok (.ifCond .ne 10, 3) := by decide +kernel
theorem dX3_since_9 : decode cX3_since 9 = .ok (.aload_n 0, 1) := by decide +kernel
theorem dX3_since_10 : decode cX3_since 10 = .ok (.bipush (-2), 2) := by decide +kernel
theorem dX3_since_12 : decode cX3_since 12 = .ok (.invokevirtual 64, 3) := by decide +kernel
theorem dX3_since_15 : decode cX3_since 15 = .ok (.ireturn, 1) := by decide +kernel
theorem dX3_since_16 : decode cX3_since 16 = .ok (.iconst 0, 1) := by decide +kernel
theorem dX3_since_17 : decode cX3_since 17 = .ok (.istore_n 2, 1) := by decide +kernel
theorem dX3_since_18 : decode cX3_since 18 = .ok (.iconst 0, 1) := by decide +kernel
theorem dX3_since_19 : decode cX3_since 19 = .ok (.istore_n 3, 1) := by decide +kernel
theorem dX3_since_20 : decode cX3_since 20 = .ok (.iload_n 3, 1) := by decide +kernel
theorem dX3_since_21 : decode cX3_since 21 = .ok (.bipush 8, 2) := by decide +kernel
theorem dX3_since_23 : decode cX3_since 23 = .ok (.if_icmp .ge 30, 3) := by decide +kernel
theorem dX3_since_26 : decode cX3_since 26 = .ok (.aload_n 0, 1) := by decide +kernel
theorem dX3_since_27 : decode cX3_since 27 = .ok (.getfield 12, 3) := by decide +kernel
theorem dX3_since_30 : decode cX3_since 30 = .ok (.getfield 87, 3) := by decide +kernel
theorem dX3_since_33 : decode cX3_since 33 = .ok (.iload_n 3, 1) := by decide +kernel
theorem dX3_since_34 : decode cX3_since 34 = .ok (.invokestatic 91, 3) := by decide +kernel
theorem dX3_since_37 : decode cX3_since 37 = .ok (.iload_n 1, 1) := by decide +kernel
theorem dX3_since_38 : decode cX3_since 38 = .ok (.if_icmp .ne 9, 3) := by decide +kernel
theorem dX3_since_41 : decode cX3_since 41 = .ok (.iload_n 2, 1) := by decide +kernel
theorem dX3_since_42 : decode cX3_since 42 = .ok (.iconst 1, 1) := by decide +kernel
theorem dX3_since_43 : decode cX3_since 43 = .ok (.iload_n 3, 1) := by decide +kernel
theorem dX3_since_44 : decode cX3_since 44 = .ok (.ishl, 1) := by decide +kernel
theorem dX3_since_45 : decode cX3_since 45 = .ok (.ior, 1) := by decide +kernel
theorem dX3_since_46 : decode cX3_since 46 = .ok (.istore_n 2, 1) := by decide +kernel
theorem dX3_since_47 : decode cX3_since 47 = .ok (.iinc 3 1, 3) := by decide +kernel
theorem dX3_since_50 : decode cX3_since 50 = .ok (.goto (-30), 3) := by decide +kernel
theorem dX3_since_53 : decode cX3_since 53 = .ok (.iload_n 2, 1) := by decide +kernel
theorem dX3_since_54 : decode cX3_since 54 = .ok (.ireturn, 1) := by decide +kernel
theorem dX3_cast_0 : decode cX3_cast 0 = .ok (.iload_n 1, 1) := by decide +kernel
theorem dX3_cast_1 : decode cX3_cast 1 = .ok (.iconst 0, 1) := by decide +kernel
theorem dX3_cast_2 : decode cX3_cast 2 = .ok (.iconst 4, 1) := by decide +kernel
theorem dX3_cast_3 : decode cX3_cast 3 = .ok (.invokestatic 60, 3) := by decide +kernel
theorem dX3_cast_6 : decode cX3_cast 6 = .ok (.ifCond .ne 10, 3) := by decide +kernel
theorem dX3_cast_9 : decode cX3_cast 9 = .ok (.aload_n 0, 1) := by decide +kernel
theorem dX3_cast_10 : decode cX3_cast 10 = .ok (.bipush (-2), 2) := by decide +kernel
theorem dX3_cast_12 : decode cX3_cast 12 = .ok (.invokevirtual 64, 3) := by decide +kernel
theorem dX3_cast_15 : decode cX3_cast 15 = .ok (.ireturn, 1) := by decide +kernel
theorem dX3_cast_16 : decode cX3_cast 16 = .ok (.bipush 8, 2) := by decide +kernel
theorem dX3_cast_18 : decode cX3_cast 18 = .ok (.istore_n 2, 1) := by decide +kernel
theorem dX3_cast_19 : decode cX3_cast 19 = .ok (.bipush 7, 2) := by decide +kernel
theorem dX3_cast_21 : decode cX3_cast 21 = .ok (.istore_n 3, 1) := by decide +kernel
theorem dX3_cast_22 : decode cX3_cast 22 = .ok (.iload_n 3, 1) := by decide +kernel
theorem dX3_cast_23 : decode cX3_cast 23 = .ok (.ifCond .lt 26, 3) := by decide +kernel
theorem dX3_cast_26 : decode cX3_cast 26 = .ok (.aload_n 0, 1) := by decide +kernel
theorem dX3_cast_27 : decode cX3_cast 27 = .ok (.getfield 12, 3) := by decide +kernel
theorem dX3_cast_30 : decode cX3_cast 30 = .ok (.getfield 87, 3) := by decide +kernel
theorem dX3_cast_33 : decode cX3_cast 33 = .ok (.iload_n 3, 1) := by decide +kernel
theorem dX3_cast_34 : decode cX3_cast 34 = .ok (.invokestatic 91, 3) := by decide +kernel
theorem dX3_cast_37 : decode cX3_cast 37 = .ok (.iload_n 1, 1) := by decide +kernel
theorem dX3_cast_38 : decode cX3_cast 38 = .ok (.if_icmp .lt 11, 3) := by decide +kernel
theorem dX3_cast_41 : decode cX3_cast 41 = .ok (.iload_n 3, 1) := by decide +kernel
theorem dX3_cast_42 : decode cX3_cast 42 = .ok (.istore_n 2, 1) := by decide +kernel
theorem dX3_cast_43 : decode cX3_cast 43 = .ok (.iinc 3 (-1), 3) := by decide +kernel
theorem dX3_cast_46 : decode cX3_cast 46 = .ok (.goto (-24), 3) := by decide +kernel
theorem dX3_cast_49 : decode cX3_cast 49 = .ok (.iload_n 2, 1) := by decide +kernel
theorem dX3_cast_50 : decode cX3_cast 50 = .ok (.bipush 8, 2) := by decide +kernel
theorem dX3_cast_52 : decode cX3_cast 52 = .ok (.if_icmp .ne 7, 3) := by decide +kernel
theorem dX3_cast_55 : decode cX3_cast 55 = .ok (.iconst (-1), 1) := by decide +kernel
theorem dX3_cast_56 : decode cX3_cast 56 = .ok (.goto 4, 3) := by decide +kernel
theorem dX3_cast_59 : decode cX3_cast 59 = .ok (.iload_n 2, 1) := by decide +kernel
theorem dX3_cast_60 : decode cX3_cast 60 = .ok (.ireturn, 1) := by decide +kernel
theorem dX3_reward_0 : decode cX3_reward 0 = .ok (.iload_n 1, 1) := by decide +kernel
theorem dX3_reward_1 : decode cX3_reward 1 = .ok (.iconst 0, 1) := by decide +kernel
theorem dX3_reward_2 : decode cX3_reward 2 = .ok (.bipush 7, 2) := by decide +kernel
theorem dX3_reward_4 : decode cX3_reward 4 = .ok (.invokestatic 60, 3) := by decide +kernel
theorem dX3_reward_7 : decode cX3_reward 7 = .ok (.ifCond .ne 10, 3) := by decide +kernel
theorem dX3_reward_10 : decode cX3_reward 10 = .ok (.aload_n 0, 1) := by decide +kernel
theorem dX3_reward_11 : decode cX3_reward 11 = .ok (.bipush (-2), 2) := by decide +kernel
theorem dX3_reward_13 : decode cX3_reward 13 = .ok (.invokevirtual 64, 3) := by decide +kernel
theorem dX3_reward_16 : decode cX3_reward 16 = .ok (.ireturn, 1) := by decide +kernel
theorem dX3_reward_17 : decode cX3_reward 17 = .ok (.iconst 0, 1) := by decide +kernel
theorem dX3_reward_18 : decode cX3_reward 18 = .ok (.istore_n 2, 1) := by decide +kernel
theorem dX3_reward_19 : decode cX3_reward 19 = .ok (.iload_n 1, 1) := by decide +kernel
theorem dX3_reward_20 : decode cX3_reward 20 = .ok (.istore_n 3, 1) := by decide +kernel
theorem dX3_reward_21 : decode cX3_reward 21 = .ok (.iload_n 3, 1) := by decide +kernel
theorem dX3_reward_22 : decode cX3_reward 22 = .ok (.bipush 8, 2) := by decide +kernel
theorem dX3_reward_24 : decode cX3_reward 24 = .ok (.if_icmp .ge 38, 3) := by decide +kernel
theorem dX3_reward_27 : decode cX3_reward 27 = .ok (.aload_n 0, 1) := by decide +kernel
theorem dX3_reward_28 : decode cX3_reward 28 = .ok (.getfield 12, 3) := by decide +kernel
theorem dX3_reward_31 : decode cX3_reward 31 = .ok (.getfield 87, 3) := by decide +kernel
theorem dX3_reward_34 : decode cX3_reward 34 = .ok (.iload_n 3, 1) := by decide +kernel
theorem dX3_reward_35 : decode cX3_reward 35 = .ok (.invokestatic 91, 3) := by decide +kernel
theorem dX3_reward_38 : decode cX3_reward 38 = .ok (.istore 4, 2) := by decide +kernel
theorem dX3_reward_40 : decode cX3_reward 40 = .ok (.iload_n 2, 1) := by decide +kernel
theorem dX3_reward_41 : decode cX3_reward 41 = .ok (.iload 4, 2) := by decide +kernel
theorem dX3_reward_43 : decode cX3_reward 43 = .ok (.iconst 4, 1) := by decide +kernel
theorem dX3_reward_44 : decode cX3_reward 44 = .ok (.if_icmp .ne 8, 3) := by decide +kernel
theorem dX3_reward_47 : decode cX3_reward 47 = .ok (.bipush (-4), 2) := by decide +kernel
theorem dX3_reward_49 : decode cX3_reward 49 = .ok (.goto 5, 3) := by decide +kernel
theorem dX3_reward_52 : decode cX3_reward 52 = .ok (.iload 4, 2) := by decide +kernel
theorem dX3_reward_54 : decode cX3_reward 54 = .ok (.iadd, 1) := by decide +kernel
theorem dX3_reward_55 : decode cX3_reward 55 = .ok (.istore_n 2, 1) := by decide +kernel
theorem dX3_reward_56 : decode cX3_reward 56 = .ok (.iinc 3 1, 3) := by decide +kernel
theorem dX3_reward_59 : decode cX3_reward 59 = .ok (.goto (-38), 3) := by decide +kernel
theorem dX3_reward_62 : decode cX3_reward 62 = .ok (.aload_n 0, 1) := by decide +kernel
theorem dX3_reward_63 : decode cX3_reward 63 = .ok (.iload_n 2, 1) := by decide +kernel
theorem dX3_reward_64 : decode cX3_reward 64 = .ok (.i2l, 1) := by decide +kernel
theorem dX3_reward_65 : decode cX3_reward 65 = .ok (.bipush 8, 2) := by decide +kernel
theorem dX3_reward_67 : decode cX3_reward 67 = .ok (.iload_n 1, 1) := by decide +kernel
theorem dX3_reward_68 : decode cX3_reward 68 = .ok (.isub, 1) := by decide +kernel
theorem dX3_reward_69 : decode cX3_reward 69 = .ok (.i2l, 1) := by decide +kernel
theorem dX3_reward_70 : decode cX3_reward 70 = .ok (.invokevirtual 174, 3) := by decide +kernel
theorem dX3_reward_73 : decode cX3_reward 73 = .ok (.iconst 1, 1) := by decide +kernel
theorem dX3_reward_74 : decode cX3_reward 74 = .ok (.ireturn, 1) := by decide +kernel
theorem dX3_note_0 : decode cX3_note 0 = .ok (.iload_n 1, 1) := by decide +kernel
theorem dX3_note_1 : decode cX3_note 1 = .ok (.invokestatic 116, 3) := by decide +kernel
theorem dX3_note_4 : decode cX3_note 4 = .ok (.ifCond .eq 13, 3) := by decide +kernel
theorem dX3_note_7 : decode cX3_note 7 = .ok (.iload_n 2, 1) := by decide +kernel
theorem dX3_note_8 : decode cX3_note 8 = .ok (.iconst 0, 1) := by decide +kernel
theorem dX3_note_9 : decode cX3_note 9 = .ok (.bipush 99, 2) := by decide +kernel
theorem dX3_note_11 : decode cX3_note 11 = .ok (.invokestatic 60, 3) := by decide +kernel
theorem dX3_note_14 : decode cX3_note 14 = .ok (.ifCond .ne 10, 3) := by decide +kernel
theorem dX3_note_17 : decode cX3_note 17 = .ok (.aload_n 0, 1) := by decide +kernel
theorem dX3_note_18 : decode cX3_note 18 = .ok (.bipush (-2), 2) := by decide +kernel
theorem dX3_note_20 : decode cX3_note 20 = .ok (.invokevirtual 64, 3) := by decide +kernel
theorem dX3_note_23 : decode cX3_note 23 = .ok (.ireturn, 1) := by decide +kernel
theorem dX3_note_24 : decode cX3_note 24 = .ok (.iload_n 3, 1) := by decide +kernel
theorem dX3_note_25 : decode cX3_note 25 = .ok (.bipush (-20), 2) := by decide +kernel
theorem dX3_note_27 : decode cX3_note 27 = .ok (.bipush 20, 2) := by decide +kernel
theorem dX3_note_29 : decode cX3_note 29 = .ok (.invokestatic 60, 3) := by decide +kernel
theorem dX3_note_32 : decode cX3_note 32 = .ok (.ifCond .eq 15, 3) := by decide +kernel
theorem dX3_note_35 : decode cX3_note 35 = .ok (.iload 4, 2) := by decide +kernel
theorem dX3_note_37 : decode cX3_note 37 = .ok (.bipush (-20), 2) := by decide +kernel
theorem dX3_note_39 : decode cX3_note 39 = .ok (.bipush 20, 2) := by decide +kernel
theorem dX3_note_41 : decode cX3_note 41 = .ok (.invokestatic 60, 3) := by decide +kernel
theorem dX3_note_44 : decode cX3_note 44 = .ok (.ifCond .ne 10, 3) := by decide +kernel
theorem dX3_note_47 : decode cX3_note 47 = .ok (.aload_n 0, 1) := by decide +kernel
theorem dX3_note_48 : decode cX3_note 48 = .ok (.bipush (-2), 2) := by decide +kernel
theorem dX3_note_50 : decode cX3_note 50 = .ok (.invokevirtual 64, 3) := by decide +kernel
theorem dX3_note_53 : decode cX3_note 53 = .ok (.ireturn, 1) := by decide +kernel
theorem dX3_note_54 : decode cX3_note 54 = .ok (.aload_n 0, 1) := by decide +kernel
theorem dX3_note_55 : decode cX3_note 55 = .ok (.getfield 12, 3) := by decide +kernel
theorem dX3_note_58 : decode cX3_note 58 = .ok (.getfield 178, 3) := by decide +kernel
theorem dX3_note_61 : decode cX3_note 61 = .ok (.bipush 6, 2) := by decide +kernel
theorem dX3_note_63 : decode cX3_note 63 = .ok (.if_icmp .lt 10, 3) := by decide +kernel
theorem dX3_note_66 : decode cX3_note 66 = .ok (.aload_n 0, 1) := by decide +kernel
theorem dX3_note_67 : decode cX3_note 67 = .ok (.bipush (-4), 2) := by decide +kernel
theorem dX3_note_69 : decode cX3_note 69 = .ok (.invokevirtual 64, 3) := by decide +kernel
theorem dX3_note_72 : decode cX3_note 72 = .ok (.ireturn, 1) := by decide +kernel
theorem dX3_note_73 : decode cX3_note 73 = .ok (.aload_n 0, 1) := by decide +kernel
theorem dX3_note_74 : decode cX3_note 74 = .ok (.getfield 12, 3) := by decide +kernel
theorem dX3_note_77 : decode cX3_note 77 = .ok (.iload_n 1, 1) := by decide +kernel
theorem dX3_note_78 : decode cX3_note 78 = .ok (.iload_n 2, 1) := by decide +kernel
theorem dX3_note_79 : decode cX3_note 79 = .ok (.iload_n 3, 1) := by decide +kernel
theorem dX3_note_80 : decode cX3_note 80 = .ok (.iload 4, 2) := by decide +kernel
theorem dX3_note_82 : decode cX3_note 82 = .ok (.invokevirtual 181, 3) := by decide +kernel
theorem dX3_note_85 : decode cX3_note 85 = .ok (.aload_n 0, 1) := by decide +kernel
theorem dX3_note_86 : decode cX3_note 86 = .ok (.getfield 12, 3) := by decide +kernel
theorem dX3_note_89 : decode cX3_note 89 = .ok (.getfield 178, 3) := by decide +kernel
theorem dX3_note_92 : decode cX3_note 92 = .ok (.ireturn, 1) := by decide +kernel
theorem dX3_forget_0 : decode cX3_forget 0 = .ok (.aload_n 0, 1) := by decide +kernel
theorem dX3_forget_1 : decode cX3_forget 1 = .ok (.getfield 12, 3) := by decide +kernel
theorem dX3_forget_4 : decode cX3_forget 4 = .ok (.getfield 178, 3) := by decide +kernel
theorem dX3_forget_7 : decode cX3_forget 7 = .ok (.istore_n 1, 1) := by decide +kernel
theorem dX3_forget_8 : decode cX3_forget 8 = .ok (.aload_n 0, 1) := by decide +kernel
theorem dX3_forget_9 : decode cX3_forget 9 = .ok (.getfield 12, 3) := by decide +kernel
theorem dX3_forget_12 : decode cX3_forget 12 = .ok (.iconst 0, 1) := by decide +kernel
theorem dX3_forget_13 : decode cX3_forget 13 = .ok (.putfield 178, 3) := by decide +kernel
theorem dX3_forget_16 : decode cX3_forget 16 = .ok (.iload_n 1, 1) := by decide +kernel
theorem dX3_forget_17 : decode cX3_forget 17 = .ok (.ireturn, 1) := by decide +kernel
theorem dX3_is_0 : decode cX3_is 0 = .ok (.iconst 0, 1) := by decide +kernel
theorem dX3_is_1 : decode cX3_is 1 = .ok (.istore_n 1, 1) := by decide +kernel
theorem dX3_is_2 : decode cX3_is 2 = .ok (.iconst 0, 1) := by decide +kernel
theorem dX3_is_3 : decode cX3_is 3 = .ok (.istore_n 2, 1) := by decide +kernel
theorem dX3_is_4 : decode cX3_is 4 = .ok (.iload_n 2, 1) := by decide +kernel
theorem dX3_is_5 : decode cX3_is 5 = .ok (.bipush 6, 2) := by decide +kernel
theorem dX3_is_7 : decode cX3_is 7 = .ok (.if_icmp .ge 26, 3) := by decide +kernel
theorem dX3_is_10 : decode cX3_is 10 = .ok (.aload_n 0, 1) := by decide +kernel
theorem dX3_is_11 : decode cX3_is 11 = .ok (.getfield 12, 3) := by decide +kernel
theorem dX3_is_14 : decode cX3_is 14 = .ok (.iload_n 2, 1) := by decide +kernel
theorem dX3_is_15 : decode cX3_is 15 = .ok (.invokevirtual 185, 3) := by decide +kernel
theorem dX3_is_18 : decode cX3_is 18 = .ok (.ifCond .eq 9, 3) := by decide +kernel
theorem dX3_is_21 : decode cX3_is 21 = .ok (.iload_n 1, 1) := by decide +kernel
theorem dX3_is_22 : decode cX3_is 22 = .ok (.iconst 1, 1) := by decide +kernel
theorem dX3_is_23 : decode cX3_is 23 = .ok (.iload_n 2, 1) := by decide +kernel
theorem dX3_is_24 : decode cX3_is 24 = .ok (.ishl, 1) := by decide +kernel
theorem dX3_is_25 : decode cX3_is 25 = .ok (.ior, 1) := by decide +kernel
theorem dX3_is_26 : decode cX3_is 26 = .ok (.istore_n 1, 1) := by decide +kernel
theorem dX3_is_27 : decode cX3_is 27 = .ok (.iinc 2 1, 3) := by decide +kernel
theorem dX3_is_30 : decode cX3_is 30 = .ok (.goto (-26), 3) := by decide +kernel
theorem dX3_is_33 : decode cX3_is 33 = .ok (.iload_n 1, 1) := by decide +kernel
theorem dX3_is_34 : decode cX3_is 34 = .ok (.ireturn, 1) := by decide +kernel
theorem dX3_next_0 : decode cX3_next 0 = .ok (.aload_n 0, 1) := by decide +kernel
theorem dX3_next_1 : decode cX3_next 1 = .ok (.invokevirtual 188, 3) := by decide +kernel
theorem dX3_next_4 : decode cX3_next 4 = .ok (.istore_n 1, 1) := by decide +kernel
theorem dX3_next_5 : decode cX3_next 5 = .ok (.iconst (-1), 1) := by decide +kernel
theorem dX3_next_6 : decode cX3_next 6 = .ok (.istore_n 2, 1) := by decide +kernel
theorem dX3_next_7 : decode cX3_next 7 = .ok (.bipush 7, 2) := by decide +kernel
theorem dX3_next_9 : decode cX3_next 9 = .ok (.istore_n 3, 1) := by decide +kernel
theorem dX3_next_10 : decode cX3_next 10 = .ok (.iconst 0, 1) := by decide +kernel
theorem dX3_next_11 : decode cX3_next 11 = .ok (.istore 4, 2) := by decide +kernel
theorem dX3_next_13 : decode cX3_next 13 = .ok (.iload 4, 2) := by decide +kernel
theorem dX3_next_15 : decode cX3_next 15 = .ok (.bipush 6, 2) := by decide +kernel
theorem dX3_next_17 : decode cX3_next 17 = .ok (.if_icmp .ge 40, 3) := by decide +kernel
theorem dX3_next_20 : decode cX3_next 20 = .ok (.iload_n 1, 1) := by decide +kernel
theorem dX3_next_21 : decode cX3_next 21 = .ok (.ifCond .eq 36, 3) := by decide +kernel
theorem dX3_next_24 : decode cX3_next 24 = .ok (.iload_n 1, 1) := by decide +kernel
theorem dX3_next_25 : decode cX3_next 25 = .ok (.iload 4, 2) := by decide +kernel
theorem dX3_next_27 : decode cX3_next 27 = .ok (.aload_n 0, 1) := by decide +kernel
theorem dX3_next_28 : decode cX3_next 28 = .ok (.getfield 12, 3) := by decide +kernel
theorem dX3_next_31 : decode cX3_next 31 = .ok (.getfield 68, 3) := by decide +kernel
theorem dX3_next_34 : decode cX3_next 34 = .ok (.invokestatic 192, 3) := by decide +kernel
theorem dX3_next_37 : decode cX3_next 37 = .ok (.istore 5, 2) := by decide +kernel
theorem dX3_next_39 : decode cX3_next 39 = .ok (.iload 5, 2) := by decide +kernel
theorem dX3_next_41 : decode cX3_next 41 = .ok (.iload_n 3, 1) := by decide +kernel
theorem dX3_next_42 : decode cX3_next 42 = .ok (.if_icmp .ge 9, 3) := by decide +kernel
theorem dX3_next_45 : decode cX3_next 45 = .ok (.iload 5, 2) := by decide +kernel
theorem dX3_next_47 : decode cX3_next 47 = .ok (.istore_n 3, 1) := by decide +kernel
theorem dX3_next_48 : decode cX3_next 48 = .ok (.iload 4, 2) := by decide +kernel
theorem dX3_next_50 : decode cX3_next 50 = .ok (.istore_n 2, 1) := by decide +kernel
theorem dX3_next_51 : decode cX3_next 51 = .ok (.iinc 4 1, 3) := by decide +kernel
theorem dX3_next_54 : decode cX3_next 54 = .ok (.goto (-41), 3) := by decide +kernel
theorem dX3_next_57 : decode cX3_next 57 = .ok (.iload_n 2, 1) := by decide +kernel
theorem dX3_next_58 : decode cX3_next 58 = .ok (.ireturn, 1) := by decide +kernel
theorem dX3_lie_0 : decode cX3_lie 0 = .ok (.iload_n 1, 1) := by decide +kernel
theorem dX3_lie_1 : decode cX3_lie 1 = .ok (.invokestatic 116, 3) := by decide +kernel
theorem dX3_lie_4 : decode cX3_lie 4 = .ok (.ifCond .ne 10, 3) := by decide +kernel
theorem dX3_lie_7 : decode cX3_lie 7 = .ok (.aload_n 0, 1) := by decide +kernel
theorem dX3_lie_8 : decode cX3_lie 8 = .ok (.bipush (-2), 2) := by decide +kernel
theorem dX3_lie_10 : decode cX3_lie 10 = .ok (.invokevirtual 64, 3) := by decide +kernel
theorem dX3_lie_13 : decode cX3_lie 13 = .ok (.ireturn, 1) := by decide +kernel
theorem dX3_lie_14 : decode cX3_lie 14 = .ok (.aload_n 0, 1) := by decide +kernel
theorem dX3_lie_15 : decode cX3_lie 15 = .ok (.getfield 12, 3) := by decide +kernel
theorem dX3_lie_18 : decode cX3_lie 18 = .ok (.getfield 78, 3) := by decide +kernel
theorem dX3_lie_21 : decode cX3_lie 21 = .ok (.invokestatic 120, 3) := by decide +kernel
theorem dX3_lie_24 : decode cX3_lie 24 = .ok (.ifCond .eq 10, 3) := by decide +kernel
theorem dX3_lie_27 : decode cX3_lie 27 = .ok (.aload_n 0, 1) := by decide +kernel
theorem dX3_lie_28 : decode cX3_lie 28 = .ok (.bipush (-3), 2) := by decide +kernel
theorem dX3_lie_30 : decode cX3_lie 30 = .ok (.invokevirtual 64, 3) := by decide +kernel
theorem dX3_lie_33 : decode cX3_lie 33 = .ok (.ireturn, 1) := by decide +kernel
theorem dX3_lie_34 : decode cX3_lie 34 = .ok (.iconst 0, 1) := by decide +kernel
theorem dX3_lie_35 : decode cX3_lie 35 = .ok (.istore_n 2, 1) := by decide +kernel
theorem dX3_lie_36 : decode cX3_lie 36 = .ok (.iconst 0, 1) := by decide +kernel
theorem dX3_lie_37 : decode cX3_lie 37 = .ok (.istore_n 3, 1) := by decide +kernel
theorem dX3_lie_38 : decode cX3_lie 38 = .ok (.iload_n 3, 1) := by decide +kernel
theorem dX3_lie_39 : decode cX3_lie 39 = .ok (.iconst 4, 1) := by decide +kernel
theorem dX3_lie_40 : decode cX3_lie 40 = .ok (.if_icmp .ge 49, 3) := by decide +kernel
theorem dX3_lie_43 : decode cX3_lie 43 = .ok (.aload_n 0, 1) := by decide +kernel
theorem dX3_lie_44 : decode cX3_lie 44 = .ok (.iload_n 1, 1) := by decide +kernel
theorem dX3_lie_45 : decode cX3_lie 45 = .ok (.iload_n 3, 1) := by decide +kernel
theorem dX3_lie_46 : decode cX3_lie 46 = .ok (.invokevirtual 195, 3) := by decide +kernel
theorem dX3_lie_49 : decode cX3_lie 49 = .ok (.istore 4, 2) := by decide +kernel
theorem dX3_lie_51 : decode cX3_lie 51 = .ok (.iload 4, 2) := by decide +kernel
theorem dX3_lie_53 : decode cX3_lie 53 = .ok (.aload_n 0, 1) := by decide +kernel
theorem dX3_lie_54 : decode cX3_lie 54 = .ok (.iload_n 1, 1) := by decide +kernel
theorem dX3_lie_55 : decode cX3_lie 55 = .ok (.iload_n 3, 1) := by decide +kernel
theorem dX3_lie_56 : decode cX3_lie 56 = .ok (.iconst 1, 1) := by decide +kernel
theorem dX3_lie_57 : decode cX3_lie 57 = .ok (.ixor, 1) := by decide +kernel
theorem dX3_lie_58 : decode cX3_lie 58 = .ok (.invokevirtual 195, 3) := by decide +kernel
theorem dX3_lie_61 : decode cX3_lie 61 = .ok (.if_icmp .lt 22, 3) := by decide +kernel
theorem dX3_lie_64 : decode cX3_lie 64 = .ok (.iload 4, 2) := by decide +kernel
theorem dX3_lie_66 : decode cX3_lie 66 = .ok (.aload_n 0, 1) := by decide +kernel
theorem dX3_lie_67 : decode cX3_lie 67 = .ok (.iload_n 1, 1) := by decide +kernel
theorem dX3_lie_68 : decode cX3_lie 68 = .ok (.iload_n 3, 1) := by decide +kernel
theorem dX3_lie_69 : decode cX3_lie 69 = .ok (.iconst 2, 1) := by decide +kernel
theorem dX3_lie_70 : decode cX3_lie 70 = .ok (.ixor, 1) := by decide +kernel
theorem dX3_lie_71 : decode cX3_lie 71 = .ok (.invokevirtual 195, 3) := by decide +kernel
theorem dX3_lie_74 : decode cX3_lie 74 = .ok (.if_icmp .gt 9, 3) := by decide +kernel
theorem dX3_lie_77 : decode cX3_lie 77 = .ok (.iload_n 2, 1) := by decide +kernel
theorem dX3_lie_78 : decode cX3_lie 78 = .ok (.iconst 1, 1) := by decide +kernel
theorem dX3_lie_79 : decode cX3_lie 79 = .ok (.iload_n 3, 1) := by decide +kernel
theorem dX3_lie_80 : decode cX3_lie 80 = .ok (.ishl, 1) := by decide +kernel
theorem dX3_lie_81 : decode cX3_lie 81 = .ok (.ior, 1) := by decide +kernel
theorem dX3_lie_82 : decode cX3_lie 82 = .ok (.istore_n 2, 1) := by decide +kernel
theorem dX3_lie_83 : decode cX3_lie 83 = .ok (.iinc 3 1, 3) := by decide +kernel
theorem dX3_lie_86 : decode cX3_lie 86 = .ok (.goto (-48), 3) := by decide +kernel
theorem dX3_lie_89 : decode cX3_lie 89 = .ok (.iload_n 2, 1) := by decide +kernel
theorem dX3_lie_90 : decode cX3_lie 90 = .ok (.ireturn, 1) := by decide +kernel
theorem dX3_odds_0 : decode cX3_odds 0 = .ok (.aload_n 0, 1) := by decide +kernel
theorem dX3_odds_1 : decode cX3_odds 1 = .ok (.getfield 35, 3) := by decide +kernel
theorem dX3_odds_4 : decode cX3_odds 4 = .ok (.iload_n 1, 1) := by decide +kernel
theorem dX3_odds_5 : decode cX3_odds 5 = .ok (.bipush 7, 2) := by decide +kernel
theorem dX3_odds_7 : decode cX3_odds 7 = .ok (.invokevirtual 153, 3) := by decide +kernel
theorem dX3_odds_10 : decode cX3_odds 10 = .ok (.istore_n 3, 1) := by decide +kernel
theorem dX3_odds_11 : decode cX3_odds 11 = .ok (.iload_n 3, 1) := by decide +kernel
theorem dX3_odds_12 : decode cX3_odds 12 = .ok (.iconst (-1), 1) := by decide +kernel
theorem dX3_odds_13 : decode cX3_odds 13 = .ok (.if_icmp .eq 13, 3) := by decide +kernel
theorem dX3_odds_16 : decode cX3_odds 16 = .ok (.iload_n 2, 1) := by decide +kernel
theorem dX3_odds_17 : decode cX3_odds 17 = .ok (.iconst 0, 1) := by decide +kernel
theorem dX3_odds_18 : decode cX3_odds 18 = .ok (.bipush 10, 2) := by decide +kernel
theorem dX3_odds_20 : decode cX3_odds 20 = .ok (.invokestatic 60, 3) := by decide +kernel
theorem dX3_odds_23 : decode cX3_odds 23 = .ok (.ifCond .ne 10, 3) := by decide +kernel
theorem dX3_odds_26 : decode cX3_odds 26 = .ok (.aload_n 0, 1) := by decide +kernel
theorem dX3_odds_27 : decode cX3_odds 27 = .ok (.bipush (-2), 2) := by decide +kernel
theorem dX3_odds_29 : decode cX3_odds 29 = .ok (.invokevirtual 64, 3) := by decide +kernel
theorem dX3_odds_32 : decode cX3_odds 32 = .ok (.ireturn, 1) := by decide +kernel
theorem dX3_odds_33 : decode cX3_odds 33 = .ok (.aload_n 0, 1) := by decide +kernel
theorem dX3_odds_34 : decode cX3_odds 34 = .ok (.aload_n 0, 1) := by decide +kernel
theorem dX3_odds_35 : decode cX3_odds 35 = .ok (.getfield 35, 3) := by decide +kernel
theorem dX3_odds_38 : decode cX3_odds 38 = .ok (.aload_n 0, 1) := by decide +kernel
theorem dX3_odds_39 : decode cX3_odds 39 = .ok (.getfield 12, 3) := by decide +kernel
theorem dX3_odds_42 : decode cX3_odds 42 = .ok (.iload_n 3, 1) := by decide +kernel
theorem dX3_odds_43 : decode cX3_odds 43 = .ok (.iload_n 2, 1) := by decide +kernel
theorem dX3_odds_44 : decode cX3_odds 44 = .ok (.invokevirtual 198, 3) := by decide +kernel
theorem dX3_odds_47 : decode cX3_odds 47 = .ok (.iload_n 3, 1) := by decide +kernel
theorem dX3_odds_48 : decode cX3_odds 48 = .ok (.invokestatic 202, 3) := by decide +kernel
theorem dX3_odds_51 : decode cX3_odds 51 = .ok (.invokevirtual 174, 3) := by decide +kernel
theorem dX3_odds_54 : decode cX3_odds 54 = .ok (.iconst 1, 1) := by decide +kernel
theorem dX3_odds_55 : decode cX3_odds 55 = .ok (.ireturn, 1) := by decide +kernel
theorem dX3_jars_0 : decode cX3_jars 0 = .ok (.iload_n 1, 1) := by decide +kernel
theorem dX3_jars_1 : decode cX3_jars 1 = .ok (.iconst 0, 1) := by decide +kernel
theorem dX3_jars_2 : decode cX3_jars 2 = .ok (.ldc 206, 2) := by decide +kernel
theorem dX3_jars_4 : decode cX3_jars 4 = .ok (.invokestatic 60, 3) := by decide +kernel
theorem dX3_jars_7 : decode cX3_jars 7 = .ok (.ifCond .eq 13, 3) := by decide +kernel
theorem dX3_jars_10 : decode cX3_jars 10 = .ok (.iload_n 2, 1) := by decide +kernel
theorem dX3_jars_11 : decode cX3_jars 11 = .ok (.iconst 0, 1) := by decide +kernel
theorem dX3_jars_12 : decode cX3_jars 12 = .ok (.bipush 60, 2) := by decide +kernel
theorem dX3_jars_14 : decode cX3_jars 14 = .ok (.invokestatic 60, 3) := by decide +kernel
theorem dX3_jars_17 : decode cX3_jars 17 = .ok (.ifCond .ne 10, 3) := by decide +kernel
theorem dX3_jars_20 : decode cX3_jars 20 = .ok (.aload_n 0, 1) := by decide +kernel
theorem dX3_jars_21 : decode cX3_jars 21 = .ok (.bipush (-2), 2) := by decide +kernel
theorem dX3_jars_23 : decode cX3_jars 23 = .ok (.invokevirtual 64, 3) := by decide +kernel
theorem dX3_jars_26 : decode cX3_jars 26 = .ok (.ireturn, 1) := by decide +kernel
theorem dX3_jars_27 : decode cX3_jars 27 = .ok (.iload_n 1, 1) := by decide +kernel
theorem dX3_jars_28 : decode cX3_jars 28 = .ok (.i2l, 1) := by decide +kernel
theorem dX3_jars_29 : decode cX3_jars 29 = .ok (.lstore_n 3, 1) := by decide +kernel
theorem dX3_jars_30 : decode cX3_jars 30 = .ok (.iconst 0, 1) := by decide +kernel
theorem dX3_jars_31 : decode cX3_jars 31 = .ok (.istore 5, 2) := by decide +kernel
theorem dX3_jars_33 : decode cX3_jars 33 = .ok (.iconst 0, 1) := by decide +kernel
theorem dX3_jars_34 : decode cX3_jars 34 = .ok (.istore 6, 2) := by decide +kernel
theorem dX3_jars_36 : decode cX3_jars 36 = .ok (.iload 6, 2) := by decide +kernel
theorem dX3_jars_38 : decode cX3_jars 38 = .ok (.iload_n 2, 1) := by decide +kernel
theorem dX3_jars_39 : decode cX3_jars 39 = .ok (.if_icmp .ge 99, 3) := by decide +kernel
theorem dX3_jars_42 : decode cX3_jars 42 = .ok (.aload_n 0, 1) := by decide +kernel
theorem dX3_jars_43 : decode cX3_jars 43 = .ok (.getfield 12, 3) := by decide +kernel
theorem dX3_jars_46 : decode cX3_jars 46 = .ok (.getfield 78, 3) := by decide +kernel
theorem dX3_jars_49 : decode cX3_jars 49 = .ok (.istore 7, 2) := by decide +kernel
theorem dX3_jars_51 : decode cX3_jars 51 = .ok (.iconst 0, 1) := by decide +kernel
theorem dX3_jars_52 : decode cX3_jars 52 = .ok (.istore 8, 2) := by decide +kernel
theorem dX3_jars_54 : decode cX3_jars 54 = .ok (.iload 8, 2) := by decide +kernel
theorem dX3_jars_56 : decode cX3_jars 56 = .ok (.bipush 20, 2) := by decide +kernel
theorem dX3_jars_58 : decode cX3_jars 58 = .ok (.if_icmp .ge 62, 3) := by decide +kernel
theorem dX3_jars_61 : decode cX3_jars 61 = .ok (.iload 7, 2) := by decide +kernel
theorem dX3_jars_63 : decode cX3_jars 63 = .ok (.invokestatic 120, 3) := by decide +kernel
theorem dX3_jars_66 : decode cX3_jars 66 = .ok (.ifCond .ne 54, 3) := by decide +kernel
theorem dX3_jars_69 : decode cX3_jars 69 = .ok (.lload_n 3, 1) := by decide +kernel
theorem dX3_jars_70 : decode cX3_jars 70 = .ok (.ldc2_w 207, 3) := by decide +kernel
theorem dX3_jars_73 : decode cX3_jars 73 = .ok (.lmul, 1) := by decide +kernel
theorem dX3_jars_74 : decode cX3_jars 74 = .ok (.ldc2_w 209, 3) := by decide +kernel
theorem dX3_jars_77 : decode cX3_jars 77 = .ok (.ladd, 1) := by decide +kernel
theorem dX3_jars_78 : decode cX3_jars 78 = .ok (.ldc2_w 211, 3) := by decide +kernel
theorem dX3_jars_81 : decode cX3_jars 81 = .ok (.lrem, 1) := by decide +kernel
theorem dX3_jars_82 : decode cX3_jars 82 = .ok (.lstore_n 3, 1) := by decide +kernel
theorem dX3_jars_83 : decode cX3_jars 83 = .ok (.aload_n 0, 1) := by decide +kernel
theorem dX3_jars_84 : decode cX3_jars 84 = .ok (.getfield 12, 3) := by decide +kernel
theorem dX3_jars_87 : decode cX3_jars 87 = .ok (.iload 7, 2) := by decide +kernel
theorem dX3_jars_89 : decode cX3_jars 89 = .ok (.aload_n 0, 1) := by decide +kernel
theorem dX3_jars_90 : decode cX3_jars 90 = .ok (.getfield 12, 3) := by decide +kernel
theorem dX3_jars_93 : decode cX3_jars 93 = .ok (.getfield 68, 3) := by decide +kernel
theorem dX3_jars_96 : decode cX3_jars 96 = .ok (.iload 8, 2) := by decide +kernel
theorem dX3_jars_98 : decode cX3_jars 98 = .ok (.iadd, 1) := by decide +kernel
theorem dX3_jars_99 : decode cX3_jars 99 = .ok (.lload_n 3, 1) := by decide +kernel
theorem dX3_jars_100 : decode cX3_jars 100 = .ok (.ldc2_w 213, 3) := by decide +kernel
theorem dX3_jars_103 : decode cX3_jars 103 = .ok (.ldiv, 1) := by decide +kernel
theorem dX3_jars_104 : decode cX3_jars 104 = .ok (.ldc2_w 215, 3) := by decide +kernel
theorem dX3_jars_107 : decode cX3_jars 107 = .ok (.lrem, 1) := by decide +kernel
theorem dX3_jars_108 : decode cX3_jars 108 = .ok (.l2i, 1) := by decide +kernel
theorem dX3_jars_109 : decode cX3_jars 109 = .ok (.invokevirtual 160, 3) := by decide +kernel
theorem dX3_jars_112 : decode cX3_jars 112 = .ok (.istore 7, 2) := by decide +kernel
theorem dX3_jars_114 : decode cX3_jars 114 = .ok (.iinc 8 1, 3) := by decide +kernel
theorem dX3_jars_117 : decode cX3_jars 117 = .ok (.goto (-63), 3) := by decide +kernel
theorem dX3_jars_120 : decode cX3_jars 120 = .ok (.iload 7, 2) := by decide +kernel
theorem dX3_jars_122 : decode cX3_jars 122 = .ok (.invokestatic 120, 3) := by decide +kernel
theorem dX3_jars_125 : decode cX3_jars 125 = .ok (.iconst 1, 1) := by decide +kernel
theorem dX3_jars_126 : decode cX3_jars 126 = .ok (.if_icmp .ne 6, 3) := by decide +kernel
theorem dX3_jars_129 : decode cX3_jars 129 = .ok (.iinc 5 1, 3) := by decide +kernel
theorem dX3_jars_132 : decode cX3_jars 132 = .ok (.iinc 6 1, 3) := by decide +kernel
theorem dX3_jars_135 : decode cX3_jars 135 = .ok (.goto (-99), 3) := by decide +kernel
theorem dX3_jars_138 : decode cX3_jars 138 = .ok (.iload 5, 2) := by decide +kernel
theorem dX3_jars_140 : decode cX3_jars 140 = .ok (.ireturn, 1) := by decide +kernel
theorem dX3_part_0 : decode cX3_part 0 = .ok (.iload_n 1, 1) := by decide +kernel
theorem dX3_part_1 : decode cX3_part 1 = .ok (.lookupswitch 37 #[(0, 27), (1, 32)], 27) := by decide +kernel
theorem dX3_part_28 : decode cX3_part 28 = .ok (.aload_n 0, 1) := by decide +kernel
theorem dX3_part_29 : decode cX3_part 29 = .ok (.getfield 39, 3) := by decide +kernel
theorem dX3_part_32 : decode cX3_part 32 = .ok (.lreturn, 1) := by decide +kernel
theorem dX3_part_33 : decode cX3_part 33 = .ok (.aload_n 0, 1) := by decide +kernel
theorem dX3_part_34 : decode cX3_part 34 = .ok (.getfield 43, 3) := by decide +kernel
theorem dX3_part_37 : decode cX3_part 37 = .ok (.lreturn, 1) := by decide +kernel
theorem dX3_part_38 : decode cX3_part 38 = .ok (.aload_n 0, 1) := by decide +kernel
theorem dX3_part_39 : decode cX3_part 39 = .ok (.bipush (-2), 2) := by decide +kernel
theorem dX3_part_41 : decode cX3_part 41 = .ok (.invokevirtual 64, 3) := by decide +kernel
theorem dX3_part_44 : decode cX3_part 44 = .ok (.i2l, 1) := by decide +kernel
theorem dX3_part_45 : decode cX3_part 45 = .ok (.lreturn, 1) := by decide +kernel
theorem dX3_image_0 : decode cX3_image 0 = .ok (.iload_n 1, 1) := by decide +kernel
theorem dX3_image_1 : decode cX3_image 1 = .ok (.iconst 0, 1) := by decide +kernel
theorem dX3_image_2 : decode cX3_image 2 = .ok (.iconst 1, 1) := by decide +kernel
theorem dX3_image_3 : decode cX3_image 3 = .ok (.invokestatic 60, 3) := by decide +kernel
theorem dX3_image_6 : decode cX3_image 6 = .ok (.ifCond .ne 10, 3) := by decide +kernel
theorem dX3_image_9 : decode cX3_image 9 = .ok (.aload_n 0, 1) := by decide +kernel
theorem dX3_image_10 : decode cX3_image 10 = .ok (.bipush (-2), 2) := by decide +kernel
theorem dX3_image_12 : decode cX3_image 12 = .ok (.invokevirtual 64, 3) := by decide +kernel
theorem dX3_image_15 : decode cX3_image 15 = .ok (.ireturn, 1) := by decide +kernel
theorem dX3_image_16 : decode cX3_image 16 = .ok (.aload_n 0, 1) := by decide +kernel
theorem dX3_image_17 : decode cX3_image 17 = .ok (.iload_n 1, 1) := by decide +kernel
theorem dX3_image_18 : decode cX3_image 18 = .ok (.invokevirtual 217, 3) := by decide +kernel
theorem dX3_image_21 : decode cX3_image 21 = .ok (.astore_n 2, 1) := by decide +kernel
theorem dX3_image_22 : decode cX3_image 22 = .ok (.aload_n 2, 1) := by decide +kernel
theorem dX3_image_23 : decode cX3_image 23 = .ok (.aload_n 0, 1) := by decide +kernel
theorem dX3_image_24 : decode cX3_image 24 = .ok (.getfield 12, 3) := by decide +kernel
theorem dX3_image_27 : decode cX3_image 27 = .ok (.invokevirtual 112, 3) := by decide +kernel
theorem dX3_image_30 : decode cX3_image 30 = .ok (.aload_n 2, 1) := by decide +kernel
theorem dX3_image_31 : decode cX3_image 31 = .ok (.iconst 1, 1) := by decide +kernel
theorem dX3_image_32 : decode cX3_image 32 = .ok (.putfield 221, 3) := by decide +kernel
theorem dX3_image_35 : decode cX3_image 35 = .ok (.iconst 1, 1) := by decide +kernel
theorem dX3_image_36 : decode cX3_image 36 = .ok (.ireturn, 1) := by decide +kernel
theorem dX3_from_0 : decode cX3_from 0 = .ok (.iload_n 1, 1) := by decide +kernel
theorem dX3_from_1 : decode cX3_from 1 = .ok (.iconst 0, 1) := by decide +kernel
theorem dX3_from_2 : decode cX3_from 2 = .ok (.iconst 1, 1) := by decide +kernel
theorem dX3_from_3 : decode cX3_from 3 = .ok (.invokestatic 60, 3) := by decide +kernel
theorem dX3_from_6 : decode cX3_from 6 = .ok (.ifCond .ne 10, 3) := by decide +kernel
theorem dX3_from_9 : decode cX3_from 9 = .ok (.aload_n 0, 1) := by decide +kernel
theorem dX3_from_10 : decode cX3_from 10 = .ok (.bipush (-2), 2) := by decide +kernel
theorem dX3_from_12 : decode cX3_from 12 = .ok (.invokevirtual 64, 3) := by decide +kernel
theorem dX3_from_15 : decode cX3_from 15 = .ok (.ireturn, 1) := by decide +kernel
theorem dX3_from_16 : decode cX3_from 16 = .ok (.aload_n 0, 1) := by decide +kernel
theorem dX3_from_17 : decode cX3_from 17 = .ok (.iload_n 1, 1) := by decide +kernel
theorem dX3_from_18 : decode cX3_from 18 = .ok (.invokevirtual 217, 3) := by decide +kernel
theorem dX3_from_21 : decode cX3_from 21 = .ok (.astore_n 2, 1) := by decide +kernel
theorem dX3_from_22 : decode cX3_from 22 = .ok (.aload_n 2, 1) := by decide +kernel
theorem dX3_from_23 : decode cX3_from 23 = .ok (.getfield 221, 3) := by decide +kernel
theorem dX3_from_26 : decode cX3_from 26 = .ok (.ifCond .ne 10, 3) := by decide +kernel
theorem dX3_from_29 : decode cX3_from 29 = .ok (.aload_n 0, 1) := by decide +kernel
theorem dX3_from_30 : decode cX3_from 30 = .ok (.bipush (-3), 2) := by decide +kernel
theorem dX3_from_32 : decode cX3_from 32 = .ok (.invokevirtual 64, 3) := by decide +kernel
theorem dX3_from_35 : decode cX3_from 35 = .ok (.ireturn, 1) := by decide +kernel
theorem dX3_from_36 : decode cX3_from 36 = .ok (.aload_n 0, 1) := by decide +kernel
theorem dX3_from_37 : decode cX3_from 37 = .ok (.getfield 12, 3) := by decide +kernel
theorem dX3_from_40 : decode cX3_from 40 = .ok (.aload_n 2, 1) := by decide +kernel
theorem dX3_from_41 : decode cX3_from 41 = .ok (.invokevirtual 112, 3) := by decide +kernel
theorem dX3_from_44 : decode cX3_from 44 = .ok (.iconst 1, 1) := by decide +kernel
theorem dX3_from_45 : decode cX3_from 45 = .ok (.ireturn, 1) := by decide +kernel
theorem dX3_status_0 : decode cX3_status 0 = .ok (.iload_n 1, 1) := by decide +kernel
theorem dX3_status_1 : decode cX3_status 1 = .ok (.tableswitch 42 0 2 #[27, 32, 37], 27) := by decide +kernel
theorem dX3_status_28 : decode cX3_status 28 = .ok (.aload_n 0, 1) := by decide +kernel
theorem dX3_status_29 : decode cX3_status 29 = .ok (.getfield 46, 3) := by decide +kernel
theorem dX3_status_32 : decode cX3_status 32 = .ok (.ireturn, 1) := by decide +kernel
theorem dX3_status_33 : decode cX3_status 33 = .ok (.aload_n 0, 1) := by decide +kernel
theorem dX3_status_34 : decode cX3_status 34 = .ok (.getfield 50, 3) := by decide +kernel
theorem dX3_status_37 : decode cX3_status 37 = .ok (.ireturn, 1) := by decide +kernel
theorem dX3_status_38 : decode cX3_status 38 = .ok (.aload_n 0, 1) := by decide +kernel
theorem dX3_status_39 : decode cX3_status 39 = .ok (.getfield 53, 3) := by decide +kernel
theorem dX3_status_42 : decode cX3_status 42 = .ok (.ireturn, 1) := by decide +kernel
theorem dX3_status_43 : decode cX3_status 43 = .ok (.aload_n 0, 1) := by decide +kernel
theorem dX3_status_44 : decode cX3_status 44 = .ok (.iconst (-1), 1) := by decide +kernel
theorem dX3_status_45 : decode cX3_status 45 = .ok (.invokevirtual 144, 3) := by decide +kernel
theorem dX3_status_48 : decode cX3_status 48 = .ok (.ireturn, 1) := by decide +kernel
theorem dX3_count_0 : decode cX3_count 0 = .ok (.iload_n 1, 1) := by decide +kernel
theorem dX3_count_1 : decode cX3_count 1 = .ok (.tableswitch 63 0 3 #[31, 39, 47, 55], 31) := by decide +kernel
theorem dX3_count_32 : decode cX3_count 32 = .ok (.aload_n 0, 1) := by decide +kernel
theorem dX3_count_33 : decode cX3_count 33 = .ok (.getfield 12, 3) := by decide +kernel
theorem dX3_count_36 : decode cX3_count 36 = .ok (.getfield 68, 3) := by decide +kernel
theorem dX3_count_39 : decode cX3_count 39 = .ok (.ireturn, 1) := by decide +kernel
theorem dX3_count_40 : decode cX3_count 40 = .ok (.aload_n 0, 1) := by decide +kernel
theorem dX3_count_41 : decode cX3_count 41 = .ok (.getfield 12, 3) := by decide +kernel
theorem dX3_count_44 : decode cX3_count 44 = .ok (.getfield 178, 3) := by decide +kernel
theorem dX3_count_47 : decode cX3_count 47 = .ok (.ireturn, 1) := by decide +kernel
theorem dX3_count_48 : decode cX3_count 48 = .ok (.aload_n 0, 1) := by decide +kernel
theorem dX3_count_49 : decode cX3_count 49 = .ok (.getfield 12, 3) := by decide +kernel
theorem dX3_count_52 : decode cX3_count 52 = .ok (.getfield 135, 3) := by decide +kernel
theorem dX3_count_55 : decode cX3_count 55 = .ok (.ireturn, 1) := by decide +kernel
theorem dX3_count_56 : decode cX3_count 56 = .ok (.aload_n 0, 1) := by decide +kernel
theorem dX3_count_57 : decode cX3_count 57 = .ok (.getfield 28, 3) := by decide +kernel
theorem dX3_count_60 : decode cX3_count 60 = .ok (.getfield 99, 3) := by decide +kernel
theorem dX3_count_63 : decode cX3_count 63 = .ok (.ireturn, 1) := by decide +kernel
theorem dX3_count_64 : decode cX3_count 64 = .ok (.aload_n 0, 1) := by decide +kernel
theorem dX3_count_65 : decode cX3_count 65 = .ok (.bipush (-2), 2) := by decide +kernel
theorem dX3_count_67 : decode cX3_count 67 = .ok (.invokevirtual 64, 3) := by decide +kernel
theorem dX3_count_70 : decode cX3_count 70 = .ok (.ireturn, 1) := by decide +kernel
theorem dX3_digest_0 : decode cX3_digest 0 = .ok (.ldc2_w 225, 3) := by decide +kernel
theorem dX3_digest_3 : decode cX3_digest 3 = .ok (.lstore_n 1, 1) := by decide +kernel
theorem dX3_digest_4 : decode cX3_digest 4 = .ok (.iconst 0, 1) := by decide +kernel
theorem dX3_digest_5 : decode cX3_digest 5 = .ok (.istore_n 3, 1) := by decide +kernel
theorem dX3_digest_6 : decode cX3_digest 6 = .ok (.iload_n 3, 1) := by decide +kernel
theorem dX3_digest_7 : decode cX3_digest 7 = .ok (.iconst 3, 1) := by decide +kernel
theorem dX3_digest_8 : decode cX3_digest 8 = .ok (.if_icmp .gt 22, 3) := by decide +kernel
theorem dX3_digest_11 : decode cX3_digest 11 = .ok (.ldc2_w 227, 3) := by decide +kernel
theorem dX3_digest_14 : decode cX3_digest 14 = .ok (.lload_n 1, 1) := by decide +kernel
theorem dX3_digest_15 : decode cX3_digest 15 = .ok (.lmul, 1) := by decide +kernel
theorem dX3_digest_16 : decode cX3_digest 16 = .ok (.aload_n 0, 1) := by decide +kernel
theorem dX3_digest_17 : decode cX3_digest 17 = .ok (.iload_n 3, 1) := by decide +kernel
theorem dX3_digest_18 : decode cX3_digest 18 = .ok (.invokevirtual 229, 3) := by decide +kernel
theorem dX3_digest_21 : decode cX3_digest 21 = .ok (.i2l, 1) := by decide +kernel
theorem dX3_digest_22 : decode cX3_digest 22 = .ok (.ladd, 1) := by decide +kernel
theorem dX3_digest_23 : decode cX3_digest 23 = .ok (.lstore_n 1, 1) := by decide +kernel
theorem dX3_digest_24 : decode cX3_digest 24 = .ok (.iinc 3 1, 3) := by decide +kernel
theorem dX3_digest_27 : decode cX3_digest 27 = .ok (.goto (-21), 3) := by decide +kernel
theorem dX3_digest_30 : decode cX3_digest 30 = .ok (.iconst 0, 1) := by decide +kernel
theorem dX3_digest_31 : decode cX3_digest 31 = .ok (.istore_n 3, 1) := by decide +kernel
theorem dX3_digest_32 : decode cX3_digest 32 = .ok (.iload_n 3, 1) := by decide +kernel
theorem dX3_digest_33 : decode cX3_digest 33 = .ok (.iconst 4, 1) := by decide +kernel
theorem dX3_digest_34 : decode cX3_digest 34 = .ok (.if_icmp .gt 22, 3) := by decide +kernel
theorem dX3_digest_37 : decode cX3_digest 37 = .ok (.ldc2_w 227, 3) := by decide +kernel
theorem dX3_digest_40 : decode cX3_digest 40 = .ok (.lload_n 1, 1) := by decide +kernel
theorem dX3_digest_41 : decode cX3_digest 41 = .ok (.lmul, 1) := by decide +kernel
theorem dX3_digest_42 : decode cX3_digest 42 = .ok (.aload_n 0, 1) := by decide +kernel
theorem dX3_digest_43 : decode cX3_digest 43 = .ok (.iload_n 3, 1) := by decide +kernel
theorem dX3_digest_44 : decode cX3_digest 44 = .ok (.invokevirtual 232, 3) := by decide +kernel
theorem dX3_digest_47 : decode cX3_digest 47 = .ok (.i2l, 1) := by decide +kernel
theorem dX3_digest_48 : decode cX3_digest 48 = .ok (.ladd, 1) := by decide +kernel
theorem dX3_digest_49 : decode cX3_digest 49 = .ok (.lstore_n 1, 1) := by decide +kernel
theorem dX3_digest_50 : decode cX3_digest 50 = .ok (.iinc 3 1, 3) := by decide +kernel
theorem dX3_digest_53 : decode cX3_digest 53 = .ok (.goto (-21), 3) := by decide +kernel
theorem dX3_digest_56 : decode cX3_digest 56 = .ok (.ldc2_w 227, 3) := by decide +kernel
theorem dX3_digest_59 : decode cX3_digest 59 = .ok (.lload_n 1, 1) := by decide +kernel
theorem dX3_digest_60 : decode cX3_digest 60 = .ok (.lmul, 1) := by decide +kernel
theorem dX3_digest_61 : decode cX3_digest 61 = .ok (.aload_n 0, 1) := by decide +kernel
theorem dX3_digest_62 : decode cX3_digest 62 = .ok (.bipush 6, 2) := by decide +kernel
theorem dX3_digest_64 : decode cX3_digest 64 = .ok (.invokevirtual 232, 3) := by decide +kernel
theorem dX3_digest_67 : decode cX3_digest 67 = .ok (.i2l, 1) := by decide +kernel
theorem dX3_digest_68 : decode cX3_digest 68 = .ok (.ladd, 1) := by decide +kernel
theorem dX3_digest_69 : decode cX3_digest 69 = .ok (.lstore_n 1, 1) := by decide +kernel
theorem dX3_digest_70 : decode cX3_digest 70 = .ok (.iconst 0, 1) := by decide +kernel
theorem dX3_digest_71 : decode cX3_digest 71 = .ok (.istore_n 3, 1) := by decide +kernel
theorem dX3_digest_72 : decode cX3_digest 72 = .ok (.iload_n 3, 1) := by decide +kernel
theorem dX3_digest_73 : decode cX3_digest 73 = .ok (.bipush 8, 2) := by decide +kernel
end
section
theorem dX3_digest_75 : decode cX3_digest 75 = .ok (.if_icmp .ge 28, 3) := by decide +kernel
theorem dX3_digest_78 : decode cX3_digest 78 = .ok (.ldc2_w 227, 3) := by decide +kernel
theorem dX3_digest_81 : decode cX3_digest 81 = .ok (.lload_n 1, 1) := by decide +kernel
theorem dX3_digest_82 : decode cX3_digest 82 = .ok (.lmul, 1) := by decide +kernel
theorem dX3_digest_83 : decode cX3_digest 83 = .ok (.aload_n 0, 1) := by decide +kernel
theorem dX3_digest_84 : decode cX3_digest 84 = .ok (.getfield 12, 3) := by decide +kernel
theorem dX3_digest_87 : decode cX3_digest 87 = .ok (.getfield 87, 3) := by decide +kernel
theorem dX3_digest_90 : decode cX3_digest 90 = .ok (.iload_n 3, 1) := by decide +kernel
theorem dX3_digest_91 : decode cX3_digest 91 = .ok (.invokestatic 91, 3) := by decide +kernel
theorem dX3_digest_94 : decode cX3_digest 94 = .ok (.i2l, 1) := by decide +kernel
theorem dX3_digest_95 : decode cX3_digest 95 = .ok (.ladd, 1) := by decide +kernel
theorem dX3_digest_96 : decode cX3_digest 96 = .ok (.lstore_n 1, 1) := by decide +kernel
theorem dX3_digest_97 : decode cX3_digest 97 = .ok (.iinc 3 1, 3) := by decide +kernel
theorem dX3_digest_100 : decode cX3_digest 100 = .ok (.goto (-28), 3) := by decide +kernel
theorem dX3_digest_103 : decode cX3_digest 103 = .ok (.iconst 0, 1) := by decide +kernel
theorem dX3_digest_104 : decode cX3_digest 104 = .ok (.istore_n 3, 1) := by decide +kernel
theorem dX3_digest_105 : decode cX3_digest 105 = .ok (.iload_n 3, 1) := by decide +kernel
theorem dX3_digest_106 : decode cX3_digest 106 = .ok (.aload_n 0, 1) := by decide +kernel
theorem dX3_digest_107 : decode cX3_digest 107 = .ok (.getfield 12, 3) := by decide +kernel
theorem dX3_digest_110 : decode cX3_digest 110 = .ok (.getfield 178, 3) := by decide +kernel
theorem dX3_digest_113 : decode cX3_digest 113 = .ok (.iconst 4, 1) := by decide +kernel
theorem dX3_digest_114 : decode cX3_digest 114 = .ok (.imul, 1) := by decide +kernel
theorem dX3_digest_115 : decode cX3_digest 115 = .ok (.if_icmp .ge 28, 3) := by decide +kernel
theorem dX3_digest_118 : decode cX3_digest 118 = .ok (.ldc2_w 227, 3) := by decide +kernel
theorem dX3_digest_121 : decode cX3_digest 121 = .ok (.lload_n 1, 1) := by decide +kernel
theorem dX3_digest_122 : decode cX3_digest 122 = .ok (.lmul, 1) := by decide +kernel
theorem dX3_digest_123 : decode cX3_digest 123 = .ok (.aload_n 0, 1) := by decide +kernel
theorem dX3_digest_124 : decode cX3_digest 124 = .ok (.getfield 12, 3) := by decide +kernel
theorem dX3_digest_127 : decode cX3_digest 127 = .ok (.getfield 235, 3) := by decide +kernel
theorem dX3_digest_130 : decode cX3_digest 130 = .ok (.iload_n 3, 1) := by decide +kernel
theorem dX3_digest_131 : decode cX3_digest 131 = .ok (.invokestatic 91, 3) := by decide +kernel
theorem dX3_digest_134 : decode cX3_digest 134 = .ok (.i2l, 1) := by decide +kernel
theorem dX3_digest_135 : decode cX3_digest 135 = .ok (.ladd, 1) := by decide +kernel
theorem dX3_digest_136 : decode cX3_digest 136 = .ok (.lstore_n 1, 1) := by decide +kernel
theorem dX3_digest_137 : decode cX3_digest 137 = .ok (.iinc 3 1, 3) := by decide +kernel
theorem dX3_digest_140 : decode cX3_digest 140 = .ok (.goto (-35), 3) := by decide +kernel
theorem dX3_digest_143 : decode cX3_digest 143 = .ok (.ldc2_w 227, 3) := by decide +kernel
theorem dX3_digest_146 : decode cX3_digest 146 = .ok (.lload_n 1, 1) := by decide +kernel
theorem dX3_digest_147 : decode cX3_digest 147 = .ok (.lmul, 1) := by decide +kernel
theorem dX3_digest_148 : decode cX3_digest 148 = .ok (.aload_n 0, 1) := by decide +kernel
theorem dX3_digest_149 : decode cX3_digest 149 = .ok (.getfield 39, 3) := by decide +kernel
theorem dX3_digest_152 : decode cX3_digest 152 = .ok (.ladd, 1) := by decide +kernel
theorem dX3_digest_153 : decode cX3_digest 153 = .ok (.lstore_n 1, 1) := by decide +kernel
theorem dX3_digest_154 : decode cX3_digest 154 = .ok (.ldc2_w 227, 3) := by decide +kernel
theorem dX3_digest_157 : decode cX3_digest 157 = .ok (.lload_n 1, 1) := by decide +kernel
theorem dX3_digest_158 : decode cX3_digest 158 = .ok (.lmul, 1) := by decide +kernel
theorem dX3_digest_159 : decode cX3_digest 159 = .ok (.aload_n 0, 1) := by decide +kernel
theorem dX3_digest_160 : decode cX3_digest 160 = .ok (.getfield 43, 3) := by decide +kernel
theorem dX3_digest_163 : decode cX3_digest 163 = .ok (.ladd, 1) := by decide +kernel
theorem dX3_digest_164 : decode cX3_digest 164 = .ok (.lreturn, 1) := by decide +kernel
theorem dX3_refuse_0 : decode cX3_refuse 0 = .ok (.iload_n 1, 1) := by decide +kernel
theorem dX3_refuse_1 : decode cX3_refuse 1 = .ok (.bipush (-2), 2) := by decide +kernel
theorem dX3_refuse_3 : decode cX3_refuse 3 = .ok (.if_icmp .ne 16, 3) := by decide +kernel
theorem dX3_refuse_6 : decode cX3_refuse 6 = .ok (.aload_n 0, 1) := by decide +kernel
theorem dX3_refuse_7 : decode cX3_refuse 7 = .ok (.dup, 1) := by decide +kernel
theorem dX3_refuse_8 : decode cX3_refuse 8 = .ok (.getfield 46, 3) := by decide +kernel
theorem dX3_refuse_11 : decode cX3_refuse 11 = .ok (.iconst 1, 1) := by decide +kernel
theorem dX3_refuse_12 : decode cX3_refuse 12 = .ok (.iadd, 1) := by decide +kernel
theorem dX3_refuse_13 : decode cX3_refuse 13 = .ok (.putfield 46, 3) := by decide +kernel
theorem dX3_refuse_16 : decode cX3_refuse 16 = .ok (.goto 32, 3) := by decide +kernel
theorem dX3_refuse_19 : decode cX3_refuse 19 = .ok (.iload_n 1, 1) := by decide +kernel
theorem dX3_refuse_20 : decode cX3_refuse 20 = .ok (.bipush (-3), 2) := by decide +kernel
theorem dX3_refuse_22 : decode cX3_refuse 22 = .ok (.if_icmp .ne 16, 3) := by decide +kernel
theorem dX3_refuse_25 : decode cX3_refuse 25 = .ok (.aload_n 0, 1) := by decide +kernel
theorem dX3_refuse_26 : decode cX3_refuse 26 = .ok (.dup, 1) := by decide +kernel
theorem dX3_refuse_27 : decode cX3_refuse 27 = .ok (.getfield 50, 3) := by decide +kernel
theorem dX3_refuse_30 : decode cX3_refuse 30 = .ok (.iconst 1, 1) := by decide +kernel
theorem dX3_refuse_31 : decode cX3_refuse 31 = .ok (.iadd, 1) := by decide +kernel
theorem dX3_refuse_32 : decode cX3_refuse 32 = .ok (.putfield 50, 3) := by decide +kernel
theorem dX3_refuse_35 : decode cX3_refuse 35 = .ok (.goto 13, 3) := by decide +kernel
theorem dX3_refuse_38 : decode cX3_refuse 38 = .ok (.aload_n 0, 1) := by decide +kernel
theorem dX3_refuse_39 : decode cX3_refuse 39 = .ok (.dup, 1) := by decide +kernel
theorem dX3_refuse_40 : decode cX3_refuse 40 = .ok (.getfield 53, 3) := by decide +kernel
theorem dX3_refuse_43 : decode cX3_refuse 43 = .ok (.iconst 1, 1) := by decide +kernel
theorem dX3_refuse_44 : decode cX3_refuse 44 = .ok (.iadd, 1) := by decide +kernel
theorem dX3_refuse_45 : decode cX3_refuse 45 = .ok (.putfield 53, 3) := by decide +kernel
theorem dX3_refuse_48 : decode cX3_refuse 48 = .ok (.iload_n 1, 1) := by decide +kernel
theorem dX3_refuse_49 : decode cX3_refuse 49 = .ok (.ireturn, 1) := by decide +kernel
theorem dX3_refuseBad_0 : decode cX3_refuseBad 0 = .ok (.aload_n 0, 1) := by decide +kernel
theorem dX3_refuseBad_1 : decode cX3_refuseBad 1 = .ok (.dup, 1) := by decide +kernel
theorem dX3_refuseBad_2 : decode cX3_refuseBad 2 = .ok (.getfield 46, 3) := by decide +kernel
theorem dX3_refuseBad_5 : decode cX3_refuseBad 5 = .ok (.iconst 1, 1) := by decide +kernel
theorem dX3_refuseBad_6 : decode cX3_refuseBad 6 = .ok (.iadd, 1) := by decide +kernel
theorem dX3_refuseBad_7 : decode cX3_refuseBad 7 = .ok (.putfield 46, 3) := by decide +kernel
theorem dX3_refuseBad_10 : decode cX3_refuseBad 10 = .ok (.iload_n 1, 1) := by decide +kernel
theorem dX3_refuseBad_11 : decode cX3_refuseBad 11 = .ok (.ireturn, 1) := by decide +kernel
theorem dX3_lengthOrWord_0 : decode cX3_lengthOrWord 0 = .ok (.iload_n 2, 1) := by decide +kernel
theorem dX3_lengthOrWord_1 : decode cX3_lengthOrWord 1 = .ok (.iconst (-1), 1) := by decide +kernel
theorem dX3_lengthOrWord_2 : decode cX3_lengthOrWord 2 = .ok (.if_icmp .ne 5, 3) := by decide +kernel
theorem dX3_lengthOrWord_5 : decode cX3_lengthOrWord 5 = .ok (.iload_n 1, 1) := by decide +kernel
theorem dX3_lengthOrWord_6 : decode cX3_lengthOrWord 6 = .ok (.ireturn, 1) := by decide +kernel
theorem dX3_lengthOrWord_7 : decode cX3_lengthOrWord 7 = .ok (.iload_n 2, 1) := by decide +kernel
theorem dX3_lengthOrWord_8 : decode cX3_lengthOrWord 8 = .ok (.iload_n 1, 1) := by decide +kernel
theorem dX3_lengthOrWord_9 : decode cX3_lengthOrWord 9 = .ok (.if_icmp .lt 8, 3) := by decide +kernel
theorem dX3_lengthOrWord_12 : decode cX3_lengthOrWord 12 = .ok (.bipush (-5), 2) := by decide +kernel
theorem dX3_lengthOrWord_14 : decode cX3_lengthOrWord 14 = .ok (.goto 14, 3) := by decide +kernel
theorem dX3_lengthOrWord_17 : decode cX3_lengthOrWord 17 = .ok (.aload_n 0, 1) := by decide +kernel
theorem dX3_lengthOrWord_18 : decode cX3_lengthOrWord 18 = .ok (.getfield 35, 3) := by decide +kernel
theorem dX3_lengthOrWord_21 : decode cX3_lengthOrWord 21 = .ok (.getfield 157, 3) := by decide +kernel
theorem dX3_lengthOrWord_24 : decode cX3_lengthOrWord 24 = .ok (.iload_n 2, 1) := by decide +kernel
theorem dX3_lengthOrWord_25 : decode cX3_lengthOrWord 25 = .ok (.invokestatic 91, 3) := by decide +kernel
theorem dX3_lengthOrWord_28 : decode cX3_lengthOrWord 28 = .ok (.ireturn, 1) := by decide +kernel
theorem dX3_imageAt_0 : decode cX3_imageAt 0 = .ok (.iload_n 1, 1) := by decide +kernel
theorem dX3_imageAt_1 : decode cX3_imageAt 1 = .ok (.ifCond .ne 10, 3) := by decide +kernel
theorem dX3_imageAt_4 : decode cX3_imageAt 4 = .ok (.aload_n 0, 1) := by decide +kernel
theorem dX3_imageAt_5 : decode cX3_imageAt 5 = .ok (.getfield 19, 3) := by decide +kernel
theorem dX3_imageAt_8 : decode cX3_imageAt 8 = .ok (.goto 7, 3) := by decide +kernel
theorem dX3_imageAt_11 : decode cX3_imageAt 11 = .ok (.aload_n 0, 1) := by decide +kernel
theorem dX3_imageAt_12 : decode cX3_imageAt 12 = .ok (.getfield 22, 3) := by decide +kernel
theorem dX3_imageAt_15 : decode cX3_imageAt 15 = .ok (.areturn, 1) := by decide +kernel
theorem dX3_setFraction_0 : decode cX3_setFraction 0 = .ok (.lload_n 1, 1) := by decide +kernel
theorem dX3_setFraction_1 : decode cX3_setFraction 1 = .ok (.lload_n 3, 1) := by decide +kernel
theorem dX3_setFraction_2 : decode cX3_setFraction 2 = .ok (.invokestatic 238, 3) := by decide +kernel
theorem dX3_setFraction_5 : decode cX3_setFraction 5 = .ok (.lstore 5, 2) := by decide +kernel
theorem dX3_setFraction_7 : decode cX3_setFraction 7 = .ok (.lload 5, 2) := by decide +kernel
theorem dX3_setFraction_9 : decode cX3_setFraction 9 = .ok (.lconst 0, 1) := by decide +kernel
theorem dX3_setFraction_10 : decode cX3_setFraction 10 = .ok (.lcmp, 1) := by decide +kernel
theorem dX3_setFraction_11 : decode cX3_setFraction 11 = .ok (.ifCond .eq 19, 3) := by decide +kernel
theorem dX3_setFraction_14 : decode cX3_setFraction 14 = .ok (.aload_n 0, 1) := by decide +kernel
theorem dX3_setFraction_15 : decode cX3_setFraction 15 = .ok (.lload_n 1, 1) := by decide +kernel
theorem dX3_setFraction_16 : decode cX3_setFraction 16 = .ok (.lload 5, 2) := by decide +kernel
theorem dX3_setFraction_18 : decode cX3_setFraction 18 = .ok (.ldiv, 1) := by decide +kernel
theorem dX3_setFraction_19 : decode cX3_setFraction 19 = .ok (.putfield 39, 3) := by decide +kernel
theorem dX3_setFraction_22 : decode cX3_setFraction 22 = .ok (.aload_n 0, 1) := by decide +kernel
theorem dX3_setFraction_23 : decode cX3_setFraction 23 = .ok (.lload_n 3, 1) := by decide +kernel
theorem dX3_setFraction_24 : decode cX3_setFraction 24 = .ok (.lload 5, 2) := by decide +kernel
theorem dX3_setFraction_26 : decode cX3_setFraction 26 = .ok (.ldiv, 1) := by decide +kernel
theorem dX3_setFraction_27 : decode cX3_setFraction 27 = .ok (.putfield 43, 3) := by decide +kernel
theorem dX3_setFraction_30 : decode cX3_setFraction 30 = .ok (.return_, 1) := by decide +kernel
theorem dX3_pairWorth_0 : decode cX3_pairWorth 0 = .ok (.iload_n 2, 1) := by decide +kernel
theorem dX3_pairWorth_1 : decode cX3_pairWorth 1 = .ok (.iconst 1, 1) := by decide +kernel
theorem dX3_pairWorth_2 : decode cX3_pairWorth 2 = .ok (.iand, 1) := by decide +kernel
theorem dX3_pairWorth_3 : decode cX3_pairWorth 3 = .ok (.ifCond .ne 7, 3) := by decide +kernel
theorem dX3_pairWorth_6 : decode cX3_pairWorth 6 = .ok (.iload_n 1, 1) := by decide +kernel
theorem dX3_pairWorth_7 : decode cX3_pairWorth 7 = .ok (.goto 4, 3) := by decide +kernel
theorem dX3_pairWorth_10 : decode cX3_pairWorth 10 = .ok (.iconst 0, 1) := by decide +kernel
theorem dX3_pairWorth_11 : decode cX3_pairWorth 11 = .ok (.istore_n 3, 1) := by decide +kernel
theorem dX3_pairWorth_12 : decode cX3_pairWorth 12 = .ok (.iload_n 2, 1) := by decide +kernel
theorem dX3_pairWorth_13 : decode cX3_pairWorth 13 = .ok (.iconst 2, 1) := by decide +kernel
theorem dX3_pairWorth_14 : decode cX3_pairWorth 14 = .ok (.iand, 1) := by decide +kernel
theorem dX3_pairWorth_15 : decode cX3_pairWorth 15 = .ok (.ifCond .eq 7, 3) := by decide +kernel
theorem dX3_pairWorth_18 : decode cX3_pairWorth 18 = .ok (.iconst 1, 1) := by decide +kernel
theorem dX3_pairWorth_19 : decode cX3_pairWorth 19 = .ok (.goto 4, 3) := by decide +kernel
theorem dX3_pairWorth_22 : decode cX3_pairWorth 22 = .ok (.iconst 0, 1) := by decide +kernel
theorem dX3_pairWorth_23 : decode cX3_pairWorth 23 = .ok (.istore 4, 2) := by decide +kernel
theorem dX3_pairWorth_25 : decode cX3_pairWorth 25 = .ok (.iload 4, 2) := by decide +kernel
theorem dX3_pairWorth_27 : decode cX3_pairWorth 27 = .ok (.ifCond .eq 34, 3) := by decide +kernel
theorem dX3_pairWorth_30 : decode cX3_pairWorth 30 = .ok (.aload_n 0, 1) := by decide +kernel
theorem dX3_pairWorth_31 : decode cX3_pairWorth 31 = .ok (.getfield 12, 3) := by decide +kernel
theorem dX3_pairWorth_34 : decode cX3_pairWorth 34 = .ok (.aload_n 0, 1) := by decide +kernel
theorem dX3_pairWorth_35 : decode cX3_pairWorth 35 = .ok (.getfield 12, 3) := by decide +kernel
theorem dX3_pairWorth_38 : decode cX3_pairWorth 38 = .ok (.getfield 78, 3) := by decide +kernel
theorem dX3_pairWorth_41 : decode cX3_pairWorth 41 = .ok (.invokestatic 81, 3) := by decide +kernel
theorem dX3_pairWorth_44 : decode cX3_pairWorth 44 = .ok (.aload_n 0, 1) := by decide +kernel
theorem dX3_pairWorth_45 : decode cX3_pairWorth 45 = .ok (.getfield 12, 3) := by decide +kernel
theorem dX3_pairWorth_48 : decode cX3_pairWorth 48 = .ok (.getfield 78, 3) := by decide +kernel
theorem dX3_pairWorth_51 : decode cX3_pairWorth 51 = .ok (.invokestatic 129, 3) := by decide +kernel
theorem dX3_pairWorth_54 : decode cX3_pairWorth 54 = .ok (.iload_n 3, 1) := by decide +kernel
theorem dX3_pairWorth_55 : decode cX3_pairWorth 55 = .ok (.invokevirtual 242, 3) := by decide +kernel
theorem dX3_pairWorth_58 : decode cX3_pairWorth 58 = .ok (.goto 25, 3) := by decide +kernel
theorem dX3_pairWorth_61 : decode cX3_pairWorth 61 = .ok (.aload_n 0, 1) := by decide +kernel
theorem dX3_pairWorth_62 : decode cX3_pairWorth 62 = .ok (.getfield 12, 3) := by decide +kernel
theorem dX3_pairWorth_65 : decode cX3_pairWorth 65 = .ok (.aload_n 0, 1) := by decide +kernel
theorem dX3_pairWorth_66 : decode cX3_pairWorth 66 = .ok (.getfield 12, 3) := by decide +kernel
theorem dX3_pairWorth_69 : decode cX3_pairWorth 69 = .ok (.getfield 78, 3) := by decide +kernel
theorem dX3_pairWorth_72 : decode cX3_pairWorth 72 = .ok (.aload_n 0, 1) := by decide +kernel
theorem dX3_pairWorth_73 : decode cX3_pairWorth 73 = .ok (.getfield 12, 3) := by decide +kernel
theorem dX3_pairWorth_76 : decode cX3_pairWorth 76 = .ok (.getfield 68, 3) := by decide +kernel
theorem dX3_pairWorth_79 : decode cX3_pairWorth 79 = .ok (.iload_n 3, 1) := by decide +kernel
theorem dX3_pairWorth_80 : decode cX3_pairWorth 80 = .ok (.invokevirtual 160, 3) := by decide +kernel
theorem dX3_pairWorth_83 : decode cX3_pairWorth 83 = .ok (.istore 5, 2) := by decide +kernel
theorem dX3_pairWorth_85 : decode cX3_pairWorth 85 = .ok (.iload 5, 2) := by decide +kernel
theorem dX3_pairWorth_87 : decode cX3_pairWorth 87 = .ok (.invokestatic 120, 3) := by decide +kernel
theorem dX3_pairWorth_90 : decode cX3_pairWorth 90 = .ok (.lookupswitch 30 #[(0, 28), (1, 26)], 26) := by decide +kernel
theorem dX3_pairWorth_116 : decode cX3_pairWorth 116 = .ok (.iconst 2, 1) := by decide +kernel
theorem dX3_pairWorth_117 : decode cX3_pairWorth 117 = .ok (.ireturn, 1) := by decide +kernel
theorem dX3_pairWorth_118 : decode cX3_pairWorth 118 = .ok (.iconst 1, 1) := by decide +kernel
theorem dX3_pairWorth_119 : decode cX3_pairWorth 119 = .ok (.ireturn, 1) := by decide +kernel
theorem dX3_pairWorth_120 : decode cX3_pairWorth 120 = .ok (.iconst 0, 1) := by decide +kernel
theorem dX3_pairWorth_121 : decode cX3_pairWorth 121 = .ok (.ireturn, 1) := by decide +kernel
theorem dX3_within_0 : decode cX3_within 0 = .ok (.iload_n 0, 1) := by decide +kernel
theorem dX3_within_1 : decode cX3_within 1 = .ok (.iload_n 1, 1) := by decide +kernel
theorem dX3_within_2 : decode cX3_within 2 = .ok (.if_icmp .lt 12, 3) := by decide +kernel
theorem dX3_within_5 : decode cX3_within 5 = .ok (.iload_n 0, 1) := by decide +kernel
theorem dX3_within_6 : decode cX3_within 6 = .ok (.iload_n 2, 1) := by decide +kernel
theorem dX3_within_7 : decode cX3_within 7 = .ok (.if_icmp .gt 7, 3) := by decide +kernel
theorem dX3_within_10 : decode cX3_within 10 = .ok (.iconst 1, 1) := by decide +kernel
theorem dX3_within_11 : decode cX3_within 11 = .ok (.goto 4, 3) := by decide +kernel
theorem dX3_within_14 : decode cX3_within 14 = .ok (.iconst 0, 1) := by decide +kernel
theorem dX3_within_15 : decode cX3_within 15 = .ok (.ireturn, 1) := by decide +kernel
theorem dX3_isWord_0 : decode cX3_isWord 0 = .ok (.iload_n 0, 1) := by decide +kernel
theorem dX3_isWord_1 : decode cX3_isWord 1 = .ok (.iconst 0, 1) := by decide +kernel
theorem dX3_isWord_2 : decode cX3_isWord 2 = .ok (.iconst 5, 1) := by decide +kernel
theorem dX3_isWord_3 : decode cX3_isWord 3 = .ok (.invokestatic 60, 3) := by decide +kernel
theorem dX3_isWord_6 : decode cX3_isWord 6 = .ok (.ireturn, 1) := by decide +kernel
theorem dX3_at_0 : decode cX3_at 0 = .ok (.iload_n 1, 1) := by decide +kernel
theorem dX3_at_1 : decode cX3_at 1 = .ok (.ifCond .lt 15, 3) := by decide +kernel
theorem dX3_at_4 : decode cX3_at 4 = .ok (.iload_n 1, 1) := by decide +kernel
theorem dX3_at_5 : decode cX3_at 5 = .ok (.aload_n 0, 1) := by decide +kernel
theorem dX3_at_6 : decode cX3_at 6 = .ok (.arraylength, 1) := by decide +kernel
theorem dX3_at_7 : decode cX3_at 7 = .ok (.if_icmp .ge 9, 3) := by decide +kernel
theorem dX3_at_10 : decode cX3_at 10 = .ok (.aload_n 0, 1) := by decide +kernel
theorem dX3_at_11 : decode cX3_at 11 = .ok (.iload_n 1, 1) := by decide +kernel
theorem dX3_at_12 : decode cX3_at 12 = .ok (.iaload, 1) := by decide +kernel
theorem dX3_at_13 : decode cX3_at 13 = .ok (.goto 4, 3) := by decide +kernel
theorem dX3_at_16 : decode cX3_at 16 = .ok (.iconst 0, 1) := by decide +kernel
theorem dX3_at_17 : decode cX3_at 17 = .ok (.ireturn, 1) := by decide +kernel
theorem dX3_put_0 : decode cX3_put 0 = .ok (.iload_n 1, 1) := by decide +kernel
theorem dX3_put_1 : decode cX3_put 1 = .ok (.ifCond .lt 13, 3) := by decide +kernel
theorem dX3_put_4 : decode cX3_put 4 = .ok (.iload_n 1, 1) := by decide +kernel
theorem dX3_put_5 : decode cX3_put 5 = .ok (.aload_n 0, 1) := by decide +kernel
theorem dX3_put_6 : decode cX3_put 6 = .ok (.arraylength, 1) := by decide +kernel
theorem dX3_put_7 : decode cX3_put 7 = .ok (.if_icmp .ge 7, 3) := by decide +kernel
theorem dX3_put_10 : decode cX3_put 10 = .ok (.aload_n 0, 1) := by decide +kernel
theorem dX3_put_11 : decode cX3_put 11 = .ok (.iload_n 1, 1) := by decide +kernel
theorem dX3_put_12 : decode cX3_put 12 = .ok (.iload_n 2, 1) := by decide +kernel
theorem dX3_put_13 : decode cX3_put 13 = .ok (.iastore, 1) := by decide +kernel
theorem dX3_put_14 : decode cX3_put 14 = .ok (.return_, 1) := by decide +kernel
theorem dX3_powerOfTen_0 : decode cX3_powerOfTen 0 = .ok (.lconst 1, 1) := by decide +kernel
theorem dX3_powerOfTen_1 : decode cX3_powerOfTen 1 = .ok (.lstore_n 1, 1) := by decide +kernel
theorem dX3_powerOfTen_2 : decode cX3_powerOfTen 2 = .ok (.iconst 0, 1) := by decide +kernel
theorem dX3_powerOfTen_3 : decode cX3_powerOfTen 3 = .ok (.istore_n 3, 1) := by decide +kernel
theorem dX3_powerOfTen_4 : decode cX3_powerOfTen 4 = .ok (.iload_n 3, 1) := by decide +kernel
theorem dX3_powerOfTen_5 : decode cX3_powerOfTen 5 = .ok (.iload_n 0, 1) := by decide +kernel
theorem dX3_powerOfTen_6 : decode cX3_powerOfTen 6 = .ok (.if_icmp .ge 21, 3) := by decide +kernel
theorem dX3_powerOfTen_9 : decode cX3_powerOfTen 9 = .ok (.iload_n 3, 1) := by decide +kernel
theorem dX3_powerOfTen_10 : decode cX3_powerOfTen 10 = .ok (.bipush 9, 2) := by decide +kernel
theorem dX3_powerOfTen_12 : decode cX3_powerOfTen 12 = .ok (.if_icmp .ge 15, 3) := by decide +kernel
theorem dX3_powerOfTen_15 : decode cX3_powerOfTen 15 = .ok (.lload_n 1, 1) := by decide +kernel
theorem dX3_powerOfTen_16 : decode cX3_powerOfTen 16 = .ok (.ldc2_w 245, 3) := by decide +kernel
theorem dX3_powerOfTen_19 : decode cX3_powerOfTen 19 = .ok (.lmul, 1) := by decide +kernel
theorem dX3_powerOfTen_20 : decode cX3_powerOfTen 20 = .ok (.lstore_n 1, 1) := by decide +kernel
theorem dX3_powerOfTen_21 : decode cX3_powerOfTen 21 = .ok (.iinc 3 1, 3) := by decide +kernel
theorem dX3_powerOfTen_24 : decode cX3_powerOfTen 24 = .ok (.goto (-20), 3) := by decide +kernel
theorem dX3_powerOfTen_27 : decode cX3_powerOfTen 27 = .ok (.lload_n 1, 1) := by decide +kernel
theorem dX3_powerOfTen_28 : decode cX3_powerOfTen 28 = .ok (.lreturn, 1) := by decide +kernel
theorem dX3_commonDivisor_0 : decode cX3_commonDivisor 0 = .ok (.lload_n 0, 1) := by decide +kernel
theorem dX3_commonDivisor_1 : decode cX3_commonDivisor 1 = .ok (.invokestatic 247, 3) := by decide +kernel
theorem dX3_commonDivisor_4 : decode cX3_commonDivisor 4 = .ok (.lstore 4, 2) := by decide +kernel
theorem dX3_commonDivisor_6 : decode cX3_commonDivisor 6 = .ok (.lload_n 2, 1) := by decide +kernel
theorem dX3_commonDivisor_7 : decode cX3_commonDivisor 7 = .ok (.invokestatic 247, 3) := by decide +kernel
theorem dX3_commonDivisor_10 : decode cX3_commonDivisor 10 = .ok (.lstore 6, 2) := by decide +kernel
theorem dX3_commonDivisor_12 : decode cX3_commonDivisor 12 = .ok (.iconst 0, 1) := by decide +kernel
theorem dX3_commonDivisor_13 : decode cX3_commonDivisor 13 = .ok (.istore 8, 2) := by decide +kernel
theorem dX3_commonDivisor_15 : decode cX3_commonDivisor 15 = .ok (.iload 8, 2) := by decide +kernel
theorem dX3_commonDivisor_17 : decode cX3_commonDivisor 17 = .ok (.sipush 200, 3) := by decide +kernel
theorem dX3_commonDivisor_20 : decode cX3_commonDivisor 20 = .ok (.if_icmp .ge 31, 3) := by decide +kernel
theorem dX3_commonDivisor_23 : decode cX3_commonDivisor 23 = .ok (.lload 6, 2) := by decide +kernel
theorem dX3_commonDivisor_25 : decode cX3_commonDivisor 25 = .ok (.lconst 0, 1) := by decide +kernel
theorem dX3_commonDivisor_26 : decode cX3_commonDivisor 26 = .ok (.lcmp, 1) := by decide +kernel
theorem dX3_commonDivisor_27 : decode cX3_commonDivisor 27 = .ok (.ifCond .eq 24, 3) := by decide +kernel
theorem dX3_commonDivisor_30 : decode cX3_commonDivisor 30 = .ok (.lload 4, 2) := by decide +kernel
theorem dX3_commonDivisor_32 : decode cX3_commonDivisor 32 = .ok (.lload 6, 2) := by decide +kernel
theorem dX3_commonDivisor_34 : decode cX3_commonDivisor 34 = .ok (.lrem, 1) := by decide +kernel
theorem dX3_commonDivisor_35 : decode cX3_commonDivisor 35 = .ok (.lstore 9, 2) := by decide +kernel
theorem dX3_commonDivisor_37 : decode cX3_commonDivisor 37 = .ok (.lload 6, 2) := by decide +kernel
theorem dX3_commonDivisor_39 : decode cX3_commonDivisor 39 = .ok (.lstore 4, 2) := by decide +kernel
theorem dX3_commonDivisor_41 : decode cX3_commonDivisor 41 = .ok (.lload 9, 2) := by decide +kernel
theorem dX3_commonDivisor_43 : decode cX3_commonDivisor 43 = .ok (.lstore 6, 2) := by decide +kernel
theorem dX3_commonDivisor_45 : decode cX3_commonDivisor 45 = .ok (.iinc 8 1, 3) := by decide +kernel
theorem dX3_commonDivisor_48 : decode cX3_commonDivisor 48 = .ok (.goto (-33), 3) := by decide +kernel
theorem dX3_commonDivisor_51 : decode cX3_commonDivisor 51 = .ok (.lload 4, 2) := by decide +kernel
theorem dX3_commonDivisor_53 : decode cX3_commonDivisor 53 = .ok (.lreturn, 1) := by decide +kernel
theorem dX3_mind_0 : decode cX3_mind 0 = .ok (.iload_n 2, 1) := by decide +kernel
theorem dX3_mind_1 : decode cX3_mind 1 = .ok (.sipush 10000, 3) := by decide +kernel
theorem dX3_mind_4 : decode cX3_mind 4 = .ok (.imul, 1) := by decide +kernel
theorem dX3_mind_5 : decode cX3_mind 5 = .ok (.iload_n 0, 1) := by decide +kernel
theorem dX3_mind_6 : decode cX3_mind 6 = .ok (.bipush 100, 2) := by decide +kernel
theorem dX3_mind_8 : decode cX3_mind 8 = .ok (.imul, 1) := by decide +kernel
theorem dX3_mind_9 : decode cX3_mind 9 = .ok (.iadd, 1) := by decide +kernel
theorem dX3_mind_10 : decode cX3_mind 10 = .ok (.iload_n 1, 1) := by decide +kernel
theorem dX3_mind_11 : decode cX3_mind 11 = .ok (.iadd, 1) := by decide +kernel
theorem dX3_mind_12 : decode cX3_mind 12 = .ok (.ireturn, 1) := by decide +kernel
theorem dX3_angerOf_0 : decode cX3_angerOf 0 = .ok (.iload_n 0, 1) := by decide +kernel
theorem dX3_angerOf_1 : decode cX3_angerOf 1 = .ok (.sipush 10000, 3) := by decide +kernel
theorem dX3_angerOf_4 : decode cX3_angerOf 4 = .ok (.irem, 1) := by decide +kernel
theorem dX3_angerOf_5 : decode cX3_angerOf 5 = .ok (.bipush 100, 2) := by decide +kernel
theorem dX3_angerOf_7 : decode cX3_angerOf 7 = .ok (.idiv, 1) := by decide +kernel
theorem dX3_angerOf_8 : decode cX3_angerOf 8 = .ok (.ireturn, 1) := by decide +kernel
theorem dX3_prideOf_0 : decode cX3_prideOf 0 = .ok (.iload_n 0, 1) := by decide +kernel
theorem dX3_prideOf_1 : decode cX3_prideOf 1 = .ok (.bipush 100, 2) := by decide +kernel
theorem dX3_prideOf_3 : decode cX3_prideOf 3 = .ok (.irem, 1) := by decide +kernel
theorem dX3_prideOf_4 : decode cX3_prideOf 4 = .ok (.ireturn, 1) := by decide +kernel
theorem dX3_beingOf_0 : decode cX3_beingOf 0 = .ok (.iload_n 0, 1) := by decide +kernel
theorem dX3_beingOf_1 : decode cX3_beingOf 1 = .ok (.sipush 10000, 3) := by decide +kernel
theorem dX3_beingOf_4 : decode cX3_beingOf 4 = .ok (.idiv, 1) := by decide +kernel
theorem dX3_beingOf_5 : decode cX3_beingOf 5 = .ok (.ireturn, 1) := by decide +kernel
theorem dX3_kept_0 : decode cX3_kept 0 = .ok (.iconst 0, 1) := by decide +kernel
theorem dX3_kept_1 : decode cX3_kept 1 = .ok (.bipush 99, 2) := by decide +kernel
theorem dX3_kept_3 : decode cX3_kept 3 = .ok (.iload_n 0, 1) := by decide +kernel
theorem dX3_kept_4 : decode cX3_kept 4 = .ok (.invokestatic 253, 3) := by decide +kernel
theorem dX3_kept_7 : decode cX3_kept 7 = .ok (.invokestatic 256, 3) := by decide +kernel
theorem dX3_kept_10 : decode cX3_kept 10 = .ok (.ireturn, 1) := by decide +kernel
theorem dX3_angerMove_0 : decode cX3_angerMove 0 = .ok (.getstatic 259, 3) := by decide +kernel
theorem dX3_angerMove_3 : decode cX3_angerMove 3 = .ok (.iload_n 1, 1) := by decide +kernel
theorem dX3_angerMove_4 : decode cX3_angerMove 4 = .ok (.invokestatic 91, 3) := by decide +kernel
theorem dX3_angerMove_7 : decode cX3_angerMove 7 = .ok (.istore_n 3, 1) := by decide +kernel
theorem dX3_angerMove_8 : decode cX3_angerMove 8 = .ok (.iload_n 0, 1) := by decide +kernel
theorem dX3_angerMove_9 : decode cX3_angerMove 9 = .ok (.tableswitch 63 1 5 #[35, 39, 63, 43, 57], 35) := by decide +kernel
theorem dX3_angerMove_44 : decode cX3_angerMove 44 = .ok (.iload_n 3, 1) := by decide +kernel
theorem dX3_angerMove_45 : decode cX3_angerMove 45 = .ok (.iconst 2, 1) := by decide +kernel
theorem dX3_angerMove_46 : decode cX3_angerMove 46 = .ok (.idiv, 1) := by decide +kernel
theorem dX3_angerMove_47 : decode cX3_angerMove 47 = .ok (.ireturn, 1) := by decide +kernel
theorem dX3_angerMove_48 : decode cX3_angerMove 48 = .ok (.iload_n 3, 1) := by decide +kernel
theorem dX3_angerMove_49 : decode cX3_angerMove 49 = .ok (.iconst 1, 1) := by decide +kernel
theorem dX3_angerMove_50 : decode cX3_angerMove 50 = .ok (.isub, 1) := by decide +kernel
theorem dX3_angerMove_51 : decode cX3_angerMove 51 = .ok (.ireturn, 1) := by decide +kernel
theorem dX3_angerMove_52 : decode cX3_angerMove 52 = .ok (.iload_n 2, 1) := by decide +kernel
theorem dX3_angerMove_53 : decode cX3_angerMove 53 = .ok (.iconst 2, 1) := by decide +kernel
theorem dX3_angerMove_54 : decode cX3_angerMove 54 = .ok (.irem, 1) := by decide +kernel
theorem dX3_angerMove_55 : decode cX3_angerMove 55 = .ok (.ifCond .eq 7, 3) := by decide +kernel
theorem dX3_angerMove_58 : decode cX3_angerMove 58 = .ok (.iconst 0, 1) := by decide +kernel
theorem dX3_angerMove_59 : decode cX3_angerMove 59 = .ok (.goto 6, 3) := by decide +kernel
theorem dX3_angerMove_62 : decode cX3_angerMove 62 = .ok (.iload_n 3, 1) := by decide +kernel
theorem dX3_angerMove_63 : decode cX3_angerMove 63 = .ok (.iconst 2, 1) := by decide +kernel
theorem dX3_angerMove_64 : decode cX3_angerMove 64 = .ok (.idiv, 1) := by decide +kernel
theorem dX3_angerMove_65 : decode cX3_angerMove 65 = .ok (.ireturn, 1) := by decide +kernel
theorem dX3_angerMove_66 : decode cX3_angerMove 66 = .ok (.iconst 2, 1) := by decide +kernel
theorem dX3_angerMove_67 : decode cX3_angerMove 67 = .ok (.iload_n 3, 1) := by decide +kernel
theorem dX3_angerMove_68 : decode cX3_angerMove 68 = .ok (.iconst 1, 1) := by decide +kernel
theorem dX3_angerMove_69 : decode cX3_angerMove 69 = .ok (.isub, 1) := by decide +kernel
theorem dX3_angerMove_70 : decode cX3_angerMove 70 = .ok (.imul, 1) := by decide +kernel
theorem dX3_angerMove_71 : decode cX3_angerMove 71 = .ok (.ireturn, 1) := by decide +kernel
theorem dX3_angerMove_72 : decode cX3_angerMove 72 = .ok (.iload_n 3, 1) := by decide +kernel
theorem dX3_angerMove_73 : decode cX3_angerMove 73 = .ok (.ireturn, 1) := by decide +kernel
theorem dX3_prideMove_0 : decode cX3_prideMove 0 = .ok (.getstatic 262, 3) := by decide +kernel
theorem dX3_prideMove_3 : decode cX3_prideMove 3 = .ok (.iload_n 1, 1) := by decide +kernel
theorem dX3_prideMove_4 : decode cX3_prideMove 4 = .ok (.invokestatic 91, 3) := by decide +kernel
theorem dX3_prideMove_7 : decode cX3_prideMove 7 = .ok (.istore_n 3, 1) := by decide +kernel
theorem dX3_prideMove_8 : decode cX3_prideMove 8 = .ok (.iload_n 0, 1) := by decide +kernel
theorem dX3_prideMove_9 : decode cX3_prideMove 9 = .ok (.tableswitch 46 3 5 #[27, 30, 42], 27) := by decide +kernel
theorem dX3_prideMove_36 : decode cX3_prideMove 36 = .ok (.iload_n 3, 1) := by decide +kernel
theorem dX3_prideMove_37 : decode cX3_prideMove 37 = .ok (.ineg, 1) := by decide +kernel
theorem dX3_prideMove_38 : decode cX3_prideMove 38 = .ok (.ireturn, 1) := by decide +kernel
theorem dX3_prideMove_39 : decode cX3_prideMove 39 = .ok (.iload_n 2, 1) := by decide +kernel
theorem dX3_prideMove_40 : decode cX3_prideMove 40 = .ok (.iconst 2, 1) := by decide +kernel
theorem dX3_prideMove_41 : decode cX3_prideMove 41 = .ok (.irem, 1) := by decide +kernel
theorem dX3_prideMove_42 : decode cX3_prideMove 42 = .ok (.ifCond .eq 7, 3) := by decide +kernel
theorem dX3_prideMove_45 : decode cX3_prideMove 45 = .ok (.iconst 0, 1) := by decide +kernel
theorem dX3_prideMove_46 : decode cX3_prideMove 46 = .ok (.goto 4, 3) := by decide +kernel
theorem dX3_prideMove_49 : decode cX3_prideMove 49 = .ok (.iload_n 3, 1) := by decide +kernel
theorem dX3_prideMove_50 : decode cX3_prideMove 50 = .ok (.ireturn, 1) := by decide +kernel
theorem dX3_prideMove_51 : decode cX3_prideMove 51 = .ok (.iload_n 3, 1) := by decide +kernel
theorem dX3_prideMove_52 : decode cX3_prideMove 52 = .ok (.iconst 1, 1) := by decide +kernel
theorem dX3_prideMove_53 : decode cX3_prideMove 53 = .ok (.iadd, 1) := by decide +kernel
theorem dX3_prideMove_54 : decode cX3_prideMove 54 = .ok (.ireturn, 1) := by decide +kernel
theorem dX3_prideMove_55 : decode cX3_prideMove 55 = .ok (.iload_n 3, 1) := by decide +kernel
theorem dX3_prideMove_56 : decode cX3_prideMove 56 = .ok (.ireturn, 1) := by decide +kernel
theorem dX3_moveAlike_0 : decode cX3_moveAlike 0 = .ok (.iload_n 0, 1) := by decide +kernel
theorem dX3_moveAlike_1 : decode cX3_moveAlike 1 = .ok (.iload_n 2, 1) := by decide +kernel
theorem dX3_moveAlike_2 : decode cX3_moveAlike 2 = .ok (.iload_n 3, 1) := by decide +kernel
theorem dX3_moveAlike_3 : decode cX3_moveAlike 3 = .ok (.invokestatic 147, 3) := by decide +kernel
theorem dX3_moveAlike_6 : decode cX3_moveAlike 6 = .ok (.iload_n 1, 1) := by decide +kernel
theorem dX3_moveAlike_7 : decode cX3_moveAlike 7 = .ok (.iload_n 2, 1) := by decide +kernel
theorem dX3_moveAlike_8 : decode cX3_moveAlike 8 = .ok (.iload_n 3, 1) := by decide +kernel
theorem dX3_moveAlike_9 : decode cX3_moveAlike 9 = .ok (.invokestatic 147, 3) := by decide +kernel
theorem dX3_moveAlike_12 : decode cX3_moveAlike 12 = .ok (.if_icmp .ne 22, 3) := by decide +kernel
theorem dX3_moveAlike_15 : decode cX3_moveAlike 15 = .ok (.iload_n 0, 1) := by decide +kernel
theorem dX3_moveAlike_16 : decode cX3_moveAlike 16 = .ok (.iload_n 2, 1) := by decide +kernel
theorem dX3_moveAlike_17 : decode cX3_moveAlike 17 = .ok (.iload_n 3, 1) := by decide +kernel
theorem dX3_moveAlike_18 : decode cX3_moveAlike 18 = .ok (.invokestatic 150, 3) := by decide +kernel
theorem dX3_moveAlike_21 : decode cX3_moveAlike 21 = .ok (.iload_n 1, 1) := by decide +kernel
theorem dX3_moveAlike_22 : decode cX3_moveAlike 22 = .ok (.iload_n 2, 1) := by decide +kernel
theorem dX3_moveAlike_23 : decode cX3_moveAlike 23 = .ok (.iload_n 3, 1) := by decide +kernel
theorem dX3_moveAlike_24 : decode cX3_moveAlike 24 = .ok (.invokestatic 150, 3) := by decide +kernel
theorem dX3_moveAlike_27 : decode cX3_moveAlike 27 = .ok (.if_icmp .ne 7, 3) := by decide +kernel
theorem dX3_moveAlike_30 : decode cX3_moveAlike 30 = .ok (.iconst 1, 1) := by decide +kernel
theorem dX3_moveAlike_31 : decode cX3_moveAlike 31 = .ok (.goto 4, 3) := by decide +kernel
theorem dX3_moveAlike_34 : decode cX3_moveAlike 34 = .ok (.iconst 0, 1) := by decide +kernel
theorem dX3_moveAlike_35 : decode cX3_moveAlike 35 = .ok (.ireturn, 1) := by decide +kernel
theorem dX3_mostAlike_0 : decode cX3_mostAlike 0 = .ok (.iconst 0, 1) := by decide +kernel
theorem dX3_mostAlike_1 : decode cX3_mostAlike 1 = .ok (.istore_n 3, 1) := by decide +kernel
theorem dX3_mostAlike_2 : decode cX3_mostAlike 2 = .ok (.iconst 0, 1) := by decide +kernel
theorem dX3_mostAlike_3 : decode cX3_mostAlike 3 = .ok (.istore 4, 2) := by decide +kernel
theorem dX3_mostAlike_5 : decode cX3_mostAlike 5 = .ok (.iload 4, 2) := by decide +kernel
theorem dX3_mostAlike_7 : decode cX3_mostAlike 7 = .ok (.bipush 6, 2) := by decide +kernel
theorem dX3_mostAlike_9 : decode cX3_mostAlike 9 = .ok (.if_icmp .ge 82, 3) := by decide +kernel
theorem dX3_mostAlike_12 : decode cX3_mostAlike 12 = .ok (.iconst 0, 1) := by decide +kernel
theorem dX3_mostAlike_13 : decode cX3_mostAlike 13 = .ok (.istore 5, 2) := by decide +kernel
theorem dX3_mostAlike_15 : decode cX3_mostAlike 15 = .ok (.iconst 0, 1) := by decide +kernel
theorem dX3_mostAlike_16 : decode cX3_mostAlike 16 = .ok (.istore 6, 2) := by decide +kernel
theorem dX3_mostAlike_18 : decode cX3_mostAlike 18 = .ok (.iload 6, 2) := by decide +kernel
theorem dX3_mostAlike_20 : decode cX3_mostAlike 20 = .ok (.bipush 6, 2) := by decide +kernel
theorem dX3_mostAlike_22 : decode cX3_mostAlike 22 = .ok (.if_icmp .ge 56, 3) := by decide +kernel
theorem dX3_mostAlike_25 : decode cX3_mostAlike 25 = .ok (.iload_n 0, 1) := by decide +kernel
theorem dX3_mostAlike_26 : decode cX3_mostAlike 26 = .ok (.iload 4, 2) := by decide +kernel
theorem dX3_mostAlike_28 : decode cX3_mostAlike 28 = .ok (.ishr, 1) := by decide +kernel
theorem dX3_mostAlike_29 : decode cX3_mostAlike 29 = .ok (.iconst 1, 1) := by decide +kernel
theorem dX3_mostAlike_30 : decode cX3_mostAlike 30 = .ok (.iand, 1) := by decide +kernel
theorem dX3_mostAlike_31 : decode cX3_mostAlike 31 = .ok (.iconst 1, 1) := by decide +kernel
theorem dX3_mostAlike_32 : decode cX3_mostAlike 32 = .ok (.if_icmp .ne 17, 3) := by decide +kernel
theorem dX3_mostAlike_35 : decode cX3_mostAlike 35 = .ok (.iload_n 0, 1) := by decide +kernel
theorem dX3_mostAlike_36 : decode cX3_mostAlike 36 = .ok (.iload 6, 2) := by decide +kernel
theorem dX3_mostAlike_38 : decode cX3_mostAlike 38 = .ok (.ishr, 1) := by decide +kernel
theorem dX3_mostAlike_39 : decode cX3_mostAlike 39 = .ok (.iconst 1, 1) := by decide +kernel
theorem dX3_mostAlike_40 : decode cX3_mostAlike 40 = .ok (.iand, 1) := by decide +kernel
theorem dX3_mostAlike_41 : decode cX3_mostAlike 41 = .ok (.iconst 1, 1) := by decide +kernel
theorem dX3_mostAlike_42 : decode cX3_mostAlike 42 = .ok (.if_icmp .ne 7, 3) := by decide +kernel
theorem dX3_mostAlike_45 : decode cX3_mostAlike 45 = .ok (.iconst 1, 1) := by decide +kernel
theorem dX3_mostAlike_46 : decode cX3_mostAlike 46 = .ok (.goto 4, 3) := by decide +kernel
theorem dX3_mostAlike_49 : decode cX3_mostAlike 49 = .ok (.iconst 0, 1) := by decide +kernel
theorem dX3_mostAlike_50 : decode cX3_mostAlike 50 = .ok (.istore 7, 2) := by decide +kernel
theorem dX3_mostAlike_52 : decode cX3_mostAlike 52 = .ok (.iload 7, 2) := by decide +kernel
theorem dX3_mostAlike_54 : decode cX3_mostAlike 54 = .ok (.ifCond .eq 18, 3) := by decide +kernel
theorem dX3_mostAlike_57 : decode cX3_mostAlike 57 = .ok (.iload 4, 2) := by decide +kernel
theorem dX3_mostAlike_59 : decode cX3_mostAlike 59 = .ok (.iload 6, 2) := by decide +kernel
theorem dX3_mostAlike_61 : decode cX3_mostAlike 61 = .ok (.iload_n 1, 1) := by decide +kernel
theorem dX3_mostAlike_62 : decode cX3_mostAlike 62 = .ok (.iload_n 2, 1) := by decide +kernel
theorem dX3_mostAlike_63 : decode cX3_mostAlike 63 = .ok (.invokestatic 265, 3) := by decide +kernel
theorem dX3_mostAlike_66 : decode cX3_mostAlike 66 = .ok (.ifCond .eq 6, 3) := by decide +kernel
theorem dX3_mostAlike_69 : decode cX3_mostAlike 69 = .ok (.iinc 5 1, 3) := by decide +kernel
theorem dX3_mostAlike_72 : decode cX3_mostAlike 72 = .ok (.iinc 6 1, 3) := by decide +kernel
theorem dX3_mostAlike_75 : decode cX3_mostAlike 75 = .ok (.goto (-57), 3) := by decide +kernel
theorem dX3_mostAlike_78 : decode cX3_mostAlike 78 = .ok (.iload_n 3, 1) := by decide +kernel
theorem dX3_mostAlike_79 : decode cX3_mostAlike 79 = .ok (.iload 5, 2) := by decide +kernel
theorem dX3_mostAlike_81 : decode cX3_mostAlike 81 = .ok (.invokestatic 256, 3) := by decide +kernel
theorem dX3_mostAlike_84 : decode cX3_mostAlike 84 = .ok (.istore_n 3, 1) := by decide +kernel
theorem dX3_mostAlike_85 : decode cX3_mostAlike 85 = .ok (.iinc 4 1, 3) := by decide +kernel
theorem dX3_mostAlike_88 : decode cX3_mostAlike 88 = .ok (.goto (-83), 3) := by decide +kernel
theorem dX3_mostAlike_91 : decode cX3_mostAlike 91 = .ok (.iload_n 3, 1) := by decide +kernel
theorem dX3_mostAlike_92 : decode cX3_mostAlike 92 = .ok (.ireturn, 1) := by decide +kernel
theorem dX3_readItems_0 : decode cX3_readItems 0 = .ok (.aload_n 1, 1) := by decide +kernel
theorem dX3_readItems_1 : decode cX3_readItems 1 = .ok (.iconst 0, 1) := by decide +kernel
theorem dX3_readItems_2 : decode cX3_readItems 2 = .ok (.invokevirtual 56, 3) := by decide +kernel
theorem dX3_readItems_5 : decode cX3_readItems 5 = .ok (.aload_n 0, 1) := by decide +kernel
theorem dX3_readItems_6 : decode cX3_readItems 6 = .ok (.iconst 0, 1) := by decide +kernel
theorem dX3_readItems_7 : decode cX3_readItems 7 = .ok (.putfield 269, 3) := by decide +kernel
theorem dX3_readItems_10 : decode cX3_readItems 10 = .ok (.iconst 0, 1) := by decide +kernel
theorem dX3_readItems_11 : decode cX3_readItems 11 = .ok (.istore_n 2, 1) := by decide +kernel
theorem dX3_readItems_12 : decode cX3_readItems 12 = .ok (.iload_n 2, 1) := by decide +kernel
theorem dX3_readItems_13 : decode cX3_readItems 13 = .ok (.sipush 150, 3) := by decide +kernel
theorem dX3_readItems_16 : decode cX3_readItems 16 = .ok (.if_icmp .gt 64, 3) := by decide +kernel
theorem dX3_readItems_19 : decode cX3_readItems 19 = .ok (.aload_n 0, 1) := by decide +kernel
theorem dX3_readItems_20 : decode cX3_readItems 20 = .ok (.invokevirtual 272, 3) := by decide +kernel
theorem dX3_readItems_23 : decode cX3_readItems 23 = .ok (.aload_n 0, 1) := by decide +kernel
theorem dX3_readItems_24 : decode cX3_readItems 24 = .ok (.getfield 275, 3) := by decide +kernel
theorem dX3_readItems_27 : decode cX3_readItems 27 = .ok (.ifCond .ne 9, 3) := by decide +kernel
theorem dX3_readItems_30 : decode cX3_readItems 30 = .ok (.iload_n 2, 1) := by decide +kernel
theorem dX3_readItems_31 : decode cX3_readItems 31 = .ok (.ifCond .le 5, 3) := by decide +kernel
theorem dX3_readItems_34 : decode cX3_readItems 34 = .ok (.iload_n 2, 1) := by decide +kernel
theorem dX3_readItems_35 : decode cX3_readItems 35 = .ok (.ireturn, 1) := by decide +kernel
theorem dX3_readItems_36 : decode cX3_readItems 36 = .ok (.iload_n 2, 1) := by decide +kernel
theorem dX3_readItems_37 : decode cX3_readItems 37 = .ok (.ifCond .ne 11, 3) := by decide +kernel
theorem dX3_readItems_40 : decode cX3_readItems 40 = .ok (.aload_n 0, 1) := by decide +kernel
theorem dX3_readItems_41 : decode cX3_readItems 41 = .ok (.aload_n 1, 1) := by decide +kernel
theorem dX3_readItems_42 : decode cX3_readItems 42 = .ok (.invokestatic 278, 3) := by decide +kernel
theorem dX3_readItems_45 : decode cX3_readItems 45 = .ok (.goto 8, 3) := by decide +kernel
theorem dX3_readItems_48 : decode cX3_readItems 48 = .ok (.aload_n 0, 1) := by decide +kernel
theorem dX3_readItems_49 : decode cX3_readItems 49 = .ok (.aload_n 1, 1) := by decide +kernel
theorem dX3_readItems_50 : decode cX3_readItems 50 = .ok (.invokestatic 282, 3) := by decide +kernel
theorem dX3_readItems_53 : decode cX3_readItems 53 = .ok (.istore_n 3, 1) := by decide +kernel
theorem dX3_readItems_54 : decode cX3_readItems 54 = .ok (.iload_n 3, 1) := by decide +kernel
theorem dX3_readItems_55 : decode cX3_readItems 55 = .ok (.ifCond .ne 5, 3) := by decide +kernel
theorem dX3_readItems_58 : decode cX3_readItems 58 = .ok (.iconst (-1), 1) := by decide +kernel
theorem dX3_readItems_59 : decode cX3_readItems 59 = .ok (.ireturn, 1) := by decide +kernel
theorem dX3_readItems_60 : decode cX3_readItems 60 = .ok (.aload_n 0, 1) := by decide +kernel
theorem dX3_readItems_61 : decode cX3_readItems 61 = .ok (.invokevirtual 272, 3) := by decide +kernel
theorem dX3_readItems_64 : decode cX3_readItems 64 = .ok (.aload_n 0, 1) := by decide +kernel
theorem dX3_readItems_65 : decode cX3_readItems 65 = .ok (.getfield 275, 3) := by decide +kernel
theorem dX3_readItems_68 : decode cX3_readItems 68 = .ok (.iconst 3, 1) := by decide +kernel
theorem dX3_readItems_69 : decode cX3_readItems 69 = .ok (.if_icmp .eq 5, 3) := by decide +kernel
theorem dX3_readItems_72 : decode cX3_readItems 72 = .ok (.iconst (-1), 1) := by decide +kernel
theorem dX3_readItems_73 : decode cX3_readItems 73 = .ok (.ireturn, 1) := by decide +kernel
theorem dX3_readItems_74 : decode cX3_readItems 74 = .ok (.iinc 2 1, 3) := by decide +kernel
theorem dX3_readItems_77 : decode cX3_readItems 77 = .ok (.goto (-65), 3) := by decide +kernel
theorem dX3_readItems_80 : decode cX3_readItems 80 = .ok (.iconst (-1), 1) := by decide +kernel
theorem dX3_readItems_81 : decode cX3_readItems 81 = .ok (.ireturn, 1) := by decide +kernel
theorem dX3_readFirst_0 : decode cX3_readFirst 0 = .ok (.aload_n 0, 1) := by decide +kernel
theorem dX3_readFirst_1 : decode cX3_readFirst 1 = .ok (.ldc_w 285, 3) := by decide +kernel
theorem dX3_readFirst_4 : decode cX3_readFirst 4 = .ok (.invokevirtual 286, 3) := by decide +kernel
theorem dX3_readFirst_7 : decode cX3_readFirst 7 = .ok (.ifCond .eq 12, 3) := by decide +kernel
theorem dX3_readFirst_10 : decode cX3_readFirst 10 = .ok (.aload_n 0, 1) := by decide +kernel
theorem dX3_readFirst_11 : decode cX3_readFirst 11 = .ok (.iconst 0, 1) := by decide +kernel
theorem dX3_readFirst_12 : decode cX3_readFirst 12 = .ok (.iconst 5, 1) := by decide +kernel
theorem dX3_readFirst_13 : decode cX3_readFirst 13 = .ok (.invokevirtual 290, 3) := by decide +kernel
theorem dX3_readFirst_16 : decode cX3_readFirst 16 = .ok (.ifCond .ne 5, 3) := by decide +kernel
theorem dX3_readFirst_19 : decode cX3_readFirst 19 = .ok (.iconst 0, 1) := by decide +kernel
theorem dX3_readFirst_20 : decode cX3_readFirst 20 = .ok (.ireturn, 1) := by decide +kernel
theorem dX3_readFirst_21 : decode cX3_readFirst 21 = .ok (.aload_n 1, 1) := by decide +kernel
theorem dX3_readFirst_22 : decode cX3_readFirst 22 = .ok (.aload_n 0, 1) := by decide +kernel
theorem dX3_readFirst_23 : decode cX3_readFirst 23 = .ok (.getfield 294, 3) := by decide +kernel
theorem dX3_readFirst_26 : decode cX3_readFirst 26 = .ok (.invokevirtual 56, 3) := by decide +kernel
theorem dX3_readFirst_29 : decode cX3_readFirst 29 = .ok (.iconst 1, 1) := by decide +kernel
theorem dX3_readFirst_30 : decode cX3_readFirst 30 = .ok (.ireturn, 1) := by decide +kernel
theorem dX3_readItem_0 : decode cX3_readItem 0 = .ok (.aload_n 0, 1) := by decide +kernel
theorem dX3_readItem_1 : decode cX3_readItem 1 = .ok (.ldc_w 297, 3) := by decide +kernel
theorem dX3_readItem_4 : decode cX3_readItem 4 = .ok (.invokevirtual 286, 3) := by decide +kernel
theorem dX3_readItem_7 : decode cX3_readItem 7 = .ok (.ifCond .eq 9, 3) := by decide +kernel
theorem dX3_readItem_10 : decode cX3_readItem 10 = .ok (.aload_n 0, 1) := by decide +kernel
theorem dX3_readItem_11 : decode cX3_readItem 11 = .ok (.aload_n 1, 1) := by decide +kernel
theorem dX3_readItem_12 : decode cX3_readItem 12 = .ok (.invokestatic 299, 3) := by decide +kernel
theorem dX3_readItem_15 : decode cX3_readItem 15 = .ok (.ireturn, 1) := by decide +kernel
theorem dX3_readItem_16 : decode cX3_readItem 16 = .ok (.aload_n 0, 1) := by decide +kernel
theorem dX3_readItem_17 : decode cX3_readItem 17 = .ok (.ldc_w 302, 3) := by decide +kernel
theorem dX3_readItem_20 : decode cX3_readItem 20 = .ok (.invokevirtual 286, 3) := by decide +kernel
theorem dX3_readItem_23 : decode cX3_readItem 23 = .ok (.ifCond .eq 9, 3) := by decide +kernel
theorem dX3_readItem_26 : decode cX3_readItem 26 = .ok (.aload_n 0, 1) := by decide +kernel
theorem dX3_readItem_27 : decode cX3_readItem 27 = .ok (.aload_n 1, 1) := by decide +kernel
theorem dX3_readItem_28 : decode cX3_readItem 28 = .ok (.invokestatic 304, 3) := by decide +kernel
theorem dX3_readItem_31 : decode cX3_readItem 31 = .ok (.ireturn, 1) := by decide +kernel
theorem dX3_readItem_32 : decode cX3_readItem 32 = .ok (.aload_n 0, 1) := by decide +kernel
theorem dX3_readItem_33 : decode cX3_readItem 33 = .ok (.ldc_w 307, 3) := by decide +kernel
theorem dX3_readItem_36 : decode cX3_readItem 36 = .ok (.invokevirtual 286, 3) := by decide +kernel
theorem dX3_readItem_39 : decode cX3_readItem 39 = .ok (.ifCond .eq 9, 3) := by decide +kernel
theorem dX3_readItem_42 : decode cX3_readItem 42 = .ok (.aload_n 0, 1) := by decide +kernel
theorem dX3_readItem_43 : decode cX3_readItem 43 = .ok (.aload_n 1, 1) := by decide +kernel
theorem dX3_readItem_44 : decode cX3_readItem 44 = .ok (.invokestatic 309, 3) := by decide +kernel
theorem dX3_readItem_47 : decode cX3_readItem 47 = .ok (.ireturn, 1) := by decide +kernel
theorem dX3_readItem_48 : decode cX3_readItem 48 = .ok (.aload_n 0, 1) := by decide +kernel
theorem dX3_readItem_49 : decode cX3_readItem 49 = .ok (.ldc_w 312, 3) := by decide +kernel
theorem dX3_readItem_52 : decode cX3_readItem 52 = .ok (.invokevirtual 286, 3) := by decide +kernel
theorem dX3_readItem_55 : decode cX3_readItem 55 = .ok (.ifCond .eq 15, 3) := by decide +kernel
theorem dX3_readItem_58 : decode cX3_readItem 58 = .ok (.aload_n 0, 1) := by decide +kernel
theorem dX3_readItem_59 : decode cX3_readItem 59 = .ok (.aload_n 1, 1) := by decide +kernel
theorem dX3_readItem_60 : decode cX3_readItem 60 = .ok (.invokestatic 314, 3) := by decide +kernel
theorem dX3_readItem_63 : decode cX3_readItem 63 = .ok (.ifCond .eq 7, 3) := by decide +kernel
theorem dX3_readItem_66 : decode cX3_readItem 66 = .ok (.iconst 1, 1) := by decide +kernel
theorem dX3_readItem_67 : decode cX3_readItem 67 = .ok (.goto 4, 3) := by decide +kernel
theorem dX3_readItem_70 : decode cX3_readItem 70 = .ok (.iconst 0, 1) := by decide +kernel
theorem dX3_readItem_71 : decode cX3_readItem 71 = .ok (.ireturn, 1) := by decide +kernel
theorem dX3_readMood_0 : decode cX3_readMood 0 = .ok (.aload_n 0, 1) := by decide +kernel
theorem dX3_readMood_1 : decode cX3_readMood 1 = .ok (.iconst 0, 1) := by decide +kernel
theorem dX3_readMood_2 : decode cX3_readMood 2 = .ok (.aload_n 1, 1) := by decide +kernel
theorem dX3_readMood_3 : decode cX3_readMood 3 = .ok (.getfield 71, 3) := by decide +kernel
theorem dX3_readMood_6 : decode cX3_readMood 6 = .ok (.iconst 1, 1) := by decide +kernel
theorem dX3_readMood_7 : decode cX3_readMood 7 = .ok (.isub, 1) := by decide +kernel
theorem dX3_readMood_8 : decode cX3_readMood 8 = .ok (.invokevirtual 290, 3) := by decide +kernel
theorem dX3_readMood_11 : decode cX3_readMood 11 = .ok (.ifCond .ne 5, 3) := by decide +kernel
theorem dX3_readMood_14 : decode cX3_readMood 14 = .ok (.iconst 0, 1) := by decide +kernel
theorem dX3_readMood_15 : decode cX3_readMood 15 = .ok (.ireturn, 1) := by decide +kernel
theorem dX3_readMood_16 : decode cX3_readMood 16 = .ok (.aload_n 0, 1) := by decide +kernel
theorem dX3_readMood_17 : decode cX3_readMood 17 = .ok (.getfield 294, 3) := by decide +kernel
theorem dX3_readMood_20 : decode cX3_readMood 20 = .ok (.istore_n 2, 1) := by decide +kernel
theorem dX3_readMood_21 : decode cX3_readMood 21 = .ok (.aload_n 0, 1) := by decide +kernel
theorem dX3_readMood_22 : decode cX3_readMood 22 = .ok (.iconst 0, 1) := by decide +kernel
theorem dX3_readMood_23 : decode cX3_readMood 23 = .ok (.bipush 99, 2) := by decide +kernel
theorem dX3_readMood_25 : decode cX3_readMood 25 = .ok (.invokevirtual 290, 3) := by decide +kernel
theorem dX3_readMood_28 : decode cX3_readMood 28 = .ok (.ifCond .ne 5, 3) := by decide +kernel
theorem dX3_readMood_31 : decode cX3_readMood 31 = .ok (.iconst 0, 1) := by decide +kernel
theorem dX3_readMood_32 : decode cX3_readMood 32 = .ok (.ireturn, 1) := by decide +kernel
theorem dX3_readMood_33 : decode cX3_readMood 33 = .ok (.aload_n 1, 1) := by decide +kernel
theorem dX3_readMood_34 : decode cX3_readMood 34 = .ok (.iload_n 2, 1) := by decide +kernel
theorem dX3_readMood_35 : decode cX3_readMood 35 = .ok (.aload_n 0, 1) := by decide +kernel
theorem dX3_readMood_36 : decode cX3_readMood 36 = .ok (.getfield 294, 3) := by decide +kernel
theorem dX3_readMood_39 : decode cX3_readMood 39 = .ok (.invokevirtual 74, 3) := by decide +kernel
theorem dX3_readMood_42 : decode cX3_readMood 42 = .ok (.iconst 1, 1) := by decide +kernel
theorem dX3_readMood_43 : decode cX3_readMood 43 = .ok (.ireturn, 1) := by decide +kernel
theorem dX3_readBound_0 : decode cX3_readBound 0 = .ok (.aload_n 0, 1) := by decide +kernel
theorem dX3_readBound_1 : decode cX3_readBound 1 = .ok (.aload_n 1, 1) := by decide +kernel
theorem dX3_readBound_2 : decode cX3_readBound 2 = .ok (.getfield 78, 3) := by decide +kernel
theorem dX3_readBound_5 : decode cX3_readBound 5 = .ok (.invokestatic 81, 3) := by decide +kernel
theorem dX3_readBound_8 : decode cX3_readBound 8 = .ok (.iconst 1, 1) := by decide +kernel
theorem dX3_readBound_9 : decode cX3_readBound 9 = .ok (.iadd, 1) := by decide +kernel
theorem dX3_readBound_10 : decode cX3_readBound 10 = .ok (.bipush 99, 2) := by decide +kernel
theorem dX3_readBound_12 : decode cX3_readBound 12 = .ok (.invokevirtual 290, 3) := by decide +kernel
theorem dX3_readBound_15 : decode cX3_readBound 15 = .ok (.ifCond .ne 5, 3) := by decide +kernel
theorem dX3_readBound_18 : decode cX3_readBound 18 = .ok (.iconst 0, 1) := by decide +kernel
theorem dX3_readBound_19 : decode cX3_readBound 19 = .ok (.ireturn, 1) := by decide +kernel
theorem dX3_readBound_20 : decode cX3_readBound 20 = .ok (.aload_n 0, 1) := by decide +kernel
theorem dX3_readBound_21 : decode cX3_readBound 21 = .ok (.getfield 294, 3) := by decide +kernel
theorem dX3_readBound_24 : decode cX3_readBound 24 = .ok (.istore_n 2, 1) := by decide +kernel
theorem dX3_readBound_25 : decode cX3_readBound 25 = .ok (.aload_n 0, 1) := by decide +kernel
theorem dX3_readBound_26 : decode cX3_readBound 26 = .ok (.iconst 1, 1) := by decide +kernel
theorem dX3_readBound_27 : decode cX3_readBound 27 = .ok (.bipush 99, 2) := by decide +kernel
theorem dX3_readBound_29 : decode cX3_readBound 29 = .ok (.invokevirtual 290, 3) := by decide +kernel
theorem dX3_readBound_32 : decode cX3_readBound 32 = .ok (.ifCond .ne 5, 3) := by decide +kernel
theorem dX3_readBound_35 : decode cX3_readBound 35 = .ok (.iconst 0, 1) := by decide +kernel
theorem dX3_readBound_36 : decode cX3_readBound 36 = .ok (.ireturn, 1) := by decide +kernel
theorem dX3_readBound_37 : decode cX3_readBound 37 = .ok (.aload_n 1, 1) := by decide +kernel
theorem dX3_readBound_38 : decode cX3_readBound 38 = .ok (.iload_n 2, 1) := by decide +kernel
theorem dX3_readBound_39 : decode cX3_readBound 39 = .ok (.putfield 71, 3) := by decide +kernel
theorem dX3_readBound_42 : decode cX3_readBound 42 = .ok (.aload_n 1, 1) := by decide +kernel
theorem dX3_readBound_43 : decode cX3_readBound 43 = .ok (.aload_n 0, 1) := by decide +kernel
theorem dX3_readBound_44 : decode cX3_readBound 44 = .ok (.getfield 294, 3) := by decide +kernel
theorem dX3_readBound_47 : decode cX3_readBound 47 = .ok (.putfield 84, 3) := by decide +kernel
theorem dX3_readBound_50 : decode cX3_readBound 50 = .ok (.iconst 1, 1) := by decide +kernel
theorem dX3_readBound_51 : decode cX3_readBound 51 = .ok (.ireturn, 1) := by decide +kernel
theorem dX3_readVow_0 : decode cX3_readVow 0 = .ok (.aload_n 0, 1) := by decide +kernel
theorem dX3_readVow_1 : decode cX3_readVow 1 = .ok (.iconst 0, 1) := by decide +kernel
theorem dX3_readVow_2 : decode cX3_readVow 2 = .ok (.bipush 7, 2) := by decide +kernel
theorem dX3_readVow_4 : decode cX3_readVow 4 = .ok (.invokevirtual 290, 3) := by decide +kernel
theorem dX3_readVow_7 : decode cX3_readVow 7 = .ok (.ifCond .ne 5, 3) := by decide +kernel
theorem dX3_readVow_10 : decode cX3_readVow 10 = .ok (.iconst 0, 1) := by decide +kernel
theorem dX3_readVow_11 : decode cX3_readVow 11 = .ok (.ireturn, 1) := by decide +kernel
theorem dX3_readVow_12 : decode cX3_readVow 12 = .ok (.aload_n 0, 1) := by decide +kernel
theorem dX3_readVow_13 : decode cX3_readVow 13 = .ok (.getfield 294, 3) := by decide +kernel
theorem dX3_readVow_16 : decode cX3_readVow 16 = .ok (.istore_n 2, 1) := by decide +kernel
theorem dX3_readVow_17 : decode cX3_readVow 17 = .ok (.aload_n 0, 1) := by decide +kernel
theorem dX3_readVow_18 : decode cX3_readVow 18 = .ok (.iconst 0, 1) := by decide +kernel
theorem dX3_readVow_19 : decode cX3_readVow 19 = .ok (.iconst 4, 1) := by decide +kernel
theorem dX3_readVow_20 : decode cX3_readVow 20 = .ok (.invokevirtual 290, 3) := by decide +kernel
theorem dX3_readVow_23 : decode cX3_readVow 23 = .ok (.ifCond .ne 5, 3) := by decide +kernel
theorem dX3_readVow_26 : decode cX3_readVow 26 = .ok (.iconst 0, 1) := by decide +kernel
theorem dX3_readVow_27 : decode cX3_readVow 27 = .ok (.ireturn, 1) := by decide +kernel
theorem dX3_readVow_28 : decode cX3_readVow 28 = .ok (.aload_n 1, 1) := by decide +kernel
theorem dX3_readVow_29 : decode cX3_readVow 29 = .ok (.getfield 87, 3) := by decide +kernel
theorem dX3_readVow_32 : decode cX3_readVow 32 = .ok (.iload_n 2, 1) := by decide +kernel
theorem dX3_readVow_33 : decode cX3_readVow 33 = .ok (.aload_n 0, 1) := by decide +kernel
theorem dX3_readVow_34 : decode cX3_readVow 34 = .ok (.getfield 294, 3) := by decide +kernel
theorem dX3_readVow_37 : decode cX3_readVow 37 = .ok (.invokestatic 95, 3) := by decide +kernel
theorem dX3_readVow_40 : decode cX3_readVow 40 = .ok (.iconst 1, 1) := by decide +kernel
theorem dX3_readVow_41 : decode cX3_readVow 41 = .ok (.ireturn, 1) := by decide +kernel
theorem dX3_readSay_0 : decode cX3_readSay 0 = .ok (.aload_n 0, 1) := by decide +kernel
theorem dX3_readSay_1 : decode cX3_readSay 1 = .ok (.iconst 0, 1) := by decide +kernel
theorem dX3_readSay_2 : decode cX3_readSay 2 = .ok (.iconst 5, 1) := by decide +kernel
theorem dX3_readSay_3 : decode cX3_readSay 3 = .ok (.invokevirtual 290, 3) := by decide +kernel
theorem dX3_readSay_6 : decode cX3_readSay 6 = .ok (.ifCond .eq 13, 3) := by decide +kernel
theorem dX3_readSay_9 : decode cX3_readSay 9 = .ok (.aload_n 1, 1) := by decide +kernel
theorem dX3_readSay_10 : decode cX3_readSay 10 = .ok (.getfield 78, 3) := by decide +kernel
theorem dX3_readSay_13 : decode cX3_readSay 13 = .ok (.invokestatic 120, 3) := by decide +kernel
theorem dX3_readSay_16 : decode cX3_readSay 16 = .ok (.ifCond .eq 5, 3) := by decide +kernel
theorem dX3_readSay_19 : decode cX3_readSay 19 = .ok (.iconst 0, 1) := by decide +kernel
theorem dX3_readSay_20 : decode cX3_readSay 20 = .ok (.ireturn, 1) := by decide +kernel
theorem dX3_readSay_21 : decode cX3_readSay 21 = .ok (.aload_n 1, 1) := by decide +kernel
theorem dX3_readSay_22 : decode cX3_readSay 22 = .ok (.aload_n 0, 1) := by decide +kernel
theorem dX3_readSay_23 : decode cX3_readSay 23 = .ok (.getfield 294, 3) := by decide +kernel
theorem dX3_readSay_26 : decode cX3_readSay 26 = .ok (.invokevirtual 126, 3) := by decide +kernel
theorem dX3_readSay_29 : decode cX3_readSay 29 = .ok (.iconst 1, 1) := by decide +kernel
theorem dX3_readSay_30 : decode cX3_readSay 30 = .ok (.ireturn, 1) := by decide +kernel
end
section
theorem dX4_init_0 : decode cX4_init 0 = .ok (.aload_n 0, 1) := by decide +kernel
theorem dX4_init_1 : decode cX4_init 1 = .ok (.invokespecial 1, 3) := by decide +kernel
theorem dX4_init_4 : decode cX4_init 4 = .ok (.aload_n 0, 1) := by decide +kernel
theorem dX4_init_5 : decode cX4_init 5 = .ok (.bipush 73, 2) := by decide +kernel
theorem dX4_init_7 : decode cX4_init 7 = .ok (.newarray .int, 2) := by decide +kernel
theorem dX4_init_9 : decode cX4_init 9 = .ok (.putfield 7, 3) := by decide +kernel
theorem dX4_init_12 : decode cX4_init 12 = .ok (.aload_n 0, 1) := by decide +kernel
theorem dX4_init_13 : decode cX4_init 13 = .ok (.bipush 6, 2) := by decide +kernel
theorem dX4_init_15 : decode cX4_init 15 = .ok (.newarray .int, 2) := by decide +kernel
theorem dX4_init_17 : decode cX4_init 17 = .ok (.putfield 13, 3) := by decide +kernel
theorem dX4_init_20 : decode cX4_init 20 = .ok (.aload_n 0, 1) := by decide +kernel
theorem dX4_init_21 : decode cX4_init 21 = .ok (.bipush 6, 2) := by decide +kernel
theorem dX4_init_23 : decode cX4_init 23 = .ok (.newarray .int, 2) := by decide +kernel
theorem dX4_init_25 : decode cX4_init 25 = .ok (.putfield 16, 3) := by decide +kernel
theorem dX4_init_28 : decode cX4_init 28 = .ok (.aload_n 0, 1) := by decide +kernel
theorem dX4_init_29 : decode cX4_init 29 = .ok (.iconst 3, 1) := by decide +kernel
theorem dX4_init_30 : decode cX4_init 30 = .ok (.newarray .int, 2) := by decide +kernel
theorem dX4_init_32 : decode cX4_init 32 = .ok (.putfield 19, 3) := by decide +kernel
theorem dX4_init_35 : decode cX4_init 35 = .ok (.aload_n 0, 1) := by decide +kernel
theorem dX4_init_36 : decode cX4_init 36 = .ok (.sipush 150, 3) := by decide +kernel
theorem dX4_init_39 : decode cX4_init 39 = .ok (.newarray .int, 2) := by decide +kernel
theorem dX4_init_41 : decode cX4_init 41 = .ok (.putfield 22, 3) := by decide +kernel
theorem dX4_init_44 : decode cX4_init 44 = .ok (.aload_n 0, 1) := by decide +kernel
theorem dX4_init_45 : decode cX4_init 45 = .ok (.bipush 73, 2) := by decide +kernel
theorem dX4_init_47 : decode cX4_init 47 = .ok (.newarray .int, 2) := by decide +kernel
theorem dX4_init_49 : decode cX4_init 49 = .ok (.putfield 25, 3) := by decide +kernel
theorem dX4_init_52 : decode cX4_init 52 = .ok (.aload_n 0, 1) := by decide +kernel
theorem dX4_init_53 : decode cX4_init 53 = .ok (.bipush 9, 2) := by decide +kernel
theorem dX4_init_55 : decode cX4_init 55 = .ok (.newarray .int, 2) := by decide +kernel
theorem dX4_init_57 : decode cX4_init 57 = .ok (.putfield 28, 3) := by decide +kernel
theorem dX4_init_60 : decode cX4_init 60 = .ok (.aload_n 0, 1) := by decide +kernel
theorem dX4_init_61 : decode cX4_init 61 = .ok (.sipush 20000, 3) := by decide +kernel
theorem dX4_init_64 : decode cX4_init 64 = .ok (.newarray .int, 2) := by decide +kernel
theorem dX4_init_66 : decode cX4_init 66 = .ok (.putfield 31, 3) := by decide +kernel
theorem dX4_init_69 : decode cX4_init 69 = .ok (.aload_n 0, 1) := by decide +kernel
theorem dX4_init_70 : decode cX4_init 70 = .ok (.ldc 34, 2) := by decide +kernel
theorem dX4_init_72 : decode cX4_init 72 = .ok (.newarray .boolean, 2) := by decide +kernel
theorem dX4_init_74 : decode cX4_init 74 = .ok (.putfield 35, 3) := by decide +kernel
theorem dX4_init_77 : decode cX4_init 77 = .ok (.aload_n 0, 1) := by decide +kernel
theorem dX4_init_78 : decode cX4_init 78 = .ok (.bipush 12, 2) := by decide +kernel
theorem dX4_init_80 : decode cX4_init 80 = .ok (.newarray .int, 2) := by decide +kernel
theorem dX4_init_82 : decode cX4_init 82 = .ok (.putfield 39, 3) := by decide +kernel
theorem dX4_init_85 : decode cX4_init 85 = .ok (.aload_n 0, 1) := by decide +kernel
theorem dX4_init_86 : decode cX4_init 86 = .ok (.lconst 1, 1) := by decide +kernel
theorem dX4_init_87 : decode cX4_init 87 = .ok (.putfield 42, 3) := by decide +kernel
theorem dX4_init_90 : decode cX4_init 90 = .ok (.aload_n 0, 1) := by decide +kernel
theorem dX4_init_91 : decode cX4_init 91 = .ok (.sipush 146, 3) := by decide +kernel
theorem dX4_init_94 : decode cX4_init 94 = .ok (.newarray .int, 2) := by decide +kernel
theorem dX4_init_96 : decode cX4_init 96 = .ok (.putfield 46, 3) := by decide +kernel
theorem dX4_init_99 : decode cX4_init 99 = .ok (.aload_n 0, 1) := by decide +kernel
theorem dX4_init_100 : decode cX4_init 100 = .ok (.iconst 2, 1) := by decide +kernel
theorem dX4_init_101 : decode cX4_init 101 = .ok (.newarray .boolean, 2) := by decide +kernel
theorem dX4_init_103 : decode cX4_init 103 = .ok (.putfield 49, 3) := by decide +kernel
theorem dX4_init_106 : decode cX4_init 106 = .ok (.aload_n 0, 1) := by decide +kernel
theorem dX4_init_107 : decode cX4_init 107 = .ok (.getfield 13, 3) := by decide +kernel
theorem dX4_init_110 : decode cX4_init 110 = .ok (.iconst 0, 1) := by decide +kernel
theorem dX4_init_111 : decode cX4_init 111 = .ok (.iconst (-1), 1) := by decide +kernel
theorem dX4_init_112 : decode cX4_init 112 = .ok (.iastore, 1) := by decide +kernel
theorem dX4_init_113 : decode cX4_init 113 = .ok (.aload_n 0, 1) := by decide +kernel
theorem dX4_init_114 : decode cX4_init 114 = .ok (.getfield 13, 3) := by decide +kernel
theorem dX4_init_117 : decode cX4_init 117 = .ok (.iconst 1, 1) := by decide +kernel
theorem dX4_init_118 : decode cX4_init 118 = .ok (.iconst 1, 1) := by decide +kernel
theorem dX4_init_119 : decode cX4_init 119 = .ok (.iastore, 1) := by decide +kernel
theorem dX4_init_120 : decode cX4_init 120 = .ok (.aload_n 0, 1) := by decide +kernel
theorem dX4_init_121 : decode cX4_init 121 = .ok (.getfield 13, 3) := by decide +kernel
theorem dX4_init_124 : decode cX4_init 124 = .ok (.iconst 3, 1) := by decide +kernel
theorem dX4_init_125 : decode cX4_init 125 = .ok (.bipush (-2), 2) := by decide +kernel
theorem dX4_init_127 : decode cX4_init 127 = .ok (.iastore, 1) := by decide +kernel
theorem dX4_init_128 : decode cX4_init 128 = .ok (.aload_n 0, 1) := by decide +kernel
theorem dX4_init_129 : decode cX4_init 129 = .ok (.getfield 13, 3) := by decide +kernel
theorem dX4_init_132 : decode cX4_init 132 = .ok (.iconst 4, 1) := by decide +kernel
theorem dX4_init_133 : decode cX4_init 133 = .ok (.bipush (-3), 2) := by decide +kernel
theorem dX4_init_135 : decode cX4_init 135 = .ok (.iastore, 1) := by decide +kernel
theorem dX4_init_136 : decode cX4_init 136 = .ok (.aload_n 0, 1) := by decide +kernel
theorem dX4_init_137 : decode cX4_init 137 = .ok (.getfield 13, 3) := by decide +kernel
theorem dX4_init_140 : decode cX4_init 140 = .ok (.iconst 5, 1) := by decide +kernel
theorem dX4_init_141 : decode cX4_init 141 = .ok (.iconst 2, 1) := by decide +kernel
theorem dX4_init_142 : decode cX4_init 142 = .ok (.iastore, 1) := by decide +kernel
theorem dX4_init_143 : decode cX4_init 143 = .ok (.aload_n 0, 1) := by decide +kernel
theorem dX4_init_144 : decode cX4_init 144 = .ok (.getfield 16, 3) := by decide +kernel
theorem dX4_init_147 : decode cX4_init 147 = .ok (.iconst 1, 1) := by decide +kernel
theorem dX4_init_148 : decode cX4_init 148 = .ok (.iconst 3, 1) := by decide +kernel
theorem dX4_init_149 : decode cX4_init 149 = .ok (.iastore, 1) := by decide +kernel
theorem dX4_init_150 : decode cX4_init 150 = .ok (.aload_n 0, 1) := by decide +kernel
theorem dX4_init_151 : decode cX4_init 151 = .ok (.getfield 16, 3) := by decide +kernel
theorem dX4_init_154 : decode cX4_init 154 = .ok (.iconst 2, 1) := by decide +kernel
theorem dX4_init_155 : decode cX4_init 155 = .ok (.iconst 2, 1) := by decide +kernel
theorem dX4_init_156 : decode cX4_init 156 = .ok (.iastore, 1) := by decide +kernel
theorem dX4_init_157 : decode cX4_init 157 = .ok (.aload_n 0, 1) := by decide +kernel
theorem dX4_init_158 : decode cX4_init 158 = .ok (.getfield 16, 3) := by decide +kernel
theorem dX4_init_161 : decode cX4_init 161 = .ok (.iconst 4, 1) := by decide +kernel
theorem dX4_init_162 : decode cX4_init 162 = .ok (.iconst (-1), 1) := by decide +kernel
theorem dX4_init_163 : decode cX4_init 163 = .ok (.iastore, 1) := by decide +kernel
theorem dX4_init_164 : decode cX4_init 164 = .ok (.aload_n 0, 1) := by decide +kernel
theorem dX4_init_165 : decode cX4_init 165 = .ok (.iconst 0, 1) := by decide +kernel
theorem dX4_init_166 : decode cX4_init 166 = .ok (.invokevirtual 52, 3) := by decide +kernel
theorem dX4_init_169 : decode cX4_init 169 = .ok (.return_, 1) := by decide +kernel
theorem dX4_in_0 : decode cX4_in 0 = .ok (.lload_n 0, 1) := by decide +kernel
theorem dX4_in_1 : decode cX4_in 1 = .ok (.lload_n 2, 1) := by decide +kernel
theorem dX4_in_2 : decode cX4_in 2 = .ok (.lcmp, 1) := by decide +kernel
theorem dX4_in_3 : decode cX4_in 3 = .ok (.ifCond .lt 14, 3) := by decide +kernel
theorem dX4_in_6 : decode cX4_in 6 = .ok (.lload_n 0, 1) := by decide +kernel
theorem dX4_in_7 : decode cX4_in 7 = .ok (.lload 4, 2) := by decide +kernel
theorem dX4_in_9 : decode cX4_in 9 = .ok (.lcmp, 1) := by decide +kernel
theorem dX4_in_10 : decode cX4_in 10 = .ok (.ifCond .gt 7, 3) := by decide +kernel
theorem dX4_in_13 : decode cX4_in 13 = .ok (.iconst 1, 1) := by decide +kernel
theorem dX4_in_14 : decode cX4_in 14 = .ok (.goto 4, 3) := by decide +kernel
theorem dX4_in_17 : decode cX4_in 17 = .ok (.iconst 0, 1) := by decide +kernel
theorem dX4_in_18 : decode cX4_in 18 = .ok (.ireturn, 1) := by decide +kernel
theorem dX4_fresh_0 : decode cX4_fresh 0 = .ok (.iconst 0, 1) := by decide +kernel
theorem dX4_fresh_1 : decode cX4_fresh 1 = .ok (.istore_n 2, 1) := by decide +kernel
theorem dX4_fresh_2 : decode cX4_fresh 2 = .ok (.iload_n 2, 1) := by decide +kernel
theorem dX4_fresh_3 : decode cX4_fresh 3 = .ok (.bipush 73, 2) := by decide +kernel
theorem dX4_fresh_5 : decode cX4_fresh 5 = .ok (.if_icmp .ge 16, 3) := by decide +kernel
theorem dX4_fresh_8 : decode cX4_fresh 8 = .ok (.aload_n 0, 1) := by decide +kernel
theorem dX4_fresh_9 : decode cX4_fresh 9 = .ok (.getfield 7, 3) := by decide +kernel
theorem dX4_fresh_12 : decode cX4_fresh 12 = .ok (.iload_n 2, 1) := by decide +kernel
theorem dX4_fresh_13 : decode cX4_fresh 13 = .ok (.iconst 0, 1) := by decide +kernel
theorem dX4_fresh_14 : decode cX4_fresh 14 = .ok (.iastore, 1) := by decide +kernel
theorem dX4_fresh_15 : decode cX4_fresh 15 = .ok (.iinc 2 1, 3) := by decide +kernel
theorem dX4_fresh_18 : decode cX4_fresh 18 = .ok (.goto (-16), 3) := by decide +kernel
theorem dX4_fresh_21 : decode cX4_fresh 21 = .ok (.aload_n 0, 1) := by decide +kernel
theorem dX4_fresh_22 : decode cX4_fresh 22 = .ok (.getfield 7, 3) := by decide +kernel
theorem dX4_fresh_25 : decode cX4_fresh 25 = .ok (.iconst 0, 1) := by decide +kernel
theorem dX4_fresh_26 : decode cX4_fresh 26 = .ok (.iload_n 1, 1) := by decide +kernel
theorem dX4_fresh_27 : decode cX4_fresh 27 = .ok (.iastore, 1) := by decide +kernel
theorem dX4_fresh_28 : decode cX4_fresh 28 = .ok (.aload_n 0, 1) := by decide +kernel
theorem dX4_fresh_29 : decode cX4_fresh 29 = .ok (.getfield 7, 3) := by decide +kernel
theorem dX4_fresh_32 : decode cX4_fresh 32 = .ok (.iconst 1, 1) := by decide +kernel
theorem dX4_fresh_33 : decode cX4_fresh 33 = .ok (.bipush 20, 2) := by decide +kernel
theorem dX4_fresh_35 : decode cX4_fresh 35 = .ok (.iastore, 1) := by decide +kernel
theorem dX4_fresh_36 : decode cX4_fresh 36 = .ok (.aload_n 0, 1) := by decide +kernel
theorem dX4_fresh_37 : decode cX4_fresh 37 = .ok (.getfield 7, 3) := by decide +kernel
theorem dX4_fresh_40 : decode cX4_fresh 40 = .ok (.iconst 3, 1) := by decide +kernel
theorem dX4_fresh_41 : decode cX4_fresh 41 = .ok (.bipush 40, 2) := by decide +kernel
theorem dX4_fresh_43 : decode cX4_fresh 43 = .ok (.iastore, 1) := by decide +kernel
theorem dX4_fresh_44 : decode cX4_fresh 44 = .ok (.aload_n 0, 1) := by decide +kernel
theorem dX4_fresh_45 : decode cX4_fresh 45 = .ok (.getfield 7, 3) := by decide +kernel
theorem dX4_fresh_48 : decode cX4_fresh 48 = .ok (.iconst 4, 1) := by decide +kernel
theorem dX4_fresh_49 : decode cX4_fresh 49 = .ok (.bipush 9, 2) := by decide +kernel
theorem dX4_fresh_51 : decode cX4_fresh 51 = .ok (.iastore, 1) := by decide +kernel
theorem dX4_fresh_52 : decode cX4_fresh 52 = .ok (.iconst 0, 1) := by decide +kernel
theorem dX4_fresh_53 : decode cX4_fresh 53 = .ok (.istore_n 2, 1) := by decide +kernel
theorem dX4_fresh_54 : decode cX4_fresh 54 = .ok (.iload_n 2, 1) := by decide +kernel
theorem dX4_fresh_55 : decode cX4_fresh 55 = .ok (.bipush 8, 2) := by decide +kernel
theorem dX4_fresh_57 : decode cX4_fresh 57 = .ok (.if_icmp .ge 28, 3) := by decide +kernel
theorem dX4_fresh_60 : decode cX4_fresh 60 = .ok (.aload_n 0, 1) := by decide +kernel
theorem dX4_fresh_61 : decode cX4_fresh 61 = .ok (.getfield 7, 3) := by decide +kernel
theorem dX4_fresh_64 : decode cX4_fresh 64 = .ok (.bipush 7, 2) := by decide +kernel
theorem dX4_fresh_66 : decode cX4_fresh 66 = .ok (.iload_n 2, 1) := by decide +kernel
theorem dX4_fresh_67 : decode cX4_fresh 67 = .ok (.iadd, 1) := by decide +kernel
theorem dX4_fresh_68 : decode cX4_fresh 68 = .ok (.iload_n 2, 1) := by decide +kernel
theorem dX4_fresh_69 : decode cX4_fresh 69 = .ok (.iconst 4, 1) := by decide +kernel
theorem dX4_fresh_70 : decode cX4_fresh 70 = .ok (.if_icmp .ge 7, 3) := by decide +kernel
theorem dX4_fresh_73 : decode cX4_fresh 73 = .ok (.iload_n 2, 1) := by decide +kernel
theorem dX4_fresh_74 : decode cX4_fresh 74 = .ok (.goto 4, 3) := by decide +kernel
theorem dX4_fresh_77 : decode cX4_fresh 77 = .ok (.iconst 4, 1) := by decide +kernel
theorem dX4_fresh_78 : decode cX4_fresh 78 = .ok (.iastore, 1) := by decide +kernel
theorem dX4_fresh_79 : decode cX4_fresh 79 = .ok (.iinc 2 1, 3) := by decide +kernel
theorem dX4_fresh_82 : decode cX4_fresh 82 = .ok (.goto (-28), 3) := by decide +kernel
theorem dX4_fresh_85 : decode cX4_fresh 85 = .ok (.return_, 1) := by decide +kernel
theorem dX4_no_0 : decode cX4_no 0 = .ok (.aload_n 0, 1) := by decide +kernel
theorem dX4_no_1 : decode cX4_no 1 = .ok (.getfield 19, 3) := by decide +kernel
theorem dX4_no_4 : decode cX4_no 4 = .ok (.bipush (-2), 2) := by decide +kernel
theorem dX4_no_6 : decode cX4_no 6 = .ok (.iload_n 1, 1) := by decide +kernel
theorem dX4_no_7 : decode cX4_no 7 = .ok (.isub, 1) := by decide +kernel
theorem dX4_no_8 : decode cX4_no 8 = .ok (.dup2, 1) := by decide +kernel
theorem dX4_no_9 : decode cX4_no 9 = .ok (.iaload, 1) := by decide +kernel
theorem dX4_no_10 : decode cX4_no 10 = .ok (.iconst 1, 1) := by decide +kernel
theorem dX4_no_11 : decode cX4_no 11 = .ok (.iadd, 1) := by decide +kernel
theorem dX4_no_12 : decode cX4_no 12 = .ok (.iastore, 1) := by decide +kernel
theorem dX4_no_13 : decode cX4_no 13 = .ok (.iload_n 1, 1) := by decide +kernel
theorem dX4_no_14 : decode cX4_no 14 = .ok (.ireturn, 1) := by decide +kernel
theorem dX4_noAs_0 : decode cX4_noAs 0 = .ok (.aload_n 0, 1) := by decide +kernel
theorem dX4_noAs_1 : decode cX4_noAs 1 = .ok (.getfield 19, 3) := by decide +kernel
theorem dX4_noAs_4 : decode cX4_noAs 4 = .ok (.iconst 0, 1) := by decide +kernel
theorem dX4_noAs_5 : decode cX4_noAs 5 = .ok (.dup2, 1) := by decide +kernel
theorem dX4_noAs_6 : decode cX4_noAs 6 = .ok (.iaload, 1) := by decide +kernel
theorem dX4_noAs_7 : decode cX4_noAs 7 = .ok (.iconst 1, 1) := by decide +kernel
theorem dX4_noAs_8 : decode cX4_noAs 8 = .ok (.iadd, 1) := by decide +kernel
theorem dX4_noAs_9 : decode cX4_noAs 9 = .ok (.iastore, 1) := by decide +kernel
theorem dX4_noAs_10 : decode cX4_noAs 10 = .ok (.iload_n 1, 1) := by decide +kernel
theorem dX4_noAs_11 : decode cX4_noAs 11 = .ok (.ireturn, 1) := by decide +kernel
theorem dX4_status_0 : decode cX4_status 0 = .ok (.iload_n 1, 1) := by decide +kernel
theorem dX4_status_1 : decode cX4_status 1 = .ok (.i2l, 1) := by decide +kernel
theorem dX4_status_2 : decode cX4_status 2 = .ok (.lconst 0, 1) := by decide +kernel
theorem dX4_status_3 : decode cX4_status 3 = .ok (.ldc2_w 56, 3) := by decide +kernel
theorem dX4_status_6 : decode cX4_status 6 = .ok (.invokestatic 58, 3) := by decide +kernel
theorem dX4_status_9 : decode cX4_status 9 = .ok (.ifCond .eq 12, 3) := by decide +kernel
theorem dX4_status_12 : decode cX4_status 12 = .ok (.aload_n 0, 1) := by decide +kernel
theorem dX4_status_13 : decode cX4_status 13 = .ok (.getfield 19, 3) := by decide +kernel
theorem dX4_status_16 : decode cX4_status 16 = .ok (.iload_n 1, 1) := by decide +kernel
theorem dX4_status_17 : decode cX4_status 17 = .ok (.iaload, 1) := by decide +kernel
theorem dX4_status_18 : decode cX4_status 18 = .ok (.goto 8, 3) := by decide +kernel
theorem dX4_status_21 : decode cX4_status 21 = .ok (.aload_n 0, 1) := by decide +kernel
theorem dX4_status_22 : decode cX4_status 22 = .ok (.iconst (-1), 1) := by decide +kernel
theorem dX4_status_23 : decode cX4_status 23 = .ok (.invokevirtual 62, 3) := by decide +kernel
theorem dX4_status_26 : decode cX4_status 26 = .ok (.ireturn, 1) := by decide +kernel
theorem dX4_angerBy_0 : decode cX4_angerBy 0 = .ok (.aload_n 0, 1) := by decide +kernel
theorem dX4_angerBy_1 : decode cX4_angerBy 1 = .ok (.getfield 13, 3) := by decide +kernel
theorem dX4_angerBy_4 : decode cX4_angerBy 4 = .ok (.iload_n 2, 1) := by decide +kernel
theorem dX4_angerBy_5 : decode cX4_angerBy 5 = .ok (.iaload, 1) := by decide +kernel
theorem dX4_angerBy_6 : decode cX4_angerBy 6 = .ok (.istore 4, 2) := by decide +kernel
theorem dX4_angerBy_8 : decode cX4_angerBy 8 = .ok (.iload_n 1, 1) := by decide +kernel
theorem dX4_angerBy_9 : decode cX4_angerBy 9 = .ok (.tableswitch 68 1 5 #[35, 40, 68, 45, 61], 35) := by decide +kernel
theorem dX4_angerBy_44 : decode cX4_angerBy 44 = .ok (.iload 4, 2) := by decide +kernel
theorem dX4_angerBy_46 : decode cX4_angerBy 46 = .ok (.iconst 2, 1) := by decide +kernel
theorem dX4_angerBy_47 : decode cX4_angerBy 47 = .ok (.idiv, 1) := by decide +kernel
theorem dX4_angerBy_48 : decode cX4_angerBy 48 = .ok (.ireturn, 1) := by decide +kernel
theorem dX4_angerBy_49 : decode cX4_angerBy 49 = .ok (.iload 4, 2) := by decide +kernel
theorem dX4_angerBy_51 : decode cX4_angerBy 51 = .ok (.iconst 1, 1) := by decide +kernel
theorem dX4_angerBy_52 : decode cX4_angerBy 52 = .ok (.isub, 1) := by decide +kernel
theorem dX4_angerBy_53 : decode cX4_angerBy 53 = .ok (.ireturn, 1) := by decide +kernel
theorem dX4_angerBy_54 : decode cX4_angerBy 54 = .ok (.iload_n 3, 1) := by decide +kernel
theorem dX4_angerBy_55 : decode cX4_angerBy 55 = .ok (.iconst 2, 1) := by decide +kernel
theorem dX4_angerBy_56 : decode cX4_angerBy 56 = .ok (.irem, 1) := by decide +kernel
theorem dX4_angerBy_57 : decode cX4_angerBy 57 = .ok (.iconst 1, 1) := by decide +kernel
theorem dX4_angerBy_58 : decode cX4_angerBy 58 = .ok (.if_icmp .ne 7, 3) := by decide +kernel
theorem dX4_angerBy_61 : decode cX4_angerBy 61 = .ok (.iconst 0, 1) := by decide +kernel
theorem dX4_angerBy_62 : decode cX4_angerBy 62 = .ok (.goto 7, 3) := by decide +kernel
theorem dX4_angerBy_65 : decode cX4_angerBy 65 = .ok (.iload 4, 2) := by decide +kernel
theorem dX4_angerBy_67 : decode cX4_angerBy 67 = .ok (.iconst 2, 1) := by decide +kernel
theorem dX4_angerBy_68 : decode cX4_angerBy 68 = .ok (.idiv, 1) := by decide +kernel
theorem dX4_angerBy_69 : decode cX4_angerBy 69 = .ok (.ireturn, 1) := by decide +kernel
theorem dX4_angerBy_70 : decode cX4_angerBy 70 = .ok (.iconst 2, 1) := by decide +kernel
theorem dX4_angerBy_71 : decode cX4_angerBy 71 = .ok (.iload 4, 2) := by decide +kernel
theorem dX4_angerBy_73 : decode cX4_angerBy 73 = .ok (.iconst 1, 1) := by decide +kernel
theorem dX4_angerBy_74 : decode cX4_angerBy 74 = .ok (.isub, 1) := by decide +kernel
theorem dX4_angerBy_75 : decode cX4_angerBy 75 = .ok (.imul, 1) := by decide +kernel
theorem dX4_angerBy_76 : decode cX4_angerBy 76 = .ok (.ireturn, 1) := by decide +kernel
theorem dX4_angerBy_77 : decode cX4_angerBy 77 = .ok (.iload 4, 2) := by decide +kernel
theorem dX4_angerBy_79 : decode cX4_angerBy 79 = .ok (.ireturn, 1) := by decide +kernel
theorem dX4_prideBy_0 : decode cX4_prideBy 0 = .ok (.aload_n 0, 1) := by decide +kernel
theorem dX4_prideBy_1 : decode cX4_prideBy 1 = .ok (.getfield 16, 3) := by decide +kernel
theorem dX4_prideBy_4 : decode cX4_prideBy 4 = .ok (.iload_n 2, 1) := by decide +kernel
theorem dX4_prideBy_5 : decode cX4_prideBy 5 = .ok (.iaload, 1) := by decide +kernel
theorem dX4_prideBy_6 : decode cX4_prideBy 6 = .ok (.istore 4, 2) := by decide +kernel
theorem dX4_prideBy_8 : decode cX4_prideBy 8 = .ok (.iload_n 1, 1) := by decide +kernel
theorem dX4_prideBy_9 : decode cX4_prideBy 9 = .ok (.tableswitch 50 3 5 #[27, 31, 45], 27) := by decide +kernel
theorem dX4_prideBy_36 : decode cX4_prideBy 36 = .ok (.iload 4, 2) := by decide +kernel
theorem dX4_prideBy_38 : decode cX4_prideBy 38 = .ok (.ineg, 1) := by decide +kernel
theorem dX4_prideBy_39 : decode cX4_prideBy 39 = .ok (.ireturn, 1) := by decide +kernel
theorem dX4_prideBy_40 : decode cX4_prideBy 40 = .ok (.iload_n 3, 1) := by decide +kernel
theorem dX4_prideBy_41 : decode cX4_prideBy 41 = .ok (.iconst 2, 1) := by decide +kernel
theorem dX4_prideBy_42 : decode cX4_prideBy 42 = .ok (.irem, 1) := by decide +kernel
theorem dX4_prideBy_43 : decode cX4_prideBy 43 = .ok (.iconst 1, 1) := by decide +kernel
theorem dX4_prideBy_44 : decode cX4_prideBy 44 = .ok (.if_icmp .ne 7, 3) := by decide +kernel
theorem dX4_prideBy_47 : decode cX4_prideBy 47 = .ok (.iconst 0, 1) := by decide +kernel
theorem dX4_prideBy_48 : decode cX4_prideBy 48 = .ok (.goto 5, 3) := by decide +kernel
theorem dX4_prideBy_51 : decode cX4_prideBy 51 = .ok (.iload 4, 2) := by decide +kernel
theorem dX4_prideBy_53 : decode cX4_prideBy 53 = .ok (.ireturn, 1) := by decide +kernel
theorem dX4_prideBy_54 : decode cX4_prideBy 54 = .ok (.iload 4, 2) := by decide +kernel
theorem dX4_prideBy_56 : decode cX4_prideBy 56 = .ok (.iconst 1, 1) := by decide +kernel
theorem dX4_prideBy_57 : decode cX4_prideBy 57 = .ok (.iadd, 1) := by decide +kernel
theorem dX4_prideBy_58 : decode cX4_prideBy 58 = .ok (.ireturn, 1) := by decide +kernel
theorem dX4_prideBy_59 : decode cX4_prideBy 59 = .ok (.iload 4, 2) := by decide +kernel
theorem dX4_prideBy_61 : decode cX4_prideBy 61 = .ok (.ireturn, 1) := by decide +kernel
theorem dX4_kept_0 : decode cX4_kept 0 = .ok (.iload_n 0, 1) := by decide +kernel
theorem dX4_kept_1 : decode cX4_kept 1 = .ok (.ifCond .ge 7, 3) := by decide +kernel
theorem dX4_kept_4 : decode cX4_kept 4 = .ok (.iconst 0, 1) := by decide +kernel
theorem dX4_kept_5 : decode cX4_kept 5 = .ok (.goto 15, 3) := by decide +kernel
theorem dX4_kept_8 : decode cX4_kept 8 = .ok (.iload_n 0, 1) := by decide +kernel
theorem dX4_kept_9 : decode cX4_kept 9 = .ok (.bipush 99, 2) := by decide +kernel
theorem dX4_kept_11 : decode cX4_kept 11 = .ok (.if_icmp .le 8, 3) := by decide +kernel
theorem dX4_kept_14 : decode cX4_kept 14 = .ok (.bipush 99, 2) := by decide +kernel
theorem dX4_kept_16 : decode cX4_kept 16 = .ok (.goto 4, 3) := by decide +kernel
theorem dX4_kept_19 : decode cX4_kept 19 = .ok (.iload_n 0, 1) := by decide +kernel
theorem dX4_kept_20 : decode cX4_kept 20 = .ok (.ireturn, 1) := by decide +kernel
theorem dX4_begin_0 : decode cX4_begin 0 = .ok (.aload_n 0, 1) := by decide +kernel
theorem dX4_begin_1 : decode cX4_begin 1 = .ok (.aload_n 0, 1) := by decide +kernel
theorem dX4_begin_2 : decode cX4_begin 2 = .ok (.getfield 7, 3) := by decide +kernel
theorem dX4_begin_5 : decode cX4_begin 5 = .ok (.iconst 1, 1) := by decide +kernel
theorem dX4_begin_6 : decode cX4_begin 6 = .ok (.iaload, 1) := by decide +kernel
theorem dX4_begin_7 : decode cX4_begin 7 = .ok (.putfield 66, 3) := by decide +kernel
theorem dX4_begin_10 : decode cX4_begin 10 = .ok (.aload_n 0, 1) := by decide +kernel
theorem dX4_begin_11 : decode cX4_begin 11 = .ok (.aload_n 0, 1) := by decide +kernel
theorem dX4_begin_12 : decode cX4_begin 12 = .ok (.getfield 7, 3) := by decide +kernel
theorem dX4_begin_15 : decode cX4_begin 15 = .ok (.iconst 2, 1) := by decide +kernel
theorem dX4_begin_16 : decode cX4_begin 16 = .ok (.iaload, 1) := by decide +kernel
theorem dX4_begin_17 : decode cX4_begin 17 = .ok (.putfield 70, 3) := by decide +kernel
theorem dX4_begin_20 : decode cX4_begin 20 = .ok (.aload_n 0, 1) := by decide +kernel
theorem dX4_begin_21 : decode cX4_begin 21 = .ok (.aload_n 0, 1) := by decide +kernel
theorem dX4_begin_22 : decode cX4_begin 22 = .ok (.getfield 7, 3) := by decide +kernel
theorem dX4_begin_25 : decode cX4_begin 25 = .ok (.iconst 5, 1) := by decide +kernel
theorem dX4_begin_26 : decode cX4_begin 26 = .ok (.iaload, 1) := by decide +kernel
theorem dX4_begin_27 : decode cX4_begin 27 = .ok (.putfield 73, 3) := by decide +kernel
theorem dX4_begin_30 : decode cX4_begin 30 = .ok (.aload_n 0, 1) := by decide +kernel
theorem dX4_begin_31 : decode cX4_begin 31 = .ok (.aload_n 0, 1) := by decide +kernel
theorem dX4_begin_32 : decode cX4_begin 32 = .ok (.getfield 7, 3) := by decide +kernel
theorem dX4_begin_35 : decode cX4_begin 35 = .ok (.bipush 6, 2) := by decide +kernel
theorem dX4_begin_37 : decode cX4_begin 37 = .ok (.iaload, 1) := by decide +kernel
theorem dX4_begin_38 : decode cX4_begin 38 = .ok (.putfield 76, 3) := by decide +kernel
theorem dX4_begin_41 : decode cX4_begin 41 = .ok (.return_, 1) := by decide +kernel
theorem dX4_hear_0 : decode cX4_hear 0 = .ok (.aload_n 0, 1) := by decide +kernel
theorem dX4_hear_1 : decode cX4_hear 1 = .ok (.iload_n 2, 1) := by decide +kernel
theorem dX4_hear_2 : decode cX4_hear 2 = .ok (.ifCond .eq 29, 3) := by decide +kernel
theorem dX4_hear_5 : decode cX4_hear 5 = .ok (.aload_n 0, 1) := by decide +kernel
theorem dX4_hear_6 : decode cX4_hear 6 = .ok (.getfield 66, 3) := by decide +kernel
theorem dX4_hear_9 : decode cX4_hear 9 = .ok (.aload_n 0, 1) := by decide +kernel
theorem dX4_hear_10 : decode cX4_hear 10 = .ok (.aload_n 0, 1) := by decide +kernel
theorem dX4_hear_11 : decode cX4_hear 11 = .ok (.getfield 7, 3) := by decide +kernel
theorem dX4_hear_14 : decode cX4_hear 14 = .ok (.iconst 0, 1) := by decide +kernel
theorem dX4_hear_15 : decode cX4_hear 15 = .ok (.iaload, 1) := by decide +kernel
theorem dX4_hear_16 : decode cX4_hear 16 = .ok (.iload_n 1, 1) := by decide +kernel
theorem dX4_hear_17 : decode cX4_hear 17 = .ok (.aload_n 0, 1) := by decide +kernel
theorem dX4_hear_18 : decode cX4_hear 18 = .ok (.getfield 73, 3) := by decide +kernel
theorem dX4_hear_21 : decode cX4_hear 21 = .ok (.invokevirtual 79, 3) := by decide +kernel
theorem dX4_hear_24 : decode cX4_hear 24 = .ok (.iadd, 1) := by decide +kernel
theorem dX4_hear_25 : decode cX4_hear 25 = .ok (.invokestatic 83, 3) := by decide +kernel
theorem dX4_hear_28 : decode cX4_hear 28 = .ok (.goto 7, 3) := by decide +kernel
theorem dX4_hear_31 : decode cX4_hear 31 = .ok (.aload_n 0, 1) := by decide +kernel
theorem dX4_hear_32 : decode cX4_hear 32 = .ok (.getfield 66, 3) := by decide +kernel
theorem dX4_hear_35 : decode cX4_hear 35 = .ok (.putfield 66, 3) := by decide +kernel
theorem dX4_hear_38 : decode cX4_hear 38 = .ok (.aload_n 0, 1) := by decide +kernel
theorem dX4_hear_39 : decode cX4_hear 39 = .ok (.iload_n 2, 1) := by decide +kernel
theorem dX4_hear_40 : decode cX4_hear 40 = .ok (.ifCond .eq 29, 3) := by decide +kernel
theorem dX4_hear_43 : decode cX4_hear 43 = .ok (.aload_n 0, 1) := by decide +kernel
theorem dX4_hear_44 : decode cX4_hear 44 = .ok (.getfield 70, 3) := by decide +kernel
theorem dX4_hear_47 : decode cX4_hear 47 = .ok (.aload_n 0, 1) := by decide +kernel
theorem dX4_hear_48 : decode cX4_hear 48 = .ok (.aload_n 0, 1) := by decide +kernel
theorem dX4_hear_49 : decode cX4_hear 49 = .ok (.getfield 7, 3) := by decide +kernel
theorem dX4_hear_52 : decode cX4_hear 52 = .ok (.iconst 0, 1) := by decide +kernel
theorem dX4_hear_53 : decode cX4_hear 53 = .ok (.iaload, 1) := by decide +kernel
theorem dX4_hear_54 : decode cX4_hear 54 = .ok (.iload_n 1, 1) := by decide +kernel
theorem dX4_hear_55 : decode cX4_hear 55 = .ok (.aload_n 0, 1) := by decide +kernel
theorem dX4_hear_56 : decode cX4_hear 56 = .ok (.getfield 73, 3) := by decide +kernel
theorem dX4_hear_59 : decode cX4_hear 59 = .ok (.invokevirtual 86, 3) := by decide +kernel
theorem dX4_hear_62 : decode cX4_hear 62 = .ok (.iadd, 1) := by decide +kernel
theorem dX4_hear_63 : decode cX4_hear 63 = .ok (.invokestatic 83, 3) := by decide +kernel
theorem dX4_hear_66 : decode cX4_hear 66 = .ok (.goto 7, 3) := by decide +kernel
theorem dX4_hear_69 : decode cX4_hear 69 = .ok (.aload_n 0, 1) := by decide +kernel
theorem dX4_hear_70 : decode cX4_hear 70 = .ok (.getfield 70, 3) := by decide +kernel
theorem dX4_hear_73 : decode cX4_hear 73 = .ok (.putfield 70, 3) := by decide +kernel
theorem dX4_hear_76 : decode cX4_hear 76 = .ok (.aload_n 0, 1) := by decide +kernel
theorem dX4_hear_77 : decode cX4_hear 77 = .ok (.dup, 1) := by decide +kernel
theorem dX4_hear_78 : decode cX4_hear 78 = .ok (.getfield 73, 3) := by decide +kernel
theorem dX4_hear_81 : decode cX4_hear 81 = .ok (.iconst 1, 1) := by decide +kernel
theorem dX4_hear_82 : decode cX4_hear 82 = .ok (.iadd, 1) := by decide +kernel
theorem dX4_hear_83 : decode cX4_hear 83 = .ok (.putfield 73, 3) := by decide +kernel
theorem dX4_hear_86 : decode cX4_hear 86 = .ok (.aload_n 0, 1) := by decide +kernel
theorem dX4_hear_87 : decode cX4_hear 87 = .ok (.aload_n 0, 1) := by decide +kernel
theorem dX4_hear_88 : decode cX4_hear 88 = .ok (.getfield 66, 3) := by decide +kernel
theorem dX4_hear_91 : decode cX4_hear 91 = .ok (.aload_n 0, 1) := by decide +kernel
theorem dX4_hear_92 : decode cX4_hear 92 = .ok (.getfield 7, 3) := by decide +kernel
theorem dX4_hear_95 : decode cX4_hear 95 = .ok (.iconst 3, 1) := by decide +kernel
theorem dX4_hear_96 : decode cX4_hear 96 = .ok (.iaload, 1) := by decide +kernel
theorem dX4_hear_97 : decode cX4_hear 97 = .ok (.if_icmp .lt 7, 3) := by decide +kernel
theorem dX4_hear_100 : decode cX4_hear 100 = .ok (.iconst 2, 1) := by decide +kernel
theorem dX4_hear_101 : decode cX4_hear 101 = .ok (.goto 26, 3) := by decide +kernel
theorem dX4_hear_104 : decode cX4_hear 104 = .ok (.iload_n 1, 1) := by decide +kernel
theorem dX4_hear_105 : decode cX4_hear 105 = .ok (.iconst 1, 1) := by decide +kernel
theorem dX4_hear_106 : decode cX4_hear 106 = .ok (.if_icmp .ne 20, 3) := by decide +kernel
theorem dX4_hear_109 : decode cX4_hear 109 = .ok (.aload_n 0, 1) := by decide +kernel
theorem dX4_hear_110 : decode cX4_hear 110 = .ok (.getfield 70, 3) := by decide +kernel
theorem dX4_hear_113 : decode cX4_hear 113 = .ok (.aload_n 0, 1) := by decide +kernel
theorem dX4_hear_114 : decode cX4_hear 114 = .ok (.getfield 7, 3) := by decide +kernel
theorem dX4_hear_117 : decode cX4_hear 117 = .ok (.iconst 4, 1) := by decide +kernel
theorem dX4_hear_118 : decode cX4_hear 118 = .ok (.iaload, 1) := by decide +kernel
theorem dX4_hear_119 : decode cX4_hear 119 = .ok (.if_icmp .lt 7, 3) := by decide +kernel
theorem dX4_hear_122 : decode cX4_hear 122 = .ok (.iconst 1, 1) := by decide +kernel
theorem dX4_hear_123 : decode cX4_hear 123 = .ok (.goto 4, 3) := by decide +kernel
theorem dX4_hear_126 : decode cX4_hear 126 = .ok (.iconst 0, 1) := by decide +kernel
theorem dX4_hear_127 : decode cX4_hear 127 = .ok (.putfield 76, 3) := by decide +kernel
theorem dX4_hear_130 : decode cX4_hear 130 = .ok (.return_, 1) := by decide +kernel
theorem dX4_giveBack_0 : decode cX4_giveBack 0 = .ok (.aload_n 0, 1) := by decide +kernel
theorem dX4_giveBack_1 : decode cX4_giveBack 1 = .ok (.getfield 7, 3) := by decide +kernel
theorem dX4_giveBack_4 : decode cX4_giveBack 4 = .ok (.iconst 1, 1) := by decide +kernel
theorem dX4_giveBack_5 : decode cX4_giveBack 5 = .ok (.aload_n 0, 1) := by decide +kernel
theorem dX4_giveBack_6 : decode cX4_giveBack 6 = .ok (.getfield 66, 3) := by decide +kernel
theorem dX4_giveBack_9 : decode cX4_giveBack 9 = .ok (.iastore, 1) := by decide +kernel
theorem dX4_giveBack_10 : decode cX4_giveBack 10 = .ok (.aload_n 0, 1) := by decide +kernel
theorem dX4_giveBack_11 : decode cX4_giveBack 11 = .ok (.getfield 7, 3) := by decide +kernel
theorem dX4_giveBack_14 : decode cX4_giveBack 14 = .ok (.iconst 2, 1) := by decide +kernel
theorem dX4_giveBack_15 : decode cX4_giveBack 15 = .ok (.aload_n 0, 1) := by decide +kernel
theorem dX4_giveBack_16 : decode cX4_giveBack 16 = .ok (.getfield 70, 3) := by decide +kernel
theorem dX4_giveBack_19 : decode cX4_giveBack 19 = .ok (.iastore, 1) := by decide +kernel
theorem dX4_giveBack_20 : decode cX4_giveBack 20 = .ok (.aload_n 0, 1) := by decide +kernel
theorem dX4_giveBack_21 : decode cX4_giveBack 21 = .ok (.getfield 7, 3) := by decide +kernel
theorem dX4_giveBack_24 : decode cX4_giveBack 24 = .ok (.iconst 5, 1) := by decide +kernel
theorem dX4_giveBack_25 : decode cX4_giveBack 25 = .ok (.aload_n 0, 1) := by decide +kernel
theorem dX4_giveBack_26 : decode cX4_giveBack 26 = .ok (.getfield 73, 3) := by decide +kernel
theorem dX4_giveBack_29 : decode cX4_giveBack 29 = .ok (.iastore, 1) := by decide +kernel
theorem dX4_giveBack_30 : decode cX4_giveBack 30 = .ok (.aload_n 0, 1) := by decide +kernel
theorem dX4_giveBack_31 : decode cX4_giveBack 31 = .ok (.getfield 7, 3) := by decide +kernel
theorem dX4_giveBack_34 : decode cX4_giveBack 34 = .ok (.bipush 6, 2) := by decide +kernel
theorem dX4_giveBack_36 : decode cX4_giveBack 36 = .ok (.aload_n 0, 1) := by decide +kernel
theorem dX4_giveBack_37 : decode cX4_giveBack 37 = .ok (.getfield 76, 3) := by decide +kernel
theorem dX4_giveBack_40 : decode cX4_giveBack 40 = .ok (.iastore, 1) := by decide +kernel
theorem dX4_giveBack_41 : decode cX4_giveBack 41 = .ok (.return_, 1) := by decide +kernel
theorem dX4_jar_0 : decode cX4_jar 0 = .ok (.iload_n 1, 1) := by decide +kernel
theorem dX4_jar_1 : decode cX4_jar 1 = .ok (.i2l, 1) := by decide +kernel
theorem dX4_jar_2 : decode cX4_jar 2 = .ok (.lconst 0, 1) := by decide +kernel
theorem dX4_jar_3 : decode cX4_jar 3 = .ok (.ldc2_w 89, 3) := by decide +kernel
theorem dX4_jar_6 : decode cX4_jar 6 = .ok (.invokestatic 58, 3) := by decide +kernel
theorem dX4_jar_9 : decode cX4_jar 9 = .ok (.ifCond .ne 10, 3) := by decide +kernel
theorem dX4_jar_12 : decode cX4_jar 12 = .ok (.aload_n 0, 1) := by decide +kernel
theorem dX4_jar_13 : decode cX4_jar 13 = .ok (.bipush (-2), 2) := by decide +kernel
theorem dX4_jar_15 : decode cX4_jar 15 = .ok (.invokevirtual 91, 3) := by decide +kernel
theorem dX4_jar_18 : decode cX4_jar 18 = .ok (.ireturn, 1) := by decide +kernel
theorem dX4_jar_19 : decode cX4_jar 19 = .ok (.aload_n 0, 1) := by decide +kernel
theorem dX4_jar_20 : decode cX4_jar 20 = .ok (.getfield 7, 3) := by decide +kernel
theorem dX4_jar_23 : decode cX4_jar 23 = .ok (.iconst 5, 1) := by decide +kernel
theorem dX4_jar_24 : decode cX4_jar 24 = .ok (.iaload, 1) := by decide +kernel
theorem dX4_jar_25 : decode cX4_jar 25 = .ok (.istore_n 2, 1) := by decide +kernel
theorem dX4_jar_26 : decode cX4_jar 26 = .ok (.aload_n 0, 1) := by decide +kernel
theorem dX4_jar_27 : decode cX4_jar 27 = .ok (.iload_n 1, 1) := by decide +kernel
theorem dX4_jar_28 : decode cX4_jar 28 = .ok (.invokevirtual 52, 3) := by decide +kernel
theorem dX4_jar_31 : decode cX4_jar 31 = .ok (.iload_n 2, 1) := by decide +kernel
theorem dX4_jar_32 : decode cX4_jar 32 = .ok (.ireturn, 1) := by decide +kernel
theorem dX4_mood_0 : decode cX4_mood 0 = .ok (.iload_n 1, 1) := by decide +kernel
theorem dX4_mood_1 : decode cX4_mood 1 = .ok (.i2l, 1) := by decide +kernel
theorem dX4_mood_2 : decode cX4_mood 2 = .ok (.lconst 0, 1) := by decide +kernel
theorem dX4_mood_3 : decode cX4_mood 3 = .ok (.ldc2_w 94, 3) := by decide +kernel
theorem dX4_mood_6 : decode cX4_mood 6 = .ok (.invokestatic 58, 3) := by decide +kernel
theorem dX4_mood_9 : decode cX4_mood 9 = .ok (.ifCond .eq 15, 3) := by decide +kernel
theorem dX4_mood_12 : decode cX4_mood 12 = .ok (.iload_n 2, 1) := by decide +kernel
theorem dX4_mood_13 : decode cX4_mood 13 = .ok (.i2l, 1) := by decide +kernel
theorem dX4_mood_14 : decode cX4_mood 14 = .ok (.lconst 0, 1) := by decide +kernel
theorem dX4_mood_15 : decode cX4_mood 15 = .ok (.ldc2_w 94, 3) := by decide +kernel
theorem dX4_mood_18 : decode cX4_mood 18 = .ok (.invokestatic 58, 3) := by decide +kernel
theorem dX4_mood_21 : decode cX4_mood 21 = .ok (.ifCond .ne 10, 3) := by decide +kernel
theorem dX4_mood_24 : decode cX4_mood 24 = .ok (.aload_n 0, 1) := by decide +kernel
theorem dX4_mood_25 : decode cX4_mood 25 = .ok (.bipush (-2), 2) := by decide +kernel
theorem dX4_mood_27 : decode cX4_mood 27 = .ok (.invokevirtual 91, 3) := by decide +kernel
theorem dX4_mood_30 : decode cX4_mood 30 = .ok (.ireturn, 1) := by decide +kernel
theorem dX4_mood_31 : decode cX4_mood 31 = .ok (.iload_n 1, 1) := by decide +kernel
theorem dX4_mood_32 : decode cX4_mood 32 = .ok (.aload_n 0, 1) := by decide +kernel
theorem dX4_mood_33 : decode cX4_mood 33 = .ok (.getfield 7, 3) := by decide +kernel
theorem dX4_mood_36 : decode cX4_mood 36 = .ok (.iconst 3, 1) := by decide +kernel
theorem dX4_mood_37 : decode cX4_mood 37 = .ok (.iaload, 1) := by decide +kernel
theorem dX4_mood_38 : decode cX4_mood 38 = .ok (.if_icmp .lt 10, 3) := by decide +kernel
theorem dX4_mood_41 : decode cX4_mood 41 = .ok (.aload_n 0, 1) := by decide +kernel
theorem dX4_mood_42 : decode cX4_mood 42 = .ok (.bipush (-3), 2) := by decide +kernel
theorem dX4_mood_44 : decode cX4_mood 44 = .ok (.invokevirtual 91, 3) := by decide +kernel
theorem dX4_mood_47 : decode cX4_mood 47 = .ok (.ireturn, 1) := by decide +kernel
theorem dX4_mood_48 : decode cX4_mood 48 = .ok (.aload_n 0, 1) := by decide +kernel
theorem dX4_mood_49 : decode cX4_mood 49 = .ok (.getfield 7, 3) := by decide +kernel
theorem dX4_mood_52 : decode cX4_mood 52 = .ok (.iconst 1, 1) := by decide +kernel
theorem dX4_mood_53 : decode cX4_mood 53 = .ok (.iload_n 1, 1) := by decide +kernel
theorem dX4_mood_54 : decode cX4_mood 54 = .ok (.iastore, 1) := by decide +kernel
theorem dX4_mood_55 : decode cX4_mood 55 = .ok (.aload_n 0, 1) := by decide +kernel
theorem dX4_mood_56 : decode cX4_mood 56 = .ok (.getfield 7, 3) := by decide +kernel
theorem dX4_mood_59 : decode cX4_mood 59 = .ok (.iconst 2, 1) := by decide +kernel
theorem dX4_mood_60 : decode cX4_mood 60 = .ok (.iload_n 2, 1) := by decide +kernel
theorem dX4_mood_61 : decode cX4_mood 61 = .ok (.iastore, 1) := by decide +kernel
theorem dX4_mood_62 : decode cX4_mood 62 = .ok (.iconst 1, 1) := by decide +kernel
theorem dX4_mood_63 : decode cX4_mood 63 = .ok (.ireturn, 1) := by decide +kernel
theorem dX4_bound_0 : decode cX4_bound 0 = .ok (.iload_n 1, 1) := by decide +kernel
theorem dX4_bound_1 : decode cX4_bound 1 = .ok (.i2l, 1) := by decide +kernel
theorem dX4_bound_2 : decode cX4_bound 2 = .ok (.lconst 1, 1) := by decide +kernel
theorem dX4_bound_3 : decode cX4_bound 3 = .ok (.ldc2_w 94, 3) := by decide +kernel
theorem dX4_bound_6 : decode cX4_bound 6 = .ok (.invokestatic 58, 3) := by decide +kernel
theorem dX4_bound_9 : decode cX4_bound 9 = .ok (.ifCond .eq 15, 3) := by decide +kernel
theorem dX4_bound_12 : decode cX4_bound 12 = .ok (.iload_n 2, 1) := by decide +kernel
theorem dX4_bound_13 : decode cX4_bound 13 = .ok (.i2l, 1) := by decide +kernel
theorem dX4_bound_14 : decode cX4_bound 14 = .ok (.lconst 1, 1) := by decide +kernel
theorem dX4_bound_15 : decode cX4_bound 15 = .ok (.ldc2_w 94, 3) := by decide +kernel
theorem dX4_bound_18 : decode cX4_bound 18 = .ok (.invokestatic 58, 3) := by decide +kernel
theorem dX4_bound_21 : decode cX4_bound 21 = .ok (.ifCond .ne 10, 3) := by decide +kernel
theorem dX4_bound_24 : decode cX4_bound 24 = .ok (.aload_n 0, 1) := by decide +kernel
theorem dX4_bound_25 : decode cX4_bound 25 = .ok (.bipush (-2), 2) := by decide +kernel
theorem dX4_bound_27 : decode cX4_bound 27 = .ok (.invokevirtual 91, 3) := by decide +kernel
theorem dX4_bound_30 : decode cX4_bound 30 = .ok (.ireturn, 1) := by decide +kernel
theorem dX4_bound_31 : decode cX4_bound 31 = .ok (.aload_n 0, 1) := by decide +kernel
theorem dX4_bound_32 : decode cX4_bound 32 = .ok (.getfield 7, 3) := by decide +kernel
theorem dX4_bound_35 : decode cX4_bound 35 = .ok (.iconst 1, 1) := by decide +kernel
theorem dX4_bound_36 : decode cX4_bound 36 = .ok (.iaload, 1) := by decide +kernel
theorem dX4_bound_37 : decode cX4_bound 37 = .ok (.iload_n 1, 1) := by decide +kernel
theorem dX4_bound_38 : decode cX4_bound 38 = .ok (.if_icmp .lt 10, 3) := by decide +kernel
theorem dX4_bound_41 : decode cX4_bound 41 = .ok (.aload_n 0, 1) := by decide +kernel
theorem dX4_bound_42 : decode cX4_bound 42 = .ok (.bipush (-3), 2) := by decide +kernel
theorem dX4_bound_44 : decode cX4_bound 44 = .ok (.invokevirtual 91, 3) := by decide +kernel
theorem dX4_bound_47 : decode cX4_bound 47 = .ok (.ireturn, 1) := by decide +kernel
theorem dX4_bound_48 : decode cX4_bound 48 = .ok (.aload_n 0, 1) := by decide +kernel
theorem dX4_bound_49 : decode cX4_bound 49 = .ok (.getfield 7, 3) := by decide +kernel
theorem dX4_bound_52 : decode cX4_bound 52 = .ok (.iconst 3, 1) := by decide +kernel
theorem dX4_bound_53 : decode cX4_bound 53 = .ok (.iload_n 1, 1) := by decide +kernel
theorem dX4_bound_54 : decode cX4_bound 54 = .ok (.iastore, 1) := by decide +kernel
theorem dX4_bound_55 : decode cX4_bound 55 = .ok (.aload_n 0, 1) := by decide +kernel
theorem dX4_bound_56 : decode cX4_bound 56 = .ok (.getfield 7, 3) := by decide +kernel
theorem dX4_bound_59 : decode cX4_bound 59 = .ok (.iconst 4, 1) := by decide +kernel
theorem dX4_bound_60 : decode cX4_bound 60 = .ok (.iload_n 2, 1) := by decide +kernel
theorem dX4_bound_61 : decode cX4_bound 61 = .ok (.iastore, 1) := by decide +kernel
theorem dX4_bound_62 : decode cX4_bound 62 = .ok (.iconst 1, 1) := by decide +kernel
theorem dX4_bound_63 : decode cX4_bound 63 = .ok (.ireturn, 1) := by decide +kernel
theorem dX4_vow_0 : decode cX4_vow 0 = .ok (.iload_n 1, 1) := by decide +kernel
theorem dX4_vow_1 : decode cX4_vow 1 = .ok (.i2l, 1) := by decide +kernel
theorem dX4_vow_2 : decode cX4_vow 2 = .ok (.lconst 0, 1) := by decide +kernel
theorem dX4_vow_3 : decode cX4_vow 3 = .ok (.ldc2_w 96, 3) := by decide +kernel
theorem dX4_vow_6 : decode cX4_vow 6 = .ok (.invokestatic 58, 3) := by decide +kernel
theorem dX4_vow_9 : decode cX4_vow 9 = .ok (.ifCond .eq 15, 3) := by decide +kernel
theorem dX4_vow_12 : decode cX4_vow 12 = .ok (.iload_n 2, 1) := by decide +kernel
theorem dX4_vow_13 : decode cX4_vow 13 = .ok (.i2l, 1) := by decide +kernel
theorem dX4_vow_14 : decode cX4_vow 14 = .ok (.lconst 0, 1) := by decide +kernel
theorem dX4_vow_15 : decode cX4_vow 15 = .ok (.ldc2_w 98, 3) := by decide +kernel
theorem dX4_vow_18 : decode cX4_vow 18 = .ok (.invokestatic 58, 3) := by decide +kernel
theorem dX4_vow_21 : decode cX4_vow 21 = .ok (.ifCond .ne 10, 3) := by decide +kernel
theorem dX4_vow_24 : decode cX4_vow 24 = .ok (.aload_n 0, 1) := by decide +kernel
theorem dX4_vow_25 : decode cX4_vow 25 = .ok (.bipush (-2), 2) := by decide +kernel
theorem dX4_vow_27 : decode cX4_vow 27 = .ok (.invokevirtual 91, 3) := by decide +kernel
theorem dX4_vow_30 : decode cX4_vow 30 = .ok (.ireturn, 1) := by decide +kernel
theorem dX4_vow_31 : decode cX4_vow 31 = .ok (.aload_n 0, 1) := by decide +kernel
theorem dX4_vow_32 : decode cX4_vow 32 = .ok (.getfield 7, 3) := by decide +kernel
theorem dX4_vow_35 : decode cX4_vow 35 = .ok (.bipush 7, 2) := by decide +kernel
theorem dX4_vow_37 : decode cX4_vow 37 = .ok (.iload_n 1, 1) := by decide +kernel
theorem dX4_vow_38 : decode cX4_vow 38 = .ok (.iadd, 1) := by decide +kernel
theorem dX4_vow_39 : decode cX4_vow 39 = .ok (.iaload, 1) := by decide +kernel
theorem dX4_vow_40 : decode cX4_vow 40 = .ok (.istore_n 3, 1) := by decide +kernel
theorem dX4_vow_41 : decode cX4_vow 41 = .ok (.aload_n 0, 1) := by decide +kernel
theorem dX4_vow_42 : decode cX4_vow 42 = .ok (.getfield 7, 3) := by decide +kernel
theorem dX4_vow_45 : decode cX4_vow 45 = .ok (.bipush 7, 2) := by decide +kernel
theorem dX4_vow_47 : decode cX4_vow 47 = .ok (.iload_n 1, 1) := by decide +kernel
theorem dX4_vow_48 : decode cX4_vow 48 = .ok (.iadd, 1) := by decide +kernel
theorem dX4_vow_49 : decode cX4_vow 49 = .ok (.iload_n 2, 1) := by decide +kernel
theorem dX4_vow_50 : decode cX4_vow 50 = .ok (.iastore, 1) := by decide +kernel
theorem dX4_vow_51 : decode cX4_vow 51 = .ok (.iload_n 3, 1) := by decide +kernel
theorem dX4_vow_52 : decode cX4_vow 52 = .ok (.ireturn, 1) := by decide +kernel
theorem dX4_type_0 : decode cX4_type 0 = .ok (.iload_n 1, 1) := by decide +kernel
theorem dX4_type_1 : decode cX4_type 1 = .ok (.i2l, 1) := by decide +kernel
theorem dX4_type_2 : decode cX4_type 2 = .ok (.lconst 0, 1) := by decide +kernel
theorem dX4_type_3 : decode cX4_type 3 = .ok (.ldc2_w 100, 3) := by decide +kernel
theorem dX4_type_6 : decode cX4_type 6 = .ok (.invokestatic 58, 3) := by decide +kernel
theorem dX4_type_9 : decode cX4_type 9 = .ok (.ifCond .ne 10, 3) := by decide +kernel
theorem dX4_type_12 : decode cX4_type 12 = .ok (.aload_n 0, 1) := by decide +kernel
theorem dX4_type_13 : decode cX4_type 13 = .ok (.bipush (-2), 2) := by decide +kernel
theorem dX4_type_15 : decode cX4_type 15 = .ok (.invokevirtual 91, 3) := by decide +kernel
theorem dX4_type_18 : decode cX4_type 18 = .ok (.ireturn, 1) := by decide +kernel
theorem dX4_type_19 : decode cX4_type 19 = .ok (.aload_n 0, 1) := by decide +kernel
theorem dX4_type_20 : decode cX4_type 20 = .ok (.getfield 102, 3) := by decide +kernel
theorem dX4_type_23 : decode cX4_type 23 = .ok (.sipush 150, 3) := by decide +kernel
theorem dX4_type_26 : decode cX4_type 26 = .ok (.if_icmp .ne 10, 3) := by decide +kernel
theorem dX4_type_29 : decode cX4_type 29 = .ok (.aload_n 0, 1) := by decide +kernel
theorem dX4_type_30 : decode cX4_type 30 = .ok (.bipush (-4), 2) := by decide +kernel
theorem dX4_type_32 : decode cX4_type 32 = .ok (.invokevirtual 91, 3) := by decide +kernel
theorem dX4_type_35 : decode cX4_type 35 = .ok (.ireturn, 1) := by decide +kernel
theorem dX4_type_36 : decode cX4_type 36 = .ok (.aload_n 0, 1) := by decide +kernel
theorem dX4_type_37 : decode cX4_type 37 = .ok (.getfield 22, 3) := by decide +kernel
theorem dX4_type_40 : decode cX4_type 40 = .ok (.aload_n 0, 1) := by decide +kernel
theorem dX4_type_41 : decode cX4_type 41 = .ok (.getfield 102, 3) := by decide +kernel
theorem dX4_type_44 : decode cX4_type 44 = .ok (.iload_n 1, 1) := by decide +kernel
theorem dX4_type_45 : decode cX4_type 45 = .ok (.iastore, 1) := by decide +kernel
theorem dX4_type_46 : decode cX4_type 46 = .ok (.aload_n 0, 1) := by decide +kernel
theorem dX4_type_47 : decode cX4_type 47 = .ok (.dup, 1) := by decide +kernel
theorem dX4_type_48 : decode cX4_type 48 = .ok (.getfield 102, 3) := by decide +kernel
theorem dX4_type_51 : decode cX4_type 51 = .ok (.iconst 1, 1) := by decide +kernel
theorem dX4_type_52 : decode cX4_type 52 = .ok (.iadd, 1) := by decide +kernel
theorem dX4_type_53 : decode cX4_type 53 = .ok (.putfield 102, 3) := by decide +kernel
theorem dX4_type_56 : decode cX4_type 56 = .ok (.aload_n 0, 1) := by decide +kernel
theorem dX4_type_57 : decode cX4_type 57 = .ok (.getfield 102, 3) := by decide +kernel
theorem dX4_type_60 : decode cX4_type 60 = .ok (.ireturn, 1) := by decide +kernel
theorem dX4_clear_0 : decode cX4_clear 0 = .ok (.aload_n 0, 1) := by decide +kernel
theorem dX4_clear_1 : decode cX4_clear 1 = .ok (.getfield 102, 3) := by decide +kernel
theorem dX4_clear_4 : decode cX4_clear 4 = .ok (.istore_n 1, 1) := by decide +kernel
theorem dX4_clear_5 : decode cX4_clear 5 = .ok (.aload_n 0, 1) := by decide +kernel
theorem dX4_clear_6 : decode cX4_clear 6 = .ok (.iconst 0, 1) := by decide +kernel
theorem dX4_clear_7 : decode cX4_clear 7 = .ok (.putfield 102, 3) := by decide +kernel
theorem dX4_clear_10 : decode cX4_clear 10 = .ok (.iload_n 1, 1) := by decide +kernel
theorem dX4_clear_11 : decode cX4_clear 11 = .ok (.ireturn, 1) := by decide +kernel
theorem dX4_here_0 : decode cX4_here 0 = .ok (.aload_n 0, 1) := by decide +kernel
theorem dX4_here_1 : decode cX4_here 1 = .ok (.getfield 105, 3) := by decide +kernel
theorem dX4_here_4 : decode cX4_here 4 = .ok (.aload_n 0, 1) := by decide +kernel
theorem dX4_here_5 : decode cX4_here 5 = .ok (.getfield 102, 3) := by decide +kernel
theorem dX4_here_8 : decode cX4_here 8 = .ok (.if_icmp .ge 30, 3) := by decide +kernel
theorem dX4_here_11 : decode cX4_here 11 = .ok (.aload_n 0, 1) := by decide +kernel
theorem dX4_here_12 : decode cX4_here 12 = .ok (.getfield 22, 3) := by decide +kernel
theorem dX4_here_15 : decode cX4_here 15 = .ok (.aload_n 0, 1) := by decide +kernel
theorem dX4_here_16 : decode cX4_here 16 = .ok (.getfield 105, 3) := by decide +kernel
theorem dX4_here_19 : decode cX4_here 19 = .ok (.iaload, 1) := by decide +kernel
theorem dX4_here_20 : decode cX4_here 20 = .ok (.bipush 32, 2) := by decide +kernel
theorem dX4_here_22 : decode cX4_here 22 = .ok (.if_icmp .ne 16, 3) := by decide +kernel
theorem dX4_here_25 : decode cX4_here 25 = .ok (.aload_n 0, 1) := by decide +kernel
theorem dX4_here_26 : decode cX4_here 26 = .ok (.dup, 1) := by decide +kernel
theorem dX4_here_27 : decode cX4_here 27 = .ok (.getfield 105, 3) := by decide +kernel
theorem dX4_here_30 : decode cX4_here 30 = .ok (.iconst 1, 1) := by decide +kernel
theorem dX4_here_31 : decode cX4_here 31 = .ok (.iadd, 1) := by decide +kernel
theorem dX4_here_32 : decode cX4_here 32 = .ok (.putfield 105, 3) := by decide +kernel
theorem dX4_here_35 : decode cX4_here 35 = .ok (.goto (-35), 3) := by decide +kernel
theorem dX4_here_38 : decode cX4_here 38 = .ok (.aload_n 0, 1) := by decide +kernel
theorem dX4_here_39 : decode cX4_here 39 = .ok (.aload_n 0, 1) := by decide +kernel
theorem dX4_here_40 : decode cX4_here 40 = .ok (.getfield 105, 3) := by decide +kernel
theorem dX4_here_43 : decode cX4_here 43 = .ok (.putfield 108, 3) := by decide +kernel
theorem dX4_here_46 : decode cX4_here 46 = .ok (.aload_n 0, 1) := by decide +kernel
theorem dX4_here_47 : decode cX4_here 47 = .ok (.getfield 105, 3) := by decide +kernel
theorem dX4_here_50 : decode cX4_here 50 = .ok (.aload_n 0, 1) := by decide +kernel
theorem dX4_here_51 : decode cX4_here 51 = .ok (.getfield 102, 3) := by decide +kernel
theorem dX4_here_54 : decode cX4_here 54 = .ok (.if_icmp .ge 15, 3) := by decide +kernel
theorem dX4_here_57 : decode cX4_here 57 = .ok (.aload_n 0, 1) := by decide +kernel
theorem dX4_here_58 : decode cX4_here 58 = .ok (.getfield 22, 3) := by decide +kernel
theorem dX4_here_61 : decode cX4_here 61 = .ok (.aload_n 0, 1) := by decide +kernel
theorem dX4_here_62 : decode cX4_here 62 = .ok (.getfield 105, 3) := by decide +kernel
theorem dX4_here_65 : decode cX4_here 65 = .ok (.iaload, 1) := by decide +kernel
theorem dX4_here_66 : decode cX4_here 66 = .ok (.goto 4, 3) := by decide +kernel
theorem dX4_here_69 : decode cX4_here 69 = .ok (.iconst (-1), 1) := by decide +kernel
theorem dX4_here_70 : decode cX4_here 70 = .ok (.ireturn, 1) := by decide +kernel
theorem dX4_wrong_0 : decode cX4_wrong 0 = .ok (.aload_n 0, 1) := by decide +kernel
theorem dX4_wrong_1 : decode cX4_wrong 1 = .ok (.aload_n 0, 1) := by decide +kernel
theorem dX4_wrong_2 : decode cX4_wrong 2 = .ok (.getfield 111, 3) := by decide +kernel
theorem dX4_wrong_5 : decode cX4_wrong 5 = .ok (.ifCond .ge 10, 3) := by decide +kernel
theorem dX4_wrong_8 : decode cX4_wrong 8 = .ok (.aload_n 0, 1) := by decide +kernel
theorem dX4_wrong_9 : decode cX4_wrong 9 = .ok (.getfield 108, 3) := by decide +kernel
theorem dX4_wrong_12 : decode cX4_wrong 12 = .ok (.goto 7, 3) := by decide +kernel
theorem dX4_wrong_15 : decode cX4_wrong 15 = .ok (.aload_n 0, 1) := by decide +kernel
theorem dX4_wrong_16 : decode cX4_wrong 16 = .ok (.getfield 111, 3) := by decide +kernel
theorem dX4_wrong_19 : decode cX4_wrong 19 = .ok (.putfield 111, 3) := by decide +kernel
theorem dX4_wrong_22 : decode cX4_wrong 22 = .ok (.return_, 1) := by decide +kernel
theorem dX4_takeNumber_0 : decode cX4_takeNumber 0 = .ok (.aload_n 0, 1) := by decide +kernel
theorem dX4_takeNumber_1 : decode cX4_takeNumber 1 = .ok (.getfield 111, 3) := by decide +kernel
theorem dX4_takeNumber_4 : decode cX4_takeNumber 4 = .ok (.ifCond .lt 5, 3) := by decide +kernel
theorem dX4_takeNumber_7 : decode cX4_takeNumber 7 = .ok (.iconst 0, 1) := by decide +kernel
theorem dX4_takeNumber_8 : decode cX4_takeNumber 8 = .ok (.ireturn, 1) := by decide +kernel
theorem dX4_takeNumber_9 : decode cX4_takeNumber 9 = .ok (.aload_n 0, 1) := by decide +kernel
theorem dX4_takeNumber_10 : decode cX4_takeNumber 10 = .ok (.iconst 0, 1) := by decide +kernel
theorem dX4_takeNumber_11 : decode cX4_takeNumber 11 = .ok (.putfield 114, 3) := by decide +kernel
theorem dX4_takeNumber_14 : decode cX4_takeNumber 14 = .ok (.aload_n 0, 1) := by decide +kernel
theorem dX4_takeNumber_15 : decode cX4_takeNumber 15 = .ok (.invokevirtual 117, 3) := by decide +kernel
theorem dX4_takeNumber_18 : decode cX4_takeNumber 18 = .ok (.istore_n 3, 1) := by decide +kernel
theorem dX4_takeNumber_19 : decode cX4_takeNumber 19 = .ok (.iconst 0, 1) := by decide +kernel
theorem dX4_takeNumber_20 : decode cX4_takeNumber 20 = .ok (.istore 4, 2) := by decide +kernel
theorem dX4_takeNumber_22 : decode cX4_takeNumber 22 = .ok (.aload_n 0, 1) := by decide +kernel
theorem dX4_takeNumber_23 : decode cX4_takeNumber 23 = .ok (.getfield 105, 3) := by decide +kernel
theorem dX4_takeNumber_26 : decode cX4_takeNumber 26 = .ok (.aload_n 0, 1) := by decide +kernel
theorem dX4_takeNumber_27 : decode cX4_takeNumber 27 = .ok (.getfield 102, 3) := by decide +kernel
theorem dX4_takeNumber_30 : decode cX4_takeNumber 30 = .ok (.if_icmp .ge 77, 3) := by decide +kernel
theorem dX4_takeNumber_33 : decode cX4_takeNumber 33 = .ok (.aload_n 0, 1) := by decide +kernel
theorem dX4_takeNumber_34 : decode cX4_takeNumber 34 = .ok (.getfield 22, 3) := by decide +kernel
theorem dX4_takeNumber_37 : decode cX4_takeNumber 37 = .ok (.aload_n 0, 1) := by decide +kernel
theorem dX4_takeNumber_38 : decode cX4_takeNumber 38 = .ok (.getfield 105, 3) := by decide +kernel
theorem dX4_takeNumber_41 : decode cX4_takeNumber 41 = .ok (.iaload, 1) := by decide +kernel
theorem dX4_takeNumber_42 : decode cX4_takeNumber 42 = .ok (.i2l, 1) := by decide +kernel
theorem dX4_takeNumber_43 : decode cX4_takeNumber 43 = .ok (.ldc2_w 121, 3) := by decide +kernel
theorem dX4_takeNumber_46 : decode cX4_takeNumber 46 = .ok (.ldc2_w 123, 3) := by decide +kernel
theorem dX4_takeNumber_49 : decode cX4_takeNumber 49 = .ok (.invokestatic 58, 3) := by decide +kernel
theorem dX4_takeNumber_52 : decode cX4_takeNumber 52 = .ok (.ifCond .eq 55, 3) := by decide +kernel
theorem dX4_takeNumber_55 : decode cX4_takeNumber 55 = .ok (.aload_n 0, 1) := by decide +kernel
theorem dX4_takeNumber_56 : decode cX4_takeNumber 56 = .ok (.iload 4, 2) := by decide +kernel
theorem dX4_takeNumber_58 : decode cX4_takeNumber 58 = .ok (.iconst 2, 1) := by decide +kernel
theorem dX4_takeNumber_59 : decode cX4_takeNumber 59 = .ok (.if_icmp .ge 26, 3) := by decide +kernel
theorem dX4_takeNumber_62 : decode cX4_takeNumber 62 = .ok (.bipush 10, 2) := by decide +kernel
theorem dX4_takeNumber_64 : decode cX4_takeNumber 64 = .ok (.aload_n 0, 1) := by decide +kernel
theorem dX4_takeNumber_65 : decode cX4_takeNumber 65 = .ok (.getfield 114, 3) := by decide +kernel
theorem dX4_takeNumber_68 : decode cX4_takeNumber 68 = .ok (.imul, 1) := by decide +kernel
theorem dX4_takeNumber_69 : decode cX4_takeNumber 69 = .ok (.aload_n 0, 1) := by decide +kernel
theorem dX4_takeNumber_70 : decode cX4_takeNumber 70 = .ok (.getfield 22, 3) := by decide +kernel
theorem dX4_takeNumber_73 : decode cX4_takeNumber 73 = .ok (.aload_n 0, 1) := by decide +kernel
theorem dX4_takeNumber_74 : decode cX4_takeNumber 74 = .ok (.getfield 105, 3) := by decide +kernel
theorem dX4_takeNumber_77 : decode cX4_takeNumber 77 = .ok (.iaload, 1) := by decide +kernel
theorem dX4_takeNumber_78 : decode cX4_takeNumber 78 = .ok (.iadd, 1) := by decide +kernel
theorem dX4_takeNumber_79 : decode cX4_takeNumber 79 = .ok (.bipush 48, 2) := by decide +kernel
theorem dX4_takeNumber_81 : decode cX4_takeNumber 81 = .ok (.isub, 1) := by decide +kernel
theorem dX4_takeNumber_82 : decode cX4_takeNumber 82 = .ok (.goto 6, 3) := by decide +kernel
theorem dX4_takeNumber_85 : decode cX4_takeNumber 85 = .ok (.sipush 1000, 3) := by decide +kernel
theorem dX4_takeNumber_88 : decode cX4_takeNumber 88 = .ok (.putfield 114, 3) := by decide +kernel
theorem dX4_takeNumber_91 : decode cX4_takeNumber 91 = .ok (.iinc 4 1, 3) := by decide +kernel
theorem dX4_takeNumber_94 : decode cX4_takeNumber 94 = .ok (.aload_n 0, 1) := by decide +kernel
theorem dX4_takeNumber_95 : decode cX4_takeNumber 95 = .ok (.dup, 1) := by decide +kernel
theorem dX4_takeNumber_96 : decode cX4_takeNumber 96 = .ok (.getfield 105, 3) := by decide +kernel
theorem dX4_takeNumber_99 : decode cX4_takeNumber 99 = .ok (.iconst 1, 1) := by decide +kernel
theorem dX4_takeNumber_100 : decode cX4_takeNumber 100 = .ok (.iadd, 1) := by decide +kernel
theorem dX4_takeNumber_101 : decode cX4_takeNumber 101 = .ok (.putfield 105, 3) := by decide +kernel
theorem dX4_takeNumber_104 : decode cX4_takeNumber 104 = .ok (.goto (-82), 3) := by decide +kernel
theorem dX4_takeNumber_107 : decode cX4_takeNumber 107 = .ok (.iload_n 3, 1) := by decide +kernel
theorem dX4_takeNumber_108 : decode cX4_takeNumber 108 = .ok (.ifCond .lt 23, 3) := by decide +kernel
theorem dX4_takeNumber_111 : decode cX4_takeNumber 111 = .ok (.iload 4, 2) := by decide +kernel
theorem dX4_takeNumber_113 : decode cX4_takeNumber 113 = .ok (.ifCond .eq 18, 3) := by decide +kernel
theorem dX4_takeNumber_116 : decode cX4_takeNumber 116 = .ok (.aload_n 0, 1) := by decide +kernel
theorem dX4_takeNumber_117 : decode cX4_takeNumber 117 = .ok (.getfield 114, 3) := by decide +kernel
theorem dX4_takeNumber_120 : decode cX4_takeNumber 120 = .ok (.i2l, 1) := by decide +kernel
theorem dX4_takeNumber_121 : decode cX4_takeNumber 121 = .ok (.iload_n 1, 1) := by decide +kernel
theorem dX4_takeNumber_122 : decode cX4_takeNumber 122 = .ok (.i2l, 1) := by decide +kernel
theorem dX4_takeNumber_123 : decode cX4_takeNumber 123 = .ok (.iload_n 2, 1) := by decide +kernel
theorem dX4_takeNumber_124 : decode cX4_takeNumber 124 = .ok (.i2l, 1) := by decide +kernel
theorem dX4_takeNumber_125 : decode cX4_takeNumber 125 = .ok (.invokestatic 58, 3) := by decide +kernel
theorem dX4_takeNumber_128 : decode cX4_takeNumber 128 = .ok (.ifCond .ne 7, 3) := by decide +kernel
theorem dX4_takeNumber_131 : decode cX4_takeNumber 131 = .ok (.aload_n 0, 1) := by decide +kernel
theorem dX4_takeNumber_132 : decode cX4_takeNumber 132 = .ok (.invokevirtual 125, 3) := by decide +kernel
theorem dX4_takeNumber_135 : decode cX4_takeNumber 135 = .ok (.aload_n 0, 1) := by decide +kernel
theorem dX4_takeNumber_136 : decode cX4_takeNumber 136 = .ok (.getfield 114, 3) := by decide +kernel
theorem dX4_takeNumber_139 : decode cX4_takeNumber 139 = .ok (.ireturn, 1) := by decide +kernel
theorem dX4_takeWord_0 : decode cX4_takeWord 0 = .ok (.aload_n 0, 1) := by decide +kernel
theorem dX4_takeWord_1 : decode cX4_takeWord 1 = .ok (.invokevirtual 117, 3) := by decide +kernel
theorem dX4_takeWord_4 : decode cX4_takeWord 4 = .ok (.istore_n 1, 1) := by decide +kernel
theorem dX4_takeWord_5 : decode cX4_takeWord 5 = .ok (.iconst 0, 1) := by decide +kernel
theorem dX4_takeWord_6 : decode cX4_takeWord 6 = .ok (.istore_n 2, 1) := by decide +kernel
theorem dX4_takeWord_7 : decode cX4_takeWord 7 = .ok (.aload_n 0, 1) := by decide +kernel
theorem dX4_takeWord_8 : decode cX4_takeWord 8 = .ok (.getfield 105, 3) := by decide +kernel
theorem dX4_takeWord_11 : decode cX4_takeWord 11 = .ok (.aload_n 0, 1) := by decide +kernel
theorem dX4_takeWord_12 : decode cX4_takeWord 12 = .ok (.getfield 102, 3) := by decide +kernel
theorem dX4_takeWord_15 : decode cX4_takeWord 15 = .ok (.if_icmp .ge 95, 3) := by decide +kernel
theorem dX4_takeWord_18 : decode cX4_takeWord 18 = .ok (.aload_n 0, 1) := by decide +kernel
theorem dX4_takeWord_19 : decode cX4_takeWord 19 = .ok (.getfield 22, 3) := by decide +kernel
theorem dX4_takeWord_22 : decode cX4_takeWord 22 = .ok (.aload_n 0, 1) := by decide +kernel
theorem dX4_takeWord_23 : decode cX4_takeWord 23 = .ok (.getfield 105, 3) := by decide +kernel
theorem dX4_takeWord_26 : decode cX4_takeWord 26 = .ok (.iaload, 1) := by decide +kernel
theorem dX4_takeWord_27 : decode cX4_takeWord 27 = .ok (.i2l, 1) := by decide +kernel
theorem dX4_takeWord_28 : decode cX4_takeWord 28 = .ok (.ldc2_w 128, 3) := by decide +kernel
theorem dX4_takeWord_31 : decode cX4_takeWord 31 = .ok (.ldc2_w 130, 3) := by decide +kernel
theorem dX4_takeWord_34 : decode cX4_takeWord 34 = .ok (.invokestatic 58, 3) := by decide +kernel
theorem dX4_takeWord_37 : decode cX4_takeWord 37 = .ok (.ifCond .eq 73, 3) := by decide +kernel
theorem dX4_takeWord_40 : decode cX4_takeWord 40 = .ok (.aload_n 0, 1) := by decide +kernel
theorem dX4_takeWord_41 : decode cX4_takeWord 41 = .ok (.getfield 105, 3) := by decide +kernel
theorem dX4_takeWord_44 : decode cX4_takeWord 44 = .ok (.aload_n 0, 1) := by decide +kernel
theorem dX4_takeWord_45 : decode cX4_takeWord 45 = .ok (.getfield 108, 3) := by decide +kernel
theorem dX4_takeWord_48 : decode cX4_takeWord 48 = .ok (.isub, 1) := by decide +kernel
theorem dX4_takeWord_49 : decode cX4_takeWord 49 = .ok (.bipush 6, 2) := by decide +kernel
theorem dX4_takeWord_51 : decode cX4_takeWord 51 = .ok (.if_icmp .ge 25, 3) := by decide +kernel
theorem dX4_takeWord_54 : decode cX4_takeWord 54 = .ok (.bipush 27, 2) := by decide +kernel
theorem dX4_takeWord_56 : decode cX4_takeWord 56 = .ok (.iload_n 2, 1) := by decide +kernel
theorem dX4_takeWord_57 : decode cX4_takeWord 57 = .ok (.imul, 1) := by decide +kernel
theorem dX4_takeWord_58 : decode cX4_takeWord 58 = .ok (.aload_n 0, 1) := by decide +kernel
theorem dX4_takeWord_59 : decode cX4_takeWord 59 = .ok (.getfield 22, 3) := by decide +kernel
theorem dX4_takeWord_62 : decode cX4_takeWord 62 = .ok (.aload_n 0, 1) := by decide +kernel
theorem dX4_takeWord_63 : decode cX4_takeWord 63 = .ok (.getfield 105, 3) := by decide +kernel
theorem dX4_takeWord_66 : decode cX4_takeWord 66 = .ok (.iaload, 1) := by decide +kernel
theorem dX4_takeWord_67 : decode cX4_takeWord 67 = .ok (.iadd, 1) := by decide +kernel
theorem dX4_takeWord_68 : decode cX4_takeWord 68 = .ok (.bipush 97, 2) := by decide +kernel
theorem dX4_takeWord_70 : decode cX4_takeWord 70 = .ok (.isub, 1) := by decide +kernel
theorem dX4_takeWord_71 : decode cX4_takeWord 71 = .ok (.iconst 1, 1) := by decide +kernel
theorem dX4_takeWord_72 : decode cX4_takeWord 72 = .ok (.iadd, 1) := by decide +kernel
theorem dX4_takeWord_73 : decode cX4_takeWord 73 = .ok (.goto 4, 3) := by decide +kernel
theorem dX4_takeWord_76 : decode cX4_takeWord 76 = .ok (.iconst (-1), 1) := by decide +kernel
theorem dX4_takeWord_77 : decode cX4_takeWord 77 = .ok (.istore_n 2, 1) := by decide +kernel
theorem dX4_takeWord_78 : decode cX4_takeWord 78 = .ok (.aload_n 0, 1) := by decide +kernel
theorem dX4_takeWord_79 : decode cX4_takeWord 79 = .ok (.getfield 105, 3) := by decide +kernel
theorem dX4_takeWord_82 : decode cX4_takeWord 82 = .ok (.aload_n 0, 1) := by decide +kernel
theorem dX4_takeWord_83 : decode cX4_takeWord 83 = .ok (.getfield 108, 3) := by decide +kernel
theorem dX4_takeWord_86 : decode cX4_takeWord 86 = .ok (.isub, 1) := by decide +kernel
theorem dX4_takeWord_87 : decode cX4_takeWord 87 = .ok (.iconst 5, 1) := by decide +kernel
theorem dX4_takeWord_88 : decode cX4_takeWord 88 = .ok (.if_icmp .ge 7, 3) := by decide +kernel
theorem dX4_takeWord_91 : decode cX4_takeWord 91 = .ok (.iload_n 2, 1) := by decide +kernel
theorem dX4_takeWord_92 : decode cX4_takeWord 92 = .ok (.goto 4, 3) := by decide +kernel
theorem dX4_takeWord_95 : decode cX4_takeWord 95 = .ok (.iconst (-1), 1) := by decide +kernel
theorem dX4_takeWord_96 : decode cX4_takeWord 96 = .ok (.istore_n 2, 1) := by decide +kernel
theorem dX4_takeWord_97 : decode cX4_takeWord 97 = .ok (.aload_n 0, 1) := by decide +kernel
theorem dX4_takeWord_98 : decode cX4_takeWord 98 = .ok (.dup, 1) := by decide +kernel
theorem dX4_takeWord_99 : decode cX4_takeWord 99 = .ok (.getfield 105, 3) := by decide +kernel
theorem dX4_takeWord_102 : decode cX4_takeWord 102 = .ok (.iconst 1, 1) := by decide +kernel
theorem dX4_takeWord_103 : decode cX4_takeWord 103 = .ok (.iadd, 1) := by decide +kernel
theorem dX4_takeWord_104 : decode cX4_takeWord 104 = .ok (.putfield 105, 3) := by decide +kernel
theorem dX4_takeWord_107 : decode cX4_takeWord 107 = .ok (.goto (-100), 3) := by decide +kernel
theorem dX4_takeWord_110 : decode cX4_takeWord 110 = .ok (.iload_n 1, 1) := by decide +kernel
theorem dX4_takeWord_111 : decode cX4_takeWord 111 = .ok (.ifCond .ge 7, 3) := by decide +kernel
theorem dX4_takeWord_114 : decode cX4_takeWord 114 = .ok (.iconst (-1), 1) := by decide +kernel
theorem dX4_takeWord_115 : decode cX4_takeWord 115 = .ok (.goto 4, 3) := by decide +kernel
theorem dX4_takeWord_118 : decode cX4_takeWord 118 = .ok (.iload_n 2, 1) := by decide +kernel
theorem dX4_takeWord_119 : decode cX4_takeWord 119 = .ok (.ireturn, 1) := by decide +kernel
theorem dX4_wordOf_0 : decode cX4_wordOf 0 = .ok (.bipush 27, 2) := by decide +kernel
theorem dX4_wordOf_2 : decode cX4_wordOf 2 = .ok (.bipush 27, 2) := by decide +kernel
theorem dX4_wordOf_4 : decode cX4_wordOf 4 = .ok (.iload_n 0, 1) := by decide +kernel
theorem dX4_wordOf_5 : decode cX4_wordOf 5 = .ok (.bipush 97, 2) := by decide +kernel
theorem dX4_wordOf_7 : decode cX4_wordOf 7 = .ok (.isub, 1) := by decide +kernel
theorem dX4_wordOf_8 : decode cX4_wordOf 8 = .ok (.iconst 1, 1) := by decide +kernel
theorem dX4_wordOf_9 : decode cX4_wordOf 9 = .ok (.iadd, 1) := by decide +kernel
theorem dX4_wordOf_10 : decode cX4_wordOf 10 = .ok (.imul, 1) := by decide +kernel
theorem dX4_wordOf_11 : decode cX4_wordOf 11 = .ok (.iload_n 1, 1) := by decide +kernel
theorem dX4_wordOf_12 : decode cX4_wordOf 12 = .ok (.iadd, 1) := by decide +kernel
theorem dX4_wordOf_13 : decode cX4_wordOf 13 = .ok (.bipush 97, 2) := by decide +kernel
theorem dX4_wordOf_15 : decode cX4_wordOf 15 = .ok (.isub, 1) := by decide +kernel
theorem dX4_wordOf_16 : decode cX4_wordOf 16 = .ok (.iconst 1, 1) := by decide +kernel
theorem dX4_wordOf_17 : decode cX4_wordOf 17 = .ok (.iadd, 1) := by decide +kernel
theorem dX4_wordOf_18 : decode cX4_wordOf 18 = .ok (.imul, 1) := by decide +kernel
theorem dX4_wordOf_19 : decode cX4_wordOf 19 = .ok (.iload_n 2, 1) := by decide +kernel
theorem dX4_wordOf_20 : decode cX4_wordOf 20 = .ok (.iadd, 1) := by decide +kernel
theorem dX4_wordOf_21 : decode cX4_wordOf 21 = .ok (.bipush 97, 2) := by decide +kernel
theorem dX4_wordOf_23 : decode cX4_wordOf 23 = .ok (.isub, 1) := by decide +kernel
theorem dX4_wordOf_24 : decode cX4_wordOf 24 = .ok (.iconst 1, 1) := by decide +kernel
theorem dX4_wordOf_25 : decode cX4_wordOf 25 = .ok (.iadd, 1) := by decide +kernel
theorem dX4_wordOf_26 : decode cX4_wordOf 26 = .ok (.istore 5, 2) := by decide +kernel
theorem dX4_wordOf_28 : decode cX4_wordOf 28 = .ok (.iload_n 3, 1) := by decide +kernel
theorem dX4_wordOf_29 : decode cX4_wordOf 29 = .ok (.ifCond .le 18, 3) := by decide +kernel
theorem dX4_wordOf_32 : decode cX4_wordOf 32 = .ok (.bipush 27, 2) := by decide +kernel
theorem dX4_wordOf_34 : decode cX4_wordOf 34 = .ok (.iload 5, 2) := by decide +kernel
theorem dX4_wordOf_36 : decode cX4_wordOf 36 = .ok (.imul, 1) := by decide +kernel
theorem dX4_wordOf_37 : decode cX4_wordOf 37 = .ok (.iload_n 3, 1) := by decide +kernel
theorem dX4_wordOf_38 : decode cX4_wordOf 38 = .ok (.iadd, 1) := by decide +kernel
theorem dX4_wordOf_39 : decode cX4_wordOf 39 = .ok (.bipush 97, 2) := by decide +kernel
theorem dX4_wordOf_41 : decode cX4_wordOf 41 = .ok (.isub, 1) := by decide +kernel
theorem dX4_wordOf_42 : decode cX4_wordOf 42 = .ok (.iconst 1, 1) := by decide +kernel
theorem dX4_wordOf_43 : decode cX4_wordOf 43 = .ok (.iadd, 1) := by decide +kernel
theorem dX4_wordOf_44 : decode cX4_wordOf 44 = .ok (.goto 5, 3) := by decide +kernel
theorem dX4_wordOf_47 : decode cX4_wordOf 47 = .ok (.iload 5, 2) := by decide +kernel
theorem dX4_wordOf_49 : decode cX4_wordOf 49 = .ok (.istore 5, 2) := by decide +kernel
theorem dX4_wordOf_51 : decode cX4_wordOf 51 = .ok (.iload 4, 2) := by decide +kernel
theorem dX4_wordOf_53 : decode cX4_wordOf 53 = .ok (.ifCond .le 19, 3) := by decide +kernel
theorem dX4_wordOf_56 : decode cX4_wordOf 56 = .ok (.bipush 27, 2) := by decide +kernel
theorem dX4_wordOf_58 : decode cX4_wordOf 58 = .ok (.iload 5, 2) := by decide +kernel
theorem dX4_wordOf_60 : decode cX4_wordOf 60 = .ok (.imul, 1) := by decide +kernel
theorem dX4_wordOf_61 : decode cX4_wordOf 61 = .ok (.iload 4, 2) := by decide +kernel
theorem dX4_wordOf_63 : decode cX4_wordOf 63 = .ok (.iadd, 1) := by decide +kernel
theorem dX4_wordOf_64 : decode cX4_wordOf 64 = .ok (.bipush 97, 2) := by decide +kernel
theorem dX4_wordOf_66 : decode cX4_wordOf 66 = .ok (.isub, 1) := by decide +kernel
theorem dX4_wordOf_67 : decode cX4_wordOf 67 = .ok (.iconst 1, 1) := by decide +kernel
theorem dX4_wordOf_68 : decode cX4_wordOf 68 = .ok (.iadd, 1) := by decide +kernel
theorem dX4_wordOf_69 : decode cX4_wordOf 69 = .ok (.goto 5, 3) := by decide +kernel
theorem dX4_wordOf_72 : decode cX4_wordOf 72 = .ok (.iload 5, 2) := by decide +kernel
theorem dX4_wordOf_74 : decode cX4_wordOf 74 = .ok (.ireturn, 1) := by decide +kernel
theorem dX4_takeMood_0 : decode cX4_takeMood 0 = .ok (.aload_n 0, 1) := by decide +kernel
theorem dX4_takeMood_1 : decode cX4_takeMood 1 = .ok (.iconst 0, 1) := by decide +kernel
theorem dX4_takeMood_2 : decode cX4_takeMood 2 = .ok (.aload_n 0, 1) := by decide +kernel
theorem dX4_takeMood_3 : decode cX4_takeMood 3 = .ok (.getfield 7, 3) := by decide +kernel
theorem dX4_takeMood_6 : decode cX4_takeMood 6 = .ok (.iconst 3, 1) := by decide +kernel
theorem dX4_takeMood_7 : decode cX4_takeMood 7 = .ok (.iaload, 1) := by decide +kernel
theorem dX4_takeMood_8 : decode cX4_takeMood 8 = .ok (.iconst 1, 1) := by decide +kernel
theorem dX4_takeMood_9 : decode cX4_takeMood 9 = .ok (.isub, 1) := by decide +kernel
theorem dX4_takeMood_10 : decode cX4_takeMood 10 = .ok (.invokevirtual 132, 3) := by decide +kernel
theorem dX4_takeMood_13 : decode cX4_takeMood 13 = .ok (.istore_n 1, 1) := by decide +kernel
theorem dX4_takeMood_14 : decode cX4_takeMood 14 = .ok (.aload_n 0, 1) := by decide +kernel
theorem dX4_takeMood_15 : decode cX4_takeMood 15 = .ok (.iconst 0, 1) := by decide +kernel
theorem dX4_takeMood_16 : decode cX4_takeMood 16 = .ok (.bipush 99, 2) := by decide +kernel
theorem dX4_takeMood_18 : decode cX4_takeMood 18 = .ok (.invokevirtual 132, 3) := by decide +kernel
theorem dX4_takeMood_21 : decode cX4_takeMood 21 = .ok (.istore_n 2, 1) := by decide +kernel
theorem dX4_takeMood_22 : decode cX4_takeMood 22 = .ok (.aload_n 0, 1) := by decide +kernel
theorem dX4_takeMood_23 : decode cX4_takeMood 23 = .ok (.getfield 111, 3) := by decide +kernel
theorem dX4_takeMood_26 : decode cX4_takeMood 26 = .ok (.ifCond .ge 17, 3) := by decide +kernel
theorem dX4_takeMood_29 : decode cX4_takeMood 29 = .ok (.aload_n 0, 1) := by decide +kernel
theorem dX4_takeMood_30 : decode cX4_takeMood 30 = .ok (.getfield 7, 3) := by decide +kernel
theorem dX4_takeMood_33 : decode cX4_takeMood 33 = .ok (.iconst 1, 1) := by decide +kernel
theorem dX4_takeMood_34 : decode cX4_takeMood 34 = .ok (.iload_n 1, 1) := by decide +kernel
theorem dX4_takeMood_35 : decode cX4_takeMood 35 = .ok (.iastore, 1) := by decide +kernel
theorem dX4_takeMood_36 : decode cX4_takeMood 36 = .ok (.aload_n 0, 1) := by decide +kernel
theorem dX4_takeMood_37 : decode cX4_takeMood 37 = .ok (.getfield 7, 3) := by decide +kernel
theorem dX4_takeMood_40 : decode cX4_takeMood 40 = .ok (.iconst 2, 1) := by decide +kernel
theorem dX4_takeMood_41 : decode cX4_takeMood 41 = .ok (.iload_n 2, 1) := by decide +kernel
theorem dX4_takeMood_42 : decode cX4_takeMood 42 = .ok (.iastore, 1) := by decide +kernel
theorem dX4_takeMood_43 : decode cX4_takeMood 43 = .ok (.return_, 1) := by decide +kernel
theorem dX4_takeBound_0 : decode cX4_takeBound 0 = .ok (.aload_n 0, 1) := by decide +kernel
theorem dX4_takeBound_1 : decode cX4_takeBound 1 = .ok (.aload_n 0, 1) := by decide +kernel
theorem dX4_takeBound_2 : decode cX4_takeBound 2 = .ok (.getfield 7, 3) := by decide +kernel
theorem dX4_takeBound_5 : decode cX4_takeBound 5 = .ok (.iconst 1, 1) := by decide +kernel
theorem dX4_takeBound_6 : decode cX4_takeBound 6 = .ok (.iaload, 1) := by decide +kernel
theorem dX4_takeBound_7 : decode cX4_takeBound 7 = .ok (.iconst 1, 1) := by decide +kernel
theorem dX4_takeBound_8 : decode cX4_takeBound 8 = .ok (.iadd, 1) := by decide +kernel
theorem dX4_takeBound_9 : decode cX4_takeBound 9 = .ok (.bipush 99, 2) := by decide +kernel
theorem dX4_takeBound_11 : decode cX4_takeBound 11 = .ok (.invokevirtual 132, 3) := by decide +kernel
theorem dX4_takeBound_14 : decode cX4_takeBound 14 = .ok (.istore_n 1, 1) := by decide +kernel
theorem dX4_takeBound_15 : decode cX4_takeBound 15 = .ok (.aload_n 0, 1) := by decide +kernel
theorem dX4_takeBound_16 : decode cX4_takeBound 16 = .ok (.iconst 1, 1) := by decide +kernel
theorem dX4_takeBound_17 : decode cX4_takeBound 17 = .ok (.bipush 99, 2) := by decide +kernel
theorem dX4_takeBound_19 : decode cX4_takeBound 19 = .ok (.invokevirtual 132, 3) := by decide +kernel
theorem dX4_takeBound_22 : decode cX4_takeBound 22 = .ok (.istore_n 2, 1) := by decide +kernel
theorem dX4_takeBound_23 : decode cX4_takeBound 23 = .ok (.aload_n 0, 1) := by decide +kernel
theorem dX4_takeBound_24 : decode cX4_takeBound 24 = .ok (.getfield 111, 3) := by decide +kernel
theorem dX4_takeBound_27 : decode cX4_takeBound 27 = .ok (.ifCond .ge 17, 3) := by decide +kernel
theorem dX4_takeBound_30 : decode cX4_takeBound 30 = .ok (.aload_n 0, 1) := by decide +kernel
theorem dX4_takeBound_31 : decode cX4_takeBound 31 = .ok (.getfield 7, 3) := by decide +kernel
theorem dX4_takeBound_34 : decode cX4_takeBound 34 = .ok (.iconst 3, 1) := by decide +kernel
theorem dX4_takeBound_35 : decode cX4_takeBound 35 = .ok (.iload_n 1, 1) := by decide +kernel
theorem dX4_takeBound_36 : decode cX4_takeBound 36 = .ok (.iastore, 1) := by decide +kernel
theorem dX4_takeBound_37 : decode cX4_takeBound 37 = .ok (.aload_n 0, 1) := by decide +kernel
theorem dX4_takeBound_38 : decode cX4_takeBound 38 = .ok (.getfield 7, 3) := by decide +kernel
theorem dX4_takeBound_41 : decode cX4_takeBound 41 = .ok (.iconst 4, 1) := by decide +kernel
theorem dX4_takeBound_42 : decode cX4_takeBound 42 = .ok (.iload_n 2, 1) := by decide +kernel
theorem dX4_takeBound_43 : decode cX4_takeBound 43 = .ok (.iastore, 1) := by decide +kernel
theorem dX4_takeBound_44 : decode cX4_takeBound 44 = .ok (.return_, 1) := by decide +kernel
theorem dX4_takeVow_0 : decode cX4_takeVow 0 = .ok (.aload_n 0, 1) := by decide +kernel
theorem dX4_takeVow_1 : decode cX4_takeVow 1 = .ok (.iconst 0, 1) := by decide +kernel
theorem dX4_takeVow_2 : decode cX4_takeVow 2 = .ok (.bipush 7, 2) := by decide +kernel
theorem dX4_takeVow_4 : decode cX4_takeVow 4 = .ok (.invokevirtual 132, 3) := by decide +kernel
theorem dX4_takeVow_7 : decode cX4_takeVow 7 = .ok (.istore_n 1, 1) := by decide +kernel
theorem dX4_takeVow_8 : decode cX4_takeVow 8 = .ok (.aload_n 0, 1) := by decide +kernel
theorem dX4_takeVow_9 : decode cX4_takeVow 9 = .ok (.iconst 0, 1) := by decide +kernel
theorem dX4_takeVow_10 : decode cX4_takeVow 10 = .ok (.iconst 4, 1) := by decide +kernel
theorem dX4_takeVow_11 : decode cX4_takeVow 11 = .ok (.invokevirtual 132, 3) := by decide +kernel
theorem dX4_takeVow_14 : decode cX4_takeVow 14 = .ok (.istore_n 2, 1) := by decide +kernel
theorem dX4_takeVow_15 : decode cX4_takeVow 15 = .ok (.aload_n 0, 1) := by decide +kernel
theorem dX4_takeVow_16 : decode cX4_takeVow 16 = .ok (.getfield 111, 3) := by decide +kernel
theorem dX4_takeVow_19 : decode cX4_takeVow 19 = .ok (.ifCond .ge 13, 3) := by decide +kernel
theorem dX4_takeVow_22 : decode cX4_takeVow 22 = .ok (.aload_n 0, 1) := by decide +kernel
theorem dX4_takeVow_23 : decode cX4_takeVow 23 = .ok (.getfield 7, 3) := by decide +kernel
theorem dX4_takeVow_26 : decode cX4_takeVow 26 = .ok (.bipush 7, 2) := by decide +kernel
theorem dX4_takeVow_28 : decode cX4_takeVow 28 = .ok (.iload_n 1, 1) := by decide +kernel
theorem dX4_takeVow_29 : decode cX4_takeVow 29 = .ok (.iadd, 1) := by decide +kernel
theorem dX4_takeVow_30 : decode cX4_takeVow 30 = .ok (.iload_n 2, 1) := by decide +kernel
theorem dX4_takeVow_31 : decode cX4_takeVow 31 = .ok (.iastore, 1) := by decide +kernel
theorem dX4_takeVow_32 : decode cX4_takeVow 32 = .ok (.return_, 1) := by decide +kernel
theorem dX4_takeSay_0 : decode cX4_takeSay 0 = .ok (.aload_n 0, 1) := by decide +kernel
theorem dX4_takeSay_1 : decode cX4_takeSay 1 = .ok (.getfield 7, 3) := by decide +kernel
theorem dX4_takeSay_4 : decode cX4_takeSay 4 = .ok (.bipush 6, 2) := by decide +kernel
theorem dX4_takeSay_6 : decode cX4_takeSay 6 = .ok (.iaload, 1) := by decide +kernel
theorem dX4_takeSay_7 : decode cX4_takeSay 7 = .ok (.ifCond .eq 13, 3) := by decide +kernel
theorem dX4_takeSay_10 : decode cX4_takeSay 10 = .ok (.aload_n 0, 1) := by decide +kernel
theorem dX4_takeSay_11 : decode cX4_takeSay 11 = .ok (.invokevirtual 117, 3) := by decide +kernel
theorem dX4_takeSay_14 : decode cX4_takeSay 14 = .ok (.istore_n 1, 1) := by decide +kernel
theorem dX4_takeSay_15 : decode cX4_takeSay 15 = .ok (.aload_n 0, 1) := by decide +kernel
theorem dX4_takeSay_16 : decode cX4_takeSay 16 = .ok (.invokevirtual 125, 3) := by decide +kernel
theorem dX4_takeSay_19 : decode cX4_takeSay 19 = .ok (.return_, 1) := by decide +kernel
theorem dX4_takeSay_20 : decode cX4_takeSay 20 = .ok (.aload_n 0, 1) := by decide +kernel
theorem dX4_takeSay_21 : decode cX4_takeSay 21 = .ok (.iconst 0, 1) := by decide +kernel
theorem dX4_takeSay_22 : decode cX4_takeSay 22 = .ok (.iconst 5, 1) := by decide +kernel
theorem dX4_takeSay_23 : decode cX4_takeSay 23 = .ok (.invokevirtual 132, 3) := by decide +kernel
theorem dX4_takeSay_26 : decode cX4_takeSay 26 = .ok (.istore_n 1, 1) := by decide +kernel
theorem dX4_takeSay_27 : decode cX4_takeSay 27 = .ok (.aload_n 0, 1) := by decide +kernel
theorem dX4_takeSay_28 : decode cX4_takeSay 28 = .ok (.getfield 111, 3) := by decide +kernel
theorem dX4_takeSay_31 : decode cX4_takeSay 31 = .ok (.ifCond .ge 17, 3) := by decide +kernel
theorem dX4_takeSay_34 : decode cX4_takeSay 34 = .ok (.aload_n 0, 1) := by decide +kernel
theorem dX4_takeSay_35 : decode cX4_takeSay 35 = .ok (.invokevirtual 136, 3) := by decide +kernel
theorem dX4_takeSay_38 : decode cX4_takeSay 38 = .ok (.aload_n 0, 1) := by decide +kernel
theorem dX4_takeSay_39 : decode cX4_takeSay 39 = .ok (.iload_n 1, 1) := by decide +kernel
theorem dX4_takeSay_40 : decode cX4_takeSay 40 = .ok (.iconst 1, 1) := by decide +kernel
theorem dX4_takeSay_41 : decode cX4_takeSay 41 = .ok (.invokevirtual 139, 3) := by decide +kernel
theorem dX4_takeSay_44 : decode cX4_takeSay 44 = .ok (.aload_n 0, 1) := by decide +kernel
theorem dX4_takeSay_45 : decode cX4_takeSay 45 = .ok (.invokevirtual 143, 3) := by decide +kernel
theorem dX4_takeSay_48 : decode cX4_takeSay 48 = .ok (.return_, 1) := by decide +kernel
theorem dX4_takeItem_0 : decode cX4_takeItem 0 = .ok (.aload_n 0, 1) := by decide +kernel
theorem dX4_takeItem_1 : decode cX4_takeItem 1 = .ok (.invokevirtual 146, 3) := by decide +kernel
theorem dX4_takeItem_4 : decode cX4_takeItem 4 = .ok (.istore_n 2, 1) := by decide +kernel
theorem dX4_takeItem_5 : decode cX4_takeItem 5 = .ok (.bipush 106, 2) := by decide +kernel
theorem dX4_takeItem_7 : decode cX4_takeItem 7 = .ok (.bipush 97, 2) := by decide +kernel
theorem dX4_takeItem_9 : decode cX4_takeItem 9 = .ok (.bipush 114, 2) := by decide +kernel
theorem dX4_takeItem_11 : decode cX4_takeItem 11 = .ok (.iconst 0, 1) := by decide +kernel
theorem dX4_takeItem_12 : decode cX4_takeItem 12 = .ok (.iconst 0, 1) := by decide +kernel
theorem dX4_takeItem_13 : decode cX4_takeItem 13 = .ok (.invokestatic 149, 3) := by decide +kernel
theorem dX4_takeItem_16 : decode cX4_takeItem 16 = .ok (.istore_n 3, 1) := by decide +kernel
theorem dX4_takeItem_17 : decode cX4_takeItem 17 = .ok (.iload_n 1, 1) := by decide +kernel
theorem dX4_takeItem_18 : decode cX4_takeItem 18 = .ok (.ifCond .ne 11, 3) := by decide +kernel
theorem dX4_takeItem_21 : decode cX4_takeItem 21 = .ok (.iload_n 2, 1) := by decide +kernel
theorem dX4_takeItem_22 : decode cX4_takeItem 22 = .ok (.iload_n 3, 1) := by decide +kernel
theorem dX4_takeItem_23 : decode cX4_takeItem 23 = .ok (.if_icmp .eq 18, 3) := by decide +kernel
theorem dX4_takeItem_26 : decode cX4_takeItem 26 = .ok (.goto 8, 3) := by decide +kernel
theorem dX4_takeItem_29 : decode cX4_takeItem 29 = .ok (.iload_n 2, 1) := by decide +kernel
theorem dX4_takeItem_30 : decode cX4_takeItem 30 = .ok (.iload_n 3, 1) := by decide +kernel
theorem dX4_takeItem_31 : decode cX4_takeItem 31 = .ok (.if_icmp .ne 10, 3) := by decide +kernel
theorem dX4_takeItem_34 : decode cX4_takeItem 34 = .ok (.aload_n 0, 1) := by decide +kernel
theorem dX4_takeItem_35 : decode cX4_takeItem 35 = .ok (.invokevirtual 125, 3) := by decide +kernel
theorem dX4_takeItem_38 : decode cX4_takeItem 38 = .ok (.goto 133, 3) := by decide +kernel
theorem dX4_takeItem_41 : decode cX4_takeItem 41 = .ok (.iload_n 2, 1) := by decide +kernel
theorem dX4_takeItem_42 : decode cX4_takeItem 42 = .ok (.iload_n 3, 1) := by decide +kernel
theorem dX4_takeItem_43 : decode cX4_takeItem 43 = .ok (.if_icmp .ne 33, 3) := by decide +kernel
theorem dX4_takeItem_46 : decode cX4_takeItem 46 = .ok (.aload_n 0, 1) := by decide +kernel
theorem dX4_takeItem_47 : decode cX4_takeItem 47 = .ok (.iconst 0, 1) := by decide +kernel
theorem dX4_takeItem_48 : decode cX4_takeItem 48 = .ok (.iconst 5, 1) := by decide +kernel
theorem dX4_takeItem_49 : decode cX4_takeItem 49 = .ok (.invokevirtual 132, 3) := by decide +kernel
theorem dX4_takeItem_52 : decode cX4_takeItem 52 = .ok (.istore 4, 2) := by decide +kernel
theorem dX4_takeItem_54 : decode cX4_takeItem 54 = .ok (.aload_n 0, 1) := by decide +kernel
theorem dX4_takeItem_55 : decode cX4_takeItem 55 = .ok (.getfield 7, 3) := by decide +kernel
theorem dX4_takeItem_58 : decode cX4_takeItem 58 = .ok (.iconst 0, 1) := by decide +kernel
theorem dX4_takeItem_59 : decode cX4_takeItem 59 = .ok (.aload_n 0, 1) := by decide +kernel
theorem dX4_takeItem_60 : decode cX4_takeItem 60 = .ok (.getfield 111, 3) := by decide +kernel
theorem dX4_takeItem_63 : decode cX4_takeItem 63 = .ok (.ifCond .ge 8, 3) := by decide +kernel
theorem dX4_takeItem_66 : decode cX4_takeItem 66 = .ok (.iload 4, 2) := by decide +kernel
theorem dX4_takeItem_68 : decode cX4_takeItem 68 = .ok (.goto 4, 3) := by decide +kernel
theorem dX4_takeItem_71 : decode cX4_takeItem 71 = .ok (.iconst 0, 1) := by decide +kernel
theorem dX4_takeItem_72 : decode cX4_takeItem 72 = .ok (.iastore, 1) := by decide +kernel
theorem dX4_takeItem_73 : decode cX4_takeItem 73 = .ok (.goto 98, 3) := by decide +kernel
theorem dX4_takeItem_76 : decode cX4_takeItem 76 = .ok (.iload_n 2, 1) := by decide +kernel
theorem dX4_takeItem_77 : decode cX4_takeItem 77 = .ok (.bipush 109, 2) := by decide +kernel
theorem dX4_takeItem_79 : decode cX4_takeItem 79 = .ok (.bipush 111, 2) := by decide +kernel
theorem dX4_takeItem_81 : decode cX4_takeItem 81 = .ok (.bipush 111, 2) := by decide +kernel
theorem dX4_takeItem_83 : decode cX4_takeItem 83 = .ok (.bipush 100, 2) := by decide +kernel
theorem dX4_takeItem_85 : decode cX4_takeItem 85 = .ok (.iconst 0, 1) := by decide +kernel
theorem dX4_takeItem_86 : decode cX4_takeItem 86 = .ok (.invokestatic 149, 3) := by decide +kernel
theorem dX4_takeItem_89 : decode cX4_takeItem 89 = .ok (.if_icmp .ne 10, 3) := by decide +kernel
theorem dX4_takeItem_92 : decode cX4_takeItem 92 = .ok (.aload_n 0, 1) := by decide +kernel
theorem dX4_takeItem_93 : decode cX4_takeItem 93 = .ok (.invokevirtual 153, 3) := by decide +kernel
theorem dX4_takeItem_96 : decode cX4_takeItem 96 = .ok (.goto 75, 3) := by decide +kernel
theorem dX4_takeItem_99 : decode cX4_takeItem 99 = .ok (.iload_n 2, 1) := by decide +kernel
theorem dX4_takeItem_100 : decode cX4_takeItem 100 = .ok (.bipush 98, 2) := by decide +kernel
theorem dX4_takeItem_102 : decode cX4_takeItem 102 = .ok (.bipush 111, 2) := by decide +kernel
theorem dX4_takeItem_104 : decode cX4_takeItem 104 = .ok (.bipush 117, 2) := by decide +kernel
theorem dX4_takeItem_106 : decode cX4_takeItem 106 = .ok (.bipush 110, 2) := by decide +kernel
theorem dX4_takeItem_108 : decode cX4_takeItem 108 = .ok (.bipush 100, 2) := by decide +kernel
theorem dX4_takeItem_110 : decode cX4_takeItem 110 = .ok (.invokestatic 149, 3) := by decide +kernel
theorem dX4_takeItem_113 : decode cX4_takeItem 113 = .ok (.if_icmp .ne 10, 3) := by decide +kernel
theorem dX4_takeItem_116 : decode cX4_takeItem 116 = .ok (.aload_n 0, 1) := by decide +kernel
theorem dX4_takeItem_117 : decode cX4_takeItem 117 = .ok (.invokevirtual 156, 3) := by decide +kernel
theorem dX4_takeItem_120 : decode cX4_takeItem 120 = .ok (.goto 51, 3) := by decide +kernel
theorem dX4_takeItem_123 : decode cX4_takeItem 123 = .ok (.iload_n 2, 1) := by decide +kernel
theorem dX4_takeItem_124 : decode cX4_takeItem 124 = .ok (.bipush 118, 2) := by decide +kernel
theorem dX4_takeItem_126 : decode cX4_takeItem 126 = .ok (.bipush 111, 2) := by decide +kernel
theorem dX4_takeItem_128 : decode cX4_takeItem 128 = .ok (.bipush 119, 2) := by decide +kernel
theorem dX4_takeItem_130 : decode cX4_takeItem 130 = .ok (.iconst 0, 1) := by decide +kernel
theorem dX4_takeItem_131 : decode cX4_takeItem 131 = .ok (.iconst 0, 1) := by decide +kernel
theorem dX4_takeItem_132 : decode cX4_takeItem 132 = .ok (.invokestatic 149, 3) := by decide +kernel
theorem dX4_takeItem_135 : decode cX4_takeItem 135 = .ok (.if_icmp .ne 10, 3) := by decide +kernel
theorem dX4_takeItem_138 : decode cX4_takeItem 138 = .ok (.aload_n 0, 1) := by decide +kernel
theorem dX4_takeItem_139 : decode cX4_takeItem 139 = .ok (.invokevirtual 159, 3) := by decide +kernel
theorem dX4_takeItem_142 : decode cX4_takeItem 142 = .ok (.goto 29, 3) := by decide +kernel
theorem dX4_takeItem_145 : decode cX4_takeItem 145 = .ok (.iload_n 2, 1) := by decide +kernel
theorem dX4_takeItem_146 : decode cX4_takeItem 146 = .ok (.bipush 115, 2) := by decide +kernel
theorem dX4_takeItem_148 : decode cX4_takeItem 148 = .ok (.bipush 97, 2) := by decide +kernel
theorem dX4_takeItem_150 : decode cX4_takeItem 150 = .ok (.bipush 121, 2) := by decide +kernel
theorem dX4_takeItem_152 : decode cX4_takeItem 152 = .ok (.iconst 0, 1) := by decide +kernel
theorem dX4_takeItem_153 : decode cX4_takeItem 153 = .ok (.iconst 0, 1) := by decide +kernel
theorem dX4_takeItem_154 : decode cX4_takeItem 154 = .ok (.invokestatic 149, 3) := by decide +kernel
theorem dX4_takeItem_157 : decode cX4_takeItem 157 = .ok (.if_icmp .ne 10, 3) := by decide +kernel
theorem dX4_takeItem_160 : decode cX4_takeItem 160 = .ok (.aload_n 0, 1) := by decide +kernel
theorem dX4_takeItem_161 : decode cX4_takeItem 161 = .ok (.invokevirtual 162, 3) := by decide +kernel
theorem dX4_takeItem_164 : decode cX4_takeItem 164 = .ok (.goto 7, 3) := by decide +kernel
theorem dX4_takeItem_167 : decode cX4_takeItem 167 = .ok (.aload_n 0, 1) := by decide +kernel
theorem dX4_takeItem_168 : decode cX4_takeItem 168 = .ok (.invokevirtual 125, 3) := by decide +kernel
theorem dX4_takeItem_171 : decode cX4_takeItem 171 = .ok (.aload_n 0, 1) := by decide +kernel
theorem dX4_takeItem_172 : decode cX4_takeItem 172 = .ok (.getfield 111, 3) := by decide +kernel
theorem dX4_takeItem_175 : decode cX4_takeItem 175 = .ok (.ifCond .ge 16, 3) := by decide +kernel
theorem dX4_takeItem_178 : decode cX4_takeItem 178 = .ok (.aload_n 0, 1) := by decide +kernel
theorem dX4_takeItem_179 : decode cX4_takeItem 179 = .ok (.invokevirtual 117, 3) := by decide +kernel
theorem dX4_takeItem_182 : decode cX4_takeItem 182 = .ok (.bipush 59, 2) := by decide +kernel
theorem dX4_takeItem_184 : decode cX4_takeItem 184 = .ok (.if_icmp .eq 7, 3) := by decide +kernel
theorem dX4_takeItem_187 : decode cX4_takeItem 187 = .ok (.aload_n 0, 1) := by decide +kernel
theorem dX4_takeItem_188 : decode cX4_takeItem 188 = .ok (.invokevirtual 125, 3) := by decide +kernel
theorem dX4_takeItem_191 : decode cX4_takeItem 191 = .ok (.aload_n 0, 1) := by decide +kernel
theorem dX4_takeItem_192 : decode cX4_takeItem 192 = .ok (.dup, 1) := by decide +kernel
theorem dX4_takeItem_193 : decode cX4_takeItem 193 = .ok (.getfield 105, 3) := by decide +kernel
theorem dX4_takeItem_196 : decode cX4_takeItem 196 = .ok (.iconst 1, 1) := by decide +kernel
theorem dX4_takeItem_197 : decode cX4_takeItem 197 = .ok (.iadd, 1) := by decide +kernel
theorem dX4_takeItem_198 : decode cX4_takeItem 198 = .ok (.putfield 105, 3) := by decide +kernel
theorem dX4_takeItem_201 : decode cX4_takeItem 201 = .ok (.return_, 1) := by decide +kernel
theorem dX4_read_0 : decode cX4_read 0 = .ok (.iconst 0, 1) := by decide +kernel
theorem dX4_read_1 : decode cX4_read 1 = .ok (.istore_n 1, 1) := by decide +kernel
theorem dX4_read_2 : decode cX4_read 2 = .ok (.iload_n 1, 1) := by decide +kernel
theorem dX4_read_3 : decode cX4_read 3 = .ok (.bipush 73, 2) := by decide +kernel
theorem dX4_read_5 : decode cX4_read 5 = .ok (.if_icmp .ge 21, 3) := by decide +kernel
theorem dX4_read_8 : decode cX4_read 8 = .ok (.aload_n 0, 1) := by decide +kernel
theorem dX4_read_9 : decode cX4_read 9 = .ok (.getfield 25, 3) := by decide +kernel
theorem dX4_read_12 : decode cX4_read 12 = .ok (.iload_n 1, 1) := by decide +kernel
theorem dX4_read_13 : decode cX4_read 13 = .ok (.aload_n 0, 1) := by decide +kernel
theorem dX4_read_14 : decode cX4_read 14 = .ok (.getfield 7, 3) := by decide +kernel
theorem dX4_read_17 : decode cX4_read 17 = .ok (.iload_n 1, 1) := by decide +kernel
theorem dX4_read_18 : decode cX4_read 18 = .ok (.iaload, 1) := by decide +kernel
theorem dX4_read_19 : decode cX4_read 19 = .ok (.iastore, 1) := by decide +kernel
theorem dX4_read_20 : decode cX4_read 20 = .ok (.iinc 1 1, 3) := by decide +kernel
theorem dX4_read_23 : decode cX4_read 23 = .ok (.goto (-21), 3) := by decide +kernel
theorem dX4_read_26 : decode cX4_read 26 = .ok (.aload_n 0, 1) := by decide +kernel
theorem dX4_read_27 : decode cX4_read 27 = .ok (.iconst 0, 1) := by decide +kernel
theorem dX4_read_28 : decode cX4_read 28 = .ok (.invokevirtual 52, 3) := by decide +kernel
theorem dX4_read_31 : decode cX4_read 31 = .ok (.aload_n 0, 1) := by decide +kernel
theorem dX4_read_32 : decode cX4_read 32 = .ok (.iconst 0, 1) := by decide +kernel
theorem dX4_read_33 : decode cX4_read 33 = .ok (.putfield 105, 3) := by decide +kernel
theorem dX4_read_36 : decode cX4_read 36 = .ok (.aload_n 0, 1) := by decide +kernel
theorem dX4_read_37 : decode cX4_read 37 = .ok (.iconst (-1), 1) := by decide +kernel
theorem dX4_read_38 : decode cX4_read 38 = .ok (.putfield 111, 3) := by decide +kernel
theorem dX4_read_41 : decode cX4_read 41 = .ok (.iconst 0, 1) := by decide +kernel
theorem dX4_read_42 : decode cX4_read 42 = .ok (.istore_n 1, 1) := by decide +kernel
theorem dX4_read_43 : decode cX4_read 43 = .ok (.aload_n 0, 1) := by decide +kernel
theorem dX4_read_44 : decode cX4_read 44 = .ok (.getfield 111, 3) := by decide +kernel
theorem dX4_read_47 : decode cX4_read 47 = .ok (.ifCond .ge 25, 3) := by decide +kernel
theorem dX4_read_50 : decode cX4_read 50 = .ok (.aload_n 0, 1) := by decide +kernel
theorem dX4_read_51 : decode cX4_read 51 = .ok (.invokevirtual 117, 3) := by decide +kernel
theorem dX4_read_54 : decode cX4_read 54 = .ok (.ifCond .ge 7, 3) := by decide +kernel
theorem dX4_read_57 : decode cX4_read 57 = .ok (.iload_n 1, 1) := by decide +kernel
theorem dX4_read_58 : decode cX4_read 58 = .ok (.ifCond .ne 14, 3) := by decide +kernel
theorem dX4_read_61 : decode cX4_read 61 = .ok (.aload_n 0, 1) := by decide +kernel
theorem dX4_read_62 : decode cX4_read 62 = .ok (.iload_n 1, 1) := by decide +kernel
theorem dX4_read_63 : decode cX4_read 63 = .ok (.invokevirtual 165, 3) := by decide +kernel
theorem dX4_read_66 : decode cX4_read 66 = .ok (.iinc 1 1, 3) := by decide +kernel
theorem dX4_read_69 : decode cX4_read 69 = .ok (.goto (-26), 3) := by decide +kernel
theorem dX4_read_72 : decode cX4_read 72 = .ok (.aload_n 0, 1) := by decide +kernel
theorem dX4_read_73 : decode cX4_read 73 = .ok (.getfield 111, 3) := by decide +kernel
theorem dX4_read_76 : decode cX4_read 76 = .ok (.ifCond .ge 5, 3) := by decide +kernel
theorem dX4_read_79 : decode cX4_read 79 = .ok (.iload_n 1, 1) := by decide +kernel
theorem dX4_read_80 : decode cX4_read 80 = .ok (.ireturn, 1) := by decide +kernel
theorem dX4_read_81 : decode cX4_read 81 = .ok (.iconst 0, 1) := by decide +kernel
end
section
theorem dX4_read_82 : decode cX4_read 82 = .ok (.istore_n 2, 1) := by decide +kernel
theorem dX4_read_83 : decode cX4_read 83 = .ok (.iload_n 2, 1) := by decide +kernel
theorem dX4_read_84 : decode cX4_read 84 = .ok (.bipush 73, 2) := by decide +kernel
theorem dX4_read_86 : decode cX4_read 86 = .ok (.if_icmp .ge 21, 3) := by decide +kernel
theorem dX4_read_89 : decode cX4_read 89 = .ok (.aload_n 0, 1) := by decide +kernel
theorem dX4_read_90 : decode cX4_read 90 = .ok (.getfield 7, 3) := by decide +kernel
theorem dX4_read_93 : decode cX4_read 93 = .ok (.iload_n 2, 1) := by decide +kernel
theorem dX4_read_94 : decode cX4_read 94 = .ok (.aload_n 0, 1) := by decide +kernel
theorem dX4_read_95 : decode cX4_read 95 = .ok (.getfield 25, 3) := by decide +kernel
theorem dX4_read_98 : decode cX4_read 98 = .ok (.iload_n 2, 1) := by decide +kernel
theorem dX4_read_99 : decode cX4_read 99 = .ok (.iaload, 1) := by decide +kernel
theorem dX4_read_100 : decode cX4_read 100 = .ok (.iastore, 1) := by decide +kernel
theorem dX4_read_101 : decode cX4_read 101 = .ok (.iinc 2 1, 3) := by decide +kernel
theorem dX4_read_104 : decode cX4_read 104 = .ok (.goto (-21), 3) := by decide +kernel
theorem dX4_read_107 : decode cX4_read 107 = .ok (.bipush (-10), 2) := by decide +kernel
theorem dX4_read_109 : decode cX4_read 109 = .ok (.aload_n 0, 1) := by decide +kernel
theorem dX4_read_110 : decode cX4_read 110 = .ok (.getfield 111, 3) := by decide +kernel
theorem dX4_read_113 : decode cX4_read 113 = .ok (.isub, 1) := by decide +kernel
theorem dX4_read_114 : decode cX4_read 114 = .ok (.ireturn, 1) := by decide +kernel
theorem dX4_remember_0 : decode cX4_remember 0 = .ok (.aload_n 0, 1) := by decide +kernel
theorem dX4_remember_1 : decode cX4_remember 1 = .ok (.getfield 7, 3) := by decide +kernel
theorem dX4_remember_4 : decode cX4_remember 4 = .ok (.bipush 40, 2) := by decide +kernel
theorem dX4_remember_6 : decode cX4_remember 6 = .ok (.iaload, 1) := by decide +kernel
theorem dX4_remember_7 : decode cX4_remember 7 = .ok (.bipush 8, 2) := by decide +kernel
theorem dX4_remember_9 : decode cX4_remember 9 = .ok (.if_icmp .ne 43, 3) := by decide +kernel
theorem dX4_remember_12 : decode cX4_remember 12 = .ok (.bipush 45, 2) := by decide +kernel
theorem dX4_remember_14 : decode cX4_remember 14 = .ok (.istore_n 1, 1) := by decide +kernel
theorem dX4_remember_15 : decode cX4_remember 15 = .ok (.iload_n 1, 1) := by decide +kernel
theorem dX4_remember_16 : decode cX4_remember 16 = .ok (.bipush 73, 2) := by decide +kernel
theorem dX4_remember_18 : decode cX4_remember 18 = .ok (.if_icmp .ge 23, 3) := by decide +kernel
theorem dX4_remember_21 : decode cX4_remember 21 = .ok (.aload_n 0, 1) := by decide +kernel
theorem dX4_remember_22 : decode cX4_remember 22 = .ok (.getfield 7, 3) := by decide +kernel
theorem dX4_remember_25 : decode cX4_remember 25 = .ok (.iload_n 1, 1) := by decide +kernel
theorem dX4_remember_26 : decode cX4_remember 26 = .ok (.iconst 4, 1) := by decide +kernel
theorem dX4_remember_27 : decode cX4_remember 27 = .ok (.isub, 1) := by decide +kernel
theorem dX4_remember_28 : decode cX4_remember 28 = .ok (.aload_n 0, 1) := by decide +kernel
theorem dX4_remember_29 : decode cX4_remember 29 = .ok (.getfield 7, 3) := by decide +kernel
theorem dX4_remember_32 : decode cX4_remember 32 = .ok (.iload_n 1, 1) := by decide +kernel
theorem dX4_remember_33 : decode cX4_remember 33 = .ok (.iaload, 1) := by decide +kernel
theorem dX4_remember_34 : decode cX4_remember 34 = .ok (.iastore, 1) := by decide +kernel
theorem dX4_remember_35 : decode cX4_remember 35 = .ok (.iinc 1 1, 3) := by decide +kernel
theorem dX4_remember_38 : decode cX4_remember 38 = .ok (.goto (-23), 3) := by decide +kernel
theorem dX4_remember_41 : decode cX4_remember 41 = .ok (.aload_n 0, 1) := by decide +kernel
theorem dX4_remember_42 : decode cX4_remember 42 = .ok (.getfield 7, 3) := by decide +kernel
theorem dX4_remember_45 : decode cX4_remember 45 = .ok (.bipush 40, 2) := by decide +kernel
theorem dX4_remember_47 : decode cX4_remember 47 = .ok (.dup2, 1) := by decide +kernel
theorem dX4_remember_48 : decode cX4_remember 48 = .ok (.iaload, 1) := by decide +kernel
theorem dX4_remember_49 : decode cX4_remember 49 = .ok (.iconst 1, 1) := by decide +kernel
theorem dX4_remember_50 : decode cX4_remember 50 = .ok (.isub, 1) := by decide +kernel
theorem dX4_remember_51 : decode cX4_remember 51 = .ok (.iastore, 1) := by decide +kernel
theorem dX4_remember_52 : decode cX4_remember 52 = .ok (.bipush 41, 2) := by decide +kernel
theorem dX4_remember_54 : decode cX4_remember 54 = .ok (.iconst 4, 1) := by decide +kernel
theorem dX4_remember_55 : decode cX4_remember 55 = .ok (.aload_n 0, 1) := by decide +kernel
theorem dX4_remember_56 : decode cX4_remember 56 = .ok (.getfield 7, 3) := by decide +kernel
theorem dX4_remember_59 : decode cX4_remember 59 = .ok (.bipush 40, 2) := by decide +kernel
theorem dX4_remember_61 : decode cX4_remember 61 = .ok (.iaload, 1) := by decide +kernel
theorem dX4_remember_62 : decode cX4_remember 62 = .ok (.imul, 1) := by decide +kernel
theorem dX4_remember_63 : decode cX4_remember 63 = .ok (.iadd, 1) := by decide +kernel
theorem dX4_remember_64 : decode cX4_remember 64 = .ok (.istore_n 1, 1) := by decide +kernel
theorem dX4_remember_65 : decode cX4_remember 65 = .ok (.aload_n 0, 1) := by decide +kernel
theorem dX4_remember_66 : decode cX4_remember 66 = .ok (.getfield 7, 3) := by decide +kernel
theorem dX4_remember_69 : decode cX4_remember 69 = .ok (.iload_n 1, 1) := by decide +kernel
theorem dX4_remember_70 : decode cX4_remember 70 = .ok (.aload_n 0, 1) := by decide +kernel
theorem dX4_remember_71 : decode cX4_remember 71 = .ok (.getfield 7, 3) := by decide +kernel
theorem dX4_remember_74 : decode cX4_remember 74 = .ok (.iconst 1, 1) := by decide +kernel
theorem dX4_remember_75 : decode cX4_remember 75 = .ok (.iaload, 1) := by decide +kernel
theorem dX4_remember_76 : decode cX4_remember 76 = .ok (.iastore, 1) := by decide +kernel
theorem dX4_remember_77 : decode cX4_remember 77 = .ok (.aload_n 0, 1) := by decide +kernel
theorem dX4_remember_78 : decode cX4_remember 78 = .ok (.getfield 7, 3) := by decide +kernel
theorem dX4_remember_81 : decode cX4_remember 81 = .ok (.iload_n 1, 1) := by decide +kernel
theorem dX4_remember_82 : decode cX4_remember 82 = .ok (.iconst 1, 1) := by decide +kernel
theorem dX4_remember_83 : decode cX4_remember 83 = .ok (.iadd, 1) := by decide +kernel
theorem dX4_remember_84 : decode cX4_remember 84 = .ok (.aload_n 0, 1) := by decide +kernel
theorem dX4_remember_85 : decode cX4_remember 85 = .ok (.getfield 7, 3) := by decide +kernel
theorem dX4_remember_88 : decode cX4_remember 88 = .ok (.iconst 2, 1) := by decide +kernel
theorem dX4_remember_89 : decode cX4_remember 89 = .ok (.iaload, 1) := by decide +kernel
theorem dX4_remember_90 : decode cX4_remember 90 = .ok (.iastore, 1) := by decide +kernel
theorem dX4_remember_91 : decode cX4_remember 91 = .ok (.aload_n 0, 1) := by decide +kernel
theorem dX4_remember_92 : decode cX4_remember 92 = .ok (.getfield 7, 3) := by decide +kernel
theorem dX4_remember_95 : decode cX4_remember 95 = .ok (.iload_n 1, 1) := by decide +kernel
theorem dX4_remember_96 : decode cX4_remember 96 = .ok (.iconst 2, 1) := by decide +kernel
theorem dX4_remember_97 : decode cX4_remember 97 = .ok (.iadd, 1) := by decide +kernel
theorem dX4_remember_98 : decode cX4_remember 98 = .ok (.aload_n 0, 1) := by decide +kernel
theorem dX4_remember_99 : decode cX4_remember 99 = .ok (.getfield 7, 3) := by decide +kernel
theorem dX4_remember_102 : decode cX4_remember 102 = .ok (.iconst 5, 1) := by decide +kernel
theorem dX4_remember_103 : decode cX4_remember 103 = .ok (.iaload, 1) := by decide +kernel
theorem dX4_remember_104 : decode cX4_remember 104 = .ok (.iastore, 1) := by decide +kernel
theorem dX4_remember_105 : decode cX4_remember 105 = .ok (.aload_n 0, 1) := by decide +kernel
theorem dX4_remember_106 : decode cX4_remember 106 = .ok (.getfield 7, 3) := by decide +kernel
theorem dX4_remember_109 : decode cX4_remember 109 = .ok (.iload_n 1, 1) := by decide +kernel
theorem dX4_remember_110 : decode cX4_remember 110 = .ok (.iconst 3, 1) := by decide +kernel
theorem dX4_remember_111 : decode cX4_remember 111 = .ok (.iadd, 1) := by decide +kernel
theorem dX4_remember_112 : decode cX4_remember 112 = .ok (.aload_n 0, 1) := by decide +kernel
theorem dX4_remember_113 : decode cX4_remember 113 = .ok (.getfield 7, 3) := by decide +kernel
theorem dX4_remember_116 : decode cX4_remember 116 = .ok (.bipush 6, 2) := by decide +kernel
theorem dX4_remember_118 : decode cX4_remember 118 = .ok (.iaload, 1) := by decide +kernel
theorem dX4_remember_119 : decode cX4_remember 119 = .ok (.iastore, 1) := by decide +kernel
theorem dX4_remember_120 : decode cX4_remember 120 = .ok (.aload_n 0, 1) := by decide +kernel
theorem dX4_remember_121 : decode cX4_remember 121 = .ok (.getfield 7, 3) := by decide +kernel
theorem dX4_remember_124 : decode cX4_remember 124 = .ok (.bipush 40, 2) := by decide +kernel
theorem dX4_remember_126 : decode cX4_remember 126 = .ok (.dup2, 1) := by decide +kernel
theorem dX4_remember_127 : decode cX4_remember 127 = .ok (.iaload, 1) := by decide +kernel
theorem dX4_remember_128 : decode cX4_remember 128 = .ok (.iconst 1, 1) := by decide +kernel
theorem dX4_remember_129 : decode cX4_remember 129 = .ok (.iadd, 1) := by decide +kernel
theorem dX4_remember_130 : decode cX4_remember 130 = .ok (.iastore, 1) := by decide +kernel
theorem dX4_remember_131 : decode cX4_remember 131 = .ok (.return_, 1) := by decide +kernel
theorem dX4_say_0 : decode cX4_say 0 = .ok (.iload_n 1, 1) := by decide +kernel
theorem dX4_say_1 : decode cX4_say 1 = .ok (.i2l, 1) := by decide +kernel
theorem dX4_say_2 : decode cX4_say 2 = .ok (.lconst 0, 1) := by decide +kernel
theorem dX4_say_3 : decode cX4_say 3 = .ok (.ldc2_w 89, 3) := by decide +kernel
theorem dX4_say_6 : decode cX4_say 6 = .ok (.invokestatic 58, 3) := by decide +kernel
theorem dX4_say_9 : decode cX4_say 9 = .ok (.ifCond .ne 10, 3) := by decide +kernel
theorem dX4_say_12 : decode cX4_say 12 = .ok (.aload_n 0, 1) := by decide +kernel
theorem dX4_say_13 : decode cX4_say 13 = .ok (.bipush (-2), 2) := by decide +kernel
theorem dX4_say_15 : decode cX4_say 15 = .ok (.invokevirtual 91, 3) := by decide +kernel
theorem dX4_say_18 : decode cX4_say 18 = .ok (.ireturn, 1) := by decide +kernel
theorem dX4_say_19 : decode cX4_say 19 = .ok (.aload_n 0, 1) := by decide +kernel
theorem dX4_say_20 : decode cX4_say 20 = .ok (.getfield 7, 3) := by decide +kernel
theorem dX4_say_23 : decode cX4_say 23 = .ok (.bipush 6, 2) := by decide +kernel
theorem dX4_say_25 : decode cX4_say 25 = .ok (.iaload, 1) := by decide +kernel
theorem dX4_say_26 : decode cX4_say 26 = .ok (.ifCond .eq 10, 3) := by decide +kernel
theorem dX4_say_29 : decode cX4_say 29 = .ok (.aload_n 0, 1) := by decide +kernel
theorem dX4_say_30 : decode cX4_say 30 = .ok (.bipush (-3), 2) := by decide +kernel
theorem dX4_say_32 : decode cX4_say 32 = .ok (.invokevirtual 91, 3) := by decide +kernel
theorem dX4_say_35 : decode cX4_say 35 = .ok (.ireturn, 1) := by decide +kernel
theorem dX4_say_36 : decode cX4_say 36 = .ok (.aload_n 0, 1) := by decide +kernel
theorem dX4_say_37 : decode cX4_say 37 = .ok (.invokevirtual 168, 3) := by decide +kernel
theorem dX4_say_40 : decode cX4_say 40 = .ok (.aload_n 0, 1) := by decide +kernel
theorem dX4_say_41 : decode cX4_say 41 = .ok (.invokevirtual 136, 3) := by decide +kernel
theorem dX4_say_44 : decode cX4_say 44 = .ok (.aload_n 0, 1) := by decide +kernel
theorem dX4_say_45 : decode cX4_say 45 = .ok (.iload_n 1, 1) := by decide +kernel
theorem dX4_say_46 : decode cX4_say 46 = .ok (.iconst 1, 1) := by decide +kernel
theorem dX4_say_47 : decode cX4_say 47 = .ok (.invokevirtual 139, 3) := by decide +kernel
theorem dX4_say_50 : decode cX4_say 50 = .ok (.aload_n 0, 1) := by decide +kernel
theorem dX4_say_51 : decode cX4_say 51 = .ok (.invokevirtual 143, 3) := by decide +kernel
theorem dX4_say_54 : decode cX4_say 54 = .ok (.aload_n 0, 1) := by decide +kernel
theorem dX4_say_55 : decode cX4_say 55 = .ok (.getfield 7, 3) := by decide +kernel
theorem dX4_say_58 : decode cX4_say 58 = .ok (.bipush 6, 2) := by decide +kernel
theorem dX4_say_60 : decode cX4_say 60 = .ok (.iaload, 1) := by decide +kernel
theorem dX4_say_61 : decode cX4_say 61 = .ok (.ireturn, 1) := by decide +kernel
theorem dX4_open_0 : decode cX4_open 0 = .ok (.aload_n 0, 1) := by decide +kernel
theorem dX4_open_1 : decode cX4_open 1 = .ok (.getfield 7, 3) := by decide +kernel
theorem dX4_open_4 : decode cX4_open 4 = .ok (.bipush 6, 2) := by decide +kernel
theorem dX4_open_6 : decode cX4_open 6 = .ok (.iaload, 1) := by decide +kernel
theorem dX4_open_7 : decode cX4_open 7 = .ok (.iconst 1, 1) := by decide +kernel
theorem dX4_open_8 : decode cX4_open 8 = .ok (.if_icmp .eq 10, 3) := by decide +kernel
theorem dX4_open_11 : decode cX4_open 11 = .ok (.aload_n 0, 1) := by decide +kernel
theorem dX4_open_12 : decode cX4_open 12 = .ok (.bipush (-3), 2) := by decide +kernel
theorem dX4_open_14 : decode cX4_open 14 = .ok (.invokevirtual 91, 3) := by decide +kernel
theorem dX4_open_17 : decode cX4_open 17 = .ok (.ireturn, 1) := by decide +kernel
theorem dX4_open_18 : decode cX4_open 18 = .ok (.aload_n 0, 1) := by decide +kernel
theorem dX4_open_19 : decode cX4_open 19 = .ok (.invokevirtual 168, 3) := by decide +kernel
theorem dX4_open_22 : decode cX4_open 22 = .ok (.aload_n 0, 1) := by decide +kernel
theorem dX4_open_23 : decode cX4_open 23 = .ok (.getfield 7, 3) := by decide +kernel
theorem dX4_open_26 : decode cX4_open 26 = .ok (.iconst 2, 1) := by decide +kernel
theorem dX4_open_27 : decode cX4_open 27 = .ok (.iaload, 1) := by decide +kernel
theorem dX4_open_28 : decode cX4_open 28 = .ok (.istore_n 1, 1) := by decide +kernel
theorem dX4_open_29 : decode cX4_open 29 = .ok (.aload_n 0, 1) := by decide +kernel
theorem dX4_open_30 : decode cX4_open 30 = .ok (.getfield 7, 3) := by decide +kernel
theorem dX4_open_33 : decode cX4_open 33 = .ok (.iconst 2, 1) := by decide +kernel
theorem dX4_open_34 : decode cX4_open 34 = .ok (.iconst 0, 1) := by decide +kernel
theorem dX4_open_35 : decode cX4_open 35 = .ok (.iastore, 1) := by decide +kernel
theorem dX4_open_36 : decode cX4_open 36 = .ok (.aload_n 0, 1) := by decide +kernel
theorem dX4_open_37 : decode cX4_open 37 = .ok (.getfield 7, 3) := by decide +kernel
theorem dX4_open_40 : decode cX4_open 40 = .ok (.bipush 6, 2) := by decide +kernel
theorem dX4_open_42 : decode cX4_open 42 = .ok (.iconst 0, 1) := by decide +kernel
theorem dX4_open_43 : decode cX4_open 43 = .ok (.iastore, 1) := by decide +kernel
theorem dX4_open_44 : decode cX4_open 44 = .ok (.iload_n 1, 1) := by decide +kernel
theorem dX4_open_45 : decode cX4_open 45 = .ok (.ireturn, 1) := by decide +kernel
theorem dX4_undo_0 : decode cX4_undo 0 = .ok (.aload_n 0, 1) := by decide +kernel
theorem dX4_undo_1 : decode cX4_undo 1 = .ok (.getfield 7, 3) := by decide +kernel
theorem dX4_undo_4 : decode cX4_undo 4 = .ok (.bipush 40, 2) := by decide +kernel
theorem dX4_undo_6 : decode cX4_undo 6 = .ok (.iaload, 1) := by decide +kernel
theorem dX4_undo_7 : decode cX4_undo 7 = .ok (.ifCond .ne 10, 3) := by decide +kernel
theorem dX4_undo_10 : decode cX4_undo 10 = .ok (.aload_n 0, 1) := by decide +kernel
theorem dX4_undo_11 : decode cX4_undo 11 = .ok (.bipush (-3), 2) := by decide +kernel
theorem dX4_undo_13 : decode cX4_undo 13 = .ok (.invokevirtual 91, 3) := by decide +kernel
theorem dX4_undo_16 : decode cX4_undo 16 = .ok (.ireturn, 1) := by decide +kernel
theorem dX4_undo_17 : decode cX4_undo 17 = .ok (.aload_n 0, 1) := by decide +kernel
theorem dX4_undo_18 : decode cX4_undo 18 = .ok (.getfield 7, 3) := by decide +kernel
theorem dX4_undo_21 : decode cX4_undo 21 = .ok (.bipush 40, 2) := by decide +kernel
theorem dX4_undo_23 : decode cX4_undo 23 = .ok (.dup2, 1) := by decide +kernel
theorem dX4_undo_24 : decode cX4_undo 24 = .ok (.iaload, 1) := by decide +kernel
theorem dX4_undo_25 : decode cX4_undo 25 = .ok (.iconst 1, 1) := by decide +kernel
theorem dX4_undo_26 : decode cX4_undo 26 = .ok (.isub, 1) := by decide +kernel
theorem dX4_undo_27 : decode cX4_undo 27 = .ok (.iastore, 1) := by decide +kernel
theorem dX4_undo_28 : decode cX4_undo 28 = .ok (.bipush 41, 2) := by decide +kernel
theorem dX4_undo_30 : decode cX4_undo 30 = .ok (.iconst 4, 1) := by decide +kernel
theorem dX4_undo_31 : decode cX4_undo 31 = .ok (.aload_n 0, 1) := by decide +kernel
theorem dX4_undo_32 : decode cX4_undo 32 = .ok (.getfield 7, 3) := by decide +kernel
theorem dX4_undo_35 : decode cX4_undo 35 = .ok (.bipush 40, 2) := by decide +kernel
theorem dX4_undo_37 : decode cX4_undo 37 = .ok (.iaload, 1) := by decide +kernel
theorem dX4_undo_38 : decode cX4_undo 38 = .ok (.imul, 1) := by decide +kernel
theorem dX4_undo_39 : decode cX4_undo 39 = .ok (.iadd, 1) := by decide +kernel
theorem dX4_undo_40 : decode cX4_undo 40 = .ok (.istore_n 1, 1) := by decide +kernel
theorem dX4_undo_41 : decode cX4_undo 41 = .ok (.aload_n 0, 1) := by decide +kernel
theorem dX4_undo_42 : decode cX4_undo 42 = .ok (.getfield 7, 3) := by decide +kernel
theorem dX4_undo_45 : decode cX4_undo 45 = .ok (.iconst 1, 1) := by decide +kernel
theorem dX4_undo_46 : decode cX4_undo 46 = .ok (.aload_n 0, 1) := by decide +kernel
theorem dX4_undo_47 : decode cX4_undo 47 = .ok (.getfield 7, 3) := by decide +kernel
theorem dX4_undo_50 : decode cX4_undo 50 = .ok (.iload_n 1, 1) := by decide +kernel
theorem dX4_undo_51 : decode cX4_undo 51 = .ok (.iaload, 1) := by decide +kernel
theorem dX4_undo_52 : decode cX4_undo 52 = .ok (.iastore, 1) := by decide +kernel
theorem dX4_undo_53 : decode cX4_undo 53 = .ok (.aload_n 0, 1) := by decide +kernel
theorem dX4_undo_54 : decode cX4_undo 54 = .ok (.getfield 7, 3) := by decide +kernel
theorem dX4_undo_57 : decode cX4_undo 57 = .ok (.iconst 2, 1) := by decide +kernel
theorem dX4_undo_58 : decode cX4_undo 58 = .ok (.aload_n 0, 1) := by decide +kernel
theorem dX4_undo_59 : decode cX4_undo 59 = .ok (.getfield 7, 3) := by decide +kernel
theorem dX4_undo_62 : decode cX4_undo 62 = .ok (.iload_n 1, 1) := by decide +kernel
theorem dX4_undo_63 : decode cX4_undo 63 = .ok (.iconst 1, 1) := by decide +kernel
theorem dX4_undo_64 : decode cX4_undo 64 = .ok (.iadd, 1) := by decide +kernel
theorem dX4_undo_65 : decode cX4_undo 65 = .ok (.iaload, 1) := by decide +kernel
theorem dX4_undo_66 : decode cX4_undo 66 = .ok (.iastore, 1) := by decide +kernel
theorem dX4_undo_67 : decode cX4_undo 67 = .ok (.aload_n 0, 1) := by decide +kernel
theorem dX4_undo_68 : decode cX4_undo 68 = .ok (.getfield 7, 3) := by decide +kernel
theorem dX4_undo_71 : decode cX4_undo 71 = .ok (.iconst 5, 1) := by decide +kernel
theorem dX4_undo_72 : decode cX4_undo 72 = .ok (.aload_n 0, 1) := by decide +kernel
theorem dX4_undo_73 : decode cX4_undo 73 = .ok (.getfield 7, 3) := by decide +kernel
theorem dX4_undo_76 : decode cX4_undo 76 = .ok (.iload_n 1, 1) := by decide +kernel
theorem dX4_undo_77 : decode cX4_undo 77 = .ok (.iconst 2, 1) := by decide +kernel
theorem dX4_undo_78 : decode cX4_undo 78 = .ok (.iadd, 1) := by decide +kernel
theorem dX4_undo_79 : decode cX4_undo 79 = .ok (.iaload, 1) := by decide +kernel
theorem dX4_undo_80 : decode cX4_undo 80 = .ok (.iastore, 1) := by decide +kernel
theorem dX4_undo_81 : decode cX4_undo 81 = .ok (.aload_n 0, 1) := by decide +kernel
theorem dX4_undo_82 : decode cX4_undo 82 = .ok (.getfield 7, 3) := by decide +kernel
theorem dX4_undo_85 : decode cX4_undo 85 = .ok (.bipush 6, 2) := by decide +kernel
theorem dX4_undo_87 : decode cX4_undo 87 = .ok (.aload_n 0, 1) := by decide +kernel
theorem dX4_undo_88 : decode cX4_undo 88 = .ok (.getfield 7, 3) := by decide +kernel
theorem dX4_undo_91 : decode cX4_undo 91 = .ok (.iload_n 1, 1) := by decide +kernel
theorem dX4_undo_92 : decode cX4_undo 92 = .ok (.iconst 3, 1) := by decide +kernel
theorem dX4_undo_93 : decode cX4_undo 93 = .ok (.iadd, 1) := by decide +kernel
theorem dX4_undo_94 : decode cX4_undo 94 = .ok (.iaload, 1) := by decide +kernel
theorem dX4_undo_95 : decode cX4_undo 95 = .ok (.iastore, 1) := by decide +kernel
theorem dX4_undo_96 : decode cX4_undo 96 = .ok (.iconst 0, 1) := by decide +kernel
theorem dX4_undo_97 : decode cX4_undo 97 = .ok (.istore_n 2, 1) := by decide +kernel
theorem dX4_undo_98 : decode cX4_undo 98 = .ok (.iload_n 2, 1) := by decide +kernel
theorem dX4_undo_99 : decode cX4_undo 99 = .ok (.iconst 4, 1) := by decide +kernel
theorem dX4_undo_100 : decode cX4_undo 100 = .ok (.if_icmp .ge 18, 3) := by decide +kernel
theorem dX4_undo_103 : decode cX4_undo 103 = .ok (.aload_n 0, 1) := by decide +kernel
theorem dX4_undo_104 : decode cX4_undo 104 = .ok (.getfield 7, 3) := by decide +kernel
theorem dX4_undo_107 : decode cX4_undo 107 = .ok (.iload_n 1, 1) := by decide +kernel
theorem dX4_undo_108 : decode cX4_undo 108 = .ok (.iload_n 2, 1) := by decide +kernel
theorem dX4_undo_109 : decode cX4_undo 109 = .ok (.iadd, 1) := by decide +kernel
theorem dX4_undo_110 : decode cX4_undo 110 = .ok (.iconst 0, 1) := by decide +kernel
theorem dX4_undo_111 : decode cX4_undo 111 = .ok (.iastore, 1) := by decide +kernel
theorem dX4_undo_112 : decode cX4_undo 112 = .ok (.iinc 2 1, 3) := by decide +kernel
theorem dX4_undo_115 : decode cX4_undo 115 = .ok (.goto (-17), 3) := by decide +kernel
theorem dX4_undo_118 : decode cX4_undo 118 = .ok (.aload_n 0, 1) := by decide +kernel
theorem dX4_undo_119 : decode cX4_undo 119 = .ok (.getfield 7, 3) := by decide +kernel
theorem dX4_undo_122 : decode cX4_undo 122 = .ok (.iconst 5, 1) := by decide +kernel
theorem dX4_undo_123 : decode cX4_undo 123 = .ok (.iaload, 1) := by decide +kernel
theorem dX4_undo_124 : decode cX4_undo 124 = .ok (.ireturn, 1) := by decide +kernel
theorem dX4_now_0 : decode cX4_now 0 = .ok (.iload_n 1, 1) := by decide +kernel
theorem dX4_now_1 : decode cX4_now 1 = .ok (.i2l, 1) := by decide +kernel
theorem dX4_now_2 : decode cX4_now 2 = .ok (.lconst 0, 1) := by decide +kernel
theorem dX4_now_3 : decode cX4_now 3 = .ok (.ldc2_w 171, 3) := by decide +kernel
theorem dX4_now_6 : decode cX4_now 6 = .ok (.invokestatic 58, 3) := by decide +kernel
theorem dX4_now_9 : decode cX4_now 9 = .ok (.ifCond .eq 12, 3) := by decide +kernel
theorem dX4_now_12 : decode cX4_now 12 = .ok (.aload_n 0, 1) := by decide +kernel
theorem dX4_now_13 : decode cX4_now 13 = .ok (.getfield 7, 3) := by decide +kernel
theorem dX4_now_16 : decode cX4_now 16 = .ok (.iload_n 1, 1) := by decide +kernel
theorem dX4_now_17 : decode cX4_now 17 = .ok (.iaload, 1) := by decide +kernel
theorem dX4_now_18 : decode cX4_now 18 = .ok (.goto 9, 3) := by decide +kernel
theorem dX4_now_21 : decode cX4_now 21 = .ok (.aload_n 0, 1) := by decide +kernel
theorem dX4_now_22 : decode cX4_now 22 = .ok (.bipush (-2), 2) := by decide +kernel
theorem dX4_now_24 : decode cX4_now 24 = .ok (.invokevirtual 91, 3) := by decide +kernel
theorem dX4_now_27 : decode cX4_now 27 = .ok (.ireturn, 1) := by decide +kernel
theorem dX4_moves_0 : decode cX4_moves 0 = .ok (.iload_n 1, 1) := by decide +kernel
theorem dX4_moves_1 : decode cX4_moves 1 = .ok (.i2l, 1) := by decide +kernel
theorem dX4_moves_2 : decode cX4_moves 2 = .ok (.lconst 0, 1) := by decide +kernel
theorem dX4_moves_3 : decode cX4_moves 3 = .ok (.ldc2_w 89, 3) := by decide +kernel
theorem dX4_moves_6 : decode cX4_moves 6 = .ok (.invokestatic 58, 3) := by decide +kernel
theorem dX4_moves_9 : decode cX4_moves 9 = .ok (.ifCond .eq 13, 3) := by decide +kernel
theorem dX4_moves_12 : decode cX4_moves 12 = .ok (.iload_n 2, 1) := by decide +kernel
theorem dX4_moves_13 : decode cX4_moves 13 = .ok (.i2l, 1) := by decide +kernel
theorem dX4_moves_14 : decode cX4_moves 14 = .ok (.lconst 0, 1) := by decide +kernel
theorem dX4_moves_15 : decode cX4_moves 15 = .ok (.lconst 1, 1) := by decide +kernel
theorem dX4_moves_16 : decode cX4_moves 16 = .ok (.invokestatic 58, 3) := by decide +kernel
theorem dX4_moves_19 : decode cX4_moves 19 = .ok (.ifCond .ne 10, 3) := by decide +kernel
theorem dX4_moves_22 : decode cX4_moves 22 = .ok (.aload_n 0, 1) := by decide +kernel
theorem dX4_moves_23 : decode cX4_moves 23 = .ok (.bipush (-100), 2) := by decide +kernel
theorem dX4_moves_25 : decode cX4_moves 25 = .ok (.invokevirtual 62, 3) := by decide +kernel
theorem dX4_moves_28 : decode cX4_moves 28 = .ok (.ireturn, 1) := by decide +kernel
theorem dX4_moves_29 : decode cX4_moves 29 = .ok (.iload_n 2, 1) := by decide +kernel
theorem dX4_moves_30 : decode cX4_moves 30 = .ok (.ifCond .ne 23, 3) := by decide +kernel
theorem dX4_moves_33 : decode cX4_moves 33 = .ok (.aload_n 0, 1) := by decide +kernel
theorem dX4_moves_34 : decode cX4_moves 34 = .ok (.aload_n 0, 1) := by decide +kernel
theorem dX4_moves_35 : decode cX4_moves 35 = .ok (.getfield 7, 3) := by decide +kernel
theorem dX4_moves_38 : decode cX4_moves 38 = .ok (.iconst 0, 1) := by decide +kernel
theorem dX4_moves_39 : decode cX4_moves 39 = .ok (.iaload, 1) := by decide +kernel
theorem dX4_moves_40 : decode cX4_moves 40 = .ok (.iload_n 1, 1) := by decide +kernel
theorem dX4_moves_41 : decode cX4_moves 41 = .ok (.aload_n 0, 1) := by decide +kernel
theorem dX4_moves_42 : decode cX4_moves 42 = .ok (.getfield 7, 3) := by decide +kernel
theorem dX4_moves_45 : decode cX4_moves 45 = .ok (.iconst 5, 1) := by decide +kernel
theorem dX4_moves_46 : decode cX4_moves 46 = .ok (.iaload, 1) := by decide +kernel
theorem dX4_moves_47 : decode cX4_moves 47 = .ok (.invokevirtual 79, 3) := by decide +kernel
theorem dX4_moves_50 : decode cX4_moves 50 = .ok (.goto 20, 3) := by decide +kernel
theorem dX4_moves_53 : decode cX4_moves 53 = .ok (.aload_n 0, 1) := by decide +kernel
theorem dX4_moves_54 : decode cX4_moves 54 = .ok (.aload_n 0, 1) := by decide +kernel
theorem dX4_moves_55 : decode cX4_moves 55 = .ok (.getfield 7, 3) := by decide +kernel
theorem dX4_moves_58 : decode cX4_moves 58 = .ok (.iconst 0, 1) := by decide +kernel
theorem dX4_moves_59 : decode cX4_moves 59 = .ok (.iaload, 1) := by decide +kernel
theorem dX4_moves_60 : decode cX4_moves 60 = .ok (.iload_n 1, 1) := by decide +kernel
theorem dX4_moves_61 : decode cX4_moves 61 = .ok (.aload_n 0, 1) := by decide +kernel
theorem dX4_moves_62 : decode cX4_moves 62 = .ok (.getfield 7, 3) := by decide +kernel
theorem dX4_moves_65 : decode cX4_moves 65 = .ok (.iconst 5, 1) := by decide +kernel
theorem dX4_moves_66 : decode cX4_moves 66 = .ok (.iaload, 1) := by decide +kernel
theorem dX4_moves_67 : decode cX4_moves 67 = .ok (.invokevirtual 86, 3) := by decide +kernel
theorem dX4_moves_70 : decode cX4_moves 70 = .ok (.ireturn, 1) := by decide +kernel
theorem dX4_takeRow_0 : decode cX4_takeRow 0 = .ok (.aload_n 0, 1) := by decide +kernel
theorem dX4_takeRow_1 : decode cX4_takeRow 1 = .ok (.iconst 0, 1) := by decide +kernel
theorem dX4_takeRow_2 : decode cX4_takeRow 2 = .ok (.putfield 173, 3) := by decide +kernel
theorem dX4_takeRow_5 : decode cX4_takeRow 5 = .ok (.iload_n 1, 1) := by decide +kernel
theorem dX4_takeRow_6 : decode cX4_takeRow 6 = .ok (.istore_n 3, 1) := by decide +kernel
theorem dX4_takeRow_7 : decode cX4_takeRow 7 = .ok (.iload_n 3, 1) := by decide +kernel
theorem dX4_takeRow_8 : decode cX4_takeRow 8 = .ok (.ifCond .le 30, 3) := by decide +kernel
theorem dX4_takeRow_11 : decode cX4_takeRow 11 = .ok (.aload_n 0, 1) := by decide +kernel
theorem dX4_takeRow_12 : decode cX4_takeRow 12 = .ok (.getfield 173, 3) := by decide +kernel
theorem dX4_takeRow_15 : decode cX4_takeRow 15 = .ok (.bipush 9, 2) := by decide +kernel
theorem dX4_takeRow_17 : decode cX4_takeRow 17 = .ok (.if_icmp .ge 21, 3) := by decide +kernel
theorem dX4_takeRow_20 : decode cX4_takeRow 20 = .ok (.aload_n 0, 1) := by decide +kernel
theorem dX4_takeRow_21 : decode cX4_takeRow 21 = .ok (.dup, 1) := by decide +kernel
theorem dX4_takeRow_22 : decode cX4_takeRow 22 = .ok (.getfield 173, 3) := by decide +kernel
theorem dX4_takeRow_25 : decode cX4_takeRow 25 = .ok (.iconst 1, 1) := by decide +kernel
theorem dX4_takeRow_26 : decode cX4_takeRow 26 = .ok (.iadd, 1) := by decide +kernel
theorem dX4_takeRow_27 : decode cX4_takeRow 27 = .ok (.putfield 173, 3) := by decide +kernel
theorem dX4_takeRow_30 : decode cX4_takeRow 30 = .ok (.iload_n 3, 1) := by decide +kernel
theorem dX4_takeRow_31 : decode cX4_takeRow 31 = .ok (.bipush 10, 2) := by decide +kernel
theorem dX4_takeRow_33 : decode cX4_takeRow 33 = .ok (.idiv, 1) := by decide +kernel
theorem dX4_takeRow_34 : decode cX4_takeRow 34 = .ok (.istore_n 3, 1) := by decide +kernel
theorem dX4_takeRow_35 : decode cX4_takeRow 35 = .ok (.goto (-28), 3) := by decide +kernel
theorem dX4_takeRow_38 : decode cX4_takeRow 38 = .ok (.iload_n 1, 1) := by decide +kernel
theorem dX4_takeRow_39 : decode cX4_takeRow 39 = .ok (.ifCond .lt 15, 3) := by decide +kernel
theorem dX4_takeRow_42 : decode cX4_takeRow 42 = .ok (.iload_n 3, 1) := by decide +kernel
theorem dX4_takeRow_43 : decode cX4_takeRow 43 = .ok (.ifCond .gt 11, 3) := by decide +kernel
theorem dX4_takeRow_46 : decode cX4_takeRow 46 = .ok (.aload_n 0, 1) := by decide +kernel
theorem dX4_takeRow_47 : decode cX4_takeRow 47 = .ok (.getfield 173, 3) := by decide +kernel
theorem dX4_takeRow_50 : decode cX4_takeRow 50 = .ok (.iload_n 2, 1) := by decide +kernel
theorem dX4_takeRow_51 : decode cX4_takeRow 51 = .ok (.if_icmp .le 5, 3) := by decide +kernel
theorem dX4_takeRow_54 : decode cX4_takeRow 54 = .ok (.iconst 0, 1) := by decide +kernel
theorem dX4_takeRow_55 : decode cX4_takeRow 55 = .ok (.ireturn, 1) := by decide +kernel
theorem dX4_takeRow_56 : decode cX4_takeRow 56 = .ok (.iload_n 1, 1) := by decide +kernel
theorem dX4_takeRow_57 : decode cX4_takeRow 57 = .ok (.istore_n 3, 1) := by decide +kernel
theorem dX4_takeRow_58 : decode cX4_takeRow 58 = .ok (.iconst 1, 1) := by decide +kernel
theorem dX4_takeRow_59 : decode cX4_takeRow 59 = .ok (.istore 4, 2) := by decide +kernel
theorem dX4_takeRow_61 : decode cX4_takeRow 61 = .ok (.aload_n 0, 1) := by decide +kernel
theorem dX4_takeRow_62 : decode cX4_takeRow 62 = .ok (.getfield 173, 3) := by decide +kernel
theorem dX4_takeRow_65 : decode cX4_takeRow 65 = .ok (.iconst 1, 1) := by decide +kernel
theorem dX4_takeRow_66 : decode cX4_takeRow 66 = .ok (.isub, 1) := by decide +kernel
theorem dX4_takeRow_67 : decode cX4_takeRow 67 = .ok (.istore 5, 2) := by decide +kernel
theorem dX4_takeRow_69 : decode cX4_takeRow 69 = .ok (.iload 5, 2) := by decide +kernel
theorem dX4_takeRow_71 : decode cX4_takeRow 71 = .ok (.ifCond .lt 57, 3) := by decide +kernel
theorem dX4_takeRow_74 : decode cX4_takeRow 74 = .ok (.aload_n 0, 1) := by decide +kernel
theorem dX4_takeRow_75 : decode cX4_takeRow 75 = .ok (.getfield 28, 3) := by decide +kernel
theorem dX4_takeRow_78 : decode cX4_takeRow 78 = .ok (.iload 5, 2) := by decide +kernel
theorem dX4_takeRow_80 : decode cX4_takeRow 80 = .ok (.iload_n 3, 1) := by decide +kernel
theorem dX4_takeRow_81 : decode cX4_takeRow 81 = .ok (.bipush 10, 2) := by decide +kernel
theorem dX4_takeRow_83 : decode cX4_takeRow 83 = .ok (.irem, 1) := by decide +kernel
theorem dX4_takeRow_84 : decode cX4_takeRow 84 = .ok (.iconst 1, 1) := by decide +kernel
theorem dX4_takeRow_85 : decode cX4_takeRow 85 = .ok (.isub, 1) := by decide +kernel
theorem dX4_takeRow_86 : decode cX4_takeRow 86 = .ok (.iastore, 1) := by decide +kernel
theorem dX4_takeRow_87 : decode cX4_takeRow 87 = .ok (.iload 4, 2) := by decide +kernel
theorem dX4_takeRow_89 : decode cX4_takeRow 89 = .ok (.ifCond .eq 25, 3) := by decide +kernel
theorem dX4_takeRow_92 : decode cX4_takeRow 92 = .ok (.aload_n 0, 1) := by decide +kernel
theorem dX4_takeRow_93 : decode cX4_takeRow 93 = .ok (.getfield 28, 3) := by decide +kernel
theorem dX4_takeRow_96 : decode cX4_takeRow 96 = .ok (.iload 5, 2) := by decide +kernel
theorem dX4_takeRow_98 : decode cX4_takeRow 98 = .ok (.iaload, 1) := by decide +kernel
theorem dX4_takeRow_99 : decode cX4_takeRow 99 = .ok (.i2l, 1) := by decide +kernel
theorem dX4_takeRow_100 : decode cX4_takeRow 100 = .ok (.lconst 0, 1) := by decide +kernel
theorem dX4_takeRow_101 : decode cX4_takeRow 101 = .ok (.ldc2_w 89, 3) := by decide +kernel
theorem dX4_takeRow_104 : decode cX4_takeRow 104 = .ok (.invokestatic 58, 3) := by decide +kernel
theorem dX4_takeRow_107 : decode cX4_takeRow 107 = .ok (.ifCond .eq 7, 3) := by decide +kernel
theorem dX4_takeRow_110 : decode cX4_takeRow 110 = .ok (.iconst 1, 1) := by decide +kernel
theorem dX4_takeRow_111 : decode cX4_takeRow 111 = .ok (.goto 4, 3) := by decide +kernel
theorem dX4_takeRow_114 : decode cX4_takeRow 114 = .ok (.iconst 0, 1) := by decide +kernel
theorem dX4_takeRow_115 : decode cX4_takeRow 115 = .ok (.istore 4, 2) := by decide +kernel
theorem dX4_takeRow_117 : decode cX4_takeRow 117 = .ok (.iload_n 3, 1) := by decide +kernel
theorem dX4_takeRow_118 : decode cX4_takeRow 118 = .ok (.bipush 10, 2) := by decide +kernel
theorem dX4_takeRow_120 : decode cX4_takeRow 120 = .ok (.idiv, 1) := by decide +kernel
theorem dX4_takeRow_121 : decode cX4_takeRow 121 = .ok (.istore_n 3, 1) := by decide +kernel
theorem dX4_takeRow_122 : decode cX4_takeRow 122 = .ok (.iinc 5 (-1), 3) := by decide +kernel
theorem dX4_takeRow_125 : decode cX4_takeRow 125 = .ok (.goto (-56), 3) := by decide +kernel
theorem dX4_takeRow_128 : decode cX4_takeRow 128 = .ok (.iload 4, 2) := by decide +kernel
theorem dX4_takeRow_130 : decode cX4_takeRow 130 = .ok (.ireturn, 1) := by decide +kernel
theorem dX4_words_0 : decode cX4_words 0 = .ok (.aload_n 0, 1) := by decide +kernel
theorem dX4_words_1 : decode cX4_words 1 = .ok (.iload_n 1, 1) := by decide +kernel
theorem dX4_words_2 : decode cX4_words 2 = .ok (.bipush 9, 2) := by decide +kernel
theorem dX4_words_4 : decode cX4_words 4 = .ok (.invokevirtual 176, 3) := by decide +kernel
theorem dX4_words_7 : decode cX4_words 7 = .ok (.ifCond .eq 15, 3) := by decide +kernel
theorem dX4_words_10 : decode cX4_words 10 = .ok (.iload_n 2, 1) := by decide +kernel
theorem dX4_words_11 : decode cX4_words 11 = .ok (.i2l, 1) := by decide +kernel
theorem dX4_words_12 : decode cX4_words 12 = .ok (.lconst 0, 1) := by decide +kernel
theorem dX4_words_13 : decode cX4_words 13 = .ok (.ldc2_w 180, 3) := by decide +kernel
theorem dX4_words_16 : decode cX4_words 16 = .ok (.invokestatic 58, 3) := by decide +kernel
theorem dX4_words_19 : decode cX4_words 19 = .ok (.ifCond .ne 10, 3) := by decide +kernel
theorem dX4_words_22 : decode cX4_words 22 = .ok (.aload_n 0, 1) := by decide +kernel
theorem dX4_words_23 : decode cX4_words 23 = .ok (.bipush (-2), 2) := by decide +kernel
theorem dX4_words_25 : decode cX4_words 25 = .ok (.invokevirtual 91, 3) := by decide +kernel
theorem dX4_words_28 : decode cX4_words 28 = .ok (.ireturn, 1) := by decide +kernel
theorem dX4_words_29 : decode cX4_words 29 = .ok (.aload_n 0, 1) := by decide +kernel
theorem dX4_words_30 : decode cX4_words 30 = .ok (.invokevirtual 136, 3) := by decide +kernel
theorem dX4_words_33 : decode cX4_words 33 = .ok (.iconst 0, 1) := by decide +kernel
theorem dX4_words_34 : decode cX4_words 34 = .ok (.istore_n 3, 1) := by decide +kernel
theorem dX4_words_35 : decode cX4_words 35 = .ok (.iload_n 3, 1) := by decide +kernel
theorem dX4_words_36 : decode cX4_words 36 = .ok (.aload_n 0, 1) := by decide +kernel
theorem dX4_words_37 : decode cX4_words 37 = .ok (.getfield 173, 3) := by decide +kernel
theorem dX4_words_40 : decode cX4_words 40 = .ok (.if_icmp .ge 27, 3) := by decide +kernel
theorem dX4_words_43 : decode cX4_words 43 = .ok (.aload_n 0, 1) := by decide +kernel
theorem dX4_words_44 : decode cX4_words 44 = .ok (.getfield 76, 3) := by decide +kernel
theorem dX4_words_47 : decode cX4_words 47 = .ok (.ifCond .ne 20, 3) := by decide +kernel
theorem dX4_words_50 : decode cX4_words 50 = .ok (.aload_n 0, 1) := by decide +kernel
theorem dX4_words_51 : decode cX4_words 51 = .ok (.aload_n 0, 1) := by decide +kernel
theorem dX4_words_52 : decode cX4_words 52 = .ok (.getfield 28, 3) := by decide +kernel
theorem dX4_words_55 : decode cX4_words 55 = .ok (.iload_n 3, 1) := by decide +kernel
theorem dX4_words_56 : decode cX4_words 56 = .ok (.iaload, 1) := by decide +kernel
theorem dX4_words_57 : decode cX4_words 57 = .ok (.iconst 1, 1) := by decide +kernel
theorem dX4_words_58 : decode cX4_words 58 = .ok (.invokevirtual 139, 3) := by decide +kernel
theorem dX4_words_61 : decode cX4_words 61 = .ok (.iinc 3 1, 3) := by decide +kernel
theorem dX4_words_64 : decode cX4_words 64 = .ok (.goto (-29), 3) := by decide +kernel
theorem dX4_words_67 : decode cX4_words 67 = .ok (.iload_n 2, 1) := by decide +kernel
theorem dX4_words_68 : decode cX4_words 68 = .ok (.ifCond .ne 10, 3) := by decide +kernel
theorem dX4_words_71 : decode cX4_words 71 = .ok (.aload_n 0, 1) := by decide +kernel
theorem dX4_words_72 : decode cX4_words 72 = .ok (.getfield 66, 3) := by decide +kernel
theorem dX4_words_75 : decode cX4_words 75 = .ok (.goto 28, 3) := by decide +kernel
theorem dX4_words_78 : decode cX4_words 78 = .ok (.iload_n 2, 1) := by decide +kernel
theorem dX4_words_79 : decode cX4_words 79 = .ok (.iconst 1, 1) := by decide +kernel
theorem dX4_words_80 : decode cX4_words 80 = .ok (.if_icmp .ne 10, 3) := by decide +kernel
theorem dX4_words_83 : decode cX4_words 83 = .ok (.aload_n 0, 1) := by decide +kernel
theorem dX4_words_84 : decode cX4_words 84 = .ok (.getfield 70, 3) := by decide +kernel
theorem dX4_words_87 : decode cX4_words 87 = .ok (.goto 16, 3) := by decide +kernel
theorem dX4_words_90 : decode cX4_words 90 = .ok (.iload_n 2, 1) := by decide +kernel
theorem dX4_words_91 : decode cX4_words 91 = .ok (.iconst 2, 1) := by decide +kernel
theorem dX4_words_92 : decode cX4_words 92 = .ok (.if_icmp .ne 10, 3) := by decide +kernel
theorem dX4_words_95 : decode cX4_words 95 = .ok (.aload_n 0, 1) := by decide +kernel
theorem dX4_words_96 : decode cX4_words 96 = .ok (.getfield 76, 3) := by decide +kernel
theorem dX4_words_99 : decode cX4_words 99 = .ok (.goto 4, 3) := by decide +kernel
theorem dX4_words_102 : decode cX4_words 102 = .ok (.iload_n 3, 1) := by decide +kernel
theorem dX4_words_103 : decode cX4_words 103 = .ok (.ireturn, 1) := by decide +kernel
theorem dX4_placeOf_0 : decode cX4_placeOf 0 = .ok (.bipush 100, 2) := by decide +kernel
theorem dX4_placeOf_2 : decode cX4_placeOf 2 = .ok (.iload_n 0, 1) := by decide +kernel
theorem dX4_placeOf_3 : decode cX4_placeOf 3 = .ok (.imul, 1) := by decide +kernel
theorem dX4_placeOf_4 : decode cX4_placeOf 4 = .ok (.iload_n 1, 1) := by decide +kernel
theorem dX4_placeOf_5 : decode cX4_placeOf 5 = .ok (.iadd, 1) := by decide +kernel
theorem dX4_placeOf_6 : decode cX4_placeOf 6 = .ok (.iconst 2, 1) := by decide +kernel
theorem dX4_placeOf_7 : decode cX4_placeOf 7 = .ok (.imul, 1) := by decide +kernel
theorem dX4_placeOf_8 : decode cX4_placeOf 8 = .ok (.iload_n 2, 1) := by decide +kernel
theorem dX4_placeOf_9 : decode cX4_placeOf 9 = .ok (.iconst 2, 1) := by decide +kernel
theorem dX4_placeOf_10 : decode cX4_placeOf 10 = .ok (.irem, 1) := by decide +kernel
theorem dX4_placeOf_11 : decode cX4_placeOf 11 = .ok (.iadd, 1) := by decide +kernel
theorem dX4_placeOf_12 : decode cX4_placeOf 12 = .ok (.ireturn, 1) := by decide +kernel
theorem dX4_standAt_0 : decode cX4_standAt 0 = .ok (.aload_n 0, 1) := by decide +kernel
theorem dX4_standAt_1 : decode cX4_standAt 1 = .ok (.iload_n 1, 1) := by decide +kernel
theorem dX4_standAt_2 : decode cX4_standAt 2 = .ok (.iconst 2, 1) := by decide +kernel
theorem dX4_standAt_3 : decode cX4_standAt 3 = .ok (.idiv, 1) := by decide +kernel
theorem dX4_standAt_4 : decode cX4_standAt 4 = .ok (.bipush 100, 2) := by decide +kernel
theorem dX4_standAt_6 : decode cX4_standAt 6 = .ok (.idiv, 1) := by decide +kernel
theorem dX4_standAt_7 : decode cX4_standAt 7 = .ok (.putfield 66, 3) := by decide +kernel
theorem dX4_standAt_10 : decode cX4_standAt 10 = .ok (.aload_n 0, 1) := by decide +kernel
theorem dX4_standAt_11 : decode cX4_standAt 11 = .ok (.iload_n 1, 1) := by decide +kernel
theorem dX4_standAt_12 : decode cX4_standAt 12 = .ok (.iconst 2, 1) := by decide +kernel
theorem dX4_standAt_13 : decode cX4_standAt 13 = .ok (.idiv, 1) := by decide +kernel
theorem dX4_standAt_14 : decode cX4_standAt 14 = .ok (.bipush 100, 2) := by decide +kernel
theorem dX4_standAt_16 : decode cX4_standAt 16 = .ok (.irem, 1) := by decide +kernel
theorem dX4_standAt_17 : decode cX4_standAt 17 = .ok (.putfield 70, 3) := by decide +kernel
theorem dX4_standAt_20 : decode cX4_standAt 20 = .ok (.aload_n 0, 1) := by decide +kernel
theorem dX4_standAt_21 : decode cX4_standAt 21 = .ok (.iload_n 1, 1) := by decide +kernel
theorem dX4_standAt_22 : decode cX4_standAt 22 = .ok (.iconst 2, 1) := by decide +kernel
theorem dX4_standAt_23 : decode cX4_standAt 23 = .ok (.irem, 1) := by decide +kernel
theorem dX4_standAt_24 : decode cX4_standAt 24 = .ok (.putfield 73, 3) := by decide +kernel
theorem dX4_standAt_27 : decode cX4_standAt 27 = .ok (.aload_n 0, 1) := by decide +kernel
theorem dX4_standAt_28 : decode cX4_standAt 28 = .ok (.iconst 0, 1) := by decide +kernel
theorem dX4_standAt_29 : decode cX4_standAt 29 = .ok (.putfield 76, 3) := by decide +kernel
theorem dX4_standAt_32 : decode cX4_standAt 32 = .ok (.return_, 1) := by decide +kernel
theorem dX4_findFar_0 : decode cX4_findFar 0 = .ok (.iconst 0, 1) := by decide +kernel
theorem dX4_findFar_1 : decode cX4_findFar 1 = .ok (.istore_n 1, 1) := by decide +kernel
theorem dX4_findFar_2 : decode cX4_findFar 2 = .ok (.iload_n 1, 1) := by decide +kernel
theorem dX4_findFar_3 : decode cX4_findFar 3 = .ok (.sipush 20000, 3) := by decide +kernel
theorem dX4_findFar_6 : decode cX4_findFar 6 = .ok (.if_icmp .ge 17, 3) := by decide +kernel
theorem dX4_findFar_9 : decode cX4_findFar 9 = .ok (.aload_n 0, 1) := by decide +kernel
theorem dX4_findFar_10 : decode cX4_findFar 10 = .ok (.getfield 31, 3) := by decide +kernel
theorem dX4_findFar_13 : decode cX4_findFar 13 = .ok (.iload_n 1, 1) := by decide +kernel
theorem dX4_findFar_14 : decode cX4_findFar 14 = .ok (.bipush 13, 2) := by decide +kernel
theorem dX4_findFar_16 : decode cX4_findFar 16 = .ok (.iastore, 1) := by decide +kernel
theorem dX4_findFar_17 : decode cX4_findFar 17 = .ok (.iinc 1 1, 3) := by decide +kernel
theorem dX4_findFar_20 : decode cX4_findFar 20 = .ok (.goto (-18), 3) := by decide +kernel
theorem dX4_findFar_23 : decode cX4_findFar 23 = .ok (.iconst 1, 1) := by decide +kernel
theorem dX4_findFar_24 : decode cX4_findFar 24 = .ok (.istore_n 1, 1) := by decide +kernel
theorem dX4_findFar_25 : decode cX4_findFar 25 = .ok (.iload_n 1, 1) := by decide +kernel
theorem dX4_findFar_26 : decode cX4_findFar 26 = .ok (.bipush 12, 2) := by decide +kernel
theorem dX4_findFar_28 : decode cX4_findFar 28 = .ok (.if_icmp .gt 141, 3) := by decide +kernel
theorem dX4_findFar_31 : decode cX4_findFar 31 = .ok (.iconst 0, 1) := by decide +kernel
theorem dX4_findFar_32 : decode cX4_findFar 32 = .ok (.istore_n 2, 1) := by decide +kernel
theorem dX4_findFar_33 : decode cX4_findFar 33 = .ok (.iload_n 2, 1) := by decide +kernel
theorem dX4_findFar_34 : decode cX4_findFar 34 = .ok (.sipush 20000, 3) := by decide +kernel
theorem dX4_findFar_37 : decode cX4_findFar 37 = .ok (.if_icmp .ge 126, 3) := by decide +kernel
theorem dX4_findFar_40 : decode cX4_findFar 40 = .ok (.iconst 0, 1) := by decide +kernel
theorem dX4_findFar_41 : decode cX4_findFar 41 = .ok (.istore_n 3, 1) := by decide +kernel
theorem dX4_findFar_42 : decode cX4_findFar 42 = .ok (.iload_n 3, 1) := by decide +kernel
theorem dX4_findFar_43 : decode cX4_findFar 43 = .ok (.bipush 6, 2) := by decide +kernel
theorem dX4_findFar_45 : decode cX4_findFar 45 = .ok (.if_icmp .ge 112, 3) := by decide +kernel
theorem dX4_findFar_48 : decode cX4_findFar 48 = .ok (.aload_n 0, 1) := by decide +kernel
theorem dX4_findFar_49 : decode cX4_findFar 49 = .ok (.getfield 31, 3) := by decide +kernel
theorem dX4_findFar_52 : decode cX4_findFar 52 = .ok (.iload_n 2, 1) := by decide +kernel
theorem dX4_findFar_53 : decode cX4_findFar 53 = .ok (.iaload, 1) := by decide +kernel
theorem dX4_findFar_54 : decode cX4_findFar 54 = .ok (.iload_n 1, 1) := by decide +kernel
theorem dX4_findFar_55 : decode cX4_findFar 55 = .ok (.if_icmp .le 102, 3) := by decide +kernel
theorem dX4_findFar_58 : decode cX4_findFar 58 = .ok (.aload_n 0, 1) := by decide +kernel
theorem dX4_findFar_59 : decode cX4_findFar 59 = .ok (.iload_n 2, 1) := by decide +kernel
theorem dX4_findFar_60 : decode cX4_findFar 60 = .ok (.invokevirtual 182, 3) := by decide +kernel
theorem dX4_findFar_63 : decode cX4_findFar 63 = .ok (.aload_n 0, 1) := by decide +kernel
theorem dX4_findFar_64 : decode cX4_findFar 64 = .ok (.iload_n 3, 1) := by decide +kernel
theorem dX4_findFar_65 : decode cX4_findFar 65 = .ok (.iconst 1, 1) := by decide +kernel
theorem dX4_findFar_66 : decode cX4_findFar 66 = .ok (.invokevirtual 139, 3) := by decide +kernel
theorem dX4_findFar_69 : decode cX4_findFar 69 = .ok (.iload_n 1, 1) := by decide +kernel
theorem dX4_findFar_70 : decode cX4_findFar 70 = .ok (.iconst 1, 1) := by decide +kernel
theorem dX4_findFar_71 : decode cX4_findFar 71 = .ok (.if_icmp .ne 19, 3) := by decide +kernel
theorem dX4_findFar_74 : decode cX4_findFar 74 = .ok (.aload_n 0, 1) := by decide +kernel
theorem dX4_findFar_75 : decode cX4_findFar 75 = .ok (.getfield 76, 3) := by decide +kernel
theorem dX4_findFar_78 : decode cX4_findFar 78 = .ok (.iconst 1, 1) := by decide +kernel
theorem dX4_findFar_79 : decode cX4_findFar 79 = .ok (.if_icmp .ne 7, 3) := by decide +kernel
theorem dX4_findFar_82 : decode cX4_findFar 82 = .ok (.iconst 1, 1) := by decide +kernel
theorem dX4_findFar_83 : decode cX4_findFar 83 = .ok (.goto 45, 3) := by decide +kernel
theorem dX4_findFar_86 : decode cX4_findFar 86 = .ok (.iconst 0, 1) := by decide +kernel
theorem dX4_findFar_87 : decode cX4_findFar 87 = .ok (.goto 41, 3) := by decide +kernel
theorem dX4_findFar_90 : decode cX4_findFar 90 = .ok (.aload_n 0, 1) := by decide +kernel
theorem dX4_findFar_91 : decode cX4_findFar 91 = .ok (.getfield 76, 3) := by decide +kernel
theorem dX4_findFar_94 : decode cX4_findFar 94 = .ok (.ifCond .ne 33, 3) := by decide +kernel
theorem dX4_findFar_97 : decode cX4_findFar 97 = .ok (.aload_n 0, 1) := by decide +kernel
theorem dX4_findFar_98 : decode cX4_findFar 98 = .ok (.getfield 31, 3) := by decide +kernel
theorem dX4_findFar_101 : decode cX4_findFar 101 = .ok (.aload_n 0, 1) := by decide +kernel
theorem dX4_findFar_102 : decode cX4_findFar 102 = .ok (.getfield 66, 3) := by decide +kernel
theorem dX4_findFar_105 : decode cX4_findFar 105 = .ok (.aload_n 0, 1) := by decide +kernel
theorem dX4_findFar_106 : decode cX4_findFar 106 = .ok (.getfield 70, 3) := by decide +kernel
theorem dX4_findFar_109 : decode cX4_findFar 109 = .ok (.aload_n 0, 1) := by decide +kernel
theorem dX4_findFar_110 : decode cX4_findFar 110 = .ok (.getfield 73, 3) := by decide +kernel
theorem dX4_findFar_113 : decode cX4_findFar 113 = .ok (.invokestatic 185, 3) := by decide +kernel
theorem dX4_findFar_116 : decode cX4_findFar 116 = .ok (.iaload, 1) := by decide +kernel
theorem dX4_findFar_117 : decode cX4_findFar 117 = .ok (.iload_n 1, 1) := by decide +kernel
theorem dX4_findFar_118 : decode cX4_findFar 118 = .ok (.iconst 1, 1) := by decide +kernel
theorem dX4_findFar_119 : decode cX4_findFar 119 = .ok (.isub, 1) := by decide +kernel
theorem dX4_findFar_120 : decode cX4_findFar 120 = .ok (.if_icmp .ne 7, 3) := by decide +kernel
theorem dX4_findFar_123 : decode cX4_findFar 123 = .ok (.iconst 1, 1) := by decide +kernel
theorem dX4_findFar_124 : decode cX4_findFar 124 = .ok (.goto 4, 3) := by decide +kernel
theorem dX4_findFar_127 : decode cX4_findFar 127 = .ok (.iconst 0, 1) := by decide +kernel
theorem dX4_findFar_128 : decode cX4_findFar 128 = .ok (.istore 4, 2) := by decide +kernel
theorem dX4_findFar_130 : decode cX4_findFar 130 = .ok (.aload_n 0, 1) := by decide +kernel
theorem dX4_findFar_131 : decode cX4_findFar 131 = .ok (.getfield 31, 3) := by decide +kernel
theorem dX4_findFar_134 : decode cX4_findFar 134 = .ok (.iload_n 2, 1) := by decide +kernel
theorem dX4_findFar_135 : decode cX4_findFar 135 = .ok (.iload 4, 2) := by decide +kernel
theorem dX4_findFar_137 : decode cX4_findFar 137 = .ok (.ifCond .eq 7, 3) := by decide +kernel
theorem dX4_findFar_140 : decode cX4_findFar 140 = .ok (.iload_n 1, 1) := by decide +kernel
theorem dX4_findFar_141 : decode cX4_findFar 141 = .ok (.goto 9, 3) := by decide +kernel
theorem dX4_findFar_144 : decode cX4_findFar 144 = .ok (.aload_n 0, 1) := by decide +kernel
theorem dX4_findFar_145 : decode cX4_findFar 145 = .ok (.getfield 31, 3) := by decide +kernel
theorem dX4_findFar_148 : decode cX4_findFar 148 = .ok (.iload_n 2, 1) := by decide +kernel
theorem dX4_findFar_149 : decode cX4_findFar 149 = .ok (.iaload, 1) := by decide +kernel
theorem dX4_findFar_150 : decode cX4_findFar 150 = .ok (.iastore, 1) := by decide +kernel
theorem dX4_findFar_151 : decode cX4_findFar 151 = .ok (.iinc 3 1, 3) := by decide +kernel
theorem dX4_findFar_154 : decode cX4_findFar 154 = .ok (.goto (-112), 3) := by decide +kernel
theorem dX4_findFar_157 : decode cX4_findFar 157 = .ok (.iinc 2 1, 3) := by decide +kernel
theorem dX4_findFar_160 : decode cX4_findFar 160 = .ok (.goto (-127), 3) := by decide +kernel
theorem dX4_findFar_163 : decode cX4_findFar 163 = .ok (.iinc 1 1, 3) := by decide +kernel
theorem dX4_findFar_166 : decode cX4_findFar 166 = .ok (.goto (-141), 3) := by decide +kernel
theorem dX4_findFar_169 : decode cX4_findFar 169 = .ok (.return_, 1) := by decide +kernel
theorem dX4_walkIn_0 : decode cX4_walkIn 0 = .ok (.aload_n 0, 1) := by decide +kernel
theorem dX4_walkIn_1 : decode cX4_walkIn 1 = .ok (.invokevirtual 136, 3) := by decide +kernel
theorem dX4_walkIn_4 : decode cX4_walkIn 4 = .ok (.iconst 0, 1) := by decide +kernel
theorem dX4_walkIn_5 : decode cX4_walkIn 5 = .ok (.istore_n 2, 1) := by decide +kernel
theorem dX4_walkIn_6 : decode cX4_walkIn 6 = .ok (.iload_n 2, 1) := by decide +kernel
theorem dX4_walkIn_7 : decode cX4_walkIn 7 = .ok (.iload_n 1, 1) := by decide +kernel
theorem dX4_walkIn_8 : decode cX4_walkIn 8 = .ok (.if_icmp .ge 147, 3) := by decide +kernel
theorem dX4_walkIn_11 : decode cX4_walkIn 11 = .ok (.aload_n 0, 1) := by decide +kernel
theorem dX4_walkIn_12 : decode cX4_walkIn 12 = .ok (.getfield 66, 3) := by decide +kernel
theorem dX4_walkIn_15 : decode cX4_walkIn 15 = .ok (.istore_n 3, 1) := by decide +kernel
theorem dX4_walkIn_16 : decode cX4_walkIn 16 = .ok (.aload_n 0, 1) := by decide +kernel
theorem dX4_walkIn_17 : decode cX4_walkIn 17 = .ok (.getfield 70, 3) := by decide +kernel
theorem dX4_walkIn_20 : decode cX4_walkIn 20 = .ok (.istore 4, 2) := by decide +kernel
theorem dX4_walkIn_22 : decode cX4_walkIn 22 = .ok (.aload_n 0, 1) := by decide +kernel
theorem dX4_walkIn_23 : decode cX4_walkIn 23 = .ok (.getfield 73, 3) := by decide +kernel
theorem dX4_walkIn_26 : decode cX4_walkIn 26 = .ok (.istore 5, 2) := by decide +kernel
theorem dX4_walkIn_28 : decode cX4_walkIn 28 = .ok (.iconst 0, 1) := by decide +kernel
theorem dX4_walkIn_29 : decode cX4_walkIn 29 = .ok (.istore 6, 2) := by decide +kernel
theorem dX4_walkIn_31 : decode cX4_walkIn 31 = .ok (.iconst 0, 1) := by decide +kernel
theorem dX4_walkIn_32 : decode cX4_walkIn 32 = .ok (.istore 7, 2) := by decide +kernel
theorem dX4_walkIn_34 : decode cX4_walkIn 34 = .ok (.iload 7, 2) := by decide +kernel
theorem dX4_walkIn_36 : decode cX4_walkIn 36 = .ok (.bipush 6, 2) := by decide +kernel
theorem dX4_walkIn_38 : decode cX4_walkIn 38 = .ok (.if_icmp .ge 111, 3) := by decide +kernel
theorem dX4_walkIn_41 : decode cX4_walkIn 41 = .ok (.iload 6, 2) := by decide +kernel
theorem dX4_walkIn_43 : decode cX4_walkIn 43 = .ok (.ifCond .ne 106, 3) := by decide +kernel
theorem dX4_walkIn_46 : decode cX4_walkIn 46 = .ok (.aload_n 0, 1) := by decide +kernel
theorem dX4_walkIn_47 : decode cX4_walkIn 47 = .ok (.iload_n 3, 1) := by decide +kernel
theorem dX4_walkIn_48 : decode cX4_walkIn 48 = .ok (.putfield 66, 3) := by decide +kernel
theorem dX4_walkIn_51 : decode cX4_walkIn 51 = .ok (.aload_n 0, 1) := by decide +kernel
theorem dX4_walkIn_52 : decode cX4_walkIn 52 = .ok (.iload 4, 2) := by decide +kernel
theorem dX4_walkIn_54 : decode cX4_walkIn 54 = .ok (.putfield 70, 3) := by decide +kernel
theorem dX4_walkIn_57 : decode cX4_walkIn 57 = .ok (.aload_n 0, 1) := by decide +kernel
theorem dX4_walkIn_58 : decode cX4_walkIn 58 = .ok (.iload 5, 2) := by decide +kernel
theorem dX4_walkIn_60 : decode cX4_walkIn 60 = .ok (.putfield 73, 3) := by decide +kernel
theorem dX4_walkIn_63 : decode cX4_walkIn 63 = .ok (.aload_n 0, 1) := by decide +kernel
theorem dX4_walkIn_64 : decode cX4_walkIn 64 = .ok (.iload 7, 2) := by decide +kernel
theorem dX4_walkIn_66 : decode cX4_walkIn 66 = .ok (.iconst 1, 1) := by decide +kernel
theorem dX4_walkIn_67 : decode cX4_walkIn 67 = .ok (.invokevirtual 139, 3) := by decide +kernel
theorem dX4_walkIn_70 : decode cX4_walkIn 70 = .ok (.aload_n 0, 1) := by decide +kernel
theorem dX4_walkIn_71 : decode cX4_walkIn 71 = .ok (.getfield 39, 3) := by decide +kernel
theorem dX4_walkIn_74 : decode cX4_walkIn 74 = .ok (.iload_n 2, 1) := by decide +kernel
theorem dX4_walkIn_75 : decode cX4_walkIn 75 = .ok (.iload 7, 2) := by decide +kernel
theorem dX4_walkIn_77 : decode cX4_walkIn 77 = .ok (.iastore, 1) := by decide +kernel
theorem dX4_walkIn_78 : decode cX4_walkIn 78 = .ok (.iload_n 2, 1) := by decide +kernel
theorem dX4_walkIn_79 : decode cX4_walkIn 79 = .ok (.iload_n 1, 1) := by decide +kernel
theorem dX4_walkIn_80 : decode cX4_walkIn 80 = .ok (.iconst 1, 1) := by decide +kernel
theorem dX4_walkIn_81 : decode cX4_walkIn 81 = .ok (.isub, 1) := by decide +kernel
theorem dX4_walkIn_82 : decode cX4_walkIn 82 = .ok (.if_icmp .ne 19, 3) := by decide +kernel
theorem dX4_walkIn_85 : decode cX4_walkIn 85 = .ok (.aload_n 0, 1) := by decide +kernel
theorem dX4_walkIn_86 : decode cX4_walkIn 86 = .ok (.getfield 76, 3) := by decide +kernel
theorem dX4_walkIn_89 : decode cX4_walkIn 89 = .ok (.iconst 1, 1) := by decide +kernel
theorem dX4_walkIn_90 : decode cX4_walkIn 90 = .ok (.if_icmp .ne 7, 3) := by decide +kernel
theorem dX4_walkIn_93 : decode cX4_walkIn 93 = .ok (.iconst 1, 1) := by decide +kernel
theorem dX4_walkIn_94 : decode cX4_walkIn 94 = .ok (.goto 47, 3) := by decide +kernel
theorem dX4_walkIn_97 : decode cX4_walkIn 97 = .ok (.iconst 0, 1) := by decide +kernel
theorem dX4_walkIn_98 : decode cX4_walkIn 98 = .ok (.goto 43, 3) := by decide +kernel
theorem dX4_walkIn_101 : decode cX4_walkIn 101 = .ok (.aload_n 0, 1) := by decide +kernel
theorem dX4_walkIn_102 : decode cX4_walkIn 102 = .ok (.getfield 76, 3) := by decide +kernel
theorem dX4_walkIn_105 : decode cX4_walkIn 105 = .ok (.ifCond .ne 35, 3) := by decide +kernel
theorem dX4_walkIn_108 : decode cX4_walkIn 108 = .ok (.aload_n 0, 1) := by decide +kernel
theorem dX4_walkIn_109 : decode cX4_walkIn 109 = .ok (.getfield 31, 3) := by decide +kernel
theorem dX4_walkIn_112 : decode cX4_walkIn 112 = .ok (.aload_n 0, 1) := by decide +kernel
theorem dX4_walkIn_113 : decode cX4_walkIn 113 = .ok (.getfield 66, 3) := by decide +kernel
theorem dX4_walkIn_116 : decode cX4_walkIn 116 = .ok (.aload_n 0, 1) := by decide +kernel
theorem dX4_walkIn_117 : decode cX4_walkIn 117 = .ok (.getfield 70, 3) := by decide +kernel
theorem dX4_walkIn_120 : decode cX4_walkIn 120 = .ok (.aload_n 0, 1) := by decide +kernel
theorem dX4_walkIn_121 : decode cX4_walkIn 121 = .ok (.getfield 73, 3) := by decide +kernel
theorem dX4_walkIn_124 : decode cX4_walkIn 124 = .ok (.invokestatic 185, 3) := by decide +kernel
theorem dX4_walkIn_127 : decode cX4_walkIn 127 = .ok (.iaload, 1) := by decide +kernel
theorem dX4_walkIn_128 : decode cX4_walkIn 128 = .ok (.iload_n 1, 1) := by decide +kernel
theorem dX4_walkIn_129 : decode cX4_walkIn 129 = .ok (.iconst 1, 1) := by decide +kernel
theorem dX4_walkIn_130 : decode cX4_walkIn 130 = .ok (.isub, 1) := by decide +kernel
theorem dX4_walkIn_131 : decode cX4_walkIn 131 = .ok (.iload_n 2, 1) := by decide +kernel
theorem dX4_walkIn_132 : decode cX4_walkIn 132 = .ok (.isub, 1) := by decide +kernel
theorem dX4_walkIn_133 : decode cX4_walkIn 133 = .ok (.if_icmp .ne 7, 3) := by decide +kernel
theorem dX4_walkIn_136 : decode cX4_walkIn 136 = .ok (.iconst 1, 1) := by decide +kernel
theorem dX4_walkIn_137 : decode cX4_walkIn 137 = .ok (.goto 4, 3) := by decide +kernel
theorem dX4_walkIn_140 : decode cX4_walkIn 140 = .ok (.iconst 0, 1) := by decide +kernel
theorem dX4_walkIn_141 : decode cX4_walkIn 141 = .ok (.istore 6, 2) := by decide +kernel
theorem dX4_walkIn_143 : decode cX4_walkIn 143 = .ok (.iinc 7 1, 3) := by decide +kernel
theorem dX4_walkIn_146 : decode cX4_walkIn 146 = .ok (.goto (-112), 3) := by decide +kernel
theorem dX4_walkIn_149 : decode cX4_walkIn 149 = .ok (.iinc 2 1, 3) := by decide +kernel
theorem dX4_walkIn_152 : decode cX4_walkIn 152 = .ok (.goto (-146), 3) := by decide +kernel
theorem dX4_walkIn_155 : decode cX4_walkIn 155 = .ok (.return_, 1) := by decide +kernel
theorem dX4_fewest_0 : decode cX4_fewest 0 = .ok (.iload_n 1, 1) := by decide +kernel
theorem dX4_fewest_1 : decode cX4_fewest 1 = .ok (.iconst (-1), 1) := by decide +kernel
theorem dX4_fewest_2 : decode cX4_fewest 2 = .ok (.if_icmp .ge 10, 3) := by decide +kernel
theorem dX4_fewest_5 : decode cX4_fewest 5 = .ok (.aload_n 0, 1) := by decide +kernel
theorem dX4_fewest_6 : decode cX4_fewest 6 = .ok (.bipush (-10), 2) := by decide +kernel
theorem dX4_fewest_8 : decode cX4_fewest 8 = .ok (.invokevirtual 62, 3) := by decide +kernel
theorem dX4_fewest_11 : decode cX4_fewest 11 = .ok (.ireturn, 1) := by decide +kernel
theorem dX4_fewest_12 : decode cX4_fewest 12 = .ok (.aload_n 0, 1) := by decide +kernel
theorem dX4_fewest_13 : decode cX4_fewest 13 = .ok (.getfield 7, 3) := by decide +kernel
theorem dX4_fewest_16 : decode cX4_fewest 16 = .ok (.bipush 6, 2) := by decide +kernel
theorem dX4_fewest_18 : decode cX4_fewest 18 = .ok (.iaload, 1) := by decide +kernel
theorem dX4_fewest_19 : decode cX4_fewest 19 = .ok (.iconst 2, 1) := by decide +kernel
theorem dX4_fewest_20 : decode cX4_fewest 20 = .ok (.if_icmp .ne 5, 3) := by decide +kernel
theorem dX4_fewest_23 : decode cX4_fewest 23 = .ok (.iconst (-1), 1) := by decide +kernel
theorem dX4_fewest_24 : decode cX4_fewest 24 = .ok (.ireturn, 1) := by decide +kernel
theorem dX4_fewest_25 : decode cX4_fewest 25 = .ok (.iconst 0, 1) := by decide +kernel
theorem dX4_fewest_26 : decode cX4_fewest 26 = .ok (.istore_n 2, 1) := by decide +kernel
theorem dX4_fewest_27 : decode cX4_fewest 27 = .ok (.aload_n 0, 1) := by decide +kernel
theorem dX4_fewest_28 : decode cX4_fewest 28 = .ok (.getfield 7, 3) := by decide +kernel
theorem dX4_fewest_31 : decode cX4_fewest 31 = .ok (.bipush 6, 2) := by decide +kernel
theorem dX4_fewest_33 : decode cX4_fewest 33 = .ok (.iaload, 1) := by decide +kernel
theorem dX4_fewest_34 : decode cX4_fewest 34 = .ok (.ifCond .ne 34, 3) := by decide +kernel
theorem dX4_fewest_37 : decode cX4_fewest 37 = .ok (.aload_n 0, 1) := by decide +kernel
theorem dX4_fewest_38 : decode cX4_fewest 38 = .ok (.invokevirtual 188, 3) := by decide +kernel
theorem dX4_fewest_41 : decode cX4_fewest 41 = .ok (.aload_n 0, 1) := by decide +kernel
theorem dX4_fewest_42 : decode cX4_fewest 42 = .ok (.getfield 31, 3) := by decide +kernel
theorem dX4_fewest_45 : decode cX4_fewest 45 = .ok (.aload_n 0, 1) := by decide +kernel
theorem dX4_fewest_46 : decode cX4_fewest 46 = .ok (.getfield 7, 3) := by decide +kernel
theorem dX4_fewest_49 : decode cX4_fewest 49 = .ok (.iconst 1, 1) := by decide +kernel
theorem dX4_fewest_50 : decode cX4_fewest 50 = .ok (.iaload, 1) := by decide +kernel
theorem dX4_fewest_51 : decode cX4_fewest 51 = .ok (.aload_n 0, 1) := by decide +kernel
theorem dX4_fewest_52 : decode cX4_fewest 52 = .ok (.getfield 7, 3) := by decide +kernel
theorem dX4_fewest_55 : decode cX4_fewest 55 = .ok (.iconst 2, 1) := by decide +kernel
theorem dX4_fewest_56 : decode cX4_fewest 56 = .ok (.iaload, 1) := by decide +kernel
theorem dX4_fewest_57 : decode cX4_fewest 57 = .ok (.aload_n 0, 1) := by decide +kernel
theorem dX4_fewest_58 : decode cX4_fewest 58 = .ok (.getfield 7, 3) := by decide +kernel
theorem dX4_fewest_61 : decode cX4_fewest 61 = .ok (.iconst 5, 1) := by decide +kernel
theorem dX4_fewest_62 : decode cX4_fewest 62 = .ok (.iaload, 1) := by decide +kernel
theorem dX4_fewest_63 : decode cX4_fewest 63 = .ok (.invokestatic 185, 3) := by decide +kernel
theorem dX4_fewest_66 : decode cX4_fewest 66 = .ok (.iaload, 1) := by decide +kernel
theorem dX4_fewest_67 : decode cX4_fewest 67 = .ok (.istore_n 2, 1) := by decide +kernel
theorem dX4_fewest_68 : decode cX4_fewest 68 = .ok (.iload_n 2, 1) := by decide +kernel
theorem dX4_fewest_69 : decode cX4_fewest 69 = .ok (.bipush 12, 2) := by decide +kernel
theorem dX4_fewest_71 : decode cX4_fewest 71 = .ok (.if_icmp .le 5, 3) := by decide +kernel
theorem dX4_fewest_74 : decode cX4_fewest 74 = .ok (.iconst (-1), 1) := by decide +kernel
theorem dX4_fewest_75 : decode cX4_fewest 75 = .ok (.ireturn, 1) := by decide +kernel
theorem dX4_fewest_76 : decode cX4_fewest 76 = .ok (.iload_n 1, 1) := by decide +kernel
theorem dX4_fewest_77 : decode cX4_fewest 77 = .ok (.iconst (-1), 1) := by decide +kernel
theorem dX4_fewest_78 : decode cX4_fewest 78 = .ok (.if_icmp .ne 5, 3) := by decide +kernel
theorem dX4_fewest_81 : decode cX4_fewest 81 = .ok (.iload_n 2, 1) := by decide +kernel
theorem dX4_fewest_82 : decode cX4_fewest 82 = .ok (.ireturn, 1) := by decide +kernel
theorem dX4_fewest_83 : decode cX4_fewest 83 = .ok (.aload_n 0, 1) := by decide +kernel
theorem dX4_fewest_84 : decode cX4_fewest 84 = .ok (.iload_n 2, 1) := by decide +kernel
theorem dX4_fewest_85 : decode cX4_fewest 85 = .ok (.invokevirtual 191, 3) := by decide +kernel
theorem dX4_fewest_88 : decode cX4_fewest 88 = .ok (.iload_n 1, 1) := by decide +kernel
theorem dX4_fewest_89 : decode cX4_fewest 89 = .ok (.iload_n 2, 1) := by decide +kernel
theorem dX4_fewest_90 : decode cX4_fewest 90 = .ok (.if_icmp .ge 12, 3) := by decide +kernel
theorem dX4_fewest_93 : decode cX4_fewest 93 = .ok (.aload_n 0, 1) := by decide +kernel
theorem dX4_fewest_94 : decode cX4_fewest 94 = .ok (.getfield 39, 3) := by decide +kernel
theorem dX4_fewest_97 : decode cX4_fewest 97 = .ok (.iload_n 1, 1) := by decide +kernel
theorem dX4_fewest_98 : decode cX4_fewest 98 = .ok (.iaload, 1) := by decide +kernel
theorem dX4_fewest_99 : decode cX4_fewest 99 = .ok (.goto 5, 3) := by decide +kernel
theorem dX4_fewest_102 : decode cX4_fewest 102 = .ok (.bipush (-5), 2) := by decide +kernel
theorem dX4_fewest_104 : decode cX4_fewest 104 = .ok (.ireturn, 1) := by decide +kernel
theorem dX4_isSaid_0 : decode cX4_isSaid 0 = .ok (.iload_n 0, 1) := by decide +kernel
theorem dX4_isSaid_1 : decode cX4_isSaid 1 = .ok (.ifCond .eq 13, 3) := by decide +kernel
theorem dX4_isSaid_4 : decode cX4_isSaid 4 = .ok (.iload_n 1, 1) := by decide +kernel
theorem dX4_isSaid_5 : decode cX4_isSaid 5 = .ok (.iconst 3, 1) := by decide +kernel
theorem dX4_isSaid_6 : decode cX4_isSaid 6 = .ok (.if_icmp .eq 12, 3) := by decide +kernel
theorem dX4_isSaid_9 : decode cX4_isSaid 9 = .ok (.iload_n 1, 1) := by decide +kernel
theorem dX4_isSaid_10 : decode cX4_isSaid 10 = .ok (.iconst 4, 1) := by decide +kernel
theorem dX4_isSaid_11 : decode cX4_isSaid 11 = .ok (.if_icmp .eq 7, 3) := by decide +kernel
theorem dX4_isSaid_14 : decode cX4_isSaid 14 = .ok (.iconst 1, 1) := by decide +kernel
theorem dX4_isSaid_15 : decode cX4_isSaid 15 = .ok (.goto 4, 3) := by decide +kernel
theorem dX4_isSaid_18 : decode cX4_isSaid 18 = .ok (.iconst 0, 1) := by decide +kernel
theorem dX4_isSaid_19 : decode cX4_isSaid 19 = .ok (.ireturn, 1) := by decide +kernel
theorem dX4_canStay_0 : decode cX4_canStay 0 = .ok (.iconst 0, 1) := by decide +kernel
theorem dX4_canStay_1 : decode cX4_canStay 1 = .ok (.istore 4, 2) := by decide +kernel
theorem dX4_canStay_3 : decode cX4_canStay 3 = .ok (.iconst 0, 1) := by decide +kernel
theorem dX4_canStay_4 : decode cX4_canStay 4 = .ok (.istore 5, 2) := by decide +kernel
theorem dX4_canStay_6 : decode cX4_canStay 6 = .ok (.iload 5, 2) := by decide +kernel
theorem dX4_canStay_8 : decode cX4_canStay 8 = .ok (.bipush 6, 2) := by decide +kernel
theorem dX4_canStay_10 : decode cX4_canStay 10 = .ok (.if_icmp .ge 80, 3) := by decide +kernel
theorem dX4_canStay_13 : decode cX4_canStay 13 = .ok (.iload 4, 2) := by decide +kernel
theorem dX4_canStay_15 : decode cX4_canStay 15 = .ok (.ifCond .ne 75, 3) := by decide +kernel
theorem dX4_canStay_18 : decode cX4_canStay 18 = .ok (.aload_n 0, 1) := by decide +kernel
theorem dX4_canStay_19 : decode cX4_canStay 19 = .ok (.iload_n 2, 1) := by decide +kernel
theorem dX4_canStay_20 : decode cX4_canStay 20 = .ok (.invokevirtual 182, 3) := by decide +kernel
theorem dX4_canStay_23 : decode cX4_canStay 23 = .ok (.aload_n 0, 1) := by decide +kernel
theorem dX4_canStay_24 : decode cX4_canStay 24 = .ok (.iload 5, 2) := by decide +kernel
theorem dX4_canStay_26 : decode cX4_canStay 26 = .ok (.iconst 1, 1) := by decide +kernel
theorem dX4_canStay_27 : decode cX4_canStay 27 = .ok (.invokevirtual 139, 3) := by decide +kernel
theorem dX4_canStay_30 : decode cX4_canStay 30 = .ok (.aload_n 0, 1) := by decide +kernel
theorem dX4_canStay_31 : decode cX4_canStay 31 = .ok (.getfield 76, 3) := by decide +kernel
theorem dX4_canStay_34 : decode cX4_canStay 34 = .ok (.ifCond .ne 47, 3) := by decide +kernel
theorem dX4_canStay_37 : decode cX4_canStay 37 = .ok (.iload_n 1, 1) := by decide +kernel
theorem dX4_canStay_38 : decode cX4_canStay 38 = .ok (.iload 5, 2) := by decide +kernel
theorem dX4_canStay_40 : decode cX4_canStay 40 = .ok (.invokestatic 194, 3) := by decide +kernel
theorem dX4_canStay_43 : decode cX4_canStay 43 = .ok (.ifCond .eq 38, 3) := by decide +kernel
theorem dX4_canStay_46 : decode cX4_canStay 46 = .ok (.aload_n 0, 1) := by decide +kernel
theorem dX4_canStay_47 : decode cX4_canStay 47 = .ok (.getfield 35, 3) := by decide +kernel
theorem dX4_canStay_50 : decode cX4_canStay 50 = .ok (.sipush 20000, 3) := by decide +kernel
theorem dX4_canStay_53 : decode cX4_canStay 53 = .ok (.iload_n 3, 1) := by decide +kernel
theorem dX4_canStay_54 : decode cX4_canStay 54 = .ok (.iconst 1, 1) := by decide +kernel
theorem dX4_canStay_55 : decode cX4_canStay 55 = .ok (.isub, 1) := by decide +kernel
theorem dX4_canStay_56 : decode cX4_canStay 56 = .ok (.imul, 1) := by decide +kernel
theorem dX4_canStay_57 : decode cX4_canStay 57 = .ok (.aload_n 0, 1) := by decide +kernel
theorem dX4_canStay_58 : decode cX4_canStay 58 = .ok (.getfield 66, 3) := by decide +kernel
theorem dX4_canStay_61 : decode cX4_canStay 61 = .ok (.aload_n 0, 1) := by decide +kernel
theorem dX4_canStay_62 : decode cX4_canStay 62 = .ok (.getfield 70, 3) := by decide +kernel
theorem dX4_canStay_65 : decode cX4_canStay 65 = .ok (.aload_n 0, 1) := by decide +kernel
theorem dX4_canStay_66 : decode cX4_canStay 66 = .ok (.getfield 73, 3) := by decide +kernel
theorem dX4_canStay_69 : decode cX4_canStay 69 = .ok (.invokestatic 185, 3) := by decide +kernel
theorem dX4_canStay_72 : decode cX4_canStay 72 = .ok (.iadd, 1) := by decide +kernel
theorem dX4_canStay_73 : decode cX4_canStay 73 = .ok (.baload, 1) := by decide +kernel
theorem dX4_canStay_74 : decode cX4_canStay 74 = .ok (.ifCond .eq 7, 3) := by decide +kernel
theorem dX4_canStay_77 : decode cX4_canStay 77 = .ok (.iconst 1, 1) := by decide +kernel
theorem dX4_canStay_78 : decode cX4_canStay 78 = .ok (.goto 4, 3) := by decide +kernel
theorem dX4_canStay_81 : decode cX4_canStay 81 = .ok (.iconst 0, 1) := by decide +kernel
theorem dX4_canStay_82 : decode cX4_canStay 82 = .ok (.istore 4, 2) := by decide +kernel
theorem dX4_canStay_84 : decode cX4_canStay 84 = .ok (.iinc 5 1, 3) := by decide +kernel
theorem dX4_canStay_87 : decode cX4_canStay 87 = .ok (.goto (-81), 3) := by decide +kernel
theorem dX4_canStay_90 : decode cX4_canStay 90 = .ok (.iload 4, 2) := by decide +kernel
theorem dX4_canStay_92 : decode cX4_canStay 92 = .ok (.ireturn, 1) := by decide +kernel
theorem dX4_findStays_0 : decode cX4_findStays 0 = .ok (.iconst 0, 1) := by decide +kernel
theorem dX4_findStays_1 : decode cX4_findStays 1 = .ok (.istore_n 2, 1) := by decide +kernel
theorem dX4_findStays_2 : decode cX4_findStays 2 = .ok (.iload_n 2, 1) := by decide +kernel
theorem dX4_findStays_3 : decode cX4_findStays 3 = .ok (.sipush 20000, 3) := by decide +kernel
theorem dX4_findStays_6 : decode cX4_findStays 6 = .ok (.if_icmp .ge 16, 3) := by decide +kernel
theorem dX4_findStays_9 : decode cX4_findStays 9 = .ok (.aload_n 0, 1) := by decide +kernel
theorem dX4_findStays_10 : decode cX4_findStays 10 = .ok (.getfield 35, 3) := by decide +kernel
theorem dX4_findStays_13 : decode cX4_findStays 13 = .ok (.iload_n 2, 1) := by decide +kernel
theorem dX4_findStays_14 : decode cX4_findStays 14 = .ok (.iconst 1, 1) := by decide +kernel
theorem dX4_findStays_15 : decode cX4_findStays 15 = .ok (.bastore, 1) := by decide +kernel
theorem dX4_findStays_16 : decode cX4_findStays 16 = .ok (.iinc 2 1, 3) := by decide +kernel
theorem dX4_findStays_19 : decode cX4_findStays 19 = .ok (.goto (-17), 3) := by decide +kernel
theorem dX4_findStays_22 : decode cX4_findStays 22 = .ok (.iconst 1, 1) := by decide +kernel
theorem dX4_findStays_23 : decode cX4_findStays 23 = .ok (.istore_n 2, 1) := by decide +kernel
theorem dX4_findStays_24 : decode cX4_findStays 24 = .ok (.iload_n 2, 1) := by decide +kernel
theorem dX4_findStays_25 : decode cX4_findStays 25 = .ok (.bipush 12, 2) := by decide +kernel
theorem dX4_findStays_27 : decode cX4_findStays 27 = .ok (.if_icmp .gt 43, 3) := by decide +kernel
theorem dX4_findStays_30 : decode cX4_findStays 30 = .ok (.iconst 0, 1) := by decide +kernel
theorem dX4_findStays_31 : decode cX4_findStays 31 = .ok (.istore_n 3, 1) := by decide +kernel
theorem dX4_findStays_32 : decode cX4_findStays 32 = .ok (.iload_n 3, 1) := by decide +kernel
theorem dX4_findStays_33 : decode cX4_findStays 33 = .ok (.sipush 20000, 3) := by decide +kernel
theorem dX4_findStays_36 : decode cX4_findStays 36 = .ok (.if_icmp .ge 28, 3) := by decide +kernel
theorem dX4_findStays_39 : decode cX4_findStays 39 = .ok (.aload_n 0, 1) := by decide +kernel
theorem dX4_findStays_40 : decode cX4_findStays 40 = .ok (.getfield 35, 3) := by decide +kernel
theorem dX4_findStays_43 : decode cX4_findStays 43 = .ok (.sipush 20000, 3) := by decide +kernel
theorem dX4_findStays_46 : decode cX4_findStays 46 = .ok (.iload_n 2, 1) := by decide +kernel
theorem dX4_findStays_47 : decode cX4_findStays 47 = .ok (.imul, 1) := by decide +kernel
theorem dX4_findStays_48 : decode cX4_findStays 48 = .ok (.iload_n 3, 1) := by decide +kernel
theorem dX4_findStays_49 : decode cX4_findStays 49 = .ok (.iadd, 1) := by decide +kernel
theorem dX4_findStays_50 : decode cX4_findStays 50 = .ok (.aload_n 0, 1) := by decide +kernel
theorem dX4_findStays_51 : decode cX4_findStays 51 = .ok (.iload_n 1, 1) := by decide +kernel
theorem dX4_findStays_52 : decode cX4_findStays 52 = .ok (.iload_n 3, 1) := by decide +kernel
theorem dX4_findStays_53 : decode cX4_findStays 53 = .ok (.iload_n 2, 1) := by decide +kernel
theorem dX4_findStays_54 : decode cX4_findStays 54 = .ok (.invokevirtual 197, 3) := by decide +kernel
theorem dX4_findStays_57 : decode cX4_findStays 57 = .ok (.bastore, 1) := by decide +kernel
theorem dX4_findStays_58 : decode cX4_findStays 58 = .ok (.iinc 3 1, 3) := by decide +kernel
theorem dX4_findStays_61 : decode cX4_findStays 61 = .ok (.goto (-29), 3) := by decide +kernel
theorem dX4_findStays_64 : decode cX4_findStays 64 = .ok (.iinc 2 1, 3) := by decide +kernel
theorem dX4_findStays_67 : decode cX4_findStays 67 = .ok (.goto (-43), 3) := by decide +kernel
theorem dX4_findStays_70 : decode cX4_findStays 70 = .ok (.return_, 1) := by decide +kernel
theorem dX4_longestStay_0 : decode cX4_longestStay 0 = .ok (.aload_n 0, 1) := by decide +kernel
theorem dX4_longestStay_1 : decode cX4_longestStay 1 = .ok (.getfield 7, 3) := by decide +kernel
theorem dX4_longestStay_4 : decode cX4_longestStay 4 = .ok (.iconst 1, 1) := by decide +kernel
theorem dX4_longestStay_5 : decode cX4_longestStay 5 = .ok (.iaload, 1) := by decide +kernel
theorem dX4_longestStay_6 : decode cX4_longestStay 6 = .ok (.aload_n 0, 1) := by decide +kernel
theorem dX4_longestStay_7 : decode cX4_longestStay 7 = .ok (.getfield 7, 3) := by decide +kernel
theorem dX4_longestStay_10 : decode cX4_longestStay 10 = .ok (.iconst 2, 1) := by decide +kernel
theorem dX4_longestStay_11 : decode cX4_longestStay 11 = .ok (.iaload, 1) := by decide +kernel
theorem dX4_longestStay_12 : decode cX4_longestStay 12 = .ok (.aload_n 0, 1) := by decide +kernel
theorem dX4_longestStay_13 : decode cX4_longestStay 13 = .ok (.getfield 7, 3) := by decide +kernel
theorem dX4_longestStay_16 : decode cX4_longestStay 16 = .ok (.iconst 5, 1) := by decide +kernel
theorem dX4_longestStay_17 : decode cX4_longestStay 17 = .ok (.iaload, 1) := by decide +kernel
theorem dX4_longestStay_18 : decode cX4_longestStay 18 = .ok (.invokestatic 185, 3) := by decide +kernel
theorem dX4_longestStay_21 : decode cX4_longestStay 21 = .ok (.istore_n 1, 1) := by decide +kernel
theorem dX4_longestStay_22 : decode cX4_longestStay 22 = .ok (.iconst 0, 1) := by decide +kernel
theorem dX4_longestStay_23 : decode cX4_longestStay 23 = .ok (.istore_n 2, 1) := by decide +kernel
theorem dX4_longestStay_24 : decode cX4_longestStay 24 = .ok (.iconst 1, 1) := by decide +kernel
theorem dX4_longestStay_25 : decode cX4_longestStay 25 = .ok (.istore_n 3, 1) := by decide +kernel
theorem dX4_longestStay_26 : decode cX4_longestStay 26 = .ok (.iload_n 3, 1) := by decide +kernel
theorem dX4_longestStay_27 : decode cX4_longestStay 27 = .ok (.bipush 12, 2) := by decide +kernel
theorem dX4_longestStay_29 : decode cX4_longestStay 29 = .ok (.if_icmp .gt 30, 3) := by decide +kernel
theorem dX4_longestStay_32 : decode cX4_longestStay 32 = .ok (.aload_n 0, 1) := by decide +kernel
theorem dX4_longestStay_33 : decode cX4_longestStay 33 = .ok (.getfield 35, 3) := by decide +kernel
theorem dX4_longestStay_36 : decode cX4_longestStay 36 = .ok (.sipush 20000, 3) := by decide +kernel
theorem dX4_longestStay_39 : decode cX4_longestStay 39 = .ok (.iload_n 3, 1) := by decide +kernel
theorem dX4_longestStay_40 : decode cX4_longestStay 40 = .ok (.imul, 1) := by decide +kernel
theorem dX4_longestStay_41 : decode cX4_longestStay 41 = .ok (.iload_n 1, 1) := by decide +kernel
theorem dX4_longestStay_42 : decode cX4_longestStay 42 = .ok (.iadd, 1) := by decide +kernel
theorem dX4_longestStay_43 : decode cX4_longestStay 43 = .ok (.baload, 1) := by decide +kernel
theorem dX4_longestStay_44 : decode cX4_longestStay 44 = .ok (.ifCond .eq 7, 3) := by decide +kernel
theorem dX4_longestStay_47 : decode cX4_longestStay 47 = .ok (.iload_n 3, 1) := by decide +kernel
theorem dX4_longestStay_48 : decode cX4_longestStay 48 = .ok (.goto 4, 3) := by decide +kernel
theorem dX4_longestStay_51 : decode cX4_longestStay 51 = .ok (.iload_n 2, 1) := by decide +kernel
theorem dX4_longestStay_52 : decode cX4_longestStay 52 = .ok (.istore_n 2, 1) := by decide +kernel
theorem dX4_longestStay_53 : decode cX4_longestStay 53 = .ok (.iinc 3 1, 3) := by decide +kernel
theorem dX4_longestStay_56 : decode cX4_longestStay 56 = .ok (.goto (-30), 3) := by decide +kernel
theorem dX4_longestStay_59 : decode cX4_longestStay 59 = .ok (.iload_n 2, 1) := by decide +kernel
theorem dX4_longestStay_60 : decode cX4_longestStay 60 = .ok (.ireturn, 1) := by decide +kernel
theorem dX4_walkOut_0 : decode cX4_walkOut 0 = .ok (.aload_n 0, 1) := by decide +kernel
theorem dX4_walkOut_1 : decode cX4_walkOut 1 = .ok (.invokevirtual 136, 3) := by decide +kernel
theorem dX4_walkOut_4 : decode cX4_walkOut 4 = .ok (.iconst 0, 1) := by decide +kernel
theorem dX4_walkOut_5 : decode cX4_walkOut 5 = .ok (.istore_n 3, 1) := by decide +kernel
theorem dX4_walkOut_6 : decode cX4_walkOut 6 = .ok (.iload_n 3, 1) := by decide +kernel
theorem dX4_walkOut_7 : decode cX4_walkOut 7 = .ok (.iload_n 2, 1) := by decide +kernel
theorem dX4_walkOut_8 : decode cX4_walkOut 8 = .ok (.if_icmp .ge 140, 3) := by decide +kernel
theorem dX4_walkOut_11 : decode cX4_walkOut 11 = .ok (.aload_n 0, 1) := by decide +kernel
theorem dX4_walkOut_12 : decode cX4_walkOut 12 = .ok (.getfield 66, 3) := by decide +kernel
theorem dX4_walkOut_15 : decode cX4_walkOut 15 = .ok (.istore 4, 2) := by decide +kernel
theorem dX4_walkOut_17 : decode cX4_walkOut 17 = .ok (.aload_n 0, 1) := by decide +kernel
theorem dX4_walkOut_18 : decode cX4_walkOut 18 = .ok (.getfield 70, 3) := by decide +kernel
theorem dX4_walkOut_21 : decode cX4_walkOut 21 = .ok (.istore 5, 2) := by decide +kernel
theorem dX4_walkOut_23 : decode cX4_walkOut 23 = .ok (.aload_n 0, 1) := by decide +kernel
theorem dX4_walkOut_24 : decode cX4_walkOut 24 = .ok (.getfield 73, 3) := by decide +kernel
theorem dX4_walkOut_27 : decode cX4_walkOut 27 = .ok (.istore 6, 2) := by decide +kernel
theorem dX4_walkOut_29 : decode cX4_walkOut 29 = .ok (.iconst 0, 1) := by decide +kernel
theorem dX4_walkOut_30 : decode cX4_walkOut 30 = .ok (.istore 7, 2) := by decide +kernel
theorem dX4_walkOut_32 : decode cX4_walkOut 32 = .ok (.iconst 0, 1) := by decide +kernel
theorem dX4_walkOut_33 : decode cX4_walkOut 33 = .ok (.istore 8, 2) := by decide +kernel
theorem dX4_walkOut_35 : decode cX4_walkOut 35 = .ok (.iload 8, 2) := by decide +kernel
theorem dX4_walkOut_37 : decode cX4_walkOut 37 = .ok (.bipush 6, 2) := by decide +kernel
theorem dX4_walkOut_39 : decode cX4_walkOut 39 = .ok (.if_icmp .ge 103, 3) := by decide +kernel
theorem dX4_walkOut_42 : decode cX4_walkOut 42 = .ok (.iload 7, 2) := by decide +kernel
theorem dX4_walkOut_44 : decode cX4_walkOut 44 = .ok (.ifCond .ne 98, 3) := by decide +kernel
theorem dX4_walkOut_47 : decode cX4_walkOut 47 = .ok (.aload_n 0, 1) := by decide +kernel
theorem dX4_walkOut_48 : decode cX4_walkOut 48 = .ok (.iload 4, 2) := by decide +kernel
theorem dX4_walkOut_50 : decode cX4_walkOut 50 = .ok (.putfield 66, 3) := by decide +kernel
theorem dX4_walkOut_53 : decode cX4_walkOut 53 = .ok (.aload_n 0, 1) := by decide +kernel
theorem dX4_walkOut_54 : decode cX4_walkOut 54 = .ok (.iload 5, 2) := by decide +kernel
theorem dX4_walkOut_56 : decode cX4_walkOut 56 = .ok (.putfield 70, 3) := by decide +kernel
theorem dX4_walkOut_59 : decode cX4_walkOut 59 = .ok (.aload_n 0, 1) := by decide +kernel
theorem dX4_walkOut_60 : decode cX4_walkOut 60 = .ok (.iload 6, 2) := by decide +kernel
theorem dX4_walkOut_62 : decode cX4_walkOut 62 = .ok (.putfield 73, 3) := by decide +kernel
theorem dX4_walkOut_65 : decode cX4_walkOut 65 = .ok (.aload_n 0, 1) := by decide +kernel
theorem dX4_walkOut_66 : decode cX4_walkOut 66 = .ok (.iload 8, 2) := by decide +kernel
theorem dX4_walkOut_68 : decode cX4_walkOut 68 = .ok (.iconst 1, 1) := by decide +kernel
theorem dX4_walkOut_69 : decode cX4_walkOut 69 = .ok (.invokevirtual 139, 3) := by decide +kernel
theorem dX4_walkOut_72 : decode cX4_walkOut 72 = .ok (.aload_n 0, 1) := by decide +kernel
theorem dX4_walkOut_73 : decode cX4_walkOut 73 = .ok (.getfield 39, 3) := by decide +kernel
theorem dX4_walkOut_76 : decode cX4_walkOut 76 = .ok (.iload_n 3, 1) := by decide +kernel
theorem dX4_walkOut_77 : decode cX4_walkOut 77 = .ok (.iload 8, 2) := by decide +kernel
theorem dX4_walkOut_79 : decode cX4_walkOut 79 = .ok (.iastore, 1) := by decide +kernel
theorem dX4_walkOut_80 : decode cX4_walkOut 80 = .ok (.iload_n 1, 1) := by decide +kernel
theorem dX4_walkOut_81 : decode cX4_walkOut 81 = .ok (.iload 8, 2) := by decide +kernel
theorem dX4_walkOut_83 : decode cX4_walkOut 83 = .ok (.invokestatic 194, 3) := by decide +kernel
theorem dX4_walkOut_86 : decode cX4_walkOut 86 = .ok (.ifCond .eq 47, 3) := by decide +kernel
theorem dX4_walkOut_89 : decode cX4_walkOut 89 = .ok (.aload_n 0, 1) := by decide +kernel
theorem dX4_walkOut_90 : decode cX4_walkOut 90 = .ok (.getfield 76, 3) := by decide +kernel
theorem dX4_walkOut_93 : decode cX4_walkOut 93 = .ok (.ifCond .ne 40, 3) := by decide +kernel
theorem dX4_walkOut_96 : decode cX4_walkOut 96 = .ok (.aload_n 0, 1) := by decide +kernel
theorem dX4_walkOut_97 : decode cX4_walkOut 97 = .ok (.getfield 35, 3) := by decide +kernel
theorem dX4_walkOut_100 : decode cX4_walkOut 100 = .ok (.sipush 20000, 3) := by decide +kernel
theorem dX4_walkOut_103 : decode cX4_walkOut 103 = .ok (.iload_n 2, 1) := by decide +kernel
theorem dX4_walkOut_104 : decode cX4_walkOut 104 = .ok (.iconst 1, 1) := by decide +kernel
theorem dX4_walkOut_105 : decode cX4_walkOut 105 = .ok (.isub, 1) := by decide +kernel
theorem dX4_walkOut_106 : decode cX4_walkOut 106 = .ok (.iload_n 3, 1) := by decide +kernel
theorem dX4_walkOut_107 : decode cX4_walkOut 107 = .ok (.isub, 1) := by decide +kernel
theorem dX4_walkOut_108 : decode cX4_walkOut 108 = .ok (.imul, 1) := by decide +kernel
theorem dX4_walkOut_109 : decode cX4_walkOut 109 = .ok (.aload_n 0, 1) := by decide +kernel
theorem dX4_walkOut_110 : decode cX4_walkOut 110 = .ok (.getfield 66, 3) := by decide +kernel
theorem dX4_walkOut_113 : decode cX4_walkOut 113 = .ok (.aload_n 0, 1) := by decide +kernel
theorem dX4_walkOut_114 : decode cX4_walkOut 114 = .ok (.getfield 70, 3) := by decide +kernel
theorem dX4_walkOut_117 : decode cX4_walkOut 117 = .ok (.aload_n 0, 1) := by decide +kernel
theorem dX4_walkOut_118 : decode cX4_walkOut 118 = .ok (.getfield 73, 3) := by decide +kernel
theorem dX4_walkOut_121 : decode cX4_walkOut 121 = .ok (.invokestatic 185, 3) := by decide +kernel
theorem dX4_walkOut_124 : decode cX4_walkOut 124 = .ok (.iadd, 1) := by decide +kernel
theorem dX4_walkOut_125 : decode cX4_walkOut 125 = .ok (.baload, 1) := by decide +kernel
theorem dX4_walkOut_126 : decode cX4_walkOut 126 = .ok (.ifCond .eq 7, 3) := by decide +kernel
theorem dX4_walkOut_129 : decode cX4_walkOut 129 = .ok (.iconst 1, 1) := by decide +kernel
theorem dX4_walkOut_130 : decode cX4_walkOut 130 = .ok (.goto 4, 3) := by decide +kernel
theorem dX4_walkOut_133 : decode cX4_walkOut 133 = .ok (.iconst 0, 1) := by decide +kernel
theorem dX4_walkOut_134 : decode cX4_walkOut 134 = .ok (.istore 7, 2) := by decide +kernel
theorem dX4_walkOut_136 : decode cX4_walkOut 136 = .ok (.iinc 8 1, 3) := by decide +kernel
theorem dX4_walkOut_139 : decode cX4_walkOut 139 = .ok (.goto (-104), 3) := by decide +kernel
theorem dX4_walkOut_142 : decode cX4_walkOut 142 = .ok (.iinc 3 1, 3) := by decide +kernel
theorem dX4_walkOut_145 : decode cX4_walkOut 145 = .ok (.goto (-139), 3) := by decide +kernel
theorem dX4_walkOut_148 : decode cX4_walkOut 148 = .ok (.return_, 1) := by decide +kernel
theorem dX4_delay_0 : decode cX4_delay 0 = .ok (.iload_n 1, 1) := by decide +kernel
theorem dX4_delay_1 : decode cX4_delay 1 = .ok (.i2l, 1) := by decide +kernel
theorem dX4_delay_2 : decode cX4_delay 2 = .ok (.lconst 0, 1) := by decide +kernel
theorem dX4_delay_3 : decode cX4_delay 3 = .ok (.lconst 1, 1) := by decide +kernel
theorem dX4_delay_4 : decode cX4_delay 4 = .ok (.invokestatic 58, 3) := by decide +kernel
theorem dX4_delay_7 : decode cX4_delay 7 = .ok (.ifCond .eq 8, 3) := by decide +kernel
theorem dX4_delay_10 : decode cX4_delay 10 = .ok (.iload_n 2, 1) := by decide +kernel
theorem dX4_delay_11 : decode cX4_delay 11 = .ok (.iconst (-1), 1) := by decide +kernel
theorem dX4_delay_12 : decode cX4_delay 12 = .ok (.if_icmp .ge 10, 3) := by decide +kernel
theorem dX4_delay_15 : decode cX4_delay 15 = .ok (.aload_n 0, 1) := by decide +kernel
theorem dX4_delay_16 : decode cX4_delay 16 = .ok (.bipush (-10), 2) := by decide +kernel
theorem dX4_delay_18 : decode cX4_delay 18 = .ok (.invokevirtual 62, 3) := by decide +kernel
theorem dX4_delay_21 : decode cX4_delay 21 = .ok (.ireturn, 1) := by decide +kernel
theorem dX4_delay_22 : decode cX4_delay 22 = .ok (.iconst 0, 1) := by decide +kernel
theorem dX4_delay_23 : decode cX4_delay 23 = .ok (.istore_n 3, 1) := by decide +kernel
theorem dX4_delay_24 : decode cX4_delay 24 = .ok (.aload_n 0, 1) := by decide +kernel
theorem dX4_delay_25 : decode cX4_delay 25 = .ok (.getfield 7, 3) := by decide +kernel
theorem dX4_delay_28 : decode cX4_delay 28 = .ok (.bipush 6, 2) := by decide +kernel
theorem dX4_delay_30 : decode cX4_delay 30 = .ok (.iaload, 1) := by decide +kernel
theorem dX4_delay_31 : decode cX4_delay 31 = .ok (.ifCond .ne 13, 3) := by decide +kernel
theorem dX4_delay_34 : decode cX4_delay 34 = .ok (.aload_n 0, 1) := by decide +kernel
theorem dX4_delay_35 : decode cX4_delay 35 = .ok (.iload_n 1, 1) := by decide +kernel
theorem dX4_delay_36 : decode cX4_delay 36 = .ok (.invokevirtual 201, 3) := by decide +kernel
theorem dX4_delay_39 : decode cX4_delay 39 = .ok (.aload_n 0, 1) := by decide +kernel
theorem dX4_delay_40 : decode cX4_delay 40 = .ok (.invokevirtual 204, 3) := by decide +kernel
theorem dX4_delay_43 : decode cX4_delay 43 = .ok (.istore_n 3, 1) := by decide +kernel
theorem dX4_delay_44 : decode cX4_delay 44 = .ok (.iload_n 2, 1) := by decide +kernel
theorem dX4_delay_45 : decode cX4_delay 45 = .ok (.iconst (-1), 1) := by decide +kernel
theorem dX4_delay_46 : decode cX4_delay 46 = .ok (.if_icmp .ne 5, 3) := by decide +kernel
theorem dX4_delay_49 : decode cX4_delay 49 = .ok (.iload_n 3, 1) := by decide +kernel
theorem dX4_delay_50 : decode cX4_delay 50 = .ok (.ireturn, 1) := by decide +kernel
theorem dX4_delay_51 : decode cX4_delay 51 = .ok (.iload_n 2, 1) := by decide +kernel
theorem dX4_delay_52 : decode cX4_delay 52 = .ok (.iload_n 3, 1) := by decide +kernel
theorem dX4_delay_53 : decode cX4_delay 53 = .ok (.if_icmp .lt 6, 3) := by decide +kernel
theorem dX4_delay_56 : decode cX4_delay 56 = .ok (.bipush (-5), 2) := by decide +kernel
theorem dX4_delay_58 : decode cX4_delay 58 = .ok (.ireturn, 1) := by decide +kernel
theorem dX4_delay_59 : decode cX4_delay 59 = .ok (.aload_n 0, 1) := by decide +kernel
theorem dX4_delay_60 : decode cX4_delay 60 = .ok (.iload_n 1, 1) := by decide +kernel
theorem dX4_delay_61 : decode cX4_delay 61 = .ok (.iload_n 3, 1) := by decide +kernel
theorem dX4_delay_62 : decode cX4_delay 62 = .ok (.invokevirtual 207, 3) := by decide +kernel
theorem dX4_delay_65 : decode cX4_delay 65 = .ok (.aload_n 0, 1) := by decide +kernel
theorem dX4_delay_66 : decode cX4_delay 66 = .ok (.getfield 39, 3) := by decide +kernel
theorem dX4_delay_69 : decode cX4_delay 69 = .ok (.iload_n 2, 1) := by decide +kernel
theorem dX4_delay_70 : decode cX4_delay 70 = .ok (.iaload, 1) := by decide +kernel
theorem dX4_delay_71 : decode cX4_delay 71 = .ok (.ireturn, 1) := by decide +kernel
theorem dX4_strikes_0 : decode cX4_strikes 0 = .ok (.iload_n 1, 1) := by decide +kernel
theorem dX4_strikes_1 : decode cX4_strikes 1 = .ok (.i2l, 1) := by decide +kernel
theorem dX4_strikes_2 : decode cX4_strikes 2 = .ok (.lconst 0, 1) := by decide +kernel
theorem dX4_strikes_3 : decode cX4_strikes 3 = .ok (.ldc2_w 89, 3) := by decide +kernel
theorem dX4_strikes_6 : decode cX4_strikes 6 = .ok (.invokestatic 58, 3) := by decide +kernel
theorem dX4_strikes_9 : decode cX4_strikes 9 = .ok (.ifCond .ne 10, 3) := by decide +kernel
theorem dX4_strikes_12 : decode cX4_strikes 12 = .ok (.aload_n 0, 1) := by decide +kernel
theorem dX4_strikes_13 : decode cX4_strikes 13 = .ok (.bipush (-2), 2) := by decide +kernel
theorem dX4_strikes_15 : decode cX4_strikes 15 = .ok (.invokevirtual 91, 3) := by decide +kernel
theorem dX4_strikes_18 : decode cX4_strikes 18 = .ok (.ireturn, 1) := by decide +kernel
theorem dX4_strikes_19 : decode cX4_strikes 19 = .ok (.aload_n 0, 1) := by decide +kernel
theorem dX4_strikes_20 : decode cX4_strikes 20 = .ok (.invokevirtual 136, 3) := by decide +kernel
theorem dX4_strikes_23 : decode cX4_strikes 23 = .ok (.iconst 1, 1) := by decide +kernel
theorem dX4_strikes_24 : decode cX4_strikes 24 = .ok (.istore_n 2, 1) := by decide +kernel
theorem dX4_strikes_25 : decode cX4_strikes 25 = .ok (.iload_n 2, 1) := by decide +kernel
theorem dX4_strikes_26 : decode cX4_strikes 26 = .ok (.bipush 61, 2) := by decide +kernel
theorem dX4_strikes_28 : decode cX4_strikes 28 = .ok (.if_icmp .ge 32, 3) := by decide +kernel
theorem dX4_strikes_31 : decode cX4_strikes 31 = .ok (.aload_n 0, 1) := by decide +kernel
theorem dX4_strikes_32 : decode cX4_strikes 32 = .ok (.getfield 76, 3) := by decide +kernel
theorem dX4_strikes_35 : decode cX4_strikes 35 = .ok (.ifCond .ne 25, 3) := by decide +kernel
theorem dX4_strikes_38 : decode cX4_strikes 38 = .ok (.aload_n 0, 1) := by decide +kernel
theorem dX4_strikes_39 : decode cX4_strikes 39 = .ok (.iload_n 1, 1) := by decide +kernel
theorem dX4_strikes_40 : decode cX4_strikes 40 = .ok (.iconst 1, 1) := by decide +kernel
theorem dX4_strikes_41 : decode cX4_strikes 41 = .ok (.invokevirtual 139, 3) := by decide +kernel
theorem dX4_strikes_44 : decode cX4_strikes 44 = .ok (.aload_n 0, 1) := by decide +kernel
theorem dX4_strikes_45 : decode cX4_strikes 45 = .ok (.getfield 76, 3) := by decide +kernel
theorem dX4_strikes_48 : decode cX4_strikes 48 = .ok (.iconst 2, 1) := by decide +kernel
theorem dX4_strikes_49 : decode cX4_strikes 49 = .ok (.if_icmp .ne 5, 3) := by decide +kernel
theorem dX4_strikes_52 : decode cX4_strikes 52 = .ok (.iload_n 2, 1) := by decide +kernel
theorem dX4_strikes_53 : decode cX4_strikes 53 = .ok (.ireturn, 1) := by decide +kernel
theorem dX4_strikes_54 : decode cX4_strikes 54 = .ok (.iinc 2 1, 3) := by decide +kernel
theorem dX4_strikes_57 : decode cX4_strikes 57 = .ok (.goto (-32), 3) := by decide +kernel
theorem dX4_strikes_60 : decode cX4_strikes 60 = .ok (.iconst (-1), 1) := by decide +kernel
theorem dX4_strikes_61 : decode cX4_strikes 61 = .ok (.ireturn, 1) := by decide +kernel
theorem dX4_since_0 : decode cX4_since 0 = .ok (.iload_n 1, 1) := by decide +kernel
theorem dX4_since_1 : decode cX4_since 1 = .ok (.i2l, 1) := by decide +kernel
theorem dX4_since_2 : decode cX4_since 2 = .ok (.lconst 0, 1) := by decide +kernel
theorem dX4_since_3 : decode cX4_since 3 = .ok (.ldc2_w 98, 3) := by decide +kernel
theorem dX4_since_6 : decode cX4_since 6 = .ok (.invokestatic 58, 3) := by decide +kernel
theorem dX4_since_9 : decode cX4_since 9 = .ok (.ifCond .ne 10, 3) := by decide +kernel
theorem dX4_since_12 : decode cX4_since 12 = .ok (.aload_n 0, 1) := by decide +kernel
theorem dX4_since_13 : decode cX4_since 13 = .ok (.bipush (-2), 2) := by decide +kernel
theorem dX4_since_15 : decode cX4_since 15 = .ok (.invokevirtual 91, 3) := by decide +kernel
theorem dX4_since_18 : decode cX4_since 18 = .ok (.ireturn, 1) := by decide +kernel
theorem dX4_since_19 : decode cX4_since 19 = .ok (.iconst 0, 1) := by decide +kernel
theorem dX4_since_20 : decode cX4_since 20 = .ok (.istore_n 2, 1) := by decide +kernel
theorem dX4_since_21 : decode cX4_since 21 = .ok (.iconst 0, 1) := by decide +kernel
theorem dX4_since_22 : decode cX4_since 22 = .ok (.istore_n 3, 1) := by decide +kernel
theorem dX4_since_23 : decode cX4_since 23 = .ok (.iload_n 3, 1) := by decide +kernel
theorem dX4_since_24 : decode cX4_since 24 = .ok (.bipush 8, 2) := by decide +kernel
theorem dX4_since_26 : decode cX4_since 26 = .ok (.if_icmp .ge 32, 3) := by decide +kernel
theorem dX4_since_29 : decode cX4_since 29 = .ok (.iload_n 2, 1) := by decide +kernel
theorem dX4_since_30 : decode cX4_since 30 = .ok (.aload_n 0, 1) := by decide +kernel
theorem dX4_since_31 : decode cX4_since 31 = .ok (.getfield 7, 3) := by decide +kernel
theorem dX4_since_34 : decode cX4_since 34 = .ok (.bipush 7, 2) := by decide +kernel
theorem dX4_since_36 : decode cX4_since 36 = .ok (.iload_n 3, 1) := by decide +kernel
theorem dX4_since_37 : decode cX4_since 37 = .ok (.iadd, 1) := by decide +kernel
theorem dX4_since_38 : decode cX4_since 38 = .ok (.iaload, 1) := by decide +kernel
theorem dX4_since_39 : decode cX4_since 39 = .ok (.iload_n 1, 1) := by decide +kernel
theorem dX4_since_40 : decode cX4_since 40 = .ok (.if_icmp .ne 9, 3) := by decide +kernel
theorem dX4_since_43 : decode cX4_since 43 = .ok (.iconst 1, 1) := by decide +kernel
theorem dX4_since_44 : decode cX4_since 44 = .ok (.iload_n 3, 1) := by decide +kernel
theorem dX4_since_45 : decode cX4_since 45 = .ok (.ishl, 1) := by decide +kernel
theorem dX4_since_46 : decode cX4_since 46 = .ok (.goto 4, 3) := by decide +kernel
theorem dX4_since_49 : decode cX4_since 49 = .ok (.iconst 0, 1) := by decide +kernel
theorem dX4_since_50 : decode cX4_since 50 = .ok (.ior, 1) := by decide +kernel
theorem dX4_since_51 : decode cX4_since 51 = .ok (.istore_n 2, 1) := by decide +kernel
theorem dX4_since_52 : decode cX4_since 52 = .ok (.iinc 3 1, 3) := by decide +kernel
theorem dX4_since_55 : decode cX4_since 55 = .ok (.goto (-32), 3) := by decide +kernel
theorem dX4_since_58 : decode cX4_since 58 = .ok (.iload_n 2, 1) := by decide +kernel
theorem dX4_since_59 : decode cX4_since 59 = .ok (.ireturn, 1) := by decide +kernel
theorem dX4_cast_0 : decode cX4_cast 0 = .ok (.iload_n 1, 1) := by decide +kernel
theorem dX4_cast_1 : decode cX4_cast 1 = .ok (.i2l, 1) := by decide +kernel
theorem dX4_cast_2 : decode cX4_cast 2 = .ok (.lconst 0, 1) := by decide +kernel
theorem dX4_cast_3 : decode cX4_cast 3 = .ok (.ldc2_w 98, 3) := by decide +kernel
theorem dX4_cast_6 : decode cX4_cast 6 = .ok (.invokestatic 58, 3) := by decide +kernel
theorem dX4_cast_9 : decode cX4_cast 9 = .ok (.ifCond .ne 10, 3) := by decide +kernel
end
section
theorem dX4_cast_12 : decode cX4_cast 12 = .ok (.aload_n 0, 1) := by decide +kernel
theorem dX4_cast_13 : decode cX4_cast 13 = .ok (.bipush (-2), 2) := by decide +kernel
theorem dX4_cast_15 : decode cX4_cast 15 = .ok (.invokevirtual 91, 3) := by decide +kernel
theorem dX4_cast_18 : decode cX4_cast 18 = .ok (.ireturn, 1) := by decide +kernel
theorem dX4_cast_19 : decode cX4_cast 19 = .ok (.bipush 8, 2) := by decide +kernel
theorem dX4_cast_21 : decode cX4_cast 21 = .ok (.istore_n 2, 1) := by decide +kernel
theorem dX4_cast_22 : decode cX4_cast 22 = .ok (.iload_n 2, 1) := by decide +kernel
theorem dX4_cast_23 : decode cX4_cast 23 = .ok (.ifCond .le 24, 3) := by decide +kernel
theorem dX4_cast_26 : decode cX4_cast 26 = .ok (.aload_n 0, 1) := by decide +kernel
theorem dX4_cast_27 : decode cX4_cast 27 = .ok (.getfield 7, 3) := by decide +kernel
theorem dX4_cast_30 : decode cX4_cast 30 = .ok (.bipush 7, 2) := by decide +kernel
theorem dX4_cast_32 : decode cX4_cast 32 = .ok (.iload_n 2, 1) := by decide +kernel
theorem dX4_cast_33 : decode cX4_cast 33 = .ok (.iadd, 1) := by decide +kernel
theorem dX4_cast_34 : decode cX4_cast 34 = .ok (.iconst 1, 1) := by decide +kernel
theorem dX4_cast_35 : decode cX4_cast 35 = .ok (.isub, 1) := by decide +kernel
theorem dX4_cast_36 : decode cX4_cast 36 = .ok (.iaload, 1) := by decide +kernel
theorem dX4_cast_37 : decode cX4_cast 37 = .ok (.iload_n 1, 1) := by decide +kernel
theorem dX4_cast_38 : decode cX4_cast 38 = .ok (.if_icmp .lt 9, 3) := by decide +kernel
theorem dX4_cast_41 : decode cX4_cast 41 = .ok (.iinc 2 (-1), 3) := by decide +kernel
theorem dX4_cast_44 : decode cX4_cast 44 = .ok (.goto (-22), 3) := by decide +kernel
theorem dX4_cast_47 : decode cX4_cast 47 = .ok (.iload_n 2, 1) := by decide +kernel
theorem dX4_cast_48 : decode cX4_cast 48 = .ok (.bipush 8, 2) := by decide +kernel
theorem dX4_cast_50 : decode cX4_cast 50 = .ok (.if_icmp .ge 7, 3) := by decide +kernel
theorem dX4_cast_53 : decode cX4_cast 53 = .ok (.iload_n 2, 1) := by decide +kernel
theorem dX4_cast_54 : decode cX4_cast 54 = .ok (.goto 4, 3) := by decide +kernel
theorem dX4_cast_57 : decode cX4_cast 57 = .ok (.iconst (-1), 1) := by decide +kernel
theorem dX4_cast_58 : decode cX4_cast 58 = .ok (.ireturn, 1) := by decide +kernel
theorem dX4_common_0 : decode cX4_common 0 = .ok (.lload_n 0, 1) := by decide +kernel
theorem dX4_common_1 : decode cX4_common 1 = .ok (.lconst 0, 1) := by decide +kernel
theorem dX4_common_2 : decode cX4_common 2 = .ok (.lcmp, 1) := by decide +kernel
theorem dX4_common_3 : decode cX4_common 3 = .ok (.ifCond .ge 8, 3) := by decide +kernel
theorem dX4_common_6 : decode cX4_common 6 = .ok (.lload_n 0, 1) := by decide +kernel
theorem dX4_common_7 : decode cX4_common 7 = .ok (.lneg, 1) := by decide +kernel
theorem dX4_common_8 : decode cX4_common 8 = .ok (.goto 4, 3) := by decide +kernel
theorem dX4_common_11 : decode cX4_common 11 = .ok (.lload_n 0, 1) := by decide +kernel
theorem dX4_common_12 : decode cX4_common 12 = .ok (.lstore 4, 2) := by decide +kernel
theorem dX4_common_14 : decode cX4_common 14 = .ok (.lload_n 2, 1) := by decide +kernel
theorem dX4_common_15 : decode cX4_common 15 = .ok (.lstore 6, 2) := by decide +kernel
theorem dX4_common_17 : decode cX4_common 17 = .ok (.lload 6, 2) := by decide +kernel
theorem dX4_common_19 : decode cX4_common 19 = .ok (.lconst 0, 1) := by decide +kernel
theorem dX4_common_20 : decode cX4_common 20 = .ok (.lcmp, 1) := by decide +kernel
theorem dX4_common_21 : decode cX4_common 21 = .ok (.ifCond .le 21, 3) := by decide +kernel
theorem dX4_common_24 : decode cX4_common 24 = .ok (.lload 4, 2) := by decide +kernel
theorem dX4_common_26 : decode cX4_common 26 = .ok (.lload 6, 2) := by decide +kernel
theorem dX4_common_28 : decode cX4_common 28 = .ok (.lrem, 1) := by decide +kernel
theorem dX4_common_29 : decode cX4_common 29 = .ok (.lstore 8, 2) := by decide +kernel
theorem dX4_common_31 : decode cX4_common 31 = .ok (.lload 6, 2) := by decide +kernel
theorem dX4_common_33 : decode cX4_common 33 = .ok (.lstore 4, 2) := by decide +kernel
theorem dX4_common_35 : decode cX4_common 35 = .ok (.lload 8, 2) := by decide +kernel
theorem dX4_common_37 : decode cX4_common 37 = .ok (.lstore 6, 2) := by decide +kernel
theorem dX4_common_39 : decode cX4_common 39 = .ok (.goto (-22), 3) := by decide +kernel
theorem dX4_common_42 : decode cX4_common 42 = .ok (.lload 4, 2) := by decide +kernel
theorem dX4_common_44 : decode cX4_common 44 = .ok (.lreturn, 1) := by decide +kernel
theorem dX4_fraction_0 : decode cX4_fraction 0 = .ok (.lload_n 1, 1) := by decide +kernel
theorem dX4_fraction_1 : decode cX4_fraction 1 = .ok (.lload_n 3, 1) := by decide +kernel
theorem dX4_fraction_2 : decode cX4_fraction 2 = .ok (.invokestatic 211, 3) := by decide +kernel
theorem dX4_fraction_5 : decode cX4_fraction 5 = .ok (.lstore 5, 2) := by decide +kernel
theorem dX4_fraction_7 : decode cX4_fraction 7 = .ok (.aload_n 0, 1) := by decide +kernel
theorem dX4_fraction_8 : decode cX4_fraction 8 = .ok (.lload_n 1, 1) := by decide +kernel
theorem dX4_fraction_9 : decode cX4_fraction 9 = .ok (.lload 5, 2) := by decide +kernel
theorem dX4_fraction_11 : decode cX4_fraction 11 = .ok (.ldiv, 1) := by decide +kernel
theorem dX4_fraction_12 : decode cX4_fraction 12 = .ok (.putfield 215, 3) := by decide +kernel
theorem dX4_fraction_15 : decode cX4_fraction 15 = .ok (.aload_n 0, 1) := by decide +kernel
theorem dX4_fraction_16 : decode cX4_fraction 16 = .ok (.lload_n 3, 1) := by decide +kernel
theorem dX4_fraction_17 : decode cX4_fraction 17 = .ok (.lload 5, 2) := by decide +kernel
theorem dX4_fraction_19 : decode cX4_fraction 19 = .ok (.ldiv, 1) := by decide +kernel
theorem dX4_fraction_20 : decode cX4_fraction 20 = .ok (.putfield 42, 3) := by decide +kernel
theorem dX4_fraction_23 : decode cX4_fraction 23 = .ok (.return_, 1) := by decide +kernel
theorem dX4_reward_0 : decode cX4_reward 0 = .ok (.iload_n 1, 1) := by decide +kernel
theorem dX4_reward_1 : decode cX4_reward 1 = .ok (.i2l, 1) := by decide +kernel
theorem dX4_reward_2 : decode cX4_reward 2 = .ok (.lconst 0, 1) := by decide +kernel
theorem dX4_reward_3 : decode cX4_reward 3 = .ok (.ldc2_w 96, 3) := by decide +kernel
theorem dX4_reward_6 : decode cX4_reward 6 = .ok (.invokestatic 58, 3) := by decide +kernel
theorem dX4_reward_9 : decode cX4_reward 9 = .ok (.ifCond .ne 10, 3) := by decide +kernel
theorem dX4_reward_12 : decode cX4_reward 12 = .ok (.aload_n 0, 1) := by decide +kernel
theorem dX4_reward_13 : decode cX4_reward 13 = .ok (.bipush (-2), 2) := by decide +kernel
theorem dX4_reward_15 : decode cX4_reward 15 = .ok (.invokevirtual 91, 3) := by decide +kernel
theorem dX4_reward_18 : decode cX4_reward 18 = .ok (.ireturn, 1) := by decide +kernel
theorem dX4_reward_19 : decode cX4_reward 19 = .ok (.iconst 0, 1) := by decide +kernel
theorem dX4_reward_20 : decode cX4_reward 20 = .ok (.istore_n 2, 1) := by decide +kernel
theorem dX4_reward_21 : decode cX4_reward 21 = .ok (.iload_n 1, 1) := by decide +kernel
theorem dX4_reward_22 : decode cX4_reward 22 = .ok (.istore_n 3, 1) := by decide +kernel
theorem dX4_reward_23 : decode cX4_reward 23 = .ok (.iload_n 3, 1) := by decide +kernel
theorem dX4_reward_24 : decode cX4_reward 24 = .ok (.bipush 8, 2) := by decide +kernel
theorem dX4_reward_26 : decode cX4_reward 26 = .ok (.if_icmp .ge 39, 3) := by decide +kernel
theorem dX4_reward_29 : decode cX4_reward 29 = .ok (.iload_n 2, 1) := by decide +kernel
theorem dX4_reward_30 : decode cX4_reward 30 = .ok (.aload_n 0, 1) := by decide +kernel
theorem dX4_reward_31 : decode cX4_reward 31 = .ok (.getfield 7, 3) := by decide +kernel
theorem dX4_reward_34 : decode cX4_reward 34 = .ok (.bipush 7, 2) := by decide +kernel
theorem dX4_reward_36 : decode cX4_reward 36 = .ok (.iload_n 3, 1) := by decide +kernel
theorem dX4_reward_37 : decode cX4_reward 37 = .ok (.iadd, 1) := by decide +kernel
theorem dX4_reward_38 : decode cX4_reward 38 = .ok (.iaload, 1) := by decide +kernel
theorem dX4_reward_39 : decode cX4_reward 39 = .ok (.iconst 4, 1) := by decide +kernel
theorem dX4_reward_40 : decode cX4_reward 40 = .ok (.if_icmp .ne 8, 3) := by decide +kernel
theorem dX4_reward_43 : decode cX4_reward 43 = .ok (.bipush (-4), 2) := by decide +kernel
theorem dX4_reward_45 : decode cX4_reward 45 = .ok (.goto 12, 3) := by decide +kernel
theorem dX4_reward_48 : decode cX4_reward 48 = .ok (.aload_n 0, 1) := by decide +kernel
theorem dX4_reward_49 : decode cX4_reward 49 = .ok (.getfield 7, 3) := by decide +kernel
theorem dX4_reward_52 : decode cX4_reward 52 = .ok (.bipush 7, 2) := by decide +kernel
theorem dX4_reward_54 : decode cX4_reward 54 = .ok (.iload_n 3, 1) := by decide +kernel
theorem dX4_reward_55 : decode cX4_reward 55 = .ok (.iadd, 1) := by decide +kernel
theorem dX4_reward_56 : decode cX4_reward 56 = .ok (.iaload, 1) := by decide +kernel
theorem dX4_reward_57 : decode cX4_reward 57 = .ok (.iadd, 1) := by decide +kernel
theorem dX4_reward_58 : decode cX4_reward 58 = .ok (.istore_n 2, 1) := by decide +kernel
theorem dX4_reward_59 : decode cX4_reward 59 = .ok (.iinc 3 1, 3) := by decide +kernel
theorem dX4_reward_62 : decode cX4_reward 62 = .ok (.goto (-39), 3) := by decide +kernel
theorem dX4_reward_65 : decode cX4_reward 65 = .ok (.aload_n 0, 1) := by decide +kernel
theorem dX4_reward_66 : decode cX4_reward 66 = .ok (.iload_n 2, 1) := by decide +kernel
theorem dX4_reward_67 : decode cX4_reward 67 = .ok (.i2l, 1) := by decide +kernel
theorem dX4_reward_68 : decode cX4_reward 68 = .ok (.bipush 8, 2) := by decide +kernel
theorem dX4_reward_70 : decode cX4_reward 70 = .ok (.iload_n 1, 1) := by decide +kernel
theorem dX4_reward_71 : decode cX4_reward 71 = .ok (.isub, 1) := by decide +kernel
theorem dX4_reward_72 : decode cX4_reward 72 = .ok (.i2l, 1) := by decide +kernel
theorem dX4_reward_73 : decode cX4_reward 73 = .ok (.invokevirtual 218, 3) := by decide +kernel
theorem dX4_reward_76 : decode cX4_reward 76 = .ok (.iconst 1, 1) := by decide +kernel
theorem dX4_reward_77 : decode cX4_reward 77 = .ok (.ireturn, 1) := by decide +kernel
theorem dX4_note_0 : decode cX4_note 0 = .ok (.iload_n 1, 1) := by decide +kernel
theorem dX4_note_1 : decode cX4_note 1 = .ok (.i2l, 1) := by decide +kernel
theorem dX4_note_2 : decode cX4_note 2 = .ok (.lconst 0, 1) := by decide +kernel
theorem dX4_note_3 : decode cX4_note 3 = .ok (.ldc2_w 89, 3) := by decide +kernel
theorem dX4_note_6 : decode cX4_note 6 = .ok (.invokestatic 58, 3) := by decide +kernel
theorem dX4_note_9 : decode cX4_note 9 = .ok (.ifCond .eq 44, 3) := by decide +kernel
theorem dX4_note_12 : decode cX4_note 12 = .ok (.iload_n 2, 1) := by decide +kernel
theorem dX4_note_13 : decode cX4_note 13 = .ok (.i2l, 1) := by decide +kernel
theorem dX4_note_14 : decode cX4_note 14 = .ok (.lconst 0, 1) := by decide +kernel
theorem dX4_note_15 : decode cX4_note 15 = .ok (.ldc2_w 94, 3) := by decide +kernel
theorem dX4_note_18 : decode cX4_note 18 = .ok (.invokestatic 58, 3) := by decide +kernel
theorem dX4_note_21 : decode cX4_note 21 = .ok (.ifCond .eq 32, 3) := by decide +kernel
theorem dX4_note_24 : decode cX4_note 24 = .ok (.iload_n 3, 1) := by decide +kernel
theorem dX4_note_25 : decode cX4_note 25 = .ok (.i2l, 1) := by decide +kernel
theorem dX4_note_26 : decode cX4_note 26 = .ok (.ldc2_w 222, 3) := by decide +kernel
theorem dX4_note_29 : decode cX4_note 29 = .ok (.ldc2_w 224, 3) := by decide +kernel
theorem dX4_note_32 : decode cX4_note 32 = .ok (.invokestatic 58, 3) := by decide +kernel
theorem dX4_note_35 : decode cX4_note 35 = .ok (.ifCond .eq 18, 3) := by decide +kernel
theorem dX4_note_38 : decode cX4_note 38 = .ok (.iload 4, 2) := by decide +kernel
theorem dX4_note_40 : decode cX4_note 40 = .ok (.i2l, 1) := by decide +kernel
theorem dX4_note_41 : decode cX4_note 41 = .ok (.ldc2_w 222, 3) := by decide +kernel
theorem dX4_note_44 : decode cX4_note 44 = .ok (.ldc2_w 224, 3) := by decide +kernel
theorem dX4_note_47 : decode cX4_note 47 = .ok (.invokestatic 58, 3) := by decide +kernel
theorem dX4_note_50 : decode cX4_note 50 = .ok (.ifCond .ne 10, 3) := by decide +kernel
theorem dX4_note_53 : decode cX4_note 53 = .ok (.aload_n 0, 1) := by decide +kernel
theorem dX4_note_54 : decode cX4_note 54 = .ok (.bipush (-2), 2) := by decide +kernel
theorem dX4_note_56 : decode cX4_note 56 = .ok (.invokevirtual 91, 3) := by decide +kernel
theorem dX4_note_59 : decode cX4_note 59 = .ok (.ireturn, 1) := by decide +kernel
theorem dX4_note_60 : decode cX4_note 60 = .ok (.aload_n 0, 1) := by decide +kernel
theorem dX4_note_61 : decode cX4_note 61 = .ok (.getfield 7, 3) := by decide +kernel
theorem dX4_note_64 : decode cX4_note 64 = .ok (.bipush 15, 2) := by decide +kernel
theorem dX4_note_66 : decode cX4_note 66 = .ok (.iaload, 1) := by decide +kernel
theorem dX4_note_67 : decode cX4_note 67 = .ok (.bipush 6, 2) := by decide +kernel
theorem dX4_note_69 : decode cX4_note 69 = .ok (.if_icmp .ne 10, 3) := by decide +kernel
theorem dX4_note_72 : decode cX4_note 72 = .ok (.aload_n 0, 1) := by decide +kernel
theorem dX4_note_73 : decode cX4_note 73 = .ok (.bipush (-4), 2) := by decide +kernel
theorem dX4_note_75 : decode cX4_note 75 = .ok (.invokevirtual 91, 3) := by decide +kernel
theorem dX4_note_78 : decode cX4_note 78 = .ok (.ireturn, 1) := by decide +kernel
theorem dX4_note_79 : decode cX4_note 79 = .ok (.bipush 16, 2) := by decide +kernel
theorem dX4_note_81 : decode cX4_note 81 = .ok (.iconst 4, 1) := by decide +kernel
theorem dX4_note_82 : decode cX4_note 82 = .ok (.aload_n 0, 1) := by decide +kernel
theorem dX4_note_83 : decode cX4_note 83 = .ok (.getfield 7, 3) := by decide +kernel
theorem dX4_note_86 : decode cX4_note 86 = .ok (.bipush 15, 2) := by decide +kernel
theorem dX4_note_88 : decode cX4_note 88 = .ok (.iaload, 1) := by decide +kernel
theorem dX4_note_89 : decode cX4_note 89 = .ok (.imul, 1) := by decide +kernel
theorem dX4_note_90 : decode cX4_note 90 = .ok (.iadd, 1) := by decide +kernel
theorem dX4_note_91 : decode cX4_note 91 = .ok (.istore 5, 2) := by decide +kernel
theorem dX4_note_93 : decode cX4_note 93 = .ok (.aload_n 0, 1) := by decide +kernel
theorem dX4_note_94 : decode cX4_note 94 = .ok (.getfield 7, 3) := by decide +kernel
theorem dX4_note_97 : decode cX4_note 97 = .ok (.iload 5, 2) := by decide +kernel
theorem dX4_note_99 : decode cX4_note 99 = .ok (.iload_n 1, 1) := by decide +kernel
theorem dX4_note_100 : decode cX4_note 100 = .ok (.iastore, 1) := by decide +kernel
theorem dX4_note_101 : decode cX4_note 101 = .ok (.aload_n 0, 1) := by decide +kernel
theorem dX4_note_102 : decode cX4_note 102 = .ok (.getfield 7, 3) := by decide +kernel
theorem dX4_note_105 : decode cX4_note 105 = .ok (.iload 5, 2) := by decide +kernel
theorem dX4_note_107 : decode cX4_note 107 = .ok (.iconst 1, 1) := by decide +kernel
theorem dX4_note_108 : decode cX4_note 108 = .ok (.iadd, 1) := by decide +kernel
theorem dX4_note_109 : decode cX4_note 109 = .ok (.iload_n 2, 1) := by decide +kernel
theorem dX4_note_110 : decode cX4_note 110 = .ok (.iastore, 1) := by decide +kernel
theorem dX4_note_111 : decode cX4_note 111 = .ok (.aload_n 0, 1) := by decide +kernel
theorem dX4_note_112 : decode cX4_note 112 = .ok (.getfield 7, 3) := by decide +kernel
theorem dX4_note_115 : decode cX4_note 115 = .ok (.iload 5, 2) := by decide +kernel
theorem dX4_note_117 : decode cX4_note 117 = .ok (.iconst 2, 1) := by decide +kernel
theorem dX4_note_118 : decode cX4_note 118 = .ok (.iadd, 1) := by decide +kernel
theorem dX4_note_119 : decode cX4_note 119 = .ok (.iload_n 3, 1) := by decide +kernel
theorem dX4_note_120 : decode cX4_note 120 = .ok (.iastore, 1) := by decide +kernel
theorem dX4_note_121 : decode cX4_note 121 = .ok (.aload_n 0, 1) := by decide +kernel
theorem dX4_note_122 : decode cX4_note 122 = .ok (.getfield 7, 3) := by decide +kernel
theorem dX4_note_125 : decode cX4_note 125 = .ok (.iload 5, 2) := by decide +kernel
theorem dX4_note_127 : decode cX4_note 127 = .ok (.iconst 3, 1) := by decide +kernel
theorem dX4_note_128 : decode cX4_note 128 = .ok (.iadd, 1) := by decide +kernel
theorem dX4_note_129 : decode cX4_note 129 = .ok (.iload 4, 2) := by decide +kernel
theorem dX4_note_131 : decode cX4_note 131 = .ok (.iastore, 1) := by decide +kernel
theorem dX4_note_132 : decode cX4_note 132 = .ok (.aload_n 0, 1) := by decide +kernel
theorem dX4_note_133 : decode cX4_note 133 = .ok (.getfield 7, 3) := by decide +kernel
theorem dX4_note_136 : decode cX4_note 136 = .ok (.bipush 15, 2) := by decide +kernel
theorem dX4_note_138 : decode cX4_note 138 = .ok (.dup2, 1) := by decide +kernel
theorem dX4_note_139 : decode cX4_note 139 = .ok (.iaload, 1) := by decide +kernel
theorem dX4_note_140 : decode cX4_note 140 = .ok (.iconst 1, 1) := by decide +kernel
theorem dX4_note_141 : decode cX4_note 141 = .ok (.iadd, 1) := by decide +kernel
theorem dX4_note_142 : decode cX4_note 142 = .ok (.iastore, 1) := by decide +kernel
theorem dX4_note_143 : decode cX4_note 143 = .ok (.aload_n 0, 1) := by decide +kernel
theorem dX4_note_144 : decode cX4_note 144 = .ok (.getfield 7, 3) := by decide +kernel
theorem dX4_note_147 : decode cX4_note 147 = .ok (.bipush 15, 2) := by decide +kernel
theorem dX4_note_149 : decode cX4_note 149 = .ok (.iaload, 1) := by decide +kernel
theorem dX4_note_150 : decode cX4_note 150 = .ok (.ireturn, 1) := by decide +kernel
theorem dX4_forget_0 : decode cX4_forget 0 = .ok (.aload_n 0, 1) := by decide +kernel
theorem dX4_forget_1 : decode cX4_forget 1 = .ok (.getfield 7, 3) := by decide +kernel
theorem dX4_forget_4 : decode cX4_forget 4 = .ok (.bipush 15, 2) := by decide +kernel
theorem dX4_forget_6 : decode cX4_forget 6 = .ok (.iaload, 1) := by decide +kernel
theorem dX4_forget_7 : decode cX4_forget 7 = .ok (.istore_n 1, 1) := by decide +kernel
theorem dX4_forget_8 : decode cX4_forget 8 = .ok (.aload_n 0, 1) := by decide +kernel
theorem dX4_forget_9 : decode cX4_forget 9 = .ok (.getfield 7, 3) := by decide +kernel
theorem dX4_forget_12 : decode cX4_forget 12 = .ok (.bipush 15, 2) := by decide +kernel
theorem dX4_forget_14 : decode cX4_forget 14 = .ok (.iconst 0, 1) := by decide +kernel
theorem dX4_forget_15 : decode cX4_forget 15 = .ok (.iastore, 1) := by decide +kernel
theorem dX4_forget_16 : decode cX4_forget 16 = .ok (.iload_n 1, 1) := by decide +kernel
theorem dX4_forget_17 : decode cX4_forget 17 = .ok (.ireturn, 1) := by decide +kernel
theorem dX4_kindsThatFit_0 : decode cX4_kindsThatFit 0 = .ok (.iconst 0, 1) := by decide +kernel
theorem dX4_kindsThatFit_1 : decode cX4_kindsThatFit 1 = .ok (.istore_n 1, 1) := by decide +kernel
theorem dX4_kindsThatFit_2 : decode cX4_kindsThatFit 2 = .ok (.iconst 0, 1) := by decide +kernel
theorem dX4_kindsThatFit_3 : decode cX4_kindsThatFit 3 = .ok (.istore_n 2, 1) := by decide +kernel
theorem dX4_kindsThatFit_4 : decode cX4_kindsThatFit 4 = .ok (.iload_n 2, 1) := by decide +kernel
theorem dX4_kindsThatFit_5 : decode cX4_kindsThatFit 5 = .ok (.bipush 6, 2) := by decide +kernel
theorem dX4_kindsThatFit_7 : decode cX4_kindsThatFit 7 = .ok (.if_icmp .ge 131, 3) := by decide +kernel
theorem dX4_kindsThatFit_10 : decode cX4_kindsThatFit 10 = .ok (.iconst 1, 1) := by decide +kernel
theorem dX4_kindsThatFit_11 : decode cX4_kindsThatFit 11 = .ok (.istore_n 3, 1) := by decide +kernel
theorem dX4_kindsThatFit_12 : decode cX4_kindsThatFit 12 = .ok (.iconst 0, 1) := by decide +kernel
theorem dX4_kindsThatFit_13 : decode cX4_kindsThatFit 13 = .ok (.istore 4, 2) := by decide +kernel
theorem dX4_kindsThatFit_15 : decode cX4_kindsThatFit 15 = .ok (.iload 4, 2) := by decide +kernel
theorem dX4_kindsThatFit_17 : decode cX4_kindsThatFit 17 = .ok (.aload_n 0, 1) := by decide +kernel
theorem dX4_kindsThatFit_18 : decode cX4_kindsThatFit 18 = .ok (.getfield 7, 3) := by decide +kernel
theorem dX4_kindsThatFit_21 : decode cX4_kindsThatFit 21 = .ok (.bipush 15, 2) := by decide +kernel
theorem dX4_kindsThatFit_23 : decode cX4_kindsThatFit 23 = .ok (.iaload, 1) := by decide +kernel
theorem dX4_kindsThatFit_24 : decode cX4_kindsThatFit 24 = .ok (.if_icmp .ge 94, 3) := by decide +kernel
theorem dX4_kindsThatFit_27 : decode cX4_kindsThatFit 27 = .ok (.bipush 16, 2) := by decide +kernel
theorem dX4_kindsThatFit_29 : decode cX4_kindsThatFit 29 = .ok (.iconst 4, 1) := by decide +kernel
theorem dX4_kindsThatFit_30 : decode cX4_kindsThatFit 30 = .ok (.iload 4, 2) := by decide +kernel
theorem dX4_kindsThatFit_32 : decode cX4_kindsThatFit 32 = .ok (.imul, 1) := by decide +kernel
theorem dX4_kindsThatFit_33 : decode cX4_kindsThatFit 33 = .ok (.iadd, 1) := by decide +kernel
theorem dX4_kindsThatFit_34 : decode cX4_kindsThatFit 34 = .ok (.istore 5, 2) := by decide +kernel
theorem dX4_kindsThatFit_36 : decode cX4_kindsThatFit 36 = .ok (.iload_n 3, 1) := by decide +kernel
theorem dX4_kindsThatFit_37 : decode cX4_kindsThatFit 37 = .ok (.ifCond .eq 73, 3) := by decide +kernel
theorem dX4_kindsThatFit_40 : decode cX4_kindsThatFit 40 = .ok (.aload_n 0, 1) := by decide +kernel
theorem dX4_kindsThatFit_41 : decode cX4_kindsThatFit 41 = .ok (.iload_n 2, 1) := by decide +kernel
theorem dX4_kindsThatFit_42 : decode cX4_kindsThatFit 42 = .ok (.aload_n 0, 1) := by decide +kernel
theorem dX4_kindsThatFit_43 : decode cX4_kindsThatFit 43 = .ok (.getfield 7, 3) := by decide +kernel
theorem dX4_kindsThatFit_46 : decode cX4_kindsThatFit 46 = .ok (.iload 5, 2) := by decide +kernel
theorem dX4_kindsThatFit_48 : decode cX4_kindsThatFit 48 = .ok (.iaload, 1) := by decide +kernel
theorem dX4_kindsThatFit_49 : decode cX4_kindsThatFit 49 = .ok (.aload_n 0, 1) := by decide +kernel
theorem dX4_kindsThatFit_50 : decode cX4_kindsThatFit 50 = .ok (.getfield 7, 3) := by decide +kernel
theorem dX4_kindsThatFit_53 : decode cX4_kindsThatFit 53 = .ok (.iload 5, 2) := by decide +kernel
theorem dX4_kindsThatFit_55 : decode cX4_kindsThatFit 55 = .ok (.iconst 1, 1) := by decide +kernel
theorem dX4_kindsThatFit_56 : decode cX4_kindsThatFit 56 = .ok (.iadd, 1) := by decide +kernel
theorem dX4_kindsThatFit_57 : decode cX4_kindsThatFit 57 = .ok (.iaload, 1) := by decide +kernel
theorem dX4_kindsThatFit_58 : decode cX4_kindsThatFit 58 = .ok (.invokevirtual 79, 3) := by decide +kernel
theorem dX4_kindsThatFit_61 : decode cX4_kindsThatFit 61 = .ok (.aload_n 0, 1) := by decide +kernel
theorem dX4_kindsThatFit_62 : decode cX4_kindsThatFit 62 = .ok (.getfield 7, 3) := by decide +kernel
theorem dX4_kindsThatFit_65 : decode cX4_kindsThatFit 65 = .ok (.iload 5, 2) := by decide +kernel
theorem dX4_kindsThatFit_67 : decode cX4_kindsThatFit 67 = .ok (.iconst 2, 1) := by decide +kernel
theorem dX4_kindsThatFit_68 : decode cX4_kindsThatFit 68 = .ok (.iadd, 1) := by decide +kernel
theorem dX4_kindsThatFit_69 : decode cX4_kindsThatFit 69 = .ok (.iaload, 1) := by decide +kernel
theorem dX4_kindsThatFit_70 : decode cX4_kindsThatFit 70 = .ok (.if_icmp .ne 40, 3) := by decide +kernel
theorem dX4_kindsThatFit_73 : decode cX4_kindsThatFit 73 = .ok (.aload_n 0, 1) := by decide +kernel
theorem dX4_kindsThatFit_74 : decode cX4_kindsThatFit 74 = .ok (.iload_n 2, 1) := by decide +kernel
theorem dX4_kindsThatFit_75 : decode cX4_kindsThatFit 75 = .ok (.aload_n 0, 1) := by decide +kernel
theorem dX4_kindsThatFit_76 : decode cX4_kindsThatFit 76 = .ok (.getfield 7, 3) := by decide +kernel
theorem dX4_kindsThatFit_79 : decode cX4_kindsThatFit 79 = .ok (.iload 5, 2) := by decide +kernel
theorem dX4_kindsThatFit_81 : decode cX4_kindsThatFit 81 = .ok (.iaload, 1) := by decide +kernel
theorem dX4_kindsThatFit_82 : decode cX4_kindsThatFit 82 = .ok (.aload_n 0, 1) := by decide +kernel
theorem dX4_kindsThatFit_83 : decode cX4_kindsThatFit 83 = .ok (.getfield 7, 3) := by decide +kernel
theorem dX4_kindsThatFit_86 : decode cX4_kindsThatFit 86 = .ok (.iload 5, 2) := by decide +kernel
theorem dX4_kindsThatFit_88 : decode cX4_kindsThatFit 88 = .ok (.iconst 1, 1) := by decide +kernel
theorem dX4_kindsThatFit_89 : decode cX4_kindsThatFit 89 = .ok (.iadd, 1) := by decide +kernel
theorem dX4_kindsThatFit_90 : decode cX4_kindsThatFit 90 = .ok (.iaload, 1) := by decide +kernel
theorem dX4_kindsThatFit_91 : decode cX4_kindsThatFit 91 = .ok (.invokevirtual 86, 3) := by decide +kernel
theorem dX4_kindsThatFit_94 : decode cX4_kindsThatFit 94 = .ok (.aload_n 0, 1) := by decide +kernel
theorem dX4_kindsThatFit_95 : decode cX4_kindsThatFit 95 = .ok (.getfield 7, 3) := by decide +kernel
theorem dX4_kindsThatFit_98 : decode cX4_kindsThatFit 98 = .ok (.iload 5, 2) := by decide +kernel
theorem dX4_kindsThatFit_100 : decode cX4_kindsThatFit 100 = .ok (.iconst 3, 1) := by decide +kernel
theorem dX4_kindsThatFit_101 : decode cX4_kindsThatFit 101 = .ok (.iadd, 1) := by decide +kernel
theorem dX4_kindsThatFit_102 : decode cX4_kindsThatFit 102 = .ok (.iaload, 1) := by decide +kernel
theorem dX4_kindsThatFit_103 : decode cX4_kindsThatFit 103 = .ok (.if_icmp .ne 7, 3) := by decide +kernel
theorem dX4_kindsThatFit_106 : decode cX4_kindsThatFit 106 = .ok (.iconst 1, 1) := by decide +kernel
theorem dX4_kindsThatFit_107 : decode cX4_kindsThatFit 107 = .ok (.goto 4, 3) := by decide +kernel
theorem dX4_kindsThatFit_110 : decode cX4_kindsThatFit 110 = .ok (.iconst 0, 1) := by decide +kernel
theorem dX4_kindsThatFit_111 : decode cX4_kindsThatFit 111 = .ok (.istore_n 3, 1) := by decide +kernel
theorem dX4_kindsThatFit_112 : decode cX4_kindsThatFit 112 = .ok (.iinc 4 1, 3) := by decide +kernel
theorem dX4_kindsThatFit_115 : decode cX4_kindsThatFit 115 = .ok (.goto (-100), 3) := by decide +kernel
theorem dX4_kindsThatFit_118 : decode cX4_kindsThatFit 118 = .ok (.iload_n 1, 1) := by decide +kernel
theorem dX4_kindsThatFit_119 : decode cX4_kindsThatFit 119 = .ok (.iload_n 3, 1) := by decide +kernel
theorem dX4_kindsThatFit_120 : decode cX4_kindsThatFit 120 = .ok (.ifCond .eq 9, 3) := by decide +kernel
theorem dX4_kindsThatFit_123 : decode cX4_kindsThatFit 123 = .ok (.iconst 1, 1) := by decide +kernel
theorem dX4_kindsThatFit_124 : decode cX4_kindsThatFit 124 = .ok (.iload_n 2, 1) := by decide +kernel
theorem dX4_kindsThatFit_125 : decode cX4_kindsThatFit 125 = .ok (.ishl, 1) := by decide +kernel
theorem dX4_kindsThatFit_126 : decode cX4_kindsThatFit 126 = .ok (.goto 4, 3) := by decide +kernel
theorem dX4_kindsThatFit_129 : decode cX4_kindsThatFit 129 = .ok (.iconst 0, 1) := by decide +kernel
theorem dX4_kindsThatFit_130 : decode cX4_kindsThatFit 130 = .ok (.ior, 1) := by decide +kernel
theorem dX4_kindsThatFit_131 : decode cX4_kindsThatFit 131 = .ok (.istore_n 1, 1) := by decide +kernel
theorem dX4_kindsThatFit_132 : decode cX4_kindsThatFit 132 = .ok (.iinc 2 1, 3) := by decide +kernel
theorem dX4_kindsThatFit_135 : decode cX4_kindsThatFit 135 = .ok (.goto (-131), 3) := by decide +kernel
theorem dX4_kindsThatFit_138 : decode cX4_kindsThatFit 138 = .ok (.iload_n 1, 1) := by decide +kernel
theorem dX4_kindsThatFit_139 : decode cX4_kindsThatFit 139 = .ok (.ireturn, 1) := by decide +kernel
theorem dX4_is_0 : decode cX4_is 0 = .ok (.aload_n 0, 1) := by decide +kernel
theorem dX4_is_1 : decode cX4_is 1 = .ok (.invokevirtual 226, 3) := by decide +kernel
theorem dX4_is_4 : decode cX4_is 4 = .ok (.ireturn, 1) := by decide +kernel
theorem dX4_greatestPart_0 : decode cX4_greatestPart 0 = .ok (.iconst 0, 1) := by decide +kernel
theorem dX4_greatestPart_1 : decode cX4_greatestPart 1 = .ok (.istore_n 3, 1) := by decide +kernel
theorem dX4_greatestPart_2 : decode cX4_greatestPart 2 = .ok (.iconst 0, 1) := by decide +kernel
theorem dX4_greatestPart_3 : decode cX4_greatestPart 3 = .ok (.istore 4, 2) := by decide +kernel
theorem dX4_greatestPart_5 : decode cX4_greatestPart 5 = .ok (.iload 4, 2) := by decide +kernel
theorem dX4_greatestPart_7 : decode cX4_greatestPart 7 = .ok (.bipush 6, 2) := by decide +kernel
theorem dX4_greatestPart_9 : decode cX4_greatestPart 9 = .ok (.if_icmp .ge 153, 3) := by decide +kernel
theorem dX4_greatestPart_12 : decode cX4_greatestPart 12 = .ok (.iconst 0, 1) := by decide +kernel
theorem dX4_greatestPart_13 : decode cX4_greatestPart 13 = .ok (.istore 5, 2) := by decide +kernel
theorem dX4_greatestPart_15 : decode cX4_greatestPart 15 = .ok (.iconst 0, 1) := by decide +kernel
theorem dX4_greatestPart_16 : decode cX4_greatestPart 16 = .ok (.istore 6, 2) := by decide +kernel
theorem dX4_greatestPart_18 : decode cX4_greatestPart 18 = .ok (.iload 6, 2) := by decide +kernel
theorem dX4_greatestPart_20 : decode cX4_greatestPart 20 = .ok (.bipush 6, 2) := by decide +kernel
theorem dX4_greatestPart_22 : decode cX4_greatestPart 22 = .ok (.if_icmp .ge 121, 3) := by decide +kernel
theorem dX4_greatestPart_25 : decode cX4_greatestPart 25 = .ok (.iload_n 1, 1) := by decide +kernel
theorem dX4_greatestPart_26 : decode cX4_greatestPart 26 = .ok (.iload 4, 2) := by decide +kernel
theorem dX4_greatestPart_28 : decode cX4_greatestPart 28 = .ok (.ishr, 1) := by decide +kernel
theorem dX4_greatestPart_29 : decode cX4_greatestPart 29 = .ok (.iconst 1, 1) := by decide +kernel
theorem dX4_greatestPart_30 : decode cX4_greatestPart 30 = .ok (.iand, 1) := by decide +kernel
theorem dX4_greatestPart_31 : decode cX4_greatestPart 31 = .ok (.iconst 1, 1) := by decide +kernel
theorem dX4_greatestPart_32 : decode cX4_greatestPart 32 = .ok (.if_icmp .ne 17, 3) := by decide +kernel
theorem dX4_greatestPart_35 : decode cX4_greatestPart 35 = .ok (.iload_n 1, 1) := by decide +kernel
theorem dX4_greatestPart_36 : decode cX4_greatestPart 36 = .ok (.iload 6, 2) := by decide +kernel
theorem dX4_greatestPart_38 : decode cX4_greatestPart 38 = .ok (.ishr, 1) := by decide +kernel
theorem dX4_greatestPart_39 : decode cX4_greatestPart 39 = .ok (.iconst 1, 1) := by decide +kernel
theorem dX4_greatestPart_40 : decode cX4_greatestPart 40 = .ok (.iand, 1) := by decide +kernel
theorem dX4_greatestPart_41 : decode cX4_greatestPart 41 = .ok (.iconst 1, 1) := by decide +kernel
theorem dX4_greatestPart_42 : decode cX4_greatestPart 42 = .ok (.if_icmp .ne 7, 3) := by decide +kernel
theorem dX4_greatestPart_45 : decode cX4_greatestPart 45 = .ok (.iconst 1, 1) := by decide +kernel
theorem dX4_greatestPart_46 : decode cX4_greatestPart 46 = .ok (.goto 4, 3) := by decide +kernel
theorem dX4_greatestPart_49 : decode cX4_greatestPart 49 = .ok (.iconst 0, 1) := by decide +kernel
theorem dX4_greatestPart_50 : decode cX4_greatestPart 50 = .ok (.istore 7, 2) := by decide +kernel
theorem dX4_greatestPart_52 : decode cX4_greatestPart 52 = .ok (.aload_n 0, 1) := by decide +kernel
theorem dX4_greatestPart_53 : decode cX4_greatestPart 53 = .ok (.iload 4, 2) := by decide +kernel
theorem dX4_greatestPart_55 : decode cX4_greatestPart 55 = .ok (.iload_n 2, 1) := by decide +kernel
theorem dX4_greatestPart_56 : decode cX4_greatestPart 56 = .ok (.aload_n 0, 1) := by decide +kernel
theorem dX4_greatestPart_57 : decode cX4_greatestPart 57 = .ok (.getfield 7, 3) := by decide +kernel
theorem dX4_greatestPart_60 : decode cX4_greatestPart 60 = .ok (.iconst 5, 1) := by decide +kernel
theorem dX4_greatestPart_61 : decode cX4_greatestPart 61 = .ok (.iaload, 1) := by decide +kernel
theorem dX4_greatestPart_62 : decode cX4_greatestPart 62 = .ok (.invokevirtual 79, 3) := by decide +kernel
theorem dX4_greatestPart_65 : decode cX4_greatestPart 65 = .ok (.aload_n 0, 1) := by decide +kernel
theorem dX4_greatestPart_66 : decode cX4_greatestPart 66 = .ok (.iload 6, 2) := by decide +kernel
theorem dX4_greatestPart_68 : decode cX4_greatestPart 68 = .ok (.iload_n 2, 1) := by decide +kernel
theorem dX4_greatestPart_69 : decode cX4_greatestPart 69 = .ok (.aload_n 0, 1) := by decide +kernel
theorem dX4_greatestPart_70 : decode cX4_greatestPart 70 = .ok (.getfield 7, 3) := by decide +kernel
theorem dX4_greatestPart_73 : decode cX4_greatestPart 73 = .ok (.iconst 5, 1) := by decide +kernel
theorem dX4_greatestPart_74 : decode cX4_greatestPart 74 = .ok (.iaload, 1) := by decide +kernel
theorem dX4_greatestPart_75 : decode cX4_greatestPart 75 = .ok (.invokevirtual 79, 3) := by decide +kernel
theorem dX4_greatestPart_78 : decode cX4_greatestPart 78 = .ok (.if_icmp .ne 36, 3) := by decide +kernel
theorem dX4_greatestPart_81 : decode cX4_greatestPart 81 = .ok (.aload_n 0, 1) := by decide +kernel
theorem dX4_greatestPart_82 : decode cX4_greatestPart 82 = .ok (.iload 4, 2) := by decide +kernel
theorem dX4_greatestPart_84 : decode cX4_greatestPart 84 = .ok (.iload_n 2, 1) := by decide +kernel
theorem dX4_greatestPart_85 : decode cX4_greatestPart 85 = .ok (.aload_n 0, 1) := by decide +kernel
theorem dX4_greatestPart_86 : decode cX4_greatestPart 86 = .ok (.getfield 7, 3) := by decide +kernel
theorem dX4_greatestPart_89 : decode cX4_greatestPart 89 = .ok (.iconst 5, 1) := by decide +kernel
theorem dX4_greatestPart_90 : decode cX4_greatestPart 90 = .ok (.iaload, 1) := by decide +kernel
theorem dX4_greatestPart_91 : decode cX4_greatestPart 91 = .ok (.invokevirtual 86, 3) := by decide +kernel
theorem dX4_greatestPart_94 : decode cX4_greatestPart 94 = .ok (.aload_n 0, 1) := by decide +kernel
theorem dX4_greatestPart_95 : decode cX4_greatestPart 95 = .ok (.iload 6, 2) := by decide +kernel
theorem dX4_greatestPart_97 : decode cX4_greatestPart 97 = .ok (.iload_n 2, 1) := by decide +kernel
theorem dX4_greatestPart_98 : decode cX4_greatestPart 98 = .ok (.aload_n 0, 1) := by decide +kernel
theorem dX4_greatestPart_99 : decode cX4_greatestPart 99 = .ok (.getfield 7, 3) := by decide +kernel
theorem dX4_greatestPart_102 : decode cX4_greatestPart 102 = .ok (.iconst 5, 1) := by decide +kernel
theorem dX4_greatestPart_103 : decode cX4_greatestPart 103 = .ok (.iaload, 1) := by decide +kernel
theorem dX4_greatestPart_104 : decode cX4_greatestPart 104 = .ok (.invokevirtual 86, 3) := by decide +kernel
theorem dX4_greatestPart_107 : decode cX4_greatestPart 107 = .ok (.if_icmp .ne 7, 3) := by decide +kernel
theorem dX4_greatestPart_110 : decode cX4_greatestPart 110 = .ok (.iconst 1, 1) := by decide +kernel
theorem dX4_greatestPart_111 : decode cX4_greatestPart 111 = .ok (.goto 4, 3) := by decide +kernel
theorem dX4_greatestPart_114 : decode cX4_greatestPart 114 = .ok (.iconst 0, 1) := by decide +kernel
theorem dX4_greatestPart_115 : decode cX4_greatestPart 115 = .ok (.istore 8, 2) := by decide +kernel
theorem dX4_greatestPart_117 : decode cX4_greatestPart 117 = .ok (.iload 5, 2) := by decide +kernel
theorem dX4_greatestPart_119 : decode cX4_greatestPart 119 = .ok (.iload 7, 2) := by decide +kernel
theorem dX4_greatestPart_121 : decode cX4_greatestPart 121 = .ok (.ifCond .eq 12, 3) := by decide +kernel
theorem dX4_greatestPart_124 : decode cX4_greatestPart 124 = .ok (.iload 8, 2) := by decide +kernel
theorem dX4_greatestPart_126 : decode cX4_greatestPart 126 = .ok (.ifCond .eq 7, 3) := by decide +kernel
theorem dX4_greatestPart_129 : decode cX4_greatestPart 129 = .ok (.iconst 1, 1) := by decide +kernel
theorem dX4_greatestPart_130 : decode cX4_greatestPart 130 = .ok (.goto 4, 3) := by decide +kernel
theorem dX4_greatestPart_133 : decode cX4_greatestPart 133 = .ok (.iconst 0, 1) := by decide +kernel
theorem dX4_greatestPart_134 : decode cX4_greatestPart 134 = .ok (.iadd, 1) := by decide +kernel
theorem dX4_greatestPart_135 : decode cX4_greatestPart 135 = .ok (.istore 5, 2) := by decide +kernel
theorem dX4_greatestPart_137 : decode cX4_greatestPart 137 = .ok (.iinc 6 1, 3) := by decide +kernel
theorem dX4_greatestPart_140 : decode cX4_greatestPart 140 = .ok (.goto (-122), 3) := by decide +kernel
theorem dX4_greatestPart_143 : decode cX4_greatestPart 143 = .ok (.iload 5, 2) := by decide +kernel
theorem dX4_greatestPart_145 : decode cX4_greatestPart 145 = .ok (.iload_n 3, 1) := by decide +kernel
theorem dX4_greatestPart_146 : decode cX4_greatestPart 146 = .ok (.if_icmp .le 8, 3) := by decide +kernel
theorem dX4_greatestPart_149 : decode cX4_greatestPart 149 = .ok (.iload 5, 2) := by decide +kernel
theorem dX4_greatestPart_151 : decode cX4_greatestPart 151 = .ok (.goto 4, 3) := by decide +kernel
theorem dX4_greatestPart_154 : decode cX4_greatestPart 154 = .ok (.iload_n 3, 1) := by decide +kernel
theorem dX4_greatestPart_155 : decode cX4_greatestPart 155 = .ok (.istore_n 3, 1) := by decide +kernel
theorem dX4_greatestPart_156 : decode cX4_greatestPart 156 = .ok (.iinc 4 1, 3) := by decide +kernel
theorem dX4_greatestPart_159 : decode cX4_greatestPart 159 = .ok (.goto (-154), 3) := by decide +kernel
theorem dX4_greatestPart_162 : decode cX4_greatestPart 162 = .ok (.iload_n 3, 1) := by decide +kernel
theorem dX4_greatestPart_163 : decode cX4_greatestPart 163 = .ok (.ireturn, 1) := by decide +kernel
theorem dX4_next_0 : decode cX4_next 0 = .ok (.aload_n 0, 1) := by decide +kernel
theorem dX4_next_1 : decode cX4_next 1 = .ok (.invokevirtual 226, 3) := by decide +kernel
theorem dX4_next_4 : decode cX4_next 4 = .ok (.istore_n 1, 1) := by decide +kernel
theorem dX4_next_5 : decode cX4_next 5 = .ok (.iload_n 1, 1) := by decide +kernel
theorem dX4_next_6 : decode cX4_next 6 = .ok (.ifCond .ne 5, 3) := by decide +kernel
theorem dX4_next_9 : decode cX4_next 9 = .ok (.iconst (-1), 1) := by decide +kernel
theorem dX4_next_10 : decode cX4_next 10 = .ok (.ireturn, 1) := by decide +kernel
theorem dX4_next_11 : decode cX4_next 11 = .ok (.iconst 0, 1) := by decide +kernel
theorem dX4_next_12 : decode cX4_next 12 = .ok (.istore_n 2, 1) := by decide +kernel
theorem dX4_next_13 : decode cX4_next 13 = .ok (.iconst 1, 1) := by decide +kernel
theorem dX4_next_14 : decode cX4_next 14 = .ok (.istore_n 3, 1) := by decide +kernel
theorem dX4_next_15 : decode cX4_next 15 = .ok (.iload_n 3, 1) := by decide +kernel
theorem dX4_next_16 : decode cX4_next 16 = .ok (.bipush 6, 2) := by decide +kernel
theorem dX4_next_18 : decode cX4_next 18 = .ok (.if_icmp .ge 30, 3) := by decide +kernel
theorem dX4_next_21 : decode cX4_next 21 = .ok (.aload_n 0, 1) := by decide +kernel
theorem dX4_next_22 : decode cX4_next 22 = .ok (.iload_n 1, 1) := by decide +kernel
theorem dX4_next_23 : decode cX4_next 23 = .ok (.iload_n 3, 1) := by decide +kernel
theorem dX4_next_24 : decode cX4_next 24 = .ok (.invokevirtual 229, 3) := by decide +kernel
theorem dX4_next_27 : decode cX4_next 27 = .ok (.aload_n 0, 1) := by decide +kernel
theorem dX4_next_28 : decode cX4_next 28 = .ok (.iload_n 1, 1) := by decide +kernel
theorem dX4_next_29 : decode cX4_next 29 = .ok (.iload_n 2, 1) := by decide +kernel
theorem dX4_next_30 : decode cX4_next 30 = .ok (.invokevirtual 229, 3) := by decide +kernel
theorem dX4_next_33 : decode cX4_next 33 = .ok (.if_icmp .ge 7, 3) := by decide +kernel
theorem dX4_next_36 : decode cX4_next 36 = .ok (.iload_n 3, 1) := by decide +kernel
theorem dX4_next_37 : decode cX4_next 37 = .ok (.goto 4, 3) := by decide +kernel
theorem dX4_next_40 : decode cX4_next 40 = .ok (.iload_n 2, 1) := by decide +kernel
theorem dX4_next_41 : decode cX4_next 41 = .ok (.istore_n 2, 1) := by decide +kernel
theorem dX4_next_42 : decode cX4_next 42 = .ok (.iinc 3 1, 3) := by decide +kernel
theorem dX4_next_45 : decode cX4_next 45 = .ok (.goto (-30), 3) := by decide +kernel
theorem dX4_next_48 : decode cX4_next 48 = .ok (.iload_n 2, 1) := by decide +kernel
theorem dX4_next_49 : decode cX4_next 49 = .ok (.ireturn, 1) := by decide +kernel
theorem dX4_gain_0 : decode cX4_gain 0 = .ok (.aload_n 0, 1) := by decide +kernel
theorem dX4_gain_1 : decode cX4_gain 1 = .ok (.invokevirtual 136, 3) := by decide +kernel
theorem dX4_gain_4 : decode cX4_gain 4 = .ok (.aload_n 0, 1) := by decide +kernel
theorem dX4_gain_5 : decode cX4_gain 5 = .ok (.iload_n 1, 1) := by decide +kernel
theorem dX4_gain_6 : decode cX4_gain 6 = .ok (.iload_n 2, 1) := by decide +kernel
theorem dX4_gain_7 : decode cX4_gain 7 = .ok (.invokevirtual 139, 3) := by decide +kernel
theorem dX4_gain_10 : decode cX4_gain 10 = .ok (.aload_n 0, 1) := by decide +kernel
theorem dX4_gain_11 : decode cX4_gain 11 = .ok (.getfield 76, 3) := by decide +kernel
theorem dX4_gain_14 : decode cX4_gain 14 = .ok (.iconst 1, 1) := by decide +kernel
theorem dX4_gain_15 : decode cX4_gain 15 = .ok (.if_icmp .ne 7, 3) := by decide +kernel
theorem dX4_gain_18 : decode cX4_gain 18 = .ok (.iconst 2, 1) := by decide +kernel
theorem dX4_gain_19 : decode cX4_gain 19 = .ok (.goto 15, 3) := by decide +kernel
theorem dX4_gain_22 : decode cX4_gain 22 = .ok (.aload_n 0, 1) := by decide +kernel
theorem dX4_gain_23 : decode cX4_gain 23 = .ok (.getfield 76, 3) := by decide +kernel
theorem dX4_gain_26 : decode cX4_gain 26 = .ok (.ifCond .ne 7, 3) := by decide +kernel
theorem dX4_gain_29 : decode cX4_gain 29 = .ok (.iconst 1, 1) := by decide +kernel
theorem dX4_gain_30 : decode cX4_gain 30 = .ok (.goto 4, 3) := by decide +kernel
theorem dX4_gain_33 : decode cX4_gain 33 = .ok (.iconst 0, 1) := by decide +kernel
theorem dX4_gain_34 : decode cX4_gain 34 = .ok (.ireturn, 1) := by decide +kernel
theorem dX4_lie_0 : decode cX4_lie 0 = .ok (.iload_n 1, 1) := by decide +kernel
theorem dX4_lie_1 : decode cX4_lie 1 = .ok (.i2l, 1) := by decide +kernel
theorem dX4_lie_2 : decode cX4_lie 2 = .ok (.lconst 0, 1) := by decide +kernel
theorem dX4_lie_3 : decode cX4_lie 3 = .ok (.ldc2_w 89, 3) := by decide +kernel
theorem dX4_lie_6 : decode cX4_lie 6 = .ok (.invokestatic 58, 3) := by decide +kernel
theorem dX4_lie_9 : decode cX4_lie 9 = .ok (.ifCond .ne 10, 3) := by decide +kernel
theorem dX4_lie_12 : decode cX4_lie 12 = .ok (.aload_n 0, 1) := by decide +kernel
theorem dX4_lie_13 : decode cX4_lie 13 = .ok (.bipush (-2), 2) := by decide +kernel
theorem dX4_lie_15 : decode cX4_lie 15 = .ok (.invokevirtual 91, 3) := by decide +kernel
theorem dX4_lie_18 : decode cX4_lie 18 = .ok (.ireturn, 1) := by decide +kernel
theorem dX4_lie_19 : decode cX4_lie 19 = .ok (.aload_n 0, 1) := by decide +kernel
theorem dX4_lie_20 : decode cX4_lie 20 = .ok (.getfield 7, 3) := by decide +kernel
theorem dX4_lie_23 : decode cX4_lie 23 = .ok (.bipush 6, 2) := by decide +kernel
theorem dX4_lie_25 : decode cX4_lie 25 = .ok (.iaload, 1) := by decide +kernel
theorem dX4_lie_26 : decode cX4_lie 26 = .ok (.ifCond .eq 10, 3) := by decide +kernel
theorem dX4_lie_29 : decode cX4_lie 29 = .ok (.aload_n 0, 1) := by decide +kernel
theorem dX4_lie_30 : decode cX4_lie 30 = .ok (.bipush (-3), 2) := by decide +kernel
theorem dX4_lie_32 : decode cX4_lie 32 = .ok (.invokevirtual 91, 3) := by decide +kernel
theorem dX4_lie_35 : decode cX4_lie 35 = .ok (.ireturn, 1) := by decide +kernel
theorem dX4_lie_36 : decode cX4_lie 36 = .ok (.iconst 0, 1) := by decide +kernel
theorem dX4_lie_37 : decode cX4_lie 37 = .ok (.istore_n 2, 1) := by decide +kernel
theorem dX4_lie_38 : decode cX4_lie 38 = .ok (.iconst 0, 1) := by decide +kernel
theorem dX4_lie_39 : decode cX4_lie 39 = .ok (.istore_n 3, 1) := by decide +kernel
theorem dX4_lie_40 : decode cX4_lie 40 = .ok (.iload_n 3, 1) := by decide +kernel
theorem dX4_lie_41 : decode cX4_lie 41 = .ok (.iconst 4, 1) := by decide +kernel
theorem dX4_lie_42 : decode cX4_lie 42 = .ok (.if_icmp .ge 115, 3) := by decide +kernel
theorem dX4_lie_45 : decode cX4_lie 45 = .ok (.iload_n 3, 1) := by decide +kernel
theorem dX4_lie_46 : decode cX4_lie 46 = .ok (.iconst 2, 1) := by decide +kernel
theorem dX4_lie_47 : decode cX4_lie 47 = .ok (.irem, 1) := by decide +kernel
theorem dX4_lie_48 : decode cX4_lie 48 = .ok (.ifCond .ne 7, 3) := by decide +kernel
theorem dX4_lie_51 : decode cX4_lie 51 = .ok (.iload_n 1, 1) := by decide +kernel
theorem dX4_lie_52 : decode cX4_lie 52 = .ok (.goto 4, 3) := by decide +kernel
theorem dX4_lie_55 : decode cX4_lie 55 = .ok (.iconst 0, 1) := by decide +kernel
theorem dX4_lie_56 : decode cX4_lie 56 = .ok (.istore 4, 2) := by decide +kernel
theorem dX4_lie_58 : decode cX4_lie 58 = .ok (.iload_n 3, 1) := by decide +kernel
theorem dX4_lie_59 : decode cX4_lie 59 = .ok (.iconst 2, 1) := by decide +kernel
theorem dX4_lie_60 : decode cX4_lie 60 = .ok (.irem, 1) := by decide +kernel
theorem dX4_lie_61 : decode cX4_lie 61 = .ok (.ifCond .ne 7, 3) := by decide +kernel
theorem dX4_lie_64 : decode cX4_lie 64 = .ok (.iconst 0, 1) := by decide +kernel
theorem dX4_lie_65 : decode cX4_lie 65 = .ok (.goto 4, 3) := by decide +kernel
theorem dX4_lie_68 : decode cX4_lie 68 = .ok (.iload_n 1, 1) := by decide +kernel
theorem dX4_lie_69 : decode cX4_lie 69 = .ok (.istore 5, 2) := by decide +kernel
theorem dX4_lie_71 : decode cX4_lie 71 = .ok (.iload_n 3, 1) := by decide +kernel
theorem dX4_lie_72 : decode cX4_lie 72 = .ok (.iconst 2, 1) := by decide +kernel
theorem dX4_lie_73 : decode cX4_lie 73 = .ok (.if_icmp .ge 7, 3) := by decide +kernel
theorem dX4_lie_76 : decode cX4_lie 76 = .ok (.iconst 1, 1) := by decide +kernel
theorem dX4_lie_77 : decode cX4_lie 77 = .ok (.goto 4, 3) := by decide +kernel
theorem dX4_lie_80 : decode cX4_lie 80 = .ok (.iconst 0, 1) := by decide +kernel
theorem dX4_lie_81 : decode cX4_lie 81 = .ok (.istore 6, 2) := by decide +kernel
theorem dX4_lie_83 : decode cX4_lie 83 = .ok (.aload_n 0, 1) := by decide +kernel
theorem dX4_lie_84 : decode cX4_lie 84 = .ok (.iload 4, 2) := by decide +kernel
theorem dX4_lie_86 : decode cX4_lie 86 = .ok (.iload 6, 2) := by decide +kernel
theorem dX4_lie_88 : decode cX4_lie 88 = .ok (.invokevirtual 232, 3) := by decide +kernel
theorem dX4_lie_91 : decode cX4_lie 91 = .ok (.aload_n 0, 1) := by decide +kernel
theorem dX4_lie_92 : decode cX4_lie 92 = .ok (.iload 5, 2) := by decide +kernel
theorem dX4_lie_94 : decode cX4_lie 94 = .ok (.iload 6, 2) := by decide +kernel
theorem dX4_lie_96 : decode cX4_lie 96 = .ok (.invokevirtual 232, 3) := by decide +kernel
theorem dX4_lie_99 : decode cX4_lie 99 = .ok (.if_icmp .lt 34, 3) := by decide +kernel
theorem dX4_lie_102 : decode cX4_lie 102 = .ok (.aload_n 0, 1) := by decide +kernel
theorem dX4_lie_103 : decode cX4_lie 103 = .ok (.iload 4, 2) := by decide +kernel
theorem dX4_lie_105 : decode cX4_lie 105 = .ok (.iload 6, 2) := by decide +kernel
theorem dX4_lie_107 : decode cX4_lie 107 = .ok (.invokevirtual 232, 3) := by decide +kernel
theorem dX4_lie_110 : decode cX4_lie 110 = .ok (.aload_n 0, 1) := by decide +kernel
theorem dX4_lie_111 : decode cX4_lie 111 = .ok (.iload 4, 2) := by decide +kernel
theorem dX4_lie_113 : decode cX4_lie 113 = .ok (.iload 6, 2) := by decide +kernel
theorem dX4_lie_115 : decode cX4_lie 115 = .ok (.ifCond .ne 7, 3) := by decide +kernel
theorem dX4_lie_118 : decode cX4_lie 118 = .ok (.iconst 1, 1) := by decide +kernel
theorem dX4_lie_119 : decode cX4_lie 119 = .ok (.goto 4, 3) := by decide +kernel
theorem dX4_lie_122 : decode cX4_lie 122 = .ok (.iconst 0, 1) := by decide +kernel
theorem dX4_lie_123 : decode cX4_lie 123 = .ok (.invokevirtual 232, 3) := by decide +kernel
theorem dX4_lie_126 : decode cX4_lie 126 = .ok (.if_icmp .gt 7, 3) := by decide +kernel
theorem dX4_lie_129 : decode cX4_lie 129 = .ok (.iconst 1, 1) := by decide +kernel
theorem dX4_lie_130 : decode cX4_lie 130 = .ok (.goto 4, 3) := by decide +kernel
theorem dX4_lie_133 : decode cX4_lie 133 = .ok (.iconst 0, 1) := by decide +kernel
theorem dX4_lie_134 : decode cX4_lie 134 = .ok (.istore 7, 2) := by decide +kernel
theorem dX4_lie_136 : decode cX4_lie 136 = .ok (.iload_n 2, 1) := by decide +kernel
theorem dX4_lie_137 : decode cX4_lie 137 = .ok (.iload 7, 2) := by decide +kernel
theorem dX4_lie_139 : decode cX4_lie 139 = .ok (.ifCond .eq 9, 3) := by decide +kernel
theorem dX4_lie_142 : decode cX4_lie 142 = .ok (.iconst 1, 1) := by decide +kernel
theorem dX4_lie_143 : decode cX4_lie 143 = .ok (.iload_n 3, 1) := by decide +kernel
theorem dX4_lie_144 : decode cX4_lie 144 = .ok (.ishl, 1) := by decide +kernel
theorem dX4_lie_145 : decode cX4_lie 145 = .ok (.goto 4, 3) := by decide +kernel
theorem dX4_lie_148 : decode cX4_lie 148 = .ok (.iconst 0, 1) := by decide +kernel
theorem dX4_lie_149 : decode cX4_lie 149 = .ok (.ior, 1) := by decide +kernel
theorem dX4_lie_150 : decode cX4_lie 150 = .ok (.istore_n 2, 1) := by decide +kernel
theorem dX4_lie_151 : decode cX4_lie 151 = .ok (.iinc 3 1, 3) := by decide +kernel
theorem dX4_lie_154 : decode cX4_lie 154 = .ok (.goto (-114), 3) := by decide +kernel
theorem dX4_lie_157 : decode cX4_lie 157 = .ok (.iload_n 2, 1) := by decide +kernel
theorem dX4_lie_158 : decode cX4_lie 158 = .ok (.ireturn, 1) := by decide +kernel
theorem dX4_odds_0 : decode cX4_odds 0 = .ok (.aload_n 0, 1) := by decide +kernel
theorem dX4_odds_1 : decode cX4_odds 1 = .ok (.iload_n 1, 1) := by decide +kernel
theorem dX4_odds_2 : decode cX4_odds 2 = .ok (.bipush 7, 2) := by decide +kernel
theorem dX4_odds_4 : decode cX4_odds 4 = .ok (.invokevirtual 176, 3) := by decide +kernel
theorem dX4_odds_7 : decode cX4_odds 7 = .ok (.ifCond .eq 15, 3) := by decide +kernel
theorem dX4_odds_10 : decode cX4_odds 10 = .ok (.iload_n 2, 1) := by decide +kernel
theorem dX4_odds_11 : decode cX4_odds 11 = .ok (.i2l, 1) := by decide +kernel
theorem dX4_odds_12 : decode cX4_odds 12 = .ok (.lconst 0, 1) := by decide +kernel
theorem dX4_odds_13 : decode cX4_odds 13 = .ok (.ldc2_w 236, 3) := by decide +kernel
theorem dX4_odds_16 : decode cX4_odds 16 = .ok (.invokestatic 58, 3) := by decide +kernel
theorem dX4_odds_19 : decode cX4_odds 19 = .ok (.ifCond .ne 10, 3) := by decide +kernel
theorem dX4_odds_22 : decode cX4_odds 22 = .ok (.aload_n 0, 1) := by decide +kernel
theorem dX4_odds_23 : decode cX4_odds 23 = .ok (.bipush (-2), 2) := by decide +kernel
theorem dX4_odds_25 : decode cX4_odds 25 = .ok (.invokevirtual 91, 3) := by decide +kernel
theorem dX4_odds_28 : decode cX4_odds 28 = .ok (.ireturn, 1) := by decide +kernel
theorem dX4_odds_29 : decode cX4_odds 29 = .ok (.lconst 1, 1) := by decide +kernel
theorem dX4_odds_30 : decode cX4_odds 30 = .ok (.lstore_n 3, 1) := by decide +kernel
theorem dX4_odds_31 : decode cX4_odds 31 = .ok (.iconst 0, 1) := by decide +kernel
theorem dX4_odds_32 : decode cX4_odds 32 = .ok (.istore 5, 2) := by decide +kernel
theorem dX4_odds_34 : decode cX4_odds 34 = .ok (.iload 5, 2) := by decide +kernel
theorem dX4_odds_36 : decode cX4_odds 36 = .ok (.aload_n 0, 1) := by decide +kernel
theorem dX4_odds_37 : decode cX4_odds 37 = .ok (.getfield 173, 3) := by decide +kernel
theorem dX4_odds_40 : decode cX4_odds 40 = .ok (.if_icmp .ge 15, 3) := by decide +kernel
theorem dX4_odds_43 : decode cX4_odds 43 = .ok (.lload_n 3, 1) := by decide +kernel
theorem dX4_odds_44 : decode cX4_odds 44 = .ok (.ldc2_w 236, 3) := by decide +kernel
theorem dX4_odds_47 : decode cX4_odds 47 = .ok (.lmul, 1) := by decide +kernel
theorem dX4_odds_48 : decode cX4_odds 48 = .ok (.lstore_n 3, 1) := by decide +kernel
theorem dX4_odds_49 : decode cX4_odds 49 = .ok (.iinc 5 1, 3) := by decide +kernel
theorem dX4_odds_52 : decode cX4_odds 52 = .ok (.goto (-18), 3) := by decide +kernel
theorem dX4_odds_55 : decode cX4_odds 55 = .ok (.lconst 0, 1) := by decide +kernel
theorem dX4_odds_56 : decode cX4_odds 56 = .ok (.lstore 5, 2) := by decide +kernel
theorem dX4_odds_58 : decode cX4_odds 58 = .ok (.iconst 0, 1) := by decide +kernel
theorem dX4_odds_59 : decode cX4_odds 59 = .ok (.istore 7, 2) := by decide +kernel
theorem dX4_odds_61 : decode cX4_odds 61 = .ok (.iload 7, 2) := by decide +kernel
theorem dX4_odds_63 : decode cX4_odds 63 = .ok (.iconst 1, 1) := by decide +kernel
theorem dX4_odds_64 : decode cX4_odds 64 = .ok (.aload_n 0, 1) := by decide +kernel
theorem dX4_odds_65 : decode cX4_odds 65 = .ok (.getfield 173, 3) := by decide +kernel
theorem dX4_odds_68 : decode cX4_odds 68 = .ok (.ishl, 1) := by decide +kernel
theorem dX4_odds_69 : decode cX4_odds 69 = .ok (.if_icmp .ge 115, 3) := by decide +kernel
theorem dX4_odds_72 : decode cX4_odds 72 = .ok (.aload_n 0, 1) := by decide +kernel
theorem dX4_odds_73 : decode cX4_odds 73 = .ok (.invokevirtual 136, 3) := by decide +kernel
theorem dX4_odds_76 : decode cX4_odds 76 = .ok (.lconst 1, 1) := by decide +kernel
theorem dX4_odds_77 : decode cX4_odds 77 = .ok (.lstore 8, 2) := by decide +kernel
theorem dX4_odds_79 : decode cX4_odds 79 = .ok (.iconst 0, 1) := by decide +kernel
theorem dX4_odds_80 : decode cX4_odds 80 = .ok (.istore 10, 2) := by decide +kernel
theorem dX4_odds_82 : decode cX4_odds 82 = .ok (.iload 10, 2) := by decide +kernel
theorem dX4_odds_84 : decode cX4_odds 84 = .ok (.aload_n 0, 1) := by decide +kernel
theorem dX4_odds_85 : decode cX4_odds 85 = .ok (.getfield 173, 3) := by decide +kernel
theorem dX4_odds_88 : decode cX4_odds 88 = .ok (.if_icmp .ge 71, 3) := by decide +kernel
theorem dX4_odds_91 : decode cX4_odds 91 = .ok (.iload 7, 2) := by decide +kernel
theorem dX4_odds_93 : decode cX4_odds 93 = .ok (.iload 10, 2) := by decide +kernel
theorem dX4_odds_95 : decode cX4_odds 95 = .ok (.ishr, 1) := by decide +kernel
theorem dX4_odds_96 : decode cX4_odds 96 = .ok (.iconst 1, 1) := by decide +kernel
theorem dX4_odds_97 : decode cX4_odds 97 = .ok (.iand, 1) := by decide +kernel
theorem dX4_odds_98 : decode cX4_odds 98 = .ok (.iconst 1, 1) := by decide +kernel
theorem dX4_odds_99 : decode cX4_odds 99 = .ok (.if_icmp .ne 7, 3) := by decide +kernel
theorem dX4_odds_102 : decode cX4_odds 102 = .ok (.iconst 1, 1) := by decide +kernel
theorem dX4_odds_103 : decode cX4_odds 103 = .ok (.goto 4, 3) := by decide +kernel
theorem dX4_odds_106 : decode cX4_odds 106 = .ok (.iconst 0, 1) := by decide +kernel
theorem dX4_odds_107 : decode cX4_odds 107 = .ok (.istore 11, 2) := by decide +kernel
theorem dX4_odds_109 : decode cX4_odds 109 = .ok (.lload 8, 2) := by decide +kernel
theorem dX4_odds_111 : decode cX4_odds 111 = .ok (.iload 11, 2) := by decide +kernel
theorem dX4_odds_113 : decode cX4_odds 113 = .ok (.ifCond .eq 8, 3) := by decide +kernel
theorem dX4_odds_116 : decode cX4_odds 116 = .ok (.iload_n 2, 1) := by decide +kernel
theorem dX4_odds_117 : decode cX4_odds 117 = .ok (.i2l, 1) := by decide +kernel
theorem dX4_odds_118 : decode cX4_odds 118 = .ok (.goto 8, 3) := by decide +kernel
theorem dX4_odds_121 : decode cX4_odds 121 = .ok (.bipush 10, 2) := by decide +kernel
theorem dX4_odds_123 : decode cX4_odds 123 = .ok (.iload_n 2, 1) := by decide +kernel
theorem dX4_odds_124 : decode cX4_odds 124 = .ok (.isub, 1) := by decide +kernel
theorem dX4_odds_125 : decode cX4_odds 125 = .ok (.i2l, 1) := by decide +kernel
theorem dX4_odds_126 : decode cX4_odds 126 = .ok (.lmul, 1) := by decide +kernel
theorem dX4_odds_127 : decode cX4_odds 127 = .ok (.lstore 8, 2) := by decide +kernel
theorem dX4_odds_129 : decode cX4_odds 129 = .ok (.iload 11, 2) := by decide +kernel
theorem dX4_odds_131 : decode cX4_odds 131 = .ok (.ifCond .eq 22, 3) := by decide +kernel
theorem dX4_odds_134 : decode cX4_odds 134 = .ok (.aload_n 0, 1) := by decide +kernel
theorem dX4_odds_135 : decode cX4_odds 135 = .ok (.getfield 76, 3) := by decide +kernel
theorem dX4_odds_138 : decode cX4_odds 138 = .ok (.ifCond .ne 15, 3) := by decide +kernel
theorem dX4_odds_141 : decode cX4_odds 141 = .ok (.aload_n 0, 1) := by decide +kernel
theorem dX4_odds_142 : decode cX4_odds 142 = .ok (.aload_n 0, 1) := by decide +kernel
theorem dX4_odds_143 : decode cX4_odds 143 = .ok (.getfield 28, 3) := by decide +kernel
theorem dX4_odds_146 : decode cX4_odds 146 = .ok (.iload 10, 2) := by decide +kernel
theorem dX4_odds_148 : decode cX4_odds 148 = .ok (.iaload, 1) := by decide +kernel
theorem dX4_odds_149 : decode cX4_odds 149 = .ok (.iconst 1, 1) := by decide +kernel
theorem dX4_odds_150 : decode cX4_odds 150 = .ok (.invokevirtual 139, 3) := by decide +kernel
theorem dX4_odds_153 : decode cX4_odds 153 = .ok (.iinc 10 1, 3) := by decide +kernel
theorem dX4_odds_156 : decode cX4_odds 156 = .ok (.goto (-74), 3) := by decide +kernel
theorem dX4_odds_159 : decode cX4_odds 159 = .ok (.lload 5, 2) := by decide +kernel
theorem dX4_odds_161 : decode cX4_odds 161 = .ok (.aload_n 0, 1) := by decide +kernel
theorem dX4_odds_162 : decode cX4_odds 162 = .ok (.getfield 76, 3) := by decide +kernel
theorem dX4_odds_165 : decode cX4_odds 165 = .ok (.iconst 1, 1) := by decide +kernel
theorem dX4_odds_166 : decode cX4_odds 166 = .ok (.if_icmp .ne 8, 3) := by decide +kernel
theorem dX4_odds_169 : decode cX4_odds 169 = .ok (.lload 8, 2) := by decide +kernel
theorem dX4_odds_171 : decode cX4_odds 171 = .ok (.goto 4, 3) := by decide +kernel
theorem dX4_odds_174 : decode cX4_odds 174 = .ok (.lconst 0, 1) := by decide +kernel
theorem dX4_odds_175 : decode cX4_odds 175 = .ok (.ladd, 1) := by decide +kernel
theorem dX4_odds_176 : decode cX4_odds 176 = .ok (.lstore 5, 2) := by decide +kernel
theorem dX4_odds_178 : decode cX4_odds 178 = .ok (.iinc 7 1, 3) := by decide +kernel
theorem dX4_odds_181 : decode cX4_odds 181 = .ok (.goto (-120), 3) := by decide +kernel
theorem dX4_odds_184 : decode cX4_odds 184 = .ok (.aload_n 0, 1) := by decide +kernel
theorem dX4_odds_185 : decode cX4_odds 185 = .ok (.lload 5, 2) := by decide +kernel
theorem dX4_odds_187 : decode cX4_odds 187 = .ok (.lload_n 3, 1) := by decide +kernel
theorem dX4_odds_188 : decode cX4_odds 188 = .ok (.invokevirtual 218, 3) := by decide +kernel
theorem dX4_odds_191 : decode cX4_odds 191 = .ok (.iconst 1, 1) := by decide +kernel
theorem dX4_odds_192 : decode cX4_odds 192 = .ok (.ireturn, 1) := by decide +kernel
theorem dX4_jars_0 : decode cX4_jars 0 = .ok (.iload_n 1, 1) := by decide +kernel
theorem dX4_jars_1 : decode cX4_jars 1 = .ok (.i2l, 1) := by decide +kernel
theorem dX4_jars_2 : decode cX4_jars 2 = .ok (.lconst 0, 1) := by decide +kernel
theorem dX4_jars_3 : decode cX4_jars 3 = .ok (.ldc2_w 238, 3) := by decide +kernel
theorem dX4_jars_6 : decode cX4_jars 6 = .ok (.invokestatic 58, 3) := by decide +kernel
theorem dX4_jars_9 : decode cX4_jars 9 = .ok (.ifCond .eq 15, 3) := by decide +kernel
theorem dX4_jars_12 : decode cX4_jars 12 = .ok (.iload_n 2, 1) := by decide +kernel
theorem dX4_jars_13 : decode cX4_jars 13 = .ok (.i2l, 1) := by decide +kernel
theorem dX4_jars_14 : decode cX4_jars 14 = .ok (.lconst 0, 1) := by decide +kernel
theorem dX4_jars_15 : decode cX4_jars 15 = .ok (.ldc2_w 240, 3) := by decide +kernel
theorem dX4_jars_18 : decode cX4_jars 18 = .ok (.invokestatic 58, 3) := by decide +kernel
theorem dX4_jars_21 : decode cX4_jars 21 = .ok (.ifCond .ne 10, 3) := by decide +kernel
theorem dX4_jars_24 : decode cX4_jars 24 = .ok (.aload_n 0, 1) := by decide +kernel
theorem dX4_jars_25 : decode cX4_jars 25 = .ok (.bipush (-2), 2) := by decide +kernel
theorem dX4_jars_27 : decode cX4_jars 27 = .ok (.invokevirtual 91, 3) := by decide +kernel
theorem dX4_jars_30 : decode cX4_jars 30 = .ok (.ireturn, 1) := by decide +kernel
theorem dX4_jars_31 : decode cX4_jars 31 = .ok (.iload_n 1, 1) := by decide +kernel
theorem dX4_jars_32 : decode cX4_jars 32 = .ok (.i2l, 1) := by decide +kernel
theorem dX4_jars_33 : decode cX4_jars 33 = .ok (.lstore_n 3, 1) := by decide +kernel
theorem dX4_jars_34 : decode cX4_jars 34 = .ok (.iconst 0, 1) := by decide +kernel
theorem dX4_jars_35 : decode cX4_jars 35 = .ok (.istore 5, 2) := by decide +kernel
theorem dX4_jars_37 : decode cX4_jars 37 = .ok (.iconst 0, 1) := by decide +kernel
theorem dX4_jars_38 : decode cX4_jars 38 = .ok (.istore 6, 2) := by decide +kernel
theorem dX4_jars_40 : decode cX4_jars 40 = .ok (.iload 6, 2) := by decide +kernel
theorem dX4_jars_42 : decode cX4_jars 42 = .ok (.iload_n 2, 1) := by decide +kernel
theorem dX4_jars_43 : decode cX4_jars 43 = .ok (.if_icmp .ge 83, 3) := by decide +kernel
theorem dX4_jars_46 : decode cX4_jars 46 = .ok (.aload_n 0, 1) := by decide +kernel
theorem dX4_jars_47 : decode cX4_jars 47 = .ok (.invokevirtual 136, 3) := by decide +kernel
theorem dX4_jars_50 : decode cX4_jars 50 = .ok (.iconst 0, 1) := by decide +kernel
theorem dX4_jars_51 : decode cX4_jars 51 = .ok (.istore 7, 2) := by decide +kernel
theorem dX4_jars_53 : decode cX4_jars 53 = .ok (.iload 7, 2) := by decide +kernel
theorem dX4_jars_55 : decode cX4_jars 55 = .ok (.bipush 20, 2) := by decide +kernel
theorem dX4_jars_57 : decode cX4_jars 57 = .ok (.if_icmp .ge 45, 3) := by decide +kernel
theorem dX4_jars_60 : decode cX4_jars 60 = .ok (.aload_n 0, 1) := by decide +kernel
theorem dX4_jars_61 : decode cX4_jars 61 = .ok (.getfield 76, 3) := by decide +kernel
theorem dX4_jars_64 : decode cX4_jars 64 = .ok (.ifCond .ne 38, 3) := by decide +kernel
theorem dX4_jars_67 : decode cX4_jars 67 = .ok (.lload_n 3, 1) := by decide +kernel
theorem dX4_jars_68 : decode cX4_jars 68 = .ok (.ldc2_w 242, 3) := by decide +kernel
theorem dX4_jars_71 : decode cX4_jars 71 = .ok (.lmul, 1) := by decide +kernel
theorem dX4_jars_72 : decode cX4_jars 72 = .ok (.ldc2_w 244, 3) := by decide +kernel
theorem dX4_jars_75 : decode cX4_jars 75 = .ok (.ladd, 1) := by decide +kernel
theorem dX4_jars_76 : decode cX4_jars 76 = .ok (.ldc2_w 246, 3) := by decide +kernel
theorem dX4_jars_79 : decode cX4_jars 79 = .ok (.lrem, 1) := by decide +kernel
theorem dX4_jars_80 : decode cX4_jars 80 = .ok (.lstore_n 3, 1) := by decide +kernel
theorem dX4_jars_81 : decode cX4_jars 81 = .ok (.aload_n 0, 1) := by decide +kernel
theorem dX4_jars_82 : decode cX4_jars 82 = .ok (.lload_n 3, 1) := by decide +kernel
theorem dX4_jars_83 : decode cX4_jars 83 = .ok (.ldc2_w 248, 3) := by decide +kernel
theorem dX4_jars_86 : decode cX4_jars 86 = .ok (.ldiv, 1) := by decide +kernel
theorem dX4_jars_87 : decode cX4_jars 87 = .ok (.ldc2_w 171, 3) := by decide +kernel
theorem dX4_jars_90 : decode cX4_jars 90 = .ok (.lrem, 1) := by decide +kernel
theorem dX4_jars_91 : decode cX4_jars 91 = .ok (.l2i, 1) := by decide +kernel
theorem dX4_jars_92 : decode cX4_jars 92 = .ok (.iconst 1, 1) := by decide +kernel
theorem dX4_jars_93 : decode cX4_jars 93 = .ok (.invokevirtual 139, 3) := by decide +kernel
theorem dX4_jars_96 : decode cX4_jars 96 = .ok (.iinc 7 1, 3) := by decide +kernel
theorem dX4_jars_99 : decode cX4_jars 99 = .ok (.goto (-46), 3) := by decide +kernel
theorem dX4_jars_102 : decode cX4_jars 102 = .ok (.iload 5, 2) := by decide +kernel
theorem dX4_jars_104 : decode cX4_jars 104 = .ok (.aload_n 0, 1) := by decide +kernel
theorem dX4_jars_105 : decode cX4_jars 105 = .ok (.getfield 76, 3) := by decide +kernel
theorem dX4_jars_108 : decode cX4_jars 108 = .ok (.iconst 1, 1) := by decide +kernel
theorem dX4_jars_109 : decode cX4_jars 109 = .ok (.if_icmp .ne 7, 3) := by decide +kernel
theorem dX4_jars_112 : decode cX4_jars 112 = .ok (.iconst 1, 1) := by decide +kernel
theorem dX4_jars_113 : decode cX4_jars 113 = .ok (.goto 4, 3) := by decide +kernel
theorem dX4_jars_116 : decode cX4_jars 116 = .ok (.iconst 0, 1) := by decide +kernel
theorem dX4_jars_117 : decode cX4_jars 117 = .ok (.iadd, 1) := by decide +kernel
theorem dX4_jars_118 : decode cX4_jars 118 = .ok (.istore 5, 2) := by decide +kernel
theorem dX4_jars_120 : decode cX4_jars 120 = .ok (.iinc 6 1, 3) := by decide +kernel
theorem dX4_jars_123 : decode cX4_jars 123 = .ok (.goto (-83), 3) := by decide +kernel
theorem dX4_jars_126 : decode cX4_jars 126 = .ok (.iload 5, 2) := by decide +kernel
theorem dX4_jars_128 : decode cX4_jars 128 = .ok (.ireturn, 1) := by decide +kernel
theorem dX4_part_0 : decode cX4_part 0 = .ok (.iload_n 1, 1) := by decide +kernel
theorem dX4_part_1 : decode cX4_part 1 = .ok (.ifCond .ne 10, 3) := by decide +kernel
theorem dX4_part_4 : decode cX4_part 4 = .ok (.aload_n 0, 1) := by decide +kernel
theorem dX4_part_5 : decode cX4_part 5 = .ok (.getfield 215, 3) := by decide +kernel
theorem dX4_part_8 : decode cX4_part 8 = .ok (.goto 22, 3) := by decide +kernel
theorem dX4_part_11 : decode cX4_part 11 = .ok (.iload_n 1, 1) := by decide +kernel
theorem dX4_part_12 : decode cX4_part 12 = .ok (.iconst 1, 1) := by decide +kernel
theorem dX4_part_13 : decode cX4_part 13 = .ok (.if_icmp .ne 10, 3) := by decide +kernel
theorem dX4_part_16 : decode cX4_part 16 = .ok (.aload_n 0, 1) := by decide +kernel
theorem dX4_part_17 : decode cX4_part 17 = .ok (.getfield 42, 3) := by decide +kernel
theorem dX4_part_20 : decode cX4_part 20 = .ok (.goto 10, 3) := by decide +kernel
theorem dX4_part_23 : decode cX4_part 23 = .ok (.aload_n 0, 1) := by decide +kernel
theorem dX4_part_24 : decode cX4_part 24 = .ok (.bipush (-2), 2) := by decide +kernel
theorem dX4_part_26 : decode cX4_part 26 = .ok (.invokevirtual 91, 3) := by decide +kernel
theorem dX4_part_29 : decode cX4_part 29 = .ok (.i2l, 1) := by decide +kernel
theorem dX4_part_30 : decode cX4_part 30 = .ok (.lreturn, 1) := by decide +kernel
theorem dX4_image_0 : decode cX4_image 0 = .ok (.iload_n 1, 1) := by decide +kernel
theorem dX4_image_1 : decode cX4_image 1 = .ok (.i2l, 1) := by decide +kernel
theorem dX4_image_2 : decode cX4_image 2 = .ok (.lconst 0, 1) := by decide +kernel
theorem dX4_image_3 : decode cX4_image 3 = .ok (.lconst 1, 1) := by decide +kernel
theorem dX4_image_4 : decode cX4_image 4 = .ok (.invokestatic 58, 3) := by decide +kernel
theorem dX4_image_7 : decode cX4_image 7 = .ok (.ifCond .ne 10, 3) := by decide +kernel
theorem dX4_image_10 : decode cX4_image 10 = .ok (.aload_n 0, 1) := by decide +kernel
theorem dX4_image_11 : decode cX4_image 11 = .ok (.bipush (-2), 2) := by decide +kernel
theorem dX4_image_13 : decode cX4_image 13 = .ok (.invokevirtual 91, 3) := by decide +kernel
theorem dX4_image_16 : decode cX4_image 16 = .ok (.ireturn, 1) := by decide +kernel
theorem dX4_image_17 : decode cX4_image 17 = .ok (.iconst 0, 1) := by decide +kernel
theorem dX4_image_18 : decode cX4_image 18 = .ok (.istore_n 2, 1) := by decide +kernel
theorem dX4_image_19 : decode cX4_image 19 = .ok (.iload_n 2, 1) := by decide +kernel
theorem dX4_image_20 : decode cX4_image 20 = .ok (.bipush 73, 2) := by decide +kernel
theorem dX4_image_22 : decode cX4_image 22 = .ok (.if_icmp .ge 26, 3) := by decide +kernel
theorem dX4_image_25 : decode cX4_image 25 = .ok (.aload_n 0, 1) := by decide +kernel
theorem dX4_image_26 : decode cX4_image 26 = .ok (.getfield 46, 3) := by decide +kernel
theorem dX4_image_29 : decode cX4_image 29 = .ok (.bipush 73, 2) := by decide +kernel
theorem dX4_image_31 : decode cX4_image 31 = .ok (.iload_n 1, 1) := by decide +kernel
theorem dX4_image_32 : decode cX4_image 32 = .ok (.imul, 1) := by decide +kernel
theorem dX4_image_33 : decode cX4_image 33 = .ok (.iload_n 2, 1) := by decide +kernel
theorem dX4_image_34 : decode cX4_image 34 = .ok (.iadd, 1) := by decide +kernel
theorem dX4_image_35 : decode cX4_image 35 = .ok (.aload_n 0, 1) := by decide +kernel
theorem dX4_image_36 : decode cX4_image 36 = .ok (.getfield 7, 3) := by decide +kernel
theorem dX4_image_39 : decode cX4_image 39 = .ok (.iload_n 2, 1) := by decide +kernel
theorem dX4_image_40 : decode cX4_image 40 = .ok (.iaload, 1) := by decide +kernel
theorem dX4_image_41 : decode cX4_image 41 = .ok (.iastore, 1) := by decide +kernel
theorem dX4_image_42 : decode cX4_image 42 = .ok (.iinc 2 1, 3) := by decide +kernel
theorem dX4_image_45 : decode cX4_image 45 = .ok (.goto (-26), 3) := by decide +kernel
theorem dX4_image_48 : decode cX4_image 48 = .ok (.aload_n 0, 1) := by decide +kernel
theorem dX4_image_49 : decode cX4_image 49 = .ok (.getfield 49, 3) := by decide +kernel
theorem dX4_image_52 : decode cX4_image 52 = .ok (.iload_n 1, 1) := by decide +kernel
theorem dX4_image_53 : decode cX4_image 53 = .ok (.iconst 1, 1) := by decide +kernel
theorem dX4_image_54 : decode cX4_image 54 = .ok (.bastore, 1) := by decide +kernel
theorem dX4_image_55 : decode cX4_image 55 = .ok (.iconst 1, 1) := by decide +kernel
theorem dX4_image_56 : decode cX4_image 56 = .ok (.ireturn, 1) := by decide +kernel
theorem dX4_from_0 : decode cX4_from 0 = .ok (.iload_n 1, 1) := by decide +kernel
theorem dX4_from_1 : decode cX4_from 1 = .ok (.i2l, 1) := by decide +kernel
theorem dX4_from_2 : decode cX4_from 2 = .ok (.lconst 0, 1) := by decide +kernel
theorem dX4_from_3 : decode cX4_from 3 = .ok (.lconst 1, 1) := by decide +kernel
theorem dX4_from_4 : decode cX4_from 4 = .ok (.invokestatic 58, 3) := by decide +kernel
theorem dX4_from_7 : decode cX4_from 7 = .ok (.ifCond .ne 10, 3) := by decide +kernel
theorem dX4_from_10 : decode cX4_from 10 = .ok (.aload_n 0, 1) := by decide +kernel
theorem dX4_from_11 : decode cX4_from 11 = .ok (.bipush (-2), 2) := by decide +kernel
theorem dX4_from_13 : decode cX4_from 13 = .ok (.invokevirtual 91, 3) := by decide +kernel
theorem dX4_from_16 : decode cX4_from 16 = .ok (.ireturn, 1) := by decide +kernel
theorem dX4_from_17 : decode cX4_from 17 = .ok (.aload_n 0, 1) := by decide +kernel
theorem dX4_from_18 : decode cX4_from 18 = .ok (.getfield 49, 3) := by decide +kernel
theorem dX4_from_21 : decode cX4_from 21 = .ok (.iload_n 1, 1) := by decide +kernel
theorem dX4_from_22 : decode cX4_from 22 = .ok (.baload, 1) := by decide +kernel
theorem dX4_from_23 : decode cX4_from 23 = .ok (.ifCond .ne 10, 3) := by decide +kernel
theorem dX4_from_26 : decode cX4_from 26 = .ok (.aload_n 0, 1) := by decide +kernel
theorem dX4_from_27 : decode cX4_from 27 = .ok (.bipush (-3), 2) := by decide +kernel
theorem dX4_from_29 : decode cX4_from 29 = .ok (.invokevirtual 91, 3) := by decide +kernel
theorem dX4_from_32 : decode cX4_from 32 = .ok (.ireturn, 1) := by decide +kernel
theorem dX4_from_33 : decode cX4_from 33 = .ok (.iconst 0, 1) := by decide +kernel
theorem dX4_from_34 : decode cX4_from 34 = .ok (.istore_n 2, 1) := by decide +kernel
theorem dX4_from_35 : decode cX4_from 35 = .ok (.iload_n 2, 1) := by decide +kernel
theorem dX4_from_36 : decode cX4_from 36 = .ok (.bipush 73, 2) := by decide +kernel
theorem dX4_from_38 : decode cX4_from 38 = .ok (.if_icmp .ge 26, 3) := by decide +kernel
theorem dX4_from_41 : decode cX4_from 41 = .ok (.aload_n 0, 1) := by decide +kernel
theorem dX4_from_42 : decode cX4_from 42 = .ok (.getfield 7, 3) := by decide +kernel
theorem dX4_from_45 : decode cX4_from 45 = .ok (.iload_n 2, 1) := by decide +kernel
theorem dX4_from_46 : decode cX4_from 46 = .ok (.aload_n 0, 1) := by decide +kernel
theorem dX4_from_47 : decode cX4_from 47 = .ok (.getfield 46, 3) := by decide +kernel
theorem dX4_from_50 : decode cX4_from 50 = .ok (.bipush 73, 2) := by decide +kernel
theorem dX4_from_52 : decode cX4_from 52 = .ok (.iload_n 1, 1) := by decide +kernel
theorem dX4_from_53 : decode cX4_from 53 = .ok (.imul, 1) := by decide +kernel
theorem dX4_from_54 : decode cX4_from 54 = .ok (.iload_n 2, 1) := by decide +kernel
theorem dX4_from_55 : decode cX4_from 55 = .ok (.iadd, 1) := by decide +kernel
theorem dX4_from_56 : decode cX4_from 56 = .ok (.iaload, 1) := by decide +kernel
theorem dX4_from_57 : decode cX4_from 57 = .ok (.iastore, 1) := by decide +kernel
theorem dX4_from_58 : decode cX4_from 58 = .ok (.iinc 2 1, 3) := by decide +kernel
theorem dX4_from_61 : decode cX4_from 61 = .ok (.goto (-26), 3) := by decide +kernel
theorem dX4_from_64 : decode cX4_from 64 = .ok (.iconst 1, 1) := by decide +kernel
theorem dX4_from_65 : decode cX4_from 65 = .ok (.ireturn, 1) := by decide +kernel
theorem dX4_countOf_0 : decode cX4_countOf 0 = .ok (.iload_n 1, 1) := by decide +kernel
theorem dX4_countOf_1 : decode cX4_countOf 1 = .ok (.tableswitch 50 0 2 #[27, 34, 42], 27) := by decide +kernel
theorem dX4_countOf_28 : decode cX4_countOf 28 = .ok (.aload_n 0, 1) := by decide +kernel
theorem dX4_countOf_29 : decode cX4_countOf 29 = .ok (.getfield 7, 3) := by decide +kernel
theorem dX4_countOf_32 : decode cX4_countOf 32 = .ok (.iconst 5, 1) := by decide +kernel
theorem dX4_countOf_33 : decode cX4_countOf 33 = .ok (.iaload, 1) := by decide +kernel
theorem dX4_countOf_34 : decode cX4_countOf 34 = .ok (.ireturn, 1) := by decide +kernel
theorem dX4_countOf_35 : decode cX4_countOf 35 = .ok (.aload_n 0, 1) := by decide +kernel
theorem dX4_countOf_36 : decode cX4_countOf 36 = .ok (.getfield 7, 3) := by decide +kernel
theorem dX4_countOf_39 : decode cX4_countOf 39 = .ok (.bipush 15, 2) := by decide +kernel
theorem dX4_countOf_41 : decode cX4_countOf 41 = .ok (.iaload, 1) := by decide +kernel
theorem dX4_countOf_42 : decode cX4_countOf 42 = .ok (.ireturn, 1) := by decide +kernel
theorem dX4_countOf_43 : decode cX4_countOf 43 = .ok (.aload_n 0, 1) := by decide +kernel
theorem dX4_countOf_44 : decode cX4_countOf 44 = .ok (.getfield 7, 3) := by decide +kernel
theorem dX4_countOf_47 : decode cX4_countOf 47 = .ok (.bipush 40, 2) := by decide +kernel
theorem dX4_countOf_49 : decode cX4_countOf 49 = .ok (.iaload, 1) := by decide +kernel
theorem dX4_countOf_50 : decode cX4_countOf 50 = .ok (.ireturn, 1) := by decide +kernel
theorem dX4_countOf_51 : decode cX4_countOf 51 = .ok (.aload_n 0, 1) := by decide +kernel
theorem dX4_countOf_52 : decode cX4_countOf 52 = .ok (.getfield 102, 3) := by decide +kernel
theorem dX4_countOf_55 : decode cX4_countOf 55 = .ok (.ireturn, 1) := by decide +kernel
theorem dX4_count_0 : decode cX4_count 0 = .ok (.iload_n 1, 1) := by decide +kernel
theorem dX4_count_1 : decode cX4_count 1 = .ok (.i2l, 1) := by decide +kernel
theorem dX4_count_2 : decode cX4_count 2 = .ok (.lconst 0, 1) := by decide +kernel
theorem dX4_count_3 : decode cX4_count 3 = .ok (.ldc2_w 180, 3) := by decide +kernel
theorem dX4_count_6 : decode cX4_count 6 = .ok (.invokestatic 58, 3) := by decide +kernel
theorem dX4_count_9 : decode cX4_count 9 = .ok (.ifCond .eq 11, 3) := by decide +kernel
theorem dX4_count_12 : decode cX4_count 12 = .ok (.aload_n 0, 1) := by decide +kernel
theorem dX4_count_13 : decode cX4_count 13 = .ok (.iload_n 1, 1) := by decide +kernel
theorem dX4_count_14 : decode cX4_count 14 = .ok (.invokevirtual 250, 3) := by decide +kernel
theorem dX4_count_17 : decode cX4_count 17 = .ok (.goto 9, 3) := by decide +kernel
theorem dX4_count_20 : decode cX4_count 20 = .ok (.aload_n 0, 1) := by decide +kernel
theorem dX4_count_21 : decode cX4_count 21 = .ok (.bipush (-2), 2) := by decide +kernel
theorem dX4_count_23 : decode cX4_count 23 = .ok (.invokevirtual 91, 3) := by decide +kernel
theorem dX4_count_26 : decode cX4_count 26 = .ok (.ireturn, 1) := by decide +kernel
theorem dX4_digest_0 : decode cX4_digest 0 = .ok (.ldc2_w 253, 3) := by decide +kernel
theorem dX4_digest_3 : decode cX4_digest 3 = .ok (.lstore_n 1, 1) := by decide +kernel
theorem dX4_digest_4 : decode cX4_digest 4 = .ok (.iconst 0, 1) := by decide +kernel
theorem dX4_digest_5 : decode cX4_digest 5 = .ok (.istore_n 3, 1) := by decide +kernel
theorem dX4_digest_6 : decode cX4_digest 6 = .ok (.iload_n 3, 1) := by decide +kernel
theorem dX4_digest_7 : decode cX4_digest 7 = .ok (.iconst 4, 1) := by decide +kernel
theorem dX4_digest_8 : decode cX4_digest 8 = .ok (.if_icmp .ge 22, 3) := by decide +kernel
theorem dX4_digest_11 : decode cX4_digest 11 = .ok (.ldc2_w 255, 3) := by decide +kernel
theorem dX4_digest_14 : decode cX4_digest 14 = .ok (.lload_n 1, 1) := by decide +kernel
theorem dX4_digest_15 : decode cX4_digest 15 = .ok (.lmul, 1) := by decide +kernel
theorem dX4_digest_16 : decode cX4_digest 16 = .ok (.aload_n 0, 1) := by decide +kernel
theorem dX4_digest_17 : decode cX4_digest 17 = .ok (.iload_n 3, 1) := by decide +kernel
theorem dX4_digest_18 : decode cX4_digest 18 = .ok (.invokevirtual 250, 3) := by decide +kernel
theorem dX4_digest_21 : decode cX4_digest 21 = .ok (.i2l, 1) := by decide +kernel
theorem dX4_digest_22 : decode cX4_digest 22 = .ok (.ladd, 1) := by decide +kernel
theorem dX4_digest_23 : decode cX4_digest 23 = .ok (.lstore_n 1, 1) := by decide +kernel
theorem dX4_digest_24 : decode cX4_digest 24 = .ok (.iinc 3 1, 3) := by decide +kernel
theorem dX4_digest_27 : decode cX4_digest 27 = .ok (.goto (-21), 3) := by decide +kernel
theorem dX4_digest_30 : decode cX4_digest 30 = .ok (.iconst 0, 1) := by decide +kernel
theorem dX4_digest_31 : decode cX4_digest 31 = .ok (.istore_n 3, 1) := by decide +kernel
theorem dX4_digest_32 : decode cX4_digest 32 = .ok (.iload_n 3, 1) := by decide +kernel
theorem dX4_digest_33 : decode cX4_digest 33 = .ok (.bipush 7, 2) := by decide +kernel
theorem dX4_digest_35 : decode cX4_digest 35 = .ok (.if_icmp .ge 32, 3) := by decide +kernel
theorem dX4_digest_38 : decode cX4_digest 38 = .ok (.iload_n 3, 1) := by decide +kernel
theorem dX4_digest_39 : decode cX4_digest 39 = .ok (.iconst 5, 1) := by decide +kernel
theorem dX4_digest_40 : decode cX4_digest 40 = .ok (.if_icmp .ne 7, 3) := by decide +kernel
theorem dX4_digest_43 : decode cX4_digest 43 = .ok (.lload_n 1, 1) := by decide +kernel
theorem dX4_digest_44 : decode cX4_digest 44 = .ok (.goto 16, 3) := by decide +kernel
theorem dX4_digest_47 : decode cX4_digest 47 = .ok (.ldc2_w 255, 3) := by decide +kernel
theorem dX4_digest_50 : decode cX4_digest 50 = .ok (.lload_n 1, 1) := by decide +kernel
theorem dX4_digest_51 : decode cX4_digest 51 = .ok (.lmul, 1) := by decide +kernel
theorem dX4_digest_52 : decode cX4_digest 52 = .ok (.aload_n 0, 1) := by decide +kernel
theorem dX4_digest_53 : decode cX4_digest 53 = .ok (.getfield 7, 3) := by decide +kernel
theorem dX4_digest_56 : decode cX4_digest 56 = .ok (.iload_n 3, 1) := by decide +kernel
theorem dX4_digest_57 : decode cX4_digest 57 = .ok (.iaload, 1) := by decide +kernel
theorem dX4_digest_58 : decode cX4_digest 58 = .ok (.i2l, 1) := by decide +kernel
theorem dX4_digest_59 : decode cX4_digest 59 = .ok (.ladd, 1) := by decide +kernel
theorem dX4_digest_60 : decode cX4_digest 60 = .ok (.lstore_n 1, 1) := by decide +kernel
theorem dX4_digest_61 : decode cX4_digest 61 = .ok (.iinc 3 1, 3) := by decide +kernel
theorem dX4_digest_64 : decode cX4_digest 64 = .ok (.goto (-32), 3) := by decide +kernel
theorem dX4_digest_67 : decode cX4_digest 67 = .ok (.iconst 0, 1) := by decide +kernel
theorem dX4_digest_68 : decode cX4_digest 68 = .ok (.istore_n 3, 1) := by decide +kernel
theorem dX4_digest_69 : decode cX4_digest 69 = .ok (.iload_n 3, 1) := by decide +kernel
theorem dX4_digest_70 : decode cX4_digest 70 = .ok (.bipush 8, 2) := by decide +kernel
theorem dX4_digest_72 : decode cX4_digest 72 = .ok (.if_icmp .ge 26, 3) := by decide +kernel
theorem dX4_digest_75 : decode cX4_digest 75 = .ok (.ldc2_w 255, 3) := by decide +kernel
theorem dX4_digest_78 : decode cX4_digest 78 = .ok (.lload_n 1, 1) := by decide +kernel
theorem dX4_digest_79 : decode cX4_digest 79 = .ok (.lmul, 1) := by decide +kernel
theorem dX4_digest_80 : decode cX4_digest 80 = .ok (.aload_n 0, 1) := by decide +kernel
theorem dX4_digest_81 : decode cX4_digest 81 = .ok (.getfield 7, 3) := by decide +kernel
theorem dX4_digest_84 : decode cX4_digest 84 = .ok (.bipush 7, 2) := by decide +kernel
theorem dX4_digest_86 : decode cX4_digest 86 = .ok (.iload_n 3, 1) := by decide +kernel
theorem dX4_digest_87 : decode cX4_digest 87 = .ok (.iadd, 1) := by decide +kernel
theorem dX4_digest_88 : decode cX4_digest 88 = .ok (.iaload, 1) := by decide +kernel
theorem dX4_digest_89 : decode cX4_digest 89 = .ok (.i2l, 1) := by decide +kernel
theorem dX4_digest_90 : decode cX4_digest 90 = .ok (.ladd, 1) := by decide +kernel
theorem dX4_digest_91 : decode cX4_digest 91 = .ok (.lstore_n 1, 1) := by decide +kernel
theorem dX4_digest_92 : decode cX4_digest 92 = .ok (.iinc 3 1, 3) := by decide +kernel
theorem dX4_digest_95 : decode cX4_digest 95 = .ok (.goto (-26), 3) := by decide +kernel
theorem dX4_digest_98 : decode cX4_digest 98 = .ok (.iconst 0, 1) := by decide +kernel
theorem dX4_digest_99 : decode cX4_digest 99 = .ok (.istore_n 3, 1) := by decide +kernel
theorem dX4_digest_100 : decode cX4_digest 100 = .ok (.iload_n 3, 1) := by decide +kernel
theorem dX4_digest_101 : decode cX4_digest 101 = .ok (.iconst 4, 1) := by decide +kernel
theorem dX4_digest_102 : decode cX4_digest 102 = .ok (.aload_n 0, 1) := by decide +kernel
theorem dX4_digest_103 : decode cX4_digest 103 = .ok (.getfield 7, 3) := by decide +kernel
theorem dX4_digest_106 : decode cX4_digest 106 = .ok (.bipush 15, 2) := by decide +kernel
theorem dX4_digest_108 : decode cX4_digest 108 = .ok (.iaload, 1) := by decide +kernel
theorem dX4_digest_109 : decode cX4_digest 109 = .ok (.imul, 1) := by decide +kernel
theorem dX4_digest_110 : decode cX4_digest 110 = .ok (.if_icmp .ge 26, 3) := by decide +kernel
theorem dX4_digest_113 : decode cX4_digest 113 = .ok (.ldc2_w 255, 3) := by decide +kernel
theorem dX4_digest_116 : decode cX4_digest 116 = .ok (.lload_n 1, 1) := by decide +kernel
theorem dX4_digest_117 : decode cX4_digest 117 = .ok (.lmul, 1) := by decide +kernel
theorem dX4_digest_118 : decode cX4_digest 118 = .ok (.aload_n 0, 1) := by decide +kernel
theorem dX4_digest_119 : decode cX4_digest 119 = .ok (.getfield 7, 3) := by decide +kernel
theorem dX4_digest_122 : decode cX4_digest 122 = .ok (.bipush 16, 2) := by decide +kernel
theorem dX4_digest_124 : decode cX4_digest 124 = .ok (.iload_n 3, 1) := by decide +kernel
theorem dX4_digest_125 : decode cX4_digest 125 = .ok (.iadd, 1) := by decide +kernel
theorem dX4_digest_126 : decode cX4_digest 126 = .ok (.iaload, 1) := by decide +kernel
theorem dX4_digest_127 : decode cX4_digest 127 = .ok (.i2l, 1) := by decide +kernel
theorem dX4_digest_128 : decode cX4_digest 128 = .ok (.ladd, 1) := by decide +kernel
theorem dX4_digest_129 : decode cX4_digest 129 = .ok (.lstore_n 1, 1) := by decide +kernel
theorem dX4_digest_130 : decode cX4_digest 130 = .ok (.iinc 3 1, 3) := by decide +kernel
theorem dX4_digest_133 : decode cX4_digest 133 = .ok (.goto (-33), 3) := by decide +kernel
theorem dX4_digest_136 : decode cX4_digest 136 = .ok (.ldc2_w 255, 3) := by decide +kernel
theorem dX4_digest_139 : decode cX4_digest 139 = .ok (.lload_n 1, 1) := by decide +kernel
theorem dX4_digest_140 : decode cX4_digest 140 = .ok (.lmul, 1) := by decide +kernel
theorem dX4_digest_141 : decode cX4_digest 141 = .ok (.aload_n 0, 1) := by decide +kernel
theorem dX4_digest_142 : decode cX4_digest 142 = .ok (.getfield 215, 3) := by decide +kernel
theorem dX4_digest_145 : decode cX4_digest 145 = .ok (.ladd, 1) := by decide +kernel
theorem dX4_digest_146 : decode cX4_digest 146 = .ok (.lstore_n 1, 1) := by decide +kernel
theorem dX4_digest_147 : decode cX4_digest 147 = .ok (.ldc2_w 255, 3) := by decide +kernel
theorem dX4_digest_150 : decode cX4_digest 150 = .ok (.lload_n 1, 1) := by decide +kernel
theorem dX4_digest_151 : decode cX4_digest 151 = .ok (.lmul, 1) := by decide +kernel
theorem dX4_digest_152 : decode cX4_digest 152 = .ok (.aload_n 0, 1) := by decide +kernel
theorem dX4_digest_153 : decode cX4_digest 153 = .ok (.getfield 42, 3) := by decide +kernel
theorem dX4_digest_156 : decode cX4_digest 156 = .ok (.ladd, 1) := by decide +kernel
theorem dX4_digest_157 : decode cX4_digest 157 = .ok (.lreturn, 1) := by decide +kernel
end
section
theorem dL_law_0 : decode cL_law 0 = .ok (.new 7, 3) := by decide +kernel
theorem dL_law_3 : decode cL_law 3 = .ok (.dup, 1) := by decide +kernel
theorem dL_law_4 : decode cL_law 4 = .ok (.invokespecial 9, 3) := by decide +kernel
theorem dL_law_7 : decode cL_law 7 = .ok (.astore_n 1, 1) := by decide +kernel
theorem dL_law_8 : decode cL_law 8 = .ok (.new 10, 3) := by decide +kernel
theorem dL_law_11 : decode cL_law 11 = .ok (.dup, 1) := by decide +kernel
theorem dL_law_12 : decode cL_law 12 = .ok (.invokespecial 12, 3) := by decide +kernel
theorem dL_law_15 : decode cL_law 15 = .ok (.astore_n 2, 1) := by decide +kernel
theorem dL_law_16 : decode cL_law 16 = .ok (.iconst 0, 1) := by decide +kernel
theorem dL_law_17 : decode cL_law 17 = .ok (.istore_n 3, 1) := by decide +kernel
theorem dL_law_18 : decode cL_law 18 = .ok (.iload_n 3, 1) := by decide +kernel
theorem dL_law_19 : decode cL_law 19 = .ok (.aload_n 0, 1) := by decide +kernel
theorem dL_law_20 : decode cL_law 20 = .ok (.arraylength, 1) := by decide +kernel
theorem dL_law_21 : decode cL_law 21 = .ok (.iconst 5, 1) := by decide +kernel
theorem dL_law_22 : decode cL_law 22 = .ok (.isub, 1) := by decide +kernel
theorem dL_law_23 : decode cL_law 23 = .ok (.if_icmp .gt 927, 3) := by decide +kernel
theorem dL_law_26 : decode cL_law 26 = .ok (.aload_n 0, 1) := by decide +kernel
theorem dL_law_27 : decode cL_law 27 = .ok (.iload_n 3, 1) := by decide +kernel
theorem dL_law_28 : decode cL_law 28 = .ok (.iaload, 1) := by decide +kernel
theorem dL_law_29 : decode cL_law 29 = .ok (.bipush 31, 2) := by decide +kernel
theorem dL_law_31 : decode cL_law 31 = .ok (.iand, 1) := by decide +kernel
theorem dL_law_32 : decode cL_law 32 = .ok (.tableswitch 912 0 31 #[144, 167, 200, 233, 266, 289, 302, 315, 338, 351, 364, 387, 420, 453, 476, 509, 532, 555, 578, 601, 654, 667, 680, 693, 716, 749, 782, 806, 829, 852, 875, 898], 144) := by decide +kernel
theorem dL_law_176 : decode cL_law 176 = .ok (.aload_n 1, 1) := by decide +kernel
theorem dL_law_177 : decode cL_law 177 = .ok (.aload_n 0, 1) := by decide +kernel
theorem dL_law_178 : decode cL_law 178 = .ok (.iload_n 3, 1) := by decide +kernel
theorem dL_law_179 : decode cL_law 179 = .ok (.iconst 1, 1) := by decide +kernel
theorem dL_law_180 : decode cL_law 180 = .ok (.iadd, 1) := by decide +kernel
theorem dL_law_181 : decode cL_law 181 = .ok (.iaload, 1) := by decide +kernel
theorem dL_law_182 : decode cL_law 182 = .ok (.invokevirtual 13, 3) := by decide +kernel
theorem dL_law_185 : decode cL_law 185 = .ok (.aload_n 2, 1) := by decide +kernel
theorem dL_law_186 : decode cL_law 186 = .ok (.aload_n 0, 1) := by decide +kernel
theorem dL_law_187 : decode cL_law 187 = .ok (.iload_n 3, 1) := by decide +kernel
theorem dL_law_188 : decode cL_law 188 = .ok (.iconst 1, 1) := by decide +kernel
theorem dL_law_189 : decode cL_law 189 = .ok (.iadd, 1) := by decide +kernel
theorem dL_law_190 : decode cL_law 190 = .ok (.iaload, 1) := by decide +kernel
theorem dL_law_191 : decode cL_law 191 = .ok (.invokevirtual 17, 3) := by decide +kernel
theorem dL_law_194 : decode cL_law 194 = .ok (.if_icmp .eq 750, 3) := by decide +kernel
theorem dL_law_197 : decode cL_law 197 = .ok (.iconst 0, 1) := by decide +kernel
theorem dL_law_198 : decode cL_law 198 = .ok (.ireturn, 1) := by decide +kernel
theorem dL_law_199 : decode cL_law 199 = .ok (.aload_n 1, 1) := by decide +kernel
theorem dL_law_200 : decode cL_law 200 = .ok (.aload_n 0, 1) := by decide +kernel
theorem dL_law_201 : decode cL_law 201 = .ok (.iload_n 3, 1) := by decide +kernel
theorem dL_law_202 : decode cL_law 202 = .ok (.iconst 1, 1) := by decide +kernel
theorem dL_law_203 : decode cL_law 203 = .ok (.iadd, 1) := by decide +kernel
theorem dL_law_204 : decode cL_law 204 = .ok (.iaload, 1) := by decide +kernel
theorem dL_law_205 : decode cL_law 205 = .ok (.aload_n 0, 1) := by decide +kernel
theorem dL_law_206 : decode cL_law 206 = .ok (.iload_n 3, 1) := by decide +kernel
theorem dL_law_207 : decode cL_law 207 = .ok (.iconst 2, 1) := by decide +kernel
theorem dL_law_208 : decode cL_law 208 = .ok (.iadd, 1) := by decide +kernel
theorem dL_law_209 : decode cL_law 209 = .ok (.iaload, 1) := by decide +kernel
theorem dL_law_210 : decode cL_law 210 = .ok (.invokevirtual 18, 3) := by decide +kernel
theorem dL_law_213 : decode cL_law 213 = .ok (.aload_n 2, 1) := by decide +kernel
theorem dL_law_214 : decode cL_law 214 = .ok (.aload_n 0, 1) := by decide +kernel
theorem dL_law_215 : decode cL_law 215 = .ok (.iload_n 3, 1) := by decide +kernel
theorem dL_law_216 : decode cL_law 216 = .ok (.iconst 1, 1) := by decide +kernel
theorem dL_law_217 : decode cL_law 217 = .ok (.iadd, 1) := by decide +kernel
theorem dL_law_218 : decode cL_law 218 = .ok (.iaload, 1) := by decide +kernel
theorem dL_law_219 : decode cL_law 219 = .ok (.aload_n 0, 1) := by decide +kernel
theorem dL_law_220 : decode cL_law 220 = .ok (.iload_n 3, 1) := by decide +kernel
theorem dL_law_221 : decode cL_law 221 = .ok (.iconst 2, 1) := by decide +kernel
theorem dL_law_222 : decode cL_law 222 = .ok (.iadd, 1) := by decide +kernel
theorem dL_law_223 : decode cL_law 223 = .ok (.iaload, 1) := by decide +kernel
theorem dL_law_224 : decode cL_law 224 = .ok (.invokevirtual 22, 3) := by decide +kernel
theorem dL_law_227 : decode cL_law 227 = .ok (.if_icmp .eq 717, 3) := by decide +kernel
theorem dL_law_230 : decode cL_law 230 = .ok (.iconst 0, 1) := by decide +kernel
theorem dL_law_231 : decode cL_law 231 = .ok (.ireturn, 1) := by decide +kernel
theorem dL_law_232 : decode cL_law 232 = .ok (.aload_n 1, 1) := by decide +kernel
theorem dL_law_233 : decode cL_law 233 = .ok (.aload_n 0, 1) := by decide +kernel
theorem dL_law_234 : decode cL_law 234 = .ok (.iload_n 3, 1) := by decide +kernel
theorem dL_law_235 : decode cL_law 235 = .ok (.iconst 1, 1) := by decide +kernel
theorem dL_law_236 : decode cL_law 236 = .ok (.iadd, 1) := by decide +kernel
theorem dL_law_237 : decode cL_law 237 = .ok (.iaload, 1) := by decide +kernel
theorem dL_law_238 : decode cL_law 238 = .ok (.aload_n 0, 1) := by decide +kernel
theorem dL_law_239 : decode cL_law 239 = .ok (.iload_n 3, 1) := by decide +kernel
theorem dL_law_240 : decode cL_law 240 = .ok (.iconst 2, 1) := by decide +kernel
theorem dL_law_241 : decode cL_law 241 = .ok (.iadd, 1) := by decide +kernel
theorem dL_law_242 : decode cL_law 242 = .ok (.iaload, 1) := by decide +kernel
theorem dL_law_243 : decode cL_law 243 = .ok (.invokevirtual 23, 3) := by decide +kernel
theorem dL_law_246 : decode cL_law 246 = .ok (.aload_n 2, 1) := by decide +kernel
theorem dL_law_247 : decode cL_law 247 = .ok (.aload_n 0, 1) := by decide +kernel
theorem dL_law_248 : decode cL_law 248 = .ok (.iload_n 3, 1) := by decide +kernel
theorem dL_law_249 : decode cL_law 249 = .ok (.iconst 1, 1) := by decide +kernel
theorem dL_law_250 : decode cL_law 250 = .ok (.iadd, 1) := by decide +kernel
theorem dL_law_251 : decode cL_law 251 = .ok (.iaload, 1) := by decide +kernel
theorem dL_law_252 : decode cL_law 252 = .ok (.aload_n 0, 1) := by decide +kernel
theorem dL_law_253 : decode cL_law 253 = .ok (.iload_n 3, 1) := by decide +kernel
theorem dL_law_254 : decode cL_law 254 = .ok (.iconst 2, 1) := by decide +kernel
theorem dL_law_255 : decode cL_law 255 = .ok (.iadd, 1) := by decide +kernel
theorem dL_law_256 : decode cL_law 256 = .ok (.iaload, 1) := by decide +kernel
theorem dL_law_257 : decode cL_law 257 = .ok (.invokevirtual 26, 3) := by decide +kernel
theorem dL_law_260 : decode cL_law 260 = .ok (.if_icmp .eq 684, 3) := by decide +kernel
theorem dL_law_263 : decode cL_law 263 = .ok (.iconst 0, 1) := by decide +kernel
theorem dL_law_264 : decode cL_law 264 = .ok (.ireturn, 1) := by decide +kernel
theorem dL_law_265 : decode cL_law 265 = .ok (.aload_n 1, 1) := by decide +kernel
theorem dL_law_266 : decode cL_law 266 = .ok (.aload_n 0, 1) := by decide +kernel
theorem dL_law_267 : decode cL_law 267 = .ok (.iload_n 3, 1) := by decide +kernel
theorem dL_law_268 : decode cL_law 268 = .ok (.iconst 1, 1) := by decide +kernel
theorem dL_law_269 : decode cL_law 269 = .ok (.iadd, 1) := by decide +kernel
theorem dL_law_270 : decode cL_law 270 = .ok (.iaload, 1) := by decide +kernel
theorem dL_law_271 : decode cL_law 271 = .ok (.aload_n 0, 1) := by decide +kernel
theorem dL_law_272 : decode cL_law 272 = .ok (.iload_n 3, 1) := by decide +kernel
theorem dL_law_273 : decode cL_law 273 = .ok (.iconst 2, 1) := by decide +kernel
theorem dL_law_274 : decode cL_law 274 = .ok (.iadd, 1) := by decide +kernel
theorem dL_law_275 : decode cL_law 275 = .ok (.iaload, 1) := by decide +kernel
theorem dL_law_276 : decode cL_law 276 = .ok (.invokevirtual 27, 3) := by decide +kernel
theorem dL_law_279 : decode cL_law 279 = .ok (.aload_n 2, 1) := by decide +kernel
theorem dL_law_280 : decode cL_law 280 = .ok (.aload_n 0, 1) := by decide +kernel
theorem dL_law_281 : decode cL_law 281 = .ok (.iload_n 3, 1) := by decide +kernel
theorem dL_law_282 : decode cL_law 282 = .ok (.iconst 1, 1) := by decide +kernel
theorem dL_law_283 : decode cL_law 283 = .ok (.iadd, 1) := by decide +kernel
theorem dL_law_284 : decode cL_law 284 = .ok (.iaload, 1) := by decide +kernel
theorem dL_law_285 : decode cL_law 285 = .ok (.aload_n 0, 1) := by decide +kernel
theorem dL_law_286 : decode cL_law 286 = .ok (.iload_n 3, 1) := by decide +kernel
theorem dL_law_287 : decode cL_law 287 = .ok (.iconst 2, 1) := by decide +kernel
theorem dL_law_288 : decode cL_law 288 = .ok (.iadd, 1) := by decide +kernel
theorem dL_law_289 : decode cL_law 289 = .ok (.iaload, 1) := by decide +kernel
theorem dL_law_290 : decode cL_law 290 = .ok (.invokevirtual 30, 3) := by decide +kernel
theorem dL_law_293 : decode cL_law 293 = .ok (.if_icmp .eq 651, 3) := by decide +kernel
theorem dL_law_296 : decode cL_law 296 = .ok (.iconst 0, 1) := by decide +kernel
theorem dL_law_297 : decode cL_law 297 = .ok (.ireturn, 1) := by decide +kernel
theorem dL_law_298 : decode cL_law 298 = .ok (.aload_n 1, 1) := by decide +kernel
theorem dL_law_299 : decode cL_law 299 = .ok (.aload_n 0, 1) := by decide +kernel
theorem dL_law_300 : decode cL_law 300 = .ok (.iload_n 3, 1) := by decide +kernel
theorem dL_law_301 : decode cL_law 301 = .ok (.iconst 1, 1) := by decide +kernel
theorem dL_law_302 : decode cL_law 302 = .ok (.iadd, 1) := by decide +kernel
theorem dL_law_303 : decode cL_law 303 = .ok (.iaload, 1) := by decide +kernel
theorem dL_law_304 : decode cL_law 304 = .ok (.invokevirtual 31, 3) := by decide +kernel
theorem dL_law_307 : decode cL_law 307 = .ok (.aload_n 2, 1) := by decide +kernel
theorem dL_law_308 : decode cL_law 308 = .ok (.aload_n 0, 1) := by decide +kernel
theorem dL_law_309 : decode cL_law 309 = .ok (.iload_n 3, 1) := by decide +kernel
theorem dL_law_310 : decode cL_law 310 = .ok (.iconst 1, 1) := by decide +kernel
theorem dL_law_311 : decode cL_law 311 = .ok (.iadd, 1) := by decide +kernel
theorem dL_law_312 : decode cL_law 312 = .ok (.iaload, 1) := by decide +kernel
theorem dL_law_313 : decode cL_law 313 = .ok (.invokevirtual 34, 3) := by decide +kernel
theorem dL_law_316 : decode cL_law 316 = .ok (.if_icmp .eq 628, 3) := by decide +kernel
theorem dL_law_319 : decode cL_law 319 = .ok (.iconst 0, 1) := by decide +kernel
theorem dL_law_320 : decode cL_law 320 = .ok (.ireturn, 1) := by decide +kernel
theorem dL_law_321 : decode cL_law 321 = .ok (.aload_n 1, 1) := by decide +kernel
theorem dL_law_322 : decode cL_law 322 = .ok (.invokevirtual 35, 3) := by decide +kernel
theorem dL_law_325 : decode cL_law 325 = .ok (.aload_n 2, 1) := by decide +kernel
theorem dL_law_326 : decode cL_law 326 = .ok (.invokevirtual 39, 3) := by decide +kernel
theorem dL_law_329 : decode cL_law 329 = .ok (.if_icmp .eq 615, 3) := by decide +kernel
theorem dL_law_332 : decode cL_law 332 = .ok (.iconst 0, 1) := by decide +kernel
theorem dL_law_333 : decode cL_law 333 = .ok (.ireturn, 1) := by decide +kernel
theorem dL_law_334 : decode cL_law 334 = .ok (.aload_n 1, 1) := by decide +kernel
theorem dL_law_335 : decode cL_law 335 = .ok (.invokevirtual 40, 3) := by decide +kernel
theorem dL_law_338 : decode cL_law 338 = .ok (.aload_n 2, 1) := by decide +kernel
theorem dL_law_339 : decode cL_law 339 = .ok (.invokevirtual 43, 3) := by decide +kernel
theorem dL_law_342 : decode cL_law 342 = .ok (.if_icmp .eq 602, 3) := by decide +kernel
theorem dL_law_345 : decode cL_law 345 = .ok (.iconst 0, 1) := by decide +kernel
theorem dL_law_346 : decode cL_law 346 = .ok (.ireturn, 1) := by decide +kernel
theorem dL_law_347 : decode cL_law 347 = .ok (.aload_n 1, 1) := by decide +kernel
theorem dL_law_348 : decode cL_law 348 = .ok (.aload_n 0, 1) := by decide +kernel
theorem dL_law_349 : decode cL_law 349 = .ok (.iload_n 3, 1) := by decide +kernel
theorem dL_law_350 : decode cL_law 350 = .ok (.iconst 1, 1) := by decide +kernel
theorem dL_law_351 : decode cL_law 351 = .ok (.iadd, 1) := by decide +kernel
theorem dL_law_352 : decode cL_law 352 = .ok (.iaload, 1) := by decide +kernel
theorem dL_law_353 : decode cL_law 353 = .ok (.invokevirtual 44, 3) := by decide +kernel
theorem dL_law_356 : decode cL_law 356 = .ok (.aload_n 2, 1) := by decide +kernel
theorem dL_law_357 : decode cL_law 357 = .ok (.aload_n 0, 1) := by decide +kernel
theorem dL_law_358 : decode cL_law 358 = .ok (.iload_n 3, 1) := by decide +kernel
theorem dL_law_359 : decode cL_law 359 = .ok (.iconst 1, 1) := by decide +kernel
theorem dL_law_360 : decode cL_law 360 = .ok (.iadd, 1) := by decide +kernel
theorem dL_law_361 : decode cL_law 361 = .ok (.iaload, 1) := by decide +kernel
theorem dL_law_362 : decode cL_law 362 = .ok (.invokevirtual 47, 3) := by decide +kernel
theorem dL_law_365 : decode cL_law 365 = .ok (.if_icmp .eq 579, 3) := by decide +kernel
theorem dL_law_368 : decode cL_law 368 = .ok (.iconst 0, 1) := by decide +kernel
theorem dL_law_369 : decode cL_law 369 = .ok (.ireturn, 1) := by decide +kernel
theorem dL_law_370 : decode cL_law 370 = .ok (.aload_n 1, 1) := by decide +kernel
theorem dL_law_371 : decode cL_law 371 = .ok (.invokevirtual 48, 3) := by decide +kernel
theorem dL_law_374 : decode cL_law 374 = .ok (.aload_n 2, 1) := by decide +kernel
theorem dL_law_375 : decode cL_law 375 = .ok (.invokevirtual 51, 3) := by decide +kernel
theorem dL_law_378 : decode cL_law 378 = .ok (.if_icmp .eq 566, 3) := by decide +kernel
theorem dL_law_381 : decode cL_law 381 = .ok (.iconst 0, 1) := by decide +kernel
theorem dL_law_382 : decode cL_law 382 = .ok (.ireturn, 1) := by decide +kernel
theorem dL_law_383 : decode cL_law 383 = .ok (.aload_n 1, 1) := by decide +kernel
theorem dL_law_384 : decode cL_law 384 = .ok (.invokevirtual 52, 3) := by decide +kernel
theorem dL_law_387 : decode cL_law 387 = .ok (.aload_n 2, 1) := by decide +kernel
theorem dL_law_388 : decode cL_law 388 = .ok (.invokevirtual 55, 3) := by decide +kernel
theorem dL_law_391 : decode cL_law 391 = .ok (.if_icmp .eq 553, 3) := by decide +kernel
theorem dL_law_394 : decode cL_law 394 = .ok (.iconst 0, 1) := by decide +kernel
theorem dL_law_395 : decode cL_law 395 = .ok (.ireturn, 1) := by decide +kernel
theorem dL_law_396 : decode cL_law 396 = .ok (.aload_n 1, 1) := by decide +kernel
theorem dL_law_397 : decode cL_law 397 = .ok (.aload_n 0, 1) := by decide +kernel
theorem dL_law_398 : decode cL_law 398 = .ok (.iload_n 3, 1) := by decide +kernel
theorem dL_law_399 : decode cL_law 399 = .ok (.iconst 1, 1) := by decide +kernel
theorem dL_law_400 : decode cL_law 400 = .ok (.iadd, 1) := by decide +kernel
theorem dL_law_401 : decode cL_law 401 = .ok (.iaload, 1) := by decide +kernel
theorem dL_law_402 : decode cL_law 402 = .ok (.invokevirtual 56, 3) := by decide +kernel
theorem dL_law_405 : decode cL_law 405 = .ok (.aload_n 2, 1) := by decide +kernel
theorem dL_law_406 : decode cL_law 406 = .ok (.aload_n 0, 1) := by decide +kernel
theorem dL_law_407 : decode cL_law 407 = .ok (.iload_n 3, 1) := by decide +kernel
theorem dL_law_408 : decode cL_law 408 = .ok (.iconst 1, 1) := by decide +kernel
theorem dL_law_409 : decode cL_law 409 = .ok (.iadd, 1) := by decide +kernel
theorem dL_law_410 : decode cL_law 410 = .ok (.iaload, 1) := by decide +kernel
theorem dL_law_411 : decode cL_law 411 = .ok (.invokevirtual 59, 3) := by decide +kernel
theorem dL_law_414 : decode cL_law 414 = .ok (.if_icmp .eq 530, 3) := by decide +kernel
theorem dL_law_417 : decode cL_law 417 = .ok (.iconst 0, 1) := by decide +kernel
theorem dL_law_418 : decode cL_law 418 = .ok (.ireturn, 1) := by decide +kernel
theorem dL_law_419 : decode cL_law 419 = .ok (.aload_n 1, 1) := by decide +kernel
theorem dL_law_420 : decode cL_law 420 = .ok (.aload_n 0, 1) := by decide +kernel
theorem dL_law_421 : decode cL_law 421 = .ok (.iload_n 3, 1) := by decide +kernel
theorem dL_law_422 : decode cL_law 422 = .ok (.iconst 1, 1) := by decide +kernel
theorem dL_law_423 : decode cL_law 423 = .ok (.iadd, 1) := by decide +kernel
theorem dL_law_424 : decode cL_law 424 = .ok (.iaload, 1) := by decide +kernel
theorem dL_law_425 : decode cL_law 425 = .ok (.aload_n 0, 1) := by decide +kernel
theorem dL_law_426 : decode cL_law 426 = .ok (.iload_n 3, 1) := by decide +kernel
theorem dL_law_427 : decode cL_law 427 = .ok (.iconst 2, 1) := by decide +kernel
theorem dL_law_428 : decode cL_law 428 = .ok (.iadd, 1) := by decide +kernel
theorem dL_law_429 : decode cL_law 429 = .ok (.iaload, 1) := by decide +kernel
theorem dL_law_430 : decode cL_law 430 = .ok (.invokevirtual 60, 3) := by decide +kernel
theorem dL_law_433 : decode cL_law 433 = .ok (.aload_n 2, 1) := by decide +kernel
theorem dL_law_434 : decode cL_law 434 = .ok (.aload_n 0, 1) := by decide +kernel
theorem dL_law_435 : decode cL_law 435 = .ok (.iload_n 3, 1) := by decide +kernel
theorem dL_law_436 : decode cL_law 436 = .ok (.iconst 1, 1) := by decide +kernel
theorem dL_law_437 : decode cL_law 437 = .ok (.iadd, 1) := by decide +kernel
theorem dL_law_438 : decode cL_law 438 = .ok (.iaload, 1) := by decide +kernel
theorem dL_law_439 : decode cL_law 439 = .ok (.aload_n 0, 1) := by decide +kernel
theorem dL_law_440 : decode cL_law 440 = .ok (.iload_n 3, 1) := by decide +kernel
theorem dL_law_441 : decode cL_law 441 = .ok (.iconst 2, 1) := by decide +kernel
theorem dL_law_442 : decode cL_law 442 = .ok (.iadd, 1) := by decide +kernel
theorem dL_law_443 : decode cL_law 443 = .ok (.iaload, 1) := by decide +kernel
theorem dL_law_444 : decode cL_law 444 = .ok (.invokevirtual 63, 3) := by decide +kernel
theorem dL_law_447 : decode cL_law 447 = .ok (.if_icmp .eq 497, 3) := by decide +kernel
theorem dL_law_450 : decode cL_law 450 = .ok (.iconst 0, 1) := by decide +kernel
theorem dL_law_451 : decode cL_law 451 = .ok (.ireturn, 1) := by decide +kernel
theorem dL_law_452 : decode cL_law 452 = .ok (.aload_n 1, 1) := by decide +kernel
theorem dL_law_453 : decode cL_law 453 = .ok (.aload_n 0, 1) := by decide +kernel
theorem dL_law_454 : decode cL_law 454 = .ok (.iload_n 3, 1) := by decide +kernel
theorem dL_law_455 : decode cL_law 455 = .ok (.iconst 1, 1) := by decide +kernel
theorem dL_law_456 : decode cL_law 456 = .ok (.iadd, 1) := by decide +kernel
theorem dL_law_457 : decode cL_law 457 = .ok (.iaload, 1) := by decide +kernel
theorem dL_law_458 : decode cL_law 458 = .ok (.aload_n 0, 1) := by decide +kernel
theorem dL_law_459 : decode cL_law 459 = .ok (.iload_n 3, 1) := by decide +kernel
theorem dL_law_460 : decode cL_law 460 = .ok (.iconst 2, 1) := by decide +kernel
theorem dL_law_461 : decode cL_law 461 = .ok (.iadd, 1) := by decide +kernel
theorem dL_law_462 : decode cL_law 462 = .ok (.iaload, 1) := by decide +kernel
theorem dL_law_463 : decode cL_law 463 = .ok (.invokevirtual 64, 3) := by decide +kernel
theorem dL_law_466 : decode cL_law 466 = .ok (.aload_n 2, 1) := by decide +kernel
theorem dL_law_467 : decode cL_law 467 = .ok (.aload_n 0, 1) := by decide +kernel
theorem dL_law_468 : decode cL_law 468 = .ok (.iload_n 3, 1) := by decide +kernel
theorem dL_law_469 : decode cL_law 469 = .ok (.iconst 1, 1) := by decide +kernel
theorem dL_law_470 : decode cL_law 470 = .ok (.iadd, 1) := by decide +kernel
theorem dL_law_471 : decode cL_law 471 = .ok (.iaload, 1) := by decide +kernel
theorem dL_law_472 : decode cL_law 472 = .ok (.aload_n 0, 1) := by decide +kernel
theorem dL_law_473 : decode cL_law 473 = .ok (.iload_n 3, 1) := by decide +kernel
theorem dL_law_474 : decode cL_law 474 = .ok (.iconst 2, 1) := by decide +kernel
theorem dL_law_475 : decode cL_law 475 = .ok (.iadd, 1) := by decide +kernel
theorem dL_law_476 : decode cL_law 476 = .ok (.iaload, 1) := by decide +kernel
theorem dL_law_477 : decode cL_law 477 = .ok (.invokevirtual 67, 3) := by decide +kernel
theorem dL_law_480 : decode cL_law 480 = .ok (.if_icmp .eq 464, 3) := by decide +kernel
theorem dL_law_483 : decode cL_law 483 = .ok (.iconst 0, 1) := by decide +kernel
theorem dL_law_484 : decode cL_law 484 = .ok (.ireturn, 1) := by decide +kernel
theorem dL_law_485 : decode cL_law 485 = .ok (.aload_n 1, 1) := by decide +kernel
theorem dL_law_486 : decode cL_law 486 = .ok (.aload_n 0, 1) := by decide +kernel
theorem dL_law_487 : decode cL_law 487 = .ok (.iload_n 3, 1) := by decide +kernel
theorem dL_law_488 : decode cL_law 488 = .ok (.iconst 1, 1) := by decide +kernel
theorem dL_law_489 : decode cL_law 489 = .ok (.iadd, 1) := by decide +kernel
theorem dL_law_490 : decode cL_law 490 = .ok (.iaload, 1) := by decide +kernel
theorem dL_law_491 : decode cL_law 491 = .ok (.invokevirtual 68, 3) := by decide +kernel
theorem dL_law_494 : decode cL_law 494 = .ok (.aload_n 2, 1) := by decide +kernel
theorem dL_law_495 : decode cL_law 495 = .ok (.aload_n 0, 1) := by decide +kernel
theorem dL_law_496 : decode cL_law 496 = .ok (.iload_n 3, 1) := by decide +kernel
theorem dL_law_497 : decode cL_law 497 = .ok (.iconst 1, 1) := by decide +kernel
theorem dL_law_498 : decode cL_law 498 = .ok (.iadd, 1) := by decide +kernel
theorem dL_law_499 : decode cL_law 499 = .ok (.iaload, 1) := by decide +kernel
theorem dL_law_500 : decode cL_law 500 = .ok (.invokevirtual 71, 3) := by decide +kernel
theorem dL_law_503 : decode cL_law 503 = .ok (.if_icmp .eq 441, 3) := by decide +kernel
theorem dL_law_506 : decode cL_law 506 = .ok (.iconst 0, 1) := by decide +kernel
theorem dL_law_507 : decode cL_law 507 = .ok (.ireturn, 1) := by decide +kernel
theorem dL_law_508 : decode cL_law 508 = .ok (.aload_n 1, 1) := by decide +kernel
theorem dL_law_509 : decode cL_law 509 = .ok (.aload_n 0, 1) := by decide +kernel
theorem dL_law_510 : decode cL_law 510 = .ok (.iload_n 3, 1) := by decide +kernel
theorem dL_law_511 : decode cL_law 511 = .ok (.iconst 1, 1) := by decide +kernel
theorem dL_law_512 : decode cL_law 512 = .ok (.iadd, 1) := by decide +kernel
theorem dL_law_513 : decode cL_law 513 = .ok (.iaload, 1) := by decide +kernel
theorem dL_law_514 : decode cL_law 514 = .ok (.aload_n 0, 1) := by decide +kernel
theorem dL_law_515 : decode cL_law 515 = .ok (.iload_n 3, 1) := by decide +kernel
theorem dL_law_516 : decode cL_law 516 = .ok (.iconst 2, 1) := by decide +kernel
theorem dL_law_517 : decode cL_law 517 = .ok (.iadd, 1) := by decide +kernel
theorem dL_law_518 : decode cL_law 518 = .ok (.iaload, 1) := by decide +kernel
theorem dL_law_519 : decode cL_law 519 = .ok (.invokevirtual 72, 3) := by decide +kernel
theorem dL_law_522 : decode cL_law 522 = .ok (.aload_n 2, 1) := by decide +kernel
theorem dL_law_523 : decode cL_law 523 = .ok (.aload_n 0, 1) := by decide +kernel
theorem dL_law_524 : decode cL_law 524 = .ok (.iload_n 3, 1) := by decide +kernel
theorem dL_law_525 : decode cL_law 525 = .ok (.iconst 1, 1) := by decide +kernel
theorem dL_law_526 : decode cL_law 526 = .ok (.iadd, 1) := by decide +kernel
theorem dL_law_527 : decode cL_law 527 = .ok (.iaload, 1) := by decide +kernel
theorem dL_law_528 : decode cL_law 528 = .ok (.aload_n 0, 1) := by decide +kernel
theorem dL_law_529 : decode cL_law 529 = .ok (.iload_n 3, 1) := by decide +kernel
theorem dL_law_530 : decode cL_law 530 = .ok (.iconst 2, 1) := by decide +kernel
theorem dL_law_531 : decode cL_law 531 = .ok (.iadd, 1) := by decide +kernel
theorem dL_law_532 : decode cL_law 532 = .ok (.iaload, 1) := by decide +kernel
theorem dL_law_533 : decode cL_law 533 = .ok (.invokevirtual 75, 3) := by decide +kernel
theorem dL_law_536 : decode cL_law 536 = .ok (.if_icmp .eq 408, 3) := by decide +kernel
theorem dL_law_539 : decode cL_law 539 = .ok (.iconst 0, 1) := by decide +kernel
theorem dL_law_540 : decode cL_law 540 = .ok (.ireturn, 1) := by decide +kernel
theorem dL_law_541 : decode cL_law 541 = .ok (.aload_n 1, 1) := by decide +kernel
theorem dL_law_542 : decode cL_law 542 = .ok (.aload_n 0, 1) := by decide +kernel
theorem dL_law_543 : decode cL_law 543 = .ok (.iload_n 3, 1) := by decide +kernel
theorem dL_law_544 : decode cL_law 544 = .ok (.iconst 1, 1) := by decide +kernel
theorem dL_law_545 : decode cL_law 545 = .ok (.iadd, 1) := by decide +kernel
theorem dL_law_546 : decode cL_law 546 = .ok (.iaload, 1) := by decide +kernel
theorem dL_law_547 : decode cL_law 547 = .ok (.invokevirtual 76, 3) := by decide +kernel
theorem dL_law_550 : decode cL_law 550 = .ok (.aload_n 2, 1) := by decide +kernel
theorem dL_law_551 : decode cL_law 551 = .ok (.aload_n 0, 1) := by decide +kernel
theorem dL_law_552 : decode cL_law 552 = .ok (.iload_n 3, 1) := by decide +kernel
theorem dL_law_553 : decode cL_law 553 = .ok (.iconst 1, 1) := by decide +kernel
theorem dL_law_554 : decode cL_law 554 = .ok (.iadd, 1) := by decide +kernel
theorem dL_law_555 : decode cL_law 555 = .ok (.iaload, 1) := by decide +kernel
theorem dL_law_556 : decode cL_law 556 = .ok (.invokevirtual 79, 3) := by decide +kernel
theorem dL_law_559 : decode cL_law 559 = .ok (.if_icmp .eq 385, 3) := by decide +kernel
theorem dL_law_562 : decode cL_law 562 = .ok (.iconst 0, 1) := by decide +kernel
theorem dL_law_563 : decode cL_law 563 = .ok (.ireturn, 1) := by decide +kernel
theorem dL_law_564 : decode cL_law 564 = .ok (.aload_n 1, 1) := by decide +kernel
theorem dL_law_565 : decode cL_law 565 = .ok (.aload_n 0, 1) := by decide +kernel
theorem dL_law_566 : decode cL_law 566 = .ok (.iload_n 3, 1) := by decide +kernel
theorem dL_law_567 : decode cL_law 567 = .ok (.iconst 1, 1) := by decide +kernel
theorem dL_law_568 : decode cL_law 568 = .ok (.iadd, 1) := by decide +kernel
theorem dL_law_569 : decode cL_law 569 = .ok (.iaload, 1) := by decide +kernel
theorem dL_law_570 : decode cL_law 570 = .ok (.invokevirtual 80, 3) := by decide +kernel
theorem dL_law_573 : decode cL_law 573 = .ok (.aload_n 2, 1) := by decide +kernel
theorem dL_law_574 : decode cL_law 574 = .ok (.aload_n 0, 1) := by decide +kernel
theorem dL_law_575 : decode cL_law 575 = .ok (.iload_n 3, 1) := by decide +kernel
theorem dL_law_576 : decode cL_law 576 = .ok (.iconst 1, 1) := by decide +kernel
theorem dL_law_577 : decode cL_law 577 = .ok (.iadd, 1) := by decide +kernel
theorem dL_law_578 : decode cL_law 578 = .ok (.iaload, 1) := by decide +kernel
theorem dL_law_579 : decode cL_law 579 = .ok (.invokevirtual 83, 3) := by decide +kernel
theorem dL_law_582 : decode cL_law 582 = .ok (.if_icmp .eq 362, 3) := by decide +kernel
theorem dL_law_585 : decode cL_law 585 = .ok (.iconst 0, 1) := by decide +kernel
theorem dL_law_586 : decode cL_law 586 = .ok (.ireturn, 1) := by decide +kernel
theorem dL_law_587 : decode cL_law 587 = .ok (.aload_n 1, 1) := by decide +kernel
theorem dL_law_588 : decode cL_law 588 = .ok (.aload_n 0, 1) := by decide +kernel
theorem dL_law_589 : decode cL_law 589 = .ok (.iload_n 3, 1) := by decide +kernel
theorem dL_law_590 : decode cL_law 590 = .ok (.iconst 1, 1) := by decide +kernel
theorem dL_law_591 : decode cL_law 591 = .ok (.iadd, 1) := by decide +kernel
theorem dL_law_592 : decode cL_law 592 = .ok (.iaload, 1) := by decide +kernel
theorem dL_law_593 : decode cL_law 593 = .ok (.invokevirtual 84, 3) := by decide +kernel
theorem dL_law_596 : decode cL_law 596 = .ok (.aload_n 2, 1) := by decide +kernel
theorem dL_law_597 : decode cL_law 597 = .ok (.aload_n 0, 1) := by decide +kernel
theorem dL_law_598 : decode cL_law 598 = .ok (.iload_n 3, 1) := by decide +kernel
theorem dL_law_599 : decode cL_law 599 = .ok (.iconst 1, 1) := by decide +kernel
theorem dL_law_600 : decode cL_law 600 = .ok (.iadd, 1) := by decide +kernel
theorem dL_law_601 : decode cL_law 601 = .ok (.iaload, 1) := by decide +kernel
theorem dL_law_602 : decode cL_law 602 = .ok (.invokevirtual 87, 3) := by decide +kernel
theorem dL_law_605 : decode cL_law 605 = .ok (.if_icmp .eq 339, 3) := by decide +kernel
theorem dL_law_608 : decode cL_law 608 = .ok (.iconst 0, 1) := by decide +kernel
theorem dL_law_609 : decode cL_law 609 = .ok (.ireturn, 1) := by decide +kernel
theorem dL_law_610 : decode cL_law 610 = .ok (.aload_n 1, 1) := by decide +kernel
theorem dL_law_611 : decode cL_law 611 = .ok (.aload_n 0, 1) := by decide +kernel
theorem dL_law_612 : decode cL_law 612 = .ok (.iload_n 3, 1) := by decide +kernel
theorem dL_law_613 : decode cL_law 613 = .ok (.iconst 1, 1) := by decide +kernel
theorem dL_law_614 : decode cL_law 614 = .ok (.iadd, 1) := by decide +kernel
theorem dL_law_615 : decode cL_law 615 = .ok (.iaload, 1) := by decide +kernel
theorem dL_law_616 : decode cL_law 616 = .ok (.invokevirtual 88, 3) := by decide +kernel
theorem dL_law_619 : decode cL_law 619 = .ok (.aload_n 2, 1) := by decide +kernel
theorem dL_law_620 : decode cL_law 620 = .ok (.aload_n 0, 1) := by decide +kernel
theorem dL_law_621 : decode cL_law 621 = .ok (.iload_n 3, 1) := by decide +kernel
theorem dL_law_622 : decode cL_law 622 = .ok (.iconst 1, 1) := by decide +kernel
theorem dL_law_623 : decode cL_law 623 = .ok (.iadd, 1) := by decide +kernel
theorem dL_law_624 : decode cL_law 624 = .ok (.iaload, 1) := by decide +kernel
theorem dL_law_625 : decode cL_law 625 = .ok (.invokevirtual 91, 3) := by decide +kernel
theorem dL_law_628 : decode cL_law 628 = .ok (.if_icmp .eq 316, 3) := by decide +kernel
theorem dL_law_631 : decode cL_law 631 = .ok (.iconst 0, 1) := by decide +kernel
theorem dL_law_632 : decode cL_law 632 = .ok (.ireturn, 1) := by decide +kernel
theorem dL_law_633 : decode cL_law 633 = .ok (.aload_n 1, 1) := by decide +kernel
theorem dL_law_634 : decode cL_law 634 = .ok (.aload_n 0, 1) := by decide +kernel
theorem dL_law_635 : decode cL_law 635 = .ok (.iload_n 3, 1) := by decide +kernel
theorem dL_law_636 : decode cL_law 636 = .ok (.iconst 1, 1) := by decide +kernel
theorem dL_law_637 : decode cL_law 637 = .ok (.iadd, 1) := by decide +kernel
theorem dL_law_638 : decode cL_law 638 = .ok (.iaload, 1) := by decide +kernel
theorem dL_law_639 : decode cL_law 639 = .ok (.aload_n 0, 1) := by decide +kernel
theorem dL_law_640 : decode cL_law 640 = .ok (.iload_n 3, 1) := by decide +kernel
theorem dL_law_641 : decode cL_law 641 = .ok (.iconst 2, 1) := by decide +kernel
theorem dL_law_642 : decode cL_law 642 = .ok (.iadd, 1) := by decide +kernel
theorem dL_law_643 : decode cL_law 643 = .ok (.iaload, 1) := by decide +kernel
theorem dL_law_644 : decode cL_law 644 = .ok (.aload_n 0, 1) := by decide +kernel
theorem dL_law_645 : decode cL_law 645 = .ok (.iload_n 3, 1) := by decide +kernel
theorem dL_law_646 : decode cL_law 646 = .ok (.iconst 3, 1) := by decide +kernel
theorem dL_law_647 : decode cL_law 647 = .ok (.iadd, 1) := by decide +kernel
theorem dL_law_648 : decode cL_law 648 = .ok (.iaload, 1) := by decide +kernel
theorem dL_law_649 : decode cL_law 649 = .ok (.aload_n 0, 1) := by decide +kernel
theorem dL_law_650 : decode cL_law 650 = .ok (.iload_n 3, 1) := by decide +kernel
theorem dL_law_651 : decode cL_law 651 = .ok (.iconst 4, 1) := by decide +kernel
theorem dL_law_652 : decode cL_law 652 = .ok (.iadd, 1) := by decide +kernel
theorem dL_law_653 : decode cL_law 653 = .ok (.iaload, 1) := by decide +kernel
theorem dL_law_654 : decode cL_law 654 = .ok (.invokevirtual 92, 3) := by decide +kernel
theorem dL_law_657 : decode cL_law 657 = .ok (.aload_n 2, 1) := by decide +kernel
theorem dL_law_658 : decode cL_law 658 = .ok (.aload_n 0, 1) := by decide +kernel
theorem dL_law_659 : decode cL_law 659 = .ok (.iload_n 3, 1) := by decide +kernel
theorem dL_law_660 : decode cL_law 660 = .ok (.iconst 1, 1) := by decide +kernel
theorem dL_law_661 : decode cL_law 661 = .ok (.iadd, 1) := by decide +kernel
theorem dL_law_662 : decode cL_law 662 = .ok (.iaload, 1) := by decide +kernel
theorem dL_law_663 : decode cL_law 663 = .ok (.aload_n 0, 1) := by decide +kernel
theorem dL_law_664 : decode cL_law 664 = .ok (.iload_n 3, 1) := by decide +kernel
theorem dL_law_665 : decode cL_law 665 = .ok (.iconst 2, 1) := by decide +kernel
theorem dL_law_666 : decode cL_law 666 = .ok (.iadd, 1) := by decide +kernel
theorem dL_law_667 : decode cL_law 667 = .ok (.iaload, 1) := by decide +kernel
theorem dL_law_668 : decode cL_law 668 = .ok (.aload_n 0, 1) := by decide +kernel
theorem dL_law_669 : decode cL_law 669 = .ok (.iload_n 3, 1) := by decide +kernel
theorem dL_law_670 : decode cL_law 670 = .ok (.iconst 3, 1) := by decide +kernel
theorem dL_law_671 : decode cL_law 671 = .ok (.iadd, 1) := by decide +kernel
theorem dL_law_672 : decode cL_law 672 = .ok (.iaload, 1) := by decide +kernel
theorem dL_law_673 : decode cL_law 673 = .ok (.aload_n 0, 1) := by decide +kernel
theorem dL_law_674 : decode cL_law 674 = .ok (.iload_n 3, 1) := by decide +kernel
theorem dL_law_675 : decode cL_law 675 = .ok (.iconst 4, 1) := by decide +kernel
theorem dL_law_676 : decode cL_law 676 = .ok (.iadd, 1) := by decide +kernel
theorem dL_law_677 : decode cL_law 677 = .ok (.iaload, 1) := by decide +kernel
theorem dL_law_678 : decode cL_law 678 = .ok (.invokevirtual 96, 3) := by decide +kernel
theorem dL_law_681 : decode cL_law 681 = .ok (.if_icmp .eq 263, 3) := by decide +kernel
theorem dL_law_684 : decode cL_law 684 = .ok (.iconst 0, 1) := by decide +kernel
theorem dL_law_685 : decode cL_law 685 = .ok (.ireturn, 1) := by decide +kernel
theorem dL_law_686 : decode cL_law 686 = .ok (.aload_n 1, 1) := by decide +kernel
theorem dL_law_687 : decode cL_law 687 = .ok (.invokevirtual 97, 3) := by decide +kernel
theorem dL_law_690 : decode cL_law 690 = .ok (.aload_n 2, 1) := by decide +kernel
theorem dL_law_691 : decode cL_law 691 = .ok (.invokevirtual 100, 3) := by decide +kernel
theorem dL_law_694 : decode cL_law 694 = .ok (.if_icmp .eq 250, 3) := by decide +kernel
theorem dL_law_697 : decode cL_law 697 = .ok (.iconst 0, 1) := by decide +kernel
theorem dL_law_698 : decode cL_law 698 = .ok (.ireturn, 1) := by decide +kernel
theorem dL_law_699 : decode cL_law 699 = .ok (.aload_n 1, 1) := by decide +kernel
theorem dL_law_700 : decode cL_law 700 = .ok (.invokevirtual 101, 3) := by decide +kernel
theorem dL_law_703 : decode cL_law 703 = .ok (.aload_n 2, 1) := by decide +kernel
theorem dL_law_704 : decode cL_law 704 = .ok (.invokevirtual 104, 3) := by decide +kernel
theorem dL_law_707 : decode cL_law 707 = .ok (.if_icmp .eq 237, 3) := by decide +kernel
theorem dL_law_710 : decode cL_law 710 = .ok (.iconst 0, 1) := by decide +kernel
theorem dL_law_711 : decode cL_law 711 = .ok (.ireturn, 1) := by decide +kernel
theorem dL_law_712 : decode cL_law 712 = .ok (.aload_n 1, 1) := by decide +kernel
theorem dL_law_713 : decode cL_law 713 = .ok (.invokevirtual 105, 3) := by decide +kernel
theorem dL_law_716 : decode cL_law 716 = .ok (.aload_n 2, 1) := by decide +kernel
theorem dL_law_717 : decode cL_law 717 = .ok (.invokevirtual 108, 3) := by decide +kernel
theorem dL_law_720 : decode cL_law 720 = .ok (.if_icmp .eq 224, 3) := by decide +kernel
theorem dL_law_723 : decode cL_law 723 = .ok (.iconst 0, 1) := by decide +kernel
theorem dL_law_724 : decode cL_law 724 = .ok (.ireturn, 1) := by decide +kernel
theorem dL_law_725 : decode cL_law 725 = .ok (.aload_n 1, 1) := by decide +kernel
theorem dL_law_726 : decode cL_law 726 = .ok (.aload_n 0, 1) := by decide +kernel
theorem dL_law_727 : decode cL_law 727 = .ok (.iload_n 3, 1) := by decide +kernel
theorem dL_law_728 : decode cL_law 728 = .ok (.iconst 1, 1) := by decide +kernel
theorem dL_law_729 : decode cL_law 729 = .ok (.iadd, 1) := by decide +kernel
theorem dL_law_730 : decode cL_law 730 = .ok (.iaload, 1) := by decide +kernel
theorem dL_law_731 : decode cL_law 731 = .ok (.invokevirtual 109, 3) := by decide +kernel
theorem dL_law_734 : decode cL_law 734 = .ok (.aload_n 2, 1) := by decide +kernel
theorem dL_law_735 : decode cL_law 735 = .ok (.aload_n 0, 1) := by decide +kernel
theorem dL_law_736 : decode cL_law 736 = .ok (.iload_n 3, 1) := by decide +kernel
theorem dL_law_737 : decode cL_law 737 = .ok (.iconst 1, 1) := by decide +kernel
theorem dL_law_738 : decode cL_law 738 = .ok (.iadd, 1) := by decide +kernel
theorem dL_law_739 : decode cL_law 739 = .ok (.iaload, 1) := by decide +kernel
theorem dL_law_740 : decode cL_law 740 = .ok (.invokevirtual 112, 3) := by decide +kernel
theorem dL_law_743 : decode cL_law 743 = .ok (.if_icmp .eq 201, 3) := by decide +kernel
theorem dL_law_746 : decode cL_law 746 = .ok (.iconst 0, 1) := by decide +kernel
theorem dL_law_747 : decode cL_law 747 = .ok (.ireturn, 1) := by decide +kernel
theorem dL_law_748 : decode cL_law 748 = .ok (.aload_n 1, 1) := by decide +kernel
theorem dL_law_749 : decode cL_law 749 = .ok (.aload_n 0, 1) := by decide +kernel
theorem dL_law_750 : decode cL_law 750 = .ok (.iload_n 3, 1) := by decide +kernel
theorem dL_law_751 : decode cL_law 751 = .ok (.iconst 1, 1) := by decide +kernel
theorem dL_law_752 : decode cL_law 752 = .ok (.iadd, 1) := by decide +kernel
theorem dL_law_753 : decode cL_law 753 = .ok (.iaload, 1) := by decide +kernel
theorem dL_law_754 : decode cL_law 754 = .ok (.aload_n 0, 1) := by decide +kernel
theorem dL_law_755 : decode cL_law 755 = .ok (.iload_n 3, 1) := by decide +kernel
theorem dL_law_756 : decode cL_law 756 = .ok (.iconst 2, 1) := by decide +kernel
theorem dL_law_757 : decode cL_law 757 = .ok (.iadd, 1) := by decide +kernel
theorem dL_law_758 : decode cL_law 758 = .ok (.iaload, 1) := by decide +kernel
theorem dL_law_759 : decode cL_law 759 = .ok (.invokevirtual 113, 3) := by decide +kernel
theorem dL_law_762 : decode cL_law 762 = .ok (.aload_n 2, 1) := by decide +kernel
theorem dL_law_763 : decode cL_law 763 = .ok (.aload_n 0, 1) := by decide +kernel
theorem dL_law_764 : decode cL_law 764 = .ok (.iload_n 3, 1) := by decide +kernel
theorem dL_law_765 : decode cL_law 765 = .ok (.iconst 1, 1) := by decide +kernel
theorem dL_law_766 : decode cL_law 766 = .ok (.iadd, 1) := by decide +kernel
theorem dL_law_767 : decode cL_law 767 = .ok (.iaload, 1) := by decide +kernel
theorem dL_law_768 : decode cL_law 768 = .ok (.aload_n 0, 1) := by decide +kernel
theorem dL_law_769 : decode cL_law 769 = .ok (.iload_n 3, 1) := by decide +kernel
theorem dL_law_770 : decode cL_law 770 = .ok (.iconst 2, 1) := by decide +kernel
theorem dL_law_771 : decode cL_law 771 = .ok (.iadd, 1) := by decide +kernel
theorem dL_law_772 : decode cL_law 772 = .ok (.iaload, 1) := by decide +kernel
theorem dL_law_773 : decode cL_law 773 = .ok (.invokevirtual 116, 3) := by decide +kernel
theorem dL_law_776 : decode cL_law 776 = .ok (.if_icmp .eq 168, 3) := by decide +kernel
theorem dL_law_779 : decode cL_law 779 = .ok (.iconst 0, 1) := by decide +kernel
theorem dL_law_780 : decode cL_law 780 = .ok (.ireturn, 1) := by decide +kernel
theorem dL_law_781 : decode cL_law 781 = .ok (.aload_n 1, 1) := by decide +kernel
theorem dL_law_782 : decode cL_law 782 = .ok (.aload_n 0, 1) := by decide +kernel
theorem dL_law_783 : decode cL_law 783 = .ok (.iload_n 3, 1) := by decide +kernel
theorem dL_law_784 : decode cL_law 784 = .ok (.iconst 1, 1) := by decide +kernel
theorem dL_law_785 : decode cL_law 785 = .ok (.iadd, 1) := by decide +kernel
theorem dL_law_786 : decode cL_law 786 = .ok (.iaload, 1) := by decide +kernel
theorem dL_law_787 : decode cL_law 787 = .ok (.aload_n 0, 1) := by decide +kernel
theorem dL_law_788 : decode cL_law 788 = .ok (.iload_n 3, 1) := by decide +kernel
theorem dL_law_789 : decode cL_law 789 = .ok (.iconst 2, 1) := by decide +kernel
theorem dL_law_790 : decode cL_law 790 = .ok (.iadd, 1) := by decide +kernel
theorem dL_law_791 : decode cL_law 791 = .ok (.iaload, 1) := by decide +kernel
theorem dL_law_792 : decode cL_law 792 = .ok (.invokevirtual 117, 3) := by decide +kernel
theorem dL_law_795 : decode cL_law 795 = .ok (.aload_n 2, 1) := by decide +kernel
theorem dL_law_796 : decode cL_law 796 = .ok (.aload_n 0, 1) := by decide +kernel
theorem dL_law_797 : decode cL_law 797 = .ok (.iload_n 3, 1) := by decide +kernel
theorem dL_law_798 : decode cL_law 798 = .ok (.iconst 1, 1) := by decide +kernel
theorem dL_law_799 : decode cL_law 799 = .ok (.iadd, 1) := by decide +kernel
theorem dL_law_800 : decode cL_law 800 = .ok (.iaload, 1) := by decide +kernel
theorem dL_law_801 : decode cL_law 801 = .ok (.aload_n 0, 1) := by decide +kernel
theorem dL_law_802 : decode cL_law 802 = .ok (.iload_n 3, 1) := by decide +kernel
theorem dL_law_803 : decode cL_law 803 = .ok (.iconst 2, 1) := by decide +kernel
theorem dL_law_804 : decode cL_law 804 = .ok (.iadd, 1) := by decide +kernel
theorem dL_law_805 : decode cL_law 805 = .ok (.iaload, 1) := by decide +kernel
theorem dL_law_806 : decode cL_law 806 = .ok (.invokevirtual 120, 3) := by decide +kernel
theorem dL_law_809 : decode cL_law 809 = .ok (.if_icmp .eq 135, 3) := by decide +kernel
theorem dL_law_812 : decode cL_law 812 = .ok (.iconst 0, 1) := by decide +kernel
theorem dL_law_813 : decode cL_law 813 = .ok (.ireturn, 1) := by decide +kernel
theorem dL_law_814 : decode cL_law 814 = .ok (.aload_n 1, 1) := by decide +kernel
theorem dL_law_815 : decode cL_law 815 = .ok (.aload_n 0, 1) := by decide +kernel
theorem dL_law_816 : decode cL_law 816 = .ok (.iload_n 3, 1) := by decide +kernel
theorem dL_law_817 : decode cL_law 817 = .ok (.iconst 1, 1) := by decide +kernel
theorem dL_law_818 : decode cL_law 818 = .ok (.iadd, 1) := by decide +kernel
theorem dL_law_819 : decode cL_law 819 = .ok (.iaload, 1) := by decide +kernel
theorem dL_law_820 : decode cL_law 820 = .ok (.invokevirtual 121, 3) := by decide +kernel
theorem dL_law_823 : decode cL_law 823 = .ok (.aload_n 2, 1) := by decide +kernel
theorem dL_law_824 : decode cL_law 824 = .ok (.aload_n 0, 1) := by decide +kernel
theorem dL_law_825 : decode cL_law 825 = .ok (.iload_n 3, 1) := by decide +kernel
theorem dL_law_826 : decode cL_law 826 = .ok (.iconst 1, 1) := by decide +kernel
theorem dL_law_827 : decode cL_law 827 = .ok (.iadd, 1) := by decide +kernel
theorem dL_law_828 : decode cL_law 828 = .ok (.iaload, 1) := by decide +kernel
theorem dL_law_829 : decode cL_law 829 = .ok (.invokevirtual 125, 3) := by decide +kernel
theorem dL_law_832 : decode cL_law 832 = .ok (.lcmp, 1) := by decide +kernel
theorem dL_law_833 : decode cL_law 833 = .ok (.ifCond .eq 111, 3) := by decide +kernel
theorem dL_law_836 : decode cL_law 836 = .ok (.iconst 0, 1) := by decide +kernel
theorem dL_law_837 : decode cL_law 837 = .ok (.ireturn, 1) := by decide +kernel
theorem dL_law_838 : decode cL_law 838 = .ok (.aload_n 1, 1) := by decide +kernel
theorem dL_law_839 : decode cL_law 839 = .ok (.aload_n 0, 1) := by decide +kernel
theorem dL_law_840 : decode cL_law 840 = .ok (.iload_n 3, 1) := by decide +kernel
theorem dL_law_841 : decode cL_law 841 = .ok (.iconst 1, 1) := by decide +kernel
theorem dL_law_842 : decode cL_law 842 = .ok (.iadd, 1) := by decide +kernel
theorem dL_law_843 : decode cL_law 843 = .ok (.iaload, 1) := by decide +kernel
theorem dL_law_844 : decode cL_law 844 = .ok (.invokevirtual 126, 3) := by decide +kernel
theorem dL_law_847 : decode cL_law 847 = .ok (.aload_n 2, 1) := by decide +kernel
theorem dL_law_848 : decode cL_law 848 = .ok (.aload_n 0, 1) := by decide +kernel
theorem dL_law_849 : decode cL_law 849 = .ok (.iload_n 3, 1) := by decide +kernel
theorem dL_law_850 : decode cL_law 850 = .ok (.iconst 1, 1) := by decide +kernel
theorem dL_law_851 : decode cL_law 851 = .ok (.iadd, 1) := by decide +kernel
theorem dL_law_852 : decode cL_law 852 = .ok (.iaload, 1) := by decide +kernel
theorem dL_law_853 : decode cL_law 853 = .ok (.invokevirtual 129, 3) := by decide +kernel
theorem dL_law_856 : decode cL_law 856 = .ok (.if_icmp .eq 88, 3) := by decide +kernel
theorem dL_law_859 : decode cL_law 859 = .ok (.iconst 0, 1) := by decide +kernel
theorem dL_law_860 : decode cL_law 860 = .ok (.ireturn, 1) := by decide +kernel
theorem dL_law_861 : decode cL_law 861 = .ok (.aload_n 1, 1) := by decide +kernel
theorem dL_law_862 : decode cL_law 862 = .ok (.aload_n 0, 1) := by decide +kernel
theorem dL_law_863 : decode cL_law 863 = .ok (.iload_n 3, 1) := by decide +kernel
theorem dL_law_864 : decode cL_law 864 = .ok (.iconst 1, 1) := by decide +kernel
theorem dL_law_865 : decode cL_law 865 = .ok (.iadd, 1) := by decide +kernel
theorem dL_law_866 : decode cL_law 866 = .ok (.iaload, 1) := by decide +kernel
theorem dL_law_867 : decode cL_law 867 = .ok (.invokevirtual 130, 3) := by decide +kernel
theorem dL_law_870 : decode cL_law 870 = .ok (.aload_n 2, 1) := by decide +kernel
theorem dL_law_871 : decode cL_law 871 = .ok (.aload_n 0, 1) := by decide +kernel
theorem dL_law_872 : decode cL_law 872 = .ok (.iload_n 3, 1) := by decide +kernel
theorem dL_law_873 : decode cL_law 873 = .ok (.iconst 1, 1) := by decide +kernel
theorem dL_law_874 : decode cL_law 874 = .ok (.iadd, 1) := by decide +kernel
theorem dL_law_875 : decode cL_law 875 = .ok (.iaload, 1) := by decide +kernel
theorem dL_law_876 : decode cL_law 876 = .ok (.invokevirtual 133, 3) := by decide +kernel
theorem dL_law_879 : decode cL_law 879 = .ok (.if_icmp .eq 65, 3) := by decide +kernel
theorem dL_law_882 : decode cL_law 882 = .ok (.iconst 0, 1) := by decide +kernel
theorem dL_law_883 : decode cL_law 883 = .ok (.ireturn, 1) := by decide +kernel
theorem dL_law_884 : decode cL_law 884 = .ok (.aload_n 1, 1) := by decide +kernel
theorem dL_law_885 : decode cL_law 885 = .ok (.aload_n 0, 1) := by decide +kernel
theorem dL_law_886 : decode cL_law 886 = .ok (.iload_n 3, 1) := by decide +kernel
theorem dL_law_887 : decode cL_law 887 = .ok (.iconst 1, 1) := by decide +kernel
theorem dL_law_888 : decode cL_law 888 = .ok (.iadd, 1) := by decide +kernel
theorem dL_law_889 : decode cL_law 889 = .ok (.iaload, 1) := by decide +kernel
theorem dL_law_890 : decode cL_law 890 = .ok (.invokevirtual 134, 3) := by decide +kernel
theorem dL_law_893 : decode cL_law 893 = .ok (.aload_n 2, 1) := by decide +kernel
theorem dL_law_894 : decode cL_law 894 = .ok (.aload_n 0, 1) := by decide +kernel
theorem dL_law_895 : decode cL_law 895 = .ok (.iload_n 3, 1) := by decide +kernel
theorem dL_law_896 : decode cL_law 896 = .ok (.iconst 1, 1) := by decide +kernel
theorem dL_law_897 : decode cL_law 897 = .ok (.iadd, 1) := by decide +kernel
theorem dL_law_898 : decode cL_law 898 = .ok (.iaload, 1) := by decide +kernel
theorem dL_law_899 : decode cL_law 899 = .ok (.invokevirtual 137, 3) := by decide +kernel
theorem dL_law_902 : decode cL_law 902 = .ok (.if_icmp .eq 42, 3) := by decide +kernel
theorem dL_law_905 : decode cL_law 905 = .ok (.iconst 0, 1) := by decide +kernel
theorem dL_law_906 : decode cL_law 906 = .ok (.ireturn, 1) := by decide +kernel
theorem dL_law_907 : decode cL_law 907 = .ok (.aload_n 1, 1) := by decide +kernel
theorem dL_law_908 : decode cL_law 908 = .ok (.aload_n 0, 1) := by decide +kernel
theorem dL_law_909 : decode cL_law 909 = .ok (.iload_n 3, 1) := by decide +kernel
theorem dL_law_910 : decode cL_law 910 = .ok (.iconst 1, 1) := by decide +kernel
theorem dL_law_911 : decode cL_law 911 = .ok (.iadd, 1) := by decide +kernel
theorem dL_law_912 : decode cL_law 912 = .ok (.iaload, 1) := by decide +kernel
theorem dL_law_913 : decode cL_law 913 = .ok (.invokevirtual 138, 3) := by decide +kernel
theorem dL_law_916 : decode cL_law 916 = .ok (.aload_n 2, 1) := by decide +kernel
theorem dL_law_917 : decode cL_law 917 = .ok (.aload_n 0, 1) := by decide +kernel
theorem dL_law_918 : decode cL_law 918 = .ok (.iload_n 3, 1) := by decide +kernel
theorem dL_law_919 : decode cL_law 919 = .ok (.iconst 1, 1) := by decide +kernel
theorem dL_law_920 : decode cL_law 920 = .ok (.iadd, 1) := by decide +kernel
theorem dL_law_921 : decode cL_law 921 = .ok (.iaload, 1) := by decide +kernel
theorem dL_law_922 : decode cL_law 922 = .ok (.invokevirtual 141, 3) := by decide +kernel
theorem dL_law_925 : decode cL_law 925 = .ok (.if_icmp .eq 19, 3) := by decide +kernel
theorem dL_law_928 : decode cL_law 928 = .ok (.iconst 0, 1) := by decide +kernel
theorem dL_law_929 : decode cL_law 929 = .ok (.ireturn, 1) := by decide +kernel
theorem dL_law_930 : decode cL_law 930 = .ok (.aload_n 1, 1) := by decide +kernel
theorem dL_law_931 : decode cL_law 931 = .ok (.invokevirtual 142, 3) := by decide +kernel
theorem dL_law_934 : decode cL_law 934 = .ok (.aload_n 2, 1) := by decide +kernel
theorem dL_law_935 : decode cL_law 935 = .ok (.invokevirtual 146, 3) := by decide +kernel
theorem dL_law_938 : decode cL_law 938 = .ok (.lcmp, 1) := by decide +kernel
theorem dL_law_939 : decode cL_law 939 = .ok (.ifCond .eq 5, 3) := by decide +kernel
theorem dL_law_942 : decode cL_law 942 = .ok (.iconst 0, 1) := by decide +kernel
theorem dL_law_943 : decode cL_law 943 = .ok (.ireturn, 1) := by decide +kernel
theorem dL_law_944 : decode cL_law 944 = .ok (.iinc 3 5, 3) := by decide +kernel
theorem dL_law_947 : decode cL_law 947 = .ok (.goto (-929), 3) := by decide +kernel
theorem dL_law_950 : decode cL_law 950 = .ok (.iconst 1, 1) := by decide +kernel
theorem dL_law_951 : decode cL_law 951 = .ok (.ireturn, 1) := by decide +kernel
end
section
/-! A small logic over the kit's rows: memory as functions of (object, slot), one word list for all methods. -/
/-- the words that last -/
def BIGW : List Cond := lw_tbl.filter goodWord
def j_nest (w : Cond) : Bool := match w with
  | .methodLinkNest .. => true
  | .fieldLinkNest .. => true
  | _ => false
/-- the links of nest mates -/
def NESTW : List Cond := tables_1.filter j_nest
theorem big_t {w : Cond} (i : Nat) (h : tables_1[i]? = some w) (hg : goodWord w = true) : w ∈ BIGW := List.mem_filter.mpr ⟨List.mem_append_right _ (List.mem_of_getElem? h), hg⟩
theorem big_s {w : Cond} (i : Nat) (h : (k2_sels lw_privs)[i]? = some w) (hg : goodWord w = true) : w ∈ BIGW := List.mem_filter.mpr ⟨List.mem_append_left _ (List.mem_of_getElem? h), hg⟩
theorem nest_t {w : Cond} (i : Nat) (h : tables_1[i]? = some w) (hg : j_nest w = true) : w ∈ NESTW := List.mem_filter.mpr ⟨List.mem_of_getElem? h, hg⟩
theorem big_good {w : Cond} (h : w ∈ BIGW) : (w.onTables && w.keeps) = true ∨ ∃ ty, w = .arrayClass ty := good_of_word (List.mem_filter.mp h).2
theorem nest_warm {w : Cond} (h : w ∈ NESTW) {s U : State} (hW : s.WarmedH U.vm) (hw : va_Nw w s) : va_Nw w U := by
  have h1 := (List.mem_filter.mp h).2
  cases w <;> first | exact va_Nw.warmM hW hw | exact va_Nw.warmF hW hw | cases h1
theorem nest_same {w : Cond} (h : w ∈ NESTW) {u U : State} (hv : u.vm = U.vm) (hw : va_Nw w u) : va_Nw w U := by
  have h1 := (List.mem_filter.mp h).2
  cases w <;> first | exact va_Nw.same rfl hv hw | cases h1
theorem nest_use {w : Cond} (h : w ∈ NESTW) {A : Array Value} {U : State} (hw : va_Nw w U) : w.before A U = true := by
  have h1 := (List.mem_filter.mp h).2
  cases w <;> first | exact va_Nw.use rfl hw | cases h1
/-- an object's shape: a class and its fields' kinds (0 int, 1 long, 2 + 2 t the object t, 3 + 2 t the object t or null), or an array (0 int, 1 boolean) and its length -/
abbrev JSh : Type := (Nat × List Nat) ⊕ (Nat × Nat)
abbrev JM : Type := (Nat → Nat → Int32) × (Nat → Nat → Int64)
abbrev JG : Type := Launch × va_G × ClassId × ClassId × (Nat → Nat)
/-- a method: its name, code, locals, answer; frames and locals of its room -/
abbrev JMth : Type := MethodName × ByteArray × Nat × Option FieldType × Nat × Nat
def j_cv (ad : Nat → Nat) (v : Value) : Value := match v with
  | .ref a => .ref (ad a)
  | v => v
def j_fv (ad : Nat → Nat) (μ : JM) (o k t : Nat) : Value := match t with
  | 0 => .int (μ.1 o k)
  | 1 => .long (μ.2 o k)
  | t + 2 => if t % 2 = 0 then .ref (ad (t / 2)) else if μ.1 o k = 0 then .null else .ref (ad (t / 2))
def j_fs (ad : Nat → Nat) (μ : JM) (o : Nat) (ks : List Nat) : List Value := (List.range ks.length).map (fun k => j_fv ad μ o k (ks.getD k 0))
def j_cell (cI cZ : ClassId) (ad : Nat → Nat) (μ : JM) (o : Nat) (x : JSh) : va_E := match x with
  | .inl (ci, ks) => .inr (ci, j_fs ad μ o ks)
  | .inr (t, n) => .inl (if t = 0 then cI else cZ, n, .inl (μ.1 o))
def j_w (cI cZ : ClassId) (ad : Nat → Nat) (sh : List JSh) (μ : JM) : va_W := (List.range sh.length).map (fun o => (ad o, j_cell cI cZ ad μ o (sh.getD o (.inr (0, 0)))))
def jI (μ : JM) (o k : Nat) (x : Int32) : JM := (fun a b => if a = o ∧ b = k then x else μ.1 a b, μ.2)
def jL (μ : JM) (o k : Nat) (x : Int64) : JM := (μ.1, fun a b => if a = o ∧ b = k then x else μ.2 a b)
theorem jI_i (μ : JM) (o k : Nat) (x : Int32) (a b : Nat) : (jI μ o k x).1 a b = if a = o ∧ b = k then x else μ.1 a b := rfl
theorem jI_l (μ : JM) (o k : Nat) (x : Int32) : (jI μ o k x).2 = μ.2 := rfl
theorem jL_i (μ : JM) (o k : Nat) (x : Int64) : (jL μ o k x).1 = μ.1 := rfl
theorem jL_l (μ : JM) (o k : Nat) (x : Int64) (a b : Nat) : (jL μ o k x).2 a b = if a = o ∧ b = k then x else μ.2 a b := rfl
/-- an array's part is overwritten -/
def jC (μ : JM) (o : Nat) (f : Nat → Int32) : JM := (fun a => if a = o then f else μ.1 a, μ.2)
theorem j_w_get {cI cZ : ClassId} {ad : Nat → Nat} {sh : List JSh} {μ : JM} {o : Nat} {x : JSh} (h : sh[o]? = some x) : (j_w cI cZ ad sh μ)[o]? = some (ad o, j_cell cI cZ ad μ o x) := by
  have hl := (List.getElem?_eq_some_iff.mp h).1
  have e : sh[o] = x := (List.getElem?_eq_some_iff.mp h).2
  simp [j_w, hl, e]
theorem j_fs_get {ad : Nat → Nat} {μ : JM} {o k t : Nat} {ks : List Nat} (h : ks[k]? = some t) : (j_fs ad μ o ks)[k]? = some (j_fv ad μ o k t) := by
  have hl := (List.getElem?_eq_some_iff.mp h).1
  have e : ks[k] = t := (List.getElem?_eq_some_iff.mp h).2
  simp [j_fs, hl, e]
theorem j_fs_len {ad : Nat → Nat} {μ : JM} {o : Nat} {ks : List Nat} : (j_fs ad μ o ks).length = ks.length := by simp [j_fs]
theorem j_w_len {cI cZ : ClassId} {ad : Nat → Nat} {sh : List JSh} {μ : JM} : (j_w cI cZ ad sh μ).length = sh.length := by simp [j_w]
/-- one cell anew: the world of the new memory -/
theorem j_w_set {cI cZ : ClassId} {ad : Nat → Nat} {sh : List JSh} {μ μ' : JM} {o : Nat} {x : JSh} {e : va_E} (h : sh[o]? = some x) (he : e = j_cell cI cZ ad μ' o x) (hk : ∀ a, a ≠ o → ∀ y, j_cell cI cZ ad μ' a y = j_cell cI cZ ad μ a y) : (j_w cI cZ ad sh μ).set o (ad o, e) = j_w cI cZ ad sh μ' := by
  have hl := (List.getElem?_eq_some_iff.mp h).1
  apply List.ext_getElem?
  intro i
  by_cases hi : i = o
  · subst hi
    rw [List.getElem?_set_self (by rw [j_w_len]; exact hl), j_w_get h, he]
  · rw [List.getElem?_set_ne (Ne.symm hi)]
    by_cases hl2 : i < sh.length
    · obtain ⟨y, hy⟩ : ∃ y, sh[i]? = some y := ⟨_, List.getElem?_eq_getElem hl2⟩
      rw [j_w_get hy, j_w_get hy, hk i hi]
    · rw [List.getElem?_eq_none (by rw [j_w_len]; omega), List.getElem?_eq_none (by rw [j_w_len]; omega)]
theorem j_fs_set {ad : Nat → Nat} {μ μ' : JM} {o k t : Nat} {ks : List Nat} {v : Value} (h : ks[k]? = some t) (hv : v = j_fv ad μ' o k t) (hk : ∀ b, b ≠ k → ∀ u, j_fv ad μ' o b u = j_fv ad μ o b u) : (j_fs ad μ o ks).set k v = j_fs ad μ' o ks := by
  have hl := (List.getElem?_eq_some_iff.mp h).1
  apply List.ext_getElem?
  intro i
  by_cases hi : i = k
  · subst hi
    rw [List.getElem?_set_self (by rw [j_fs_len]; exact hl), j_fs_get h, hv]
  · rw [List.getElem?_set_ne (Ne.symm hi)]
    by_cases hl2 : i < ks.length
    · obtain ⟨y, hy⟩ : ∃ y, ks[i]? = some y := ⟨_, List.getElem?_eq_getElem hl2⟩
      rw [j_fs_get hy, j_fs_get hy, hk i hi]
    · rw [List.getElem?_eq_none (by rw [j_fs_len]; omega), List.getElem?_eq_none (by rw [j_fs_len]; omega)]
theorem j_fv_I {ad : Nat → Nat} {μ : JM} {o k a b t : Nat} {x : Int32} (h : ¬ (a = o ∧ b = k)) : j_fv ad (jI μ o k x) a b t = j_fv ad μ a b t := by
  match t with
  | 0 => simp [j_fv, jI, h]
  | 1 => simp [j_fv, jI]
  | t + 2 => simp [j_fv, jI, h]
theorem j_fv_L {ad : Nat → Nat} {μ : JM} {o k a b t : Nat} {x : Int64} (h : ¬ (a = o ∧ b = k)) : j_fv ad (jL μ o k x) a b t = j_fv ad μ a b t := by
  match t with
  | 0 => simp [j_fv, jL]
  | 1 => simp [j_fv, jL, h]
  | t + 2 => rfl
theorem j_fs_congr {ad : Nat → Nat} {μ μ' : JM} {a : Nat} {ks : List Nat} (h : ∀ b t, j_fv ad μ' a b t = j_fv ad μ a b t) : j_fs ad μ' a ks = j_fs ad μ a ks := by
  simp [j_fs, h]
theorem j_cell_I {cI cZ : ClassId} {ad : Nat → Nat} {μ : JM} {o k a : Nat} {x : Int32} (h : a ≠ o) (y : JSh) : j_cell cI cZ ad (jI μ o k x) a y = j_cell cI cZ ad μ a y := by
  match y with
  | .inl (ci, ks) => simp only [j_cell]; rw [j_fs_congr (fun b t => j_fv_I (fun z => h z.1))]
  | .inr (t, n) => simp [j_cell, jI, h]
theorem j_cell_L {cI cZ : ClassId} {ad : Nat → Nat} {μ : JM} {o k a : Nat} {x : Int64} (h : a ≠ o) (y : JSh) : j_cell cI cZ ad (jL μ o k x) a y = j_cell cI cZ ad μ a y := by
  match y with
  | .inl (ci, ks) => simp only [j_cell]; rw [j_fs_congr (fun b t => j_fv_L (fun z => h z.1))]
  | .inr (t, n) => simp [j_cell, jL]
theorem j_cell_C {cI cZ : ClassId} {ad : Nat → Nat} {μ : JM} {o a : Nat} {f : Nat → Int32} (h : a ≠ o) (y : JSh) : j_cell cI cZ ad (jC μ o f) a y = j_cell cI cZ ad μ a y := by
  match y with
  | .inl (ci, ks) =>
    simp only [j_cell]
    rw [j_fs_congr (fun b t => ?_)]
    match t with
    | 0 => simp [j_fv, jC, h]
    | 1 => simp [j_fv, jC]
    | t + 2 => simp [j_fv, jC, h]
  | .inr (t, n) => simp [j_cell, jC, h]
theorem j_w_I {cI cZ : ClassId} {ad : Nat → Nat} {sh : List JSh} {μ : JM} {o k ci : Nat} {ks : List Nat} {x : Int32} (h : sh[o]? = some (.inl (ci, ks))) (hk : ks[k]? = some 0) : (j_w cI cZ ad sh μ).set o (ad o, .inr (ci, (j_fs ad μ o ks).set k (.int x))) = j_w cI cZ ad sh (jI μ o k x) := by
  refine j_w_set h ?_ (fun a ha y => j_cell_I ha y)
  rw [j_fs_set (μ' := jI μ o k x) hk (by simp [j_fv, jI]) (fun b hb u => j_fv_I (fun z => hb z.2))]
  rfl
theorem j_w_L {cI cZ : ClassId} {ad : Nat → Nat} {sh : List JSh} {μ : JM} {o k ci : Nat} {ks : List Nat} {x : Int64} (h : sh[o]? = some (.inl (ci, ks))) (hk : ks[k]? = some 1) : (j_w cI cZ ad sh μ).set o (ad o, .inr (ci, (j_fs ad μ o ks).set k (.long x))) = j_w cI cZ ad sh (jL μ o k x) := by
  refine j_w_set h ?_ (fun a ha y => j_cell_L ha y)
  rw [j_fs_set (μ' := jL μ o k x) hk (by simp [j_fv, jL]) (fun b hb u => j_fv_L (fun z => hb z.2))]
  rfl
theorem j_w_N {cI cZ : ClassId} {ad : Nat → Nat} {sh : List JSh} {μ : JM} {o k ci t : Nat} {ks : List Nat} (h : sh[o]? = some (.inl (ci, ks))) (hk : ks[k]? = some (2 * t + 3)) : (j_w cI cZ ad sh μ).set o (ad o, .inr (ci, (j_fs ad μ o ks).set k (.ref (ad t)))) = j_w cI cZ ad sh (jI μ o k 1) := by
  refine j_w_set h ?_ (fun a ha y => j_cell_I ha y)
  have e2 : j_fv ad (jI μ o k 1) o k (2 * t + 3) = .ref (ad t) := by
    show (if (2 * t + 1) % 2 = 0 then Value.ref (ad ((2 * t + 1) / 2)) else if (jI μ o k 1).1 o k = 0 then .null else .ref (ad ((2 * t + 1) / 2))) = _
    have e3 : (jI μ o k 1).1 o k = 1 := by simp [jI]
    rw [if_neg (by omega), if_neg (by rw [e3]; decide), show (2 * t + 1) / 2 = t by omega]
  rw [j_fs_set (μ' := jI μ o k 1) hk e2.symm (fun b hb u => j_fv_I (fun z => hb z.2))]
  rfl
theorem j_w_A {cI cZ : ClassId} {ad : Nat → Nat} {sh : List JSh} {μ : JM} {o k t n : Nat} {x : Int32} (h : sh[o]? = some (.inr (t, n))) : (j_w cI cZ ad sh μ).set o (ad o, .inl (if t = 0 then cI else cZ, n, .inl (upd (μ.1 o) k x))) = j_w cI cZ ad sh (jI μ o k x) := by
  refine j_w_set h ?_ (fun a ha y => j_cell_I ha y)
  have e : upd (μ.1 o) k x = (jI μ o k x).1 o := by
    funext b
    simp [upd, jI]
  rw [e]
  rfl
theorem j_w_C {cI cZ : ClassId} {ad : Nat → Nat} {sh : List JSh} {μ : JM} {o t n : Nat} {f : Nat → Int32} (h : sh[o]? = some (.inr (t, n))) : (j_w cI cZ ad sh μ).set o (ad o, .inl (if t = 0 then cI else cZ, n, .inl f)) = j_w cI cZ ad sh (jC μ o f) := by
  refine j_w_set h ?_ (fun a ha y => j_cell_C ha y)
  have e : f = (jC μ o f).1 o := by simp [jC]
  rw [show j_cell cI cZ ad (jC μ o f) o (.inr (t, n)) = .inl (if t = 0 then cI else cZ, n, .inl ((jC μ o f).1 o)) from rfl, ← e]
/-! ===== the locals: a list of values or nothing ===== -/
def j_l (ad : Nat → Nat) : Nat → List (Option Value) → List (Nat × Value)
  | _, [] => []
  | i, none :: t => j_l ad (i + 1) t
  | i, some v :: t => (i, j_cv ad v) :: j_l ad (i + 1) t
theorem j_l_mem {ad : Nat → Nat} : ∀ {lv : List (Option Value)} {b : Nat} {q : Nat × Value}, q ∈ j_l ad b lv ↔ ∃ j v, lv[j]? = some (some v) ∧ q = (b + j, j_cv ad v)
  | [], b, q => by simp [j_l]
  | none :: t, b, q => by
    rw [j_l, j_l_mem (lv := t)]
    constructor
    · rintro ⟨j, v, h, e⟩
      exact ⟨j + 1, v, by simpa using h, by rw [e]; congr 1; omega⟩
    · rintro ⟨j, v, h, e⟩
      match j with
      | 0 => simp at h
      | j + 1 => exact ⟨j, v, by simpa using h, by rw [e]; congr 1; omega⟩
  | some w :: t, b, q => by
    rw [j_l, List.mem_cons, j_l_mem (lv := t)]
    constructor
    · rintro (e | ⟨j, v, h, e⟩)
      · exact ⟨0, w, rfl, e⟩
      · exact ⟨j + 1, v, by simpa using h, by rw [e]; congr 1; omega⟩
    · rintro ⟨j, v, h, e⟩
      match j with
      | 0 => left; simp at h; rw [e, h]; rfl
      | j + 1 => right; exact ⟨j, v, by simpa using h, by rw [e]; congr 1; omega⟩
/-- no long ends at place i -/
def j_ok (lv : List (Option Value)) (i : Nat) : Bool := match i with
  | 0 => true
  | j + 1 => match lv[j]? with
    | some (some (.long _)) => false
    | some (some (.double _)) => false
    | _ => true
theorem j_cv_cat (ad : Nat → Nat) (v : Value) : (j_cv ad v).category = v.category := by cases v <;> rfl
theorem j_ok_cat {ad : Nat → Nat} {lv : List (Option Value)} {i j : Nat} {v : Value} (h : j_ok lv i = true) (hj : lv[j]? = some (some v)) (hi : j + 1 = i) : (j_cv ad v).category ≠ 2 := by
  subst hi
  rw [j_cv_cat]
  simp only [j_ok, hj] at h
  cases v <;> simp_all [Value.category]
theorem j_l_st1 {ad : Nat → Nat} {lv : List (Option Value)} {i : Nat} {v : Value} (h : j_ok lv i = true) : ∀ q ∈ j_l ad 0 (lv.set i (some v)), q ∈ (i, j_cv ad v) :: (j_l ad 0 lv).filter (fun q => !(q.1 == i) && !(q.1 + 1 == i && q.2.category == 2)) := by
  intro q hq
  obtain ⟨j, w, h1, e⟩ := j_l_mem.mp hq
  by_cases hj : j = i
  · subst hj
    rw [List.getElem?_set] at h1
    split at h1
    · split at h1
      · cases h1
        rw [e, Nat.zero_add]
        exact List.mem_cons_self
      · cases h1
    · rename_i z; exact absurd rfl z
  · rw [List.getElem?_set_ne (Ne.symm hj)] at h1
    refine List.mem_cons_of_mem _ (List.mem_filter.mpr ⟨j_l_mem.mpr ⟨j, w, h1, e⟩, ?_⟩)
    rw [e, Nat.zero_add]
    by_cases hz : j + 1 = i
    · have := j_ok_cat (ad := ad) h h1 hz
      simp [hj, this]
    · simp [hj, hz]
theorem j_l_st2 {ad : Nat → Nat} {lv : List (Option Value)} {i : Nat} {v : Value} (h : j_ok lv i = true) : ∀ q ∈ j_l ad 0 ((lv.set i (some v)).set (i + 1) none), q ∈ (i, j_cv ad v) :: (j_l ad 0 lv).filter (fun q => !(q.1 == i) && (!(q.1 == i + 1) && !(q.1 + 1 == i && q.2.category == 2))) := by
  intro q hq
  obtain ⟨j, w, h1, e⟩ := j_l_mem.mp hq
  by_cases hj1 : j = i + 1
  · subst hj1
    rw [List.getElem?_set] at h1
    split at h1
    · split at h1 <;> cases h1
    · rename_i z; exact absurd rfl z
  · rw [List.getElem?_set_ne (Ne.symm hj1)] at h1
    by_cases hj : j = i
    · subst hj
      rw [List.getElem?_set] at h1
      split at h1
      · split at h1
        · cases h1
          rw [e, Nat.zero_add]
          exact List.mem_cons_self
        · cases h1
      · rename_i z; exact absurd rfl z
    · rw [List.getElem?_set_ne (Ne.symm hj)] at h1
      refine List.mem_cons_of_mem _ (List.mem_filter.mpr ⟨j_l_mem.mpr ⟨j, w, h1, e⟩, ?_⟩)
      rw [e, Nat.zero_add]
      by_cases hz : j + 1 = i
      · have := j_ok_cat (ad := ad) h h1 hz
        simp [hj, hj1, this]
      · simp [hj, hj1, hz]
theorem j_has_get {ad : Nat → Nat} {lv : List (Option Value)} {ls : Array Slot} {n i : Nat} {v : Value} (h : lv_has ls n (j_l ad 0 lv)) (hv : lv[i]? = some (some v)) : ls[i]? = some (.val (j_cv ad v)) :=
  h.2.2 (i, j_cv ad v) (j_l_mem.mpr ⟨i, v, hv, by rw [Nat.zero_add]⟩)
theorem j_has_sub {ls : Array Slot} {n : Nat} {l l' : List (Nat × Value)} (h : lv_has ls n l) (hs : ∀ q ∈ l', q ∈ l) : lv_has ls n l' := ⟨h.1, h.2.1, fun q hq => h.2.2 q (hs q hq)⟩
theorem j_cat_map (ad : Nat → Nat) (st : List Value) : ((st.map (j_cv ad)).map fun v => v.category).sum = (st.map Value.category).sum := by
  rw [List.map_map]
  congr 1
  exact List.map_congr_left (fun v _ => j_cv_cat ad v)
/-! ===== what lies outside: static tables and the text constants ===== -/
def j_A (ad : Nat → Nat) (n sz : Nat) : Nat → Prop := fun q => (∃ o, o < n ∧ q = ad o) ∨ sz ≤ q
def j_tA : Nat → Int32 := fun i => match i with
  | 0 => -1
  | 1 => 1
  | 3 => -2
  | 4 => -3
  | 5 => 2
  | _ => 0
def j_tP : Nat → Int32 := fun i => match i with
  | 1 => 3
  | 2 => 2
  | 4 => -1
  | _ => 0
def j_tV : Nat → Int32 := fun i => match i with
  | 0 => 0
  | 1 => 1
  | 2 => 2
  | 3 => 3
  | _ => 4
/-- the static tables: objects 1000, 1001, 1002 -/
def j_tb : List (String × Nat × (Nat → Int32)) := [("PLAIN_ANGER", 6, j_tA), ("PLAIN_PRIDE", 6, j_tP), ("FIRST_VOWS", 8, j_tV)]
/-- the text constants: entry, text, bytes; objects 1010 .. (their byte rows 1020 ..) -/
def j_tx : List (Nat × String) := [(285, "jar"), (297, "mood"), (302, "bound"), (307, "vow"), (312, "say")]
end
section
def j_tl : List Nat := [3, 4, 5, 3, 3]
def j_tbt : List (List Int32) := [[106, 97, 114], [109, 111, 111, 100], [98, 111, 117, 110, 100], [118, 111, 119], [115, 97, 121]]
/-- what a method may lean on beside its own world -/
def j_E (ad : Nat → Nat) (A : Nat → Prop) (U : State) (H : Heap) : Prop :=
  (∀ w ∈ NESTW, va_Nw w U) ∧ (∀ (j : Nat) (x : String × Nat × (Nat → Int32)), j_tb[j]? = some x → va_Z RX3 x.1 "[I" (.ref (ad (1000 + j))) A U H ∧ va_T .int (ad (1000 + j)) x.2.1 (fun i => .int (x.2.2 i)) A U H) ∧
  (vk_S 5 j_tl j_tbt (fun i => ad (1010 + i)) (fun i => ad (1020 + i)) A U H ∧ ∀ (i : Nat) (x : Nat × String), j_tx[i]? = some x → vk_R RX3 x.1 x.2 (ad (1010 + i)) U) ∧
  va_Z "java/lang/String" "COMPACT_STRINGS" "Z" (.int 1) A U H ∧ va_Zq "jdk/internal/util/Preconditions" "SIOOBE_FORMATTER" "Ljava/util/function/BiFunction;" A U H
theorem j_E_go {ad : Nat → Nat} {A B : Nat → Prop} {s U : State} {H : Heap} (h : j_E ad A s s.heap) (hW : s.WarmedH U.vm) (hk : ∀ a : Nat, a < s.heap.size → ¬ A a → H[a]? = s.heap[a]?) (hAB : ∀ q, B q → A q) : j_E ad B U H := by
  obtain ⟨h1, h2, ⟨h3, h4⟩, h5, h6⟩ := h
  exact ⟨fun w hw => nest_warm hw hW (h1 w hw), fun j x hx => ⟨((h2 j x hx).1.moved hW.alike |>.kept hk).narrow hAB, ((h2 j x hx).2.moved hW.alike |>.kept hk).narrow hAB⟩, ⟨((h3.moved hW.alike).kept hk).narrow hAB, fun i x hx => (h4 i x hx).warm hW⟩, ((h5.moved hW.alike).kept hk).narrow hAB, ((h6.moved hW.alike).kept hk).narrow hAB⟩
theorem j_E_same {ad : Nat → Nat} {A : Nat → Prop} {u U : State} {H : Heap} (hv : u.vm = U.vm) (h : j_E ad A u H) : j_E ad A U H := by
  obtain ⟨h1, h2, ⟨h3, h4⟩, h5, h6⟩ := h
  have al : u.vm.Alike U.vm := by rw [hv]; exact Vm.Alike.refl _
  exact ⟨fun w hw => nest_same hw hv (h1 w hw), fun j x hx => ⟨(h2 j x hx).1.moved al, (h2 j x hx).2.moved al⟩, ⟨h3.moved al, fun i x hx => (h4 i x hx).same hv.symm⟩, h5.moved al, h6.moved al⟩
/-! ===== contracts and walks ===== -/
abbrev j_ty (G : JG) : List (ClassId × FieldType) := [(G.2.2.1, .int), (G.2.2.2.1, .boolean)]
abbrev j_W (G : JG) (sh : List JSh) (μ : JM) : va_W := j_w G.2.2.1 G.2.2.2.1 G.2.2.2.2 sh μ
abbrev j_ad (G : JG) : Nat → Nat := G.2.2.2.2
def j_ws (M : JMth) : List Cond := .code M.1 M.2.1 M.2.2.1 M.2.2.2.1 :: BIGW
def j_rm (M : JMth) : Room := { frames := M.2.2.2.2.1, cells := 0, slots := 0, locals := M.2.2.2.2.2 }
def j_Pre (G : JG) (sh : List JSh) (μ : JM) (sz : Nat) : State → Prop := fun U => U.heap.size = sz ∧ va_P G.2.1 vwCl (j_W G sh μ) U.heap ∧ va_K G.2.1 vwCl (j_ty G) U ∧ va_D (j_A (j_ad G) sh.length sz) (j_W G sh μ) ∧ j_E (j_ad G) (j_A (j_ad G) sh.length sz) U U.heap
def j_Q (G : JG) (sh : List JSh) (Q : Option Value → JM → Prop) (sz : Nat) : Array Value → State → Outcome → State → Prop := fun _ st o t => (∃ (v : Option Value) (μ : JM), o = .returned (v.map (j_cv (j_ad G))) ∧ Q v μ ∧ va_P G.2.1 vwCl (j_W G sh μ) t.heap ∧ va_K G.2.1 vwCl (j_ty G) t ∧ va_D (j_A (j_ad G) sh.length sz) (j_W G sh μ)) ∧ va_F (j_A (j_ad G) sh.length sz) st t
/-- a method's contract: from this memory it returns, and Q holds of its answer and the memory then -/
def Con (G : JG) (sh : List JSh) (M : JMth) (as : List Value) (μ : JM) (Q : Option Value → JM → Prop) : Prop := ∀ sz : Nat, Met G.1 M.1 (j_ws M) (j_rm M) (va_Pc (as.map (j_cv (j_ad G))) (j_Pre G sh μ sz)) (j_Q G sh Q sz) 0 0 (j_A (j_ad G) sh.length sz)
def j_X (G : JG) (sh : List JSh) (M : JMth) (p : Program) (s : State) (m : MethodId) (args : Array Value) (meth : Method) (c : Code) (H : Heap) (locs : List Loc) (sz : Nat) (ls : Array Slot) (lv : List (Option Value)) (μ : JM) : Prop :=
  p.tables.exec = Jvm.exec ∧ c.code = M.2.1 ∧ c.maxLocals = M.2.2.1 ∧ s.vm.findClass M.1.cls = some m.cls ∧ (∀ w ∈ j_ws M, w.before args s = true) ∧ meth.sig.returnType = M.2.2.2.1 ∧ meth.locks = false ∧ s.heap.size = sz ∧
  va_P G.2.1 vwCl (j_W G sh μ) H ∧ va_K G.2.1 vwCl (j_ty G) s ∧ va_D (j_A (j_ad G) sh.length sz) (j_W G sh μ) ∧ va_S (j_A (j_ad G) sh.length sz) s.heap H locs ∧ j_E (j_ad G) (j_A (j_ad G) sh.length sz) s s.heap ∧ lv_has ls M.2.2.1 (j_l (j_ad G) 0 lv)
/-- the machine at pc of method M, with these locals, this stack, this memory, comes to its end with Q -/
def J (G : JG) (sh : List JSh) (M : JMth) (pc : Nat) (lv : List (Option Value)) (st : List Value) (μ : JM) (Q : Option Value → JM → Prop) : Prop :=
  ∀ (p : Program) (e : Env) (s : State) (m : MethodId) (args : Array Value) (below : List Frame) (meth : Method) (c : Code) (H : Heap) (locs : List Loc) (sz : Nat) (ls : Array Slot), j_X G sh M p s m args meth c H locs sz ls lv μ →
  W p G.1 e (j_rm M) s m args below meth c H locs 0 0 (MQ below (j_Q G sh Q sz) args s 0 0 (j_A (j_ad G) sh.length sz)) (F0 m pc ls (st.map (j_cv (j_ad G))))
theorem Con_of {G : JG} {sh : List JSh} {M : JMth} {as : List Value} {μ : JM} {Q : Option Value → JM → Prop} (lv : List (Option Value)) (hy : plainName M.1.cls = true) (hn : (lg_sl (as.map (j_cv (j_ad G)))).length ≤ M.2.2.1) (hl : ∀ q ∈ j_l (j_ad G) 0 lv, q ∈ lv_args 0 (as.map (j_cv (j_ad G)))) (k : J G sh M 0 lv [] μ Q) : Con G sh M as μ Q := by
  intro sz
  refine Met.ofW (cc := M.2.1) (maxL := M.2.2.1) (ret := M.2.2.2.1) hy rfl ?_
  intro p e s m args below meth c s₁ B hml hv
  obtain ⟨rfl, hsz, hP, hK, hD, hE⟩ := hv
  rw [lg_entry_eq]
  exact k p e s m _ below meth c s.heap [] sz _ ⟨B.exec, B.bytes, hml, findClass_of_methodNamed B.named, atoms_spec (ws := j_ws M) B.pre, B.returns, B.notSynchronized, hsz, hP, hK, hD, va_S.rf, hE, j_has_sub (lv_entry _ hn) hl⟩
/-- a weaker end -/
theorem Con_mono {G : JG} {sh : List JSh} {M : JMth} {as : List Value} {μ : JM} {Q Q' : Option Value → JM → Prop} (h : Con G sh M as μ Q) (hQ : ∀ v μ', Q v μ' → Q' v μ') : Con G sh M as μ Q' := by
  intro sz p e ha hc hk s m args below hf hs hp ht
  obtain ⟨t, o, h1, h2, h3, ⟨⟨⟨v, μ', g1, g2, g3⟩, g4⟩, h5⟩⟩ := h sz p e ha hc hk s m args below hf hs hp ht
  exact ⟨t, o, h1, h2, h3, ⟨⟨⟨v, μ', g1, hQ v μ' g2, g3⟩, g4⟩, h5⟩⟩
theorem J_mono {G : JG} {sh : List JSh} {M : JMth} {pc : Nat} {lv : List (Option Value)} {st : List Value} {μ : JM} {Q Q' : Option Value → JM → Prop} (h : J G sh M pc lv st μ Q) (hQ : ∀ v μ', Q v μ' → Q' v μ') : J G sh M pc lv st μ Q' := by
  intro p e s m args below meth c H locs sz ls X T hT S
  obtain ⟨t, h1, o, h2, h3, ⟨⟨v, μ', g1, g2, g3⟩, g4⟩, h5⟩ := h p e s m args below meth c H locs sz ls X T hT S
  exact ⟨t, h1, o, h2, h3, ⟨⟨v, μ', g1, hQ v μ' g2, g3⟩, g4⟩, h5⟩
/-- fewer locals are known -/
theorem J_lv {G : JG} {sh : List JSh} {M : JMth} {pc : Nat} {lv lv' : List (Option Value)} {st : List Value} {μ : JM} {Q : Option Value → JM → Prop} (hs : ∀ (i : Nat) (v : Value), lv'[i]? = some (some v) → lv[i]? = some (some v)) (h : J G sh M pc lv' st μ Q) : J G sh M pc lv st μ Q := by
  intro p e s m args below meth c H locs sz ls X
  obtain ⟨x1, x2, x3, x4, x5, x6, x7, x8, x9, xa, xb, xc, xd, xe⟩ := X
  refine h p e s m args below meth c H locs sz ls ⟨x1, x2, x3, x4, x5, x6, x7, x8, x9, xa, xb, xc, xd, j_has_sub xe (fun q hq => ?_)⟩
  obtain ⟨j, v, h1, e1⟩ := j_l_mem.mp hq
  exact j_l_mem.mpr ⟨j, v, hs j v h1, e1⟩
end
section
section JR
variable {G : JG} {sh : List JSh} {M : JMth} {pc : Nat} {lv : List (Option Value)} {st : List Value} {μ : JM} {Q : Option Value → JM → Prop}
theorem J_iconst {n : Int} {v : Int32} (hd : decode M.2.1 pc = .ok (.iconst n, 1)) (hv : Int32.ofInt n = v) (k : J G sh M (pc + 1) lv (.int v :: st) μ Q) : J G sh M pc lv (st) μ Q := by
  intro p e s m args below meth c H locs sz ls X
  exact lv_iconst X.1 X.2.1 hd hv (k p e s m args below meth c H locs sz ls X)
theorem J_bipush {n : Int} {v : Int32} (hd : decode M.2.1 pc = .ok (.bipush n, 2)) (hv : (Int8.ofInt n).toInt32 = v) (k : J G sh M (pc + 2) lv (.int v :: st) μ Q) : J G sh M pc lv (st) μ Q := by
  intro p e s m args below meth c H locs sz ls X
  exact lv_bipush X.1 X.2.1 hd hv (k p e s m args below meth c H locs sz ls X)
theorem J_sipush {n : Int} {v : Int32} (hd : decode M.2.1 pc = .ok (.sipush n, 3)) (hv : (Int16.ofInt n).toInt32 = v) (k : J G sh M (pc + 3) lv (.int v :: st) μ Q) : J G sh M pc lv (st) μ Q := by
  intro p e s m args below meth c H locs sz ls X
  exact lv_sipush X.1 X.2.1 hd hv (k p e s m args below meth c H locs sz ls X)
theorem J_lconst {n : Fin 2} {v : Int64} (hd : decode M.2.1 pc = .ok (.lconst n, 1)) (hv : Int64.ofNat (n : Nat) = v) (k : J G sh M (pc + 1) lv (.long v :: st) μ Q) : J G sh M pc lv (st) μ Q := by
  intro p e s m args below meth c H locs sz ls X
  exact lv_lconst X.1 X.2.1 hd hv (k p e s m args below meth c H locs sz ls X)
theorem J_iload_n {k : Fin 4} {x : Int32} (hd : decode M.2.1 pc = .ok (.iload_n k, 1)) (hl : lv[(k : Nat)]? = some (some (.int x))) (k' : J G sh M (pc + 1) lv (.int x :: st) μ Q) : J G sh M pc lv st μ Q := by
  intro p e s m args below meth c H locs sz ls X
  exact lv_iload_n X.1 X.2.1 hd rfl (j_has_get X.2.2.2.2.2.2.2.2.2.2.2.2.2 hl) (k' p e s m args below meth c H locs sz ls X)
theorem J_iload {i : Nat} {x : Int32} (hd : decode M.2.1 pc = .ok (.iload i, 2)) (hl : lv[i]? = some (some (.int x))) (k : J G sh M (pc + 2) lv (.int x :: st) μ Q) : J G sh M pc lv st μ Q := by
  intro p e s m args below meth c H locs sz ls X
  exact lv_iload X.1 X.2.1 hd (j_has_get X.2.2.2.2.2.2.2.2.2.2.2.2.2 hl) (k p e s m args below meth c H locs sz ls X)
theorem J_lload_n {k : Fin 4} {x : Int64} (hd : decode M.2.1 pc = .ok (.lload_n k, 1)) (hl : lv[(k : Nat)]? = some (some (.long x))) (k' : J G sh M (pc + 1) lv (.long x :: st) μ Q) : J G sh M pc lv st μ Q := by
  intro p e s m args below meth c H locs sz ls X
  exact lv_lload_n X.1 X.2.1 hd rfl (j_has_get X.2.2.2.2.2.2.2.2.2.2.2.2.2 hl) (k' p e s m args below meth c H locs sz ls X)
theorem J_lload {i : Nat} {x : Int64} (hd : decode M.2.1 pc = .ok (.lload i, 2)) (hl : lv[i]? = some (some (.long x))) (k : J G sh M (pc + 2) lv (.long x :: st) μ Q) : J G sh M pc lv st μ Q := by
  intro p e s m args below meth c H locs sz ls X
  exact lv_lload X.1 X.2.1 hd (j_has_get X.2.2.2.2.2.2.2.2.2.2.2.2.2 hl) (k p e s m args below meth c H locs sz ls X)
theorem J_aload_n {k : Fin 4} {x : Nat} (hd : decode M.2.1 pc = .ok (.aload_n k, 1)) (hl : lv[(k : Nat)]? = some (some (.ref x))) (k' : J G sh M (pc + 1) lv (.ref x :: st) μ Q) : J G sh M pc lv st μ Q := by
  intro p e s m args below meth c H locs sz ls X
  exact lv_aload_n X.1 X.2.1 hd rfl (j_has_get X.2.2.2.2.2.2.2.2.2.2.2.2.2 hl) (k' p e s m args below meth c H locs sz ls X)
theorem J_aload {i : Nat} {x : Nat} (hd : decode M.2.1 pc = .ok (.aload i, 2)) (hl : lv[i]? = some (some (.ref x))) (k : J G sh M (pc + 2) lv (.ref x :: st) μ Q) : J G sh M pc lv st μ Q := by
  intro p e s m args below meth c H locs sz ls X
  exact lv_aload X.1 X.2.1 hd (j_has_get X.2.2.2.2.2.2.2.2.2.2.2.2.2 hl) (k p e s m args below meth c H locs sz ls X)
theorem J_istore_n {k : Fin 4} {x : Int32} {lv' : List (Option Value)} (hd : decode M.2.1 pc = .ok (.istore_n k, 1)) (hn : (k : Nat) < M.2.2.1) (ho : j_ok lv (k : Nat) = true) (hl : (lv.set (k : Nat) (some (.int x))) = lv') (k' : J G sh M (pc + 1) lv' st μ Q) : J G sh M pc lv (.int x :: st) μ Q := by
  intro p e s m args below meth c H locs sz ls X
  obtain ⟨x1, x2, x3, x4, x5, x6, x7, x8, x9, xa, xb, xc, xd, xe⟩ := X
  exact lv_istore_n x1 x2 hd rfl xe hn rfl (fun ls' h' => k' p e s m args below meth c H locs sz ls' ⟨x1, x2, x3, x4, x5, x6, x7, x8, x9, xa, xb, xc, xd, by rw [← hl]; exact j_has_sub h' (j_l_st1 (v := .int x) ho)⟩)
theorem J_istore {i : Nat} {x : Int32} {lv' : List (Option Value)} (hd : decode M.2.1 pc = .ok (.istore i, 2)) (hn : i < M.2.2.1) (ho : j_ok lv i = true) (hl : (lv.set i (some (.int x))) = lv') (k' : J G sh M (pc + 2) lv' st μ Q) : J G sh M pc lv (.int x :: st) μ Q := by
  intro p e s m args below meth c H locs sz ls X
  obtain ⟨x1, x2, x3, x4, x5, x6, x7, x8, x9, xa, xb, xc, xd, xe⟩ := X
  exact lv_istore x1 x2 hd xe hn rfl (fun ls' h' => k' p e s m args below meth c H locs sz ls' ⟨x1, x2, x3, x4, x5, x6, x7, x8, x9, xa, xb, xc, xd, by rw [← hl]; exact j_has_sub h' (j_l_st1 (v := .int x) ho)⟩)
theorem J_lstore_n {k : Fin 4} {x : Int64} {lv' : List (Option Value)} (hd : decode M.2.1 pc = .ok (.lstore_n k, 1)) (hn : (k : Nat) + 1 < M.2.2.1) (ho : j_ok lv (k : Nat) = true) (hl : ((lv.set (k : Nat) (some (.long x))).set ((k : Nat) + 1) none) = lv') (k' : J G sh M (pc + 1) lv' st μ Q) : J G sh M pc lv (.long x :: st) μ Q := by
  intro p e s m args below meth c H locs sz ls X
  obtain ⟨x1, x2, x3, x4, x5, x6, x7, x8, x9, xa, xb, xc, xd, xe⟩ := X
  exact lv_lstore_n x1 x2 hd rfl xe hn rfl (fun ls' h' => k' p e s m args below meth c H locs sz ls' ⟨x1, x2, x3, x4, x5, x6, x7, x8, x9, xa, xb, xc, xd, by rw [← hl]; exact j_has_sub h' (j_l_st2 (v := .long x) ho)⟩)
theorem J_lstore {i : Nat} {x : Int64} {lv' : List (Option Value)} (hd : decode M.2.1 pc = .ok (.lstore i, 2)) (hn : i + 1 < M.2.2.1) (ho : j_ok lv i = true) (hl : ((lv.set i (some (.long x))).set (i + 1) none) = lv') (k' : J G sh M (pc + 2) lv' st μ Q) : J G sh M pc lv (.long x :: st) μ Q := by
  intro p e s m args below meth c H locs sz ls X
  obtain ⟨x1, x2, x3, x4, x5, x6, x7, x8, x9, xa, xb, xc, xd, xe⟩ := X
  exact lv_lstore x1 x2 hd xe hn rfl (fun ls' h' => k' p e s m args below meth c H locs sz ls' ⟨x1, x2, x3, x4, x5, x6, x7, x8, x9, xa, xb, xc, xd, by rw [← hl]; exact j_has_sub h' (j_l_st2 (v := .long x) ho)⟩)
theorem J_astore_n {k : Fin 4} {x : Nat} {lv' : List (Option Value)} (hd : decode M.2.1 pc = .ok (.astore_n k, 1)) (hn : (k : Nat) < M.2.2.1) (ho : j_ok lv (k : Nat) = true) (hl : (lv.set (k : Nat) (some (.ref x))) = lv') (k' : J G sh M (pc + 1) lv' st μ Q) : J G sh M pc lv (.ref x :: st) μ Q := by
  intro p e s m args below meth c H locs sz ls X
  obtain ⟨x1, x2, x3, x4, x5, x6, x7, x8, x9, xa, xb, xc, xd, xe⟩ := X
  exact lv_astore_n x1 x2 hd rfl xe hn rfl (fun ls' h' => k' p e s m args below meth c H locs sz ls' ⟨x1, x2, x3, x4, x5, x6, x7, x8, x9, xa, xb, xc, xd, by rw [← hl]; exact j_has_sub h' (j_l_st1 (v := .ref x) ho)⟩)
theorem J_astore {i : Nat} {x : Nat} {lv' : List (Option Value)} (hd : decode M.2.1 pc = .ok (.astore i, 2)) (hn : i < M.2.2.1) (ho : j_ok lv i = true) (hl : (lv.set i (some (.ref x))) = lv') (k' : J G sh M (pc + 2) lv' st μ Q) : J G sh M pc lv (.ref x :: st) μ Q := by
  intro p e s m args below meth c H locs sz ls X
  obtain ⟨x1, x2, x3, x4, x5, x6, x7, x8, x9, xa, xb, xc, xd, xe⟩ := X
  exact lv_astore x1 x2 hd xe hn rfl (fun ls' h' => k' p e s m args below meth c H locs sz ls' ⟨x1, x2, x3, x4, x5, x6, x7, x8, x9, xa, xb, xc, xd, by rw [← hl]; exact j_has_sub h' (j_l_st1 (v := .ref x) ho)⟩)
theorem J_iinc {i : Nat} {n : Int} {x v : Int32} {lv' : List (Option Value)} (hd : decode M.2.1 pc = .ok (.iinc i n, 3)) (hg : lv[i]? = some (some (.int x))) (hv : x + Int32.ofInt n = v) (hn : i < M.2.2.1) (ho : j_ok lv i = true) (hl : (lv.set i (some (.int v))) = lv') (k' : J G sh M (pc + 3) lv' st μ Q) : J G sh M pc lv st μ Q := by
  intro p e s m args below meth c H locs sz ls X
  obtain ⟨x1, x2, x3, x4, x5, x6, x7, x8, x9, xa, xb, xc, xd, xe⟩ := X
  obtain ⟨kk, hkk⟩ := List.getElem?_of_mem (j_l_mem (ad := j_ad G) (b := 0) |>.mpr ⟨i, _, hg, by rw [Nat.zero_add]⟩)
  exact lv_iinc (k := kk) x1 x2 hd xe hkk hv hn rfl (fun ls' h' => k' p e s m args below meth c H locs sz ls' ⟨x1, x2, x3, x4, x5, x6, x7, x8, x9, xa, xb, xc, xd, by rw [← hl]; exact j_has_sub h' (j_l_st1 (v := .int v) ho)⟩)
theorem J_iincW {i : Nat} {n : Int} {x v : Int32} {lv' : List (Option Value)} (hd : decode M.2.1 pc = .ok (.iinc i n, 6)) (hg : lv[i]? = some (some (.int x))) (hv : x + Int32.ofInt n = v) (hn : i < M.2.2.1) (ho : j_ok lv i = true) (hl : (lv.set i (some (.int v))) = lv') (k' : J G sh M (pc + 6) lv' st μ Q) : J G sh M pc lv st μ Q := by
  intro p e s m args below meth c H locs sz ls X
  obtain ⟨x1, x2, x3, x4, x5, x6, x7, x8, x9, xa, xb, xc, xd, xe⟩ := X
  obtain ⟨kk, hkk⟩ := List.getElem?_of_mem (j_l_mem (ad := j_ad G) (b := 0) |>.mpr ⟨i, _, hg, by rw [Nat.zero_add]⟩)
  exact lv_iincW (k := kk) x1 x2 hd xe hkk hv hn rfl (fun ls' h' => k' p e s m args below meth c H locs sz ls' ⟨x1, x2, x3, x4, x5, x6, x7, x8, x9, xa, xb, xc, xd, by rw [← hl]; exact j_has_sub h' (j_l_st1 (v := .int v) ho)⟩)
theorem J_iadd {x y : Int32} (hd : decode M.2.1 pc = .ok (.iadd, 1)) (k : J G sh M (pc + 1) lv (.int (x + y) :: st) μ Q) : J G sh M pc lv (.int y :: .int x :: st) μ Q := by
  intro p e s m args below meth c H locs sz ls X
  exact lv_iadd X.1 X.2.1 hd (k p e s m args below meth c H locs sz ls X)
theorem J_isub {x y : Int32} (hd : decode M.2.1 pc = .ok (.isub, 1)) (k : J G sh M (pc + 1) lv (.int (x - y) :: st) μ Q) : J G sh M pc lv (.int y :: .int x :: st) μ Q := by
  intro p e s m args below meth c H locs sz ls X
  exact lv_isub X.1 X.2.1 hd (k p e s m args below meth c H locs sz ls X)
theorem J_imul {x y : Int32} (hd : decode M.2.1 pc = .ok (.imul, 1)) (k : J G sh M (pc + 1) lv (.int (x * y) :: st) μ Q) : J G sh M pc lv (.int y :: .int x :: st) μ Q := by
  intro p e s m args below meth c H locs sz ls X
  exact lv_imul X.1 X.2.1 hd (k p e s m args below meth c H locs sz ls X)
theorem J_iand {x y : Int32} (hd : decode M.2.1 pc = .ok (.iand, 1)) (k : J G sh M (pc + 1) lv (.int (x &&& y) :: st) μ Q) : J G sh M pc lv (.int y :: .int x :: st) μ Q := by
  intro p e s m args below meth c H locs sz ls X
  exact lv_iand X.1 X.2.1 hd (k p e s m args below meth c H locs sz ls X)
theorem J_ior {x y : Int32} (hd : decode M.2.1 pc = .ok (.ior, 1)) (k : J G sh M (pc + 1) lv (.int (x ||| y) :: st) μ Q) : J G sh M pc lv (.int y :: .int x :: st) μ Q := by
  intro p e s m args below meth c H locs sz ls X
  exact lv_ior X.1 X.2.1 hd (k p e s m args below meth c H locs sz ls X)
theorem J_ixor {x y : Int32} (hd : decode M.2.1 pc = .ok (.ixor, 1)) (k : J G sh M (pc + 1) lv (.int (x ^^^ y) :: st) μ Q) : J G sh M pc lv (.int y :: .int x :: st) μ Q := by
  intro p e s m args below meth c H locs sz ls X
  exact lv_ixor X.1 X.2.1 hd (k p e s m args below meth c H locs sz ls X)
theorem J_ishl {x y : Int32} (hd : decode M.2.1 pc = .ok (.ishl, 1)) (k : J G sh M (pc + 1) lv (.int (x <<< (y &&& 31)) :: st) μ Q) : J G sh M pc lv (.int y :: .int x :: st) μ Q := by
  intro p e s m args below meth c H locs sz ls X
  exact lv_ishl X.1 X.2.1 hd (k p e s m args below meth c H locs sz ls X)
theorem J_ishr {x y : Int32} (hd : decode M.2.1 pc = .ok (.ishr, 1)) (k : J G sh M (pc + 1) lv (.int (x >>> (y &&& 31)) :: st) μ Q) : J G sh M pc lv (.int y :: .int x :: st) μ Q := by
  intro p e s m args below meth c H locs sz ls X
  exact lv_ishr X.1 X.2.1 hd (k p e s m args below meth c H locs sz ls X)
theorem J_idiv {x y : Int32} (hd : decode M.2.1 pc = .ok (.idiv, 1)) (hne : ¬ y = 0) (k : J G sh M (pc + 1) lv (.int (x / y) :: st) μ Q) : J G sh M pc lv (.int y :: .int x :: st) μ Q := by
  intro p e s m args below meth c H locs sz ls X
  exact lv_idiv X.1 X.2.1 hd hne (k p e s m args below meth c H locs sz ls X)
theorem J_irem {x y : Int32} (hd : decode M.2.1 pc = .ok (.irem, 1)) (hne : ¬ y = 0) (k : J G sh M (pc + 1) lv (.int (x - x / y * y) :: st) μ Q) : J G sh M pc lv (.int y :: .int x :: st) μ Q := by
  intro p e s m args below meth c H locs sz ls X
  exact lv_irem X.1 X.2.1 hd hne (k p e s m args below meth c H locs sz ls X)
theorem J_ineg {x : Int32} (hd : decode M.2.1 pc = .ok (.ineg, 1)) (k : J G sh M (pc + 1) lv (.int (-x) :: st) μ Q) : J G sh M pc lv (.int x :: st) μ Q := by
  intro p e s m args below meth c H locs sz ls X
  exact lv_ineg X.1 X.2.1 hd (k p e s m args below meth c H locs sz ls X)
theorem J_ladd {x y : Int64} (hd : decode M.2.1 pc = .ok (.ladd, 1)) (k : J G sh M (pc + 1) lv (.long (x + y) :: st) μ Q) : J G sh M pc lv (.long y :: .long x :: st) μ Q := by
  intro p e s m args below meth c H locs sz ls X
  exact lv_ladd X.1 X.2.1 hd (k p e s m args below meth c H locs sz ls X)
theorem J_lsub {x y : Int64} (hd : decode M.2.1 pc = .ok (.lsub, 1)) (k : J G sh M (pc + 1) lv (.long (x - y) :: st) μ Q) : J G sh M pc lv (.long y :: .long x :: st) μ Q := by
  intro p e s m args below meth c H locs sz ls X
  exact lv_lsub X.1 X.2.1 hd (k p e s m args below meth c H locs sz ls X)
theorem J_lmul {x y : Int64} (hd : decode M.2.1 pc = .ok (.lmul, 1)) (k : J G sh M (pc + 1) lv (.long (x * y) :: st) μ Q) : J G sh M pc lv (.long y :: .long x :: st) μ Q := by
  intro p e s m args below meth c H locs sz ls X
  exact lv_lmul X.1 X.2.1 hd (k p e s m args below meth c H locs sz ls X)
theorem J_ldiv {x y : Int64} (hd : decode M.2.1 pc = .ok (.ldiv, 1)) (hne : ¬ y = 0) (k : J G sh M (pc + 1) lv (.long (x / y) :: st) μ Q) : J G sh M pc lv (.long y :: .long x :: st) μ Q := by
  intro p e s m args below meth c H locs sz ls X
  exact lv_ldiv X.1 X.2.1 hd hne (k p e s m args below meth c H locs sz ls X)
theorem J_lrem {x y : Int64} (hd : decode M.2.1 pc = .ok (.lrem, 1)) (hne : ¬ y = 0) (k : J G sh M (pc + 1) lv (.long (x - x / y * y) :: st) μ Q) : J G sh M pc lv (.long y :: .long x :: st) μ Q := by
  intro p e s m args below meth c H locs sz ls X
  exact lv_lrem X.1 X.2.1 hd hne (k p e s m args below meth c H locs sz ls X)
theorem J_lneg {x : Int64} (hd : decode M.2.1 pc = .ok (.lneg, 1)) (k : J G sh M (pc + 1) lv (.long (-x) :: st) μ Q) : J G sh M pc lv (.long x :: st) μ Q := by
  intro p e s m args below meth c H locs sz ls X
  exact lv_lneg X.1 X.2.1 hd (k p e s m args below meth c H locs sz ls X)
theorem J_i2l {x : Int32} {v : Int64} (hd : decode M.2.1 pc = .ok (.i2l, 1)) (hv : x.toInt64 = v) (k : J G sh M (pc + 1) lv (.long v :: st) μ Q) : J G sh M pc lv (.int x :: st) μ Q := by
  intro p e s m args below meth c H locs sz ls X
  exact lv_i2l X.1 X.2.1 hd hv (k p e s m args below meth c H locs sz ls X)
theorem J_l2i {x : Int64} {v : Int32} (hd : decode M.2.1 pc = .ok (.l2i, 1)) (hv : x.toInt32 = v) (k : J G sh M (pc + 1) lv (.int v :: st) μ Q) : J G sh M pc lv (.long x :: st) μ Q := by
  intro p e s m args below meth c H locs sz ls X
  exact lv_l2i X.1 X.2.1 hd hv (k p e s m args below meth c H locs sz ls X)
theorem J_dup {va : Value} (hd : decode M.2.1 pc = .ok (.dup, 1)) (hva : va.category = 1) (k : J G sh M (pc + 1) lv (va :: va :: st) μ Q) : J G sh M pc lv (va :: st) μ Q := by
  intro p e s m args below meth c H locs sz ls X
  exact lv_dup X.1 X.2.1 hd ((j_cv_cat _ _).trans hva) (k p e s m args below meth c H locs sz ls X)
theorem J_pop {va : Value} (hd : decode M.2.1 pc = .ok (.pop, 1)) (hva : va.category = 1) (k : J G sh M (pc + 1) lv st μ Q) : J G sh M pc lv (va :: st) μ Q := by
  intro p e s m args below meth c H locs sz ls X
  exact lv_pop X.1 X.2.1 hd ((j_cv_cat _ _).trans hva) (k p e s m args below meth c H locs sz ls X)
theorem J_dup_x1 {va vb : Value} (hd : decode M.2.1 pc = .ok (.dup_x1, 1)) (hva : va.category = 1) (hvb : vb.category = 1) (k : J G sh M (pc + 1) lv (va :: vb :: va :: st) μ Q) : J G sh M pc lv (va :: vb :: st) μ Q := by
  intro p e s m args below meth c H locs sz ls X
  exact lv_dup_x1 X.1 X.2.1 hd ((j_cv_cat _ _).trans hva) ((j_cv_cat _ _).trans hvb) (k p e s m args below meth c H locs sz ls X)
theorem J_dup2 {va vb : Value} (hd : decode M.2.1 pc = .ok (.dup2, 1)) (hva : va.category = 1) (hvb : vb.category = 1) (k : J G sh M (pc + 1) lv (va :: vb :: va :: vb :: st) μ Q) : J G sh M pc lv (va :: vb :: st) μ Q := by
  intro p e s m args below meth c H locs sz ls X
  exact lv_dup2_11 X.1 X.2.1 hd ((j_cv_cat _ _).trans hva) ((j_cv_cat _ _).trans hvb) (k p e s m args below meth c H locs sz ls X)
theorem J_if_eq {x : Int32} {off : Int} (tgt : Nat) (hd : decode M.2.1 pc = .ok (.ifCond .eq off, 3)) (ht : (pc : Int) + off = (tgt : Int)) (kt : x = 0 → J G sh M tgt lv st μ Q) (kf : ¬ x = 0 → J G sh M (pc + 3) lv st μ Q) : J G sh M pc lv (.int x :: st) μ Q := by
  intro p e s m args below meth c H locs sz ls X
  exact lv_if_eq X.1 X.2.1 hd ht (fun h => kt h p e s m args below meth c H locs sz ls X) (fun h => kf h p e s m args below meth c H locs sz ls X)
theorem J_icmp_eq {x y : Int32} {off : Int} (tgt : Nat) (hd : decode M.2.1 pc = .ok (.if_icmp .eq off, 3)) (ht : (pc : Int) + off = (tgt : Int)) (kt : x = y → J G sh M tgt lv st μ Q) (kf : ¬ x = y → J G sh M (pc + 3) lv st μ Q) : J G sh M pc lv (.int y :: .int x :: st) μ Q := by
  intro p e s m args below meth c H locs sz ls X
  exact lv_icmp_eq X.1 X.2.1 hd ht (fun h => kt h p e s m args below meth c H locs sz ls X) (fun h => kf h p e s m args below meth c H locs sz ls X)
theorem J_if_ne {x : Int32} {off : Int} (tgt : Nat) (hd : decode M.2.1 pc = .ok (.ifCond .ne off, 3)) (ht : (pc : Int) + off = (tgt : Int)) (kt : ¬ x = 0 → J G sh M tgt lv st μ Q) (kf : x = 0 → J G sh M (pc + 3) lv st μ Q) : J G sh M pc lv (.int x :: st) μ Q := by
  intro p e s m args below meth c H locs sz ls X
  exact lv_if_ne X.1 X.2.1 hd ht (fun h => kt h p e s m args below meth c H locs sz ls X) (fun h => kf h p e s m args below meth c H locs sz ls X)
theorem J_icmp_ne {x y : Int32} {off : Int} (tgt : Nat) (hd : decode M.2.1 pc = .ok (.if_icmp .ne off, 3)) (ht : (pc : Int) + off = (tgt : Int)) (kt : ¬ x = y → J G sh M tgt lv st μ Q) (kf : x = y → J G sh M (pc + 3) lv st μ Q) : J G sh M pc lv (.int y :: .int x :: st) μ Q := by
  intro p e s m args below meth c H locs sz ls X
  exact lv_icmp_ne X.1 X.2.1 hd ht (fun h => kt h p e s m args below meth c H locs sz ls X) (fun h => kf h p e s m args below meth c H locs sz ls X)
theorem J_if_lt {x : Int32} {off : Int} (tgt : Nat) (hd : decode M.2.1 pc = .ok (.ifCond .lt off, 3)) (ht : (pc : Int) + off = (tgt : Int)) (kt : x < 0 → J G sh M tgt lv st μ Q) (kf : ¬ x < 0 → J G sh M (pc + 3) lv st μ Q) : J G sh M pc lv (.int x :: st) μ Q := by
  intro p e s m args below meth c H locs sz ls X
  exact lv_if_lt X.1 X.2.1 hd ht (fun h => kt h p e s m args below meth c H locs sz ls X) (fun h => kf h p e s m args below meth c H locs sz ls X)
theorem J_icmp_lt {x y : Int32} {off : Int} (tgt : Nat) (hd : decode M.2.1 pc = .ok (.if_icmp .lt off, 3)) (ht : (pc : Int) + off = (tgt : Int)) (kt : x < y → J G sh M tgt lv st μ Q) (kf : ¬ x < y → J G sh M (pc + 3) lv st μ Q) : J G sh M pc lv (.int y :: .int x :: st) μ Q := by
  intro p e s m args below meth c H locs sz ls X
  exact lv_icmp_lt X.1 X.2.1 hd ht (fun h => kt h p e s m args below meth c H locs sz ls X) (fun h => kf h p e s m args below meth c H locs sz ls X)
theorem J_if_ge {x : Int32} {off : Int} (tgt : Nat) (hd : decode M.2.1 pc = .ok (.ifCond .ge off, 3)) (ht : (pc : Int) + off = (tgt : Int)) (kt : 0 ≤ x → J G sh M tgt lv st μ Q) (kf : ¬ 0 ≤ x → J G sh M (pc + 3) lv st μ Q) : J G sh M pc lv (.int x :: st) μ Q := by
  intro p e s m args below meth c H locs sz ls X
  exact lv_if_ge X.1 X.2.1 hd ht (fun h => kt h p e s m args below meth c H locs sz ls X) (fun h => kf h p e s m args below meth c H locs sz ls X)
theorem J_icmp_ge {x y : Int32} {off : Int} (tgt : Nat) (hd : decode M.2.1 pc = .ok (.if_icmp .ge off, 3)) (ht : (pc : Int) + off = (tgt : Int)) (kt : y ≤ x → J G sh M tgt lv st μ Q) (kf : ¬ y ≤ x → J G sh M (pc + 3) lv st μ Q) : J G sh M pc lv (.int y :: .int x :: st) μ Q := by
  intro p e s m args below meth c H locs sz ls X
  exact lv_icmp_ge X.1 X.2.1 hd ht (fun h => kt h p e s m args below meth c H locs sz ls X) (fun h => kf h p e s m args below meth c H locs sz ls X)
theorem J_if_gt {x : Int32} {off : Int} (tgt : Nat) (hd : decode M.2.1 pc = .ok (.ifCond .gt off, 3)) (ht : (pc : Int) + off = (tgt : Int)) (kt : 0 < x → J G sh M tgt lv st μ Q) (kf : ¬ 0 < x → J G sh M (pc + 3) lv st μ Q) : J G sh M pc lv (.int x :: st) μ Q := by
  intro p e s m args below meth c H locs sz ls X
  exact lv_if_gt X.1 X.2.1 hd ht (fun h => kt h p e s m args below meth c H locs sz ls X) (fun h => kf h p e s m args below meth c H locs sz ls X)
theorem J_icmp_gt {x y : Int32} {off : Int} (tgt : Nat) (hd : decode M.2.1 pc = .ok (.if_icmp .gt off, 3)) (ht : (pc : Int) + off = (tgt : Int)) (kt : y < x → J G sh M tgt lv st μ Q) (kf : ¬ y < x → J G sh M (pc + 3) lv st μ Q) : J G sh M pc lv (.int y :: .int x :: st) μ Q := by
  intro p e s m args below meth c H locs sz ls X
  exact lv_icmp_gt X.1 X.2.1 hd ht (fun h => kt h p e s m args below meth c H locs sz ls X) (fun h => kf h p e s m args below meth c H locs sz ls X)
theorem J_if_le {x : Int32} {off : Int} (tgt : Nat) (hd : decode M.2.1 pc = .ok (.ifCond .le off, 3)) (ht : (pc : Int) + off = (tgt : Int)) (kt : x ≤ 0 → J G sh M tgt lv st μ Q) (kf : ¬ x ≤ 0 → J G sh M (pc + 3) lv st μ Q) : J G sh M pc lv (.int x :: st) μ Q := by
  intro p e s m args below meth c H locs sz ls X
  exact lv_if_le X.1 X.2.1 hd ht (fun h => kt h p e s m args below meth c H locs sz ls X) (fun h => kf h p e s m args below meth c H locs sz ls X)
theorem J_icmp_le {x y : Int32} {off : Int} (tgt : Nat) (hd : decode M.2.1 pc = .ok (.if_icmp .le off, 3)) (ht : (pc : Int) + off = (tgt : Int)) (kt : x ≤ y → J G sh M tgt lv st μ Q) (kf : ¬ x ≤ y → J G sh M (pc + 3) lv st μ Q) : J G sh M pc lv (.int y :: .int x :: st) μ Q := by
  intro p e s m args below meth c H locs sz ls X
  exact lv_icmp_le X.1 X.2.1 hd ht (fun h => kt h p e s m args below meth c H locs sz ls X) (fun h => kf h p e s m args below meth c H locs sz ls X)
theorem J_goto {off : Int} (tgt : Nat) (hd : decode M.2.1 pc = .ok (.goto off, 3)) (ht : (pc : Int) + off = (tgt : Int)) (k : J G sh M tgt lv st μ Q) : J G sh M pc lv st μ Q := by
  intro p e s m args below meth c H locs sz ls X
  exact lv_goto X.1 X.2.1 hd ht (k p e s m args below meth c H locs sz ls X)
theorem J_ifnull {x : Nat} {off : Int} (hd : decode M.2.1 pc = .ok (.ifnull off, 3)) (k : J G sh M (pc + 3) lv st μ Q) : J G sh M pc lv (.ref x :: st) μ Q := by
  intro p e s m args below meth c H locs sz ls X
  exact lv_ifnull X.1 X.2.1 hd (k p e s m args below meth c H locs sz ls X)
theorem J_ifnullN {off : Int} (tgt : Nat) (hd : decode M.2.1 pc = .ok (.ifnull off, 3)) (ht : (pc : Int) + off = (tgt : Int)) (k : J G sh M tgt lv st μ Q) : J G sh M pc lv (.null :: st) μ Q := by
  intro p e s m args below meth c H locs sz ls X
  exact lv_ifnullN X.1 X.2.1 hd ht (k p e s m args below meth c H locs sz ls X)
theorem J_lcmp {x y : Int64} (hd : decode M.2.1 pc = .ok (.lcmp, 1)) (k : J G sh M (pc + 1) lv (.int (lg_cmp x y) :: st) μ Q) : J G sh M pc lv (.long y :: .long x :: st) μ Q := by
  intro p e s m args below meth c H locs sz ls X
  exact W.lcmp X.1 X.2.1 hd (k p e s m args below meth c H locs sz ls X)
theorem j_hts {w : Cond} {s : State} {args : Array Value} (h : ∀ w ∈ j_ws M, w.before args s = true) (hw : w ∈ BIGW) : w.before args s = true := h w (List.mem_cons_of_mem _ hw)
theorem J_ldc2 {index : Nat} {v : Int64} (hc : Cond.constantLong M.1.cls index v ∈ BIGW) (hd : decode M.2.1 pc = .ok (.ldc2_w index, 3)) (k : J G sh M (pc + 3) lv (.long v :: st) μ Q) : J G sh M pc lv st μ Q := by
  intro p e s m args below meth c H locs sz ls X
  exact lv_ldc2 X.1 X.2.1 X.2.2.2.1 (j_hts X.2.2.2.2.1 hc) hd (k p e s m args below meth c H locs sz ls X)
theorem J_ldc {index : Nat} {v : Int32} (hc : Cond.constant M.1.cls index v ∈ BIGW) (hd : decode M.2.1 pc = .ok (.ldc index, 2)) (k : J G sh M (pc + 2) lv (.int v :: st) μ Q) : J G sh M pc lv st μ Q := by
  intro p e s m args below meth c H locs sz ls X
  exact lv_ldc X.1 X.2.1 X.2.2.2.1 (j_hts X.2.2.2.2.1 hc) hd (k p e s m args below meth c H locs sz ls X)
theorem J_ldcw {index : Nat} {v : Int32} (hc : Cond.constant M.1.cls index v ∈ BIGW) (hd : decode M.2.1 pc = .ok (.ldc_w index, 3)) (k : J G sh M (pc + 3) lv (.int v :: st) μ Q) : J G sh M pc lv st μ Q := by
  intro p e s m args below meth c H locs sz ls X
  exact lv_ldcw X.1 X.2.1 X.2.2.2.1 (j_hts X.2.2.2.2.1 hc) hd (k p e s m args below meth c H locs sz ls X)
theorem J_tsIn {dflt lo hi : Int} {offs : Array Int} {len : Nat} {x : Int32} (tgt : Nat) (hd : decode M.2.1 pc = .ok (.tableswitch dflt lo hi offs, len)) {z : Int} (hz : x.toInt = z) (h1 : ¬ z < lo) (h2 : ¬ hi < z) {off : Int} (ho : offs[(z - lo).toNat]? = some off) (ht : (pc : Int) + off = (tgt : Int)) (k : J G sh M tgt lv st μ Q) : J G sh M pc lv (.int x :: st) μ Q := by
  subst hz
  intro p e s m args below meth c H locs sz ls X
  exact lv_tableIn X.1 X.2.1 hd h1 h2 ho ht (k p e s m args below meth c H locs sz ls X)
theorem J_tsOut {dflt lo hi : Int} {offs : Array Int} {len : Nat} {x : Int32} (tgt : Nat) (hd : decode M.2.1 pc = .ok (.tableswitch dflt lo hi offs, len)) (h : x.toInt < lo ∨ hi < x.toInt) (ht : (pc : Int) + dflt = (tgt : Int)) (k : J G sh M tgt lv st μ Q) : J G sh M pc lv (.int x :: st) μ Q := by
  intro p e s m args below meth c H locs sz ls X
  exact lv_tableOut X.1 X.2.1 hd h ht (k p e s m args below meth c H locs sz ls X)
theorem J_look {dflt : Int} {ps : Array (Int × Int)} {len : Nat} {x : Int32} (tgt : Nat) (hd : decode M.2.1 pc = .ok (.lookupswitch dflt ps, len)) (hp : (ps.toList.zip (ps.toList.drop 1)).all (fun (a, next) => a.1 < next.1) = true) {off : Int} (ho : Op.lookupswitch.offset ps.toList dflt x.toInt = off) (ht : (pc : Int) + off = (tgt : Int)) (k : J G sh M tgt lv st μ Q) : J G sh M pc lv (.int x :: st) μ Q := by
  intro p e s m args below meth c H locs sz ls X
  exact lv_lookup X.1 X.2.1 hd hp ho ht (k p e s m args below meth c H locs sz ls X)
theorem j_end {G : JG} {sh : List JSh} {Q : Option Value → JM → Prop} {μ : JM} {v : Option Value} {p : Program} {s : State} {m : MethodId} {args : Array Value} {meth : Method} {c : Code} {H : Heap} {locs : List Loc} {sz : Nat} {ls : Array Slot} (X : j_X G sh M p s m args meth c H locs sz ls lv μ) (hq : Q v μ) : ∀ t : State, t.heap = H → s.WarmedH t.vm → j_Q G sh Q sz args s (.returned (v.map (j_cv (j_ad G)))) t := by
  intro t ht hW
  obtain ⟨x1, x2, x3, x4, x5, x6, x7, x8, x9, xa, xb, xc, xd, xe⟩ := X
  exact ⟨⟨v, μ, rfl, hq, by rw [ht]; exact x9, xa.moved hW.alike, xb⟩, xc.F ht⟩
theorem J_iret {x : Int32} (hd : decode M.2.1 pc = .ok (.ireturn, 1)) (hr : M.2.2.2.1 = some .int) (hq : Q (some (.int x)) μ) : J G sh M pc lv [.int x] μ Q := by
  intro p e s m args below meth c H locs sz ls X
  exact W.iret X.1 X.2.1 (X.2.2.2.2.2.1.trans hr) (j_end X hq) X.2.2.2.2.2.2.2.2.2.2.2.1.2.2 hd (hlocks := X.2.2.2.2.2.2.1)
theorem J_lret {x : Int64} (hd : decode M.2.1 pc = .ok (.lreturn, 1)) (hr : M.2.2.2.1 = some .long) (hq : Q (some (.long x)) μ) : J G sh M pc lv [.long x] μ Q := by
  intro p e s m args below meth c H locs sz ls X
  exact W.lret X.1 X.2.1 (X.2.2.2.2.2.1.trans hr) (j_end X hq) X.2.2.2.2.2.2.2.2.2.2.2.1.2.2 hd (hlocks := X.2.2.2.2.2.2.1)
theorem J_zret {x : Int32} (hd : decode M.2.1 pc = .ok (.ireturn, 1)) (hr : M.2.2.2.1 = some .boolean) (hx : x = 0 ∨ x = 1) (hq : Q (some (.int x)) μ) : J G sh M pc lv [.int x] μ Q := by
  intro p e s m args below meth c H locs sz ls X
  have hn : narrow .boolean (.int x) = .int x := by rcases hx with rfl | rfl <;> rfl
  exact W.zret X.1 X.2.1 (X.2.2.2.2.2.1.trans hr) hn (j_end X hq) X.2.2.2.2.2.2.2.2.2.2.2.1.2.2 hd (hlocks := X.2.2.2.2.2.2.1)
theorem J_nret {x : Int32} {ty : FieldType} (hd : decode M.2.1 pc = .ok (.ireturn, 1)) (hr : M.2.2.2.1 = some ty) (hn : narrow ty (.int x) = .int x) (hq : Q (some (.int x)) μ) : J G sh M pc lv [.int x] μ Q := by
  intro p e s m args below meth c H locs sz ls X
  exact W.zret X.1 X.2.1 (X.2.2.2.2.2.1.trans hr) hn (j_end X hq) X.2.2.2.2.2.2.2.2.2.2.2.1.2.2 hd (hlocks := X.2.2.2.2.2.2.1)
theorem J_vret (hd : decode M.2.1 pc = .ok (.return_, 1)) (hr : M.2.2.2.1 = none) (hq : Q none μ) : J G sh M pc lv [] μ Q := by
  intro p e s m args below meth c H locs sz ls X
  exact W.vret X.1 X.2.1 (X.2.2.2.2.2.1.trans hr) (j_end X hq) X.2.2.2.2.2.2.2.2.2.2.2.1.2.2 hd (hlocks := X.2.2.2.2.2.2.1)
theorem J_aret {x : Nat} {n : String} (hd : decode M.2.1 pc = .ok (.areturn, 1)) (hr : M.2.2.2.1 = some (.object n)) (hq : Q (some (.ref x)) μ) : J G sh M pc lv [.ref x] μ Q := by
  intro p e s m args below meth c H locs sz ls X
  exact W.aret X.1 X.2.1 (X.2.2.2.2.2.1.trans hr) (Or.inl ⟨n, rfl⟩) (Or.inr ⟨_, rfl⟩) (j_end X hq) X.2.2.2.2.2.2.2.2.2.2.2.1.2.2 hd (hlocks := X.2.2.2.2.2.2.1)
/-- the field k of class ci, as class own's entry idx names it: type, final or not -/
def j_F (own : String) (idx ci k : Nat) (ty : FieldType) (fin : Bool) : Prop := ∃ (C : String) (T : u_T) (N : Nat) (tys : Nat → FieldType), vwCl[ci]? = some (C, T, N) ∧ k < N ∧ (∀ w ∈ u_ws C T N, w ∈ BIGW) ∧ (∀ a, a < N → ∀ b, b < N → a ≠ b → (T a).2.1 ≠ (T b).2.1) ∧ (∀ k, k < N → parseFieldDescriptor (T k).2.2.1 = some (tys k)) ∧ parseFieldDescriptor (T k).2.2.1 = some ty ∧ (T k).2.2.2 = fin ∧ (Cond.fieldLink own idx (T k).1 (T k).2.1 (T k).2.2.1 ∈ BIGW ∨ ∃ host, Cond.fieldLinkNest own idx (T k).1 (T k).2.1 (T k).2.2.1 host ∈ NESTW)
theorem J_get {index ci k o t : Nat} {ks : List Nat} {ty : FieldType} {fin : Bool} {v : Value} (hf : j_F M.1.cls index ci k ty fin) (ho : sh[o]? = some (.inl (ci, ks))) (hk : ks[k]? = some t) (hv : j_fv (j_ad G) μ o k t = j_cv (j_ad G) v) (hd : decode M.2.1 pc = .ok (.getfield index, 3)) (kk : J G sh M (pc + 3) lv (v :: st) μ Q) : J G sh M pc lv (.ref o :: st) μ Q := by
  intro p e s m args below meth c H locs sz ls X
  have kk := kk p e s m args below meth c H locs sz ls X
  obtain ⟨x1, x2, x3, x4, x5, x6, x7, x8, x9, xa, xb, xc, xd, xe⟩ := X
  obtain ⟨C, T, N, tys, f1, f2, f3, f4, f5, f6, f7, f8⟩ := hf
  rw [List.map_cons, ← hv] at kk
  rcases f8 with f8 | ⟨host, f8⟩
  · exact va_get x1 x2 x5 (fun w hw => List.mem_cons_of_mem _ (f3 w hw)) x4 xa x9 o (j_w_get ho) f1 k f2 (j_hts x5 f8) (fun _ h => h) (j_fs_get hk) hd kk
  · exact va_getN x1 x2 x5 (fun w hw => List.mem_cons_of_mem _ (f3 w hw)) x4 xa x9 o (j_w_get ho) f1 k f2 (nest_use f8 (xd.1 _ f8)) (fun _ h => h) (j_fs_get hk) hd kk
theorem J_getI {index ci k o : Nat} {ks : List Nat} {ty : FieldType} {fin : Bool} (hf : j_F M.1.cls index ci k ty fin) (ho : sh[o]? = some (.inl (ci, ks))) (hk : ks[k]? = some 0) (hd : decode M.2.1 pc = .ok (.getfield index, 3)) (kk : J G sh M (pc + 3) lv (.int (μ.1 o k) :: st) μ Q) : J G sh M pc lv (.ref o :: st) μ Q := J_get hf ho hk rfl hd kk
theorem J_getL {index ci k o : Nat} {ks : List Nat} {ty : FieldType} {fin : Bool} (hf : j_F M.1.cls index ci k ty fin) (ho : sh[o]? = some (.inl (ci, ks))) (hk : ks[k]? = some 1) (hd : decode M.2.1 pc = .ok (.getfield index, 3)) (kk : J G sh M (pc + 3) lv (.long (μ.2 o k) :: st) μ Q) : J G sh M pc lv (.ref o :: st) μ Q := J_get hf ho hk rfl hd kk
theorem J_getR {index ci k o : Nat} (t : Nat) {ks : List Nat} {ty : FieldType} {fin : Bool} (hf : j_F M.1.cls index ci k ty fin) (ho : sh[o]? = some (.inl (ci, ks))) (hk : ks[k]? = some (2 * t + 2)) (hd : decode M.2.1 pc = .ok (.getfield index, 3)) (kk : J G sh M (pc + 3) lv (.ref t :: st) μ Q) : J G sh M pc lv (.ref o :: st) μ Q := J_get (v := .ref t) hf ho hk (by show (if (2 * t) % 2 = 0 then Value.ref (j_ad G ((2 * t) / 2)) else _) = _; rw [if_pos (by omega), show 2 * t / 2 = t by omega]; rfl) hd kk
theorem J_getN0 {index ci k o : Nat} (t : Nat) {ks : List Nat} {ty : FieldType} {fin : Bool} (hf : j_F M.1.cls index ci k ty fin) (ho : sh[o]? = some (.inl (ci, ks))) (hk : ks[k]? = some (2 * t + 3)) (h0 : μ.1 o k = 0) (hd : decode M.2.1 pc = .ok (.getfield index, 3)) (kk : J G sh M (pc + 3) lv (.null :: st) μ Q) : J G sh M pc lv (.ref o :: st) μ Q := J_get (v := .null) hf ho hk (by show (if (2 * t + 1) % 2 = 0 then Value.ref (j_ad G ((2 * t + 1) / 2)) else if μ.1 o k = 0 then Value.null else _) = _; rw [if_neg (by omega), if_pos h0]; rfl) hd kk
theorem J_getN1 {index ci k o : Nat} (t : Nat) {ks : List Nat} {ty : FieldType} {fin : Bool} (hf : j_F M.1.cls index ci k ty fin) (ho : sh[o]? = some (.inl (ci, ks))) (hk : ks[k]? = some (2 * t + 3)) (h0 : ¬ μ.1 o k = 0) (hd : decode M.2.1 pc = .ok (.getfield index, 3)) (kk : J G sh M (pc + 3) lv (.ref t :: st) μ Q) : J G sh M pc lv (.ref o :: st) μ Q := J_get (v := .ref t) hf ho hk (by show (if (2 * t + 1) % 2 = 0 then Value.ref (j_ad G ((2 * t + 1) / 2)) else if μ.1 o k = 0 then Value.null else Value.ref (j_ad G ((2 * t + 1) / 2))) = _; rw [if_neg (by omega), if_neg h0, show (2 * t + 1) / 2 = t by omega]; rfl) hd kk
theorem J_put {μ' : JM} {index ci k o : Nat} {ks : List Nat} {ty : FieldType} {v : Value} (hf : j_F M.1.cls index ci k ty false) (ho : sh[o]? = some (.inl (ci, ks))) (hk : k < ks.length) (hn : narrow ty (j_cv (j_ad G) v) = j_cv (j_ad G) v) (hfit : fits ty (j_cv (j_ad G) v) = true) (hw : (j_W G sh μ).set o (j_ad G o, .inr (ci, (j_fs (j_ad G) μ o ks).set k (j_cv (j_ad G) v))) = j_W G sh μ') (hd : decode M.2.1 pc = .ok (.putfield index, 3)) (kk : J G sh M (pc + 3) lv st μ' Q) : J G sh M pc lv (v :: .ref o :: st) μ Q := by
  intro p e s m args below meth c H locs sz ls X
  obtain ⟨x1, x2, x3, x4, x5, x6, x7, x8, x9, xa, xb, xc, xd, xe⟩ := X
  obtain ⟨C, T, N, tys, f1, f2, f3, f4, f5, f6, f7, f8⟩ := hf
  have go : ∀ (H1 : Heap) (locs1 : List Loc), va_P G.2.1 vwCl ((j_W G sh μ).set o (j_ad G o, .inr (ci, (j_fs (j_ad G) μ o ks).set k (j_cv (j_ad G) v)))) H1 → va_D (j_A (j_ad G) sh.length sz) ((j_W G sh μ).set o (j_ad G o, .inr (ci, (j_fs (j_ad G) μ o ks).set k (j_cv (j_ad G) v)))) → va_S (j_A (j_ad G) sh.length sz) s.heap H1 locs1 → W p G.1 e (j_rm M) s m args below meth c H1 locs1 0 0 (MQ below (j_Q G sh Q sz) args s 0 0 (j_A (j_ad G) sh.length sz)) (F0 m (pc + 3) ls (st.map (j_cv (j_ad G)))) := fun H1 locs1 hP hD hS => kk p e s m args below meth c H1 locs1 sz ls ⟨x1, x2, x3, x4, x5, x6, x7, x8, by rw [hw] at hP; exact hP, xa, by rw [hw] at hD; exact hD, hS, xd, xe⟩
  rcases f8 with f8 | ⟨host, f8⟩
  · exact va_put x1 x2 x5 (fun w hw => List.mem_cons_of_mem _ (f3 w hw)) tys f5 f4 x4 xa x9 xb xc o (j_w_get ho) f1 k f2 (j_hts x5 f8) (fun _ h => h) f7 f6 hn hfit (by rw [j_fs_len]; exact hk) hd go
  · exact va_putN x1 x2 x5 (fun w hw => List.mem_cons_of_mem _ (f3 w hw)) tys f5 f4 x4 xa x9 xb xc o (j_w_get ho) f1 k f2 (nest_use f8 (xd.1 _ f8)) (fun _ h => h) f7 f6 hn hfit (by rw [j_fs_len]; exact hk) hd go
theorem j_lt {α : Type} {l : List α} {i : Nat} {x : α} (h : l[i]? = some x) : i < l.length := (List.getElem?_eq_some_iff.mp h).1
theorem J_putI {index ci k o : Nat} {ks : List Nat} {x : Int32} (hf : j_F M.1.cls index ci k .int false) (ho : sh[o]? = some (.inl (ci, ks))) (hk : ks[k]? = some 0) (hd : decode M.2.1 pc = .ok (.putfield index, 3)) (kk : J G sh M (pc + 3) lv st (jI μ o k x) Q) : J G sh M pc lv (.int x :: .ref o :: st) μ Q := J_put hf ho (j_lt hk) rfl rfl (j_w_I ho hk) hd kk
theorem J_putZ {index ci k o : Nat} {ks : List Nat} {x : Int32} (hx : x = 0 ∨ x = 1) (hf : j_F M.1.cls index ci k .boolean false) (ho : sh[o]? = some (.inl (ci, ks))) (hk : ks[k]? = some 0) (hd : decode M.2.1 pc = .ok (.putfield index, 3)) (kk : J G sh M (pc + 3) lv st (jI μ o k x) Q) : J G sh M pc lv (.int x :: .ref o :: st) μ Q := J_put hf ho (j_lt hk) (by rcases hx with rfl | rfl <;> rfl) (by rcases hx with rfl | rfl <;> rfl) (j_w_I ho hk) hd kk
theorem J_putL {index ci k o : Nat} {ks : List Nat} {x : Int64} (hf : j_F M.1.cls index ci k .long false) (ho : sh[o]? = some (.inl (ci, ks))) (hk : ks[k]? = some 1) (hd : decode M.2.1 pc = .ok (.putfield index, 3)) (kk : J G sh M (pc + 3) lv st (jL μ o k x) Q) : J G sh M pc lv (.long x :: .ref o :: st) μ Q := J_put hf ho (j_lt hk) rfl rfl (j_w_L ho hk) hd kk
theorem J_putN {index ci k o t : Nat} {ks : List Nat} {n : String} (hf : j_F M.1.cls index ci k (.object n) false) (ho : sh[o]? = some (.inl (ci, ks))) (hk : ks[k]? = some (2 * t + 3)) (hd : decode M.2.1 pc = .ok (.putfield index, 3)) (kk : J G sh M (pc + 3) lv st (jI μ o k 1) Q) : J G sh M pc lv (.ref t :: .ref o :: st) μ Q := J_put hf ho (j_lt hk) rfl rfl (j_w_N ho hk) hd kk
end JR
end
section
section JC
variable {G : JG} {sh : List JSh} {M : JMth} {pc : Nat} {lv : List (Option Value)} {st : List Value} {μ : JM} {Q : Option Value → JM → Prop}
/-! ===== arrays of the world ===== -/
theorem J_iald {o n : Nat} {i : Int32} (ho : sh[o]? = some (.inr (0, n))) (hi : vp_in i n) (hd : decode M.2.1 pc = .ok (.iaload, 1)) (kk : J G sh M (pc + 1) lv (.int (μ.1 o i.toNatClampNeg) :: st) μ Q) : J G sh M pc lv (.int i :: .ref o :: st) μ Q := by
  intro p e s m args below meth c H locs sz ls X
  have kk := kk p e s m args below meth c H locs sz ls X
  obtain ⟨x1, x2, x3, x4, x5, x6, x7, x8, x9, xa, xb, xc, xd, xe⟩ := X
  exact va_iald x1 x2 xa x9 o 0 (j_w_get ho) rfl hi hd kk
theorem J_zald {o n : Nat} {i : Int32} (ho : sh[o]? = some (.inr (1, n))) (hi : vp_in i n) (hd : decode M.2.1 pc = .ok (.baload, 1)) (kk : J G sh M (pc + 1) lv (.int (μ.1 o i.toNatClampNeg) :: st) μ Q) : J G sh M pc lv (.int i :: .ref o :: st) μ Q := by
  intro p e s m args below meth c H locs sz ls X
  have kk := kk p e s m args below meth c H locs sz ls X
  obtain ⟨x1, x2, x3, x4, x5, x6, x7, x8, x9, xa, xb, xc, xd, xe⟩ := X
  exact va_zald x1 x2 xa x9 o 1 (j_w_get ho) rfl hi hd kk
theorem J_iast {o n : Nat} {i x : Int32} (ho : sh[o]? = some (.inr (0, n))) (hi : vp_in i n) (hd : decode M.2.1 pc = .ok (.iastore, 1)) (kk : J G sh M (pc + 1) lv st (jI μ o i.toNatClampNeg x) Q) : J G sh M pc lv (.int x :: .int i :: .ref o :: st) μ Q := by
  intro p e s m args below meth c H locs sz ls X
  obtain ⟨x1, x2, x3, x4, x5, x6, x7, x8, x9, xa, xb, xc, xd, xe⟩ := X
  have hw : (j_W G sh μ).set o (G.2.2.2.2 o, .inl (if (0 : Nat) = 0 then G.2.2.1 else G.2.2.2.1, n, .inl (upd (μ.1 o) i.toNatClampNeg x))) = j_W G sh (jI μ o i.toNatClampNeg x) := j_w_A ho
  exact va_iast x1 x2 xa x9 xb xc o 0 (j_w_get ho) rfl hi hd (fun H1 locs1 hP hD hS => kk p e s m args below meth c H1 locs1 sz ls ⟨x1, x2, x3, x4, x5, x6, x7, x8, by rw [hw] at hP; exact hP, xa, by rw [hw] at hD; exact hD, hS, xd, xe⟩)
theorem J_zast {o n : Nat} {i x : Int32} (ho : sh[o]? = some (.inr (1, n))) (hi : vp_in i n) (hx : x = 0 ∨ x = 1) (hd : decode M.2.1 pc = .ok (.bastore, 1)) (kk : J G sh M (pc + 1) lv st (jI μ o i.toNatClampNeg x) Q) : J G sh M pc lv (.int x :: .int i :: .ref o :: st) μ Q := by
  intro p e s m args below meth c H locs sz ls X
  obtain ⟨x1, x2, x3, x4, x5, x6, x7, x8, x9, xa, xb, xc, xd, xe⟩ := X
  have hw : (j_W G sh μ).set o (G.2.2.2.2 o, .inl (if (1 : Nat) = 0 then G.2.2.1 else G.2.2.2.1, n, .inl (upd (μ.1 o) i.toNatClampNeg (vp_nar .boolean x)))) = j_W G sh (jI μ o i.toNatClampNeg (vp_nar .boolean x)) := j_w_A ho
  have hn : vp_nar .boolean x = x := by rcases hx with rfl | rfl <;> rfl
  exact va_zast x1 x2 xa x9 xb xc o 1 (j_w_get ho) rfl hi hd (fun H1 locs1 hP hD hS => kk p e s m args below meth c H1 locs1 sz ls ⟨x1, x2, x3, x4, x5, x6, x7, x8, by rw [hw, hn] at hP; exact hP, xa, by rw [hw, hn] at hD; exact hD, hS, xd, xe⟩)
theorem J_alen {o n t : Nat} (ho : sh[o]? = some (.inr (t, n))) (hd : decode M.2.1 pc = .ok (.arraylength, 1)) (kk : J G sh M (pc + 1) lv (.int (nI n) :: st) μ Q) : J G sh M pc lv (.ref o :: st) μ Q := by
  intro p e s m args below meth c H locs sz ls X
  have kk := kk p e s m args below meth c H locs sz ls X
  obtain ⟨x1, x2, x3, x4, x5, x6, x7, x8, x9, xa, xb, xc, xd, xe⟩ := X
  by_cases ht : t = 0
  · exact va_alen (ty := .int) (x := (n, .inl (μ.1 o))) x1 x2 xa x9 o 0 (j_w_get ho) (by show some (G.2.2.1, FieldType.int) = some (if t = 0 then _ else _, _); rw [if_pos ht]) rfl hd kk
  · exact va_alen (ty := .boolean) (x := (n, .inl (μ.1 o))) x1 x2 xa x9 o 1 (j_w_get ho) (by show some (G.2.2.2.1, FieldType.boolean) = some (if t = 0 then _ else _, _); rw [if_neg ht]) rfl hd kk
/-! ===== the static tables ===== -/
theorem J_gets {index j : Nat} {x : String × Nat × (Nat → Int32)} (hj : j_tb[j]? = some x) (hl : Cond.fieldLink M.1.cls index RX3 x.1 "[I" ∈ BIGW) (hd : decode M.2.1 pc = .ok (.getstatic index, 3)) (kk : J G sh M (pc + 3) lv (.ref (1000 + j) :: st) μ Q) : J G sh M pc lv st μ Q := by
  intro p e s m args below meth c H locs sz ls X
  have kk := kk p e s m args below meth c H locs sz ls X
  obtain ⟨x1, x2, x3, x4, x5, x6, x7, x8, x9, xa, xb, xc, xd, xe⟩ := X
  exact va_gets x1 x2 (xd.2.1 j x hj).1 xc x4 (j_hts x5 hl) (fun _ h => h) hd kk
theorem J_getsN {index j : Nat} {x : String × Nat × (Nat → Int32)} {host : String} (hj : j_tb[j]? = some x) (hl : Cond.fieldLinkNest M.1.cls index RX3 x.1 "[I" host ∈ NESTW) (hd : decode M.2.1 pc = .ok (.getstatic index, 3)) (kk : J G sh M (pc + 3) lv (.ref (1000 + j) :: st) μ Q) : J G sh M pc lv st μ Q := by
  intro p e s m args below meth c H locs sz ls X
  have kk := kk p e s m args below meth c H locs sz ls X
  obtain ⟨x1, x2, x3, x4, x5, x6, x7, x8, x9, xa, xb, xc, xd, xe⟩ := X
  exact va_getsN x1 x2 (xd.2.1 j x hj).1 xc x4 (nest_use hl (xd.1 _ hl)) (fun _ h => h) hd kk
theorem J_ti {j : Nat} {x : String × Nat × (Nat → Int32)} {i : Int32} (hj : j_tb[j]? = some x) (hi : vp_in i x.2.1) (hd : decode M.2.1 pc = .ok (.iaload, 1)) (kk : J G sh M (pc + 1) lv (.int (x.2.2 i.toNatClampNeg) :: st) μ Q) : J G sh M pc lv (.int i :: .ref (1000 + j) :: st) μ Q := by
  intro p e s m args below meth c H locs sz ls X
  have kk := kk p e s m args below meth c H locs sz ls X
  obtain ⟨x1, x2, x3, x4, x5, x6, x7, x8, x9, xa, xb, xc, xd, xe⟩ := X
  exact va_ti x1 x2 (xd.2.1 j x hj).2 xc hi rfl hd kk
theorem J_tlen {j : Nat} {x : String × Nat × (Nat → Int32)} (hj : j_tb[j]? = some x) (hd : decode M.2.1 pc = .ok (.arraylength, 1)) (kk : J G sh M (pc + 1) lv (.int (nI x.2.1) :: st) μ Q) : J G sh M pc lv (.ref (1000 + j) :: st) μ Q := by
  intro p e s m args below meth c H locs sz ls X
  have kk := kk p e s m args below meth c H locs sz ls X
  obtain ⟨x1, x2, x3, x4, x5, x6, x7, x8, x9, xa, xb, xc, xd, xe⟩ := X
  exact va_tlen x1 x2 (xd.2.1 j x hj).2 xc rfl hd kk
/-! ===== Math ===== -/
def j_mw (own : String) (idx : Nat) (y : MethodName) (b : ByteArray) (n : Nat) (r : FieldType) : Prop := Cond.methodLink own idx y ∈ BIGW ∧ Cond.static y ∈ BIGW ∧ Cond.initialized "java/lang/Math" ∈ BIGW ∧ Cond.code y b n (some r) ∈ BIGW
theorem J_min {index : Nat} {x y : Int32} (hw : j_mw M.1.cls index Lib.Math.min.name Lib.Math.min.code 2 .int) (hf : 1 ≤ M.2.2.2.2.1) (hl : (st.map Value.category).sum + 13 ≤ M.2.2.2.2.2) (hd : decode M.2.1 pc = .ok (.invokestatic index, 3)) (kk : J G sh M (pc + 3) lv (.int (if y < x then y else x) :: st) μ Q) : J G sh M pc lv (.int y :: .int x :: st) μ Q := by
  intro p e s m args below meth c H locs sz ls X
  have kk := kk p e s m args below meth c H locs sz ls X
  obtain ⟨x1, x2, x3, x4, x5, x6, x7, x8, x9, xa, xb, xc, xd, xe⟩ := X
  exact va_mmin x1 x2 (x3.trans xe.1.symm) x4 (j_hts x5 hw.1) (j_hts x5 hw.2.1) (j_hts x5 hw.2.2.1) (j_hts x5 hw.2.2.2) hf (by rw [j_cat_map]; exact hl) (Nat.zero_le _) (Nat.zero_le _) hd kk
theorem J_max {index : Nat} {x y : Int32} (hw : j_mw M.1.cls index Lib.Math.max.name Lib.Math.max.code 2 .int) (hf : 1 ≤ M.2.2.2.2.1) (hl : (st.map Value.category).sum + 13 ≤ M.2.2.2.2.2) (hd : decode M.2.1 pc = .ok (.invokestatic index, 3)) (kk : J G sh M (pc + 3) lv (.int (if x < y then y else x) :: st) μ Q) : J G sh M pc lv (.int y :: .int x :: st) μ Q := by
  intro p e s m args below meth c H locs sz ls X
  have kk := kk p e s m args below meth c H locs sz ls X
  obtain ⟨x1, x2, x3, x4, x5, x6, x7, x8, x9, xa, xb, xc, xd, xe⟩ := X
  exact va_mmax x1 x2 (x3.trans xe.1.symm) x4 (j_hts x5 hw.1) (j_hts x5 hw.2.1) (j_hts x5 hw.2.2.1) (j_hts x5 hw.2.2.2) hf (by rw [j_cat_map]; exact hl) (Nat.zero_le _) (Nat.zero_le _) hd kk
theorem J_absl {index : Nat} {x : Int64} (hw : j_mw M.1.cls index Lib.MathLoose.abs_long.x Lib.MathLoose.abs_long.code 2 .long) (hf : 1 ≤ M.2.2.2.2.1) (hl : (st.map Value.category).sum + 13 ≤ M.2.2.2.2.2) (hd : decode M.2.1 pc = .ok (.invokestatic index, 3)) (kk : J G sh M (pc + 3) lv (.long (if 0 < x then x else -x) :: st) μ Q) : J G sh M pc lv (.long x :: st) μ Q := by
  intro p e s m args below meth c H locs sz ls X
  have kk := kk p e s m args below meth c H locs sz ls X
  obtain ⟨x1, x2, x3, x4, x5, x6, x7, x8, x9, xa, xb, xc, xd, xe⟩ := X
  exact va_mabs_long x1 x2 (x3.trans xe.1.symm) x4 (j_hts x5 hw.1) (j_hts x5 hw.2.1) (j_hts x5 hw.2.2.1) (j_hts x5 hw.2.2.2) hf (by rw [j_cat_map]; exact hl) (Nat.zero_le _) (Nat.zero_le _) hd kk
/-! ===== arraycopy ===== -/
def j_acw (own : String) (idx : Nat) : Prop := Cond.methodLink own idx arraycopyName ∈ BIGW ∧ Cond.native arraycopyName ∈ BIGW ∧ Cond.static arraycopyName ∈ BIGW ∧ Cond.initialized "java/lang/System" ∈ BIGW
theorem J_copy {index o0 o1 n0 n1 : Nat} {sp dp n : Int32} (hw : j_acw M.1.cls index) (h0 : sh[o0]? = some (.inr (0, n0))) (h1 : sh[o1]? = some (.inr (0, n1))) (hs : ¬ sp < 0) (hp : ¬ dp < 0) (hn : ¬ n < 0) (h4 : sp.toNatClampNeg + n.toNatClampNeg ≤ n0) (h5 : dp.toNatClampNeg + n.toNatClampNeg ≤ n1) (hf : 1 ≤ M.2.2.2.2.1) (hl : (st.map Value.category).sum + (nativeFrameWords "java/lang/System" "arraycopy" 5 + 11) ≤ M.2.2.2.2.2) (hd : decode M.2.1 pc = .ok (.invokestatic index, 3)) (kk : J G sh M (pc + 3) lv st (jC μ o1 (va_cpy (μ.1 o0) (μ.1 o1) sp.toNatClampNeg dp.toNatClampNeg n.toNatClampNeg)) Q) : J G sh M pc lv (.int n :: .int dp :: .ref o1 :: .int sp :: .ref o0 :: st) μ Q := by
  intro p e s m args below meth c H locs sz ls X
  obtain ⟨x1, x2, x3, x4, x5, x6, x7, x8, x9, xa, xb, xc, xd, xe⟩ := X
  have hj : (j_W G sh μ).set o1 (G.2.2.2.2 o1, .inl (if (0 : Nat) = 0 then G.2.2.1 else G.2.2.2.1, n1, .inl (va_cpy (μ.1 o0) (μ.1 o1) sp.toNatClampNeg dp.toNatClampNeg n.toNatClampNeg))) = j_W G sh (jC μ o1 (va_cpy (μ.1 o0) (μ.1 o1) sp.toNatClampNeg dp.toNatClampNeg n.toNatClampNeg)) := j_w_C h1
  exact va_copyi x1 x2 (x3.trans xe.1.symm) x4 (j_hts x5 hw.1) (j_hts x5 hw.2.1) (j_hts x5 hw.2.2.1) (j_hts x5 hw.2.2.2) xa x9 xb xc o0 o1 0 0 (j_w_get h0) (j_w_get h1) rfl rfl rfl hs hp hn h4 h5 (fun i hi => rfl) hf (by rw [j_cat_map]; exact hl) hd (fun H1 locs1 hP hD hS => kk p e s m args below meth c H1 locs1 sz ls ⟨x1, x2, x3, x4, x5, x6, x7, x8, by rw [hj] at hP; exact hP, xa, by rw [hj] at hD; exact hD, hS, xd, xe⟩)
/-! ===== calls ===== -/
theorem j_run {p : Program} {e : Env} {R : Room} {s : State} {m : MethodId} {args : Array Value} {below : List Frame} {meth : Method} {c : Code} {H : Heap} {locs : List Loc} {Z : State → Prop} {ls : Array Slot} {st0 rest : List Value} {a : Array Value} {A0 : Nat → Prop} {Q1 : Option Value → JM → Prop}
    (hr : va_Run p G.1 e R s m args below meth c H locs 0 0 0 0 (F0 m pc ls st0) rest (j_Q G sh Q1 H.size a) (j_A (j_ad G) sh.length H.size)) (hS : va_S A0 s.heap H locs) (hA : ∀ q, j_A (j_ad G) sh.length H.size q → A0 q)
    (kk : ∀ (v : Option Value) (μ1 : JM) (H1 : Heap) (locs1 : List Loc), Q1 v μ1 → va_P G.2.1 vwCl (j_W G sh μ1) H1 → va_D (j_A (j_ad G) sh.length H.size) (j_W G sh μ1) → va_S A0 s.heap H1 locs1 → W p G.1 e R s m args below meth c H1 locs1 0 0 Z (F0 m (pc + 3) ls ((v.map (j_cv (j_ad G))).toList ++ rest))) : W p G.1 e R s m args below meth c H locs 0 0 Z (F0 m pc ls st0) := by
  intro T hT X
  obtain ⟨v, st₀, t, T', L, h0, X', hL, e1, e2, ⟨⟨w, μ1, hv, hq, hP, hK, hD⟩, hz, hk⟩, go⟩ := hr T hT X
  cases hv
  rw [h0] at hz hk
  obtain ⟨t2, a1, b1⟩ := kk w μ1 T'.heap (locs ++ L) hq (by rw [e1]; exact hP) hD
    ⟨Nat.le_trans hS.1 (by rw [e1]; exact hz), fun q h1 h2 => by rw [e1, hk q (Nat.lt_of_lt_of_le h1 hS.1) (fun z => h2 (hA q z))]; exact hS.2.1 q h1 h2, fun q hq => by
      rcases List.mem_append.mp hq with h | h
      · exact hS.2.2 q h
      · exact hA _ (hL q h)⟩ T' rfl X'
  exact ⟨t2, go t2 a1, b1⟩
theorem j_blind {as : List Value} {sz : Nat} : FrameBlind (va_Pc as (j_Pre G sh μ sz)) := by
  intro a U g mk h
  obtain ⟨h1, h2, h3, h4, h5, h6⟩ := h
  exact ⟨h1, h2, h3, va_K.moved (u := U) (U := U.calling g mk a) (Vm.Alike.refl U.vm) h4, h5, j_E_same (u := U) (U := U.calling g mk a) rfl h6⟩
theorem j_A_sub {ad : Nat → Nat} {n sz sz' : Nat} (h : sz ≤ sz') : ∀ q, j_A ad n sz' q → j_A ad n sz q := fun q hq => hq.elim Or.inl (fun h2 => Or.inr (Nat.le_trans h h2))
theorem j_pre_call {p : Program} {s : State} {m : MethodId} {args : Array Value} {meth : Method} {c : Code} {H : Heap} {locs : List Loc} {sz : Nat} {ls : Array Slot} (X : j_X G sh M p s m args meth c H locs sz ls lv μ) (as : List Value) : ∀ U : State, U.heap = H → s.WarmedH U.vm → va_Pc as (j_Pre G sh μ H.size) as.toArray U := by
  intro U hU hW
  obtain ⟨x1, x2, x3, x4, x5, x6, x7, x8, x9, xa, xb, xc, xd, xe⟩ := X
  refine ⟨rfl, by rw [hU], by rw [hU]; exact x9, xa.moved hW.alike, ⟨xb.1, fun k q hq => ?_⟩, ?_⟩
  · have hq2 := List.mem_map.mp (List.mem_of_getElem? hq)
    obtain ⟨o, ho, e⟩ := hq2
    exact Or.inl ⟨o, List.mem_range.mp ho, by rw [← e]⟩
  · rw [hU]
    exact j_E_go xd hW xc.2.1 (j_A_sub (by rw [← x8]; exact xc.1))
theorem j_D_back {sz sz' : Nat} {μ1 : JM} (h : va_D (j_A (j_ad G) sh.length sz') (j_W G sh μ1)) : va_D (j_A (j_ad G) sh.length sz) (j_W G sh μ1) := by
  refine ⟨h.1, fun k q hq => ?_⟩
  obtain ⟨o, ho, e⟩ := List.mem_map.mp (List.mem_of_getElem? hq)
  exact Or.inl ⟨o, List.mem_range.mp ho, by rw [← e]⟩
theorem j_good {M Mc : JMth} (h : Cond.code Mc.1 Mc.2.1 Mc.2.2.1 Mc.2.2.2.1 ∈ BIGW) : GoodIn (j_ws M) (j_ws Mc) := by
  intro w hw
  have hb : w ∈ BIGW := by
    rcases List.mem_cons.mp hw with rfl | h2
    · exact h
    · exact h2
  exact ⟨List.mem_cons_of_mem _ hb, big_good hb⟩
/-- what a call wants of the tables -/
def j_C (own : String) (idx : Nat) (Mc : JMth) (n : Nat) : Prop := (Cond.methodLink own idx Mc.1 ∈ BIGW ∨ ∃ host, Cond.methodLinkNest own idx Mc.1 host ∈ NESTW) ∧ Cond.initialized Mc.1.cls ∈ BIGW ∧ Cond.code Mc.1 Mc.2.1 Mc.2.2.1 Mc.2.2.2.1 ∈ BIGW ∧ (Mc.1.cls ≠ "java/lang/invoke/MethodHandle" ∧ Mc.1.cls ≠ "java/lang/invoke/VarHandle" ∧ (parseMethodDescriptor Mc.1.desc).map (fun d => d.parameters.length) = some n)
def j_V (own : String) (idx : Nat) (Mc : JMth) (ci n : Nat) : Prop := j_C own idx Mc n ∧ Cond.instanceMethod Mc.1 ∈ BIGW ∧ Cond.selects Mc.1.cls Mc.1 Mc.1 ∈ BIGW ∧ ∃ T N, vwCl[ci]? = some (Mc.1.cls, T, N)
def j_S (own : String) (idx : Nat) (Mc : JMth) (n : Nat) : Prop := j_C own idx Mc n ∧ Cond.static Mc.1 ∈ BIGW
/-- the callee's room fits -/
def j_R (M Mc : JMth) : Prop := Mc.2.2.2.2.1 + 1 ≤ M.2.2.2.2.1 ∧ 8 + (Mc.2.2.1 + 11) + Mc.2.2.2.2.2 ≤ M.2.2.2.2.2
theorem j_map_app (v : Option Value) (st : List Value) : (v.map (j_cv (j_ad G))).toList ++ st.map (j_cv (j_ad G)) = (v.toList ++ st).map (j_cv (j_ad G)) := by cases v <;> rfl
/-- a call of an instance method; the receiver's cell is told -/
theorem J_callR {Mc : JMth} {index n o : Nat} {as stk : List Value} {Q1 : Option Value → JM → Prop} (hf : j_C M.1.cls index Mc n ∧ Cond.instanceMethod Mc.1 ∈ BIGW ∧ Cond.selects Mc.1.cls Mc.1 Mc.1 ∈ BIGW) (hrec : ∀ (s : State) (H : Heap) (locs : List Loc) (sz : Nat), va_P G.2.1 vwCl (j_W G sh μ) H → va_K G.2.1 vwCl (j_ty G) s → va_S (j_A (j_ad G) sh.length sz) s.heap H locs → j_E (j_ad G) (j_A (j_ad G) sh.length sz) s s.heap → ∃ cell : Cell, H[j_ad G o]? = some cell ∧ cell.vm.isStatics = false ∧ s.vm.findClass Mc.1.cls = some cell.cls) (hd : decode M.2.1 pc = .ok (.invokevirtual index, 3)) (hc : Con G sh Mc (.ref o :: as) μ Q1) (hn : as.length = n) (hr : j_R M Mc) (hst : stk = as.reverse ++ .ref o :: st) (hw : (st.map Value.category).sum ≤ 8) (k : ∀ v μ1, Q1 v μ1 → J G sh M (pc + 3) lv (v.toList ++ st) μ1 Q) : J G sh M pc lv stk μ Q := by
  intro p e s m args below meth c H locs sz ls X
  have hpre := j_pre_call X
  obtain ⟨x1, x2, x3, x4, x5, x6, x7, x8, x9, xa, xb, xc, xd, xe⟩ := X
  obtain ⟨⟨f1, f2, f3, f4⟩, f5, f6⟩ := hf
  subst hst
  have hsub : ∀ q, j_A (j_ad G) sh.length H.size q → j_A (j_ad G) sh.length sz q := j_A_sub (by rw [← x8]; exact xc.1)
  have S : CallFix p m c M.2.1 M.2.2.1 s args (j_ws M) M.1.cls := ⟨x1, x2, x3, x4, x5⟩
  have hp : PreV s H Mc.1.cls (j_ad G o) (va_Pc ((Value.ref o :: as).map (j_cv (j_ad G))) (j_Pre G sh μ H.size)) (as.map (j_cv (j_ad G))) := ⟨j_blind, hrec s H locs sz x9 xa xc xd, hpre _⟩
  have hstk : (as.reverse ++ Value.ref o :: st).map (j_cv (j_ad G)) = (as.map (j_cv (j_ad G))).reverse ++ Value.ref (j_ad G o) :: st.map (j_cv (j_ad G)) := by
    rw [List.map_append, List.map_reverse]; rfl
  have go : ∀ (v : Option Value) (μ1 : JM) (H1 : Heap) (locs1 : List Loc), Q1 v μ1 → va_P G.2.1 vwCl (j_W G sh μ1) H1 → va_D (j_A (j_ad G) sh.length H.size) (j_W G sh μ1) → va_S (j_A (j_ad G) sh.length sz) s.heap H1 locs1 → W p G.1 e (j_rm M) s m args below meth c H1 locs1 0 0 (MQ below (j_Q G sh Q sz) args s 0 0 (j_A (j_ad G) sh.length sz)) (F0 m (pc + 3) ls ((v.map (j_cv (j_ad G))).toList ++ st.map (j_cv (j_ad G)))) := fun v μ1 H1 locs1 hq hP hD hS => by
    rw [j_map_app]
    exact k v μ1 hq p e s m args below meth c H1 locs1 sz ls ⟨x1, x2, x3, x4, x5, x6, x7, x8, hP, xa, j_D_back hD, hS, xd, xe⟩
  have hW : 2 * (F0 m pc ls ((as.reverse ++ Value.ref o :: st).map (j_cv (j_ad G)))).monitorRoom + ((st.map (j_cv (j_ad G))).map fun v => v.category).sum ≤ 8 := lv_room (by rw [j_cat_map]; exact hw)
  rcases f1 with f1 | ⟨host, f1⟩
  · exact j_run (va_runV (n := n) (y := Mc.1) (mc := 0) (ms := 0) S (hc H.size) ⟨callB_of n x5 (j_good f3) rfl rfl rfl (j_hts x5 f2) (j_hts x5 f1) f4 hr, j_hts x5 f5, j_hts x5 f6⟩ hp rfl (by rw [List.length_map]; exact hn) xe.1 hstk hW hd ⟨Nat.le_refl _, Nat.le_refl _⟩) xc hsub go
  · exact j_run (va_runVN (n := n) (y := Mc.1) (mc := 0) (ms := 0) S (hc H.size) ⟨va_cnB n x5 (j_good f3) rfl rfl rfl (xd.1 _ f1) (j_hts x5 f2) f4 hr, j_hts x5 f5, j_hts x5 f6⟩ hp rfl (by rw [List.length_map]; exact hn) xe.1 hstk hW hd ⟨Nat.le_refl _, Nat.le_refl _⟩) xc hsub go
theorem J_callV {Mc : JMth} {index n o ci : Nat} {ks : List Nat} {as stk : List Value} {Q1 : Option Value → JM → Prop} (hf : j_V M.1.cls index Mc ci n) (ho : sh[o]? = some (.inl (ci, ks))) (hd : decode M.2.1 pc = .ok (.invokevirtual index, 3)) (hc : Con G sh Mc (.ref o :: as) μ Q1) (hn : as.length = n) (hr : j_R M Mc) (hst : stk = as.reverse ++ .ref o :: st) (hw : (st.map Value.category).sum ≤ 8) (k : ∀ v μ1, Q1 v μ1 → J G sh M (pc + 3) lv (v.toList ++ st) μ1 Q) : J G sh M pc lv stk μ Q := by
  obtain ⟨f1, f2, f3, T, N, f4⟩ := hf
  exact J_callR ⟨f1, f2, f3⟩ (fun s H locs sz hP hK _ _ => va_recv hK hP f4 (j_w_get ho)) hd hc hn hr hst hw k
theorem J_callS {Mc : JMth} {index n : Nat} {as stk : List Value} {Q1 : Option Value → JM → Prop} (hf : j_S M.1.cls index Mc n) (hd : decode M.2.1 pc = .ok (.invokestatic index, 3)) (hc : Con G sh Mc as μ Q1) (hn : as.length = n) (hr : j_R M Mc) (hst : stk = as.reverse ++ st) (hw : (st.map Value.category).sum ≤ 8) (k : ∀ v μ1, Q1 v μ1 → J G sh M (pc + 3) lv (v.toList ++ st) μ1 Q) : J G sh M pc lv stk μ Q := by
  intro p e s m args below meth c H locs sz ls X
  have hpre := j_pre_call X
  obtain ⟨x1, x2, x3, x4, x5, x6, x7, x8, x9, xa, xb, xc, xd, xe⟩ := X
  obtain ⟨⟨f1, f2, f3, f4⟩, f5⟩ := hf
  subst hst
  have hsub : ∀ q, j_A (j_ad G) sh.length H.size q → j_A (j_ad G) sh.length sz q := j_A_sub (by rw [← x8]; exact xc.1)
  have S : CallFix p m c M.2.1 M.2.2.1 s args (j_ws M) M.1.cls := ⟨x1, x2, x3, x4, x5⟩
  have hp : PreS s H (va_Pc (as.map (j_cv (j_ad G))) (j_Pre G sh μ H.size)) (as.map (j_cv (j_ad G))) := ⟨j_blind, hpre _⟩
  have hstk : (as.reverse ++ st).map (j_cv (j_ad G)) = (as.map (j_cv (j_ad G))).reverse ++ st.map (j_cv (j_ad G)) := by
    rw [List.map_append, List.map_reverse]
  have go : ∀ (v : Option Value) (μ1 : JM) (H1 : Heap) (locs1 : List Loc), Q1 v μ1 → va_P G.2.1 vwCl (j_W G sh μ1) H1 → va_D (j_A (j_ad G) sh.length H.size) (j_W G sh μ1) → va_S (j_A (j_ad G) sh.length sz) s.heap H1 locs1 → W p G.1 e (j_rm M) s m args below meth c H1 locs1 0 0 (MQ below (j_Q G sh Q sz) args s 0 0 (j_A (j_ad G) sh.length sz)) (F0 m (pc + 3) ls ((v.map (j_cv (j_ad G))).toList ++ st.map (j_cv (j_ad G)))) := fun v μ1 H1 locs1 hq hP hD hS => by
    rw [j_map_app]
    exact k v μ1 hq p e s m args below meth c H1 locs1 sz ls ⟨x1, x2, x3, x4, x5, x6, x7, x8, hP, xa, j_D_back hD, hS, xd, xe⟩
  have hW : 2 * (F0 m pc ls ((as.reverse ++ st).map (j_cv (j_ad G)))).monitorRoom + ((st.map (j_cv (j_ad G))).map fun v => v.category).sum ≤ 8 := lv_room (by rw [j_cat_map]; exact hw)
  rcases f1 with f1 | ⟨host, f1⟩
  · exact j_run (va_runS (n := n) (y := Mc.1) (mc := 0) (ms := 0) S (hc H.size) ⟨callB_of n x5 (j_good f3) rfl rfl rfl (j_hts x5 f2) (j_hts x5 f1) f4 hr, j_hts x5 f5⟩ hp rfl (by rw [List.length_map]; exact hn) xe.1 hstk hW hd ⟨Nat.le_refl _, Nat.le_refl _⟩) xc hsub go
  · exact j_run (va_runSN (n := n) (y := Mc.1) (mc := 0) (ms := 0) S (hc H.size) ⟨va_cnB n x5 (j_good f3) rfl rfl rfl (xd.1 _ f1) (j_hts x5 f2) f4 hr, j_hts x5 f5, trivial⟩ hp rfl (by rw [List.length_map]; exact hn) xe.1 hstk hW hd ⟨Nat.le_refl _, Nat.le_refl _⟩) xc hsub go
/-- an answer and a memory known beforehand -/
def j_is (v : Option Value) (μ : JM) : Option Value → JM → Prop := fun w μ' => w = v ∧ μ' = μ
theorem J_callVd {Mc : JMth} {index n o ci : Nat} {ks : List Nat} {as stk : List Value} {v : Option Value} {μ1 : JM} (hf : j_V M.1.cls index Mc ci n) (ho : sh[o]? = some (.inl (ci, ks))) (hd : decode M.2.1 pc = .ok (.invokevirtual index, 3)) (hc : Con G sh Mc (.ref o :: as) μ (j_is v μ1)) (hn : as.length = n) (hr : j_R M Mc) (hst : stk = as.reverse ++ .ref o :: st) (hw : (st.map Value.category).sum ≤ 8) (k : J G sh M (pc + 3) lv (v.toList ++ st) μ1 Q) : J G sh M pc lv stk μ Q :=
  J_callV hf ho hd hc hn hr hst hw (fun w μ2 h => by rw [h.1, h.2]; exact k)
theorem J_callSd {Mc : JMth} {index n : Nat} {as stk : List Value} {v : Option Value} {μ1 : JM} (hf : j_S M.1.cls index Mc n) (hd : decode M.2.1 pc = .ok (.invokestatic index, 3)) (hc : Con G sh Mc as μ (j_is v μ1)) (hn : as.length = n) (hr : j_R M Mc) (hst : stk = as.reverse ++ st) (hw : (st.map Value.category).sum ≤ 8) (k : J G sh M (pc + 3) lv (v.toList ++ st) μ1 Q) : J G sh M pc lv stk μ Q :=
  J_callS hf hd hc hn hr hst hw (fun w μ2 h => by rw [h.1, h.2]; exact k)
/-- an answer yes or no, the memory known in each case -/
def j_b (c : Prop) (μ1 μ0 : JM) : Option Value → JM → Prop := fun w μ' => (c ∧ w = some (.int 1) ∧ μ' = μ1) ∨ (¬ c ∧ w = some (.int 0) ∧ μ' = μ0)
theorem J_callVb {Mc : JMth} {index n o ci : Nat} {ks : List Nat} {as stk : List Value} {cc : Prop} {μ1 μ0 : JM} (hf : j_V M.1.cls index Mc ci n) (ho : sh[o]? = some (.inl (ci, ks))) (hd : decode M.2.1 pc = .ok (.invokevirtual index, 3)) (hc : Con G sh Mc (.ref o :: as) μ (j_b cc μ1 μ0)) (hn : as.length = n) (hr : j_R M Mc) (hst : stk = as.reverse ++ .ref o :: st) (hw : (st.map Value.category).sum ≤ 8) (k1 : cc → J G sh M (pc + 3) lv (.int 1 :: st) μ1 Q) (k0 : ¬ cc → J G sh M (pc + 3) lv (.int 0 :: st) μ0 Q) : J G sh M pc lv stk μ Q :=
  J_callV hf ho hd hc hn hr hst hw (fun w μ2 h => by
    rcases h with ⟨h1, rfl, rfl⟩ | ⟨h1, rfl, rfl⟩
    · exact k1 h1
    · exact k0 h1)
theorem J_callSb {Mc : JMth} {index n : Nat} {as stk : List Value} {cc : Prop} {μ1 μ0 : JM} (hf : j_S M.1.cls index Mc n) (hd : decode M.2.1 pc = .ok (.invokestatic index, 3)) (hc : Con G sh Mc as μ (j_b cc μ1 μ0)) (hn : as.length = n) (hr : j_R M Mc) (hst : stk = as.reverse ++ st) (hw : (st.map Value.category).sum ≤ 8) (k1 : cc → J G sh M (pc + 3) lv (.int 1 :: st) μ1 Q) (k0 : ¬ cc → J G sh M (pc + 3) lv (.int 0 :: st) μ0 Q) : J G sh M pc lv stk μ Q :=
  J_callS hf hd hc hn hr hst hw (fun w μ2 h => by
    rcases h with ⟨h1, rfl, rfl⟩ | ⟨h1, rfl, rfl⟩
    · exact k1 h1
    · exact k0 h1)
end JC
end
section
/-! ===== printed by wip/whole/gen.py facts: methods, fields, calls ===== -/
def mX3_init : JMth := (yX3_init, cX3_init, 1, none, 8, 240)
def mX3_jar : JMth := (yX3_jar, cX3_jar, 3, (some .int), 8, 240)
def mX3_mood : JMth := (yX3_mood, cX3_mood, 3, (some .int), 8, 240)
def mX3_bound : JMth := (yX3_bound, cX3_bound, 3, (some .int), 6, 180)
def mX3_vow : JMth := (yX3_vow, cX3_vow, 4, (some .int), 6, 180)
def mX3_type : JMth := (yX3_type, cX3_type, 2, (some .int), 6, 180)
def mX3_clear : JMth := (yX3_clear, cX3_clear, 2, (some .int), 4, 120)
def mX3_read : JMth := (yX3_read, cX3_read, 2, (some .int), 20, 600)
def mX3_say : JMth := (yX3_say, cX3_say, 2, (some .int), 12, 360)
def mX3_open : JMth := (yX3_open, cX3_open, 2, (some .int), 8, 240)
def mX3_undo : JMth := (yX3_undo, cX3_undo, 1, (some .int), 8, 240)
def mX3_now : JMth := (yX3_now, cX3_now, 2, (some .int), 6, 180)
def mX3_moves : JMth := (yX3_moves, cX3_moves, 3, (some .int), 8, 240)
def mX3_words : JMth := (yX3_words, cX3_words, 7, (some .int), 10, 300)
def mX3_fewest : JMth := (yX3_fewest, cX3_fewest, 3, (some .int), 40, 1200)
def mX3_delay : JMth := (yX3_delay, cX3_delay, 3, (some .int), 40, 1200)
def mX3_strikes : JMth := (yX3_strikes, cX3_strikes, 4, (some .int), 10, 300)
def mX3_since : JMth := (yX3_since, cX3_since, 4, (some .int), 6, 180)
def mX3_cast : JMth := (yX3_cast, cX3_cast, 4, (some .int), 6, 180)
def mX3_reward : JMth := (yX3_reward, cX3_reward, 5, (some .int), 8, 240)
def mX3_note : JMth := (yX3_note, cX3_note, 5, (some .int), 8, 240)
def mX3_forget : JMth := (yX3_forget, cX3_forget, 2, (some .int), 4, 120)
def mX3_is : JMth := (yX3_is, cX3_is, 3, (some .int), 10, 300)
def mX3_next : JMth := (yX3_next, cX3_next, 6, (some .int), 12, 360)
def mX3_lie : JMth := (yX3_lie, cX3_lie, 5, (some .int), 12, 360)
def mX3_odds : JMth := (yX3_odds, cX3_odds, 4, (some .int), 32, 960)
def mX3_jars : JMth := (yX3_jars, cX3_jars, 9, (some .int), 10, 300)
def mX3_part : JMth := (yX3_part, cX3_part, 2, (some .long), 6, 180)
def mX3_image : JMth := (yX3_image, cX3_image, 3, (some .int), 6, 180)
def mX3_from : JMth := (yX3_from, cX3_from, 3, (some .int), 6, 180)
def mX3_status : JMth := (yX3_status, cX3_status, 2, (some .int), 6, 180)
def mX3_count : JMth := (yX3_count, cX3_count, 2, (some .int), 6, 180)
def mX3_digest : JMth := (yX3_digest, cX3_digest, 4, (some .long), 8, 240)
def mX3_refuse : JMth := (yX3_refuse, cX3_refuse, 2, (some .int), 4, 120)
def mX3_refuseBad : JMth := (yX3_refuseBad, cX3_refuseBad, 2, (some .int), 4, 120)
def mX3_lengthOrWord : JMth := (yX3_lengthOrWord, cX3_lengthOrWord, 3, (some .int), 6, 180)
def mX3_imageAt : JMth := (yX3_imageAt, cX3_imageAt, 2, (some (.object "JarSpirit$Jar")), 4, 120)
def mX3_setFraction : JMth := (yX3_setFraction, cX3_setFraction, 7, none, 6, 180)
def mX3_pairWorth : JMth := (yX3_pairWorth, cX3_pairWorth, 6, (some .int), 10, 300)
def mX3_within : JMth := (yX3_within, cX3_within, 3, (some .boolean), 4, 120)
def mX3_isWord : JMth := (yX3_isWord, cX3_isWord, 1, (some .boolean), 6, 180)
def mX3_at : JMth := (yX3_at, cX3_at, 2, (some .int), 4, 120)
def mX3_put : JMth := (yX3_put, cX3_put, 3, none, 4, 120)
def mX3_powerOfTen : JMth := (yX3_powerOfTen, cX3_powerOfTen, 4, (some .long), 4, 120)
def mX3_commonDivisor : JMth := (yX3_commonDivisor, cX3_commonDivisor, 11, (some .long), 4, 120)
def mX3_mind : JMth := (yX3_mind, cX3_mind, 3, (some .int), 4, 120)
def mX3_angerOf : JMth := (yX3_angerOf, cX3_angerOf, 1, (some .int), 4, 120)
def mX3_prideOf : JMth := (yX3_prideOf, cX3_prideOf, 1, (some .int), 4, 120)
def mX3_beingOf : JMth := (yX3_beingOf, cX3_beingOf, 1, (some .int), 4, 120)
def mX3_kept : JMth := (yX3_kept, cX3_kept, 1, (some .int), 4, 120)
def mX3_angerMove : JMth := (yX3_angerMove, cX3_angerMove, 4, (some .int), 6, 180)
def mX3_prideMove : JMth := (yX3_prideMove, cX3_prideMove, 4, (some .int), 6, 180)
def mX3_moveAlike : JMth := (yX3_moveAlike, cX3_moveAlike, 4, (some .boolean), 8, 240)
def mX3_mostAlike : JMth := (yX3_mostAlike, cX3_mostAlike, 8, (some .int), 10, 300)
def mX3_readItems : JMth := (yX3_readItems, cX3_readItems, 4, (some .int), 18, 540)
def mX3_readFirst : JMth := (yX3_readFirst, cX3_readFirst, 2, (some .boolean), 16, 480)
def mX3_readItem : JMth := (yX3_readItem, cX3_readItem, 2, (some .boolean), 16, 480)
def mX3_readMood : JMth := (yX3_readMood, cX3_readMood, 3, (some .boolean), 12, 360)
def mX3_readBound : JMth := (yX3_readBound, cX3_readBound, 3, (some .boolean), 12, 360)
def mX3_readVow : JMth := (yX3_readVow, cX3_readVow, 3, (some .boolean), 12, 360)
def mX3_readSay : JMth := (yX3_readSay, cX3_readSay, 2, (some .boolean), 12, 360)
def mX4_init : JMth := (yX4_init, cX4_init, 1, none, 6, 180)
def mX4_in : JMth := (yX4_in, cX4_in, 6, (some .boolean), 4, 120)
def mX4_fresh : JMth := (yX4_fresh, cX4_fresh, 3, none, 4, 120)
def mX4_no : JMth := (yX4_no, cX4_no, 2, (some .int), 4, 120)
def mX4_noAs : JMth := (yX4_noAs, cX4_noAs, 2, (some .int), 4, 120)
def mX4_status : JMth := (yX4_status, cX4_status, 2, (some .int), 6, 180)
def mX4_angerBy : JMth := (yX4_angerBy, cX4_angerBy, 5, (some .int), 4, 120)
def mX4_prideBy : JMth := (yX4_prideBy, cX4_prideBy, 5, (some .int), 4, 120)
def mX4_kept : JMth := (yX4_kept, cX4_kept, 1, (some .int), 4, 120)
def mX4_begin : JMth := (yX4_begin, cX4_begin, 1, none, 4, 120)
def mX4_hear : JMth := (yX4_hear, cX4_hear, 3, none, 6, 180)
def mX4_giveBack : JMth := (yX4_giveBack, cX4_giveBack, 1, none, 4, 120)
def mX4_jar : JMth := (yX4_jar, cX4_jar, 3, (some .int), 6, 180)
def mX4_mood : JMth := (yX4_mood, cX4_mood, 3, (some .int), 6, 180)
def mX4_bound : JMth := (yX4_bound, cX4_bound, 3, (some .int), 6, 180)
def mX4_vow : JMth := (yX4_vow, cX4_vow, 4, (some .int), 6, 180)
def mX4_type : JMth := (yX4_type, cX4_type, 2, (some .int), 6, 180)
def mX4_clear : JMth := (yX4_clear, cX4_clear, 2, (some .int), 4, 120)
def mX4_here : JMth := (yX4_here, cX4_here, 1, (some .int), 4, 120)
def mX4_wrong : JMth := (yX4_wrong, cX4_wrong, 1, none, 4, 120)
def mX4_takeNumber : JMth := (yX4_takeNumber, cX4_takeNumber, 5, (some .int), 6, 180)
def mX4_takeWord : JMth := (yX4_takeWord, cX4_takeWord, 3, (some .int), 6, 180)
def mX4_wordOf : JMth := (yX4_wordOf, cX4_wordOf, 6, (some .int), 4, 120)
def mX4_takeMood : JMth := (yX4_takeMood, cX4_takeMood, 3, none, 8, 240)
def mX4_takeBound : JMth := (yX4_takeBound, cX4_takeBound, 3, none, 8, 240)
def mX4_takeVow : JMth := (yX4_takeVow, cX4_takeVow, 3, none, 8, 240)
def mX4_takeSay : JMth := (yX4_takeSay, cX4_takeSay, 2, none, 8, 240)
def mX4_takeItem : JMth := (yX4_takeItem, cX4_takeItem, 5, none, 10, 300)
def mX4_read : JMth := (yX4_read, cX4_read, 3, (some .int), 12, 360)
def mX4_remember : JMth := (yX4_remember, cX4_remember, 2, none, 4, 120)
def mX4_say : JMth := (yX4_say, cX4_say, 2, (some .int), 8, 240)
def mX4_open : JMth := (yX4_open, cX4_open, 2, (some .int), 6, 180)
def mX4_undo : JMth := (yX4_undo, cX4_undo, 3, (some .int), 6, 180)
def mX4_now : JMth := (yX4_now, cX4_now, 2, (some .int), 6, 180)
def mX4_moves : JMth := (yX4_moves, cX4_moves, 3, (some .int), 6, 180)
def mX4_takeRow : JMth := (yX4_takeRow, cX4_takeRow, 6, (some .boolean), 6, 180)
def mX4_words : JMth := (yX4_words, cX4_words, 4, (some .int), 8, 240)
def mX4_placeOf : JMth := (yX4_placeOf, cX4_placeOf, 3, (some .int), 4, 120)
def mX4_standAt : JMth := (yX4_standAt, cX4_standAt, 2, none, 4, 120)
def mX4_findFar : JMth := (yX4_findFar, cX4_findFar, 5, none, 8, 240)
def mX4_walkIn : JMth := (yX4_walkIn, cX4_walkIn, 8, none, 8, 240)
def mX4_fewest : JMth := (yX4_fewest, cX4_fewest, 3, (some .int), 10, 300)
def mX4_isSaid : JMth := (yX4_isSaid, cX4_isSaid, 2, (some .boolean), 4, 120)
def mX4_canStay : JMth := (yX4_canStay, cX4_canStay, 6, (some .boolean), 8, 240)
def mX4_findStays : JMth := (yX4_findStays, cX4_findStays, 4, none, 10, 300)
def mX4_longestStay : JMth := (yX4_longestStay, cX4_longestStay, 4, (some .int), 6, 180)
def mX4_walkOut : JMth := (yX4_walkOut, cX4_walkOut, 9, none, 8, 240)
def mX4_delay : JMth := (yX4_delay, cX4_delay, 4, (some .int), 12, 360)
def mX4_strikes : JMth := (yX4_strikes, cX4_strikes, 3, (some .int), 8, 240)
def mX4_since : JMth := (yX4_since, cX4_since, 4, (some .int), 6, 180)
def mX4_cast : JMth := (yX4_cast, cX4_cast, 3, (some .int), 6, 180)
def mX4_common : JMth := (yX4_common, cX4_common, 10, (some .long), 4, 120)
def mX4_fraction : JMth := (yX4_fraction, cX4_fraction, 7, none, 6, 180)
def mX4_reward : JMth := (yX4_reward, cX4_reward, 4, (some .int), 8, 240)
def mX4_note : JMth := (yX4_note, cX4_note, 6, (some .int), 6, 180)
def mX4_forget : JMth := (yX4_forget, cX4_forget, 2, (some .int), 4, 120)
def mX4_kindsThatFit : JMth := (yX4_kindsThatFit, cX4_kindsThatFit, 6, (some .int), 6, 180)
def mX4_is : JMth := (yX4_is, cX4_is, 1, (some .int), 8, 240)
def mX4_greatestPart : JMth := (yX4_greatestPart, cX4_greatestPart, 9, (some .int), 6, 180)
def mX4_next : JMth := (yX4_next, cX4_next, 4, (some .int), 8, 240)
def mX4_gain : JMth := (yX4_gain, cX4_gain, 3, (some .int), 8, 240)
def mX4_lie : JMth := (yX4_lie, cX4_lie, 8, (some .int), 10, 300)
def mX4_odds : JMth := (yX4_odds, cX4_odds, 12, (some .int), 8, 240)
def mX4_jars : JMth := (yX4_jars, cX4_jars, 8, (some .int), 8, 240)
def mX4_part : JMth := (yX4_part, cX4_part, 2, (some .long), 6, 180)
def mX4_image : JMth := (yX4_image, cX4_image, 3, (some .int), 6, 180)
def mX4_from : JMth := (yX4_from, cX4_from, 3, (some .int), 6, 180)
def mX4_countOf : JMth := (yX4_countOf, cX4_countOf, 2, (some .int), 4, 120)
def mX4_count : JMth := (yX4_count, cX4_count, 2, (some .int), 6, 180)
def mX4_digest : JMth := (yX4_digest, cX4_digest, 4, (some .long), 6, 180)
def mX0_init : JMth := (yX0_init, cX0_init, 1, none, 4, 120)
def mX0_begin : JMth := (yX0_begin, cX0_begin, 2, none, 6, 180)
def mX0_take : JMth := (yX0_take, cX0_take, 2, none, 4, 120)
def mX0_feel : JMth := (yX0_feel, cX0_feel, 3, none, 6, 180)
def mX0_hear : JMth := (yX0_hear, cX0_hear, 6, (some .int), 8, 240)
def mX0_judge : JMth := (yX0_judge, cX0_judge, 5, (some .int), 6, 180)
def mX0_listen : JMth := (yX0_listen, cX0_listen, 2, none, 10, 300)
def mX0_remember : JMth := (yX0_remember, cX0_remember, 1, none, 6, 180)
def mX0_goBack : JMth := (yX0_goBack, cX0_goBack, 1, none, 6, 180)
def mX0_addNote : JMth := (yX0_addNote, cX0_addNote, 6, none, 6, 180)
def mX0_notesFit : JMth := (yX0_notesFit, cX0_notesFit, 7, (some .boolean), 8, 240)
def mX1_init : JMth := (yX1_init, cX1_init, 1, none, 4, 120)
def mX1_byteAt : JMth := (yX1_byteAt, cX1_byteAt, 2, (some .int), 4, 120)
def mX1_isLetter : JMth := (yX1_isLetter, cX1_isLetter, 1, (some .boolean), 4, 120)
def mX1_isFigure : JMth := (yX1_isFigure, cX1_isFigure, 1, (some .boolean), 4, 120)
def mX1_advance : JMth := (yX1_advance, cX1_advance, 2, none, 8, 240)
def mX1_passLetters : JMth := (yX1_passLetters, cX1_passLetters, 1, none, 6, 180)
def mX1_passFigures : JMth := (yX1_passFigures, cX1_passFigures, 2, none, 6, 180)
def mX1_spells : JMth := (yX1_spells, cX1_spells, 3, (some .boolean), 14, 420)
def mX1_numberComes : JMth := (yX1_numberComes, cX1_numberComes, 3, (some .boolean), 10, 300)
def mX2_init : JMth := (yX2_init, cX2_init, 1, none, 4, 120)
def mX2_spell : JMth := (yX2_spell, cX2_spell, 7, (some .int), 8, 240)
def mX2_shortestIn : JMth := (yX2_shortestIn, cX2_shortestIn, 4, (some .int), 38, 1140)
def mX2_longestOut : JMth := (yX2_longestOut, cX2_longestOut, 4, (some .int), 38, 1140)
def mX2_seek : JMth := (yX2_seek, cX2_seek, 5, none, 8, 240)
def mX2_reaches (d : Nat) : JMth := (yX2_reaches, cX2_reaches, 10, (some .boolean), 2 * (4 + d) + 2, 60 * (4 + d) + 60)
def mX2_isHopeless : JMth := (yX2_isHopeless, cX2_isHopeless, 4, (some .boolean), 6, 180)
def mX2_weighIn : JMth := (yX2_weighIn, cX2_weighIn, 4, (some .long), 30, 900)
def mX2_weigh (d : Nat) : JMth := (yX2_weigh, cX2_weigh, 5, (some .long), 2 * (4 + d) + 2, 60 * (4 + d) + 60)
def mJ0_length_8abf5 : JMth := (yJ0_length_8abf5, cJ0_length_8abf5, 1, (some .int), 6, 180)
def mJ0_charAt_5068e : JMth := (yJ0_charAt_5068e, cJ0_charAt_5068e, 2, (some .char), 12, 360)
def mJ0_coder_7d493 : JMth := (yJ0_coder_7d493, cJ0_coder_7d493, 1, (some .byte), 4, 120)
def mJ0_isLatin1_aae02 : JMth := (yJ0_isLatin1_aae02, cJ0_isLatin1_aae02, 1, (some .boolean), 4, 120)
def mJ0_checkIndex_df160 : JMth := (yJ0_checkIndex_df160, cJ0_checkIndex_df160, 2, none, 6, 180)
def mJ1_charAt_3b067 : JMth := (yJ1_charAt_3b067, cJ1_charAt_3b067, 2, (some .char), 10, 300)
def mJ7_fill_53178 : JMth := (yJ7_fill_53178, cJ7_fill_53178, 4, none, 4, 120)
def mJ3_checkIndex_8e157 : JMth := (yJ3_checkIndex_8e157, cJ3_checkIndex_8e157, 3, (some .int), 4, 120)
set_option maxRecDepth 20000 in
theorem lay_0 : ∀ w ∈ u_ws RX0 TX0 12, w ∈ BIGW := by
  intro w hw
  simp only [u_ws, List.mem_map, List.mem_range] at hw
  obtain ⟨k, hk, rfl⟩ := hw
  match k, hk with
  | 0, _ => exact big_t 53 (by decide +kernel) (by decide +kernel)
  | 1, _ => exact big_t 55 (by decide +kernel) (by decide +kernel)
  | 2, _ => exact big_t 57 (by decide +kernel) (by decide +kernel)
  | 3, _ => exact big_t 59 (by decide +kernel) (by decide +kernel)
  | 4, _ => exact big_t 61 (by decide +kernel) (by decide +kernel)
  | 5, _ => exact big_t 63 (by decide +kernel) (by decide +kernel)
  | 6, _ => exact big_t 65 (by decide +kernel) (by decide +kernel)
  | 7, _ => exact big_t 67 (by decide +kernel) (by decide +kernel)
  | 8, _ => exact big_t 69 (by decide +kernel) (by decide +kernel)
  | 9, _ => exact big_t 71 (by decide +kernel) (by decide +kernel)
  | 10, _ => exact big_t 73 (by decide +kernel) (by decide +kernel)
  | 11, _ => exact big_t 75 (by decide +kernel) (by decide +kernel)
  | k + 12, hk => exact absurd hk (by omega)
set_option maxRecDepth 20000 in
theorem lay_1 : ∀ w ∈ u_ws RX1 TX1 6, w ∈ BIGW := by
  intro w hw
  simp only [u_ws, List.mem_map, List.mem_range] at hw
  obtain ⟨k, hk, rfl⟩ := hw
  match k, hk with
  | 0, _ => exact big_t 97 (by decide +kernel) (by decide +kernel)
  | 1, _ => exact big_t 99 (by decide +kernel) (by decide +kernel)
  | 2, _ => exact big_t 101 (by decide +kernel) (by decide +kernel)
  | 3, _ => exact big_t 103 (by decide +kernel) (by decide +kernel)
  | 4, _ => exact big_t 105 (by decide +kernel) (by decide +kernel)
  | 5, _ => exact big_t 107 (by decide +kernel) (by decide +kernel)
  | k + 6, hk => exact absurd hk (by omega)
set_option maxRecDepth 20000 in
theorem lay_2 : ∀ w ∈ u_ws RX2 TX2 9, w ∈ BIGW := by
  intro w hw
  simp only [u_ws, List.mem_map, List.mem_range] at hw
  obtain ⟨k, hk, rfl⟩ := hw
  match k, hk with
  | 0, _ => exact big_t 126 (by decide +kernel) (by decide +kernel)
  | 1, _ => exact big_t 128 (by decide +kernel) (by decide +kernel)
  | 2, _ => exact big_t 130 (by decide +kernel) (by decide +kernel)
  | 3, _ => exact big_t 132 (by decide +kernel) (by decide +kernel)
  | 4, _ => exact big_t 134 (by decide +kernel) (by decide +kernel)
  | 5, _ => exact big_t 136 (by decide +kernel) (by decide +kernel)
  | 6, _ => exact big_t 138 (by decide +kernel) (by decide +kernel)
  | 7, _ => exact big_t 140 (by decide +kernel) (by decide +kernel)
  | 8, _ => exact big_t 142 (by decide +kernel) (by decide +kernel)
  | k + 9, hk => exact absurd hk (by omega)
set_option maxRecDepth 20000 in
theorem lay_3 : ∀ w ∈ u_ws RX3 TX3 11, w ∈ BIGW := by
  intro w hw
  simp only [u_ws, List.mem_map, List.mem_range] at hw
  obtain ⟨k, hk, rfl⟩ := hw
  match k, hk with
  | 0, _ => exact big_t 168 (by decide +kernel) (by decide +kernel)
  | 1, _ => exact big_t 170 (by decide +kernel) (by decide +kernel)
  | 2, _ => exact big_t 172 (by decide +kernel) (by decide +kernel)
  | 3, _ => exact big_t 174 (by decide +kernel) (by decide +kernel)
  | 4, _ => exact big_t 176 (by decide +kernel) (by decide +kernel)
  | 5, _ => exact big_t 178 (by decide +kernel) (by decide +kernel)
  | 6, _ => exact big_t 180 (by decide +kernel) (by decide +kernel)
  | 7, _ => exact big_t 182 (by decide +kernel) (by decide +kernel)
  | 8, _ => exact big_t 184 (by decide +kernel) (by decide +kernel)
  | 9, _ => exact big_t 186 (by decide +kernel) (by decide +kernel)
  | 10, _ => exact big_t 188 (by decide +kernel) (by decide +kernel)
  | k + 11, hk => exact absurd hk (by omega)
set_option maxRecDepth 20000 in
theorem lay_4 : ∀ w ∈ u_ws RX4 TX4 24, w ∈ BIGW := by
  intro w hw
  simp only [u_ws, List.mem_map, List.mem_range] at hw
  obtain ⟨k, hk, rfl⟩ := hw
  match k, hk with
  | 0, _ => exact big_t 639 (by decide +kernel) (by decide +kernel)
  | 1, _ => exact big_t 641 (by decide +kernel) (by decide +kernel)
  | 2, _ => exact big_t 643 (by decide +kernel) (by decide +kernel)
  | 3, _ => exact big_t 645 (by decide +kernel) (by decide +kernel)
  | 4, _ => exact big_t 647 (by decide +kernel) (by decide +kernel)
  | 5, _ => exact big_t 649 (by decide +kernel) (by decide +kernel)
  | 6, _ => exact big_t 651 (by decide +kernel) (by decide +kernel)
  | 7, _ => exact big_t 653 (by decide +kernel) (by decide +kernel)
  | 8, _ => exact big_t 655 (by decide +kernel) (by decide +kernel)
  | 9, _ => exact big_t 657 (by decide +kernel) (by decide +kernel)
  | 10, _ => exact big_t 659 (by decide +kernel) (by decide +kernel)
  | 11, _ => exact big_t 661 (by decide +kernel) (by decide +kernel)
  | 12, _ => exact big_t 663 (by decide +kernel) (by decide +kernel)
  | 13, _ => exact big_t 665 (by decide +kernel) (by decide +kernel)
  | 14, _ => exact big_t 667 (by decide +kernel) (by decide +kernel)
  | 15, _ => exact big_t 669 (by decide +kernel) (by decide +kernel)
  | 16, _ => exact big_t 671 (by decide +kernel) (by decide +kernel)
  | 17, _ => exact big_t 673 (by decide +kernel) (by decide +kernel)
  | 18, _ => exact big_t 675 (by decide +kernel) (by decide +kernel)
  | 19, _ => exact big_t 677 (by decide +kernel) (by decide +kernel)
  | 20, _ => exact big_t 679 (by decide +kernel) (by decide +kernel)
  | 21, _ => exact big_t 681 (by decide +kernel) (by decide +kernel)
  | 22, _ => exact big_t 683 (by decide +kernel) (by decide +kernel)
  | 23, _ => exact big_t 685 (by decide +kernel) (by decide +kernel)
  | k + 24, hk => exact absurd hk (by omega)
theorem fF_X3_12 : j_F RX3 12 3 0 (.object "JarSpirit$Jar") true := ⟨RX3, TX3, 11, tyX3, rfl, by decide, lay_3, nmX3, tyX3_ok, (by decide +kernel), rfl, Or.inl (big_t 157 (by decide +kernel) (by decide +kernel))⟩
theorem fF_X3_16 : j_F RX3 16 3 1 (.object "JarSpirit$Jar") true := ⟨RX3, TX3, 11, tyX3, rfl, by decide, lay_3, nmX3, tyX3_ok, (by decide +kernel), rfl, Or.inl (big_t 158 (by decide +kernel) (by decide +kernel))⟩
theorem fF_X3_19 : j_F RX3 19 3 2 (.object "JarSpirit$Jar") true := ⟨RX3, TX3, 11, tyX3, rfl, by decide, lay_3, nmX3, tyX3_ok, (by decide +kernel), rfl, Or.inl (big_t 159 (by decide +kernel) (by decide +kernel))⟩
theorem fF_X3_22 : j_F RX3 22 3 3 (.object "JarSpirit$Jar") true := ⟨RX3, TX3, 11, tyX3, rfl, by decide, lay_3, nmX3, tyX3_ok, (by decide +kernel), rfl, Or.inl (big_t 160 (by decide +kernel) (by decide +kernel))⟩
theorem fF_X3_28 : j_F RX3 28 3 4 (.object "JarSpirit$Scroll") true := ⟨RX3, TX3, 11, tyX3, rfl, by decide, lay_3, nmX3, tyX3_ok, (by decide +kernel), rfl, Or.inl (big_t 161 (by decide +kernel) (by decide +kernel))⟩
theorem fF_X3_35 : j_F RX3 35 3 5 (.object "JarSpirit$Talk") true := ⟨RX3, TX3, 11, tyX3, rfl, by decide, lay_3, nmX3, tyX3_ok, (by decide +kernel), rfl, Or.inl (big_t 162 (by decide +kernel) (by decide +kernel))⟩
theorem fF_X3_39 : j_F RX3 39 3 6 .long false := ⟨RX3, TX3, 11, tyX3, rfl, by decide, lay_3, nmX3, tyX3_ok, (by decide +kernel), rfl, Or.inl (big_t 163 (by decide +kernel) (by decide +kernel))⟩
theorem fF_X3_43 : j_F RX3 43 3 7 .long false := ⟨RX3, TX3, 11, tyX3, rfl, by decide, lay_3, nmX3, tyX3_ok, (by decide +kernel), rfl, Or.inl (big_t 164 (by decide +kernel) (by decide +kernel))⟩
theorem fF_X3_46 : j_F RX3 46 3 8 .int false := ⟨RX3, TX3, 11, tyX3, rfl, by decide, lay_3, nmX3, tyX3_ok, (by decide +kernel), rfl, Or.inl (big_t 165 (by decide +kernel) (by decide +kernel))⟩
theorem fF_X3_50 : j_F RX3 50 3 9 .int false := ⟨RX3, TX3, 11, tyX3, rfl, by decide, lay_3, nmX3, tyX3_ok, (by decide +kernel), rfl, Or.inl (big_t 166 (by decide +kernel) (by decide +kernel))⟩
theorem fF_X3_53 : j_F RX3 53 3 10 .int false := ⟨RX3, TX3, 11, tyX3, rfl, by decide, lay_3, nmX3, tyX3_ok, (by decide +kernel), rfl, Or.inl (big_t 167 (by decide +kernel) (by decide +kernel))⟩
theorem fF_X3_68 : j_F RX3 68 0 4 .int false := ⟨RX0, TX0, 12, tyX0, rfl, by decide, lay_0, nmX0, tyX0_ok, (by decide +kernel), rfl, Or.inr ⟨"JarSpirit", nest_t 38 (by decide +kernel) (by decide +kernel)⟩⟩
theorem fF_X3_71 : j_F RX3 71 0 1 .int false := ⟨RX0, TX0, 12, tyX0, rfl, by decide, lay_0, nmX0, tyX0_ok, (by decide +kernel), rfl, Or.inr ⟨"JarSpirit", nest_t 31 (by decide +kernel) (by decide +kernel)⟩⟩
theorem fF_X3_78 : j_F RX3 78 0 3 .int false := ⟨RX0, TX0, 12, tyX0, rfl, by decide, lay_0, nmX0, tyX0_ok, (by decide +kernel), rfl, Or.inr ⟨"JarSpirit", nest_t 37 (by decide +kernel) (by decide +kernel)⟩⟩
theorem fF_X3_84 : j_F RX3 84 0 2 .int false := ⟨RX0, TX0, 12, tyX0, rfl, by decide, lay_0, nmX0, tyX0_ok, (by decide +kernel), rfl, Or.inr ⟨"JarSpirit", nest_t 33 (by decide +kernel) (by decide +kernel)⟩⟩
theorem fF_X3_87 : j_F RX3 87 0 8 (.array .int) true := ⟨RX0, TX0, 12, tyX0, rfl, by decide, lay_0, nmX0, tyX0_ok, (by decide +kernel), rfl, Or.inr ⟨"JarSpirit", nest_t 48 (by decide +kernel) (by decide +kernel)⟩⟩
theorem fF_X3_99 : j_F RX3 99 1 1 .int false := ⟨RX1, TX1, 6, tyX1, rfl, by decide, lay_1, nmX1, tyX1_ok, (by decide +kernel), rfl, Or.inr ⟨"JarSpirit", nest_t 88 (by decide +kernel) (by decide +kernel)⟩⟩
theorem fF_X3_102 : j_F RX3 102 1 0 (.array .int) true := ⟨RX1, TX1, 6, tyX1, rfl, by decide, lay_1, nmX1, tyX1_ok, (by decide +kernel), rfl, Or.inr ⟨"JarSpirit", nest_t 86 (by decide +kernel) (by decide +kernel)⟩⟩
theorem fF_X3_109 : j_F RX3 109 1 3 .int false := ⟨RX1, TX1, 6, tyX1, rfl, by decide, lay_1, nmX1, tyX1_ok, (by decide +kernel), rfl, Or.inr ⟨"JarSpirit", nest_t 92 (by decide +kernel) (by decide +kernel)⟩⟩
theorem fF_X3_135 : j_F RX3 135 0 6 .int false := ⟨RX0, TX0, 12, tyX0, rfl, by decide, lay_0, nmX0, tyX0_ok, (by decide +kernel), rfl, Or.inr ⟨"JarSpirit", nest_t 44 (by decide +kernel) (by decide +kernel)⟩⟩
theorem fF_X3_141 : j_F RX3 141 0 0 .int false := ⟨RX0, TX0, 12, tyX0, rfl, by decide, lay_0, nmX0, tyX0_ok, (by decide +kernel), rfl, Or.inr ⟨"JarSpirit", nest_t 29 (by decide +kernel) (by decide +kernel)⟩⟩
theorem fF_X3_157 : j_F RX3 157 2 0 (.array .int) true := ⟨RX2, TX2, 9, tyX2, rfl, by decide, lay_2, nmX2, tyX2_ok, (by decide +kernel), rfl, Or.inr ⟨"JarSpirit", nest_t 117 (by decide +kernel) (by decide +kernel)⟩⟩
theorem fF_X3_178 : j_F RX3 178 0 5 .int false := ⟨RX0, TX0, 12, tyX0, rfl, by decide, lay_0, nmX0, tyX0_ok, (by decide +kernel), rfl, Or.inr ⟨"JarSpirit", nest_t 42 (by decide +kernel) (by decide +kernel)⟩⟩
theorem fF_X3_221 : j_F RX3 221 0 7 .boolean false := ⟨RX0, TX0, 12, tyX0, rfl, by decide, lay_0, nmX0, tyX0_ok, (by decide +kernel), rfl, Or.inr ⟨"JarSpirit", nest_t 46 (by decide +kernel) (by decide +kernel)⟩⟩
theorem fF_X3_235 : j_F RX3 235 0 9 (.array .int) true := ⟨RX0, TX0, 12, tyX0, rfl, by decide, lay_0, nmX0, tyX0_ok, (by decide +kernel), rfl, Or.inr ⟨"JarSpirit", nest_t 50 (by decide +kernel) (by decide +kernel)⟩⟩
theorem fF_X3_269 : j_F RX3 269 1 2 .int false := ⟨RX1, TX1, 6, tyX1, rfl, by decide, lay_1, nmX1, tyX1_ok, (by decide +kernel), rfl, Or.inr ⟨"JarSpirit", nest_t 90 (by decide +kernel) (by decide +kernel)⟩⟩
theorem fF_X3_275 : j_F RX3 275 1 4 .int false := ⟨RX1, TX1, 6, tyX1, rfl, by decide, lay_1, nmX1, tyX1_ok, (by decide +kernel), rfl, Or.inr ⟨"JarSpirit", nest_t 94 (by decide +kernel) (by decide +kernel)⟩⟩
theorem fF_X3_294 : j_F RX3 294 1 5 .int false := ⟨RX1, TX1, 6, tyX1, rfl, by decide, lay_1, nmX1, tyX1_ok, (by decide +kernel), rfl, Or.inr ⟨"JarSpirit", nest_t 96 (by decide +kernel) (by decide +kernel)⟩⟩
theorem fF_X0_9 : j_F RX0 9 0 7 .boolean false := ⟨RX0, TX0, 12, tyX0, rfl, by decide, lay_0, nmX0, tyX0_ok, (by decide +kernel), rfl, Or.inl (big_t 45 (by decide +kernel) (by decide +kernel))⟩
theorem fF_X0_15 : j_F RX0 15 0 8 (.array .int) true := ⟨RX0, TX0, 12, tyX0, rfl, by decide, lay_0, nmX0, tyX0_ok, (by decide +kernel), rfl, Or.inl (big_t 47 (by decide +kernel) (by decide +kernel))⟩
theorem fF_X0_19 : j_F RX0 19 0 9 (.array .int) true := ⟨RX0, TX0, 12, tyX0, rfl, by decide, lay_0, nmX0, tyX0_ok, (by decide +kernel), rfl, Or.inl (big_t 49 (by decide +kernel) (by decide +kernel))⟩
theorem fF_X0_22 : j_F RX0 22 0 10 (.array .int) true := ⟨RX0, TX0, 12, tyX0, rfl, by decide, lay_0, nmX0, tyX0_ok, (by decide +kernel), rfl, Or.inl (big_t 51 (by decide +kernel) (by decide +kernel))⟩
theorem fF_X0_25 : j_F RX0 25 0 11 (.array .int) true := ⟨RX0, TX0, 12, tyX0, rfl, by decide, lay_0, nmX0, tyX0_ok, (by decide +kernel), rfl, Or.inl (big_t 52 (by decide +kernel) (by decide +kernel))⟩
theorem fF_X0_28 : j_F RX0 28 0 0 .int false := ⟨RX0, TX0, 12, tyX0, rfl, by decide, lay_0, nmX0, tyX0_ok, (by decide +kernel), rfl, Or.inl (big_t 27 (by decide +kernel) (by decide +kernel))⟩
theorem fF_X0_32 : j_F RX0 32 0 1 .int false := ⟨RX0, TX0, 12, tyX0, rfl, by decide, lay_0, nmX0, tyX0_ok, (by decide +kernel), rfl, Or.inl (big_t 30 (by decide +kernel) (by decide +kernel))⟩
theorem fF_X0_35 : j_F RX0 35 0 2 .int false := ⟨RX0, TX0, 12, tyX0, rfl, by decide, lay_0, nmX0, tyX0_ok, (by decide +kernel), rfl, Or.inl (big_t 32 (by decide +kernel) (by decide +kernel))⟩
theorem fF_X0_42 : j_F RX0 42 0 3 .int false := ⟨RX0, TX0, 12, tyX0, rfl, by decide, lay_0, nmX0, tyX0_ok, (by decide +kernel), rfl, Or.inl (big_t 35 (by decide +kernel) (by decide +kernel))⟩
theorem fF_X0_44 : j_F RX0 44 0 4 .int false := ⟨RX0, TX0, 12, tyX0, rfl, by decide, lay_0, nmX0, tyX0_ok, (by decide +kernel), rfl, Or.inl (big_t 39 (by decide +kernel) (by decide +kernel))⟩
theorem fF_X0_47 : j_F RX0 47 0 5 .int false := ⟨RX0, TX0, 12, tyX0, rfl, by decide, lay_0, nmX0, tyX0_ok, (by decide +kernel), rfl, Or.inl (big_t 41 (by decide +kernel) (by decide +kernel))⟩
theorem fF_X0_50 : j_F RX0 50 0 6 .int false := ⟨RX0, TX0, 12, tyX0, rfl, by decide, lay_0, nmX0, tyX0_ok, (by decide +kernel), rfl, Or.inl (big_t 43 (by decide +kernel) (by decide +kernel))⟩
theorem fF_X1_9 : j_F RX1 9 1 0 (.array .int) true := ⟨RX1, TX1, 6, tyX1, rfl, by decide, lay_1, nmX1, tyX1_ok, (by decide +kernel), rfl, Or.inl (big_t 85 (by decide +kernel) (by decide +kernel))⟩
theorem fF_X1_15 : j_F RX1 15 1 1 .int false := ⟨RX1, TX1, 6, tyX1, rfl, by decide, lay_1, nmX1, tyX1_ok, (by decide +kernel), rfl, Or.inl (big_t 87 (by decide +kernel) (by decide +kernel))⟩
theorem fF_X1_19 : j_F RX1 19 1 2 .int false := ⟨RX1, TX1, 6, tyX1, rfl, by decide, lay_1, nmX1, tyX1_ok, (by decide +kernel), rfl, Or.inl (big_t 89 (by decide +kernel) (by decide +kernel))⟩
theorem fF_X1_22 : j_F RX1 22 1 3 .int false := ⟨RX1, TX1, 6, tyX1, rfl, by decide, lay_1, nmX1, tyX1_ok, (by decide +kernel), rfl, Or.inl (big_t 91 (by decide +kernel) (by decide +kernel))⟩
theorem fF_X1_25 : j_F RX1 25 1 4 .int false := ⟨RX1, TX1, 6, tyX1, rfl, by decide, lay_1, nmX1, tyX1_ok, (by decide +kernel), rfl, Or.inl (big_t 93 (by decide +kernel) (by decide +kernel))⟩
theorem fF_X1_28 : j_F RX1 28 1 5 .int false := ⟨RX1, TX1, 6, tyX1, rfl, by decide, lay_1, nmX1, tyX1_ok, (by decide +kernel), rfl, Or.inl (big_t 95 (by decide +kernel) (by decide +kernel))⟩
theorem fF_X2_9 : j_F RX2 9 2 0 (.array .int) true := ⟨RX2, TX2, 9, tyX2, rfl, by decide, lay_2, nmX2, tyX2_ok, (by decide +kernel), rfl, Or.inl (big_t 116 (by decide +kernel) (by decide +kernel))⟩
theorem fF_X2_15 : j_F RX2 15 2 1 (.array .int) true := ⟨RX2, TX2, 9, tyX2, rfl, by decide, lay_2, nmX2, tyX2_ok, (by decide +kernel), rfl, Or.inl (big_t 118 (by decide +kernel) (by decide +kernel))⟩
theorem fF_X2_18 : j_F RX2 18 2 2 (.object "JarSpirit$Jar") false := ⟨RX2, TX2, 9, tyX2, rfl, by decide, lay_2, nmX2, tyX2_ok, (by decide +kernel), rfl, Or.inl (big_t 119 (by decide +kernel) (by decide +kernel))⟩
theorem fF_X2_34 : j_F RX2 34 0 3 .int false := ⟨RX0, TX0, 12, tyX0, rfl, by decide, lay_0, nmX0, tyX0_ok, (by decide +kernel), rfl, Or.inr ⟨"JarSpirit", nest_t 36 (by decide +kernel) (by decide +kernel)⟩⟩
theorem fF_X2_48 : j_F RX2 48 0 4 .int false := ⟨RX0, TX0, 12, tyX0, rfl, by decide, lay_0, nmX0, tyX0_ok, (by decide +kernel), rfl, Or.inr ⟨"JarSpirit", nest_t 40 (by decide +kernel) (by decide +kernel)⟩⟩
theorem fF_X2_55 : j_F RX2 55 2 3 .int false := ⟨RX2, TX2, 9, tyX2, rfl, by decide, lay_2, nmX2, tyX2_ok, (by decide +kernel), rfl, Or.inl (big_t 120 (by decide +kernel) (by decide +kernel))⟩
theorem fF_X2_58 : j_F RX2 58 2 4 .boolean false := ⟨RX2, TX2, 9, tyX2, rfl, by decide, lay_2, nmX2, tyX2_ok, (by decide +kernel), rfl, Or.inl (big_t 121 (by decide +kernel) (by decide +kernel))⟩
theorem fF_X2_68 : j_F RX2 68 0 0 .int false := ⟨RX0, TX0, 12, tyX0, rfl, by decide, lay_0, nmX0, tyX0_ok, (by decide +kernel), rfl, Or.inr ⟨"JarSpirit", nest_t 28 (by decide +kernel) (by decide +kernel)⟩⟩
theorem fF_X2_75 : j_F RX2 75 2 6 .int false := ⟨RX2, TX2, 9, tyX2, rfl, by decide, lay_2, nmX2, tyX2_ok, (by decide +kernel), rfl, Or.inl (big_t 123 (by decide +kernel) (by decide +kernel))⟩
theorem fF_X2_78 : j_F RX2 78 2 5 .int false := ⟨RX2, TX2, 9, tyX2, rfl, by decide, lay_2, nmX2, tyX2_ok, (by decide +kernel), rfl, Or.inl (big_t 122 (by decide +kernel) (by decide +kernel))⟩
theorem fF_X2_101 : j_F RX2 101 0 2 .int false := ⟨RX0, TX0, 12, tyX0, rfl, by decide, lay_0, nmX0, tyX0_ok, (by decide +kernel), rfl, Or.inr ⟨"JarSpirit", nest_t 34 (by decide +kernel) (by decide +kernel)⟩⟩
theorem fF_X2_104 : j_F RX2 104 2 7 .int false := ⟨RX2, TX2, 9, tyX2, rfl, by decide, lay_2, nmX2, tyX2_ok, (by decide +kernel), rfl, Or.inl (big_t 124 (by decide +kernel) (by decide +kernel))⟩
theorem fF_X2_107 : j_F RX2 107 2 8 .int false := ⟨RX2, TX2, 9, tyX2, rfl, by decide, lay_2, nmX2, tyX2_ok, (by decide +kernel), rfl, Or.inl (big_t 125 (by decide +kernel) (by decide +kernel))⟩
theorem fF_X4_7 : j_F RX4 7 4 0 (.array .int) true := ⟨RX4, TX4, 24, tyX4, rfl, by decide, lay_4, nmX4, tyX4_ok, (by decide +kernel), rfl, Or.inl (big_t 615 (by decide +kernel) (by decide +kernel))⟩
theorem fF_X4_13 : j_F RX4 13 4 1 (.array .int) true := ⟨RX4, TX4, 24, tyX4, rfl, by decide, lay_4, nmX4, tyX4_ok, (by decide +kernel), rfl, Or.inl (big_t 616 (by decide +kernel) (by decide +kernel))⟩
theorem fF_X4_16 : j_F RX4 16 4 2 (.array .int) true := ⟨RX4, TX4, 24, tyX4, rfl, by decide, lay_4, nmX4, tyX4_ok, (by decide +kernel), rfl, Or.inl (big_t 617 (by decide +kernel) (by decide +kernel))⟩
theorem fF_X4_19 : j_F RX4 19 4 3 (.array .int) true := ⟨RX4, TX4, 24, tyX4, rfl, by decide, lay_4, nmX4, tyX4_ok, (by decide +kernel), rfl, Or.inl (big_t 618 (by decide +kernel) (by decide +kernel))⟩
theorem fF_X4_22 : j_F RX4 22 4 8 (.array .int) true := ⟨RX4, TX4, 24, tyX4, rfl, by decide, lay_4, nmX4, tyX4_ok, (by decide +kernel), rfl, Or.inl (big_t 623 (by decide +kernel) (by decide +kernel))⟩
theorem fF_X4_25 : j_F RX4 25 4 14 (.array .int) true := ⟨RX4, TX4, 24, tyX4, rfl, by decide, lay_4, nmX4, tyX4_ok, (by decide +kernel), rfl, Or.inl (big_t 629 (by decide +kernel) (by decide +kernel))⟩
theorem fF_X4_28 : j_F RX4 28 4 15 (.array .int) true := ⟨RX4, TX4, 24, tyX4, rfl, by decide, lay_4, nmX4, tyX4_ok, (by decide +kernel), rfl, Or.inl (big_t 630 (by decide +kernel) (by decide +kernel))⟩
theorem fF_X4_31 : j_F RX4 31 4 17 (.array .int) true := ⟨RX4, TX4, 24, tyX4, rfl, by decide, lay_4, nmX4, tyX4_ok, (by decide +kernel), rfl, Or.inl (big_t 632 (by decide +kernel) (by decide +kernel))⟩
theorem fF_X4_35 : j_F RX4 35 4 18 (.array .boolean) true := ⟨RX4, TX4, 24, tyX4, rfl, by decide, lay_4, nmX4, tyX4_ok, (by decide +kernel), rfl, Or.inl (big_t 633 (by decide +kernel) (by decide +kernel))⟩
theorem fF_X4_39 : j_F RX4 39 4 19 (.array .int) true := ⟨RX4, TX4, 24, tyX4, rfl, by decide, lay_4, nmX4, tyX4_ok, (by decide +kernel), rfl, Or.inl (big_t 634 (by decide +kernel) (by decide +kernel))⟩
theorem fF_X4_42 : j_F RX4 42 4 21 .long false := ⟨RX4, TX4, 24, tyX4, rfl, by decide, lay_4, nmX4, tyX4_ok, (by decide +kernel), rfl, Or.inl (big_t 636 (by decide +kernel) (by decide +kernel))⟩
theorem fF_X4_46 : j_F RX4 46 4 22 (.array .int) true := ⟨RX4, TX4, 24, tyX4, rfl, by decide, lay_4, nmX4, tyX4_ok, (by decide +kernel), rfl, Or.inl (big_t 637 (by decide +kernel) (by decide +kernel))⟩
theorem fF_X4_49 : j_F RX4 49 4 23 (.array .boolean) true := ⟨RX4, TX4, 24, tyX4, rfl, by decide, lay_4, nmX4, tyX4_ok, (by decide +kernel), rfl, Or.inl (big_t 638 (by decide +kernel) (by decide +kernel))⟩
theorem fF_X4_66 : j_F RX4 66 4 4 .int false := ⟨RX4, TX4, 24, tyX4, rfl, by decide, lay_4, nmX4, tyX4_ok, (by decide +kernel), rfl, Or.inl (big_t 619 (by decide +kernel) (by decide +kernel))⟩
theorem fF_X4_70 : j_F RX4 70 4 5 .int false := ⟨RX4, TX4, 24, tyX4, rfl, by decide, lay_4, nmX4, tyX4_ok, (by decide +kernel), rfl, Or.inl (big_t 620 (by decide +kernel) (by decide +kernel))⟩
theorem fF_X4_73 : j_F RX4 73 4 6 .int false := ⟨RX4, TX4, 24, tyX4, rfl, by decide, lay_4, nmX4, tyX4_ok, (by decide +kernel), rfl, Or.inl (big_t 621 (by decide +kernel) (by decide +kernel))⟩
theorem fF_X4_76 : j_F RX4 76 4 7 .int false := ⟨RX4, TX4, 24, tyX4, rfl, by decide, lay_4, nmX4, tyX4_ok, (by decide +kernel), rfl, Or.inl (big_t 622 (by decide +kernel) (by decide +kernel))⟩
theorem fF_X4_102 : j_F RX4 102 4 9 .int false := ⟨RX4, TX4, 24, tyX4, rfl, by decide, lay_4, nmX4, tyX4_ok, (by decide +kernel), rfl, Or.inl (big_t 624 (by decide +kernel) (by decide +kernel))⟩
theorem fF_X4_105 : j_F RX4 105 4 10 .int false := ⟨RX4, TX4, 24, tyX4, rfl, by decide, lay_4, nmX4, tyX4_ok, (by decide +kernel), rfl, Or.inl (big_t 625 (by decide +kernel) (by decide +kernel))⟩
theorem fF_X4_108 : j_F RX4 108 4 11 .int false := ⟨RX4, TX4, 24, tyX4, rfl, by decide, lay_4, nmX4, tyX4_ok, (by decide +kernel), rfl, Or.inl (big_t 626 (by decide +kernel) (by decide +kernel))⟩
theorem fF_X4_111 : j_F RX4 111 4 12 .int false := ⟨RX4, TX4, 24, tyX4, rfl, by decide, lay_4, nmX4, tyX4_ok, (by decide +kernel), rfl, Or.inl (big_t 627 (by decide +kernel) (by decide +kernel))⟩
theorem fF_X4_114 : j_F RX4 114 4 13 .int false := ⟨RX4, TX4, 24, tyX4, rfl, by decide, lay_4, nmX4, tyX4_ok, (by decide +kernel), rfl, Or.inl (big_t 628 (by decide +kernel) (by decide +kernel))⟩
theorem fF_X4_173 : j_F RX4 173 4 16 .int false := ⟨RX4, TX4, 24, tyX4, rfl, by decide, lay_4, nmX4, tyX4_ok, (by decide +kernel), rfl, Or.inl (big_t 631 (by decide +kernel) (by decide +kernel))⟩
theorem fF_X4_215 : j_F RX4 215 4 20 .long false := ⟨RX4, TX4, 24, tyX4, rfl, by decide, lay_4, nmX4, tyX4_ok, (by decide +kernel), rfl, Or.inl (big_t 635 (by decide +kernel) (by decide +kernel))⟩
theorem fK_X3_206 : Cond.constant RX3 206 (999999) ∈ BIGW := big_t 566 (by decide +kernel) (by decide +kernel)
theorem fK_X3_207 : Cond.constantLong RX3 207 (1103515245) ∈ BIGW := big_t 567 (by decide +kernel) (by decide +kernel)
theorem fK_X3_209 : Cond.constantLong RX3 209 (12345) ∈ BIGW := big_t 568 (by decide +kernel) (by decide +kernel)
theorem fK_X3_211 : Cond.constantLong RX3 211 (2147483648) ∈ BIGW := big_t 569 (by decide +kernel) (by decide +kernel)
theorem fK_X3_213 : Cond.constantLong RX3 213 (65536) ∈ BIGW := big_t 570 (by decide +kernel) (by decide +kernel)
theorem fK_X3_215 : Cond.constantLong RX3 215 (6) ∈ BIGW := big_t 571 (by decide +kernel) (by decide +kernel)
theorem fK_X3_225 : Cond.constantLong RX3 225 (1223) ∈ BIGW := big_t 600 (by decide +kernel) (by decide +kernel)
theorem fK_X3_227 : Cond.constantLong RX3 227 (31) ∈ BIGW := big_t 601 (by decide +kernel) (by decide +kernel)
theorem fK_X3_245 : Cond.constantLong RX3 245 (10) ∈ BIGW := big_t 441 (by decide +kernel) (by decide +kernel)
theorem fK_X4_34 : Cond.constant RX4 34 (260000) ∈ BIGW := big_t 610 (by decide +kernel) (by decide +kernel)
theorem fK_X4_56 : Cond.constantLong RX4 56 (2) ∈ BIGW := big_t 693 (by decide +kernel) (by decide +kernel)
theorem fK_X4_89 : Cond.constantLong RX4 89 (5) ∈ BIGW := big_t 705 (by decide +kernel) (by decide +kernel)
theorem fK_X4_94 : Cond.constantLong RX4 94 (99) ∈ BIGW := big_t 714 (by decide +kernel) (by decide +kernel)
theorem fK_X4_96 : Cond.constantLong RX4 96 (7) ∈ BIGW := big_t 723 (by decide +kernel) (by decide +kernel)
theorem fK_X4_98 : Cond.constantLong RX4 98 (4) ∈ BIGW := big_t 724 (by decide +kernel) (by decide +kernel)
theorem fK_X4_100 : Cond.constantLong RX4 100 (127) ∈ BIGW := big_t 729 (by decide +kernel) (by decide +kernel)
theorem fK_X4_121 : Cond.constantLong RX4 121 (48) ∈ BIGW := big_t 763 (by decide +kernel) (by decide +kernel)
theorem fK_X4_123 : Cond.constantLong RX4 123 (57) ∈ BIGW := big_t 764 (by decide +kernel) (by decide +kernel)
theorem fK_X4_128 : Cond.constantLong RX4 128 (97) ∈ BIGW := big_t 750 (by decide +kernel) (by decide +kernel)
theorem fK_X4_130 : Cond.constantLong RX4 130 (122) ∈ BIGW := big_t 751 (by decide +kernel) (by decide +kernel)
theorem fK_X4_171 : Cond.constantLong RX4 171 (6) ∈ BIGW := big_t 824 (by decide +kernel) (by decide +kernel)
theorem fK_X4_180 : Cond.constantLong RX4 180 (3) ∈ BIGW := big_t 837 (by decide +kernel) (by decide +kernel)
theorem fK_X4_222 : Cond.constantLong RX4 222 (-20) ∈ BIGW := big_t 907 (by decide +kernel) (by decide +kernel)
theorem fK_X4_224 : Cond.constantLong RX4 224 (20) ∈ BIGW := big_t 908 (by decide +kernel) (by decide +kernel)
theorem fK_X4_236 : Cond.constantLong RX4 236 (10) ∈ BIGW := big_t 941 (by decide +kernel) (by decide +kernel)
theorem fK_X4_238 : Cond.constantLong RX4 238 (999999) ∈ BIGW := big_t 946 (by decide +kernel) (by decide +kernel)
theorem fK_X4_240 : Cond.constantLong RX4 240 (60) ∈ BIGW := big_t 947 (by decide +kernel) (by decide +kernel)
theorem fK_X4_242 : Cond.constantLong RX4 242 (1103515245) ∈ BIGW := big_t 948 (by decide +kernel) (by decide +kernel)
theorem fK_X4_244 : Cond.constantLong RX4 244 (12345) ∈ BIGW := big_t 949 (by decide +kernel) (by decide +kernel)
theorem fK_X4_246 : Cond.constantLong RX4 246 (2147483648) ∈ BIGW := big_t 950 (by decide +kernel) (by decide +kernel)
theorem fK_X4_248 : Cond.constantLong RX4 248 (65536) ∈ BIGW := big_t 951 (by decide +kernel) (by decide +kernel)
theorem fK_X4_253 : Cond.constantLong RX4 253 (1223) ∈ BIGW := big_t 976 (by decide +kernel) (by decide +kernel)
theorem fK_X4_255 : Cond.constantLong RX4 255 (31) ∈ BIGW := big_t 977 (by decide +kernel) (by decide +kernel)
theorem fC_X3_56 : j_V RX3 56 mX0_begin 0 1 := ⟨⟨Or.inr ⟨"JarSpirit", nest_t 145 (by decide +kernel) (by decide +kernel)⟩, big_t 2 (by decide +kernel) (by decide +kernel), big_t 148 (by decide +kernel) (by decide +kernel), by decide +kernel, by decide +kernel, by decide +kernel⟩, big_t 147 (by decide +kernel) (by decide +kernel), big_s 0 (by decide +kernel) (by decide +kernel), TX0, 12, rfl⟩
theorem fC_X3_60 : j_S RX3 60 mX3_within 3 := ⟨⟨Or.inl (big_t 195 (by decide +kernel) (by decide +kernel)), big_t 1 (by decide +kernel) (by decide +kernel), big_t 197 (by decide +kernel) (by decide +kernel), by decide +kernel, by decide +kernel, by decide +kernel⟩, big_t 196 (by decide +kernel) (by decide +kernel)⟩
theorem fC_X3_64 : j_V RX3 64 mX3_refuse 3 1 := ⟨⟨Or.inl (big_t 198 (by decide +kernel) (by decide +kernel)), big_t 1 (by decide +kernel) (by decide +kernel), big_t 201 (by decide +kernel) (by decide +kernel), by decide +kernel, by decide +kernel, by decide +kernel⟩, big_t 200 (by decide +kernel) (by decide +kernel), big_s 1 (by decide +kernel) (by decide +kernel), TX3, 11, rfl⟩
theorem fC_X3_74 : j_V RX3 74 mX0_feel 0 2 := ⟨⟨Or.inr ⟨"JarSpirit", nest_t 206 (by decide +kernel) (by decide +kernel)⟩, big_t 2 (by decide +kernel) (by decide +kernel), big_t 209 (by decide +kernel) (by decide +kernel), by decide +kernel, by decide +kernel, by decide +kernel⟩, big_t 208 (by decide +kernel) (by decide +kernel), big_s 2 (by decide +kernel) (by decide +kernel), TX0, 12, rfl⟩
theorem fC_X3_81 : j_S RX3 81 mX3_angerOf 1 := ⟨⟨Or.inl (big_t 217 (by decide +kernel) (by decide +kernel)), big_t 1 (by decide +kernel) (by decide +kernel), big_t 219 (by decide +kernel) (by decide +kernel), by decide +kernel, by decide +kernel, by decide +kernel⟩, big_t 218 (by decide +kernel) (by decide +kernel)⟩
theorem fC_X3_91 : j_S RX3 91 mX3_at 2 := ⟨⟨Or.inl (big_t 224 (by decide +kernel) (by decide +kernel)), big_t 1 (by decide +kernel) (by decide +kernel), big_t 226 (by decide +kernel) (by decide +kernel), by decide +kernel, by decide +kernel, by decide +kernel⟩, big_t 225 (by decide +kernel) (by decide +kernel)⟩
theorem fC_X3_95 : j_S RX3 95 mX3_put 3 := ⟨⟨Or.inl (big_t 227 (by decide +kernel) (by decide +kernel)), big_t 1 (by decide +kernel) (by decide +kernel), big_t 229 (by decide +kernel) (by decide +kernel), by decide +kernel, by decide +kernel, by decide +kernel⟩, big_t 228 (by decide +kernel) (by decide +kernel)⟩
theorem fC_X3_105 : j_S RX3 105 mX3_readItems 2 := ⟨⟨Or.inl (big_t 242 (by decide +kernel) (by decide +kernel)), big_t 1 (by decide +kernel) (by decide +kernel), big_t 244 (by decide +kernel) (by decide +kernel), by decide +kernel, by decide +kernel, by decide +kernel⟩, big_t 243 (by decide +kernel) (by decide +kernel)⟩
theorem fC_X3_112 : j_V RX3 112 mX0_take 0 1 := ⟨⟨Or.inr ⟨"JarSpirit", nest_t 384 (by decide +kernel) (by decide +kernel)⟩, big_t 2 (by decide +kernel) (by decide +kernel), big_t 387 (by decide +kernel) (by decide +kernel), by decide +kernel, by decide +kernel, by decide +kernel⟩, big_t 386 (by decide +kernel) (by decide +kernel), big_s 12 (by decide +kernel) (by decide +kernel), TX0, 12, rfl⟩
theorem fC_X3_116 : j_S RX3 116 mX3_isWord 1 := ⟨⟨Or.inl (big_t 393 (by decide +kernel) (by decide +kernel)), big_t 1 (by decide +kernel) (by decide +kernel), big_t 395 (by decide +kernel) (by decide +kernel), by decide +kernel, by decide +kernel, by decide +kernel⟩, big_t 394 (by decide +kernel) (by decide +kernel)⟩
theorem fC_X3_120 : j_S RX3 120 mX3_beingOf 1 := ⟨⟨Or.inl (big_t 348 (by decide +kernel) (by decide +kernel)), big_t 1 (by decide +kernel) (by decide +kernel), big_t 212 (by decide +kernel) (by decide +kernel), by decide +kernel, by decide +kernel, by decide +kernel⟩, big_t 211 (by decide +kernel) (by decide +kernel)⟩
theorem fC_X3_123 : j_V RX3 123 mX0_remember 0 0 := ⟨⟨Or.inr ⟨"JarSpirit", nest_t 396 (by decide +kernel) (by decide +kernel)⟩, big_t 2 (by decide +kernel) (by decide +kernel), big_t 399 (by decide +kernel) (by decide +kernel), by decide +kernel, by decide +kernel, by decide +kernel⟩, big_t 398 (by decide +kernel) (by decide +kernel), big_s 13 (by decide +kernel) (by decide +kernel), TX0, 12, rfl⟩
theorem fC_X3_126 : j_V RX3 126 mX0_listen 0 1 := ⟨⟨Or.inr ⟨"JarSpirit", nest_t 349 (by decide +kernel) (by decide +kernel)⟩, big_t 2 (by decide +kernel) (by decide +kernel), big_t 352 (by decide +kernel) (by decide +kernel), by decide +kernel, by decide +kernel, by decide +kernel⟩, big_t 351 (by decide +kernel) (by decide +kernel), big_s 9 (by decide +kernel) (by decide +kernel), TX0, 12, rfl⟩
theorem fC_X3_129 : j_S RX3 129 mX3_prideOf 1 := ⟨⟨Or.inl (big_t 405 (by decide +kernel) (by decide +kernel)), big_t 1 (by decide +kernel) (by decide +kernel), big_t 374 (by decide +kernel) (by decide +kernel), by decide +kernel, by decide +kernel, by decide +kernel⟩, big_t 373 (by decide +kernel) (by decide +kernel)⟩
theorem fC_X3_132 : j_S RX3 132 mX3_mind 3 := ⟨⟨Or.inl (big_t 406 (by decide +kernel) (by decide +kernel)), big_t 1 (by decide +kernel) (by decide +kernel), big_t 151 (by decide +kernel) (by decide +kernel), by decide +kernel, by decide +kernel, by decide +kernel⟩, big_t 150 (by decide +kernel) (by decide +kernel)⟩
theorem fC_X3_138 : j_V RX3 138 mX0_goBack 0 0 := ⟨⟨Or.inr ⟨"JarSpirit", nest_t 411 (by decide +kernel) (by decide +kernel)⟩, big_t 2 (by decide +kernel) (by decide +kernel), big_t 414 (by decide +kernel) (by decide +kernel), by decide +kernel, by decide +kernel, by decide +kernel⟩, big_t 413 (by decide +kernel) (by decide +kernel), big_s 14 (by decide +kernel) (by decide +kernel), TX0, 12, rfl⟩
theorem fC_X3_144 : j_V RX3 144 mX3_refuseBad 3 1 := ⟨⟨Or.inl (big_t 424 (by decide +kernel) (by decide +kernel)), big_t 1 (by decide +kernel) (by decide +kernel), big_t 427 (by decide +kernel) (by decide +kernel), by decide +kernel, by decide +kernel, by decide +kernel⟩, big_t 426 (by decide +kernel) (by decide +kernel), big_s 15 (by decide +kernel) (by decide +kernel), TX3, 11, rfl⟩
theorem fC_X3_147 : j_S RX3 147 mX3_angerMove 3 := ⟨⟨Or.inl (big_t 428 (by decide +kernel) (by decide +kernel)), big_t 1 (by decide +kernel) (by decide +kernel), big_t 360 (by decide +kernel) (by decide +kernel), by decide +kernel, by decide +kernel, by decide +kernel⟩, big_t 359 (by decide +kernel) (by decide +kernel)⟩
theorem fC_X3_150 : j_S RX3 150 mX3_prideMove 3 := ⟨⟨Or.inl (big_t 429 (by decide +kernel) (by decide +kernel)), big_t 1 (by decide +kernel) (by decide +kernel), big_t 377 (by decide +kernel) (by decide +kernel), by decide +kernel, by decide +kernel, by decide +kernel⟩, big_t 376 (by decide +kernel) (by decide +kernel)⟩
theorem fC_X3_153 : j_V RX3 153 mX2_spell 2 2 := ⟨⟨Or.inr ⟨"JarSpirit", nest_t 434 (by decide +kernel) (by decide +kernel)⟩, big_t 4 (by decide +kernel) (by decide +kernel), big_t 437 (by decide +kernel) (by decide +kernel), by decide +kernel, by decide +kernel, by decide +kernel⟩, big_t 436 (by decide +kernel) (by decide +kernel), big_s 16 (by decide +kernel) (by decide +kernel), TX2, 9, rfl⟩
theorem fC_X3_160 : j_V RX3 160 mX0_hear 0 3 := ⟨⟨Or.inr ⟨"JarSpirit", nest_t 444 (by decide +kernel) (by decide +kernel)⟩, big_t 2 (by decide +kernel) (by decide +kernel), big_t 356 (by decide +kernel) (by decide +kernel), by decide +kernel, by decide +kernel, by decide +kernel⟩, big_t 355 (by decide +kernel) (by decide +kernel), big_s 10 (by decide +kernel) (by decide +kernel), TX0, 12, rfl⟩
theorem fC_X3_163 : j_V RX3 163 mX2_shortestIn 2 1 := ⟨⟨Or.inr ⟨"JarSpirit", nest_t 449 (by decide +kernel) (by decide +kernel)⟩, big_t 4 (by decide +kernel) (by decide +kernel), big_t 452 (by decide +kernel) (by decide +kernel), by decide +kernel, by decide +kernel, by decide +kernel⟩, big_t 451 (by decide +kernel) (by decide +kernel), big_s 17 (by decide +kernel) (by decide +kernel), TX2, 9, rfl⟩
theorem fC_X3_167 : j_V RX3 167 mX3_lengthOrWord 3 2 := ⟨⟨Or.inl (big_t 472 (by decide +kernel) (by decide +kernel)), big_t 1 (by decide +kernel) (by decide +kernel), big_t 475 (by decide +kernel) (by decide +kernel), by decide +kernel, by decide +kernel, by decide +kernel⟩, big_t 474 (by decide +kernel) (by decide +kernel), big_s 19 (by decide +kernel) (by decide +kernel), TX3, 11, rfl⟩
theorem fC_X3_170 : j_V RX3 170 mX2_longestOut 2 2 := ⟨⟨Or.inr ⟨"JarSpirit", nest_t 480 (by decide +kernel) (by decide +kernel)⟩, big_t 4 (by decide +kernel) (by decide +kernel), big_t 483 (by decide +kernel) (by decide +kernel), by decide +kernel, by decide +kernel, by decide +kernel⟩, big_t 482 (by decide +kernel) (by decide +kernel), big_s 20 (by decide +kernel) (by decide +kernel), TX2, 9, rfl⟩
theorem fC_X3_174 : j_V RX3 174 mX3_setFraction 3 2 := ⟨⟨Or.inl (big_t 500 (by decide +kernel) (by decide +kernel)), big_t 1 (by decide +kernel) (by decide +kernel), big_t 503 (by decide +kernel) (by decide +kernel), by decide +kernel, by decide +kernel, by decide +kernel⟩, big_t 502 (by decide +kernel) (by decide +kernel), big_s 21 (by decide +kernel) (by decide +kernel), TX3, 11, rfl⟩
theorem fC_X3_181 : j_V RX3 181 mX0_addNote 0 4 := ⟨⟨Or.inr ⟨"JarSpirit", nest_t 514 (by decide +kernel) (by decide +kernel)⟩, big_t 2 (by decide +kernel) (by decide +kernel), big_t 517 (by decide +kernel) (by decide +kernel), by decide +kernel, by decide +kernel, by decide +kernel⟩, big_t 516 (by decide +kernel) (by decide +kernel), big_s 22 (by decide +kernel) (by decide +kernel), TX0, 12, rfl⟩
theorem fC_X3_185 : j_V RX3 185 mX0_notesFit 0 1 := ⟨⟨Or.inr ⟨"JarSpirit", nest_t 526 (by decide +kernel) (by decide +kernel)⟩, big_t 2 (by decide +kernel) (by decide +kernel), big_t 529 (by decide +kernel) (by decide +kernel), by decide +kernel, by decide +kernel, by decide +kernel⟩, big_t 528 (by decide +kernel) (by decide +kernel), big_s 23 (by decide +kernel) (by decide +kernel), TX0, 12, rfl⟩
theorem fC_X3_188 : j_V RX3 188 mX3_is 3 0 := ⟨⟨Or.inl (big_t 534 (by decide +kernel) (by decide +kernel)), big_t 1 (by decide +kernel) (by decide +kernel), big_t 525 (by decide +kernel) (by decide +kernel), by decide +kernel, by decide +kernel, by decide +kernel⟩, big_t 523 (by decide +kernel) (by decide +kernel), big_t 524 (by decide +kernel) (by decide +kernel), TX3, 11, rfl⟩
theorem fC_X3_192 : j_S RX3 192 mX3_mostAlike 3 := ⟨⟨Or.inl (big_t 535 (by decide +kernel) (by decide +kernel)), big_t 1 (by decide +kernel) (by decide +kernel), big_t 537 (by decide +kernel) (by decide +kernel), by decide +kernel, by decide +kernel, by decide +kernel⟩, big_t 536 (by decide +kernel) (by decide +kernel)⟩
theorem fC_X3_195 : j_V RX3 195 mX3_pairWorth 3 2 := ⟨⟨Or.inl (big_t 545 (by decide +kernel) (by decide +kernel)), big_t 1 (by decide +kernel) (by decide +kernel), big_t 548 (by decide +kernel) (by decide +kernel), by decide +kernel, by decide +kernel, by decide +kernel⟩, big_t 547 (by decide +kernel) (by decide +kernel), big_s 24 (by decide +kernel) (by decide +kernel), TX3, 11, rfl⟩
theorem fC_X3_198 : j_V RX3 198 mX2_weighIn 2 3 := ⟨⟨Or.inr ⟨"JarSpirit", nest_t 554 (by decide +kernel) (by decide +kernel)⟩, big_t 4 (by decide +kernel) (by decide +kernel), big_t 557 (by decide +kernel) (by decide +kernel), by decide +kernel, by decide +kernel, by decide +kernel⟩, big_t 556 (by decide +kernel) (by decide +kernel), big_s 25 (by decide +kernel) (by decide +kernel), TX2, 9, rfl⟩
theorem fC_X3_202 : j_S RX3 202 mX3_powerOfTen 1 := ⟨⟨Or.inl (big_t 561 (by decide +kernel) (by decide +kernel)), big_t 1 (by decide +kernel) (by decide +kernel), big_t 440 (by decide +kernel) (by decide +kernel), by decide +kernel, by decide +kernel, by decide +kernel⟩, big_t 439 (by decide +kernel) (by decide +kernel)⟩
theorem fC_X3_217 : j_V RX3 217 mX3_imageAt 3 1 := ⟨⟨Or.inl (big_t 580 (by decide +kernel) (by decide +kernel)), big_t 1 (by decide +kernel) (by decide +kernel), big_t 583 (by decide +kernel) (by decide +kernel), by decide +kernel, by decide +kernel, by decide +kernel⟩, big_t 582 (by decide +kernel) (by decide +kernel), big_s 26 (by decide +kernel) (by decide +kernel), TX3, 11, rfl⟩
theorem fC_X3_229 : j_V RX3 229 mX3_count 3 1 := ⟨⟨Or.inl (big_t 602 (by decide +kernel) (by decide +kernel)), big_t 1 (by decide +kernel) (by decide +kernel), big_t 595 (by decide +kernel) (by decide +kernel), by decide +kernel, by decide +kernel, by decide +kernel⟩, big_t 593 (by decide +kernel) (by decide +kernel), big_t 594 (by decide +kernel) (by decide +kernel), TX3, 11, rfl⟩
theorem fC_X3_232 : j_V RX3 232 mX3_now 3 1 := ⟨⟨Or.inl (big_t 603 (by decide +kernel) (by decide +kernel)), big_t 1 (by decide +kernel) (by decide +kernel), big_t 419 (by decide +kernel) (by decide +kernel), by decide +kernel, by decide +kernel, by decide +kernel⟩, big_t 417 (by decide +kernel) (by decide +kernel), big_t 418 (by decide +kernel) (by decide +kernel), TX3, 11, rfl⟩
theorem fC_X3_238 : j_S RX3 238 mX3_commonDivisor 2 := ⟨⟨Or.inl (big_t 504 (by decide +kernel) (by decide +kernel)), big_t 1 (by decide +kernel) (by decide +kernel), big_t 506 (by decide +kernel) (by decide +kernel), by decide +kernel, by decide +kernel, by decide +kernel⟩, big_t 505 (by decide +kernel) (by decide +kernel)⟩
theorem fC_X3_242 : j_V RX3 242 mX0_judge 0 3 := ⟨⟨Or.inr ⟨"JarSpirit", nest_t 549 (by decide +kernel) (by decide +kernel)⟩, big_t 2 (by decide +kernel) (by decide +kernel), big_t 383 (by decide +kernel) (by decide +kernel), by decide +kernel, by decide +kernel, by decide +kernel⟩, big_t 382 (by decide +kernel) (by decide +kernel), big_s 11 (by decide +kernel) (by decide +kernel), TX0, 12, rfl⟩
theorem fC_X3_265 : j_S RX3 265 mX3_moveAlike 4 := ⟨⟨Or.inl (big_t 538 (by decide +kernel) (by decide +kernel)), big_t 1 (by decide +kernel) (by decide +kernel), big_t 540 (by decide +kernel) (by decide +kernel), by decide +kernel, by decide +kernel, by decide +kernel⟩, big_t 539 (by decide +kernel) (by decide +kernel)⟩
theorem fC_X3_272 : j_V RX3 272 mX1_advance 1 0 := ⟨⟨Or.inr ⟨"JarSpirit", nest_t 245 (by decide +kernel) (by decide +kernel)⟩, big_t 3 (by decide +kernel) (by decide +kernel), big_t 248 (by decide +kernel) (by decide +kernel), by decide +kernel, by decide +kernel, by decide +kernel⟩, big_t 247 (by decide +kernel) (by decide +kernel), big_s 3 (by decide +kernel) (by decide +kernel), TX1, 6, rfl⟩
theorem fC_X3_278 : j_S RX3 278 mX3_readFirst 2 := ⟨⟨Or.inl (big_t 267 (by decide +kernel) (by decide +kernel)), big_t 1 (by decide +kernel) (by decide +kernel), big_t 269 (by decide +kernel) (by decide +kernel), by decide +kernel, by decide +kernel, by decide +kernel⟩, big_t 268 (by decide +kernel) (by decide +kernel)⟩
theorem fC_X3_282 : j_S RX3 282 mX3_readItem 2 := ⟨⟨Or.inl (big_t 329 (by decide +kernel) (by decide +kernel)), big_t 1 (by decide +kernel) (by decide +kernel), big_t 331 (by decide +kernel) (by decide +kernel), by decide +kernel, by decide +kernel, by decide +kernel⟩, big_t 330 (by decide +kernel) (by decide +kernel)⟩
theorem fC_X3_286 : j_V RX3 286 mX1_spells 1 1 := ⟨⟨Or.inr ⟨"JarSpirit", nest_t 271 (by decide +kernel) (by decide +kernel)⟩, big_t 3 (by decide +kernel) (by decide +kernel), big_t 274 (by decide +kernel) (by decide +kernel), by decide +kernel, by decide +kernel, by decide +kernel⟩, big_t 273 (by decide +kernel) (by decide +kernel), big_s 7 (by decide +kernel) (by decide +kernel), TX1, 6, rfl⟩
theorem fC_X3_290 : j_V RX3 290 mX1_numberComes 1 2 := ⟨⟨Or.inr ⟨"JarSpirit", nest_t 323 (by decide +kernel) (by decide +kernel)⟩, big_t 3 (by decide +kernel) (by decide +kernel), big_t 326 (by decide +kernel) (by decide +kernel), by decide +kernel, by decide +kernel, by decide +kernel⟩, big_t 325 (by decide +kernel) (by decide +kernel), big_s 8 (by decide +kernel) (by decide +kernel), TX1, 6, rfl⟩
theorem fC_X3_299 : j_S RX3 299 mX3_readMood 2 := ⟨⟨Or.inl (big_t 333 (by decide +kernel) (by decide +kernel)), big_t 1 (by decide +kernel) (by decide +kernel), big_t 335 (by decide +kernel) (by decide +kernel), by decide +kernel, by decide +kernel, by decide +kernel⟩, big_t 334 (by decide +kernel) (by decide +kernel)⟩
theorem fC_X3_304 : j_S RX3 304 mX3_readBound 2 := ⟨⟨Or.inl (big_t 337 (by decide +kernel) (by decide +kernel)), big_t 1 (by decide +kernel) (by decide +kernel), big_t 339 (by decide +kernel) (by decide +kernel), by decide +kernel, by decide +kernel, by decide +kernel⟩, big_t 338 (by decide +kernel) (by decide +kernel)⟩
theorem fC_X3_309 : j_S RX3 309 mX3_readVow 2 := ⟨⟨Or.inl (big_t 341 (by decide +kernel) (by decide +kernel)), big_t 1 (by decide +kernel) (by decide +kernel), big_t 343 (by decide +kernel) (by decide +kernel), by decide +kernel, by decide +kernel, by decide +kernel⟩, big_t 342 (by decide +kernel) (by decide +kernel)⟩
theorem fC_X3_314 : j_S RX3 314 mX3_readSay 2 := ⟨⟨Or.inl (big_t 345 (by decide +kernel) (by decide +kernel)), big_t 1 (by decide +kernel) (by decide +kernel), big_t 347 (by decide +kernel) (by decide +kernel), by decide +kernel, by decide +kernel, by decide +kernel⟩, big_t 346 (by decide +kernel) (by decide +kernel)⟩
theorem fC_X0_38 : j_S RX0 38 mX3_mind 3 := ⟨⟨Or.inr ⟨"JarSpirit", nest_t 149 (by decide +kernel) (by decide +kernel)⟩, big_t 1 (by decide +kernel) (by decide +kernel), big_t 151 (by decide +kernel) (by decide +kernel), by decide +kernel, by decide +kernel, by decide +kernel⟩, big_t 150 (by decide +kernel) (by decide +kernel)⟩
theorem fC_X0_62 : j_S RX0 62 mX3_beingOf 1 := ⟨⟨Or.inr ⟨"JarSpirit", nest_t 210 (by decide +kernel) (by decide +kernel)⟩, big_t 1 (by decide +kernel) (by decide +kernel), big_t 212 (by decide +kernel) (by decide +kernel), by decide +kernel, by decide +kernel, by decide +kernel⟩, big_t 211 (by decide +kernel) (by decide +kernel)⟩
theorem fC_X0_66 : j_S RX0 66 mX3_angerOf 1 := ⟨⟨Or.inr ⟨"JarSpirit", nest_t 357 (by decide +kernel) (by decide +kernel)⟩, big_t 1 (by decide +kernel) (by decide +kernel), big_t 219 (by decide +kernel) (by decide +kernel), by decide +kernel, by decide +kernel, by decide +kernel⟩, big_t 218 (by decide +kernel) (by decide +kernel)⟩
theorem fC_X0_69 : j_S RX0 69 mX3_angerMove 3 := ⟨⟨Or.inr ⟨"JarSpirit", nest_t 358 (by decide +kernel) (by decide +kernel)⟩, big_t 1 (by decide +kernel) (by decide +kernel), big_t 360 (by decide +kernel) (by decide +kernel), by decide +kernel, by decide +kernel, by decide +kernel⟩, big_t 359 (by decide +kernel) (by decide +kernel)⟩
theorem fC_X0_72 : j_S RX0 72 mX3_kept 1 := ⟨⟨Or.inr ⟨"JarSpirit", nest_t 363 (by decide +kernel) (by decide +kernel)⟩, big_t 1 (by decide +kernel) (by decide +kernel), big_t 365 (by decide +kernel) (by decide +kernel), by decide +kernel, by decide +kernel, by decide +kernel⟩, big_t 364 (by decide +kernel) (by decide +kernel)⟩
theorem fC_X0_75 : j_S RX0 75 mX3_prideOf 1 := ⟨⟨Or.inr ⟨"JarSpirit", nest_t 372 (by decide +kernel) (by decide +kernel)⟩, big_t 1 (by decide +kernel) (by decide +kernel), big_t 374 (by decide +kernel) (by decide +kernel), by decide +kernel, by decide +kernel, by decide +kernel⟩, big_t 373 (by decide +kernel) (by decide +kernel)⟩
theorem fC_X0_78 : j_S RX0 78 mX3_prideMove 3 := ⟨⟨Or.inr ⟨"JarSpirit", nest_t 375 (by decide +kernel) (by decide +kernel)⟩, big_t 1 (by decide +kernel) (by decide +kernel), big_t 377 (by decide +kernel) (by decide +kernel), by decide +kernel, by decide +kernel, by decide +kernel⟩, big_t 376 (by decide +kernel) (by decide +kernel)⟩
theorem fC_X0_81 : j_V RX0 81 mX0_judge 0 3 := ⟨⟨Or.inl (big_t 380 (by decide +kernel) (by decide +kernel)), big_t 2 (by decide +kernel) (by decide +kernel), big_t 383 (by decide +kernel) (by decide +kernel), by decide +kernel, by decide +kernel, by decide +kernel⟩, big_t 382 (by decide +kernel) (by decide +kernel), big_s 11 (by decide +kernel) (by decide +kernel), TX0, 12, rfl⟩
theorem fC_X0_84 : j_V RX0 84 mX0_hear 0 3 := ⟨⟨Or.inl (big_t 353 (by decide +kernel) (by decide +kernel)), big_t 2 (by decide +kernel) (by decide +kernel), big_t 356 (by decide +kernel) (by decide +kernel), by decide +kernel, by decide +kernel, by decide +kernel⟩, big_t 355 (by decide +kernel) (by decide +kernel), big_s 10 (by decide +kernel) (by decide +kernel), TX0, 12, rfl⟩
theorem fC_X0_87 : j_S RX0 87 mX3_put 3 := ⟨⟨Or.inr ⟨"JarSpirit", nest_t 400 (by decide +kernel) (by decide +kernel)⟩, big_t 1 (by decide +kernel) (by decide +kernel), big_t 229 (by decide +kernel) (by decide +kernel), by decide +kernel, by decide +kernel, by decide +kernel⟩, big_t 228 (by decide +kernel) (by decide +kernel)⟩
theorem fC_X0_91 : j_S RX0 91 mX3_at 2 := ⟨⟨Or.inr ⟨"JarSpirit", nest_t 415 (by decide +kernel) (by decide +kernel)⟩, big_t 1 (by decide +kernel) (by decide +kernel), big_t 226 (by decide +kernel) (by decide +kernel), by decide +kernel, by decide +kernel, by decide +kernel⟩, big_t 225 (by decide +kernel) (by decide +kernel)⟩
theorem fC_X1_31 : j_V RX1 31 mX1_byteAt 1 1 := ⟨⟨Or.inl (big_t 249 (by decide +kernel) (by decide +kernel)), big_t 3 (by decide +kernel) (by decide +kernel), big_t 252 (by decide +kernel) (by decide +kernel), by decide +kernel, by decide +kernel, by decide +kernel⟩, big_t 251 (by decide +kernel) (by decide +kernel), big_s 4 (by decide +kernel) (by decide +kernel), TX1, 6, rfl⟩
theorem fC_X1_35 : j_S RX1 35 mX1_isLetter 1 := ⟨⟨Or.inl (big_t 253 (by decide +kernel) (by decide +kernel)), big_t 3 (by decide +kernel) (by decide +kernel), big_t 255 (by decide +kernel) (by decide +kernel), by decide +kernel, by decide +kernel, by decide +kernel⟩, big_t 254 (by decide +kernel) (by decide +kernel)⟩
theorem fC_X1_39 : j_V RX1 39 mX1_passLetters 1 0 := ⟨⟨Or.inl (big_t 256 (by decide +kernel) (by decide +kernel)), big_t 3 (by decide +kernel) (by decide +kernel), big_t 259 (by decide +kernel) (by decide +kernel), by decide +kernel, by decide +kernel, by decide +kernel⟩, big_t 258 (by decide +kernel) (by decide +kernel), big_s 5 (by decide +kernel) (by decide +kernel), TX1, 6, rfl⟩
theorem fC_X1_42 : j_S RX1 42 mX1_isFigure 1 := ⟨⟨Or.inl (big_t 260 (by decide +kernel) (by decide +kernel)), big_t 3 (by decide +kernel) (by decide +kernel), big_t 262 (by decide +kernel) (by decide +kernel), by decide +kernel, by decide +kernel, by decide +kernel⟩, big_t 261 (by decide +kernel) (by decide +kernel)⟩
theorem fC_X1_45 : j_V RX1 45 mX1_passFigures 1 0 := ⟨⟨Or.inl (big_t 263 (by decide +kernel) (by decide +kernel)), big_t 3 (by decide +kernel) (by decide +kernel), big_t 266 (by decide +kernel) (by decide +kernel), by decide +kernel, by decide +kernel, by decide +kernel⟩, big_t 265 (by decide +kernel) (by decide +kernel), big_s 6 (by decide +kernel) (by decide +kernel), TX1, 6, rfl⟩
theorem fC_X1_48 : j_C RX1 48 mJ0_length_8abf5 0 ∧ Cond.instanceMethod mJ0_length_8abf5.1 ∈ BIGW ∧ Cond.selects mJ0_length_8abf5.1.cls mJ0_length_8abf5.1 mJ0_length_8abf5.1 ∈ BIGW := ⟨⟨Or.inl (big_t 275 (by decide +kernel) (by decide +kernel)), big_t 7 (by decide +kernel) (by decide +kernel), big_t 278 (by decide +kernel) (by decide +kernel), by decide +kernel, by decide +kernel, by decide +kernel⟩, big_t 276 (by decide +kernel) (by decide +kernel), big_t 277 (by decide +kernel) (by decide +kernel)⟩
theorem fC_X1_53 : j_C RX1 53 mJ0_charAt_5068e 1 ∧ Cond.instanceMethod mJ0_charAt_5068e.1 ∈ BIGW ∧ Cond.selects mJ0_charAt_5068e.1.cls mJ0_charAt_5068e.1 mJ0_charAt_5068e.1 ∈ BIGW := ⟨⟨Or.inl (big_t 285 (by decide +kernel) (by decide +kernel)), big_t 7 (by decide +kernel) (by decide +kernel), big_t 288 (by decide +kernel) (by decide +kernel), by decide +kernel, by decide +kernel, by decide +kernel⟩, big_t 286 (by decide +kernel) (by decide +kernel), big_t 287 (by decide +kernel) (by decide +kernel)⟩
theorem fC_X1_57 : j_V RX1 57 mX1_advance 1 0 := ⟨⟨Or.inl (big_t 327 (by decide +kernel) (by decide +kernel)), big_t 3 (by decide +kernel) (by decide +kernel), big_t 248 (by decide +kernel) (by decide +kernel), by decide +kernel, by decide +kernel, by decide +kernel⟩, big_t 247 (by decide +kernel) (by decide +kernel), big_s 3 (by decide +kernel) (by decide +kernel), TX1, 6, rfl⟩
theorem fC_X1_60 : j_S RX1 60 mX3_within 3 := ⟨⟨Or.inr ⟨"JarSpirit", nest_t 328 (by decide +kernel) (by decide +kernel)⟩, big_t 1 (by decide +kernel) (by decide +kernel), big_t 197 (by decide +kernel) (by decide +kernel), by decide +kernel, by decide +kernel, by decide +kernel⟩, big_t 196 (by decide +kernel) (by decide +kernel)⟩
theorem fC_X2_22 : j_S RX2 22 mX3_powerOfTen 1 := ⟨⟨Or.inr ⟨"JarSpirit", nest_t 438 (by decide +kernel) (by decide +kernel)⟩, big_t 1 (by decide +kernel) (by decide +kernel), big_t 440 (by decide +kernel) (by decide +kernel), by decide +kernel, by decide +kernel, by decide +kernel⟩, big_t 439 (by decide +kernel) (by decide +kernel)⟩
theorem fC_X2_26 : j_S RX2 26 mX3_isWord 1 := ⟨⟨Or.inr ⟨"JarSpirit", nest_t 442 (by decide +kernel) (by decide +kernel)⟩, big_t 1 (by decide +kernel) (by decide +kernel), big_t 395 (by decide +kernel) (by decide +kernel), by decide +kernel, by decide +kernel, by decide +kernel⟩, big_t 394 (by decide +kernel) (by decide +kernel)⟩
theorem fC_X2_30 : j_S RX2 30 mX3_put 3 := ⟨⟨Or.inr ⟨"JarSpirit", nest_t 443 (by decide +kernel) (by decide +kernel)⟩, big_t 1 (by decide +kernel) (by decide +kernel), big_t 229 (by decide +kernel) (by decide +kernel), by decide +kernel, by decide +kernel, by decide +kernel⟩, big_t 228 (by decide +kernel) (by decide +kernel)⟩
theorem fC_X2_40 : j_S RX2 40 mX3_beingOf 1 := ⟨⟨Or.inr ⟨"JarSpirit", nest_t 453 (by decide +kernel) (by decide +kernel)⟩, big_t 1 (by decide +kernel) (by decide +kernel), big_t 212 (by decide +kernel) (by decide +kernel), by decide +kernel, by decide +kernel, by decide +kernel⟩, big_t 211 (by decide +kernel) (by decide +kernel)⟩
theorem fC_X2_44 : j_V RX2 44 mX2_seek 2 3 := ⟨⟨Or.inl (big_t 454 (by decide +kernel) (by decide +kernel)), big_t 4 (by decide +kernel) (by decide +kernel), big_t 457 (by decide +kernel) (by decide +kernel), by decide +kernel, by decide +kernel, by decide +kernel⟩, big_t 456 (by decide +kernel) (by decide +kernel), big_s 18 (by decide +kernel) (by decide +kernel), TX2, 9, rfl⟩
theorem fC_X2_51_0 : j_S RX2 51 (mX2_reaches 0) 5 := ⟨⟨Or.inl (big_t 463 (by decide +kernel) (by decide +kernel)), big_t 4 (by decide +kernel) (by decide +kernel), big_t 465 (by decide +kernel) (by decide +kernel), by decide +kernel, by decide +kernel, by decide +kernel⟩, big_t 464 (by decide +kernel) (by decide +kernel)⟩
theorem fC_X2_51 (d : Nat) : j_S RX2 51 (mX2_reaches d) 5 := fC_X2_51_0
theorem fC_X2_62 : j_S RX2 62 mJ7_fill_53178 2 := ⟨⟨Or.inl (big_t 458 (by decide +kernel) (by decide +kernel)), big_t 12 (by decide +kernel) (by decide +kernel), big_t 460 (by decide +kernel) (by decide +kernel), by decide +kernel, by decide +kernel, by decide +kernel⟩, big_t 459 (by decide +kernel) (by decide +kernel)⟩
theorem fC_X2_71 : j_S RX2 71 mX3_prideMove 3 := ⟨⟨Or.inr ⟨"JarSpirit", nest_t 461 (by decide +kernel) (by decide +kernel)⟩, big_t 1 (by decide +kernel) (by decide +kernel), big_t 377 (by decide +kernel) (by decide +kernel), by decide +kernel, by decide +kernel, by decide +kernel⟩, big_t 376 (by decide +kernel) (by decide +kernel)⟩
theorem fC_X2_87 : j_S RX2 87 mX2_isHopeless 3 := ⟨⟨Or.inl (big_t 466 (by decide +kernel) (by decide +kernel)), big_t 4 (by decide +kernel) (by decide +kernel), big_t 468 (by decide +kernel) (by decide +kernel), by decide +kernel, by decide +kernel, by decide +kernel⟩, big_t 467 (by decide +kernel) (by decide +kernel)⟩
theorem fC_X2_91 : j_S RX2 91 mX3_at 2 := ⟨⟨Or.inr ⟨"JarSpirit", nest_t 470 (by decide +kernel) (by decide +kernel)⟩, big_t 1 (by decide +kernel) (by decide +kernel), big_t 226 (by decide +kernel) (by decide +kernel), by decide +kernel, by decide +kernel, by decide +kernel⟩, big_t 225 (by decide +kernel) (by decide +kernel)⟩
theorem fC_X2_95 : j_V RX2 95 mX0_hear 0 3 := ⟨⟨Or.inr ⟨"JarSpirit", nest_t 471 (by decide +kernel) (by decide +kernel)⟩, big_t 2 (by decide +kernel) (by decide +kernel), big_t 356 (by decide +kernel) (by decide +kernel), by decide +kernel, by decide +kernel, by decide +kernel⟩, big_t 355 (by decide +kernel) (by decide +kernel), big_s 10 (by decide +kernel) (by decide +kernel), TX0, 12, rfl⟩
theorem fC_X2_98 : j_S RX2 98 mX3_prideOf 1 := ⟨⟨Or.inr ⟨"JarSpirit", nest_t 469 (by decide +kernel) (by decide +kernel)⟩, big_t 1 (by decide +kernel) (by decide +kernel), big_t 374 (by decide +kernel) (by decide +kernel), by decide +kernel, by decide +kernel, by decide +kernel⟩, big_t 373 (by decide +kernel) (by decide +kernel)⟩
theorem fC_X2_110_0 : j_S RX2 110 (mX2_weigh 0) 4 := ⟨⟨Or.inl (big_t 558 (by decide +kernel) (by decide +kernel)), big_t 4 (by decide +kernel) (by decide +kernel), big_t 560 (by decide +kernel) (by decide +kernel), by decide +kernel, by decide +kernel, by decide +kernel⟩, big_t 559 (by decide +kernel) (by decide +kernel)⟩
theorem fC_X2_110 (d : Nat) : j_S RX2 110 (mX2_weigh d) 4 := fC_X2_110_0
theorem fC_X4_52 : j_V RX4 52 mX4_fresh 4 1 := ⟨⟨Or.inl (big_t 611 (by decide +kernel) (by decide +kernel)), big_t 6 (by decide +kernel) (by decide +kernel), big_t 614 (by decide +kernel) (by decide +kernel), by decide +kernel, by decide +kernel, by decide +kernel⟩, big_t 613 (by decide +kernel) (by decide +kernel), big_s 27 (by decide +kernel) (by decide +kernel), TX4, 24, rfl⟩
theorem fC_X4_58 : j_S RX4 58 mX4_in 3 := ⟨⟨Or.inl (big_t 694 (by decide +kernel) (by decide +kernel)), big_t 6 (by decide +kernel) (by decide +kernel), big_t 696 (by decide +kernel) (by decide +kernel), by decide +kernel, by decide +kernel, by decide +kernel⟩, big_t 695 (by decide +kernel) (by decide +kernel)⟩
theorem fC_X4_62 : j_V RX4 62 mX4_noAs 4 1 := ⟨⟨Or.inl (big_t 697 (by decide +kernel) (by decide +kernel)), big_t 6 (by decide +kernel) (by decide +kernel), big_t 700 (by decide +kernel) (by decide +kernel), by decide +kernel, by decide +kernel, by decide +kernel⟩, big_t 699 (by decide +kernel) (by decide +kernel), big_s 28 (by decide +kernel) (by decide +kernel), TX4, 24, rfl⟩
theorem fC_X4_79 : j_V RX4 79 mX4_angerBy 4 3 := ⟨⟨Or.inl (big_t 789 (by decide +kernel) (by decide +kernel)), big_t 6 (by decide +kernel) (by decide +kernel), big_t 792 (by decide +kernel) (by decide +kernel), by decide +kernel, by decide +kernel, by decide +kernel⟩, big_t 791 (by decide +kernel) (by decide +kernel), big_s 41 (by decide +kernel) (by decide +kernel), TX4, 24, rfl⟩
theorem fC_X4_83 : j_S RX4 83 mX4_kept 1 := ⟨⟨Or.inl (big_t 793 (by decide +kernel) (by decide +kernel)), big_t 6 (by decide +kernel) (by decide +kernel), big_t 795 (by decide +kernel) (by decide +kernel), by decide +kernel, by decide +kernel, by decide +kernel⟩, big_t 794 (by decide +kernel) (by decide +kernel)⟩
theorem fC_X4_86 : j_V RX4 86 mX4_prideBy 4 3 := ⟨⟨Or.inl (big_t 796 (by decide +kernel) (by decide +kernel)), big_t 6 (by decide +kernel) (by decide +kernel), big_t 799 (by decide +kernel) (by decide +kernel), by decide +kernel, by decide +kernel, by decide +kernel⟩, big_t 798 (by decide +kernel) (by decide +kernel), big_s 42 (by decide +kernel) (by decide +kernel), TX4, 24, rfl⟩
theorem fC_X4_91 : j_V RX4 91 mX4_no 4 1 := ⟨⟨Or.inl (big_t 706 (by decide +kernel) (by decide +kernel)), big_t 6 (by decide +kernel) (by decide +kernel), big_t 709 (by decide +kernel) (by decide +kernel), by decide +kernel, by decide +kernel, by decide +kernel⟩, big_t 708 (by decide +kernel) (by decide +kernel), big_s 29 (by decide +kernel) (by decide +kernel), TX4, 24, rfl⟩
theorem fC_X4_117 : j_V RX4 117 mX4_here 4 0 := ⟨⟨Or.inl (big_t 738 (by decide +kernel) (by decide +kernel)), big_t 6 (by decide +kernel) (by decide +kernel), big_t 741 (by decide +kernel) (by decide +kernel), by decide +kernel, by decide +kernel, by decide +kernel⟩, big_t 740 (by decide +kernel) (by decide +kernel), big_s 30 (by decide +kernel) (by decide +kernel), TX4, 24, rfl⟩
theorem fC_X4_125 : j_V RX4 125 mX4_wrong 4 0 := ⟨⟨Or.inl (big_t 755 (by decide +kernel) (by decide +kernel)), big_t 6 (by decide +kernel) (by decide +kernel), big_t 758 (by decide +kernel) (by decide +kernel), by decide +kernel, by decide +kernel, by decide +kernel⟩, big_t 757 (by decide +kernel) (by decide +kernel), big_s 33 (by decide +kernel) (by decide +kernel), TX4, 24, rfl⟩
theorem fC_X4_132 : j_V RX4 132 mX4_takeNumber 4 2 := ⟨⟨Or.inl (big_t 759 (by decide +kernel) (by decide +kernel)), big_t 6 (by decide +kernel) (by decide +kernel), big_t 762 (by decide +kernel) (by decide +kernel), by decide +kernel, by decide +kernel, by decide +kernel⟩, big_t 761 (by decide +kernel) (by decide +kernel), big_s 34 (by decide +kernel) (by decide +kernel), TX4, 24, rfl⟩
theorem fC_X4_136 : j_V RX4 136 mX4_begin 4 0 := ⟨⟨Or.inl (big_t 781 (by decide +kernel) (by decide +kernel)), big_t 6 (by decide +kernel) (by decide +kernel), big_t 784 (by decide +kernel) (by decide +kernel), by decide +kernel, by decide +kernel, by decide +kernel⟩, big_t 783 (by decide +kernel) (by decide +kernel), big_s 39 (by decide +kernel) (by decide +kernel), TX4, 24, rfl⟩
theorem fC_X4_139 : j_V RX4 139 mX4_hear 4 2 := ⟨⟨Or.inl (big_t 785 (by decide +kernel) (by decide +kernel)), big_t 6 (by decide +kernel) (by decide +kernel), big_t 788 (by decide +kernel) (by decide +kernel), by decide +kernel, by decide +kernel, by decide +kernel⟩, big_t 787 (by decide +kernel) (by decide +kernel), big_s 40 (by decide +kernel) (by decide +kernel), TX4, 24, rfl⟩
theorem fC_X4_143 : j_V RX4 143 mX4_giveBack 4 0 := ⟨⟨Or.inl (big_t 800 (by decide +kernel) (by decide +kernel)), big_t 6 (by decide +kernel) (by decide +kernel), big_t 803 (by decide +kernel) (by decide +kernel), by decide +kernel, by decide +kernel, by decide +kernel⟩, big_t 802 (by decide +kernel) (by decide +kernel), big_s 43 (by decide +kernel) (by decide +kernel), TX4, 24, rfl⟩
theorem fC_X4_146 : j_V RX4 146 mX4_takeWord 4 0 := ⟨⟨Or.inl (big_t 746 (by decide +kernel) (by decide +kernel)), big_t 6 (by decide +kernel) (by decide +kernel), big_t 749 (by decide +kernel) (by decide +kernel), by decide +kernel, by decide +kernel, by decide +kernel⟩, big_t 748 (by decide +kernel) (by decide +kernel), big_s 32 (by decide +kernel) (by decide +kernel), TX4, 24, rfl⟩
theorem fC_X4_149 : j_S RX4 149 mX4_wordOf 5 := ⟨⟨Or.inl (big_t 752 (by decide +kernel) (by decide +kernel)), big_t 6 (by decide +kernel) (by decide +kernel), big_t 754 (by decide +kernel) (by decide +kernel), by decide +kernel, by decide +kernel, by decide +kernel⟩, big_t 753 (by decide +kernel) (by decide +kernel)⟩
theorem fC_X4_153 : j_V RX4 153 mX4_takeMood 4 0 := ⟨⟨Or.inl (big_t 765 (by decide +kernel) (by decide +kernel)), big_t 6 (by decide +kernel) (by decide +kernel), big_t 768 (by decide +kernel) (by decide +kernel), by decide +kernel, by decide +kernel, by decide +kernel⟩, big_t 767 (by decide +kernel) (by decide +kernel), big_s 35 (by decide +kernel) (by decide +kernel), TX4, 24, rfl⟩
theorem fC_X4_156 : j_V RX4 156 mX4_takeBound 4 0 := ⟨⟨Or.inl (big_t 769 (by decide +kernel) (by decide +kernel)), big_t 6 (by decide +kernel) (by decide +kernel), big_t 772 (by decide +kernel) (by decide +kernel), by decide +kernel, by decide +kernel, by decide +kernel⟩, big_t 771 (by decide +kernel) (by decide +kernel), big_s 36 (by decide +kernel) (by decide +kernel), TX4, 24, rfl⟩
theorem fC_X4_159 : j_V RX4 159 mX4_takeVow 4 0 := ⟨⟨Or.inl (big_t 773 (by decide +kernel) (by decide +kernel)), big_t 6 (by decide +kernel) (by decide +kernel), big_t 776 (by decide +kernel) (by decide +kernel), by decide +kernel, by decide +kernel, by decide +kernel⟩, big_t 775 (by decide +kernel) (by decide +kernel), big_s 37 (by decide +kernel) (by decide +kernel), TX4, 24, rfl⟩
theorem fC_X4_162 : j_V RX4 162 mX4_takeSay 4 0 := ⟨⟨Or.inl (big_t 777 (by decide +kernel) (by decide +kernel)), big_t 6 (by decide +kernel) (by decide +kernel), big_t 780 (by decide +kernel) (by decide +kernel), by decide +kernel, by decide +kernel, by decide +kernel⟩, big_t 779 (by decide +kernel) (by decide +kernel), big_s 38 (by decide +kernel) (by decide +kernel), TX4, 24, rfl⟩
theorem fC_X4_165 : j_V RX4 165 mX4_takeItem 4 1 := ⟨⟨Or.inl (big_t 742 (by decide +kernel) (by decide +kernel)), big_t 6 (by decide +kernel) (by decide +kernel), big_t 745 (by decide +kernel) (by decide +kernel), by decide +kernel, by decide +kernel, by decide +kernel⟩, big_t 744 (by decide +kernel) (by decide +kernel), big_s 31 (by decide +kernel) (by decide +kernel), TX4, 24, rfl⟩
theorem fC_X4_168 : j_V RX4 168 mX4_remember 4 0 := ⟨⟨Or.inl (big_t 808 (by decide +kernel) (by decide +kernel)), big_t 6 (by decide +kernel) (by decide +kernel), big_t 811 (by decide +kernel) (by decide +kernel), by decide +kernel, by decide +kernel, by decide +kernel⟩, big_t 810 (by decide +kernel) (by decide +kernel), big_s 44 (by decide +kernel) (by decide +kernel), TX4, 24, rfl⟩
theorem fC_X4_176 : j_V RX4 176 mX4_takeRow 4 2 := ⟨⟨Or.inl (big_t 833 (by decide +kernel) (by decide +kernel)), big_t 6 (by decide +kernel) (by decide +kernel), big_t 836 (by decide +kernel) (by decide +kernel), by decide +kernel, by decide +kernel, by decide +kernel⟩, big_t 835 (by decide +kernel) (by decide +kernel), big_s 45 (by decide +kernel) (by decide +kernel), TX4, 24, rfl⟩
theorem fC_X4_182 : j_V RX4 182 mX4_standAt 4 1 := ⟨⟨Or.inl (big_t 846 (by decide +kernel) (by decide +kernel)), big_t 6 (by decide +kernel) (by decide +kernel), big_t 849 (by decide +kernel) (by decide +kernel), by decide +kernel, by decide +kernel, by decide +kernel⟩, big_t 848 (by decide +kernel) (by decide +kernel), big_s 47 (by decide +kernel) (by decide +kernel), TX4, 24, rfl⟩
theorem fC_X4_185 : j_S RX4 185 mX4_placeOf 3 := ⟨⟨Or.inl (big_t 850 (by decide +kernel) (by decide +kernel)), big_t 6 (by decide +kernel) (by decide +kernel), big_t 852 (by decide +kernel) (by decide +kernel), by decide +kernel, by decide +kernel, by decide +kernel⟩, big_t 851 (by decide +kernel) (by decide +kernel)⟩
theorem fC_X4_188 : j_V RX4 188 mX4_findFar 4 0 := ⟨⟨Or.inl (big_t 842 (by decide +kernel) (by decide +kernel)), big_t 6 (by decide +kernel) (by decide +kernel), big_t 845 (by decide +kernel) (by decide +kernel), by decide +kernel, by decide +kernel, by decide +kernel⟩, big_t 844 (by decide +kernel) (by decide +kernel), big_s 46 (by decide +kernel) (by decide +kernel), TX4, 24, rfl⟩
theorem fC_X4_191 : j_V RX4 191 mX4_walkIn 4 1 := ⟨⟨Or.inl (big_t 853 (by decide +kernel) (by decide +kernel)), big_t 6 (by decide +kernel) (by decide +kernel), big_t 856 (by decide +kernel) (by decide +kernel), by decide +kernel, by decide +kernel, by decide +kernel⟩, big_t 855 (by decide +kernel) (by decide +kernel), big_s 48 (by decide +kernel) (by decide +kernel), TX4, 24, rfl⟩
theorem fC_X4_194 : j_S RX4 194 mX4_isSaid 2 := ⟨⟨Or.inl (big_t 869 (by decide +kernel) (by decide +kernel)), big_t 6 (by decide +kernel) (by decide +kernel), big_t 871 (by decide +kernel) (by decide +kernel), by decide +kernel, by decide +kernel, by decide +kernel⟩, big_t 870 (by decide +kernel) (by decide +kernel)⟩
theorem fC_X4_197 : j_V RX4 197 mX4_canStay 4 3 := ⟨⟨Or.inl (big_t 865 (by decide +kernel) (by decide +kernel)), big_t 6 (by decide +kernel) (by decide +kernel), big_t 868 (by decide +kernel) (by decide +kernel), by decide +kernel, by decide +kernel, by decide +kernel⟩, big_t 867 (by decide +kernel) (by decide +kernel), big_s 50 (by decide +kernel) (by decide +kernel), TX4, 24, rfl⟩
theorem fC_X4_201 : j_V RX4 201 mX4_findStays 4 1 := ⟨⟨Or.inl (big_t 861 (by decide +kernel) (by decide +kernel)), big_t 6 (by decide +kernel) (by decide +kernel), big_t 864 (by decide +kernel) (by decide +kernel), by decide +kernel, by decide +kernel, by decide +kernel⟩, big_t 863 (by decide +kernel) (by decide +kernel), big_s 49 (by decide +kernel) (by decide +kernel), TX4, 24, rfl⟩
theorem fC_X4_204 : j_V RX4 204 mX4_longestStay 4 0 := ⟨⟨Or.inl (big_t 872 (by decide +kernel) (by decide +kernel)), big_t 6 (by decide +kernel) (by decide +kernel), big_t 875 (by decide +kernel) (by decide +kernel), by decide +kernel, by decide +kernel, by decide +kernel⟩, big_t 874 (by decide +kernel) (by decide +kernel), big_s 51 (by decide +kernel) (by decide +kernel), TX4, 24, rfl⟩
theorem fC_X4_207 : j_V RX4 207 mX4_walkOut 4 2 := ⟨⟨Or.inl (big_t 876 (by decide +kernel) (by decide +kernel)), big_t 6 (by decide +kernel) (by decide +kernel), big_t 879 (by decide +kernel) (by decide +kernel), by decide +kernel, by decide +kernel, by decide +kernel⟩, big_t 878 (by decide +kernel) (by decide +kernel), big_s 52 (by decide +kernel) (by decide +kernel), TX4, 24, rfl⟩
theorem fC_X4_211 : j_S RX4 211 mX4_common 2 := ⟨⟨Or.inl (big_t 900 (by decide +kernel) (by decide +kernel)), big_t 6 (by decide +kernel) (by decide +kernel), big_t 902 (by decide +kernel) (by decide +kernel), by decide +kernel, by decide +kernel, by decide +kernel⟩, big_t 901 (by decide +kernel) (by decide +kernel)⟩
theorem fC_X4_218 : j_V RX4 218 mX4_fraction 4 2 := ⟨⟨Or.inl (big_t 896 (by decide +kernel) (by decide +kernel)), big_t 6 (by decide +kernel) (by decide +kernel), big_t 899 (by decide +kernel) (by decide +kernel), by decide +kernel, by decide +kernel, by decide +kernel⟩, big_t 898 (by decide +kernel) (by decide +kernel), big_s 53 (by decide +kernel) (by decide +kernel), TX4, 24, rfl⟩
theorem fC_X4_226 : j_V RX4 226 mX4_kindsThatFit 4 0 := ⟨⟨Or.inl (big_t 917 (by decide +kernel) (by decide +kernel)), big_t 6 (by decide +kernel) (by decide +kernel), big_t 920 (by decide +kernel) (by decide +kernel), by decide +kernel, by decide +kernel, by decide +kernel⟩, big_t 919 (by decide +kernel) (by decide +kernel), big_s 54 (by decide +kernel) (by decide +kernel), TX4, 24, rfl⟩
theorem fC_X4_229 : j_V RX4 229 mX4_greatestPart 4 2 := ⟨⟨Or.inl (big_t 925 (by decide +kernel) (by decide +kernel)), big_t 6 (by decide +kernel) (by decide +kernel), big_t 928 (by decide +kernel) (by decide +kernel), by decide +kernel, by decide +kernel, by decide +kernel⟩, big_t 927 (by decide +kernel) (by decide +kernel), big_s 55 (by decide +kernel) (by decide +kernel), TX4, 24, rfl⟩
theorem fC_X4_232 : j_V RX4 232 mX4_gain 4 2 := ⟨⟨Or.inl (big_t 933 (by decide +kernel) (by decide +kernel)), big_t 6 (by decide +kernel) (by decide +kernel), big_t 936 (by decide +kernel) (by decide +kernel), by decide +kernel, by decide +kernel, by decide +kernel⟩, big_t 935 (by decide +kernel) (by decide +kernel), big_s 56 (by decide +kernel) (by decide +kernel), TX4, 24, rfl⟩
theorem fC_X4_250 : j_V RX4 250 mX4_countOf 4 1 := ⟨⟨Or.inl (big_t 968 (by decide +kernel) (by decide +kernel)), big_t 6 (by decide +kernel) (by decide +kernel), big_t 971 (by decide +kernel) (by decide +kernel), by decide +kernel, by decide +kernel, by decide +kernel⟩, big_t 970 (by decide +kernel) (by decide +kernel), big_s 57 (by decide +kernel) (by decide +kernel), TX4, 24, rfl⟩
end
section
section JZ
variable {G : JG} {sh : List JSh} {M : JMth} {pc : Nat} {lv : List (Option Value)} {st : List Value} {μ : JM} {Q : Option Value → JM → Prop}
theorem vin_lit {i : Int32} {n : Nat} (h : decide (¬ (i < 0 ∨ n ≤ i.toNatClampNeg)) = true) : vp_in i n := by unfold vp_in; exact of_decide_eq_true h
theorem vin_z {i : Int32} {n : Nat} (h : 0 ≤ i.toInt ∧ i.toInt < n) : vp_in i n := vp_in_iff.mpr h
theorem z_bm {a : Int} (h : -2147483648 ≤ a ∧ a < 2147483648) : a.bmod (2 ^ 32) = a := by
  rw [Int.bmod_eq_of_le] <;> omega
theorem z_add {x y : Int32} (h : -2147483648 ≤ x.toInt + y.toInt ∧ x.toInt + y.toInt < 2147483648) : (x + y).toInt = x.toInt + y.toInt := by rw [Int32.toInt_add, z_bm h]
theorem z_sub {x y : Int32} (h : -2147483648 ≤ x.toInt - y.toInt ∧ x.toInt - y.toInt < 2147483648) : (x - y).toInt = x.toInt - y.toInt := by rw [Int32.toInt_sub, z_bm h]
theorem z_mul {x y : Int32} (h : -2147483648 ≤ x.toInt * y.toInt ∧ x.toInt * y.toInt < 2147483648) : (x * y).toInt = x.toInt * y.toInt := by rw [Int32.toInt_mul, z_bm h]
theorem z_neg {x : Int32} (h : -2147483648 < x.toInt) : (-x).toInt = -x.toInt := by
  have h2 := x.toInt_lt
  rw [Int32.toInt_neg, z_bm (by omega)]
theorem z_rng (x : Int32) : -2147483648 ≤ x.toInt ∧ x.toInt < 2147483648 := ⟨x.le_toInt, x.toInt_lt⟩
theorem z_div {x y : Int32} (hx : 0 ≤ x.toInt) (hy : 0 < y.toInt) : (x / y).toInt = x.toInt / y.toInt := by
  have h1 := z_rng x
  have e : x.toInt / y.toInt ≤ x.toInt := Int.ediv_le_self _ hx
  have e2 : 0 ≤ x.toInt / y.toInt := Int.ediv_nonneg hx (by omega)
  rw [Int32.toInt_div, Int.tdiv_eq_ediv_of_nonneg hx, z_bm (by omega)]
theorem z_rem {x y : Int32} (hx : 0 ≤ x.toInt) (hy : 0 < y.toInt) : (x - x / y * y).toInt = x.toInt % y.toInt := by
  have h1 := z_rng x
  have h2 := z_div hx hy
  have h3 := Int.emod_def x.toInt y.toInt
  have h4 := Int.emod_nonneg x.toInt (show y.toInt ≠ 0 by omega)
  have h5 := Int.emod_lt_of_pos x.toInt hy
  have h7 : 0 ≤ y.toInt * (x.toInt / y.toInt) := Int.mul_nonneg (by omega) (Int.ediv_nonneg hx (by omega))
  have h6 : (x / y * y).toInt = x.toInt / y.toInt * y.toInt := by
    rw [z_mul] <;> rw [h2]
    rw [Int.mul_comm]
    omega
  rw [z_sub] <;> rw [h6, Int.mul_comm (x.toInt / y.toInt)]
  · omega
  · omega
theorem z_eq {x y : Int32} (h : x.toInt = y.toInt) : x = y := Int32.toInt_inj.mp h
theorem z_eqI {x y : Int32} : x = y ↔ x.toInt = y.toInt := Int32.toInt_inj.symm
theorem J_iaddZ {x y : Int32} (hd : decode M.2.1 pc = .ok (.iadd, 1)) (h : -2147483648 ≤ x.toInt + y.toInt ∧ x.toInt + y.toInt < 2147483648) (k : ∀ z : Int32, z.toInt = x.toInt + y.toInt → J G sh M (pc + 1) lv (.int z :: st) μ Q) : J G sh M pc lv (.int y :: .int x :: st) μ Q := J_iadd hd (k _ (z_add h))
theorem J_isubZ {x y : Int32} (hd : decode M.2.1 pc = .ok (.isub, 1)) (h : -2147483648 ≤ x.toInt - y.toInt ∧ x.toInt - y.toInt < 2147483648) (k : ∀ z : Int32, z.toInt = x.toInt - y.toInt → J G sh M (pc + 1) lv (.int z :: st) μ Q) : J G sh M pc lv (.int y :: .int x :: st) μ Q := J_isub hd (k _ (z_sub h))
theorem J_imulZ {x y : Int32} (hd : decode M.2.1 pc = .ok (.imul, 1)) (h : -2147483648 ≤ x.toInt * y.toInt ∧ x.toInt * y.toInt < 2147483648) (k : ∀ z : Int32, z.toInt = x.toInt * y.toInt → J G sh M (pc + 1) lv (.int z :: st) μ Q) : J G sh M pc lv (.int y :: .int x :: st) μ Q := J_imul hd (k _ (z_mul h))
theorem J_inegZ {x : Int32} (hd : decode M.2.1 pc = .ok (.ineg, 1)) (h : -2147483648 < x.toInt) (k : ∀ z : Int32, z.toInt = -x.toInt → J G sh M (pc + 1) lv (.int z :: st) μ Q) : J G sh M pc lv (.int x :: st) μ Q := J_ineg hd (k _ (z_neg h))
theorem J_idivZ {x y : Int32} (hd : decode M.2.1 pc = .ok (.idiv, 1)) (h : 0 ≤ x.toInt ∧ 0 < y.toInt) (k : ∀ z : Int32, z.toInt = x.toInt / y.toInt → J G sh M (pc + 1) lv (.int z :: st) μ Q) : J G sh M pc lv (.int y :: .int x :: st) μ Q := J_idiv hd (fun e => absurd h.2 (by rw [e]; decide)) (k _ (z_div h.1 h.2))
theorem J_iremZ {x y : Int32} (hd : decode M.2.1 pc = .ok (.irem, 1)) (h : 0 ≤ x.toInt ∧ 0 < y.toInt) (k : ∀ z : Int32, z.toInt = x.toInt % y.toInt → J G sh M (pc + 1) lv (.int z :: st) μ Q) : J G sh M pc lv (.int y :: .int x :: st) μ Q := J_irem hd (fun e => absurd h.2 (by rw [e]; decide)) (k _ (z_rem h.1 h.2))
theorem J_iincZ {i : Nat} {n : Int} {x : Int32} {lv' : Int32 → List (Option Value)} (hd : decode M.2.1 pc = .ok (.iinc i n, 3)) (hg : lv[i]? = some (some (.int x))) (h : -2147483648 ≤ x.toInt + n ∧ x.toInt + n < 2147483648) (hz : (Int32.ofInt n).toInt = n) (hn : i < M.2.2.1) (ho : j_ok lv i = true) (hl : ∀ v, (lv.set i (some (.int v))) = lv' v) (k : ∀ z : Int32, z.toInt = x.toInt + n → J G sh M (pc + 3) (lv' z) st μ Q) : J G sh M pc lv st μ Q := J_iinc hd hg rfl hn ho (hl _) (k _ (by rw [z_add (by rw [hz]; exact h), hz]))
theorem z0 : (0 : Int32).toInt = 0 := rfl
theorem J_if_eqZ {x : Int32} {off : Int} (tgt : Nat) (hd : decode M.2.1 pc = .ok (.ifCond .eq off, 3)) (ht : (pc : Int) + off = (tgt : Int)) (kt : x.toInt = 0 → J G sh M tgt lv st μ Q) (kf : x.toInt ≠ 0 → J G sh M (pc + 3) lv st μ Q) : J G sh M pc lv (.int x :: st) μ Q := J_if_eq tgt hd ht (fun h => kt (by have := Int32.toInt_inj (x := x) (y := (0 : Int32)); (try simp only [z0] at this); first | exact fun e => h (this.mp e) | exact this.mpr h | omega)) (fun h => kf (by have := Int32.toInt_inj (x := x) (y := (0 : Int32)); (try simp only [z0] at this); first | exact fun e => h (this.mp e) | exact this.mpr h | omega))
theorem J_icmp_eqZ {x y : Int32} {off : Int} (tgt : Nat) (hd : decode M.2.1 pc = .ok (.if_icmp .eq off, 3)) (ht : (pc : Int) + off = (tgt : Int)) (kt : x.toInt = y.toInt → J G sh M tgt lv st μ Q) (kf : x.toInt ≠ y.toInt → J G sh M (pc + 3) lv st μ Q) : J G sh M pc lv (.int y :: .int x :: st) μ Q := J_icmp_eq tgt hd ht (fun h => kt (by have := Int32.toInt_inj (x := x) (y := y); (try simp only [z0] at this); first | exact fun e => h (this.mp e) | exact this.mpr h | omega)) (fun h => kf (by have := Int32.toInt_inj (x := x) (y := y); (try simp only [z0] at this); first | exact fun e => h (this.mp e) | exact this.mpr h | omega))
theorem J_if_neZ {x : Int32} {off : Int} (tgt : Nat) (hd : decode M.2.1 pc = .ok (.ifCond .ne off, 3)) (ht : (pc : Int) + off = (tgt : Int)) (kt : x.toInt ≠ 0 → J G sh M tgt lv st μ Q) (kf : x.toInt = 0 → J G sh M (pc + 3) lv st μ Q) : J G sh M pc lv (.int x :: st) μ Q := J_if_ne tgt hd ht (fun h => kt (by have := Int32.toInt_inj (x := x) (y := (0 : Int32)); (try simp only [z0] at this); first | exact fun e => h (this.mp e) | exact this.mpr h | omega)) (fun h => kf (by have := Int32.toInt_inj (x := x) (y := (0 : Int32)); (try simp only [z0] at this); first | exact fun e => h (this.mp e) | exact this.mpr h | omega))
theorem J_icmp_neZ {x y : Int32} {off : Int} (tgt : Nat) (hd : decode M.2.1 pc = .ok (.if_icmp .ne off, 3)) (ht : (pc : Int) + off = (tgt : Int)) (kt : x.toInt ≠ y.toInt → J G sh M tgt lv st μ Q) (kf : x.toInt = y.toInt → J G sh M (pc + 3) lv st μ Q) : J G sh M pc lv (.int y :: .int x :: st) μ Q := J_icmp_ne tgt hd ht (fun h => kt (by have := Int32.toInt_inj (x := x) (y := y); (try simp only [z0] at this); first | exact fun e => h (this.mp e) | exact this.mpr h | omega)) (fun h => kf (by have := Int32.toInt_inj (x := x) (y := y); (try simp only [z0] at this); first | exact fun e => h (this.mp e) | exact this.mpr h | omega))
theorem J_if_ltZ {x : Int32} {off : Int} (tgt : Nat) (hd : decode M.2.1 pc = .ok (.ifCond .lt off, 3)) (ht : (pc : Int) + off = (tgt : Int)) (kt : x.toInt < 0 → J G sh M tgt lv st μ Q) (kf : 0 ≤ x.toInt → J G sh M (pc + 3) lv st μ Q) : J G sh M pc lv (.int x :: st) μ Q := J_if_lt tgt hd ht (fun h => kt (by have := h; simp only [Int32.lt_iff_toInt_lt, Int32.le_iff_toInt_le, z0] at this; omega)) (fun h => kf (by have := h; simp only [Int32.lt_iff_toInt_lt, Int32.le_iff_toInt_le, z0] at this; omega))
theorem J_icmp_ltZ {x y : Int32} {off : Int} (tgt : Nat) (hd : decode M.2.1 pc = .ok (.if_icmp .lt off, 3)) (ht : (pc : Int) + off = (tgt : Int)) (kt : x.toInt < y.toInt → J G sh M tgt lv st μ Q) (kf : y.toInt ≤ x.toInt → J G sh M (pc + 3) lv st μ Q) : J G sh M pc lv (.int y :: .int x :: st) μ Q := J_icmp_lt tgt hd ht (fun h => kt (by have := h; simp only [Int32.lt_iff_toInt_lt, Int32.le_iff_toInt_le, z0] at this; omega)) (fun h => kf (by have := h; simp only [Int32.lt_iff_toInt_lt, Int32.le_iff_toInt_le, z0] at this; omega))
theorem J_if_geZ {x : Int32} {off : Int} (tgt : Nat) (hd : decode M.2.1 pc = .ok (.ifCond .ge off, 3)) (ht : (pc : Int) + off = (tgt : Int)) (kt : 0 ≤ x.toInt → J G sh M tgt lv st μ Q) (kf : x.toInt < 0 → J G sh M (pc + 3) lv st μ Q) : J G sh M pc lv (.int x :: st) μ Q := J_if_ge tgt hd ht (fun h => kt (by have := h; simp only [Int32.lt_iff_toInt_lt, Int32.le_iff_toInt_le, z0] at this; omega)) (fun h => kf (by have := h; simp only [Int32.lt_iff_toInt_lt, Int32.le_iff_toInt_le, z0] at this; omega))
theorem J_icmp_geZ {x y : Int32} {off : Int} (tgt : Nat) (hd : decode M.2.1 pc = .ok (.if_icmp .ge off, 3)) (ht : (pc : Int) + off = (tgt : Int)) (kt : y.toInt ≤ x.toInt → J G sh M tgt lv st μ Q) (kf : x.toInt < y.toInt → J G sh M (pc + 3) lv st μ Q) : J G sh M pc lv (.int y :: .int x :: st) μ Q := J_icmp_ge tgt hd ht (fun h => kt (by have := h; simp only [Int32.lt_iff_toInt_lt, Int32.le_iff_toInt_le, z0] at this; omega)) (fun h => kf (by have := h; simp only [Int32.lt_iff_toInt_lt, Int32.le_iff_toInt_le, z0] at this; omega))
theorem J_if_gtZ {x : Int32} {off : Int} (tgt : Nat) (hd : decode M.2.1 pc = .ok (.ifCond .gt off, 3)) (ht : (pc : Int) + off = (tgt : Int)) (kt : 0 < x.toInt → J G sh M tgt lv st μ Q) (kf : x.toInt ≤ 0 → J G sh M (pc + 3) lv st μ Q) : J G sh M pc lv (.int x :: st) μ Q := J_if_gt tgt hd ht (fun h => kt (by have := h; simp only [Int32.lt_iff_toInt_lt, Int32.le_iff_toInt_le, z0] at this; omega)) (fun h => kf (by have := h; simp only [Int32.lt_iff_toInt_lt, Int32.le_iff_toInt_le, z0] at this; omega))
theorem J_icmp_gtZ {x y : Int32} {off : Int} (tgt : Nat) (hd : decode M.2.1 pc = .ok (.if_icmp .gt off, 3)) (ht : (pc : Int) + off = (tgt : Int)) (kt : y.toInt < x.toInt → J G sh M tgt lv st μ Q) (kf : x.toInt ≤ y.toInt → J G sh M (pc + 3) lv st μ Q) : J G sh M pc lv (.int y :: .int x :: st) μ Q := J_icmp_gt tgt hd ht (fun h => kt (by have := h; simp only [Int32.lt_iff_toInt_lt, Int32.le_iff_toInt_le, z0] at this; omega)) (fun h => kf (by have := h; simp only [Int32.lt_iff_toInt_lt, Int32.le_iff_toInt_le, z0] at this; omega))
theorem J_if_leZ {x : Int32} {off : Int} (tgt : Nat) (hd : decode M.2.1 pc = .ok (.ifCond .le off, 3)) (ht : (pc : Int) + off = (tgt : Int)) (kt : x.toInt ≤ 0 → J G sh M tgt lv st μ Q) (kf : 0 < x.toInt → J G sh M (pc + 3) lv st μ Q) : J G sh M pc lv (.int x :: st) μ Q := J_if_le tgt hd ht (fun h => kt (by have := h; simp only [Int32.lt_iff_toInt_lt, Int32.le_iff_toInt_le, z0] at this; omega)) (fun h => kf (by have := h; simp only [Int32.lt_iff_toInt_lt, Int32.le_iff_toInt_le, z0] at this; omega))
theorem J_icmp_leZ {x y : Int32} {off : Int} (tgt : Nat) (hd : decode M.2.1 pc = .ok (.if_icmp .le off, 3)) (ht : (pc : Int) + off = (tgt : Int)) (kt : x.toInt ≤ y.toInt → J G sh M tgt lv st μ Q) (kf : y.toInt < x.toInt → J G sh M (pc + 3) lv st μ Q) : J G sh M pc lv (.int y :: .int x :: st) μ Q := J_icmp_le tgt hd ht (fun h => kt (by have := h; simp only [Int32.lt_iff_toInt_lt, Int32.le_iff_toInt_le, z0] at this; omega)) (fun h => kf (by have := h; simp only [Int32.lt_iff_toInt_lt, Int32.le_iff_toInt_le, z0] at this; omega))
theorem J_if_eq_T {x : Int32} {off : Int} (tgt : Nat) (hd : decode M.2.1 pc = .ok (.ifCond .eq off, 3)) (ht : (pc : Int) + off = (tgt : Int)) (h : x = 0) (k : J G sh M tgt lv st μ Q) : J G sh M pc lv (.int x :: st) μ Q := J_if_eq tgt hd ht (fun _ => k) (fun z => absurd h z)
theorem J_if_eq_F {x : Int32} {off : Int} (tgt : Nat) (hd : decode M.2.1 pc = .ok (.ifCond .eq off, 3)) (ht : (pc : Int) + off = (tgt : Int)) (h : ¬ x = 0) (k : J G sh M (pc + 3) lv st μ Q) : J G sh M pc lv (.int x :: st) μ Q := J_if_eq tgt hd ht (fun z => absurd z h) (fun _ => k)
theorem J_icmp_eq_T {x y : Int32} {off : Int} (tgt : Nat) (hd : decode M.2.1 pc = .ok (.if_icmp .eq off, 3)) (ht : (pc : Int) + off = (tgt : Int)) (h : x = y) (k : J G sh M tgt lv st μ Q) : J G sh M pc lv (.int y :: .int x :: st) μ Q := J_icmp_eq tgt hd ht (fun _ => k) (fun z => absurd h z)
theorem J_icmp_eq_F {x y : Int32} {off : Int} (tgt : Nat) (hd : decode M.2.1 pc = .ok (.if_icmp .eq off, 3)) (ht : (pc : Int) + off = (tgt : Int)) (h : ¬ x = y) (k : J G sh M (pc + 3) lv st μ Q) : J G sh M pc lv (.int y :: .int x :: st) μ Q := J_icmp_eq tgt hd ht (fun z => absurd z h) (fun _ => k)
theorem J_if_ne_T {x : Int32} {off : Int} (tgt : Nat) (hd : decode M.2.1 pc = .ok (.ifCond .ne off, 3)) (ht : (pc : Int) + off = (tgt : Int)) (h : ¬ x = 0) (k : J G sh M tgt lv st μ Q) : J G sh M pc lv (.int x :: st) μ Q := J_if_ne tgt hd ht (fun _ => k) (fun z => absurd z h)
theorem J_if_ne_F {x : Int32} {off : Int} (tgt : Nat) (hd : decode M.2.1 pc = .ok (.ifCond .ne off, 3)) (ht : (pc : Int) + off = (tgt : Int)) (h : x = 0) (k : J G sh M (pc + 3) lv st μ Q) : J G sh M pc lv (.int x :: st) μ Q := J_if_ne tgt hd ht (fun z => absurd h z) (fun _ => k)
theorem J_icmp_ne_T {x y : Int32} {off : Int} (tgt : Nat) (hd : decode M.2.1 pc = .ok (.if_icmp .ne off, 3)) (ht : (pc : Int) + off = (tgt : Int)) (h : ¬ x = y) (k : J G sh M tgt lv st μ Q) : J G sh M pc lv (.int y :: .int x :: st) μ Q := J_icmp_ne tgt hd ht (fun _ => k) (fun z => absurd z h)
theorem J_icmp_ne_F {x y : Int32} {off : Int} (tgt : Nat) (hd : decode M.2.1 pc = .ok (.if_icmp .ne off, 3)) (ht : (pc : Int) + off = (tgt : Int)) (h : x = y) (k : J G sh M (pc + 3) lv st μ Q) : J G sh M pc lv (.int y :: .int x :: st) μ Q := J_icmp_ne tgt hd ht (fun z => absurd h z) (fun _ => k)
theorem J_if_lt_T {x : Int32} {off : Int} (tgt : Nat) (hd : decode M.2.1 pc = .ok (.ifCond .lt off, 3)) (ht : (pc : Int) + off = (tgt : Int)) (h : x < 0) (k : J G sh M tgt lv st μ Q) : J G sh M pc lv (.int x :: st) μ Q := J_if_lt tgt hd ht (fun _ => k) (fun z => absurd h z)
theorem J_if_lt_F {x : Int32} {off : Int} (tgt : Nat) (hd : decode M.2.1 pc = .ok (.ifCond .lt off, 3)) (ht : (pc : Int) + off = (tgt : Int)) (h : ¬ x < 0) (k : J G sh M (pc + 3) lv st μ Q) : J G sh M pc lv (.int x :: st) μ Q := J_if_lt tgt hd ht (fun z => absurd z h) (fun _ => k)
theorem J_icmp_lt_T {x y : Int32} {off : Int} (tgt : Nat) (hd : decode M.2.1 pc = .ok (.if_icmp .lt off, 3)) (ht : (pc : Int) + off = (tgt : Int)) (h : x < y) (k : J G sh M tgt lv st μ Q) : J G sh M pc lv (.int y :: .int x :: st) μ Q := J_icmp_lt tgt hd ht (fun _ => k) (fun z => absurd h z)
theorem J_icmp_lt_F {x y : Int32} {off : Int} (tgt : Nat) (hd : decode M.2.1 pc = .ok (.if_icmp .lt off, 3)) (ht : (pc : Int) + off = (tgt : Int)) (h : ¬ x < y) (k : J G sh M (pc + 3) lv st μ Q) : J G sh M pc lv (.int y :: .int x :: st) μ Q := J_icmp_lt tgt hd ht (fun z => absurd z h) (fun _ => k)
theorem J_if_ge_T {x : Int32} {off : Int} (tgt : Nat) (hd : decode M.2.1 pc = .ok (.ifCond .ge off, 3)) (ht : (pc : Int) + off = (tgt : Int)) (h : 0 ≤ x) (k : J G sh M tgt lv st μ Q) : J G sh M pc lv (.int x :: st) μ Q := J_if_ge tgt hd ht (fun _ => k) (fun z => absurd h z)
theorem J_if_ge_F {x : Int32} {off : Int} (tgt : Nat) (hd : decode M.2.1 pc = .ok (.ifCond .ge off, 3)) (ht : (pc : Int) + off = (tgt : Int)) (h : ¬ 0 ≤ x) (k : J G sh M (pc + 3) lv st μ Q) : J G sh M pc lv (.int x :: st) μ Q := J_if_ge tgt hd ht (fun z => absurd z h) (fun _ => k)
theorem J_icmp_ge_T {x y : Int32} {off : Int} (tgt : Nat) (hd : decode M.2.1 pc = .ok (.if_icmp .ge off, 3)) (ht : (pc : Int) + off = (tgt : Int)) (h : y ≤ x) (k : J G sh M tgt lv st μ Q) : J G sh M pc lv (.int y :: .int x :: st) μ Q := J_icmp_ge tgt hd ht (fun _ => k) (fun z => absurd h z)
theorem J_icmp_ge_F {x y : Int32} {off : Int} (tgt : Nat) (hd : decode M.2.1 pc = .ok (.if_icmp .ge off, 3)) (ht : (pc : Int) + off = (tgt : Int)) (h : ¬ y ≤ x) (k : J G sh M (pc + 3) lv st μ Q) : J G sh M pc lv (.int y :: .int x :: st) μ Q := J_icmp_ge tgt hd ht (fun z => absurd z h) (fun _ => k)
theorem J_if_gt_T {x : Int32} {off : Int} (tgt : Nat) (hd : decode M.2.1 pc = .ok (.ifCond .gt off, 3)) (ht : (pc : Int) + off = (tgt : Int)) (h : 0 < x) (k : J G sh M tgt lv st μ Q) : J G sh M pc lv (.int x :: st) μ Q := J_if_gt tgt hd ht (fun _ => k) (fun z => absurd h z)
theorem J_if_gt_F {x : Int32} {off : Int} (tgt : Nat) (hd : decode M.2.1 pc = .ok (.ifCond .gt off, 3)) (ht : (pc : Int) + off = (tgt : Int)) (h : ¬ 0 < x) (k : J G sh M (pc + 3) lv st μ Q) : J G sh M pc lv (.int x :: st) μ Q := J_if_gt tgt hd ht (fun z => absurd z h) (fun _ => k)
theorem J_icmp_gt_T {x y : Int32} {off : Int} (tgt : Nat) (hd : decode M.2.1 pc = .ok (.if_icmp .gt off, 3)) (ht : (pc : Int) + off = (tgt : Int)) (h : y < x) (k : J G sh M tgt lv st μ Q) : J G sh M pc lv (.int y :: .int x :: st) μ Q := J_icmp_gt tgt hd ht (fun _ => k) (fun z => absurd h z)
theorem J_icmp_gt_F {x y : Int32} {off : Int} (tgt : Nat) (hd : decode M.2.1 pc = .ok (.if_icmp .gt off, 3)) (ht : (pc : Int) + off = (tgt : Int)) (h : ¬ y < x) (k : J G sh M (pc + 3) lv st μ Q) : J G sh M pc lv (.int y :: .int x :: st) μ Q := J_icmp_gt tgt hd ht (fun z => absurd z h) (fun _ => k)
theorem J_if_le_T {x : Int32} {off : Int} (tgt : Nat) (hd : decode M.2.1 pc = .ok (.ifCond .le off, 3)) (ht : (pc : Int) + off = (tgt : Int)) (h : x ≤ 0) (k : J G sh M tgt lv st μ Q) : J G sh M pc lv (.int x :: st) μ Q := J_if_le tgt hd ht (fun _ => k) (fun z => absurd h z)
theorem J_if_le_F {x : Int32} {off : Int} (tgt : Nat) (hd : decode M.2.1 pc = .ok (.ifCond .le off, 3)) (ht : (pc : Int) + off = (tgt : Int)) (h : ¬ x ≤ 0) (k : J G sh M (pc + 3) lv st μ Q) : J G sh M pc lv (.int x :: st) μ Q := J_if_le tgt hd ht (fun z => absurd z h) (fun _ => k)
theorem J_icmp_le_T {x y : Int32} {off : Int} (tgt : Nat) (hd : decode M.2.1 pc = .ok (.if_icmp .le off, 3)) (ht : (pc : Int) + off = (tgt : Int)) (h : x ≤ y) (k : J G sh M tgt lv st μ Q) : J G sh M pc lv (.int y :: .int x :: st) μ Q := J_icmp_le tgt hd ht (fun _ => k) (fun z => absurd h z)
theorem J_icmp_le_F {x y : Int32} {off : Int} (tgt : Nat) (hd : decode M.2.1 pc = .ok (.if_icmp .le off, 3)) (ht : (pc : Int) + off = (tgt : Int)) (h : ¬ x ≤ y) (k : J G sh M (pc + 3) lv st μ Q) : J G sh M pc lv (.int y :: .int x :: st) μ Q := J_icmp_le tgt hd ht (fun z => absurd z h) (fun _ => k)
theorem J_ialdZ {o n : Nat} {i : Int32} (ho : sh[o]? = some (.inr (0, n))) (hi : 0 ≤ i.toInt ∧ i.toInt < n) (hd : decode M.2.1 pc = .ok (.iaload, 1)) (kk : J G sh M (pc + 1) lv (.int (μ.1 o i.toInt.toNat) :: st) μ Q) : J G sh M pc lv (.int i :: .ref o :: st) μ Q := J_iald ho (vin_z hi) hd kk
theorem J_zaldZ {o n : Nat} {i : Int32} (ho : sh[o]? = some (.inr (1, n))) (hi : 0 ≤ i.toInt ∧ i.toInt < n) (hd : decode M.2.1 pc = .ok (.baload, 1)) (kk : J G sh M (pc + 1) lv (.int (μ.1 o i.toInt.toNat) :: st) μ Q) : J G sh M pc lv (.int i :: .ref o :: st) μ Q := J_zald ho (vin_z hi) hd kk
theorem J_iastZ {o n : Nat} {i x : Int32} (ho : sh[o]? = some (.inr (0, n))) (hi : 0 ≤ i.toInt ∧ i.toInt < n) (hd : decode M.2.1 pc = .ok (.iastore, 1)) (kk : J G sh M (pc + 1) lv st (jI μ o i.toInt.toNat x) Q) : J G sh M pc lv (.int x :: .int i :: .ref o :: st) μ Q := J_iast ho (vin_z hi) hd kk
theorem J_zastZ {o n : Nat} {i x : Int32} (ho : sh[o]? = some (.inr (1, n))) (hi : 0 ≤ i.toInt ∧ i.toInt < n) (hx : x = 0 ∨ x = 1) (hd : decode M.2.1 pc = .ok (.bastore, 1)) (kk : J G sh M (pc + 1) lv st (jI μ o i.toInt.toNat x) Q) : J G sh M pc lv (.int x :: .int i :: .ref o :: st) μ Q := J_zast ho (vin_z hi) hx hd kk
theorem J_tiZ {j : Nat} {x : String × Nat × (Nat → Int32)} {i : Int32} (hj : j_tb[j]? = some x) (hi : 0 ≤ i.toInt ∧ i.toInt < x.2.1) (hd : decode M.2.1 pc = .ok (.iaload, 1)) (kk : J G sh M (pc + 1) lv (.int (x.2.2 i.toInt.toNat) :: st) μ Q) : J G sh M pc lv (.int i :: .ref (1000 + j) :: st) μ Q := J_ti hj (vin_z hi) hd kk
end JZ
end
section
section JW
variable {G : JG} {sh : List JSh} {M : JMth} {pc : Nat} {lv : List (Option Value)} {st : List Value} {μ : JM} {Q : Option Value → JM → Prop}
theorem J_iaddW {x y : Int32} (a b : Int) (hx : x.toInt = a) (hy : y.toInt = b) (hd : decode M.2.1 pc = .ok (.iadd, 1)) (h : -2147483648 ≤ a + b ∧ a + b < 2147483648) (k : ∀ z : Int32, z.toInt = a + b → J G sh M (pc + 1) lv (.int z :: st) μ Q) : J G sh M pc lv (.int y :: .int x :: st) μ Q := by
  subst hx hy
  exact J_iaddZ hd h k
theorem J_isubW {x y : Int32} (a b : Int) (hx : x.toInt = a) (hy : y.toInt = b) (hd : decode M.2.1 pc = .ok (.isub, 1)) (h : -2147483648 ≤ a - b ∧ a - b < 2147483648) (k : ∀ z : Int32, z.toInt = a - b → J G sh M (pc + 1) lv (.int z :: st) μ Q) : J G sh M pc lv (.int y :: .int x :: st) μ Q := by
  subst hx hy
  exact J_isubZ hd h k
theorem J_imulW {x y : Int32} (a b : Int) (hx : x.toInt = a) (hy : y.toInt = b) (hd : decode M.2.1 pc = .ok (.imul, 1)) (h : -2147483648 ≤ a * b ∧ a * b < 2147483648) (k : ∀ z : Int32, z.toInt = a * b → J G sh M (pc + 1) lv (.int z :: st) μ Q) : J G sh M pc lv (.int y :: .int x :: st) μ Q := by
  subst hx hy
  exact J_imulZ hd h k
theorem J_idivW {x y : Int32} (a b : Int) (hx : x.toInt = a) (hy : y.toInt = b) (hd : decode M.2.1 pc = .ok (.idiv, 1)) (h : 0 ≤ a ∧ 0 < b) (k : ∀ z : Int32, z.toInt = a / b → J G sh M (pc + 1) lv (.int z :: st) μ Q) : J G sh M pc lv (.int y :: .int x :: st) μ Q := by
  subst hx hy
  exact J_idivZ hd h k
theorem J_iremW {x y : Int32} (a b : Int) (hx : x.toInt = a) (hy : y.toInt = b) (hd : decode M.2.1 pc = .ok (.irem, 1)) (h : 0 ≤ a ∧ 0 < b) (k : ∀ z : Int32, z.toInt = a % b → J G sh M (pc + 1) lv (.int z :: st) μ Q) : J G sh M pc lv (.int y :: .int x :: st) μ Q := by
  subst hx hy
  exact J_iremZ hd h k
theorem J_inegW {x : Int32} (a : Int) (hx : x.toInt = a) (hd : decode M.2.1 pc = .ok (.ineg, 1)) (h : -2147483648 < a) (k : ∀ z : Int32, z.toInt = -a → J G sh M (pc + 1) lv (.int z :: st) μ Q) : J G sh M pc lv (.int x :: st) μ Q := by
  subst hx
  exact J_inegZ hd h k
theorem J_iincW' {i : Nat} {n : Int} {x : Int32} (a : Int) (hx : x.toInt = a) {lv' : Int32 → List (Option Value)} (hd : decode M.2.1 pc = .ok (.iinc i n, 3)) (hg : lv[i]? = some (some (.int x))) (h : -2147483648 ≤ a + n ∧ a + n < 2147483648) (hz : (Int32.ofInt n).toInt = n) (hn : i < M.2.2.1) (ho : j_ok lv i = true) (hl : ∀ v, (lv.set i (some (.int v))) = lv' v) (k : ∀ z : Int32, z.toInt = a + n → J G sh M (pc + 3) (lv' z) st μ Q) : J G sh M pc lv st μ Q := by
  subst hx
  exact J_iincZ hd hg h hz hn ho hl k
theorem J_if_eqW {x : Int32} (a : Int) (hx : x.toInt = a) {off : Int} (tgt : Nat) (hd : decode M.2.1 pc = .ok (.ifCond .eq off, 3)) (ht : (pc : Int) + off = (tgt : Int)) (kt : a = 0 → J G sh M tgt lv st μ Q) (kf : a ≠ 0 → J G sh M (pc + 3) lv st μ Q) : J G sh M pc lv (.int x :: st) μ Q := by
  subst hx
  exact J_if_eqZ tgt hd ht kt kf
theorem J_icmp_eqW {x y : Int32} (a b : Int) (hx : x.toInt = a) (hy : y.toInt = b) {off : Int} (tgt : Nat) (hd : decode M.2.1 pc = .ok (.if_icmp .eq off, 3)) (ht : (pc : Int) + off = (tgt : Int)) (kt : a = b → J G sh M tgt lv st μ Q) (kf : a ≠ b → J G sh M (pc + 3) lv st μ Q) : J G sh M pc lv (.int y :: .int x :: st) μ Q := by
  subst hx hy
  exact J_icmp_eqZ tgt hd ht kt kf
theorem J_if_neW {x : Int32} (a : Int) (hx : x.toInt = a) {off : Int} (tgt : Nat) (hd : decode M.2.1 pc = .ok (.ifCond .ne off, 3)) (ht : (pc : Int) + off = (tgt : Int)) (kt : a ≠ 0 → J G sh M tgt lv st μ Q) (kf : a = 0 → J G sh M (pc + 3) lv st μ Q) : J G sh M pc lv (.int x :: st) μ Q := by
  subst hx
  exact J_if_neZ tgt hd ht kt kf
theorem J_icmp_neW {x y : Int32} (a b : Int) (hx : x.toInt = a) (hy : y.toInt = b) {off : Int} (tgt : Nat) (hd : decode M.2.1 pc = .ok (.if_icmp .ne off, 3)) (ht : (pc : Int) + off = (tgt : Int)) (kt : a ≠ b → J G sh M tgt lv st μ Q) (kf : a = b → J G sh M (pc + 3) lv st μ Q) : J G sh M pc lv (.int y :: .int x :: st) μ Q := by
  subst hx hy
  exact J_icmp_neZ tgt hd ht kt kf
theorem J_if_ltW {x : Int32} (a : Int) (hx : x.toInt = a) {off : Int} (tgt : Nat) (hd : decode M.2.1 pc = .ok (.ifCond .lt off, 3)) (ht : (pc : Int) + off = (tgt : Int)) (kt : a < 0 → J G sh M tgt lv st μ Q) (kf : 0 ≤ a → J G sh M (pc + 3) lv st μ Q) : J G sh M pc lv (.int x :: st) μ Q := by
  subst hx
  exact J_if_ltZ tgt hd ht kt kf
theorem J_icmp_ltW {x y : Int32} (a b : Int) (hx : x.toInt = a) (hy : y.toInt = b) {off : Int} (tgt : Nat) (hd : decode M.2.1 pc = .ok (.if_icmp .lt off, 3)) (ht : (pc : Int) + off = (tgt : Int)) (kt : a < b → J G sh M tgt lv st μ Q) (kf : b ≤ a → J G sh M (pc + 3) lv st μ Q) : J G sh M pc lv (.int y :: .int x :: st) μ Q := by
  subst hx hy
  exact J_icmp_ltZ tgt hd ht kt kf
theorem J_if_geW {x : Int32} (a : Int) (hx : x.toInt = a) {off : Int} (tgt : Nat) (hd : decode M.2.1 pc = .ok (.ifCond .ge off, 3)) (ht : (pc : Int) + off = (tgt : Int)) (kt : 0 ≤ a → J G sh M tgt lv st μ Q) (kf : a < 0 → J G sh M (pc + 3) lv st μ Q) : J G sh M pc lv (.int x :: st) μ Q := by
  subst hx
  exact J_if_geZ tgt hd ht kt kf
theorem J_icmp_geW {x y : Int32} (a b : Int) (hx : x.toInt = a) (hy : y.toInt = b) {off : Int} (tgt : Nat) (hd : decode M.2.1 pc = .ok (.if_icmp .ge off, 3)) (ht : (pc : Int) + off = (tgt : Int)) (kt : b ≤ a → J G sh M tgt lv st μ Q) (kf : a < b → J G sh M (pc + 3) lv st μ Q) : J G sh M pc lv (.int y :: .int x :: st) μ Q := by
  subst hx hy
  exact J_icmp_geZ tgt hd ht kt kf
theorem J_if_gtW {x : Int32} (a : Int) (hx : x.toInt = a) {off : Int} (tgt : Nat) (hd : decode M.2.1 pc = .ok (.ifCond .gt off, 3)) (ht : (pc : Int) + off = (tgt : Int)) (kt : 0 < a → J G sh M tgt lv st μ Q) (kf : a ≤ 0 → J G sh M (pc + 3) lv st μ Q) : J G sh M pc lv (.int x :: st) μ Q := by
  subst hx
  exact J_if_gtZ tgt hd ht kt kf
theorem J_icmp_gtW {x y : Int32} (a b : Int) (hx : x.toInt = a) (hy : y.toInt = b) {off : Int} (tgt : Nat) (hd : decode M.2.1 pc = .ok (.if_icmp .gt off, 3)) (ht : (pc : Int) + off = (tgt : Int)) (kt : b < a → J G sh M tgt lv st μ Q) (kf : a ≤ b → J G sh M (pc + 3) lv st μ Q) : J G sh M pc lv (.int y :: .int x :: st) μ Q := by
  subst hx hy
  exact J_icmp_gtZ tgt hd ht kt kf
theorem J_if_leW {x : Int32} (a : Int) (hx : x.toInt = a) {off : Int} (tgt : Nat) (hd : decode M.2.1 pc = .ok (.ifCond .le off, 3)) (ht : (pc : Int) + off = (tgt : Int)) (kt : a ≤ 0 → J G sh M tgt lv st μ Q) (kf : 0 < a → J G sh M (pc + 3) lv st μ Q) : J G sh M pc lv (.int x :: st) μ Q := by
  subst hx
  exact J_if_leZ tgt hd ht kt kf
theorem J_icmp_leW {x y : Int32} (a b : Int) (hx : x.toInt = a) (hy : y.toInt = b) {off : Int} (tgt : Nat) (hd : decode M.2.1 pc = .ok (.if_icmp .le off, 3)) (ht : (pc : Int) + off = (tgt : Int)) (kt : a ≤ b → J G sh M tgt lv st μ Q) (kf : b < a → J G sh M (pc + 3) lv st μ Q) : J G sh M pc lv (.int y :: .int x :: st) μ Q := by
  subst hx hy
  exact J_icmp_leZ tgt hd ht kt kf
theorem z_nat {a : Int} {j : Nat} (h : a = (j : Int)) : a.toNat = j := by omega
theorem J_ialdW {o n : Nat} {i : Int32} (j : Nat) (hj : i.toInt = (j : Int)) (ho : sh[o]? = some (.inr (0, n))) (hi : j < n) (hd : decode M.2.1 pc = .ok (.iaload, 1)) (kk : J G sh M (pc + 1) lv (.int (μ.1 o j) :: st) μ Q) : J G sh M pc lv (.int i :: .ref o :: st) μ Q := J_ialdZ ho (by omega) hd (by rw [z_nat hj]; exact kk)
theorem J_zaldW {o n : Nat} {i : Int32} (j : Nat) (hj : i.toInt = (j : Int)) (ho : sh[o]? = some (.inr (1, n))) (hi : j < n) (hd : decode M.2.1 pc = .ok (.baload, 1)) (kk : J G sh M (pc + 1) lv (.int (μ.1 o j) :: st) μ Q) : J G sh M pc lv (.int i :: .ref o :: st) μ Q := J_zaldZ ho (by omega) hd (by rw [z_nat hj]; exact kk)
theorem J_tiW {t : Nat} {x : String × Nat × (Nat → Int32)} {i : Int32} (j : Nat) (hj : i.toInt = (j : Int)) (ht : j_tb[t]? = some x) (hi : j < x.2.1) (hd : decode M.2.1 pc = .ok (.iaload, 1)) (kk : J G sh M (pc + 1) lv (.int (x.2.2 j) :: st) μ Q) : J G sh M pc lv (.int i :: .ref (1000 + t) :: st) μ Q := J_tiZ ht (by omega) hd (by rw [z_nat hj]; exact kk)
theorem J_iastW {o n : Nat} {i x : Int32} (j : Nat) (hj : i.toInt = (j : Int)) (ho : sh[o]? = some (.inr (0, n))) (hi : j < n) (hd : decode M.2.1 pc = .ok (.iastore, 1)) (kk : ∀ μ' : JM, μ' = jI μ o j x → J G sh M (pc + 1) lv st μ' Q) : J G sh M pc lv (.int x :: .int i :: .ref o :: st) μ Q := J_iastZ ho (by omega) hd (by rw [z_nat hj]; exact kk _ rfl)
theorem J_zastW {o n : Nat} {i x : Int32} (j : Nat) (hj : i.toInt = (j : Int)) (ho : sh[o]? = some (.inr (1, n))) (hi : j < n) (hx : x = 0 ∨ x = 1) (hd : decode M.2.1 pc = .ok (.bastore, 1)) (kk : ∀ μ' : JM, μ' = jI μ o j x → J G sh M (pc + 1) lv st μ' Q) : J G sh M pc lv (.int x :: .int i :: .ref o :: st) μ Q := J_zastZ ho (by omega) hx hd (by rw [z_nat hj]; exact kk _ rfl)
theorem J_putIW {index ci k o : Nat} {ks : List Nat} {x : Int32} (hf : j_F M.1.cls index ci k .int false) (ho : sh[o]? = some (.inl (ci, ks))) (hk : ks[k]? = some 0) (hd : decode M.2.1 pc = .ok (.putfield index, 3)) (kk : ∀ μ' : JM, μ' = jI μ o k x → J G sh M (pc + 3) lv st μ' Q) : J G sh M pc lv (.int x :: .ref o :: st) μ Q := J_putI hf ho hk hd (kk _ rfl)
theorem J_putZW {index ci k o : Nat} {ks : List Nat} {x : Int32} (hx : x = 0 ∨ x = 1) (hf : j_F M.1.cls index ci k .boolean false) (ho : sh[o]? = some (.inl (ci, ks))) (hk : ks[k]? = some 0) (hd : decode M.2.1 pc = .ok (.putfield index, 3)) (kk : ∀ μ' : JM, μ' = jI μ o k x → J G sh M (pc + 3) lv st μ' Q) : J G sh M pc lv (.int x :: .ref o :: st) μ Q := J_putZ hx hf ho hk hd (kk _ rfl)
theorem J_putLW {index ci k o : Nat} {ks : List Nat} {x : Int64} (hf : j_F M.1.cls index ci k .long false) (ho : sh[o]? = some (.inl (ci, ks))) (hk : ks[k]? = some 1) (hd : decode M.2.1 pc = .ok (.putfield index, 3)) (kk : ∀ μ' : JM, μ' = jL μ o k x → J G sh M (pc + 3) lv st μ' Q) : J G sh M pc lv (.long x :: .ref o :: st) μ Q := J_putL hf ho hk hd (kk _ rfl)
theorem J_putNW {index ci k o t : Nat} {ks : List Nat} {n : String} (hf : j_F M.1.cls index ci k (.object n) false) (ho : sh[o]? = some (.inl (ci, ks))) (hk : ks[k]? = some (2 * t + 3)) (hd : decode M.2.1 pc = .ok (.putfield index, 3)) (kk : ∀ μ' : JM, μ' = jI μ o k 1 → J G sh M (pc + 3) lv st μ' Q) : J G sh M pc lv (.ref t :: .ref o :: st) μ Q := J_putN hf ho hk hd (kk _ rfl)
theorem J_minW {index : Nat} {x y : Int32} (a b : Int) (hx : x.toInt = a) (hy : y.toInt = b) (hw : j_mw M.1.cls index Lib.Math.min.name Lib.Math.min.code 2 .int) (hf : 1 ≤ M.2.2.2.2.1) (hl : (st.map Value.category).sum + 13 ≤ M.2.2.2.2.2) (hd : decode M.2.1 pc = .ok (.invokestatic index, 3)) (kk : ∀ z : Int32, z.toInt = (if b < a then b else a) → J G sh M (pc + 3) lv (.int z :: st) μ Q) : J G sh M pc lv (.int y :: .int x :: st) μ Q := J_min hw hf hl hd (kk _ (by subst hx hy; simp only [Int32.lt_iff_toInt_lt]; split <;> rfl))
theorem J_maxW {index : Nat} {x y : Int32} (a b : Int) (hx : x.toInt = a) (hy : y.toInt = b) (hw : j_mw M.1.cls index Lib.Math.max.name Lib.Math.max.code 2 .int) (hf : 1 ≤ M.2.2.2.2.1) (hl : (st.map Value.category).sum + 13 ≤ M.2.2.2.2.2) (hd : decode M.2.1 pc = .ok (.invokestatic index, 3)) (kk : ∀ z : Int32, z.toInt = (if a < b then b else a) → J G sh M (pc + 3) lv (.int z :: st) μ Q) : J G sh M pc lv (.int y :: .int x :: st) μ Q := J_max hw hf hl hd (kk _ (by subst hx hy; simp only [Int32.lt_iff_toInt_lt]; split <;> rfl))
/-- an int answer known by its number -/
def j_z (e : Int) (μ : JM) : Option Value → JM → Prop := fun w μ' => (∃ z : Int32, w = some (.int z) ∧ z.toInt = e) ∧ μ' = μ
theorem J_callSi {Mc : JMth} {index n : Nat} {as stk : List Value} {r : Int32} (hf : j_S M.1.cls index Mc n) (hd : decode M.2.1 pc = .ok (.invokestatic index, 3)) (hc : Con G sh Mc as μ (j_is (some (.int r)) μ)) (hn : as.length = n) (hr : j_R M Mc) (hst : stk = as.reverse ++ st) (hw : (st.map Value.category).sum ≤ 8) (k : ∀ z : Int32, z = r → J G sh M (pc + 3) lv (.int z :: st) μ Q) : J G sh M pc lv stk μ Q := J_callS hf hd hc hn hr hst hw (fun w μ2 h => by rw [h.1, h.2]; exact k _ rfl)
theorem J_callSe {Mc : JMth} {index n : Nat} {as stk : List Value} {r : Int32} (hf : j_S M.1.cls index Mc n) (hd : decode M.2.1 pc = .ok (.invokestatic index, 3)) (hc : Con G sh Mc as μ (j_is (some (.int r)) μ)) (hn : as.length = n) (hr : j_R M Mc) (hst : stk = as.reverse ++ st) (hw : (st.map Value.category).sum ≤ 8) (k : J G sh M (pc + 3) lv (.int r :: st) μ Q) : J G sh M pc lv stk μ Q := J_callS hf hd hc hn hr hst hw (fun w μ2 h => by rw [h.1, h.2]; exact k)
theorem J_callSim {Mc : JMth} {index n : Nat} {as stk : List Value} {r : Int32} {μ1 : JM} (hf : j_S M.1.cls index Mc n) (hd : decode M.2.1 pc = .ok (.invokestatic index, 3)) (hc : Con G sh Mc as μ (j_is (some (.int r)) μ1)) (hn : as.length = n) (hr : j_R M Mc) (hst : stk = as.reverse ++ st) (hw : (st.map Value.category).sum ≤ 8) (k : ∀ (z : Int32) (μ' : JM), z = r → μ' = μ1 → J G sh M (pc + 3) lv (.int z :: st) μ' Q) : J G sh M pc lv stk μ Q := J_callS hf hd hc hn hr hst hw (fun w μ2 h => by rw [h.1, h.2]; exact k _ _ rfl rfl)
theorem J_callSl {Mc : JMth} {index n : Nat} {as stk : List Value} {r : Int64} (hf : j_S M.1.cls index Mc n) (hd : decode M.2.1 pc = .ok (.invokestatic index, 3)) (hc : Con G sh Mc as μ (j_is (some (.long r)) μ)) (hn : as.length = n) (hr : j_R M Mc) (hst : stk = as.reverse ++ st) (hw : (st.map Value.category).sum ≤ 8) (k : ∀ z : Int64, z = r → J G sh M (pc + 3) lv (.long z :: st) μ Q) : J G sh M pc lv stk μ Q := J_callS hf hd hc hn hr hst hw (fun w μ2 h => by rw [h.1, h.2]; exact k _ rfl)
theorem J_callSlm {Mc : JMth} {index n : Nat} {as stk : List Value} {r : Int64} {μ1 : JM} (hf : j_S M.1.cls index Mc n) (hd : decode M.2.1 pc = .ok (.invokestatic index, 3)) (hc : Con G sh Mc as μ (j_is (some (.long r)) μ1)) (hn : as.length = n) (hr : j_R M Mc) (hst : stk = as.reverse ++ st) (hw : (st.map Value.category).sum ≤ 8) (k : ∀ (z : Int64) (μ' : JM), z = r → μ' = μ1 → J G sh M (pc + 3) lv (.long z :: st) μ' Q) : J G sh M pc lv stk μ Q := J_callS hf hd hc hn hr hst hw (fun w μ2 h => by rw [h.1, h.2]; exact k _ _ rfl rfl)
theorem J_callSr {Mc : JMth} {index n : Nat} {as stk : List Value} {r : Nat} (hf : j_S M.1.cls index Mc n) (hd : decode M.2.1 pc = .ok (.invokestatic index, 3)) (hc : Con G sh Mc as μ (j_is (some (.ref r)) μ)) (hn : as.length = n) (hr : j_R M Mc) (hst : stk = as.reverse ++ st) (hw : (st.map Value.category).sum ≤ 8) (k : J G sh M (pc + 3) lv (.ref r :: st) μ Q) : J G sh M pc lv stk μ Q := J_callS hf hd hc hn hr hst hw (fun w μ2 h => by rw [h.1, h.2]; exact k)
theorem J_callSv {Mc : JMth} {index n : Nat} {as stk : List Value} {μ1 : JM} (hf : j_S M.1.cls index Mc n) (hd : decode M.2.1 pc = .ok (.invokestatic index, 3)) (hc : Con G sh Mc as μ (j_is none μ1)) (hn : as.length = n) (hr : j_R M Mc) (hst : stk = as.reverse ++ st) (hw : (st.map Value.category).sum ≤ 8) (k : ∀ μ' : JM, μ' = μ1 → J G sh M (pc + 3) lv st μ' Q) : J G sh M pc lv stk μ Q := J_callS hf hd hc hn hr hst hw (fun w μ2 h => by rw [h.1, h.2]; exact k _ rfl)
theorem J_callSz {Mc : JMth} {index n : Nat} {as stk : List Value} {e : Int} (hf : j_S M.1.cls index Mc n) (hd : decode M.2.1 pc = .ok (.invokestatic index, 3)) (hc : Con G sh Mc as μ (j_z e μ)) (hn : as.length = n) (hr : j_R M Mc) (hst : stk = as.reverse ++ st) (hw : (st.map Value.category).sum ≤ 8) (k : ∀ z : Int32, z.toInt = e → J G sh M (pc + 3) lv (.int z :: st) μ Q) : J G sh M pc lv stk μ Q := J_callS hf hd hc hn hr hst hw (fun w μ2 h => by obtain ⟨⟨z, rfl, hz⟩, rfl⟩ := h; exact k z hz)
theorem J_callSzm {Mc : JMth} {index n : Nat} {as stk : List Value} {e : Int} {μ1 : JM} (hf : j_S M.1.cls index Mc n) (hd : decode M.2.1 pc = .ok (.invokestatic index, 3)) (hc : Con G sh Mc as μ (j_z e μ1)) (hn : as.length = n) (hr : j_R M Mc) (hst : stk = as.reverse ++ st) (hw : (st.map Value.category).sum ≤ 8) (k : ∀ (z : Int32) (μ' : JM), z.toInt = e → μ' = μ1 → J G sh M (pc + 3) lv (.int z :: st) μ' Q) : J G sh M pc lv stk μ Q := J_callS hf hd hc hn hr hst hw (fun w μ2 h => by obtain ⟨⟨z, rfl, hz⟩, rfl⟩ := h; exact k z _ hz rfl)
theorem J_callSc {Mc : JMth} {index n : Nat} {as stk : List Value} {cc : Prop} (hf : j_S M.1.cls index Mc n) (hd : decode M.2.1 pc = .ok (.invokestatic index, 3)) (hc : Con G sh Mc as μ (j_b cc μ μ)) (hn : as.length = n) (hr : j_R M Mc) (hst : stk = as.reverse ++ st) (hw : (st.map Value.category).sum ≤ 8) (k1 : cc → J G sh M (pc + 3) lv (.int 1 :: st) μ Q) (k0 : ¬ cc → J G sh M (pc + 3) lv (.int 0 :: st) μ Q) : J G sh M pc lv stk μ Q := J_callSb hf hd hc hn hr hst hw k1 k0
theorem J_callSq {Mc : JMth} {index n : Nat} {as stk : List Value} {Q1 : Option Value → JM → Prop} (hf : j_S M.1.cls index Mc n) (hd : decode M.2.1 pc = .ok (.invokestatic index, 3)) (hc : Con G sh Mc as μ Q1) (hn : as.length = n) (hr : j_R M Mc) (hst : stk = as.reverse ++ st) (hw : (st.map Value.category).sum ≤ 8) (k : ∀ (v : Option Value) (μ' : JM), Q1 v μ' → J G sh M (pc + 3) lv (v.toList ++ st) μ' Q) : J G sh M pc lv stk μ Q := J_callS hf hd hc hn hr hst hw  k
theorem J_callVi {Mc : JMth} {index n o ci : Nat} {ks : List Nat} {as stk : List Value} {r : Int32} (hf : j_V M.1.cls index Mc ci n) (ho : sh[o]? = some (.inl (ci, ks))) (hd : decode M.2.1 pc = .ok (.invokevirtual index, 3)) (hc : Con G sh Mc (.ref o :: as) μ (j_is (some (.int r)) μ)) (hn : as.length = n) (hr : j_R M Mc) (hst : stk = as.reverse ++ .ref o :: st) (hw : (st.map Value.category).sum ≤ 8) (k : ∀ z : Int32, z = r → J G sh M (pc + 3) lv (.int z :: st) μ Q) : J G sh M pc lv stk μ Q := J_callV hf ho hd hc hn hr hst hw (fun w μ2 h => by rw [h.1, h.2]; exact k _ rfl)
theorem J_callVe {Mc : JMth} {index n o ci : Nat} {ks : List Nat} {as stk : List Value} {r : Int32} (hf : j_V M.1.cls index Mc ci n) (ho : sh[o]? = some (.inl (ci, ks))) (hd : decode M.2.1 pc = .ok (.invokevirtual index, 3)) (hc : Con G sh Mc (.ref o :: as) μ (j_is (some (.int r)) μ)) (hn : as.length = n) (hr : j_R M Mc) (hst : stk = as.reverse ++ .ref o :: st) (hw : (st.map Value.category).sum ≤ 8) (k : J G sh M (pc + 3) lv (.int r :: st) μ Q) : J G sh M pc lv stk μ Q := J_callV hf ho hd hc hn hr hst hw (fun w μ2 h => by rw [h.1, h.2]; exact k)
theorem J_callVim {Mc : JMth} {index n o ci : Nat} {ks : List Nat} {as stk : List Value} {r : Int32} {μ1 : JM} (hf : j_V M.1.cls index Mc ci n) (ho : sh[o]? = some (.inl (ci, ks))) (hd : decode M.2.1 pc = .ok (.invokevirtual index, 3)) (hc : Con G sh Mc (.ref o :: as) μ (j_is (some (.int r)) μ1)) (hn : as.length = n) (hr : j_R M Mc) (hst : stk = as.reverse ++ .ref o :: st) (hw : (st.map Value.category).sum ≤ 8) (k : ∀ (z : Int32) (μ' : JM), z = r → μ' = μ1 → J G sh M (pc + 3) lv (.int z :: st) μ' Q) : J G sh M pc lv stk μ Q := J_callV hf ho hd hc hn hr hst hw (fun w μ2 h => by rw [h.1, h.2]; exact k _ _ rfl rfl)
theorem J_callVl {Mc : JMth} {index n o ci : Nat} {ks : List Nat} {as stk : List Value} {r : Int64} (hf : j_V M.1.cls index Mc ci n) (ho : sh[o]? = some (.inl (ci, ks))) (hd : decode M.2.1 pc = .ok (.invokevirtual index, 3)) (hc : Con G sh Mc (.ref o :: as) μ (j_is (some (.long r)) μ)) (hn : as.length = n) (hr : j_R M Mc) (hst : stk = as.reverse ++ .ref o :: st) (hw : (st.map Value.category).sum ≤ 8) (k : ∀ z : Int64, z = r → J G sh M (pc + 3) lv (.long z :: st) μ Q) : J G sh M pc lv stk μ Q := J_callV hf ho hd hc hn hr hst hw (fun w μ2 h => by rw [h.1, h.2]; exact k _ rfl)
theorem J_callVlm {Mc : JMth} {index n o ci : Nat} {ks : List Nat} {as stk : List Value} {r : Int64} {μ1 : JM} (hf : j_V M.1.cls index Mc ci n) (ho : sh[o]? = some (.inl (ci, ks))) (hd : decode M.2.1 pc = .ok (.invokevirtual index, 3)) (hc : Con G sh Mc (.ref o :: as) μ (j_is (some (.long r)) μ1)) (hn : as.length = n) (hr : j_R M Mc) (hst : stk = as.reverse ++ .ref o :: st) (hw : (st.map Value.category).sum ≤ 8) (k : ∀ (z : Int64) (μ' : JM), z = r → μ' = μ1 → J G sh M (pc + 3) lv (.long z :: st) μ' Q) : J G sh M pc lv stk μ Q := J_callV hf ho hd hc hn hr hst hw (fun w μ2 h => by rw [h.1, h.2]; exact k _ _ rfl rfl)
theorem J_callVr {Mc : JMth} {index n o ci : Nat} {ks : List Nat} {as stk : List Value} {r : Nat} (hf : j_V M.1.cls index Mc ci n) (ho : sh[o]? = some (.inl (ci, ks))) (hd : decode M.2.1 pc = .ok (.invokevirtual index, 3)) (hc : Con G sh Mc (.ref o :: as) μ (j_is (some (.ref r)) μ)) (hn : as.length = n) (hr : j_R M Mc) (hst : stk = as.reverse ++ .ref o :: st) (hw : (st.map Value.category).sum ≤ 8) (k : J G sh M (pc + 3) lv (.ref r :: st) μ Q) : J G sh M pc lv stk μ Q := J_callV hf ho hd hc hn hr hst hw (fun w μ2 h => by rw [h.1, h.2]; exact k)
theorem J_callVv {Mc : JMth} {index n o ci : Nat} {ks : List Nat} {as stk : List Value} {μ1 : JM} (hf : j_V M.1.cls index Mc ci n) (ho : sh[o]? = some (.inl (ci, ks))) (hd : decode M.2.1 pc = .ok (.invokevirtual index, 3)) (hc : Con G sh Mc (.ref o :: as) μ (j_is none μ1)) (hn : as.length = n) (hr : j_R M Mc) (hst : stk = as.reverse ++ .ref o :: st) (hw : (st.map Value.category).sum ≤ 8) (k : ∀ μ' : JM, μ' = μ1 → J G sh M (pc + 3) lv st μ' Q) : J G sh M pc lv stk μ Q := J_callV hf ho hd hc hn hr hst hw (fun w μ2 h => by rw [h.1, h.2]; exact k _ rfl)
theorem J_callVz {Mc : JMth} {index n o ci : Nat} {ks : List Nat} {as stk : List Value} {e : Int} (hf : j_V M.1.cls index Mc ci n) (ho : sh[o]? = some (.inl (ci, ks))) (hd : decode M.2.1 pc = .ok (.invokevirtual index, 3)) (hc : Con G sh Mc (.ref o :: as) μ (j_z e μ)) (hn : as.length = n) (hr : j_R M Mc) (hst : stk = as.reverse ++ .ref o :: st) (hw : (st.map Value.category).sum ≤ 8) (k : ∀ z : Int32, z.toInt = e → J G sh M (pc + 3) lv (.int z :: st) μ Q) : J G sh M pc lv stk μ Q := J_callV hf ho hd hc hn hr hst hw (fun w μ2 h => by obtain ⟨⟨z, rfl, hz⟩, rfl⟩ := h; exact k z hz)
theorem J_callVzm {Mc : JMth} {index n o ci : Nat} {ks : List Nat} {as stk : List Value} {e : Int} {μ1 : JM} (hf : j_V M.1.cls index Mc ci n) (ho : sh[o]? = some (.inl (ci, ks))) (hd : decode M.2.1 pc = .ok (.invokevirtual index, 3)) (hc : Con G sh Mc (.ref o :: as) μ (j_z e μ1)) (hn : as.length = n) (hr : j_R M Mc) (hst : stk = as.reverse ++ .ref o :: st) (hw : (st.map Value.category).sum ≤ 8) (k : ∀ (z : Int32) (μ' : JM), z.toInt = e → μ' = μ1 → J G sh M (pc + 3) lv (.int z :: st) μ' Q) : J G sh M pc lv stk μ Q := J_callV hf ho hd hc hn hr hst hw (fun w μ2 h => by obtain ⟨⟨z, rfl, hz⟩, rfl⟩ := h; exact k z _ hz rfl)
theorem J_callVc {Mc : JMth} {index n o ci : Nat} {ks : List Nat} {as stk : List Value} {cc : Prop} (hf : j_V M.1.cls index Mc ci n) (ho : sh[o]? = some (.inl (ci, ks))) (hd : decode M.2.1 pc = .ok (.invokevirtual index, 3)) (hc : Con G sh Mc (.ref o :: as) μ (j_b cc μ μ)) (hn : as.length = n) (hr : j_R M Mc) (hst : stk = as.reverse ++ .ref o :: st) (hw : (st.map Value.category).sum ≤ 8) (k1 : cc → J G sh M (pc + 3) lv (.int 1 :: st) μ Q) (k0 : ¬ cc → J G sh M (pc + 3) lv (.int 0 :: st) μ Q) : J G sh M pc lv stk μ Q := J_callVb hf ho hd hc hn hr hst hw k1 k0
theorem J_callVq {Mc : JMth} {index n o ci : Nat} {ks : List Nat} {as stk : List Value} {Q1 : Option Value → JM → Prop} (hf : j_V M.1.cls index Mc ci n) (ho : sh[o]? = some (.inl (ci, ks))) (hd : decode M.2.1 pc = .ok (.invokevirtual index, 3)) (hc : Con G sh Mc (.ref o :: as) μ Q1) (hn : as.length = n) (hr : j_R M Mc) (hst : stk = as.reverse ++ .ref o :: st) (hw : (st.map Value.category).sum ≤ 8) (k : ∀ (v : Option Value) (μ' : JM), Q1 v μ' → J G sh M (pc + 3) lv (v.toList ++ st) μ' Q) : J G sh M pc lv stk μ Q := J_callV hf ho hd hc hn hr hst hw  k
theorem i2l_z {x : Int32} {a : Int} (h : x.toInt = a) : x.toInt64.toInt = a := (Int32.toInt_toInt64 x).trans h
theorem lgc (x y : Int64) : ((lg_cmp x y).toInt = -1 ∧ x.toInt < y.toInt) ∨ ((lg_cmp x y).toInt = 0 ∧ x.toInt = y.toInt) ∨ ((lg_cmp x y).toInt = 1 ∧ y.toInt < x.toInt) := by
  unfold lg_cmp
  have h1 := Int64.lt_iff_toInt_lt (x := y) (y := x)
  have h2 := Int64.toInt_inj (x := x) (y := y)
  by_cases a : x > y
  · rw [if_pos a]; exact Or.inr (Or.inr ⟨rfl, h1.mp a⟩)
  · rw [if_neg a]
    by_cases b : x = y
    · rw [if_pos b]; exact Or.inr (Or.inl ⟨rfl, by rw [b]⟩)
    · rw [if_neg b]; refine Or.inl ⟨rfl, ?_⟩
      have h3 : ¬ y.toInt < x.toInt := fun z => a (h1.mpr z)
      have h4 : ¬ x.toInt = y.toInt := fun z => b (h2.mp z)
      omega
end JW
end
section
/-! ===== a static table's numbers copied into a row of the world ===== -/
theorem J_copyT {G : JG} {sh : List JSh} {M : JMth} {pc : Nat} {lv : List (Option Value)} {st : List Value} {μ : JM} {Q : Option Value → JM → Prop} {index j o1 n1 n : Nat} {v : Int32} {x : String × Nat × (Nat → Int32)} (hw : j_acw M.1.cls index) (hj : j_tb[j]? = some x) (h1 : sh[o1]? = some (.inr (0, n1))) (hv : v = nI n) (hn : n ≤ x.2.1) (hn1 : n ≤ n1) (hlt : n < 2 ^ 31) (hf : 1 ≤ M.2.2.2.2.1) (hl : (st.map Value.category).sum + (nativeFrameWords "java/lang/System" "arraycopy" 5 + 11) ≤ M.2.2.2.2.2) (hd : decode M.2.1 pc = .ok (.invokestatic index, 3)) (kk : J G sh M (pc + 3) lv st (jC μ o1 (fun i => if i < n then x.2.2 i else μ.1 o1 i)) Q) : J G sh M pc lv (.int v :: .int 0 :: .ref o1 :: .int 0 :: .ref (1000 + j) :: st) μ Q := by
  intro p e s m args below meth c H locs sz ls X
  obtain ⟨x1, x2, x3, x4, x5, x6, x7, x8, x9, xa, xb, xc, xd, xe⟩ := X
  have hcp : va_cpy x.2.2 (μ.1 o1) 0 0 n = fun i => if i < n then x.2.2 i else μ.1 o1 i := by
    funext i
    simp [va_cpy]
  have hset : (j_W G sh μ).set o1 (G.2.2.2.2 o1, .inl (G.2.2.1, n1, .inl (va_cpy x.2.2 (μ.1 o1) 0 0 n))) = j_W G sh (jC μ o1 (fun i => if i < n then x.2.2 i else μ.1 o1 i)) := by
    rw [hcp]
    exact j_w_C h1
  have ha1 : (j_W G sh μ)[o1]? = some (G.2.2.2.2 o1, .inl (G.2.2.1, n1, .inl (μ.1 o1))) := j_w_get h1
  subst hv
  intro T hT Y
  obtain ⟨-, scr, c1, ⟨c2, k0, hk0, cm0, hkk0⟩, c3, c4, -, c6, c7⟩ := xd.2.1 j x hj
  have hsrc : H[j_ad G (1000 + j)]? = some scr := by rw [xc.2.1 _ (Array.getElem?_eq_some_iff.mp c1).1 c7]; exact c1
  have hdst : H[G.2.2.2.2 o1]? = some (vp_cell G.2.2.1 (n1, .inl (μ.1 o1))) := x9 o1 _ ha1
  obtain ⟨-, k1, hk1, cm1, hkk1⟩ := (xa.2 0 (G.2.2.1, .int) rfl).1 n1 (fun i => .int (μ.1 o1 i))
  have hnI : (nI n).toInt = n := nI_toInt hlt
  have hnN : (nI n).toNatClampNeg = n := nI_clamp hlt
  obtain ⟨vm', Y', step⟩ := Y.arraycopy x1 x4 (j_hts x5 hw.1) (j_hts x5 hw.2.1) (j_hts x5 hw.2.2.1) (j_hts x5 hw.2.2.2) (src := j_ad G (1000 + j)) (dst := G.2.2.2.2 o1) (srcPos := 0) (destPos := 0) (n := nI n) (cs := scr) (cd := vp_cell G.2.2.1 (n1, .inl (μ.1 o1)))
    (by rw [hT]; exact hsrc) (by rw [hT]; exact hdst) c2 (fun _ h => by cases h) c3 (fun h => by cases h) hk0 hk1 hkk0 hkk1 (by simp [refKind]) (by decide) (by decide) (nI_pos hlt)
    (by rw [hnI, z0]; omega)
    (by rw [hnI, z0]; show ¬ _ > ((arrV G.2.2.1 n1 (fun i => .int (μ.1 o1 i))).slots.size : Int); rw [arrV_size]; omega)
    (fun vm₁ _ i hi => by
      rw [hnN] at hi
      have e1 : scr.slots.getD ((0 : Int32).toNatClampNeg + i) .null = .int (x.2.2 i) := by
        rw [Array.getD_eq_getD_getElem?, show (0 : Int32).toNatClampNeg + i = i by rw [show (0 : Int32).toNatClampNeg = 0 from rfl, Nat.zero_add], c6 i (by omega)]
        rfl
      exact ⟨by rw [e1]; rfl, by rw [e1]; exact trivial⟩)
    (g := F0 m pc ls ((Value.int (nI n) :: .int 0 :: .ref o1 :: .int 0 :: .ref (1000 + j) :: st).map (j_cv (j_ad G)))) rfl (by rw [x3]; exact xe.1) (rest := st.map (j_cv (j_ad G))) rfl (by rw [x2]; exact hd) hf (by rw [j_cat_map]; show 2 * 0 + _ + _ ≤ M.2.2.2.2.2; omega)
  have e1 : copied scr (vp_cell G.2.2.1 (n1, .inl (μ.1 o1))) 0 0 (nI n) = vp_cell G.2.2.1 (n1, .inl (va_cpy x.2.2 (μ.1 o1) 0 0 n)) := by
    have q := va_copiedX (fun z => Value.int z) scr G.2.2.1 (sp := 0) (dp := 0) (n := n) (n1 := n1) x.2.2 (μ.1 o1) c6 (by omega)
    show (arrV G.2.2.1 n1 (fun i => .int (μ.1 o1 i))).storeRun (0 : Int32).toNatClampNeg (scr.stretch (0 : Int32).toNatClampNeg (nI n).toNatClampNeg) = _
    rw [hnN]
    exact q
  rw [e1] at Y' step
  have hlt2 : G.2.2.2.2 o1 < H.size := (Array.getElem?_eq_some_iff.mp hdst).1
  have hheap : ((T.setVm vm').setCell (G.2.2.2.2 o1) (vp_cell G.2.2.1 (n1, .inl (va_cpy x.2.2 (μ.1 o1) 0 0 n)))).heap = H.setIfInBounds (G.2.2.2.2 o1) (vp_cell G.2.2.1 (n1, .inl (va_cpy x.2.2 (μ.1 o1) 0 0 n))) := by rw [← hT]; rfl
  have oq : ∀ q : Nat, q ≠ G.2.2.2.2 o1 → (H.setIfInBounds (G.2.2.2.2 o1) (vp_cell G.2.2.1 (n1, .inl (va_cpy x.2.2 (μ.1 o1) 0 0 n))))[q]? = H[q]? := fun q hq => by simp [Array.getElem?_setIfInBounds, Ne.symm hq]
  have hP := x9.set xb ha1 (e := .inl (G.2.2.1, n1, .inl (va_cpy x.2.2 (μ.1 o1) 0 0 n))) (show (H.setIfInBounds (G.2.2.2.2 o1) _)[G.2.2.2.2 o1]? = some _ by simp [Array.getElem?_setIfInBounds, hlt2]) oq
  have hD := xb.set (e := .inl (G.2.2.1, n1, .inl (va_cpy x.2.2 (μ.1 o1) 0 0 n))) ha1
  rw [hset] at hP hD
  obtain ⟨t, a1, b1⟩ := kk p e s m args below meth c _ _ sz ls ⟨x1, x2, x3, x4, x5, x6, x7, x8, hP, xa, hD, ⟨by simp; exact xc.1, fun q g1 g2 => by
      rw [oq q (fun z => g2 (by rw [z]; exact xb.2 o1 _ ha1))]
      exact xc.2.1 q g1 g2, fun q hq => by
      rcases List.mem_append.mp hq with h | h
      · exact xc.2.2 q h
      · obtain ⟨z, -, hz⟩ := List.mem_map.mp h
        rw [← hz]
        exact xb.2 o1 _ ha1⟩, xd, xe⟩ _ hheap Y'
  exact ⟨t, step t a1, b1⟩
theorem J_copyW {G : JG} {sh : List JSh} {M : JMth} {pc : Nat} {lv : List (Option Value)} {st : List Value} {μ : JM} {Q : Option Value → JM → Prop} {index o0 o1 n0 n1 : Nat} {sp dp n : Int32} (s d c : Nat) (es : sp.toNatClampNeg = s) (ed : dp.toNatClampNeg = d) (ec : n.toNatClampNeg = c) (hs : ¬ sp < 0) (hp : ¬ dp < 0) (hn : ¬ n < 0) (hw : j_acw M.1.cls index) (h0 : sh[o0]? = some (.inr (0, n0))) (h1 : sh[o1]? = some (.inr (0, n1))) (h4 : s + c ≤ n0) (h5 : d + c ≤ n1) (hf : 1 ≤ M.2.2.2.2.1) (hl : (st.map Value.category).sum + (nativeFrameWords "java/lang/System" "arraycopy" 5 + 11) ≤ M.2.2.2.2.2) (hd : decode M.2.1 pc = .ok (.invokestatic index, 3)) (kk : ∀ μ' : JM, μ' = jC μ o1 (va_cpy (μ.1 o0) (μ.1 o1) s d c) → J G sh M (pc + 3) lv st μ' Q) : J G sh M pc lv (.int n :: .int dp :: .ref o1 :: .int sp :: .ref o0 :: st) μ Q := by
  subst es ed ec
  exact J_copy hw h0 h1 hs hp hn h4 h5 hf hl hd (kk _ rfl)
/-- fewer locals -/
def j_sub : List (Option Value) → List (Option Value) → Prop
  | [], _ => True
  | none :: _, [] => False
  | none :: t, _ :: t' => j_sub t t'
  | some _ :: _, [] => False
  | some v :: t, w :: t' => w = some v ∧ j_sub t t'
theorem j_sub_get : ∀ {l' l : List (Option Value)}, j_sub l' l → ∀ (i : Nat) (v : Value), l'[i]? = some (some v) → l[i]? = some (some v)
  | [], _, _, i, v, h => by simp at h
  | none :: t, [], hs, _, _, _ => hs.elim
  | none :: t, w :: t', hs, 0, v, h => by simp at h
  | none :: t, w :: t', hs, i + 1, v, h => by simpa using j_sub_get (l' := t) (l := t') hs i v (by simpa using h)
  | some u :: t, [], hs, _, _, _ => hs.elim
  | some u :: t, w :: t', hs, 0, v, h => by
    have h2 : u = v := by simpa using h
    rw [← h2]
    simpa using hs.1
  | some u :: t, w :: t', hs, i + 1, v, h => by simpa using j_sub_get (l' := t) (l := t') hs.2 i v (by simpa using h)
theorem J_lv' {G : JG} {sh : List JSh} {M : JMth} {pc : Nat} {lv lv' : List (Option Value)} {st : List Value} {μ : JM} {Q : Option Value → JM → Prop} (hs : j_sub lv' lv) (h : J G sh M pc lv' st μ Q) : J G sh M pc lv st μ Q := J_lv (j_sub_get hs) h
/-- an int by its number -/
def iZ (x : Int) : Int32 := Int32.ofInt x
theorem iZ_of {z : Int32} {x : Int} (h : z.toInt = x) : z = iZ x := by rw [← h]; exact (Int32.ofInt_toInt z).symm
theorem iZ_i {x : Int} (h : -2147483648 ≤ x ∧ x < 2147483648) : (iZ x).toInt = x := by
  unfold iZ
  rw [Int32.toInt_ofInt, z_bm h]
theorem iZ_t (z : Int32) : iZ z.toInt = z := Int32.ofInt_toInt z
theorem J_copyTW {G : JG} {sh : List JSh} {M : JMth} {pc : Nat} {lv : List (Option Value)} {st : List Value} {μ : JM} {Q : Option Value → JM → Prop} {index j o1 n1 n : Nat} {v : Int32} {x : String × Nat × (Nat → Int32)} (hw : j_acw M.1.cls index) (hj : j_tb[j]? = some x) (h1 : sh[o1]? = some (.inr (0, n1))) (hv : v = nI n) (hn : n ≤ x.2.1) (hn1 : n ≤ n1) (hlt : n < 2 ^ 31) (hf : 1 ≤ M.2.2.2.2.1) (hl : (st.map Value.category).sum + (nativeFrameWords "java/lang/System" "arraycopy" 5 + 11) ≤ M.2.2.2.2.2) (hd : decode M.2.1 pc = .ok (.invokestatic index, 3)) (kk : ∀ μ' : JM, μ' = jC μ o1 (fun i => if i < n then x.2.2 i else μ.1 o1 i) → J G sh M (pc + 3) lv st μ' Q) : J G sh M pc lv (.int v :: .int 0 :: .ref o1 :: .int 0 :: .ref (1000 + j) :: st) μ Q := J_copyT hw hj h1 hv hn hn1 hlt hf hl hd (kk _ rfl)
/-- a loop that counts up to N -/
theorem loop_up (N : Nat) {P : Nat → Prop} (h : ∀ i, i ≤ N → (∀ j, i < j → j ≤ N → P j) → P i) : ∀ i, i ≤ N → P i := by
  have key : ∀ d i, N - i ≤ d → i ≤ N → P i := by
    intro d
    induction d with
    | zero => exact fun i hd hi => h i hi (fun j h1 h2 => by omega)
    | succ d ih => exact fun i hd hi => h i hi (fun j h1 h2 => ih j (by omega) h2)
  exact fun i hi => key (N - i) i (Nat.le_refl _) hi
end
section
/-! ===== shapes; the pure words of anger and pride; the class's small static methods ===== -/
abbrev jks (b : Nat) : List Nat := [0, 0, 0, 0, 0, 0, 0, 0, 2 * (b + 1) + 2, 2 * (b + 2) + 2, 2 * (b + 3) + 2, 2 * (b + 4) + 2]
abbrev shC : List JSh := [.inl (3, [4, 14, 24, 34, 44, 48, 1, 1, 0, 0, 0]),
  .inl (0, jks 1), .inr (0, 8), .inr (0, 24), .inr (0, 8), .inr (0, 8), .inl (0, jks 6), .inr (0, 8), .inr (0, 24), .inr (0, 8), .inr (0, 8),
  .inl (0, jks 11), .inr (0, 8), .inr (0, 24), .inr (0, 8), .inr (0, 8), .inl (0, jks 16), .inr (0, 8), .inr (0, 24), .inr (0, 8), .inr (0, 8),
  .inl (1, [46, 0, 0, 0, 0, 0]), .inr (0, 150), .inl (2, [50, 52, 5, 0, 0, 0, 0, 0, 0]), .inr (0, 12), .inr (0, 10000)]
abbrev shM : List JSh := [.inl (4, [4, 6, 8, 10, 0, 0, 0, 0, 12, 0, 0, 0, 0, 0, 14, 16, 0, 18, 20, 22, 1, 1, 24, 26]),
  .inr (0, 73), .inr (0, 6), .inr (0, 6), .inr (0, 3), .inr (0, 150), .inr (0, 73), .inr (0, 9), .inr (0, 20000), .inr (1, 260000), .inr (0, 12), .inr (0, 146), .inr (1, 2)]
/-- the object b is a jar, its four rows behind it -/
def jarAt (b : Nat) : Prop := shC[b]? = some (.inl (0, jks b)) ∧ shC[b + 1]? = some (.inr (0, 8)) ∧ shC[b + 2]? = some (.inr (0, 24)) ∧ shC[b + 3]? = some (.inr (0, 8)) ∧ shC[b + 4]? = some (.inr (0, 8)) ∧ 1 ≤ b
theorem jarAt_1 : jarAt 1 := ⟨rfl, rfl, rfl, rfl, rfl, by decide⟩
theorem jarAt_6 : jarAt 6 := ⟨rfl, rfl, rfl, rfl, rfl, by decide⟩
theorem jarAt_11 : jarAt 11 := ⟨rfl, rfl, rfl, rfl, rfl, by decide⟩
theorem jarAt_16 : jarAt 16 := ⟨rfl, rfl, rfl, rfl, rfl, by decide⟩
def pA (w : Int) : Int := if w = 0 then -1 else if w = 1 then 1 else if w = 2 then 0 else if w = 3 then -2 else if w = 4 then -3 else 2
def pP (w : Int) : Int := if w = 1 then 3 else if w = 2 then 2 else if w = 4 then -1 else 0
/-- half, cut towards 0, of a small number -/
def hf (x : Int) : Int := if 0 ≤ x then x / 2 else -((-x) / 2)
def aZ (k w n : Int) : Int := if k = 1 then hf (pA w) else if k = 2 then pA w - 1 else if k = 4 then (if n % 2 = 0 then hf (pA w) else 0) else if k = 5 then 2 * (pA w - 1) else pA w
def pZ (k w n : Int) : Int := if k = 3 then -pP w else if k = 4 then (if n % 2 = 0 then pP w else 0) else if k = 5 then pP w + 1 else pP w
def kZ (x : Int) : Int := if x < 0 then 0 else if 99 < x then 99 else x
theorem w6 {w : Int} (h : 0 ≤ w ∧ w ≤ 5) : w = 0 ∨ w = 1 ∨ w = 2 ∨ w = 3 ∨ w = 4 ∨ w = 5 := by omega
theorem pA_rng (w : Int) : -3 ≤ pA w ∧ pA w ≤ 2 := by unfold pA; omega
theorem pP_rng (w : Int) : -1 ≤ pP w ∧ pP w ≤ 3 := by unfold pP; omega
theorem hf_rng {x : Int} (h : -3 ≤ x ∧ x ≤ 2) : -1 ≤ hf x ∧ hf x ≤ 1 := by unfold hf; omega
theorem aZ_rng (k w n : Int) : -8 ≤ aZ k w n ∧ aZ k w n ≤ 2 := by
  have h1 := pA_rng w
  have h2 := hf_rng h1
  unfold aZ
  omega
theorem pZ_rng (k w n : Int) : -3 ≤ pZ k w n ∧ pZ k w n ≤ 4 := by
  have h1 := pP_rng w
  unfold pZ
  omega
theorem kZ_rng (x : Int) : 0 ≤ kZ x ∧ kZ x ≤ 99 := by unfold kZ; omega
theorem tA_z {w : Int} (h : 0 ≤ w ∧ w ≤ 5) : (j_tA w.toNat).toInt = pA w := by
  rcases w6 h with rfl | rfl | rfl | rfl | rfl | rfl <;> rfl
theorem tP_z {w : Int} (h : 0 ≤ w ∧ w ≤ 5) : (j_tP w.toNat).toInt = pP w := by
  rcases w6 h with rfl | rfl | rfl | rfl | rfl | rfl <;> rfl
theorem z_hf {x : Int32} (h : -3 ≤ x.toInt ∧ x.toInt ≤ 2) : (x / 2).toInt = hf x.toInt := by
  have h2 : x.toInt = -3 ∨ x.toInt = -2 ∨ x.toInt = -1 ∨ x.toInt = 0 ∨ x.toInt = 1 ∨ x.toInt = 2 := by omega
  rcases h2 with e | e | e | e | e | e
  · rw [show x = -3 from z_eq e]; rfl
  · rw [show x = -2 from z_eq e]; rfl
  · rw [show x = -1 from z_eq e]; rfl
  · rw [show x = 0 from z_eq e]; rfl
  · rw [show x = 1 from z_eq e]; rfl
  · rw [show x = 2 from z_eq e]; rfl
variable {G : JG} {sh : List JSh} {μ : JM}

set_option maxRecDepth 100000 in
set_option maxHeartbeats 4000000 in
theorem c_X3_within {x a b : Int32} (x' a' b' : Int) (hx : x.toInt = x') (ha : a.toInt = a') (hb : b.toInt = b') : Con G sh mX3_within [.int x, .int a, .int b] μ (j_b (a' ≤ x' ∧ x' ≤ b') μ μ) := by
  refine Con_of [some (.int x), some (.int a), some (.int b)] (by decide +kernel) (Nat.le_of_ble_eq_true rfl) (fun _ h => h) ?_
  refine J_iload_n (pc := 0) dX3_within_0 rfl ?_
  refine J_iload_n (pc := 1) dX3_within_1 rfl ?_
  refine J_icmp_ltW (pc := 2) x' a' hx ha 14 dX3_within_2 (by decide) (fun h2 => ?_) (fun h2 => ?_)
  · refine J_iconst (pc := 14) (v := 0) dX3_within_14 (by decide) ?_
    refine J_zret (pc := 15) dX3_within_15 rfl (by decide) ?_
    exact Or.inr ⟨by omega, rfl, rfl⟩
  · refine J_iload_n (pc := 5) dX3_within_5 rfl ?_
    refine J_iload_n (pc := 6) dX3_within_6 rfl ?_
    refine J_icmp_gtW (pc := 7) x' b' hx hb 14 dX3_within_7 (by decide) (fun h7 => ?_) (fun h7 => ?_)
    · refine J_iconst (pc := 14) (v := 0) dX3_within_14 (by decide) ?_
      refine J_zret (pc := 15) dX3_within_15 rfl (by decide) ?_
      exact Or.inr ⟨by omega, rfl, rfl⟩
    · refine J_iconst (pc := 10) (v := 1) dX3_within_10 (by decide) ?_
      refine J_goto (pc := 11) 15 dX3_within_11 (by decide) ?_
      refine J_zret (pc := 15) dX3_within_15 rfl (by decide) ?_
      exact Or.inl ⟨⟨by omega, by omega⟩, rfl, rfl⟩
set_option maxRecDepth 100000 in
set_option maxHeartbeats 4000000 in
theorem c_X3_isWord {x : Int32} (x' : Int) (hx : x.toInt = x') : Con G sh mX3_isWord [.int x] μ (j_b (0 ≤ x' ∧ x' ≤ 5) μ μ) := by
  refine Con_of [some (.int x)] (by decide +kernel) (Nat.le_of_ble_eq_true rfl) (fun _ h => h) ?_
  refine J_iload_n (pc := 0) dX3_isWord_0 rfl ?_
  refine J_iconst (pc := 1) (v := 0) dX3_isWord_1 (by decide) ?_
  refine J_iconst (pc := 2) (v := 5) dX3_isWord_2 (by decide) ?_
  refine J_callSc (pc := 3) fC_X3_60 dX3_isWord_3 (c_X3_within x' 0 5 hx rfl rfl) rfl ⟨Nat.le_of_ble_eq_true rfl, Nat.le_of_ble_eq_true rfl⟩ rfl (Nat.le_of_ble_eq_true rfl) (fun h3 => ?_) (fun h3 => ?_)
  · refine J_zret (pc := 6) dX3_isWord_6 rfl (by decide) ?_
    exact Or.inl ⟨h3, rfl, rfl⟩
  · refine J_zret (pc := 6) dX3_isWord_6 rfl (by decide) ?_
    exact Or.inr ⟨h3, rfl, rfl⟩
set_option maxRecDepth 100000 in
set_option maxHeartbeats 4000000 in
theorem c_X4_in {x a b : Int64} (x' a' b' : Int) (hx : x.toInt = x') (ha : a.toInt = a') (hb : b.toInt = b') : Con G sh mX4_in [.long x, .long a, .long b] μ (j_b (a' ≤ x' ∧ x' ≤ b') μ μ) := by
  have g1 := lgc x a
  have g2 := lgc x b
  refine Con_of [some (.long x), none, some (.long a), none, some (.long b), none] (by decide +kernel) (Nat.le_of_ble_eq_true rfl) (fun _ h => h) ?_
  refine J_lload_n (pc := 0) dX4_in_0 rfl ?_
  refine J_lload_n (pc := 1) dX4_in_1 rfl ?_
  refine J_lcmp (pc := 2) dX4_in_2 ?_
  refine J_if_ltW (pc := 3) ((lg_cmp x a).toInt) rfl 17 dX4_in_3 (by decide) (fun h3 => ?_) (fun h3 => ?_)
  · refine J_iconst (pc := 17) (v := 0) dX4_in_17 (by decide) ?_
    refine J_zret (pc := 18) dX4_in_18 rfl (by decide) ?_
    exact Or.inr ⟨by omega, rfl, rfl⟩
  · refine J_lload_n (pc := 6) dX4_in_6 rfl ?_
    refine J_lload (pc := 7) dX4_in_7 rfl ?_
    refine J_lcmp (pc := 9) dX4_in_9 ?_
    refine J_if_gtW (pc := 10) ((lg_cmp x b).toInt) rfl 17 dX4_in_10 (by decide) (fun h10 => ?_) (fun h10 => ?_)
    · refine J_iconst (pc := 17) (v := 0) dX4_in_17 (by decide) ?_
      refine J_zret (pc := 18) dX4_in_18 rfl (by decide) ?_
      exact Or.inr ⟨by omega, rfl, rfl⟩
    · refine J_iconst (pc := 13) (v := 1) dX4_in_13 (by decide) ?_
      refine J_goto (pc := 14) 18 dX4_in_14 (by decide) ?_
      refine J_zret (pc := 18) dX4_in_18 rfl (by decide) ?_
      exact Or.inl ⟨⟨by omega, by omega⟩, rfl, rfl⟩
set_option maxRecDepth 100000 in
set_option maxHeartbeats 4000000 in
theorem c_X3_at {o n : Nat} {i : Int32} (ho : sh[o]? = some (.inr (0, n))) (j : Nat) (hj : i.toInt = (j : Int)) (hlt : j < n) (hn : n < 2 ^ 31) : Con G sh mX3_at [.ref o, .int i] μ (j_is (some (.int (μ.1 o j))) μ) := by
  refine Con_of [some (.ref o), some (.int i)] (by decide +kernel) (Nat.le_of_ble_eq_true rfl) (fun _ h => h) ?_
  refine J_iload_n (pc := 0) dX3_at_0 rfl ?_
  refine J_if_ltW (pc := 1) (j : Int) hj 16 dX3_at_1 (by decide) (fun h1 => ?_) (fun h1 => ?_)
  · exfalso; omega
  · refine J_iload_n (pc := 4) dX3_at_4 rfl ?_
    refine J_aload_n (pc := 5) dX3_at_5 rfl ?_
    refine J_alen (pc := 6) ho dX3_at_6 ?_
    refine J_icmp_geW (pc := 7) (j : Int) (n : Int) hj (nI_toInt hn) 16 dX3_at_7 (by decide) (fun h7 => ?_) (fun h7 => ?_)
    · exfalso; omega
    · refine J_aload_n (pc := 10) dX3_at_10 rfl ?_
      refine J_iload_n (pc := 11) dX3_at_11 rfl ?_
      refine J_ialdW (pc := 12) j (hj) ho (hlt) dX3_at_12 ?_
      refine J_goto (pc := 13) 17 dX3_at_13 (by decide) ?_
      refine J_iret (pc := 17) dX3_at_17 rfl ?_
      exact ⟨rfl, rfl⟩
set_option maxRecDepth 100000 in
set_option maxHeartbeats 4000000 in
theorem c_X3_atA {i : Int32} (j : Nat) (hj : i.toInt = (j : Int)) (hlt : j < 6) : Con G sh mX3_at [.ref 1000, .int i] μ (j_is (some (.int (j_tA j))) μ) := by
  refine Con_of [some (.ref 1000), some (.int i)] (by decide +kernel) (Nat.le_of_ble_eq_true rfl) (fun _ h => h) ?_
  refine J_iload_n (pc := 0) dX3_at_0 rfl ?_
  refine J_if_ltW (pc := 1) (j : Int) hj 16 dX3_at_1 (by decide) (fun h1 => ?_) (fun h1 => ?_)
  · exfalso; omega
  · refine J_iload_n (pc := 4) dX3_at_4 rfl ?_
    refine J_aload_n (pc := 5) dX3_at_5 rfl ?_
    refine J_tlen (pc := 6) (j := 0) rfl dX3_at_6 ?_
    refine J_icmp_geW (pc := 7) (j : Int) 6 hj rfl 16 dX3_at_7 (by decide) (fun h7 => ?_) (fun h7 => ?_)
    · exfalso; omega
    · refine J_aload_n (pc := 10) dX3_at_10 rfl ?_
      refine J_iload_n (pc := 11) dX3_at_11 rfl ?_
      refine J_tiW (pc := 12) (t := 0) j (hj) rfl (hlt) dX3_at_12 ?_
      refine J_goto (pc := 13) 17 dX3_at_13 (by decide) ?_
      refine J_iret (pc := 17) dX3_at_17 rfl ?_
      exact ⟨rfl, rfl⟩
set_option maxRecDepth 100000 in
set_option maxHeartbeats 4000000 in
theorem c_X3_atP {i : Int32} (j : Nat) (hj : i.toInt = (j : Int)) (hlt : j < 6) : Con G sh mX3_at [.ref 1001, .int i] μ (j_is (some (.int (j_tP j))) μ) := by
  refine Con_of [some (.ref 1001), some (.int i)] (by decide +kernel) (Nat.le_of_ble_eq_true rfl) (fun _ h => h) ?_
  refine J_iload_n (pc := 0) dX3_at_0 rfl ?_
  refine J_if_ltW (pc := 1) (j : Int) hj 16 dX3_at_1 (by decide) (fun h1 => ?_) (fun h1 => ?_)
  · exfalso; omega
  · refine J_iload_n (pc := 4) dX3_at_4 rfl ?_
    refine J_aload_n (pc := 5) dX3_at_5 rfl ?_
    refine J_tlen (pc := 6) (j := 1) rfl dX3_at_6 ?_
    refine J_icmp_geW (pc := 7) (j : Int) 6 hj rfl 16 dX3_at_7 (by decide) (fun h7 => ?_) (fun h7 => ?_)
    · exfalso; omega
    · refine J_aload_n (pc := 10) dX3_at_10 rfl ?_
      refine J_iload_n (pc := 11) dX3_at_11 rfl ?_
      refine J_tiW (pc := 12) (t := 1) j (hj) rfl (hlt) dX3_at_12 ?_
      refine J_goto (pc := 13) 17 dX3_at_13 (by decide) ?_
      refine J_iret (pc := 17) dX3_at_17 rfl ?_
      exact ⟨rfl, rfl⟩
set_option maxRecDepth 100000 in
set_option maxHeartbeats 4000000 in
theorem c_X3_put {o n : Nat} {i x : Int32} (ho : sh[o]? = some (.inr (0, n))) (j : Nat) (hj : i.toInt = (j : Int)) (hlt : j < n) (hn : n < 2 ^ 31) : Con G sh mX3_put [.ref o, .int i, .int x] μ (j_is none (jI μ o j x)) := by
  refine Con_of [some (.ref o), some (.int i), some (.int x)] (by decide +kernel) (Nat.le_of_ble_eq_true rfl) (fun _ h => h) ?_
  refine J_iload_n (pc := 0) dX3_put_0 rfl ?_
  refine J_if_ltW (pc := 1) (j : Int) hj 14 dX3_put_1 (by decide) (fun h1 => ?_) (fun h1 => ?_)
  · exfalso; omega
  · refine J_iload_n (pc := 4) dX3_put_4 rfl ?_
    refine J_aload_n (pc := 5) dX3_put_5 rfl ?_
    refine J_alen (pc := 6) ho dX3_put_6 ?_
    refine J_icmp_geW (pc := 7) (j : Int) (n : Int) hj (nI_toInt hn) 14 dX3_put_7 (by decide) (fun h7 => ?_) (fun h7 => ?_)
    · exfalso; omega
    · refine J_aload_n (pc := 10) dX3_put_10 rfl ?_
      refine J_iload_n (pc := 11) dX3_put_11 rfl ?_
      refine J_iload_n (pc := 12) dX3_put_12 rfl ?_
      refine J_iastW (pc := 13) j (hj) ho (hlt) dX3_put_13 (fun μ13 m13 => ?_)
      refine J_vret (pc := 14) dX3_put_14 rfl ?_
      exact ⟨rfl, m13⟩
set_option maxRecDepth 100000 in
set_option maxHeartbeats 4000000 in
theorem c_X3_mind {x a b : Int32} (x' a' b' : Int) (hx : x.toInt = x') (ha : a.toInt = a') (hb : b.toInt = b') (h : 0 ≤ x' ∧ x' ≤ 99 ∧ 0 ≤ a' ∧ a' ≤ 99 ∧ 0 ≤ b' ∧ b' ≤ 2) : Con G sh mX3_mind [.int x, .int a, .int b] μ (j_z (b' * 10000 + x' * 100 + a') μ) := by
  refine Con_of [some (.int x), some (.int a), some (.int b)] (by decide +kernel) (Nat.le_of_ble_eq_true rfl) (fun _ h => h) ?_
  refine J_iload_n (pc := 0) dX3_mind_0 rfl ?_
  refine J_sipush (pc := 1) (v := 10000) dX3_mind_1 (by decide) ?_
  refine J_imulW (pc := 4) b' 10000 hb rfl dX3_mind_4 (by omega) (fun z4 e4 => ?_)
  refine J_iload_n (pc := 5) dX3_mind_5 rfl ?_
  refine J_bipush (pc := 6) (v := 100) dX3_mind_6 (by decide) ?_
  refine J_imulW (pc := 8) x' 100 hx rfl dX3_mind_8 (by omega) (fun z8 e8 => ?_)
  refine J_iaddW (pc := 9) (b' * 10000) (x' * 100) e4 e8 dX3_mind_9 (by omega) (fun z9 e9 => ?_)
  refine J_iload_n (pc := 10) dX3_mind_10 rfl ?_
  refine J_iaddW (pc := 11) ((b' * 10000) + (x' * 100)) a' e9 ha dX3_mind_11 (by omega) (fun z11 e11 => ?_)
  refine J_iret (pc := 12) dX3_mind_12 rfl ?_
  exact ⟨⟨_, rfl, e11⟩, rfl⟩
set_option maxRecDepth 100000 in
set_option maxHeartbeats 4000000 in
theorem c_X3_angerOf {x : Int32} (x' : Int) (hx : x.toInt = x') (h : 0 ≤ x') : Con G sh mX3_angerOf [.int x] μ (j_z (x' % 10000 / 100) μ) := by
  refine Con_of [some (.int x)] (by decide +kernel) (Nat.le_of_ble_eq_true rfl) (fun _ h => h) ?_
  refine J_iload_n (pc := 0) dX3_angerOf_0 rfl ?_
  refine J_sipush (pc := 1) (v := 10000) dX3_angerOf_1 (by decide) ?_
  refine J_iremW (pc := 4) x' 10000 hx rfl dX3_angerOf_4 (by omega) (fun z4 e4 => ?_)
  refine J_bipush (pc := 5) (v := 100) dX3_angerOf_5 (by decide) ?_
  refine J_idivW (pc := 7) (x' % 10000) 100 e4 rfl dX3_angerOf_7 (by omega) (fun z7 e7 => ?_)
  refine J_iret (pc := 8) dX3_angerOf_8 rfl ?_
  exact ⟨⟨_, rfl, e7⟩, rfl⟩
set_option maxRecDepth 100000 in
set_option maxHeartbeats 4000000 in
theorem c_X3_prideOf {x : Int32} (x' : Int) (hx : x.toInt = x') (h : 0 ≤ x') : Con G sh mX3_prideOf [.int x] μ (j_z (x' % 100) μ) := by
  refine Con_of [some (.int x)] (by decide +kernel) (Nat.le_of_ble_eq_true rfl) (fun _ h => h) ?_
  refine J_iload_n (pc := 0) dX3_prideOf_0 rfl ?_
  refine J_bipush (pc := 1) (v := 100) dX3_prideOf_1 (by decide) ?_
  refine J_iremW (pc := 3) x' 100 hx rfl dX3_prideOf_3 (by omega) (fun z3 e3 => ?_)
  refine J_iret (pc := 4) dX3_prideOf_4 rfl ?_
  exact ⟨⟨_, rfl, e3⟩, rfl⟩
set_option maxRecDepth 100000 in
set_option maxHeartbeats 4000000 in
theorem c_X3_beingOf {x : Int32} (x' : Int) (hx : x.toInt = x') (h : 0 ≤ x') : Con G sh mX3_beingOf [.int x] μ (j_z (x' / 10000) μ) := by
  refine Con_of [some (.int x)] (by decide +kernel) (Nat.le_of_ble_eq_true rfl) (fun _ h => h) ?_
  refine J_iload_n (pc := 0) dX3_beingOf_0 rfl ?_
  refine J_sipush (pc := 1) (v := 10000) dX3_beingOf_1 (by decide) ?_
  refine J_idivW (pc := 4) x' 10000 hx rfl dX3_beingOf_4 (by omega) (fun z4 e4 => ?_)
  refine J_iret (pc := 5) dX3_beingOf_5 rfl ?_
  exact ⟨⟨_, rfl, e4⟩, rfl⟩
set_option maxRecDepth 100000 in
set_option maxHeartbeats 4000000 in
theorem c_X3_kept {x : Int32} (x' : Int) (hx : x.toInt = x') : Con G sh mX3_kept [.int x] μ (j_z (kZ x') μ) := by
  refine Con_of [some (.int x)] (by decide +kernel) (Nat.le_of_ble_eq_true rfl) (fun _ h => h) ?_
  refine J_iconst (pc := 0) (v := 0) dX3_kept_0 (by decide) ?_
  refine J_bipush (pc := 1) (v := 99) dX3_kept_1 (by decide) ?_
  refine J_iload_n (pc := 3) dX3_kept_3 rfl ?_
  refine J_minW (pc := 4) 99 x' rfl hx ⟨big_t 366 (by decide +kernel) (by decide +kernel), big_t 367 (by decide +kernel) (by decide +kernel), big_t 11 (by decide +kernel) (by decide +kernel), big_t 368 (by decide +kernel) (by decide +kernel)⟩ (Nat.le_of_ble_eq_true rfl) (Nat.le_of_ble_eq_true rfl) dX3_kept_4 (fun z4 e4 => ?_)
  refine J_maxW (pc := 7) 0 (if x' < 99 then x' else 99) rfl e4 ⟨big_t 369 (by decide +kernel) (by decide +kernel), big_t 370 (by decide +kernel) (by decide +kernel), big_t 11 (by decide +kernel) (by decide +kernel), big_t 371 (by decide +kernel) (by decide +kernel)⟩ (Nat.le_of_ble_eq_true rfl) (Nat.le_of_ble_eq_true rfl) dX3_kept_7 (fun z7 e7 => ?_)
  refine J_iret (pc := 10) dX3_kept_10 rfl ?_
  exact ⟨⟨_, rfl, by unfold kZ; omega⟩, rfl⟩
set_option maxRecDepth 100000 in
set_option maxHeartbeats 4000000 in
theorem c_X4_kept {x : Int32} (x' : Int) (hx : x.toInt = x') : Con G sh mX4_kept [.int x] μ (j_z (kZ x') μ) := by
  refine Con_of [some (.int x)] (by decide +kernel) (Nat.le_of_ble_eq_true rfl) (fun _ h => h) ?_
  refine J_iload_n (pc := 0) dX4_kept_0 rfl ?_
  refine J_if_geW (pc := 1) x' hx 8 dX4_kept_1 (by decide) (fun h1 => ?_) (fun h1 => ?_)
  · refine J_iload_n (pc := 8) dX4_kept_8 rfl ?_
    refine J_bipush (pc := 9) (v := 99) dX4_kept_9 (by decide) ?_
    refine J_icmp_leW (pc := 11) x' 99 hx rfl 19 dX4_kept_11 (by decide) (fun h11 => ?_) (fun h11 => ?_)
    · refine J_iload_n (pc := 19) dX4_kept_19 rfl ?_
      refine J_iret (pc := 20) dX4_kept_20 rfl ?_
      exact ⟨⟨_, rfl, by unfold kZ; first | omega | (rw [if_neg (by omega), if_pos (by omega)]; rfl) | (rw [if_pos (by omega)]; rfl)⟩, rfl⟩
    · refine J_bipush (pc := 14) (v := 99) dX4_kept_14 (by decide) ?_
      refine J_goto (pc := 16) 20 dX4_kept_16 (by decide) ?_
      refine J_iret (pc := 20) dX4_kept_20 rfl ?_
      exact ⟨⟨_, rfl, by unfold kZ; first | omega | (rw [if_neg (by omega), if_pos (by omega)]; rfl) | (rw [if_pos (by omega)]; rfl)⟩, rfl⟩
  · refine J_iconst (pc := 4) (v := 0) dX4_kept_4 (by decide) ?_
    refine J_goto (pc := 5) 20 dX4_kept_5 (by decide) ?_
    refine J_iret (pc := 20) dX4_kept_20 rfl ?_
    exact ⟨⟨_, rfl, by unfold kZ; first | omega | (rw [if_neg (by omega), if_pos (by omega)]; rfl) | (rw [if_pos (by omega)]; rfl)⟩, rfl⟩
set_option maxRecDepth 100000 in
set_option maxHeartbeats 4000000 in
theorem c_X3_angerMove {k w n : Int32} (k' w' n' : Int) (hk : k.toInt = k') (hw : w.toInt = w') (hn : n.toInt = n') (h : 0 ≤ w' ∧ w' ≤ 5 ∧ 0 ≤ n') : Con G sh mX3_angerMove [.int k, .int w, .int n] μ (j_z (aZ k' w' n') μ) := by
  have hA := tA_z (w := w') ⟨h.1, h.2.1⟩
  have hr := pA_rng w'
  refine Con_of [some (.int k), some (.int w), some (.int n), none] (by decide +kernel) (Nat.le_of_ble_eq_true rfl) (fun _ h => h) ?_
  refine J_gets (pc := 0) (j := 0) rfl (big_t 361 (by decide +kernel) (by decide +kernel)) dX3_angerMove_0 ?_
  refine J_iload_n (pc := 3) dX3_angerMove_3 rfl ?_
  refine J_callSe (pc := 4) fC_X3_91 dX3_angerMove_4 (c_X3_atA w'.toNat (by have q := hw; omega) (by omega)) rfl ⟨Nat.le_of_ble_eq_true rfl, Nat.le_of_ble_eq_true rfl⟩ rfl (Nat.le_of_ble_eq_true rfl) ?_
  refine J_istore_n (pc := 7) (lv' := [some (.int k), some (.int w), some (.int n), some (.int (j_tA w'.toNat))]) dX3_angerMove_7 (Nat.le_of_ble_eq_true rfl) rfl rfl ?_
  refine J_iload_n (pc := 8) dX3_angerMove_8 rfl ?_
  rcases (by omega : k' = 1 ∨ k' = 2 ∨ k' = 3 ∨ k' = 4 ∨ k' = 5 ∨ (k' < 1 ∨ 5 < k')) with h9 | h9 | h9 | h9 | h9 | h9
  · refine J_tsIn (pc := 9) 44 dX3_angerMove_9 (z := 1) (by first | omega | (rw [hk]; omega)) (by decide) (by decide) rfl (by decide) ?_
    refine J_iload_n (pc := 44) dX3_angerMove_44 rfl ?_
    refine J_iconst (pc := 45) (v := 2) dX3_angerMove_45 (by decide) ?_
    refine J_idiv (pc := 46) dX3_angerMove_46 (by decide) ?_
    refine J_iret (pc := 47) dX3_angerMove_47 rfl ?_
    exact ⟨⟨_, rfl, by rw [z_hf (by rw [hA]; exact hr), hA]; unfold aZ; omega⟩, rfl⟩
  · refine J_tsIn (pc := 9) 48 dX3_angerMove_9 (z := 2) (by first | omega | (rw [hk]; omega)) (by decide) (by decide) rfl (by decide) ?_
    refine J_iload_n (pc := 48) dX3_angerMove_48 rfl ?_
    refine J_iconst (pc := 49) (v := 1) dX3_angerMove_49 (by decide) ?_
    refine J_isubW (pc := 50) (pA w') 1 (tA_z ⟨by omega, by omega⟩) rfl dX3_angerMove_50 (by omega) (fun z50 e50 => ?_)
    refine J_iret (pc := 51) dX3_angerMove_51 rfl ?_
    exact ⟨⟨_, rfl, by unfold aZ; omega⟩, rfl⟩
  · refine J_tsIn (pc := 9) 72 dX3_angerMove_9 (z := 3) (by first | omega | (rw [hk]; omega)) (by decide) (by decide) rfl (by decide) ?_
    refine J_iload_n (pc := 72) dX3_angerMove_72 rfl ?_
    refine J_iret (pc := 73) dX3_angerMove_73 rfl ?_
    exact ⟨⟨_, rfl, by unfold aZ; omega⟩, rfl⟩
  · refine J_tsIn (pc := 9) 52 dX3_angerMove_9 (z := 4) (by first | omega | (rw [hk]; omega)) (by decide) (by decide) rfl (by decide) ?_
    refine J_iload_n (pc := 52) dX3_angerMove_52 rfl ?_
    refine J_iconst (pc := 53) (v := 2) dX3_angerMove_53 (by decide) ?_
    refine J_iremW (pc := 54) n' 2 hn rfl dX3_angerMove_54 (by omega) (fun z54 e54 => ?_)
    refine J_if_eqW (pc := 55) (n' % 2) e54 62 dX3_angerMove_55 (by decide) (fun h55 => ?_) (fun h55 => ?_)
    · refine J_iload_n (pc := 62) dX3_angerMove_62 rfl ?_
      refine J_iconst (pc := 63) (v := 2) dX3_angerMove_63 (by decide) ?_
      refine J_idiv (pc := 64) dX3_angerMove_64 (by decide) ?_
      refine J_iret (pc := 65) dX3_angerMove_65 rfl ?_
      exact ⟨⟨_, rfl, by rw [z_hf (by rw [hA]; exact hr), hA]; unfold aZ; omega⟩, rfl⟩
    · refine J_iconst (pc := 58) (v := 0) dX3_angerMove_58 (by decide) ?_
      refine J_goto (pc := 59) 65 dX3_angerMove_59 (by decide) ?_
      refine J_iret (pc := 65) dX3_angerMove_65 rfl ?_
      exact ⟨⟨_, rfl, by unfold aZ; simp only [z0]; omega⟩, rfl⟩
  · refine J_tsIn (pc := 9) 66 dX3_angerMove_9 (z := 5) (by first | omega | (rw [hk]; omega)) (by decide) (by decide) rfl (by decide) ?_
    refine J_iconst (pc := 66) (v := 2) dX3_angerMove_66 (by decide) ?_
    refine J_iload_n (pc := 67) dX3_angerMove_67 rfl ?_
    refine J_iconst (pc := 68) (v := 1) dX3_angerMove_68 (by decide) ?_
    refine J_isubW (pc := 69) (pA w') 1 (tA_z ⟨by omega, by omega⟩) rfl dX3_angerMove_69 (by omega) (fun z69 e69 => ?_)
    refine J_imulW (pc := 70) 2 ((pA w') - 1) rfl e69 dX3_angerMove_70 (by omega) (fun z70 e70 => ?_)
    refine J_iret (pc := 71) dX3_angerMove_71 rfl ?_
    exact ⟨⟨_, rfl, by unfold aZ; omega⟩, rfl⟩
  · refine J_tsOut (pc := 9) 72 dX3_angerMove_9 (by first | omega | (rw [hk]; omega)) (by decide) ?_
    refine J_iload_n (pc := 72) dX3_angerMove_72 rfl ?_
    refine J_iret (pc := 73) dX3_angerMove_73 rfl ?_
    exact ⟨⟨_, rfl, by unfold aZ; omega⟩, rfl⟩
set_option maxRecDepth 100000 in
set_option maxHeartbeats 4000000 in
theorem c_X3_prideMove {k w n : Int32} (k' w' n' : Int) (hk : k.toInt = k') (hw : w.toInt = w') (hn : n.toInt = n') (h : 0 ≤ w' ∧ w' ≤ 5 ∧ 0 ≤ n') : Con G sh mX3_prideMove [.int k, .int w, .int n] μ (j_z (pZ k' w' n') μ) := by
  have hP := tP_z (w := w') ⟨h.1, h.2.1⟩
  have hr := pP_rng w'
  refine Con_of [some (.int k), some (.int w), some (.int n), none] (by decide +kernel) (Nat.le_of_ble_eq_true rfl) (fun _ h => h) ?_
  refine J_gets (pc := 0) (j := 1) rfl (big_t 378 (by decide +kernel) (by decide +kernel)) dX3_prideMove_0 ?_
  refine J_iload_n (pc := 3) dX3_prideMove_3 rfl ?_
  refine J_callSe (pc := 4) fC_X3_91 dX3_prideMove_4 (c_X3_atP w'.toNat (by have q := hw; omega) (by omega)) rfl ⟨Nat.le_of_ble_eq_true rfl, Nat.le_of_ble_eq_true rfl⟩ rfl (Nat.le_of_ble_eq_true rfl) ?_
  refine J_istore_n (pc := 7) (lv' := [some (.int k), some (.int w), some (.int n), some (.int (j_tP w'.toNat))]) dX3_prideMove_7 (Nat.le_of_ble_eq_true rfl) rfl rfl ?_
  refine J_iload_n (pc := 8) dX3_prideMove_8 rfl ?_
  rcases (by omega : k' = 3 ∨ k' = 4 ∨ k' = 5 ∨ (k' < 3 ∨ 5 < k')) with h9 | h9 | h9 | h9
  · refine J_tsIn (pc := 9) 36 dX3_prideMove_9 (z := 3) (by first | omega | (rw [hk]; omega)) (by decide) (by decide) rfl (by decide) ?_
    refine J_iload_n (pc := 36) dX3_prideMove_36 rfl ?_
    refine J_inegW (pc := 37) (pP w') (tP_z ⟨by omega, by omega⟩) dX3_prideMove_37 (by omega) (fun z37 e37 => ?_)
    refine J_iret (pc := 38) dX3_prideMove_38 rfl ?_
    exact ⟨⟨_, rfl, by unfold pZ; omega⟩, rfl⟩
  · refine J_tsIn (pc := 9) 39 dX3_prideMove_9 (z := 4) (by first | omega | (rw [hk]; omega)) (by decide) (by decide) rfl (by decide) ?_
    refine J_iload_n (pc := 39) dX3_prideMove_39 rfl ?_
    refine J_iconst (pc := 40) (v := 2) dX3_prideMove_40 (by decide) ?_
    refine J_iremW (pc := 41) n' 2 hn rfl dX3_prideMove_41 (by omega) (fun z41 e41 => ?_)
    refine J_if_eqW (pc := 42) (n' % 2) e41 49 dX3_prideMove_42 (by decide) (fun h42 => ?_) (fun h42 => ?_)
    · refine J_iload_n (pc := 49) dX3_prideMove_49 rfl ?_
      refine J_iret (pc := 50) dX3_prideMove_50 rfl ?_
      exact ⟨⟨_, rfl, by unfold pZ; omega⟩, rfl⟩
    · refine J_iconst (pc := 45) (v := 0) dX3_prideMove_45 (by decide) ?_
      refine J_goto (pc := 46) 50 dX3_prideMove_46 (by decide) ?_
      refine J_iret (pc := 50) dX3_prideMove_50 rfl ?_
      exact ⟨⟨_, rfl, by unfold pZ; simp only [z0]; omega⟩, rfl⟩
  · refine J_tsIn (pc := 9) 51 dX3_prideMove_9 (z := 5) (by first | omega | (rw [hk]; omega)) (by decide) (by decide) rfl (by decide) ?_
    refine J_iload_n (pc := 51) dX3_prideMove_51 rfl ?_
    refine J_iconst (pc := 52) (v := 1) dX3_prideMove_52 (by decide) ?_
    refine J_iaddW (pc := 53) (pP w') 1 (tP_z ⟨by omega, by omega⟩) rfl dX3_prideMove_53 (by omega) (fun z53 e53 => ?_)
    refine J_iret (pc := 54) dX3_prideMove_54 rfl ?_
    exact ⟨⟨_, rfl, by unfold pZ; omega⟩, rfl⟩
  · refine J_tsOut (pc := 9) 55 dX3_prideMove_9 (by first | omega | (rw [hk]; omega)) (by decide) ?_
    refine J_iload_n (pc := 55) dX3_prideMove_55 rfl ?_
    refine J_iret (pc := 56) dX3_prideMove_56 rfl ?_
    exact ⟨⟨_, rfl, by unfold pZ; omega⟩, rfl⟩
set_option maxRecDepth 100000 in
set_option maxHeartbeats 4000000 in
theorem c_X3_moveAlike {k q w n : Int32} (k' q' w' n' : Int) (hk : k.toInt = k') (hq : q.toInt = q') (hw : w.toInt = w') (hn : n.toInt = n') (h : 0 ≤ w' ∧ w' ≤ 5 ∧ 0 ≤ n') : Con G sh mX3_moveAlike [.int k, .int q, .int w, .int n] μ (j_b (aZ k' w' n' = aZ q' w' n' ∧ pZ k' w' n' = pZ q' w' n') μ μ) := by
  refine Con_of [some (.int k), some (.int q), some (.int w), some (.int n)] (by decide +kernel) (Nat.le_of_ble_eq_true rfl) (fun _ h => h) ?_
  refine J_iload_n (pc := 0) dX3_moveAlike_0 rfl ?_
  refine J_iload_n (pc := 1) dX3_moveAlike_1 rfl ?_
  refine J_iload_n (pc := 2) dX3_moveAlike_2 rfl ?_
  refine J_callSz (pc := 3) fC_X3_147 dX3_moveAlike_3 (c_X3_angerMove k' w' n' hk hw hn (by omega)) rfl ⟨Nat.le_of_ble_eq_true rfl, Nat.le_of_ble_eq_true rfl⟩ rfl (Nat.le_of_ble_eq_true rfl) (fun z3 e3 => ?_)
  refine J_iload_n (pc := 6) dX3_moveAlike_6 rfl ?_
  refine J_iload_n (pc := 7) dX3_moveAlike_7 rfl ?_
  refine J_iload_n (pc := 8) dX3_moveAlike_8 rfl ?_
  refine J_callSz (pc := 9) fC_X3_147 dX3_moveAlike_9 (c_X3_angerMove q' w' n' hq hw hn (by omega)) rfl ⟨Nat.le_of_ble_eq_true rfl, Nat.le_of_ble_eq_true rfl⟩ rfl (Nat.le_of_ble_eq_true rfl) (fun z9 e9 => ?_)
  refine J_icmp_neW (pc := 12) (aZ k' w' n') (aZ q' w' n') e3 e9 34 dX3_moveAlike_12 (by decide) (fun h12 => ?_) (fun h12 => ?_)
  · refine J_iconst (pc := 34) (v := 0) dX3_moveAlike_34 (by decide) ?_
    refine J_zret (pc := 35) dX3_moveAlike_35 rfl (by decide) ?_
    exact Or.inr ⟨by omega, rfl, rfl⟩
  · refine J_iload_n (pc := 15) dX3_moveAlike_15 rfl ?_
    refine J_iload_n (pc := 16) dX3_moveAlike_16 rfl ?_
    refine J_iload_n (pc := 17) dX3_moveAlike_17 rfl ?_
    refine J_callSz (pc := 18) fC_X3_150 dX3_moveAlike_18 (c_X3_prideMove k' w' n' hk hw hn (by omega)) rfl ⟨Nat.le_of_ble_eq_true rfl, Nat.le_of_ble_eq_true rfl⟩ rfl (Nat.le_of_ble_eq_true rfl) (fun z18 e18 => ?_)
    refine J_iload_n (pc := 21) dX3_moveAlike_21 rfl ?_
    refine J_iload_n (pc := 22) dX3_moveAlike_22 rfl ?_
    refine J_iload_n (pc := 23) dX3_moveAlike_23 rfl ?_
    refine J_callSz (pc := 24) fC_X3_150 dX3_moveAlike_24 (c_X3_prideMove q' w' n' hq hw hn (by omega)) rfl ⟨Nat.le_of_ble_eq_true rfl, Nat.le_of_ble_eq_true rfl⟩ rfl (Nat.le_of_ble_eq_true rfl) (fun z24 e24 => ?_)
    refine J_icmp_neW (pc := 27) (pZ k' w' n') (pZ q' w' n') e18 e24 34 dX3_moveAlike_27 (by decide) (fun h27 => ?_) (fun h27 => ?_)
    · refine J_iconst (pc := 34) (v := 0) dX3_moveAlike_34 (by decide) ?_
      refine J_zret (pc := 35) dX3_moveAlike_35 rfl (by decide) ?_
      exact Or.inr ⟨by omega, rfl, rfl⟩
    · refine J_iconst (pc := 30) (v := 1) dX3_moveAlike_30 (by decide) ?_
      refine J_goto (pc := 31) 35 dX3_moveAlike_31 (by decide) ?_
      refine J_zret (pc := 35) dX3_moveAlike_35 rfl (by decide) ?_
      exact Or.inl ⟨⟨by omega, by omega⟩, rfl, rfl⟩
/-- the model's two tables -/
def constM (μ : JM) : Prop := (∀ j : Nat, j < 6 → μ.1 2 j = j_tA j) ∧ (∀ j : Nat, j < 6 → μ.1 3 j = j_tP j)
theorem cM_A {μ : JM} (hc : constM μ) {w : Int} (h : 0 ≤ w ∧ w ≤ 5) : (μ.1 2 w.toNat).toInt = pA w := by
  rw [hc.1 _ (by omega), tA_z h]
theorem cM_P {μ : JM} (hc : constM μ) {w : Int} (h : 0 ≤ w ∧ w ≤ 5) : (μ.1 3 w.toNat).toInt = pP w := by
  rw [hc.2 _ (by omega), tP_z h]
set_option maxRecDepth 100000 in
set_option maxHeartbeats 4000000 in
theorem c_X4_angerBy (hc : constM μ) {k w n : Int32} (k' w' n' : Int) (hk : k.toInt = k') (hw : w.toInt = w') (hn : n.toInt = n') (h : 0 ≤ w' ∧ w' ≤ 5 ∧ 0 ≤ n') : Con G shM mX4_angerBy [.ref 0, .int k, .int w, .int n] μ (j_z (aZ k' w' n') μ) := by
  have hA := cM_A hc (w := w') ⟨h.1, h.2.1⟩
  have hr := pA_rng w'
  refine Con_of [some (.ref 0), some (.int k), some (.int w), some (.int n), none] (by decide +kernel) (Nat.le_of_ble_eq_true rfl) (fun _ h => h) ?_
  refine J_aload_n (pc := 0) dX4_angerBy_0 rfl ?_
  refine J_getR (pc := 1) 2 fF_X4_13 rfl rfl dX4_angerBy_1 ?_
  refine J_iload_n (pc := 4) dX4_angerBy_4 rfl ?_
  refine J_ialdW (pc := 5) w'.toNat (by have q := hw; omega) rfl (by omega) dX4_angerBy_5 ?_
  refine J_istore (pc := 6) (lv' := [some (.ref 0), some (.int k), some (.int w), some (.int n), some (.int (μ.1 2 w'.toNat))]) dX4_angerBy_6 (Nat.le_of_ble_eq_true rfl) rfl rfl ?_
  refine J_iload_n (pc := 8) dX4_angerBy_8 rfl ?_
  rcases (by omega : k' = 1 ∨ k' = 2 ∨ k' = 3 ∨ k' = 4 ∨ k' = 5 ∨ (k' < 1 ∨ 5 < k')) with h9 | h9 | h9 | h9 | h9 | h9
  · refine J_tsIn (pc := 9) 44 dX4_angerBy_9 (z := 1) (by first | omega | (rw [hk]; omega)) (by decide) (by decide) rfl (by decide) ?_
    refine J_iload (pc := 44) dX4_angerBy_44 rfl ?_
    refine J_iconst (pc := 46) (v := 2) dX4_angerBy_46 (by decide) ?_
    refine J_idiv (pc := 47) dX4_angerBy_47 (by decide) ?_
    refine J_iret (pc := 48) dX4_angerBy_48 rfl ?_
    exact ⟨⟨_, rfl, by rw [z_hf (by rw [hA]; exact hr), hA]; unfold aZ; omega⟩, rfl⟩
  · refine J_tsIn (pc := 9) 49 dX4_angerBy_9 (z := 2) (by first | omega | (rw [hk]; omega)) (by decide) (by decide) rfl (by decide) ?_
    refine J_iload (pc := 49) dX4_angerBy_49 rfl ?_
    refine J_iconst (pc := 51) (v := 1) dX4_angerBy_51 (by decide) ?_
    refine J_isubW (pc := 52) (pA w') 1 hA rfl dX4_angerBy_52 (by omega) (fun z52 e52 => ?_)
    refine J_iret (pc := 53) dX4_angerBy_53 rfl ?_
    exact ⟨⟨_, rfl, by unfold aZ; omega⟩, rfl⟩
  · refine J_tsIn (pc := 9) 77 dX4_angerBy_9 (z := 3) (by first | omega | (rw [hk]; omega)) (by decide) (by decide) rfl (by decide) ?_
    refine J_iload (pc := 77) dX4_angerBy_77 rfl ?_
    refine J_iret (pc := 79) dX4_angerBy_79 rfl ?_
    exact ⟨⟨_, rfl, by unfold aZ; omega⟩, rfl⟩
  · refine J_tsIn (pc := 9) 54 dX4_angerBy_9 (z := 4) (by first | omega | (rw [hk]; omega)) (by decide) (by decide) rfl (by decide) ?_
    refine J_iload_n (pc := 54) dX4_angerBy_54 rfl ?_
    refine J_iconst (pc := 55) (v := 2) dX4_angerBy_55 (by decide) ?_
    refine J_iremW (pc := 56) n' 2 hn rfl dX4_angerBy_56 (by omega) (fun z56 e56 => ?_)
    refine J_iconst (pc := 57) (v := 1) dX4_angerBy_57 (by decide) ?_
    refine J_icmp_neW (pc := 58) (n' % 2) 1 e56 rfl 65 dX4_angerBy_58 (by decide) (fun h58 => ?_) (fun h58 => ?_)
    · refine J_iload (pc := 65) dX4_angerBy_65 rfl ?_
      refine J_iconst (pc := 67) (v := 2) dX4_angerBy_67 (by decide) ?_
      refine J_idiv (pc := 68) dX4_angerBy_68 (by decide) ?_
      refine J_iret (pc := 69) dX4_angerBy_69 rfl ?_
      exact ⟨⟨_, rfl, by rw [z_hf (by rw [hA]; exact hr), hA]; unfold aZ; omega⟩, rfl⟩
    · refine J_iconst (pc := 61) (v := 0) dX4_angerBy_61 (by decide) ?_
      refine J_goto (pc := 62) 69 dX4_angerBy_62 (by decide) ?_
      refine J_iret (pc := 69) dX4_angerBy_69 rfl ?_
      exact ⟨⟨_, rfl, by unfold aZ; simp only [z0]; omega⟩, rfl⟩
  · refine J_tsIn (pc := 9) 70 dX4_angerBy_9 (z := 5) (by first | omega | (rw [hk]; omega)) (by decide) (by decide) rfl (by decide) ?_
    refine J_iconst (pc := 70) (v := 2) dX4_angerBy_70 (by decide) ?_
    refine J_iload (pc := 71) dX4_angerBy_71 rfl ?_
    refine J_iconst (pc := 73) (v := 1) dX4_angerBy_73 (by decide) ?_
    refine J_isubW (pc := 74) (pA w') 1 hA rfl dX4_angerBy_74 (by omega) (fun z74 e74 => ?_)
    refine J_imulW (pc := 75) 2 ((pA w') - 1) rfl e74 dX4_angerBy_75 (by omega) (fun z75 e75 => ?_)
    refine J_iret (pc := 76) dX4_angerBy_76 rfl ?_
    exact ⟨⟨_, rfl, by unfold aZ; omega⟩, rfl⟩
  · refine J_tsOut (pc := 9) 77 dX4_angerBy_9 (by first | omega | (rw [hk]; omega)) (by decide) ?_
    refine J_iload (pc := 77) dX4_angerBy_77 rfl ?_
    refine J_iret (pc := 79) dX4_angerBy_79 rfl ?_
    exact ⟨⟨_, rfl, by unfold aZ; omega⟩, rfl⟩
set_option maxRecDepth 100000 in
set_option maxHeartbeats 4000000 in
theorem c_X4_prideBy (hc : constM μ) {k w n : Int32} (k' w' n' : Int) (hk : k.toInt = k') (hw : w.toInt = w') (hn : n.toInt = n') (h : 0 ≤ w' ∧ w' ≤ 5 ∧ 0 ≤ n') : Con G shM mX4_prideBy [.ref 0, .int k, .int w, .int n] μ (j_z (pZ k' w' n') μ) := by
  have hA := cM_P hc (w := w') ⟨h.1, h.2.1⟩
  have hr := pP_rng w'
  refine Con_of [some (.ref 0), some (.int k), some (.int w), some (.int n), none] (by decide +kernel) (Nat.le_of_ble_eq_true rfl) (fun _ h => h) ?_
  refine J_aload_n (pc := 0) dX4_prideBy_0 rfl ?_
  refine J_getR (pc := 1) 3 fF_X4_16 rfl rfl dX4_prideBy_1 ?_
  refine J_iload_n (pc := 4) dX4_prideBy_4 rfl ?_
  refine J_ialdW (pc := 5) w'.toNat (by have q := hw; omega) rfl (by omega) dX4_prideBy_5 ?_
  refine J_istore (pc := 6) (lv' := [some (.ref 0), some (.int k), some (.int w), some (.int n), some (.int (μ.1 3 w'.toNat))]) dX4_prideBy_6 (Nat.le_of_ble_eq_true rfl) rfl rfl ?_
  refine J_iload_n (pc := 8) dX4_prideBy_8 rfl ?_
  rcases (by omega : k' = 3 ∨ k' = 4 ∨ k' = 5 ∨ (k' < 3 ∨ 5 < k')) with h9 | h9 | h9 | h9
  · refine J_tsIn (pc := 9) 36 dX4_prideBy_9 (z := 3) (by first | omega | (rw [hk]; omega)) (by decide) (by decide) rfl (by decide) ?_
    refine J_iload (pc := 36) dX4_prideBy_36 rfl ?_
    refine J_inegW (pc := 38) (pP w') hA dX4_prideBy_38 (by omega) (fun z38 e38 => ?_)
    refine J_iret (pc := 39) dX4_prideBy_39 rfl ?_
    exact ⟨⟨_, rfl, by unfold pZ; omega⟩, rfl⟩
  · refine J_tsIn (pc := 9) 40 dX4_prideBy_9 (z := 4) (by first | omega | (rw [hk]; omega)) (by decide) (by decide) rfl (by decide) ?_
    refine J_iload_n (pc := 40) dX4_prideBy_40 rfl ?_
    refine J_iconst (pc := 41) (v := 2) dX4_prideBy_41 (by decide) ?_
    refine J_iremW (pc := 42) n' 2 hn rfl dX4_prideBy_42 (by omega) (fun z42 e42 => ?_)
    refine J_iconst (pc := 43) (v := 1) dX4_prideBy_43 (by decide) ?_
    refine J_icmp_neW (pc := 44) (n' % 2) 1 e42 rfl 51 dX4_prideBy_44 (by decide) (fun h44 => ?_) (fun h44 => ?_)
    · refine J_iload (pc := 51) dX4_prideBy_51 rfl ?_
      refine J_iret (pc := 53) dX4_prideBy_53 rfl ?_
      exact ⟨⟨_, rfl, by unfold pZ; omega⟩, rfl⟩
    · refine J_iconst (pc := 47) (v := 0) dX4_prideBy_47 (by decide) ?_
      refine J_goto (pc := 48) 53 dX4_prideBy_48 (by decide) ?_
      refine J_iret (pc := 53) dX4_prideBy_53 rfl ?_
      exact ⟨⟨_, rfl, by unfold pZ; simp only [z0]; omega⟩, rfl⟩
  · refine J_tsIn (pc := 9) 54 dX4_prideBy_9 (z := 5) (by first | omega | (rw [hk]; omega)) (by decide) (by decide) rfl (by decide) ?_
    refine J_iload (pc := 54) dX4_prideBy_54 rfl ?_
    refine J_iconst (pc := 56) (v := 1) dX4_prideBy_56 (by decide) ?_
    refine J_iaddW (pc := 57) (pP w') 1 hA rfl dX4_prideBy_57 (by omega) (fun z57 e57 => ?_)
    refine J_iret (pc := 58) dX4_prideBy_58 rfl ?_
    exact ⟨⟨_, rfl, by unfold pZ; omega⟩, rfl⟩
  · refine J_tsOut (pc := 9) 59 dX4_prideBy_9 (by first | omega | (rw [hk]; omega)) (by decide) ?_
    refine J_iload (pc := 59) dX4_prideBy_59 rfl ?_
    refine J_iret (pc := 61) dX4_prideBy_61 rfl ?_
    exact ⟨⟨_, rfl, by unfold pZ; omega⟩, rfl⟩
set_option maxRecDepth 100000 in
set_option maxHeartbeats 4000000 in
theorem c_X4_isSaid {q w : Int32} (q' w' : Int) (hq : q.toInt = q') (hw : w.toInt = w') : Con G sh mX4_isSaid [.int q, .int w] μ (j_b (q' = 0 ∨ (w' ≠ 3 ∧ w' ≠ 4)) μ μ) := by
  refine Con_of [some (.int q), some (.int w)] (by decide +kernel) (Nat.le_of_ble_eq_true rfl) (fun _ h => h) ?_
  refine J_iload_n (pc := 0) dX4_isSaid_0 rfl ?_
  refine J_if_eqW (pc := 1) q' hq 14 dX4_isSaid_1 (by decide) (fun h1 => ?_) (fun h1 => ?_)
  · refine J_iconst (pc := 14) (v := 1) dX4_isSaid_14 (by decide) ?_
    refine J_goto (pc := 15) 19 dX4_isSaid_15 (by decide) ?_
    refine J_zret (pc := 19) dX4_isSaid_19 rfl (by decide) ?_
    exact Or.inl ⟨by omega, rfl, rfl⟩
  · refine J_iload_n (pc := 4) dX4_isSaid_4 rfl ?_
    refine J_iconst (pc := 5) (v := 3) dX4_isSaid_5 (by decide) ?_
    refine J_icmp_eqW (pc := 6) w' 3 hw rfl 18 dX4_isSaid_6 (by decide) (fun h6 => ?_) (fun h6 => ?_)
    · refine J_iconst (pc := 18) (v := 0) dX4_isSaid_18 (by decide) ?_
      refine J_zret (pc := 19) dX4_isSaid_19 rfl (by decide) ?_
      exact Or.inr ⟨by omega, rfl, rfl⟩
    · refine J_iload_n (pc := 9) dX4_isSaid_9 rfl ?_
      refine J_iconst (pc := 10) (v := 4) dX4_isSaid_10 (by decide) ?_
      refine J_icmp_eqW (pc := 11) w' 4 hw rfl 18 dX4_isSaid_11 (by decide) (fun h11 => ?_) (fun h11 => ?_)
      · refine J_iconst (pc := 18) (v := 0) dX4_isSaid_18 (by decide) ?_
        refine J_zret (pc := 19) dX4_isSaid_19 rfl (by decide) ?_
        exact Or.inr ⟨by omega, rfl, rfl⟩
      · refine J_iconst (pc := 14) (v := 1) dX4_isSaid_14 (by decide) ?_
        refine J_goto (pc := 15) 19 dX4_isSaid_15 (by decide) ?_
        refine J_zret (pc := 19) dX4_isSaid_19 rfl (by decide) ?_
        exact Or.inl ⟨by omega, rfl, rfl⟩
set_option maxRecDepth 100000 in
set_option maxHeartbeats 4000000 in
theorem c_X4_placeOf {x a b : Int32} (x' a' b' : Int) (hx : x.toInt = x') (ha : a.toInt = a') (hb : b.toInt = b') (h : 0 ≤ x' ∧ x' ≤ 99 ∧ 0 ≤ a' ∧ a' ≤ 99 ∧ 0 ≤ b') : Con G sh mX4_placeOf [.int x, .int a, .int b] μ (j_z ((100 * x' + a') * 2 + b' % 2) μ) := by
  refine Con_of [some (.int x), some (.int a), some (.int b)] (by decide +kernel) (Nat.le_of_ble_eq_true rfl) (fun _ h => h) ?_
  refine J_bipush (pc := 0) (v := 100) dX4_placeOf_0 (by decide) ?_
  refine J_iload_n (pc := 2) dX4_placeOf_2 rfl ?_
  refine J_imulW (pc := 3) 100 x' rfl hx dX4_placeOf_3 (by omega) (fun z3 e3 => ?_)
  refine J_iload_n (pc := 4) dX4_placeOf_4 rfl ?_
  refine J_iaddW (pc := 5) (100 * x') a' e3 ha dX4_placeOf_5 (by omega) (fun z5 e5 => ?_)
  refine J_iconst (pc := 6) (v := 2) dX4_placeOf_6 (by decide) ?_
  refine J_imulW (pc := 7) ((100 * x') + a') 2 e5 rfl dX4_placeOf_7 (by omega) (fun z7 e7 => ?_)
  refine J_iload_n (pc := 8) dX4_placeOf_8 rfl ?_
  refine J_iconst (pc := 9) (v := 2) dX4_placeOf_9 (by decide) ?_
  refine J_iremW (pc := 10) b' 2 hb rfl dX4_placeOf_10 (by omega) (fun z10 e10 => ?_)
  refine J_iaddW (pc := 11) (((100 * x') + a') * 2) (b' % 2) e7 e10 dX4_placeOf_11 (by omega) (fun z11 e11 => ?_)
  refine J_iret (pc := 12) dX4_placeOf_12 rfl ?_
  exact ⟨⟨_, rfl, e11⟩, rfl⟩
end
section
/-! ===== the class's Jar: its methods ===== -/
def mZ (a p b : Int) : Int := b * 10000 + a * 100 + p
def jZ (wr ht a p w : Int) : Int := if wr ≤ a then 2 else if w = 1 ∧ ht ≤ p then 1 else 0
def hA (k m n w : Int) : Int := kZ (m % 10000 / 100 + aZ k w n)
def hP (k m n w : Int) : Int := kZ (m % 100 + pZ k w n)
/-- the mind behind a word -/
def hM (k wr ht m n w : Int) : Int := mZ (hA k m n w) (hP k m n w) (jZ wr ht (hA k m n w) (hP k m n w) w)
theorem hM_rng (k wr ht m n w : Int) : 0 ≤ hM k wr ht m n w ∧ hM k wr ht m n w < 30000 := by
  have h1 : 0 ≤ hA k m n w ∧ hA k m n w ≤ 99 := kZ_rng _
  have h2 : 0 ≤ hP k m n w ∧ hP k m n w ≤ 99 := kZ_rng _
  unfold hM mZ jZ
  omega
def begM (μ : JM) (b : Nat) (k : Int32) : JM := jC (jI (jI (jI (jI (jI (jI (jI μ b 0 k) b 1 40) b 2 9) b 3 2000) b 4 0) b 5 0) b 6 0) (b + 1) (fun i => if i < 8 then j_tV i else μ.1 (b + 1) i)
def listenM (μ : JM) (b : Nat) (w : Int) : JM := jI (jI μ b 3 (iZ (hM (μ.1 b 0).toInt (μ.1 b 1).toInt (μ.1 b 2).toInt (μ.1 b 3).toInt (μ.1 b 4).toInt w))) b 4 (iZ ((μ.1 b 4).toInt + 1))
variable {G : JG} {μ : JM}
set_option maxRecDepth 100000 in
set_option maxHeartbeats 4000000 in
theorem c_X0_judge {b : Nat} (hb : jarAt b) {x y w : Int32} (x' y' w' : Int) (hx : x.toInt = x') (hy : y.toInt = y') (hw : w.toInt = w') (h : 0 ≤ x' ∧ x' ≤ 99 ∧ 0 ≤ y' ∧ y' ≤ 99) : Con G shC mX0_judge [.ref b, .int x, .int y, .int w] μ (j_z (mZ x' y' (jZ (μ.1 b 1).toInt (μ.1 b 2).toInt x' y' w')) μ) := by
  refine Con_of [some (.ref b), some (.int x), some (.int y), some (.int w), none] (by decide +kernel) (Nat.le_of_ble_eq_true rfl) (fun _ h => h) ?_
  refine J_iconst (pc := 0) (v := 0) dX0_judge_0 (by decide) ?_
  refine J_istore (pc := 1) (lv' := [some (.ref b), some (.int x), some (.int y), some (.int w), some (.int 0)]) dX0_judge_1 (Nat.le_of_ble_eq_true rfl) rfl rfl ?_
  refine J_iload_n (pc := 3) dX0_judge_3 rfl ?_
  refine J_aload_n (pc := 4) dX0_judge_4 rfl ?_
  refine J_getI (pc := 5) fF_X0_32 hb.1 rfl dX0_judge_5 ?_
  refine J_icmp_ltW (pc := 8) x' ((μ.1 b 1).toInt) hx rfl 17 dX0_judge_8 (by decide) (fun h8 => ?_) (fun h8 => ?_)
  · refine J_iload_n (pc := 17) dX0_judge_17 rfl ?_
    refine J_iconst (pc := 18) (v := 1) dX0_judge_18 (by decide) ?_
    refine J_icmp_neW (pc := 19) w' 1 hw rfl 33 dX0_judge_19 (by decide) (fun h19 => ?_) (fun h19 => ?_)
    · refine J_iload_n (pc := 33) dX0_judge_33 rfl ?_
      refine J_iload_n (pc := 34) dX0_judge_34 rfl ?_
      refine J_iload (pc := 35) dX0_judge_35 rfl ?_
      refine J_callSz (pc := 37) fC_X0_38 dX0_judge_37 (c_X3_mind x' y' 0 hx hy rfl (by omega)) rfl ⟨Nat.le_of_ble_eq_true rfl, Nat.le_of_ble_eq_true rfl⟩ rfl (Nat.le_of_ble_eq_true rfl) (fun z37 e37 => ?_)
      refine J_iret (pc := 40) dX0_judge_40 rfl ?_
      exact ⟨⟨_, rfl, by unfold mZ jZ; omega⟩, rfl⟩
    · refine J_iload_n (pc := 22) dX0_judge_22 rfl ?_
      refine J_aload_n (pc := 23) dX0_judge_23 rfl ?_
      refine J_getI (pc := 24) fF_X0_35 hb.1 rfl dX0_judge_24 ?_
      refine J_icmp_ltW (pc := 27) y' ((μ.1 b 2).toInt) hy rfl 33 dX0_judge_27 (by decide) (fun h27 => ?_) (fun h27 => ?_)
      · refine J_iload_n (pc := 33) dX0_judge_33 rfl ?_
        refine J_iload_n (pc := 34) dX0_judge_34 rfl ?_
        refine J_iload (pc := 35) dX0_judge_35 rfl ?_
        refine J_callSz (pc := 37) fC_X0_38 dX0_judge_37 (c_X3_mind x' y' 0 hx hy rfl (by omega)) rfl ⟨Nat.le_of_ble_eq_true rfl, Nat.le_of_ble_eq_true rfl⟩ rfl (Nat.le_of_ble_eq_true rfl) (fun z37 e37 => ?_)
        refine J_iret (pc := 40) dX0_judge_40 rfl ?_
        exact ⟨⟨_, rfl, by unfold mZ jZ; omega⟩, rfl⟩
      · refine J_iconst (pc := 30) (v := 1) dX0_judge_30 (by decide) ?_
        refine J_istore (pc := 31) (lv' := [some (.ref b), some (.int x), some (.int y), some (.int w), some (.int 1)]) dX0_judge_31 (Nat.le_of_ble_eq_true rfl) rfl rfl ?_
        refine J_iload_n (pc := 33) dX0_judge_33 rfl ?_
        refine J_iload_n (pc := 34) dX0_judge_34 rfl ?_
        refine J_iload (pc := 35) dX0_judge_35 rfl ?_
        refine J_callSz (pc := 37) fC_X0_38 dX0_judge_37 (c_X3_mind x' y' 1 hx hy rfl (by omega)) rfl ⟨Nat.le_of_ble_eq_true rfl, Nat.le_of_ble_eq_true rfl⟩ rfl (Nat.le_of_ble_eq_true rfl) (fun z37 e37 => ?_)
        refine J_iret (pc := 40) dX0_judge_40 rfl ?_
        exact ⟨⟨_, rfl, by unfold mZ jZ; omega⟩, rfl⟩
  · refine J_iconst (pc := 11) (v := 2) dX0_judge_11 (by decide) ?_
    refine J_istore (pc := 12) (lv' := [some (.ref b), some (.int x), some (.int y), some (.int w), some (.int 2)]) dX0_judge_12 (Nat.le_of_ble_eq_true rfl) rfl rfl ?_
    refine J_goto (pc := 14) 33 dX0_judge_14 (by decide) ?_
    refine J_iload_n (pc := 33) dX0_judge_33 rfl ?_
    refine J_iload_n (pc := 34) dX0_judge_34 rfl ?_
    refine J_iload (pc := 35) dX0_judge_35 rfl ?_
    refine J_callSz (pc := 37) fC_X0_38 dX0_judge_37 (c_X3_mind x' y' 2 hx hy rfl (by omega)) rfl ⟨Nat.le_of_ble_eq_true rfl, Nat.le_of_ble_eq_true rfl⟩ rfl (Nat.le_of_ble_eq_true rfl) (fun z37 e37 => ?_)
    refine J_iret (pc := 40) dX0_judge_40 rfl ?_
    exact ⟨⟨_, rfl, by unfold mZ jZ; omega⟩, rfl⟩
set_option maxRecDepth 100000 in
set_option maxHeartbeats 4000000 in
theorem c_X0_hear {b : Nat} (hb : jarAt b) {m n w : Int32} (m' n' w' : Int) (hm : m.toInt = m') (hn : n.toInt = n') (hw : w.toInt = w') (h : 0 ≤ m' ∧ 0 ≤ n' ∧ 0 ≤ w' ∧ w' ≤ 5) : Con G shC mX0_hear [.ref b, .int m, .int n, .int w] μ (j_z (hM (μ.1 b 0).toInt (μ.1 b 1).toInt (μ.1 b 2).toInt m' n' w') μ) := by
  have r1 := aZ_rng (μ.1 b 0).toInt w' n'
  have r2 := pZ_rng (μ.1 b 0).toInt w' n'
  have r3 := kZ_rng (m' % 10000 / 100 + aZ (μ.1 b 0).toInt w' n')
  have r4 := kZ_rng (m' % 100 + pZ (μ.1 b 0).toInt w' n')
  refine Con_of [some (.ref b), some (.int m), some (.int n), some (.int w), none, none] (by decide +kernel) (Nat.le_of_ble_eq_true rfl) (fun _ h => h) ?_
  refine J_iload_n (pc := 0) dX0_hear_0 rfl ?_
  refine J_callSz (pc := 1) fC_X0_66 dX0_hear_1 (c_X3_angerOf m' hm (by omega)) rfl ⟨Nat.le_of_ble_eq_true rfl, Nat.le_of_ble_eq_true rfl⟩ rfl (Nat.le_of_ble_eq_true rfl) (fun z1 e1 => ?_)
  refine J_aload_n (pc := 4) dX0_hear_4 rfl ?_
  refine J_getI (pc := 5) fF_X0_28 hb.1 rfl dX0_hear_5 ?_
  refine J_iload_n (pc := 8) dX0_hear_8 rfl ?_
  refine J_iload_n (pc := 9) dX0_hear_9 rfl ?_
  refine J_callSz (pc := 10) fC_X0_69 dX0_hear_10 (c_X3_angerMove ((μ.1 b 0).toInt) w' n' rfl hw hn (by omega)) rfl ⟨Nat.le_of_ble_eq_true rfl, Nat.le_of_ble_eq_true rfl⟩ rfl (Nat.le_of_ble_eq_true rfl) (fun z10 e10 => ?_)
  refine J_iaddW (pc := 13) (m' % 10000 / 100) (aZ ((μ.1 b 0).toInt) w' n') e1 e10 dX0_hear_13 (by omega) (fun z13 e13 => ?_)
  refine J_callSz (pc := 14) fC_X0_72 dX0_hear_14 (c_X3_kept ((m' % 10000 / 100) + (aZ ((μ.1 b 0).toInt) w' n')) e13) rfl ⟨Nat.le_of_ble_eq_true rfl, Nat.le_of_ble_eq_true rfl⟩ rfl (Nat.le_of_ble_eq_true rfl) (fun z14 e14 => ?_)
  refine J_istore (pc := 17) (lv' := [some (.ref b), some (.int m), some (.int n), some (.int w), some (.int z14), none]) dX0_hear_17 (Nat.le_of_ble_eq_true rfl) rfl rfl ?_
  refine J_iload_n (pc := 19) dX0_hear_19 rfl ?_
  refine J_callSz (pc := 20) fC_X0_75 dX0_hear_20 (c_X3_prideOf m' hm (by omega)) rfl ⟨Nat.le_of_ble_eq_true rfl, Nat.le_of_ble_eq_true rfl⟩ rfl (Nat.le_of_ble_eq_true rfl) (fun z20 e20 => ?_)
  refine J_aload_n (pc := 23) dX0_hear_23 rfl ?_
  refine J_getI (pc := 24) fF_X0_28 hb.1 rfl dX0_hear_24 ?_
  refine J_iload_n (pc := 27) dX0_hear_27 rfl ?_
  refine J_iload_n (pc := 28) dX0_hear_28 rfl ?_
  refine J_callSz (pc := 29) fC_X0_78 dX0_hear_29 (c_X3_prideMove ((μ.1 b 0).toInt) w' n' rfl hw hn (by omega)) rfl ⟨Nat.le_of_ble_eq_true rfl, Nat.le_of_ble_eq_true rfl⟩ rfl (Nat.le_of_ble_eq_true rfl) (fun z29 e29 => ?_)
  refine J_iaddW (pc := 32) (m' % 100) (pZ ((μ.1 b 0).toInt) w' n') e20 e29 dX0_hear_32 (by omega) (fun z32 e32 => ?_)
  refine J_callSz (pc := 33) fC_X0_72 dX0_hear_33 (c_X3_kept ((m' % 100) + (pZ ((μ.1 b 0).toInt) w' n')) e32) rfl ⟨Nat.le_of_ble_eq_true rfl, Nat.le_of_ble_eq_true rfl⟩ rfl (Nat.le_of_ble_eq_true rfl) (fun z33 e33 => ?_)
  refine J_istore (pc := 36) (lv' := [some (.ref b), some (.int m), some (.int n), some (.int w), some (.int z14), some (.int z33)]) dX0_hear_36 (Nat.le_of_ble_eq_true rfl) rfl rfl ?_
  refine J_aload_n (pc := 38) dX0_hear_38 rfl ?_
  refine J_iload (pc := 39) dX0_hear_39 rfl ?_
  refine J_iload (pc := 41) dX0_hear_41 rfl ?_
  refine J_iload_n (pc := 43) dX0_hear_43 rfl ?_
  refine J_callVz (pc := 44) fC_X0_81 hb.1 dX0_hear_44 (c_X0_judge hb (kZ ((m' % 10000 / 100) + (aZ ((μ.1 b 0).toInt) w' n'))) (kZ ((m' % 100) + (pZ ((μ.1 b 0).toInt) w' n'))) w' e14 e33 hw (by omega)) rfl ⟨Nat.le_of_ble_eq_true rfl, Nat.le_of_ble_eq_true rfl⟩ rfl (Nat.le_of_ble_eq_true rfl) (fun z44 e44 => ?_)
  refine J_iret (pc := 47) dX0_hear_47 rfl ?_
  exact ⟨⟨_, rfl, e44⟩, rfl⟩
set_option maxRecDepth 100000 in
set_option maxHeartbeats 4000000 in
theorem c_X0_begin {b : Nat} (hb : jarAt b) {k : Int32} : Con G shC mX0_begin [.ref b, .int k] μ (j_is none (begM μ b k)) := by
  refine Con_of [some (.ref b), some (.int k)] (by decide +kernel) (Nat.le_of_ble_eq_true rfl) (fun _ h => h) ?_
  refine J_aload_n (pc := 0) dX0_begin_0 rfl ?_
  refine J_iload_n (pc := 1) dX0_begin_1 rfl ?_
  refine J_putIW (pc := 2) fF_X0_28 hb.1 rfl dX0_begin_2 (fun μ2 m2 => ?_)
  refine J_aload_n (pc := 5) dX0_begin_5 rfl ?_
  refine J_bipush (pc := 6) (v := 40) dX0_begin_6 (by decide) ?_
  refine J_putIW (pc := 8) fF_X0_32 hb.1 rfl dX0_begin_8 (fun μ8 m8 => ?_)
  refine J_aload_n (pc := 11) dX0_begin_11 rfl ?_
  refine J_bipush (pc := 12) (v := 9) dX0_begin_12 (by decide) ?_
  refine J_putIW (pc := 14) fF_X0_35 hb.1 rfl dX0_begin_14 (fun μ14 m14 => ?_)
  refine J_aload_n (pc := 17) dX0_begin_17 rfl ?_
  refine J_bipush (pc := 18) (v := 20) dX0_begin_18 (by decide) ?_
  refine J_iconst (pc := 20) (v := 0) dX0_begin_20 (by decide) ?_
  refine J_iconst (pc := 21) (v := 0) dX0_begin_21 (by decide) ?_
  refine J_callSz (pc := 22) fC_X0_38 dX0_begin_22 (c_X3_mind 20 0 0 rfl rfl rfl (by omega)) rfl ⟨Nat.le_of_ble_eq_true rfl, Nat.le_of_ble_eq_true rfl⟩ rfl (Nat.le_of_ble_eq_true rfl) (fun z22 e22 => ?_)
  refine J_putIW (pc := 25) fF_X0_42 hb.1 rfl dX0_begin_25 (fun μ25 m25 => ?_)
  refine J_aload_n (pc := 28) dX0_begin_28 rfl ?_
  refine J_iconst (pc := 29) (v := 0) dX0_begin_29 (by decide) ?_
  refine J_putIW (pc := 30) fF_X0_44 hb.1 rfl dX0_begin_30 (fun μ30 m30 => ?_)
  refine J_aload_n (pc := 33) dX0_begin_33 rfl ?_
  refine J_iconst (pc := 34) (v := 0) dX0_begin_34 (by decide) ?_
  refine J_putIW (pc := 35) fF_X0_47 hb.1 rfl dX0_begin_35 (fun μ35 m35 => ?_)
  refine J_aload_n (pc := 38) dX0_begin_38 rfl ?_
  refine J_iconst (pc := 39) (v := 0) dX0_begin_39 (by decide) ?_
  refine J_putIW (pc := 40) fF_X0_50 hb.1 rfl dX0_begin_40 (fun μ40 m40 => ?_)
  refine J_getsN (pc := 43) (j := 2) (host := "JarSpirit") rfl (nest_t 152 (by decide +kernel) (by decide +kernel)) dX0_begin_43 ?_
  refine J_iconst (pc := 46) (v := 0) dX0_begin_46 (by decide) ?_
  refine J_aload_n (pc := 47) dX0_begin_47 rfl ?_
  refine J_getR (pc := 48) (b + 1) fF_X0_15 hb.1 rfl dX0_begin_48 ?_
  refine J_iconst (pc := 51) (v := 0) dX0_begin_51 (by decide) ?_
  refine J_bipush (pc := 52) (v := 8) dX0_begin_52 (by decide) ?_
  refine J_copyTW (pc := 54) (n := 8) (j := 2) ⟨big_t 154 (by decide +kernel) (by decide +kernel), big_t 156 (by decide +kernel) (by decide +kernel), big_t 155 (by decide +kernel) (by decide +kernel), big_t 5 (by decide +kernel) (by decide +kernel)⟩ rfl hb.2.1 rfl (by decide) (by decide) (by decide) (Nat.le_of_ble_eq_true rfl) (Nat.le_of_ble_eq_true rfl) dX0_begin_54 (fun μ54 m54 => ?_)
  refine J_vret (pc := 57) dX0_begin_57 rfl ?_
  rw [iZ_of e22] at m25
  subst m2 m8 m14 m25 m30 m35 m40 m54
  refine ⟨rfl, ?_⟩
  unfold begM
  rw [show iZ (0 * 10000 + 20 * 100 + 0) = 2000 from rfl]
  congr 1
  funext i
  simp [jI_i]
set_option maxRecDepth 100000 in
set_option maxHeartbeats 4000000 in
theorem c_X0_feel {b : Nat} (hb : jarAt b) {x y : Int32} (x' y' : Int) (hx : x.toInt = x') (hy : y.toInt = y') (h : 0 ≤ x' ∧ x' ≤ 99 ∧ 0 ≤ y' ∧ y' ≤ 99) (h3 : 0 ≤ (μ.1 b 3).toInt ∧ (μ.1 b 3).toInt < 30000) : Con G shC mX0_feel [.ref b, .int x, .int y] μ (j_is none (jI μ b 3 (iZ (mZ x' y' ((μ.1 b 3).toInt / 10000))))) := by
  refine Con_of [some (.ref b), some (.int x), some (.int y)] (by decide +kernel) (Nat.le_of_ble_eq_true rfl) (fun _ h => h) ?_
  refine J_aload_n (pc := 0) dX0_feel_0 rfl ?_
  refine J_iload_n (pc := 1) dX0_feel_1 rfl ?_
  refine J_iload_n (pc := 2) dX0_feel_2 rfl ?_
  refine J_aload_n (pc := 3) dX0_feel_3 rfl ?_
  refine J_getI (pc := 4) fF_X0_42 hb.1 rfl dX0_feel_4 ?_
  refine J_callSz (pc := 7) fC_X0_62 dX0_feel_7 (c_X3_beingOf ((μ.1 b 3).toInt) rfl (by omega)) rfl ⟨Nat.le_of_ble_eq_true rfl, Nat.le_of_ble_eq_true rfl⟩ rfl (Nat.le_of_ble_eq_true rfl) (fun z7 e7 => ?_)
  refine J_callSz (pc := 10) fC_X0_38 dX0_feel_10 (c_X3_mind x' y' (((μ.1 b 3).toInt) / 10000) hx hy e7 (by omega)) rfl ⟨Nat.le_of_ble_eq_true rfl, Nat.le_of_ble_eq_true rfl⟩ rfl (Nat.le_of_ble_eq_true rfl) (fun z10 e10 => ?_)
  refine J_putIW (pc := 13) fF_X0_42 hb.1 rfl dX0_feel_13 (fun μ13 m13 => ?_)
  refine J_vret (pc := 16) dX0_feel_16 rfl ?_
  exact ⟨rfl, by rw [m13, iZ_of e10]; rfl⟩
set_option maxRecDepth 100000 in
set_option maxHeartbeats 4000000 in
theorem c_X0_listen {b : Nat} (hb : jarAt b) {w : Int32} (w' : Int) (hw : w.toInt = w') (h : 0 ≤ w' ∧ w' ≤ 5) (h3 : 0 ≤ (μ.1 b 3).toInt) (h4 : 0 ≤ (μ.1 b 4).toInt ∧ (μ.1 b 4).toInt < 1000000) : Con G shC mX0_listen [.ref b, .int w] μ (j_is none (listenM μ b w')) := by
  refine Con_of [some (.ref b), some (.int w)] (by decide +kernel) (Nat.le_of_ble_eq_true rfl) (fun _ h => h) ?_
  refine J_aload_n (pc := 0) dX0_listen_0 rfl ?_
  refine J_aload_n (pc := 1) dX0_listen_1 rfl ?_
  refine J_aload_n (pc := 2) dX0_listen_2 rfl ?_
  refine J_getI (pc := 3) fF_X0_42 hb.1 rfl dX0_listen_3 ?_
  refine J_aload_n (pc := 6) dX0_listen_6 rfl ?_
  refine J_getI (pc := 7) fF_X0_44 hb.1 rfl dX0_listen_7 ?_
  refine J_iload_n (pc := 10) dX0_listen_10 rfl ?_
  refine J_callVz (pc := 11) fC_X0_84 hb.1 dX0_listen_11 (c_X0_hear hb ((μ.1 b 3).toInt) ((μ.1 b 4).toInt) w' rfl rfl hw (by omega)) rfl ⟨Nat.le_of_ble_eq_true rfl, Nat.le_of_ble_eq_true rfl⟩ rfl (Nat.le_of_ble_eq_true rfl) (fun z11 e11 => ?_)
  refine J_putIW (pc := 14) fF_X0_42 hb.1 rfl dX0_listen_14 (fun μ14 m14 => ?_)
  refine J_aload_n (pc := 17) dX0_listen_17 rfl ?_
  refine J_dup (pc := 18) dX0_listen_18 rfl ?_
  refine J_getI (pc := 19) fF_X0_44 hb.1 rfl dX0_listen_19 ?_
  refine J_iconst (pc := 22) (v := 1) dX0_listen_22 (by decide) ?_
  refine J_iaddW (pc := 23) ((μ.1 b 4).toInt) 1 (show (μ14.1 b 4).toInt = (μ.1 b 4).toInt by simp [m14, jI_i]) rfl dX0_listen_23 (by omega) (fun z23 e23 => ?_)
  refine J_putIW (pc := 24) fF_X0_44 hb.1 rfl dX0_listen_24 (fun μ24 m24 => ?_)
  refine J_vret (pc := 27) dX0_listen_27 rfl ?_
  exact ⟨rfl, by rw [m24, m14, iZ_of e11, iZ_of e23]; rfl⟩
def takeM (μ : JM) (b a : Nat) : JM :=
  let m1 := jI μ b 0 (μ.1 a 0)
  let m2 := jI m1 b 1 (m1.1 a 1)
  let m3 := jI m2 b 2 (m2.1 a 2)
  let m4 := jI m3 b 3 (m3.1 a 3)
  let m5 := jI m4 b 4 (m4.1 a 4)
  let m6 := jI m5 b 5 (m5.1 a 5)
  let m7 := jI m6 b 6 (m6.1 a 6)
  let m8 := jC m7 (b + 1) (va_cpy (m7.1 (a + 1)) (m7.1 (b + 1)) 0 0 8)
  let m9 := jC m8 (b + 2) (va_cpy (m8.1 (a + 2)) (m8.1 (b + 2)) 0 0 24)
  let m10 := jC m9 (b + 3) (va_cpy (m9.1 (a + 3)) (m9.1 (b + 3)) 0 0 8)
  jC m10 (b + 4) (va_cpy (m10.1 (a + 4)) (m10.1 (b + 4)) 0 0 8)
def pushM (μ : JM) (b n : Nat) : JM :=
  let m1 := jI μ (b + 3) n (μ.1 b 3)
  let m2 := jI m1 (b + 4) n (m1.1 b 4)
  jI m2 b 6 (iZ ((n : Int) + 1))
def remM (μ : JM) (b : Nat) : JM :=
  if 8 ≤ (μ.1 b 6).toInt then
    let m1 := jC μ (b + 3) (va_cpy (μ.1 (b + 3)) (μ.1 (b + 3)) 1 0 7)
    let m2 := jC m1 (b + 4) (va_cpy (m1.1 (b + 4)) (m1.1 (b + 4)) 1 0 7)
    pushM (jI m2 b 6 7) b 7
  else pushM μ b (μ.1 b 6).toInt.toNat
def backM (μ : JM) (b n : Nat) : JM :=
  let m1 := jI μ b 6 (iZ (n : Int))
  let m2 := jI m1 b 3 (m1.1 (b + 3) n)
  jI m2 b 4 (m2.1 (b + 4) n)
def addM (μ : JM) (b c : Nat) (w n a p : Int32) : JM := jI (jI (jI (jI (jI μ (b + 2) (c * 4) w) (b + 2) (c * 4 + 1) n) (b + 2) (c * 4 + 2) a) (b + 2) (c * 4 + 3) p) b 5 (iZ ((c : Int) + 1))
set_option maxRecDepth 100000 in
set_option maxHeartbeats 4000000 in
theorem c_X0_take {b a : Nat} (hb : jarAt b) (ha : jarAt a) : Con G shC mX0_take [.ref b, .ref a] μ (j_is none (takeM μ b a)) := by
  refine Con_of [some (.ref b), some (.ref a)] (by decide +kernel) (Nat.le_of_ble_eq_true rfl) (fun _ h => h) ?_
  refine J_aload_n (pc := 0) dX0_take_0 rfl ?_
  refine J_aload_n (pc := 1) dX0_take_1 rfl ?_
  refine J_getI (pc := 2) fF_X0_28 ha.1 rfl dX0_take_2 ?_
  refine J_putIW (pc := 5) fF_X0_28 hb.1 rfl dX0_take_5 (fun μ5 m5 => ?_)
  refine J_aload_n (pc := 8) dX0_take_8 rfl ?_
  refine J_aload_n (pc := 9) dX0_take_9 rfl ?_
  refine J_getI (pc := 10) fF_X0_32 ha.1 rfl dX0_take_10 ?_
  refine J_putIW (pc := 13) fF_X0_32 hb.1 rfl dX0_take_13 (fun μ13 m13 => ?_)
  refine J_aload_n (pc := 16) dX0_take_16 rfl ?_
  refine J_aload_n (pc := 17) dX0_take_17 rfl ?_
  refine J_getI (pc := 18) fF_X0_35 ha.1 rfl dX0_take_18 ?_
  refine J_putIW (pc := 21) fF_X0_35 hb.1 rfl dX0_take_21 (fun μ21 m21 => ?_)
  refine J_aload_n (pc := 24) dX0_take_24 rfl ?_
  refine J_aload_n (pc := 25) dX0_take_25 rfl ?_
  refine J_getI (pc := 26) fF_X0_42 ha.1 rfl dX0_take_26 ?_
  refine J_putIW (pc := 29) fF_X0_42 hb.1 rfl dX0_take_29 (fun μ29 m29 => ?_)
  refine J_aload_n (pc := 32) dX0_take_32 rfl ?_
  refine J_aload_n (pc := 33) dX0_take_33 rfl ?_
  refine J_getI (pc := 34) fF_X0_44 ha.1 rfl dX0_take_34 ?_
  refine J_putIW (pc := 37) fF_X0_44 hb.1 rfl dX0_take_37 (fun μ37 m37 => ?_)
  refine J_aload_n (pc := 40) dX0_take_40 rfl ?_
  refine J_aload_n (pc := 41) dX0_take_41 rfl ?_
  refine J_getI (pc := 42) fF_X0_47 ha.1 rfl dX0_take_42 ?_
  refine J_putIW (pc := 45) fF_X0_47 hb.1 rfl dX0_take_45 (fun μ45 m45 => ?_)
  refine J_aload_n (pc := 48) dX0_take_48 rfl ?_
  refine J_aload_n (pc := 49) dX0_take_49 rfl ?_
  refine J_getI (pc := 50) fF_X0_50 ha.1 rfl dX0_take_50 ?_
  refine J_putIW (pc := 53) fF_X0_50 hb.1 rfl dX0_take_53 (fun μ53 m53 => ?_)
  refine J_aload_n (pc := 56) dX0_take_56 rfl ?_
  refine J_getR (pc := 57) (a + 1) fF_X0_15 ha.1 rfl dX0_take_57 ?_
  refine J_iconst (pc := 60) (v := 0) dX0_take_60 (by decide) ?_
  refine J_aload_n (pc := 61) dX0_take_61 rfl ?_
  refine J_getR (pc := 62) (b + 1) fF_X0_15 hb.1 rfl dX0_take_62 ?_
  refine J_iconst (pc := 65) (v := 0) dX0_take_65 (by decide) ?_
  refine J_bipush (pc := 66) (v := 8) dX0_take_66 (by decide) ?_
  refine J_copyW (pc := 68) 0 0 8 rfl rfl rfl (by decide) (by decide) (by decide) ⟨big_t 154 (by decide +kernel) (by decide +kernel), big_t 156 (by decide +kernel) (by decide +kernel), big_t 155 (by decide +kernel) (by decide +kernel), big_t 5 (by decide +kernel) (by decide +kernel)⟩ ha.2.1 hb.2.1 (by decide) (by decide) (Nat.le_of_ble_eq_true rfl) (Nat.le_of_ble_eq_true rfl) dX0_take_68 (fun μ68 m68 => ?_)
  refine J_aload_n (pc := 71) dX0_take_71 rfl ?_
  refine J_getR (pc := 72) (a + 2) fF_X0_19 ha.1 rfl dX0_take_72 ?_
  refine J_iconst (pc := 75) (v := 0) dX0_take_75 (by decide) ?_
  refine J_aload_n (pc := 76) dX0_take_76 rfl ?_
  refine J_getR (pc := 77) (b + 2) fF_X0_19 hb.1 rfl dX0_take_77 ?_
  refine J_iconst (pc := 80) (v := 0) dX0_take_80 (by decide) ?_
  refine J_bipush (pc := 81) (v := 24) dX0_take_81 (by decide) ?_
  refine J_copyW (pc := 83) 0 0 24 rfl rfl rfl (by decide) (by decide) (by decide) ⟨big_t 154 (by decide +kernel) (by decide +kernel), big_t 156 (by decide +kernel) (by decide +kernel), big_t 155 (by decide +kernel) (by decide +kernel), big_t 5 (by decide +kernel) (by decide +kernel)⟩ ha.2.2.1 hb.2.2.1 (by decide) (by decide) (Nat.le_of_ble_eq_true rfl) (Nat.le_of_ble_eq_true rfl) dX0_take_83 (fun μ83 m83 => ?_)
  refine J_aload_n (pc := 86) dX0_take_86 rfl ?_
  refine J_getR (pc := 87) (a + 3) fF_X0_22 ha.1 rfl dX0_take_87 ?_
  refine J_iconst (pc := 90) (v := 0) dX0_take_90 (by decide) ?_
  refine J_aload_n (pc := 91) dX0_take_91 rfl ?_
  refine J_getR (pc := 92) (b + 3) fF_X0_22 hb.1 rfl dX0_take_92 ?_
  refine J_iconst (pc := 95) (v := 0) dX0_take_95 (by decide) ?_
  refine J_bipush (pc := 96) (v := 8) dX0_take_96 (by decide) ?_
  refine J_copyW (pc := 98) 0 0 8 rfl rfl rfl (by decide) (by decide) (by decide) ⟨big_t 154 (by decide +kernel) (by decide +kernel), big_t 156 (by decide +kernel) (by decide +kernel), big_t 155 (by decide +kernel) (by decide +kernel), big_t 5 (by decide +kernel) (by decide +kernel)⟩ ha.2.2.2.1 hb.2.2.2.1 (by decide) (by decide) (Nat.le_of_ble_eq_true rfl) (Nat.le_of_ble_eq_true rfl) dX0_take_98 (fun μ98 m98 => ?_)
  refine J_aload_n (pc := 101) dX0_take_101 rfl ?_
  refine J_getR (pc := 102) (a + 4) fF_X0_25 ha.1 rfl dX0_take_102 ?_
  refine J_iconst (pc := 105) (v := 0) dX0_take_105 (by decide) ?_
  refine J_aload_n (pc := 106) dX0_take_106 rfl ?_
  refine J_getR (pc := 107) (b + 4) fF_X0_25 hb.1 rfl dX0_take_107 ?_
  refine J_iconst (pc := 110) (v := 0) dX0_take_110 (by decide) ?_
  refine J_bipush (pc := 111) (v := 8) dX0_take_111 (by decide) ?_
  refine J_copyW (pc := 113) 0 0 8 rfl rfl rfl (by decide) (by decide) (by decide) ⟨big_t 154 (by decide +kernel) (by decide +kernel), big_t 156 (by decide +kernel) (by decide +kernel), big_t 155 (by decide +kernel) (by decide +kernel), big_t 5 (by decide +kernel) (by decide +kernel)⟩ ha.2.2.2.2.1 hb.2.2.2.2.1 (by decide) (by decide) (Nat.le_of_ble_eq_true rfl) (Nat.le_of_ble_eq_true rfl) dX0_take_113 (fun μ113 m113 => ?_)
  refine J_vret (pc := 116) dX0_take_116 rfl ?_
  subst m5 m13 m21 m29 m37 m45 m53 m68 m83 m98 m113
  exact ⟨rfl, rfl⟩
set_option maxRecDepth 100000 in
set_option maxHeartbeats 4000000 in
theorem c_X0_remember {b : Nat} (hb : jarAt b) (h6 : 0 ≤ (μ.1 b 6).toInt ∧ (μ.1 b 6).toInt ≤ 8) : Con G shC mX0_remember [.ref b] μ (j_is none (remM μ b)) := by
  refine Con_of [some (.ref b)] (by decide +kernel) (Nat.le_of_ble_eq_true rfl) (fun _ h => h) ?_
  refine J_aload_n (pc := 0) dX0_remember_0 rfl ?_
  refine J_getI (pc := 1) fF_X0_50 hb.1 rfl dX0_remember_1 ?_
  refine J_bipush (pc := 4) (v := 8) dX0_remember_4 (by decide) ?_
  refine J_icmp_ltW (pc := 6) ((μ.1 b 6).toInt) 8 rfl rfl 45 dX0_remember_6 (by decide) (fun h6 => ?_) (fun h6 => ?_)
  · refine J_aload_n (pc := 45) dX0_remember_45 rfl ?_
    refine J_getR (pc := 46) (b + 3) fF_X0_22 hb.1 rfl dX0_remember_46 ?_
    refine J_aload_n (pc := 49) dX0_remember_49 rfl ?_
    refine J_getI (pc := 50) fF_X0_50 hb.1 rfl dX0_remember_50 ?_
    refine J_aload_n (pc := 53) dX0_remember_53 rfl ?_
    refine J_getI (pc := 54) fF_X0_42 hb.1 rfl dX0_remember_54 ?_
    refine J_callSv (pc := 57) fC_X0_87 dX0_remember_57 (c_X3_put hb.2.2.2.1 (((μ.1 b 6).toInt).toNat) (by omega) (by omega) (by omega)) rfl ⟨Nat.le_of_ble_eq_true rfl, Nat.le_of_ble_eq_true rfl⟩ rfl (Nat.le_of_ble_eq_true rfl) (fun μ57 m57 => ?_)
    refine J_aload_n (pc := 60) dX0_remember_60 rfl ?_
    refine J_getR (pc := 61) (b + 4) fF_X0_25 hb.1 rfl dX0_remember_61 ?_
    refine J_aload_n (pc := 64) dX0_remember_64 rfl ?_
    refine J_getI (pc := 65) fF_X0_50 hb.1 rfl dX0_remember_65 ?_
    refine J_aload_n (pc := 68) dX0_remember_68 rfl ?_
    refine J_getI (pc := 69) fF_X0_44 hb.1 rfl dX0_remember_69 ?_
    refine J_callSv (pc := 72) fC_X0_87 dX0_remember_72 (c_X3_put hb.2.2.2.2.1 (((μ.1 b 6).toInt).toNat) (by have q := (show (μ57.1 b 6).toInt = (μ.1 b 6).toInt by simp [m57, jI_i]); omega) (by omega) (by omega)) rfl ⟨Nat.le_of_ble_eq_true rfl, Nat.le_of_ble_eq_true rfl⟩ rfl (Nat.le_of_ble_eq_true rfl) (fun μ72 m72 => ?_)
    refine J_aload_n (pc := 75) dX0_remember_75 rfl ?_
    refine J_dup (pc := 76) dX0_remember_76 rfl ?_
    refine J_getI (pc := 77) fF_X0_50 hb.1 rfl dX0_remember_77 ?_
    refine J_iconst (pc := 80) (v := 1) dX0_remember_80 (by decide) ?_
    refine J_iaddW (pc := 81) ((μ.1 b 6).toInt) 1 (show (μ72.1 b 6).toInt = (μ.1 b 6).toInt by simp [m72, m57, jI_i]) rfl dX0_remember_81 (by omega) (fun z81 e81 => ?_)
    refine J_putIW (pc := 82) fF_X0_50 hb.1 rfl dX0_remember_82 (fun μ82 m82 => ?_)
    refine J_vret (pc := 85) dX0_remember_85 rfl ?_
    refine ⟨rfl, ?_⟩
    unfold remM
    first
      | (rw [if_neg (by omega)]; rw [iZ_of e81] at m82; subst m57 m72 m82; rw [pushM, show ((μ.1 b 6).toInt.toNat : Int) = (μ.1 b 6).toInt by omega])
      | (rw [if_pos (by omega)]; rw [iZ_of e81] at m82; subst m21 m36 m42 m57 m72 m82; rfl)
  · refine J_aload_n (pc := 9) dX0_remember_9 rfl ?_
    refine J_getR (pc := 10) (b + 3) fF_X0_22 hb.1 rfl dX0_remember_10 ?_
    refine J_iconst (pc := 13) (v := 1) dX0_remember_13 (by decide) ?_
    refine J_aload_n (pc := 14) dX0_remember_14 rfl ?_
    refine J_getR (pc := 15) (b + 3) fF_X0_22 hb.1 rfl dX0_remember_15 ?_
    refine J_iconst (pc := 18) (v := 0) dX0_remember_18 (by decide) ?_
    refine J_bipush (pc := 19) (v := 7) dX0_remember_19 (by decide) ?_
    refine J_copyW (pc := 21) 1 0 7 rfl rfl rfl (by decide) (by decide) (by decide) ⟨big_t 154 (by decide +kernel) (by decide +kernel), big_t 156 (by decide +kernel) (by decide +kernel), big_t 155 (by decide +kernel) (by decide +kernel), big_t 5 (by decide +kernel) (by decide +kernel)⟩ hb.2.2.2.1 hb.2.2.2.1 (by decide) (by decide) (Nat.le_of_ble_eq_true rfl) (Nat.le_of_ble_eq_true rfl) dX0_remember_21 (fun μ21 m21 => ?_)
    refine J_aload_n (pc := 24) dX0_remember_24 rfl ?_
    refine J_getR (pc := 25) (b + 4) fF_X0_25 hb.1 rfl dX0_remember_25 ?_
    refine J_iconst (pc := 28) (v := 1) dX0_remember_28 (by decide) ?_
    refine J_aload_n (pc := 29) dX0_remember_29 rfl ?_
    refine J_getR (pc := 30) (b + 4) fF_X0_25 hb.1 rfl dX0_remember_30 ?_
    refine J_iconst (pc := 33) (v := 0) dX0_remember_33 (by decide) ?_
    refine J_bipush (pc := 34) (v := 7) dX0_remember_34 (by decide) ?_
    refine J_copyW (pc := 36) 1 0 7 rfl rfl rfl (by decide) (by decide) (by decide) ⟨big_t 154 (by decide +kernel) (by decide +kernel), big_t 156 (by decide +kernel) (by decide +kernel), big_t 155 (by decide +kernel) (by decide +kernel), big_t 5 (by decide +kernel) (by decide +kernel)⟩ hb.2.2.2.2.1 hb.2.2.2.2.1 (by decide) (by decide) (Nat.le_of_ble_eq_true rfl) (Nat.le_of_ble_eq_true rfl) dX0_remember_36 (fun μ36 m36 => ?_)
    refine J_aload_n (pc := 39) dX0_remember_39 rfl ?_
    refine J_bipush (pc := 40) (v := 7) dX0_remember_40 (by decide) ?_
    refine J_putIW (pc := 42) fF_X0_50 hb.1 rfl dX0_remember_42 (fun μ42 m42 => ?_)
    refine J_aload_n (pc := 45) dX0_remember_45 rfl ?_
    refine J_getR (pc := 46) (b + 3) fF_X0_22 hb.1 rfl dX0_remember_46 ?_
    refine J_aload_n (pc := 49) dX0_remember_49 rfl ?_
    refine J_getI (pc := 50) fF_X0_50 hb.1 rfl dX0_remember_50 ?_
    refine J_aload_n (pc := 53) dX0_remember_53 rfl ?_
    refine J_getI (pc := 54) fF_X0_42 hb.1 rfl dX0_remember_54 ?_
    refine J_callSv (pc := 57) fC_X0_87 dX0_remember_57 (c_X3_put hb.2.2.2.1 7 (by have q := (show (μ42.1 b 6).toInt = 7 by simp [m42, jI_i]); omega) (by omega) (by omega)) rfl ⟨Nat.le_of_ble_eq_true rfl, Nat.le_of_ble_eq_true rfl⟩ rfl (Nat.le_of_ble_eq_true rfl) (fun μ57 m57 => ?_)
    refine J_aload_n (pc := 60) dX0_remember_60 rfl ?_
    refine J_getR (pc := 61) (b + 4) fF_X0_25 hb.1 rfl dX0_remember_61 ?_
    refine J_aload_n (pc := 64) dX0_remember_64 rfl ?_
    refine J_getI (pc := 65) fF_X0_50 hb.1 rfl dX0_remember_65 ?_
    refine J_aload_n (pc := 68) dX0_remember_68 rfl ?_
    refine J_getI (pc := 69) fF_X0_44 hb.1 rfl dX0_remember_69 ?_
    refine J_callSv (pc := 72) fC_X0_87 dX0_remember_72 (c_X3_put hb.2.2.2.2.1 7 (by have q := (show (μ57.1 b 6).toInt = 7 by simp [m57, m42, jI_i]); omega) (by omega) (by omega)) rfl ⟨Nat.le_of_ble_eq_true rfl, Nat.le_of_ble_eq_true rfl⟩ rfl (Nat.le_of_ble_eq_true rfl) (fun μ72 m72 => ?_)
    refine J_aload_n (pc := 75) dX0_remember_75 rfl ?_
    refine J_dup (pc := 76) dX0_remember_76 rfl ?_
    refine J_getI (pc := 77) fF_X0_50 hb.1 rfl dX0_remember_77 ?_
    refine J_iconst (pc := 80) (v := 1) dX0_remember_80 (by decide) ?_
    refine J_iaddW (pc := 81) 7 1 (show (μ72.1 b 6).toInt = 7 by simp [m72, m57, m42, jI_i]) rfl dX0_remember_81 (by omega) (fun z81 e81 => ?_)
    refine J_putIW (pc := 82) fF_X0_50 hb.1 rfl dX0_remember_82 (fun μ82 m82 => ?_)
    refine J_vret (pc := 85) dX0_remember_85 rfl ?_
    refine ⟨rfl, ?_⟩
    unfold remM
    first
      | (rw [if_neg (by omega)]; rw [iZ_of e81] at m82; subst m57 m72 m82; rw [pushM, show ((μ.1 b 6).toInt.toNat : Int) = (μ.1 b 6).toInt by omega])
      | (rw [if_pos (by omega)]; rw [iZ_of e81] at m82; subst m21 m36 m42 m57 m72 m82; rfl)
set_option maxRecDepth 100000 in
set_option maxHeartbeats 4000000 in
theorem c_X0_goBack {b : Nat} (hb : jarAt b) (n : Nat) (hn : (μ.1 b 6).toInt = (n : Int) + 1) (h6 : n < 8) : Con G shC mX0_goBack [.ref b] μ (j_is none (backM μ b n)) := by
  refine Con_of [some (.ref b)] (by decide +kernel) (Nat.le_of_ble_eq_true rfl) (fun _ h => h) ?_
  refine J_aload_n (pc := 0) dX0_goBack_0 rfl ?_
  refine J_dup (pc := 1) dX0_goBack_1 rfl ?_
  refine J_getI (pc := 2) fF_X0_50 hb.1 rfl dX0_goBack_2 ?_
  refine J_iconst (pc := 5) (v := 1) dX0_goBack_5 (by decide) ?_
  refine J_isubW (pc := 6) ((n : Int) + 1) 1 hn rfl dX0_goBack_6 (by omega) (fun z6 e6 => ?_)
  have q6 : z6.toInt = (n : Int) := by omega
  refine J_putIW (pc := 7) fF_X0_50 hb.1 rfl dX0_goBack_7 (fun μ7 m7 => ?_)
  refine J_aload_n (pc := 10) dX0_goBack_10 rfl ?_
  refine J_aload_n (pc := 11) dX0_goBack_11 rfl ?_
  refine J_getR (pc := 12) (b + 3) fF_X0_22 hb.1 rfl dX0_goBack_12 ?_
  refine J_aload_n (pc := 15) dX0_goBack_15 rfl ?_
  refine J_getI (pc := 16) fF_X0_50 hb.1 rfl dX0_goBack_16 ?_
  refine J_callSe (pc := 19) fC_X0_91 dX0_goBack_19 (c_X3_at hb.2.2.2.1 n (by have q := (show (μ7.1 b 6).toInt = (n : Int) by simp [m7, jI_i]; exact q6); omega) (by omega) (by omega)) rfl ⟨Nat.le_of_ble_eq_true rfl, Nat.le_of_ble_eq_true rfl⟩ rfl (Nat.le_of_ble_eq_true rfl) ?_
  refine J_putIW (pc := 22) fF_X0_42 hb.1 rfl dX0_goBack_22 (fun μ22 m22 => ?_)
  refine J_aload_n (pc := 25) dX0_goBack_25 rfl ?_
  refine J_aload_n (pc := 26) dX0_goBack_26 rfl ?_
  refine J_getR (pc := 27) (b + 4) fF_X0_25 hb.1 rfl dX0_goBack_27 ?_
  refine J_aload_n (pc := 30) dX0_goBack_30 rfl ?_
  refine J_getI (pc := 31) fF_X0_50 hb.1 rfl dX0_goBack_31 ?_
  refine J_callSe (pc := 34) fC_X0_91 dX0_goBack_34 (c_X3_at hb.2.2.2.2.1 n (by have q := (show (μ22.1 b 6).toInt = (n : Int) by simp [m22, m7, jI_i]; exact q6); omega) (by omega) (by omega)) rfl ⟨Nat.le_of_ble_eq_true rfl, Nat.le_of_ble_eq_true rfl⟩ rfl (Nat.le_of_ble_eq_true rfl) ?_
  refine J_putIW (pc := 37) fF_X0_44 hb.1 rfl dX0_goBack_37 (fun μ37 m37 => ?_)
  refine J_vret (pc := 40) dX0_goBack_40 rfl ?_
  rw [iZ_of q6] at m7
  subst m7 m22 m37
  exact ⟨rfl, rfl⟩
set_option maxRecDepth 100000 in
set_option maxHeartbeats 4000000 in
theorem c_X0_addNote {b : Nat} (hb : jarAt b) {w n a p : Int32} (c : Nat) (hc : (μ.1 b 5).toInt = (c : Int)) (h : c < 6) : Con G shC mX0_addNote [.ref b, .int w, .int n, .int a, .int p] μ (j_is none (addM μ b c w n a p)) := by
  refine Con_of [some (.ref b), some (.int w), some (.int n), some (.int a), some (.int p), none] (by decide +kernel) (Nat.le_of_ble_eq_true rfl) (fun _ h => h) ?_
  refine J_aload_n (pc := 0) dX0_addNote_0 rfl ?_
  refine J_getI (pc := 1) fF_X0_47 hb.1 rfl dX0_addNote_1 ?_
  refine J_iconst (pc := 4) (v := 4) dX0_addNote_4 (by decide) ?_
  refine J_imulW (pc := 5) (c : Int) 4 hc rfl dX0_addNote_5 (by omega) (fun z5 e5 => ?_)
  refine J_istore (pc := 6) (lv' := [some (.ref b), some (.int w), some (.int n), some (.int a), some (.int p), some (.int z5)]) dX0_addNote_6 (Nat.le_of_ble_eq_true rfl) rfl rfl ?_
  refine J_aload_n (pc := 8) dX0_addNote_8 rfl ?_
  refine J_getR (pc := 9) (b + 2) fF_X0_19 hb.1 rfl dX0_addNote_9 ?_
  refine J_iload (pc := 12) dX0_addNote_12 rfl ?_
  refine J_iload_n (pc := 14) dX0_addNote_14 rfl ?_
  refine J_callSv (pc := 15) fC_X0_87 dX0_addNote_15 (c_X3_put hb.2.2.1 (c * 4) (by have q := e5; omega) (by omega) (by omega)) rfl ⟨Nat.le_of_ble_eq_true rfl, Nat.le_of_ble_eq_true rfl⟩ rfl (Nat.le_of_ble_eq_true rfl) (fun μ15 m15 => ?_)
  refine J_aload_n (pc := 18) dX0_addNote_18 rfl ?_
  refine J_getR (pc := 19) (b + 2) fF_X0_19 hb.1 rfl dX0_addNote_19 ?_
  refine J_iload (pc := 22) dX0_addNote_22 rfl ?_
  refine J_iconst (pc := 24) (v := 1) dX0_addNote_24 (by decide) ?_
  refine J_iaddW (pc := 25) ((c : Int) * 4) 1 e5 rfl dX0_addNote_25 (by omega) (fun z25 e25 => ?_)
  refine J_iload_n (pc := 26) dX0_addNote_26 rfl ?_
  refine J_callSv (pc := 27) fC_X0_87 dX0_addNote_27 (c_X3_put hb.2.2.1 ((c * 4) + 1) (by have q := e25; omega) (by omega) (by omega)) rfl ⟨Nat.le_of_ble_eq_true rfl, Nat.le_of_ble_eq_true rfl⟩ rfl (Nat.le_of_ble_eq_true rfl) (fun μ27 m27 => ?_)
  refine J_aload_n (pc := 30) dX0_addNote_30 rfl ?_
  refine J_getR (pc := 31) (b + 2) fF_X0_19 hb.1 rfl dX0_addNote_31 ?_
  refine J_iload (pc := 34) dX0_addNote_34 rfl ?_
  refine J_iconst (pc := 36) (v := 2) dX0_addNote_36 (by decide) ?_
  refine J_iaddW (pc := 37) ((c : Int) * 4) 2 e5 rfl dX0_addNote_37 (by omega) (fun z37 e37 => ?_)
  refine J_iload_n (pc := 38) dX0_addNote_38 rfl ?_
  refine J_callSv (pc := 39) fC_X0_87 dX0_addNote_39 (c_X3_put hb.2.2.1 ((c * 4) + 2) (by have q := e37; omega) (by omega) (by omega)) rfl ⟨Nat.le_of_ble_eq_true rfl, Nat.le_of_ble_eq_true rfl⟩ rfl (Nat.le_of_ble_eq_true rfl) (fun μ39 m39 => ?_)
  refine J_aload_n (pc := 42) dX0_addNote_42 rfl ?_
  refine J_getR (pc := 43) (b + 2) fF_X0_19 hb.1 rfl dX0_addNote_43 ?_
  refine J_iload (pc := 46) dX0_addNote_46 rfl ?_
  refine J_iconst (pc := 48) (v := 3) dX0_addNote_48 (by decide) ?_
  refine J_iaddW (pc := 49) ((c : Int) * 4) 3 e5 rfl dX0_addNote_49 (by omega) (fun z49 e49 => ?_)
  refine J_iload (pc := 50) dX0_addNote_50 rfl ?_
  refine J_callSv (pc := 52) fC_X0_87 dX0_addNote_52 (c_X3_put hb.2.2.1 ((c * 4) + 3) (by have q := e49; omega) (by omega) (by omega)) rfl ⟨Nat.le_of_ble_eq_true rfl, Nat.le_of_ble_eq_true rfl⟩ rfl (Nat.le_of_ble_eq_true rfl) (fun μ52 m52 => ?_)
  refine J_aload_n (pc := 55) dX0_addNote_55 rfl ?_
  refine J_dup (pc := 56) dX0_addNote_56 rfl ?_
  refine J_getI (pc := 57) fF_X0_47 hb.1 rfl dX0_addNote_57 ?_
  refine J_iconst (pc := 60) (v := 1) dX0_addNote_60 (by decide) ?_
  refine J_iaddW (pc := 61) (c : Int) 1 (show (μ52.1 b 5).toInt = (c : Int) by simp [m52, m39, m27, m15, jI_i]; exact hc) rfl dX0_addNote_61 (by omega) (fun z61 e61 => ?_)
  refine J_putIW (pc := 62) fF_X0_47 hb.1 rfl dX0_addNote_62 (fun μ62 m62 => ?_)
  refine J_vret (pc := 65) dX0_addNote_65 rfl ?_
  rw [iZ_of e61] at m62
  subst m15 m27 m39 m52 m62
  exact ⟨rfl, rfl⟩
end
section
/-! ===== the model's ground: fresh, no, noAs, begin, hear, giveBack, remember ===== -/
theorem jI_row (μ : JM) (o k : Nat) (x : Int32) : jI μ o k x = jC μ o (upd (μ.1 o) k x) := by
  unfold jI jC
  congr 1
  funext a b
  by_cases h : a = o
  · subst h; simp [upd]
  · simp [h]
theorem jC_jC (μ : JM) (o : Nat) (f g : Nat → Int32) : jC (jC μ o f) o g = jC μ o g := by
  unfold jC
  congr 1
  funext a
  by_cases h : a = o <;> simp [h]
theorem jC_at (μ : JM) (o : Nat) (f : Nat → Int32) : (jC μ o f).1 o = f := by simp [jC]
theorem jC_ne {μ : JM} {o a : Nat} {f : Nat → Int32} (h : a ≠ o) : (jC μ o f).1 a = μ.1 a := by simp [jC, h]
theorem jC_l (μ : JM) (o : Nat) (f : Nat → Int32) : (jC μ o f).2 = μ.2 := rfl
theorem jC_self (μ : JM) (o : Nat) : jC μ o (μ.1 o) = μ := by
  refine Prod.ext ?_ rfl
  funext a
  by_cases h : a = o
  · subst h; simp [jC]
  · simp [jC, h]
theorem row_0 (μ : JM) (o : Nat) (g : Nat → Int32) : jC μ o (fun j => if j < 0 then g j else μ.1 o j) = μ := by
  simp [jC_self]
theorem row_s {μ ν : JM} {o i : Nat} {g : Nat → Int32} {x : Int32} (h : ν = jC μ o (fun j => if j < i then g j else μ.1 o j)) (hx : x = g i) : jI ν o i x = jC μ o (fun j => if j < i + 1 then g j else μ.1 o j) := by
  rw [jI_row, h, jC_jC, jC_at]
  congr 1
  funext j
  by_cases hj : j = i
  · subst hj; simp [upd, hx]
  · by_cases hl : j < i
    · simp [upd, hj, hl, show j < i + 1 by omega]
    · simp [upd, hj, hl, show ¬ j < i + 1 by omega]
variable {G : JG} {μ : JM}
set_option maxRecDepth 100000 in
set_option maxHeartbeats 4000000 in
theorem c_X4_no2  : Con G shM mX4_no [.ref 0, .int (-2)] μ (j_is (some (.int (-2))) (jI μ 4 0 (μ.1 4 0 + 1))) := by
  refine Con_of [some (.ref 0), some (.int (-2))] (by decide +kernel) (Nat.le_of_ble_eq_true rfl) (fun _ h => h) ?_
  refine J_aload_n (pc := 0) dX4_no_0 rfl ?_
  refine J_getR (pc := 1) 4 fF_X4_19 rfl rfl dX4_no_1 ?_
  refine J_bipush (pc := 4) (v := (-2)) dX4_no_4 (by decide) ?_
  refine J_iload_n (pc := 6) dX4_no_6 rfl ?_
  refine J_isubW (pc := 7) (-2) (-2) rfl rfl dX4_no_7 (by omega) (fun z7 e7 => ?_)
  refine J_dup2 (pc := 8) dX4_no_8 rfl rfl ?_
  refine J_ialdW (pc := 9) 0 (by omega) rfl (by decide) dX4_no_9 ?_
  refine J_iconst (pc := 10) (v := 1) dX4_no_10 (by decide) ?_
  refine J_iadd (pc := 11) dX4_no_11 ?_
  refine J_iastW (pc := 12) 0 (by omega) rfl (by decide) dX4_no_12 (fun μ12 m12 => ?_)
  refine J_iload_n (pc := 13) dX4_no_13 rfl ?_
  refine J_iret (pc := 14) dX4_no_14 rfl ?_
  exact ⟨rfl, m12⟩
set_option maxRecDepth 100000 in
set_option maxHeartbeats 4000000 in
theorem c_X4_no3  : Con G shM mX4_no [.ref 0, .int (-3)] μ (j_is (some (.int (-3))) (jI μ 4 1 (μ.1 4 1 + 1))) := by
  refine Con_of [some (.ref 0), some (.int (-3))] (by decide +kernel) (Nat.le_of_ble_eq_true rfl) (fun _ h => h) ?_
  refine J_aload_n (pc := 0) dX4_no_0 rfl ?_
  refine J_getR (pc := 1) 4 fF_X4_19 rfl rfl dX4_no_1 ?_
  refine J_bipush (pc := 4) (v := (-2)) dX4_no_4 (by decide) ?_
  refine J_iload_n (pc := 6) dX4_no_6 rfl ?_
  refine J_isubW (pc := 7) (-2) (-3) rfl rfl dX4_no_7 (by omega) (fun z7 e7 => ?_)
  refine J_dup2 (pc := 8) dX4_no_8 rfl rfl ?_
  refine J_ialdW (pc := 9) 1 (by omega) rfl (by decide) dX4_no_9 ?_
  refine J_iconst (pc := 10) (v := 1) dX4_no_10 (by decide) ?_
  refine J_iadd (pc := 11) dX4_no_11 ?_
  refine J_iastW (pc := 12) 1 (by omega) rfl (by decide) dX4_no_12 (fun μ12 m12 => ?_)
  refine J_iload_n (pc := 13) dX4_no_13 rfl ?_
  refine J_iret (pc := 14) dX4_no_14 rfl ?_
  exact ⟨rfl, m12⟩
set_option maxRecDepth 100000 in
set_option maxHeartbeats 4000000 in
theorem c_X4_no4  : Con G shM mX4_no [.ref 0, .int (-4)] μ (j_is (some (.int (-4))) (jI μ 4 2 (μ.1 4 2 + 1))) := by
  refine Con_of [some (.ref 0), some (.int (-4))] (by decide +kernel) (Nat.le_of_ble_eq_true rfl) (fun _ h => h) ?_
  refine J_aload_n (pc := 0) dX4_no_0 rfl ?_
  refine J_getR (pc := 1) 4 fF_X4_19 rfl rfl dX4_no_1 ?_
  refine J_bipush (pc := 4) (v := (-2)) dX4_no_4 (by decide) ?_
  refine J_iload_n (pc := 6) dX4_no_6 rfl ?_
  refine J_isubW (pc := 7) (-2) (-4) rfl rfl dX4_no_7 (by omega) (fun z7 e7 => ?_)
  refine J_dup2 (pc := 8) dX4_no_8 rfl rfl ?_
  refine J_ialdW (pc := 9) 2 (by omega) rfl (by decide) dX4_no_9 ?_
  refine J_iconst (pc := 10) (v := 1) dX4_no_10 (by decide) ?_
  refine J_iadd (pc := 11) dX4_no_11 ?_
  refine J_iastW (pc := 12) 2 (by omega) rfl (by decide) dX4_no_12 (fun μ12 m12 => ?_)
  refine J_iload_n (pc := 13) dX4_no_13 rfl ?_
  refine J_iret (pc := 14) dX4_no_14 rfl ?_
  exact ⟨rfl, m12⟩
set_option maxRecDepth 100000 in
set_option maxHeartbeats 4000000 in
theorem c_X4_noAs {a : Int32} : Con G shM mX4_noAs [.ref 0, .int a] μ (j_is (some (.int a)) (jI μ 4 0 (μ.1 4 0 + 1))) := by
  refine Con_of [some (.ref 0), some (.int a)] (by decide +kernel) (Nat.le_of_ble_eq_true rfl) (fun _ h => h) ?_
  refine J_aload_n (pc := 0) dX4_noAs_0 rfl ?_
  refine J_getR (pc := 1) 4 fF_X4_19 rfl rfl dX4_noAs_1 ?_
  refine J_iconst (pc := 4) (v := 0) dX4_noAs_4 (by decide) ?_
  refine J_dup2 (pc := 5) dX4_noAs_5 rfl rfl ?_
  refine J_ialdW (pc := 6) 0 (rfl) rfl (by decide) dX4_noAs_6 ?_
  refine J_iconst (pc := 7) (v := 1) dX4_noAs_7 (by decide) ?_
  refine J_iadd (pc := 8) dX4_noAs_8 ?_
  refine J_iastW (pc := 9) 0 (rfl) rfl (by decide) dX4_noAs_9 (fun μ9 m9 => ?_)
  refine J_iload_n (pc := 10) dX4_noAs_10 rfl ?_
  refine J_iret (pc := 11) dX4_noAs_11 rfl ?_
  exact ⟨rfl, m9⟩
def beginM (μ : JM) : JM := jI (jI (jI (jI μ 0 4 (μ.1 1 1)) 0 5 (μ.1 1 2)) 0 6 (μ.1 1 5)) 0 7 (μ.1 1 6)
def giveM (μ : JM) : JM := jI (jI (jI (jI μ 1 1 (μ.1 0 4)) 1 2 (μ.1 0 5)) 1 5 (μ.1 0 6)) 1 6 (μ.1 0 7)
def hA2 (k a n w : Int) : Int := kZ (a + aZ k w n)
def hP2 (k p n w : Int) : Int := kZ (p + pZ k w n)
/-- a word heard: what the model's four numbers become -/
def setS (μ : JM) (a p n b : Int) : JM := jI (jI (jI (jI μ 0 4 (iZ a)) 0 5 (iZ p)) 0 6 (iZ n)) 0 7 (iZ b)
def hearM (μ : JM) (w : Int) : JM :=
  setS μ (hA2 (μ.1 1 0).toInt (μ.1 0 4).toInt (μ.1 0 6).toInt w) (hP2 (μ.1 1 0).toInt (μ.1 0 5).toInt (μ.1 0 6).toInt w) ((μ.1 0 6).toInt + 1)
    (jZ (μ.1 1 3).toInt (μ.1 1 4).toInt (hA2 (μ.1 1 0).toInt (μ.1 0 4).toInt (μ.1 0 6).toInt w) (hP2 (μ.1 1 0).toInt (μ.1 0 5).toInt (μ.1 0 6).toInt w) w)
def shamM (μ : JM) (w : Int) : JM := setS μ (μ.1 0 4).toInt (μ.1 0 5).toInt ((μ.1 0 6).toInt + 1) (jZ (μ.1 1 3).toInt (μ.1 1 4).toInt (μ.1 0 4).toInt (μ.1 0 5).toInt w)
set_option maxRecDepth 100000 in
set_option maxHeartbeats 4000000 in
theorem c_X4_begin  : Con G shM mX4_begin [.ref 0] μ (j_is none (beginM μ)) := by
  refine Con_of [some (.ref 0)] (by decide +kernel) (Nat.le_of_ble_eq_true rfl) (fun _ h => h) ?_
  refine J_aload_n (pc := 0) dX4_begin_0 rfl ?_
  refine J_aload_n (pc := 1) dX4_begin_1 rfl ?_
  refine J_getR (pc := 2) 1 fF_X4_7 rfl rfl dX4_begin_2 ?_
  refine J_iconst (pc := 5) (v := 1) dX4_begin_5 (by decide) ?_
  refine J_ialdW (pc := 6) 1 (rfl) rfl (by decide) dX4_begin_6 ?_
  refine J_putIW (pc := 7) fF_X4_66 rfl rfl dX4_begin_7 (fun μ7 m7 => ?_)
  refine J_aload_n (pc := 10) dX4_begin_10 rfl ?_
  refine J_aload_n (pc := 11) dX4_begin_11 rfl ?_
  refine J_getR (pc := 12) 1 fF_X4_7 rfl rfl dX4_begin_12 ?_
  refine J_iconst (pc := 15) (v := 2) dX4_begin_15 (by decide) ?_
  refine J_ialdW (pc := 16) 2 (rfl) rfl (by decide) dX4_begin_16 ?_
  refine J_putIW (pc := 17) fF_X4_70 rfl rfl dX4_begin_17 (fun μ17 m17 => ?_)
  refine J_aload_n (pc := 20) dX4_begin_20 rfl ?_
  refine J_aload_n (pc := 21) dX4_begin_21 rfl ?_
  refine J_getR (pc := 22) 1 fF_X4_7 rfl rfl dX4_begin_22 ?_
  refine J_iconst (pc := 25) (v := 5) dX4_begin_25 (by decide) ?_
  refine J_ialdW (pc := 26) 5 (rfl) rfl (by decide) dX4_begin_26 ?_
  refine J_putIW (pc := 27) fF_X4_73 rfl rfl dX4_begin_27 (fun μ27 m27 => ?_)
  refine J_aload_n (pc := 30) dX4_begin_30 rfl ?_
  refine J_aload_n (pc := 31) dX4_begin_31 rfl ?_
  refine J_getR (pc := 32) 1 fF_X4_7 rfl rfl dX4_begin_32 ?_
  refine J_bipush (pc := 35) (v := 6) dX4_begin_35 (by decide) ?_
  refine J_ialdW (pc := 37) 6 (rfl) rfl (by decide) dX4_begin_37 ?_
  refine J_putIW (pc := 38) fF_X4_76 rfl rfl dX4_begin_38 (fun μ38 m38 => ?_)
  refine J_vret (pc := 41) dX4_begin_41 rfl ?_
  subst m7 m17 m27 m38
  exact ⟨rfl, rfl⟩
set_option maxRecDepth 100000 in
set_option maxHeartbeats 4000000 in
theorem c_X4_giveBack  : Con G shM mX4_giveBack [.ref 0] μ (j_is none (giveM μ)) := by
  refine Con_of [some (.ref 0)] (by decide +kernel) (Nat.le_of_ble_eq_true rfl) (fun _ h => h) ?_
  refine J_aload_n (pc := 0) dX4_giveBack_0 rfl ?_
  refine J_getR (pc := 1) 1 fF_X4_7 rfl rfl dX4_giveBack_1 ?_
  refine J_iconst (pc := 4) (v := 1) dX4_giveBack_4 (by decide) ?_
  refine J_aload_n (pc := 5) dX4_giveBack_5 rfl ?_
  refine J_getI (pc := 6) fF_X4_66 rfl rfl dX4_giveBack_6 ?_
  refine J_iastW (pc := 9) 1 (rfl) rfl (by decide) dX4_giveBack_9 (fun μ9 m9 => ?_)
  refine J_aload_n (pc := 10) dX4_giveBack_10 rfl ?_
  refine J_getR (pc := 11) 1 fF_X4_7 rfl rfl dX4_giveBack_11 ?_
  refine J_iconst (pc := 14) (v := 2) dX4_giveBack_14 (by decide) ?_
  refine J_aload_n (pc := 15) dX4_giveBack_15 rfl ?_
  refine J_getI (pc := 16) fF_X4_70 rfl rfl dX4_giveBack_16 ?_
  refine J_iastW (pc := 19) 2 (rfl) rfl (by decide) dX4_giveBack_19 (fun μ19 m19 => ?_)
  refine J_aload_n (pc := 20) dX4_giveBack_20 rfl ?_
  refine J_getR (pc := 21) 1 fF_X4_7 rfl rfl dX4_giveBack_21 ?_
  refine J_iconst (pc := 24) (v := 5) dX4_giveBack_24 (by decide) ?_
  refine J_aload_n (pc := 25) dX4_giveBack_25 rfl ?_
  refine J_getI (pc := 26) fF_X4_73 rfl rfl dX4_giveBack_26 ?_
  refine J_iastW (pc := 29) 5 (rfl) rfl (by decide) dX4_giveBack_29 (fun μ29 m29 => ?_)
  refine J_aload_n (pc := 30) dX4_giveBack_30 rfl ?_
  refine J_getR (pc := 31) 1 fF_X4_7 rfl rfl dX4_giveBack_31 ?_
  refine J_bipush (pc := 34) (v := 6) dX4_giveBack_34 (by decide) ?_
  refine J_aload_n (pc := 36) dX4_giveBack_36 rfl ?_
  refine J_getI (pc := 37) fF_X4_76 rfl rfl dX4_giveBack_37 ?_
  refine J_iastW (pc := 40) 6 (rfl) rfl (by decide) dX4_giveBack_40 (fun μ40 m40 => ?_)
  refine J_vret (pc := 41) dX4_giveBack_41 rfl ?_
  subst m9 m19 m29 m40
  exact ⟨rfl, rfl⟩
theorem cM_keep {μ μ' : JM} (hc : constM μ) (h2 : ∀ j, μ'.1 2 j = μ.1 2 j) (h3 : ∀ j, μ'.1 3 j = μ.1 3 j) : constM μ' := ⟨fun j hj => by rw [h2]; exact hc.1 j hj, fun j hj => by rw [h3]; exact hc.2 j hj⟩
set_option maxRecDepth 100000 in
set_option maxHeartbeats 4000000 in
theorem c_X4_hear1 (hc : constM μ) {w : Int32} (w' : Int) (hw : w.toInt = w') (h : 0 ≤ w' ∧ w' ≤ 5) (h4 : 0 ≤ (μ.1 0 4).toInt ∧ (μ.1 0 4).toInt ≤ 99) (h5 : 0 ≤ (μ.1 0 5).toInt ∧ (μ.1 0 5).toInt ≤ 99) (h6 : 0 ≤ (μ.1 0 6).toInt ∧ (μ.1 0 6).toInt < 1000000) : Con G shM mX4_hear [.ref 0, .int w, .int 1] μ (j_is none (hearM μ w')) := by
  have r1 := aZ_rng (μ.1 1 0).toInt w' (μ.1 0 6).toInt
  have r2 := pZ_rng (μ.1 1 0).toInt w' (μ.1 0 6).toInt
  have r3 := kZ_rng ((μ.1 0 4).toInt + aZ (μ.1 1 0).toInt w' (μ.1 0 6).toInt)
  have r4 := kZ_rng ((μ.1 0 5).toInt + pZ (μ.1 1 0).toInt w' (μ.1 0 6).toInt)
  refine Con_of [some (.ref 0), some (.int w), some (.int 1)] (by decide +kernel) (Nat.le_of_ble_eq_true rfl) (fun _ h => h) ?_
  refine J_aload_n (pc := 0) dX4_hear_0 rfl ?_
  refine J_iload_n (pc := 1) dX4_hear_1 rfl ?_
  refine J_if_eq_F (pc := 2) 31 dX4_hear_2 (by decide) (by decide) ?_
  refine J_aload_n (pc := 5) dX4_hear_5 rfl ?_
  refine J_getI (pc := 6) fF_X4_66 rfl rfl dX4_hear_6 ?_
  refine J_aload_n (pc := 9) dX4_hear_9 rfl ?_
  refine J_aload_n (pc := 10) dX4_hear_10 rfl ?_
  refine J_getR (pc := 11) 1 fF_X4_7 rfl rfl dX4_hear_11 ?_
  refine J_iconst (pc := 14) (v := 0) dX4_hear_14 (by decide) ?_
  refine J_ialdW (pc := 15) 0 (rfl) rfl (by decide) dX4_hear_15 ?_
  refine J_iload_n (pc := 16) dX4_hear_16 rfl ?_
  refine J_aload_n (pc := 17) dX4_hear_17 rfl ?_
  refine J_getI (pc := 18) fF_X4_73 rfl rfl dX4_hear_18 ?_
  refine J_callVz (pc := 21) fC_X4_79 rfl dX4_hear_21 (c_X4_angerBy hc ((μ.1 1 0).toInt) w' ((μ.1 0 6).toInt) rfl hw rfl (by omega)) rfl ⟨Nat.le_of_ble_eq_true rfl, Nat.le_of_ble_eq_true rfl⟩ rfl (Nat.le_of_ble_eq_true rfl) (fun z21 e21 => ?_)
  refine J_iaddW (pc := 24) ((μ.1 0 4).toInt) (aZ ((μ.1 1 0).toInt) w' ((μ.1 0 6).toInt)) rfl e21 dX4_hear_24 (by omega) (fun z24 e24 => ?_)
  refine J_callSz (pc := 25) fC_X4_83 dX4_hear_25 (c_X4_kept ((μ.1 0 4).toInt + (aZ ((μ.1 1 0).toInt) w' ((μ.1 0 6).toInt))) e24) rfl ⟨Nat.le_of_ble_eq_true rfl, Nat.le_of_ble_eq_true rfl⟩ rfl (Nat.le_of_ble_eq_true rfl) (fun z25 e25 => ?_)
  refine J_goto (pc := 28) 35 dX4_hear_28 (by decide) ?_
  refine J_putIW (pc := 35) fF_X4_66 rfl rfl dX4_hear_35 (fun μ35 m35 => ?_)
  refine J_aload_n (pc := 38) dX4_hear_38 rfl ?_
  refine J_iload_n (pc := 39) dX4_hear_39 rfl ?_
  refine J_if_eq_F (pc := 40) 69 dX4_hear_40 (by decide) (by decide) ?_
  refine J_aload_n (pc := 43) dX4_hear_43 rfl ?_
  refine J_getI (pc := 44) fF_X4_70 rfl rfl dX4_hear_44 ?_
  refine J_aload_n (pc := 47) dX4_hear_47 rfl ?_
  refine J_aload_n (pc := 48) dX4_hear_48 rfl ?_
  refine J_getR (pc := 49) 1 fF_X4_7 rfl rfl dX4_hear_49 ?_
  refine J_iconst (pc := 52) (v := 0) dX4_hear_52 (by decide) ?_
  refine J_ialdW (pc := 53) 0 (rfl) rfl (by decide) dX4_hear_53 ?_
  refine J_iload_n (pc := 54) dX4_hear_54 rfl ?_
  refine J_aload_n (pc := 55) dX4_hear_55 rfl ?_
  refine J_getI (pc := 56) fF_X4_73 rfl rfl dX4_hear_56 ?_
  refine J_callVz (pc := 59) fC_X4_86 rfl dX4_hear_59 (c_X4_prideBy (cM_keep hc (fun j => by simp [m35, jI_i]) (fun j => by simp [m35, jI_i])) ((μ.1 1 0).toInt) w' ((μ.1 0 6).toInt) (show (μ35.1 1 0).toInt = (μ.1 1 0).toInt by simp [m35, jI_i]) hw (show (μ35.1 0 6).toInt = (μ.1 0 6).toInt by simp [m35, jI_i]) (by omega)) rfl ⟨Nat.le_of_ble_eq_true rfl, Nat.le_of_ble_eq_true rfl⟩ rfl (Nat.le_of_ble_eq_true rfl) (fun z59 e59 => ?_)
  refine J_iaddW (pc := 62) ((μ.1 0 5).toInt) (pZ ((μ.1 1 0).toInt) w' ((μ.1 0 6).toInt)) (show (μ35.1 0 5).toInt = (μ.1 0 5).toInt by simp [m35, jI_i]) e59 dX4_hear_62 (by omega) (fun z62 e62 => ?_)
  refine J_callSz (pc := 63) fC_X4_83 dX4_hear_63 (c_X4_kept ((μ.1 0 5).toInt + (pZ ((μ.1 1 0).toInt) w' ((μ.1 0 6).toInt))) e62) rfl ⟨Nat.le_of_ble_eq_true rfl, Nat.le_of_ble_eq_true rfl⟩ rfl (Nat.le_of_ble_eq_true rfl) (fun z63 e63 => ?_)
  refine J_goto (pc := 66) 73 dX4_hear_66 (by decide) ?_
  refine J_putIW (pc := 73) fF_X4_70 rfl rfl dX4_hear_73 (fun μ73 m73 => ?_)
  refine J_aload_n (pc := 76) dX4_hear_76 rfl ?_
  refine J_dup (pc := 77) dX4_hear_77 rfl ?_
  refine J_getI (pc := 78) fF_X4_73 rfl rfl dX4_hear_78 ?_
  refine J_iconst (pc := 81) (v := 1) dX4_hear_81 (by decide) ?_
  refine J_iaddW (pc := 82) ((μ.1 0 6).toInt) 1 (show (μ73.1 0 6).toInt = (μ.1 0 6).toInt by simp [m73, m35, jI_i]) rfl dX4_hear_82 (by omega) (fun z82 e82 => ?_)
  refine J_putIW (pc := 83) fF_X4_73 rfl rfl dX4_hear_83 (fun μ83 m83 => ?_)
  refine J_aload_n (pc := 86) dX4_hear_86 rfl ?_
  refine J_aload_n (pc := 87) dX4_hear_87 rfl ?_
  refine J_getI (pc := 88) fF_X4_66 rfl rfl dX4_hear_88 ?_
  refine J_aload_n (pc := 91) dX4_hear_91 rfl ?_
  refine J_getR (pc := 92) 1 fF_X4_7 rfl rfl dX4_hear_92 ?_
  refine J_iconst (pc := 95) (v := 3) dX4_hear_95 (by decide) ?_
  refine J_ialdW (pc := 96) 3 (rfl) rfl (by decide) dX4_hear_96 ?_
  refine J_icmp_ltW (pc := 97) (kZ ((μ.1 0 4).toInt + (aZ ((μ.1 1 0).toInt) w' ((μ.1 0 6).toInt)))) ((μ.1 1 3).toInt) (show (μ83.1 0 4).toInt = (kZ ((μ.1 0 4).toInt + (aZ ((μ.1 1 0).toInt) w' ((μ.1 0 6).toInt)))) by simp [m83, m73, m35, jI_i]; exact e25) (show (μ83.1 1 3).toInt = (μ.1 1 3).toInt by simp [m83, m73, m35, jI_i]) 104 dX4_hear_97 (by decide) (fun h97 => ?_) (fun h97 => ?_)
  · refine J_iload_n (pc := 104) dX4_hear_104 rfl ?_
    refine J_iconst (pc := 105) (v := 1) dX4_hear_105 (by decide) ?_
    refine J_icmp_neW (pc := 106) w' 1 hw rfl 126 dX4_hear_106 (by decide) (fun h106 => ?_) (fun h106 => ?_)
    · refine J_iconst (pc := 126) (v := 0) dX4_hear_126 (by decide) ?_
      refine J_putIW (pc := 127) fF_X4_76 rfl rfl dX4_hear_127 (fun μ127 m127 => ?_)
      refine J_vret (pc := 130) dX4_hear_130 rfl ?_
      rw [iZ_of e25] at m35
      rw [iZ_of e63] at m73
      rw [iZ_of e82] at m83
      refine ⟨rfl, ?_⟩
      have q : ((0) : Int32) = iZ (jZ (μ.1 1 3).toInt (μ.1 1 4).toInt (hA2 (μ.1 1 0).toInt (μ.1 0 4).toInt (μ.1 0 6).toInt w') (hP2 (μ.1 1 0).toInt (μ.1 0 5).toInt (μ.1 0 6).toInt w') w') := by
        refine iZ_of ?_
        show (0 : Int) = _
        unfold jZ hA2 hP2
        omega
      rw [m127, q, m83, m73, m35]
      rfl
    · refine J_aload_n (pc := 109) dX4_hear_109 rfl ?_
      refine J_getI (pc := 110) fF_X4_70 rfl rfl dX4_hear_110 ?_
      refine J_aload_n (pc := 113) dX4_hear_113 rfl ?_
      refine J_getR (pc := 114) 1 fF_X4_7 rfl rfl dX4_hear_114 ?_
      refine J_iconst (pc := 117) (v := 4) dX4_hear_117 (by decide) ?_
      refine J_ialdW (pc := 118) 4 (rfl) rfl (by decide) dX4_hear_118 ?_
      refine J_icmp_ltW (pc := 119) (kZ ((μ.1 0 5).toInt + (pZ ((μ.1 1 0).toInt) w' ((μ.1 0 6).toInt)))) ((μ.1 1 4).toInt) (show (μ83.1 0 5).toInt = (kZ ((μ.1 0 5).toInt + (pZ ((μ.1 1 0).toInt) w' ((μ.1 0 6).toInt)))) by simp [m83, m73, jI_i]; exact e63) (show (μ83.1 1 4).toInt = (μ.1 1 4).toInt by simp [m83, m73, m35, jI_i]) 126 dX4_hear_119 (by decide) (fun h119 => ?_) (fun h119 => ?_)
      · refine J_iconst (pc := 126) (v := 0) dX4_hear_126 (by decide) ?_
        refine J_putIW (pc := 127) fF_X4_76 rfl rfl dX4_hear_127 (fun μ127 m127 => ?_)
        refine J_vret (pc := 130) dX4_hear_130 rfl ?_
        rw [iZ_of e25] at m35
        rw [iZ_of e63] at m73
        rw [iZ_of e82] at m83
        refine ⟨rfl, ?_⟩
        have q : ((0) : Int32) = iZ (jZ (μ.1 1 3).toInt (μ.1 1 4).toInt (hA2 (μ.1 1 0).toInt (μ.1 0 4).toInt (μ.1 0 6).toInt w') (hP2 (μ.1 1 0).toInt (μ.1 0 5).toInt (μ.1 0 6).toInt w') w') := by
          refine iZ_of ?_
          show (0 : Int) = _
          unfold jZ hA2 hP2
          omega
        rw [m127, q, m83, m73, m35]
        rfl
      · refine J_iconst (pc := 122) (v := 1) dX4_hear_122 (by decide) ?_
        refine J_goto (pc := 123) 127 dX4_hear_123 (by decide) ?_
        refine J_putIW (pc := 127) fF_X4_76 rfl rfl dX4_hear_127 (fun μ127 m127 => ?_)
        refine J_vret (pc := 130) dX4_hear_130 rfl ?_
        rw [iZ_of e25] at m35
        rw [iZ_of e63] at m73
        rw [iZ_of e82] at m83
        refine ⟨rfl, ?_⟩
        have q : ((1) : Int32) = iZ (jZ (μ.1 1 3).toInt (μ.1 1 4).toInt (hA2 (μ.1 1 0).toInt (μ.1 0 4).toInt (μ.1 0 6).toInt w') (hP2 (μ.1 1 0).toInt (μ.1 0 5).toInt (μ.1 0 6).toInt w') w') := by
          refine iZ_of ?_
          show (1 : Int) = _
          unfold jZ hA2 hP2
          omega
        rw [m127, q, m83, m73, m35]
        rfl
  · refine J_iconst (pc := 100) (v := 2) dX4_hear_100 (by decide) ?_
    refine J_goto (pc := 101) 127 dX4_hear_101 (by decide) ?_
    refine J_putIW (pc := 127) fF_X4_76 rfl rfl dX4_hear_127 (fun μ127 m127 => ?_)
    refine J_vret (pc := 130) dX4_hear_130 rfl ?_
    rw [iZ_of e25] at m35
    rw [iZ_of e63] at m73
    rw [iZ_of e82] at m83
    refine ⟨rfl, ?_⟩
    have q : ((2) : Int32) = iZ (jZ (μ.1 1 3).toInt (μ.1 1 4).toInt (hA2 (μ.1 1 0).toInt (μ.1 0 4).toInt (μ.1 0 6).toInt w') (hP2 (μ.1 1 0).toInt (μ.1 0 5).toInt (μ.1 0 6).toInt w') w') := by
      refine iZ_of ?_
      show (2 : Int) = _
      unfold jZ hA2 hP2
      omega
    rw [m127, q, m83, m73, m35]
    rfl
set_option maxRecDepth 100000 in
set_option maxHeartbeats 4000000 in
theorem c_X4_hear0 {w : Int32} (w' : Int) (hw : w.toInt = w') (h : 0 ≤ w' ∧ w' ≤ 5) (h4 : 0 ≤ (μ.1 0 4).toInt ∧ (μ.1 0 4).toInt ≤ 99) (h5 : 0 ≤ (μ.1 0 5).toInt ∧ (μ.1 0 5).toInt ≤ 99) (h6 : 0 ≤ (μ.1 0 6).toInt ∧ (μ.1 0 6).toInt < 1000000) : Con G shM mX4_hear [.ref 0, .int w, .int 0] μ (j_is none (shamM μ w')) := by
  refine Con_of [some (.ref 0), some (.int w), some (.int 0)] (by decide +kernel) (Nat.le_of_ble_eq_true rfl) (fun _ h => h) ?_
  refine J_aload_n (pc := 0) dX4_hear_0 rfl ?_
  refine J_iload_n (pc := 1) dX4_hear_1 rfl ?_
  refine J_if_eq_T (pc := 2) 31 dX4_hear_2 (by decide) (by decide) ?_
  refine J_aload_n (pc := 31) dX4_hear_31 rfl ?_
  refine J_getI (pc := 32) fF_X4_66 rfl rfl dX4_hear_32 ?_
  refine J_putIW (pc := 35) fF_X4_66 rfl rfl dX4_hear_35 (fun μ35 m35 => ?_)
  refine J_aload_n (pc := 38) dX4_hear_38 rfl ?_
  refine J_iload_n (pc := 39) dX4_hear_39 rfl ?_
  refine J_if_eq_T (pc := 40) 69 dX4_hear_40 (by decide) (by decide) ?_
  refine J_aload_n (pc := 69) dX4_hear_69 rfl ?_
  refine J_getI (pc := 70) fF_X4_70 rfl rfl dX4_hear_70 ?_
  refine J_putIW (pc := 73) fF_X4_70 rfl rfl dX4_hear_73 (fun μ73 m73 => ?_)
  refine J_aload_n (pc := 76) dX4_hear_76 rfl ?_
  refine J_dup (pc := 77) dX4_hear_77 rfl ?_
  refine J_getI (pc := 78) fF_X4_73 rfl rfl dX4_hear_78 ?_
  refine J_iconst (pc := 81) (v := 1) dX4_hear_81 (by decide) ?_
  refine J_iaddW (pc := 82) ((μ.1 0 6).toInt) 1 (show (μ73.1 0 6).toInt = (μ.1 0 6).toInt by simp [m73, m35, jI_i]) rfl dX4_hear_82 (by omega) (fun z82 e82 => ?_)
  refine J_putIW (pc := 83) fF_X4_73 rfl rfl dX4_hear_83 (fun μ83 m83 => ?_)
  refine J_aload_n (pc := 86) dX4_hear_86 rfl ?_
  refine J_aload_n (pc := 87) dX4_hear_87 rfl ?_
  refine J_getI (pc := 88) fF_X4_66 rfl rfl dX4_hear_88 ?_
  refine J_aload_n (pc := 91) dX4_hear_91 rfl ?_
  refine J_getR (pc := 92) 1 fF_X4_7 rfl rfl dX4_hear_92 ?_
  refine J_iconst (pc := 95) (v := 3) dX4_hear_95 (by decide) ?_
  refine J_ialdW (pc := 96) 3 (rfl) rfl (by decide) dX4_hear_96 ?_
  refine J_icmp_ltW (pc := 97) ((μ.1 0 4).toInt) ((μ.1 1 3).toInt) (show (μ83.1 0 4).toInt = (μ.1 0 4).toInt by simp [m83, m73, m35, jI_i]) (show (μ83.1 1 3).toInt = (μ.1 1 3).toInt by simp [m83, m73, m35, jI_i]) 104 dX4_hear_97 (by decide) (fun h97 => ?_) (fun h97 => ?_)
  · refine J_iload_n (pc := 104) dX4_hear_104 rfl ?_
    refine J_iconst (pc := 105) (v := 1) dX4_hear_105 (by decide) ?_
    refine J_icmp_neW (pc := 106) w' 1 hw rfl 126 dX4_hear_106 (by decide) (fun h106 => ?_) (fun h106 => ?_)
    · refine J_iconst (pc := 126) (v := 0) dX4_hear_126 (by decide) ?_
      refine J_putIW (pc := 127) fF_X4_76 rfl rfl dX4_hear_127 (fun μ127 m127 => ?_)
      refine J_vret (pc := 130) dX4_hear_130 rfl ?_
      rw [iZ_of e82] at m83
      refine ⟨rfl, ?_⟩
      have q : ((0) : Int32) = iZ (jZ (μ.1 1 3).toInt (μ.1 1 4).toInt (μ.1 0 4).toInt (μ.1 0 5).toInt w') := by
        refine iZ_of ?_
        show (0 : Int) = _
        unfold jZ
        omega
      rw [m127, q, m83, m73, m35]
      unfold shamM setS
      rw [iZ_t, iZ_t]
      simp [jI_i]
    · refine J_aload_n (pc := 109) dX4_hear_109 rfl ?_
      refine J_getI (pc := 110) fF_X4_70 rfl rfl dX4_hear_110 ?_
      refine J_aload_n (pc := 113) dX4_hear_113 rfl ?_
      refine J_getR (pc := 114) 1 fF_X4_7 rfl rfl dX4_hear_114 ?_
      refine J_iconst (pc := 117) (v := 4) dX4_hear_117 (by decide) ?_
      refine J_ialdW (pc := 118) 4 (rfl) rfl (by decide) dX4_hear_118 ?_
      refine J_icmp_ltW (pc := 119) ((μ.1 0 5).toInt) ((μ.1 1 4).toInt) (show (μ83.1 0 5).toInt = (μ.1 0 5).toInt by simp [m83, m73, jI_i]; exact (show (μ35.1 0 5).toInt = (μ.1 0 5).toInt by simp [m35, jI_i])) (show (μ83.1 1 4).toInt = (μ.1 1 4).toInt by simp [m83, m73, m35, jI_i]) 126 dX4_hear_119 (by decide) (fun h119 => ?_) (fun h119 => ?_)
      · refine J_iconst (pc := 126) (v := 0) dX4_hear_126 (by decide) ?_
        refine J_putIW (pc := 127) fF_X4_76 rfl rfl dX4_hear_127 (fun μ127 m127 => ?_)
        refine J_vret (pc := 130) dX4_hear_130 rfl ?_
        rw [iZ_of e82] at m83
        refine ⟨rfl, ?_⟩
        have q : ((0) : Int32) = iZ (jZ (μ.1 1 3).toInt (μ.1 1 4).toInt (μ.1 0 4).toInt (μ.1 0 5).toInt w') := by
          refine iZ_of ?_
          show (0 : Int) = _
          unfold jZ
          omega
        rw [m127, q, m83, m73, m35]
        unfold shamM setS
        rw [iZ_t, iZ_t]
        simp [jI_i]
      · refine J_iconst (pc := 122) (v := 1) dX4_hear_122 (by decide) ?_
        refine J_goto (pc := 123) 127 dX4_hear_123 (by decide) ?_
        refine J_putIW (pc := 127) fF_X4_76 rfl rfl dX4_hear_127 (fun μ127 m127 => ?_)
        refine J_vret (pc := 130) dX4_hear_130 rfl ?_
        rw [iZ_of e82] at m83
        refine ⟨rfl, ?_⟩
        have q : ((1) : Int32) = iZ (jZ (μ.1 1 3).toInt (μ.1 1 4).toInt (μ.1 0 4).toInt (μ.1 0 5).toInt w') := by
          refine iZ_of ?_
          show (1 : Int) = _
          unfold jZ
          omega
        rw [m127, q, m83, m73, m35]
        unfold shamM setS
        rw [iZ_t, iZ_t]
        simp [jI_i]
  · refine J_iconst (pc := 100) (v := 2) dX4_hear_100 (by decide) ?_
    refine J_goto (pc := 101) 127 dX4_hear_101 (by decide) ?_
    refine J_putIW (pc := 127) fF_X4_76 rfl rfl dX4_hear_127 (fun μ127 m127 => ?_)
    refine J_vret (pc := 130) dX4_hear_130 rfl ?_
    rw [iZ_of e82] at m83
    refine ⟨rfl, ?_⟩
    have q : ((2) : Int32) = iZ (jZ (μ.1 1 3).toInt (μ.1 1 4).toInt (μ.1 0 4).toInt (μ.1 0 5).toInt w') := by
      refine iZ_of ?_
      show (2 : Int) = _
      unfold jZ
      omega
    rw [m127, q, m83, m73, m35]
    unfold shamM setS
    rw [iZ_t, iZ_t]
    simp [jI_i]
def freF (k : Int32) (j : Nat) : Int32 := if j = 0 then k else if j = 1 then 20 else if j = 3 then 40 else if j = 4 then 9 else if 7 ≤ j ∧ j < 15 then j_tV (j - 7) else 0
def freshM (μ : JM) (k : Int32) : JM := jC μ 1 (fun j => if j < 73 then freF k j else μ.1 1 j)
theorem row_l {μ ν : JM} {o i lo : Nat} {g : Nat → Int32} {x : Int32} (h : ν = jC μ o (fun j => if lo ≤ j ∧ j < lo + i then g j else μ.1 o j)) (hx : x = g (lo + i)) : jI ν o (lo + i) x = jC μ o (fun j => if lo ≤ j ∧ j < lo + (i + 1) then g j else μ.1 o j) := by
  rw [jI_row, h, jC_jC, jC_at]
  congr 1
  funext j
  by_cases hj : j = lo + i
  · subst hj; simp [upd, hx]
  · by_cases hl : lo ≤ j ∧ j < lo + i
    · simp [upd, hj, hl]; omega
    · simp only [upd, hj, if_false, hl]; rw [if_neg (by omega)]
theorem row_l0 (μ : JM) (o lo : Nat) (g : Nat → Int32) : jC μ o (fun j => if lo ≤ j ∧ j < lo + 0 then g j else μ.1 o j) = μ := by
  have e : (fun j => if lo ≤ j ∧ j < lo + 0 then g j else μ.1 o j) = μ.1 o := by
    funext j
    rw [if_neg (by omega)]
  rw [e, jC_self]
set_option maxRecDepth 100000 in
set_option maxHeartbeats 4000000 in
theorem l_X4_fresh1 {k : Int32} {Q : Option Value → JM → Prop} (hk : J G shM mX4_fresh 21 [some (.ref 0), some (.int k), none] [] (jC μ 1 (fun j => if j < 73 then 0 else μ.1 1 j)) Q) : ∀ i : Nat, i ≤ 73 → ∀ iv : Int32, iv.toInt = (i : Int) → ∀ ν : JM, ν = jC μ 1 (fun j => if j < i then 0 else μ.1 1 j) → J G shM mX4_fresh 2 [some (.ref 0), some (.int k), some (.int iv)] [] ν Q := by
  refine loop_up 73 (fun i hN ih iv hi ν hν => ?_)
  refine J_iload_n (pc := 2) dX4_fresh_2 rfl ?_
  refine J_bipush (pc := 3) (v := 73) dX4_fresh_3 (by decide) ?_
  refine J_icmp_geW (pc := 5) (i : Int) 73 hi rfl 21 dX4_fresh_5 (by decide) (fun h5 => ?_) (fun h5 => ?_)
  · exact J_lv' (lv' := [some (.ref 0), some (.int k), none]) (by repeat' constructor) (by rw [hν, show i = 73 by omega]; exact hk)
  · refine J_aload_n (pc := 8) dX4_fresh_8 rfl ?_
    refine J_getR (pc := 9) 1 fF_X4_7 rfl rfl dX4_fresh_9 ?_
    refine J_iload_n (pc := 12) dX4_fresh_12 rfl ?_
    refine J_iconst (pc := 13) (v := 0) dX4_fresh_13 (by decide) ?_
    refine J_iastW (pc := 14) i (by have q := hi; omega) rfl (by omega) dX4_fresh_14 (fun μ14 m14 => ?_)
    refine J_iincW' (pc := 15) (i : Int) hi (lv' := fun v => [some (.ref 0), some (.int k), some (.int v)]) dX4_fresh_15 rfl (by omega) (by decide) (Nat.le_of_ble_eq_true rfl) rfl (fun _ => rfl) (fun z15 e15 => ?_)
    refine J_goto (pc := 18) 2 dX4_fresh_18 (by decide) ?_
    exact ih (i + 1) (by omega) (by omega) z15 (by omega) _ (by rw [m14]; exact row_s hν rfl)
set_option maxRecDepth 100000 in
set_option maxHeartbeats 4000000 in
theorem l_X4_fresh2 {k : Int32} : ∀ i : Nat, i ≤ 8 → ∀ iv : Int32, iv.toInt = (i : Int) → ∀ ν : JM, ν = (jC μ 1 (fun j => if 7 ≤ j ∧ j < 7 + i then j_tV (j - 7) else μ.1 1 j)) → J G shM mX4_fresh 54 [some (.ref 0), some (.int k), some (.int iv)] [] ν (j_is none (jC μ 1 (fun j => if 7 ≤ j ∧ j < 7 + 8 then j_tV (j - 7) else μ.1 1 j))) := by
  refine loop_up 8 (fun i hN ih iv hi ν hν => ?_)
  refine J_iload_n (pc := 54) dX4_fresh_54 rfl ?_
  refine J_bipush (pc := 55) (v := 8) dX4_fresh_55 (by decide) ?_
  refine J_icmp_geW (pc := 57) (i : Int) 8 hi rfl 85 dX4_fresh_57 (by decide) (fun h57 => ?_) (fun h57 => ?_)
  · refine J_vret (pc := 85) dX4_fresh_85 rfl ?_
    exact ⟨rfl, by rw [hν, show i = 8 by omega]⟩
  · refine J_aload_n (pc := 60) dX4_fresh_60 rfl ?_
    refine J_getR (pc := 61) 1 fF_X4_7 rfl rfl dX4_fresh_61 ?_
    refine J_bipush (pc := 64) (v := 7) dX4_fresh_64 (by decide) ?_
    refine J_iload_n (pc := 66) dX4_fresh_66 rfl ?_
    refine J_iaddW (pc := 67) 7 (i : Int) rfl hi dX4_fresh_67 (by omega) (fun z67 e67 => ?_)
    refine J_iload_n (pc := 68) dX4_fresh_68 rfl ?_
    refine J_iconst (pc := 69) (v := 4) dX4_fresh_69 (by decide) ?_
    refine J_icmp_geW (pc := 70) (i : Int) 4 hi rfl 77 dX4_fresh_70 (by decide) (fun h70 => ?_) (fun h70 => ?_)
    · refine J_iconst (pc := 77) (v := 4) dX4_fresh_77 (by decide) ?_
      refine J_iastW (pc := 78) (7 + i) (by have q := e67; omega) rfl (by omega) dX4_fresh_78 (fun μ78 m78 => ?_)
      refine J_iincW' (pc := 79) (i : Int) hi (lv' := fun v => [some (.ref 0), some (.int k), some (.int v)]) dX4_fresh_79 rfl (by omega) (by decide) (Nat.le_of_ble_eq_true rfl) rfl (fun _ => rfl) (fun z79 e79 => ?_)
      refine J_goto (pc := 82) 54 dX4_fresh_82 (by decide) ?_
      exact ih (i + 1) (by omega) (by omega) z79 (by omega) _ (by rw [m78]; exact row_l hν (by
        refine z_eq ?_
        first
          | (rw [hi, show 7 + i - 7 = i by omega]; rcases (show i = 0 ∨ i = 1 ∨ i = 2 ∨ i = 3 by omega) with rfl | rfl | rfl | rfl <;> rfl)
          | (rw [show 7 + i - 7 = i by omega]; rcases (show i = 4 ∨ i = 5 ∨ i = 6 ∨ i = 7 by omega) with rfl | rfl | rfl | rfl <;> rfl)))
    · refine J_iload_n (pc := 73) dX4_fresh_73 rfl ?_
      refine J_goto (pc := 74) 78 dX4_fresh_74 (by decide) ?_
      refine J_iastW (pc := 78) (7 + i) (by have q := e67; omega) rfl (by omega) dX4_fresh_78 (fun μ78 m78 => ?_)
      refine J_iincW' (pc := 79) (i : Int) hi (lv' := fun v => [some (.ref 0), some (.int k), some (.int v)]) dX4_fresh_79 rfl (by omega) (by decide) (Nat.le_of_ble_eq_true rfl) rfl (fun _ => rfl) (fun z79 e79 => ?_)
      refine J_goto (pc := 82) 54 dX4_fresh_82 (by decide) ?_
      exact ih (i + 1) (by omega) (by omega) z79 (by omega) _ (by rw [m78]; exact row_l hν (by
        refine z_eq ?_
        first
          | (rw [hi, show 7 + i - 7 = i by omega]; rcases (show i = 0 ∨ i = 1 ∨ i = 2 ∨ i = 3 by omega) with rfl | rfl | rfl | rfl <;> rfl)
          | (rw [show 7 + i - 7 = i by omega]; rcases (show i = 4 ∨ i = 5 ∨ i = 6 ∨ i = 7 by omega) with rfl | rfl | rfl | rfl <;> rfl)))
set_option maxRecDepth 100000 in
set_option maxHeartbeats 4000000 in
theorem c_X4_fresh {k : Int32} : Con G shM mX4_fresh [.ref 0, .int k] μ (j_is none (freshM μ k)) := by
  refine Con_of [some (.ref 0), some (.int k), none] (by decide +kernel) (Nat.le_of_ble_eq_true rfl) (fun _ h => h) ?_
  refine J_iconst (pc := 0) (v := 0) dX4_fresh_0 (by decide) ?_
  refine J_istore_n (pc := 1) (lv' := [some (.ref 0), some (.int k), some (.int 0)]) dX4_fresh_1 (Nat.le_of_ble_eq_true rfl) rfl rfl ?_
  refine l_X4_fresh1 ?_ 0 (by decide) 0 rfl _ (row_0 _ _ _).symm
  obtain ⟨μ0, m0⟩ : ∃ m : JM, m = jC μ 1 (fun j => if j < 73 then 0 else μ.1 1 j) := ⟨_, rfl⟩
  rw [← m0]
  refine J_aload_n (pc := 21) dX4_fresh_21 rfl ?_
  refine J_getR (pc := 22) 1 fF_X4_7 rfl rfl dX4_fresh_22 ?_
  refine J_iconst (pc := 25) (v := 0) dX4_fresh_25 (by decide) ?_
  refine J_iload_n (pc := 26) dX4_fresh_26 rfl ?_
  refine J_iastW (pc := 27) 0 (rfl) rfl (by decide) dX4_fresh_27 (fun μ27 m27 => ?_)
  refine J_aload_n (pc := 28) dX4_fresh_28 rfl ?_
  refine J_getR (pc := 29) 1 fF_X4_7 rfl rfl dX4_fresh_29 ?_
  refine J_iconst (pc := 32) (v := 1) dX4_fresh_32 (by decide) ?_
  refine J_bipush (pc := 33) (v := 20) dX4_fresh_33 (by decide) ?_
  refine J_iastW (pc := 35) 1 (rfl) rfl (by decide) dX4_fresh_35 (fun μ35 m35 => ?_)
  refine J_aload_n (pc := 36) dX4_fresh_36 rfl ?_
  refine J_getR (pc := 37) 1 fF_X4_7 rfl rfl dX4_fresh_37 ?_
  refine J_iconst (pc := 40) (v := 3) dX4_fresh_40 (by decide) ?_
  refine J_bipush (pc := 41) (v := 40) dX4_fresh_41 (by decide) ?_
  refine J_iastW (pc := 43) 3 (rfl) rfl (by decide) dX4_fresh_43 (fun μ43 m43 => ?_)
  refine J_aload_n (pc := 44) dX4_fresh_44 rfl ?_
  refine J_getR (pc := 45) 1 fF_X4_7 rfl rfl dX4_fresh_45 ?_
  refine J_iconst (pc := 48) (v := 4) dX4_fresh_48 (by decide) ?_
  refine J_bipush (pc := 49) (v := 9) dX4_fresh_49 (by decide) ?_
  refine J_iastW (pc := 51) 4 (rfl) rfl (by decide) dX4_fresh_51 (fun μ51 m51 => ?_)
  refine J_iconst (pc := 52) (v := 0) dX4_fresh_52 (by decide) ?_
  refine J_istore_n (pc := 53) (lv' := [some (.ref 0), some (.int k), some (.int 0)]) dX4_fresh_53 (Nat.le_of_ble_eq_true rfl) rfl rfl ?_
  refine J_mono (l_X4_fresh2 (μ := μ51) 0 (by decide) 0 rfl _ (row_l0 _ _ _ _).symm) (fun v μ' h => ⟨h.1, ?_⟩)
  rw [h.2, m51, m43, m35, m27, m0]
  simp only [jI_row, jC_jC, jC_at, freshM]
  congr 1
  funext j
  simp only [upd, freF]
  repeat' split
  all_goals first | rfl | (exfalso; omega)
end
section
/-! ===== the model's remember; the class's notesFit, refuse ===== -/
def shF (f : Nat → Int32) (j : Nat) : Int32 := if 41 ≤ j ∧ j < 69 then f (j + 4) else if j = 40 then 7 else f j
def pushF (f : Nat → Int32) (n : Nat) : Nat → Int32 := upd (upd (upd (upd (upd f (41 + 4 * n) (f 1)) (41 + 4 * n + 1) (f 2)) (41 + 4 * n + 2) (f 5)) (41 + 4 * n + 3) (f 6)) 40 (iZ ((n : Int) + 1))
def remF (f : Nat → Int32) : Nat → Int32 := if (f 40).toInt = 8 then pushF (shF f) 7 else pushF f (f 40).toInt.toNat
variable {G : JG} {μ : JM}
set_option maxRecDepth 100000 in
set_option maxHeartbeats 4000000 in
theorem l_X4_rem {Q : Option Value → JM → Prop} (hk : J G shM mX4_remember 41 [some (.ref 0), none] [] (jC μ 1 (fun j => if 41 ≤ j ∧ j < 41 + 28 then μ.1 1 (j + 4) else μ.1 1 j)) Q) : ∀ i : Nat, i ≤ 28 → ∀ iv : Int32, iv.toInt = 45 + (i : Int) → ∀ ν : JM, ν = (jC μ 1 (fun j => if 41 ≤ j ∧ j < 41 + i then μ.1 1 (j + 4) else μ.1 1 j)) → J G shM mX4_remember 15 [some (.ref 0), some (.int iv)] [] ν Q := by
  refine loop_up 28 (fun i hN ih iv hi ν hν => ?_)
  refine J_iload_n (pc := 15) dX4_remember_15 rfl ?_
  refine J_bipush (pc := 16) (v := 73) dX4_remember_16 (by decide) ?_
  refine J_icmp_geW (pc := 18) (45 + (i : Int)) 73 hi rfl 41 dX4_remember_18 (by decide) (fun h18 => ?_) (fun h18 => ?_)
  · obtain rfl : i = 28 := by omega
    exact J_lv' (lv' := [some (.ref 0), none]) (by repeat' constructor) (by rw [hν]; exact hk)
  · refine J_aload_n (pc := 21) dX4_remember_21 rfl ?_
    refine J_getR (pc := 22) 1 fF_X4_7 rfl rfl dX4_remember_22 ?_
    refine J_iload_n (pc := 25) dX4_remember_25 rfl ?_
    refine J_iconst (pc := 26) (v := 4) dX4_remember_26 (by decide) ?_
    refine J_isubW (pc := 27) (45 + (i : Int)) 4 hi rfl dX4_remember_27 (by omega) (fun z27 e27 => ?_)
    refine J_aload_n (pc := 28) dX4_remember_28 rfl ?_
    refine J_getR (pc := 29) 1 fF_X4_7 rfl rfl dX4_remember_29 ?_
    refine J_iload_n (pc := 32) dX4_remember_32 rfl ?_
    refine J_ialdW (pc := 33) (45 + i) (by omega) rfl (by omega) dX4_remember_33 ?_
    refine J_iastW (pc := 34) (41 + i) (by omega) rfl (by omega) dX4_remember_34 (fun μ34 m34 => ?_)
    refine J_iincW' (pc := 35) (45 + (i : Int)) hi (lv' := fun v => [some (.ref 0), some (.int v)]) dX4_remember_35 rfl (by omega) (by decide) (Nat.le_of_ble_eq_true rfl) rfl (fun _ => rfl) (fun z35 e35 => ?_)
    refine J_goto (pc := 38) 15 dX4_remember_38 (by decide) ?_
    refine ih (i + 1) (by omega) (by omega) z35 (by omega) _ ?_
    rw [m34]
    exact row_l hν (by rw [hν, jC_at]; rw [if_neg (by omega)]; exact congrArg (μ.1 1) (show 45 + i = 41 + i + 4 by omega))
set_option maxRecDepth 100000 in
set_option maxHeartbeats 4000000 in
theorem l_X4_push (n : Nat) (hn : (μ.1 1 40).toInt = (n : Int)) (h8 : n < 8) : J G shM mX4_remember 52 [some (.ref 0), none] [] μ (j_is none (jC μ 1 (pushF (μ.1 1) n))) := by
  refine J_bipush (pc := 52) (v := 41) dX4_remember_52 (by decide) ?_
  refine J_iconst (pc := 54) (v := 4) dX4_remember_54 (by decide) ?_
  refine J_aload_n (pc := 55) dX4_remember_55 rfl ?_
  refine J_getR (pc := 56) 1 fF_X4_7 rfl rfl dX4_remember_56 ?_
  refine J_bipush (pc := 59) (v := 40) dX4_remember_59 (by decide) ?_
  refine J_ialdW (pc := 61) 40 (rfl) rfl (by decide) dX4_remember_61 ?_
  refine J_imulW (pc := 62) 4 (n : Int) rfl hn dX4_remember_62 (by omega) (fun z62 e62 => ?_)
  refine J_iaddW (pc := 63) 41 (4 * (n : Int)) rfl e62 dX4_remember_63 (by omega) (fun z63 e63 => ?_)
  refine J_istore_n (pc := 64) (lv' := [some (.ref 0), some (.int z63)]) dX4_remember_64 (Nat.le_of_ble_eq_true rfl) rfl rfl ?_
  refine J_aload_n (pc := 65) dX4_remember_65 rfl ?_
  refine J_getR (pc := 66) 1 fF_X4_7 rfl rfl dX4_remember_66 ?_
  refine J_iload_n (pc := 69) dX4_remember_69 rfl ?_
  refine J_aload_n (pc := 70) dX4_remember_70 rfl ?_
  refine J_getR (pc := 71) 1 fF_X4_7 rfl rfl dX4_remember_71 ?_
  refine J_iconst (pc := 74) (v := 1) dX4_remember_74 (by decide) ?_
  refine J_ialdW (pc := 75) 1 (rfl) rfl (by decide) dX4_remember_75 ?_
  refine J_iastW (pc := 76) (41 + 4 * n) (by omega) rfl (by omega) dX4_remember_76 (fun μ76 m76 => ?_)
  refine J_aload_n (pc := 77) dX4_remember_77 rfl ?_
  refine J_getR (pc := 78) 1 fF_X4_7 rfl rfl dX4_remember_78 ?_
  refine J_iload_n (pc := 81) dX4_remember_81 rfl ?_
  refine J_iconst (pc := 82) (v := 1) dX4_remember_82 (by decide) ?_
  refine J_iaddW (pc := 83) (41 + (4 * (n : Int))) 1 e63 rfl dX4_remember_83 (by omega) (fun z83 e83 => ?_)
  refine J_aload_n (pc := 84) dX4_remember_84 rfl ?_
  refine J_getR (pc := 85) 1 fF_X4_7 rfl rfl dX4_remember_85 ?_
  refine J_iconst (pc := 88) (v := 2) dX4_remember_88 (by decide) ?_
  refine J_ialdW (pc := 89) 2 (rfl) rfl (by decide) dX4_remember_89 ?_
  refine J_iastW (pc := 90) (41 + 4 * n + 1) (by omega) rfl (by omega) dX4_remember_90 (fun μ90 m90 => ?_)
  refine J_aload_n (pc := 91) dX4_remember_91 rfl ?_
  refine J_getR (pc := 92) 1 fF_X4_7 rfl rfl dX4_remember_92 ?_
  refine J_iload_n (pc := 95) dX4_remember_95 rfl ?_
  refine J_iconst (pc := 96) (v := 2) dX4_remember_96 (by decide) ?_
  refine J_iaddW (pc := 97) (41 + (4 * (n : Int))) 2 e63 rfl dX4_remember_97 (by omega) (fun z97 e97 => ?_)
  refine J_aload_n (pc := 98) dX4_remember_98 rfl ?_
  refine J_getR (pc := 99) 1 fF_X4_7 rfl rfl dX4_remember_99 ?_
  refine J_iconst (pc := 102) (v := 5) dX4_remember_102 (by decide) ?_
  refine J_ialdW (pc := 103) 5 (rfl) rfl (by decide) dX4_remember_103 ?_
  refine J_iastW (pc := 104) (41 + 4 * n + 2) (by omega) rfl (by omega) dX4_remember_104 (fun μ104 m104 => ?_)
  refine J_aload_n (pc := 105) dX4_remember_105 rfl ?_
  refine J_getR (pc := 106) 1 fF_X4_7 rfl rfl dX4_remember_106 ?_
  refine J_iload_n (pc := 109) dX4_remember_109 rfl ?_
  refine J_iconst (pc := 110) (v := 3) dX4_remember_110 (by decide) ?_
  refine J_iaddW (pc := 111) (41 + (4 * (n : Int))) 3 e63 rfl dX4_remember_111 (by omega) (fun z111 e111 => ?_)
  refine J_aload_n (pc := 112) dX4_remember_112 rfl ?_
  refine J_getR (pc := 113) 1 fF_X4_7 rfl rfl dX4_remember_113 ?_
  refine J_bipush (pc := 116) (v := 6) dX4_remember_116 (by decide) ?_
  refine J_ialdW (pc := 118) 6 (rfl) rfl (by decide) dX4_remember_118 ?_
  refine J_iastW (pc := 119) (41 + 4 * n + 3) (by omega) rfl (by omega) dX4_remember_119 (fun μ119 m119 => ?_)
  refine J_aload_n (pc := 120) dX4_remember_120 rfl ?_
  refine J_getR (pc := 121) 1 fF_X4_7 rfl rfl dX4_remember_121 ?_
  refine J_bipush (pc := 124) (v := 40) dX4_remember_124 (by decide) ?_
  refine J_dup2 (pc := 126) dX4_remember_126 rfl rfl ?_
  refine J_ialdW (pc := 127) 40 (rfl) rfl (by decide) dX4_remember_127 ?_
  refine J_iconst (pc := 128) (v := 1) dX4_remember_128 (by decide) ?_
  refine J_iaddW (pc := 129) (n : Int) 1 (show (μ119.1 1 40).toInt = (n : Int) by simp only [m119, m104, m90, m76, jI_i]; rw [if_neg (by omega), if_neg (by omega), if_neg (by omega), if_neg (by omega)]; exact hn) rfl dX4_remember_129 (by omega) (fun z129 e129 => ?_)
  refine J_iastW (pc := 130) 40 (rfl) rfl (by decide) dX4_remember_130 (fun μ130 m130 => ?_)
  refine J_vret (pc := 131) dX4_remember_131 rfl ?_
  rw [iZ_of e129] at m130
  refine ⟨rfl, ?_⟩
  have r2 : μ76.1 1 2 = μ.1 1 2 := by rw [m76, jI_i, if_neg (by omega)]
  have r5 : μ90.1 1 5 = μ.1 1 5 := by rw [m90, jI_i, if_neg (by omega), m76, jI_i, if_neg (by omega)]
  have r6 : μ104.1 1 6 = μ.1 1 6 := by rw [m104, jI_i, if_neg (by omega), m90, jI_i, if_neg (by omega), m76, jI_i, if_neg (by omega)]
  rw [m130, m119, r6, m104, r5, m90, r2, m76]
  simp only [jI_row, jC_jC, jC_at]
  rfl
set_option maxRecDepth 100000 in
set_option maxHeartbeats 4000000 in
theorem c_X4_remember (h40 : 0 ≤ (μ.1 1 40).toInt ∧ (μ.1 1 40).toInt ≤ 8) : Con G shM mX4_remember [.ref 0] μ (j_is none (jC μ 1 (remF (μ.1 1)))) := by
  refine Con_of [some (.ref 0), none] (by decide +kernel) (Nat.le_of_ble_eq_true rfl) (fun _ h => h) ?_
  refine J_aload_n (pc := 0) dX4_remember_0 rfl ?_
  refine J_getR (pc := 1) 1 fF_X4_7 rfl rfl dX4_remember_1 ?_
  refine J_bipush (pc := 4) (v := 40) dX4_remember_4 (by decide) ?_
  refine J_ialdW (pc := 6) 40 (rfl) rfl (by decide) dX4_remember_6 ?_
  refine J_bipush (pc := 7) (v := 8) dX4_remember_7 (by decide) ?_
  refine J_icmp_neW (pc := 9) ((μ.1 1 40).toInt) 8 rfl rfl 52 dX4_remember_9 (by decide) (fun h9 => ?_) (fun h9 => ?_)
  · unfold remF
    rw [if_neg (by omega)]
    exact l_X4_push _ (by omega) (by omega)
  · refine J_bipush (pc := 12) (v := 45) dX4_remember_12 (by decide) ?_
    refine J_istore_n (pc := 14) (lv' := [some (.ref 0), some (.int 45)]) dX4_remember_14 (Nat.le_of_ble_eq_true rfl) rfl rfl ?_
    refine l_X4_rem ?_ 0 (by decide) 45 rfl _ (row_l0 μ 1 41 (fun j => μ.1 1 (j + 4))).symm
    obtain ⟨μ0, m0⟩ : ∃ m : JM, m = (jC μ 1 (fun j => if 41 ≤ j ∧ j < 41 + 28 then μ.1 1 (j + 4) else μ.1 1 j)) := ⟨_, rfl⟩
    rw [← m0]
    have q40 : (μ0.1 1 40).toInt = 8 := by rw [m0, jC_at, if_neg (by omega)]; omega
    refine J_aload_n (pc := 41) dX4_remember_41 rfl ?_
    refine J_getR (pc := 42) 1 fF_X4_7 rfl rfl dX4_remember_42 ?_
    refine J_bipush (pc := 45) (v := 40) dX4_remember_45 (by decide) ?_
    refine J_dup2 (pc := 47) dX4_remember_47 rfl rfl ?_
    refine J_ialdW (pc := 48) 40 (rfl) rfl (by decide) dX4_remember_48 ?_
    refine J_iconst (pc := 49) (v := 1) dX4_remember_49 (by decide) ?_
    refine J_isubW (pc := 50) 8 1 q40 rfl dX4_remember_50 (by omega) (fun z50 e50 => ?_)
    refine J_iastW (pc := 51) 40 (rfl) rfl (by decide) dX4_remember_51 (fun μ51 m51 => ?_)
    rw [iZ_of e50] at m51
    refine J_mono (l_X4_push (μ := μ51) 7 (by rw [m51]; rfl) (by decide)) (fun v μ' hh => ⟨hh.1, ?_⟩)
    rw [hh.2, m51, m0]
    simp only [jI_row, jC_jC, jC_at]
    unfold remF
    rw [if_pos (by omega)]
    congr 1
    funext j
    unfold pushF
    congr 6 <;> try rfl
    funext i
    simp only [upd, shF]
    repeat' split
    all_goals first | rfl | (exfalso; omega)
end
section
/-! ===== what ties the class's memory to the model's ===== -/
def IsZ (v : Option Value) (e : Int) : Prop := ∃ z : Int32, v = some (.int z) ∧ z.toInt = e
theorem IsZ_eq {v w : Option Value} {e : Int} (h : IsZ v e) (h' : IsZ w e) : v = w ∧ ∃ z : Int32, v = some (.int z) := by
  obtain ⟨z, rfl, hz⟩ := h
  obtain ⟨y, rfl, hy⟩ := h'
  rw [z_eq (hz.trans hy.symm)]
  exact ⟨rfl, _, rfl⟩
/-- a jar told by one row of numbers, as the model keeps it: ranges -/
def wfF (N : Int) (f : Nat → Int32) : Prop :=
  (0 ≤ (f 0).toInt ∧ (f 0).toInt ≤ 5) ∧ (0 ≤ (f 1).toInt ∧ (f 1).toInt ≤ 99) ∧ (0 ≤ (f 2).toInt ∧ (f 2).toInt ≤ 99) ∧ (1 ≤ (f 3).toInt ∧ (f 3).toInt ≤ 99) ∧ (1 ≤ (f 4).toInt ∧ (f 4).toInt ≤ 99) ∧
  (0 ≤ (f 5).toInt ∧ (f 5).toInt ≤ N) ∧ (0 ≤ (f 6).toInt ∧ (f 6).toInt ≤ 2) ∧ (∀ j : Nat, j < 8 → 0 ≤ (f (7 + j)).toInt ∧ (f (7 + j)).toInt ≤ 4) ∧ (0 ≤ (f 15).toInt ∧ (f 15).toInt ≤ 6) ∧ (0 ≤ (f 40).toInt ∧ (f 40).toInt ≤ 8) ∧
  (∀ j : Nat, (j : Int) < (f 15).toInt → (0 ≤ (f (16 + 4 * j)).toInt ∧ (f (16 + 4 * j)).toInt ≤ 5) ∧ (0 ≤ (f (16 + 4 * j + 1)).toInt ∧ (f (16 + 4 * j + 1)).toInt ≤ 99)) ∧
  (∀ j : Nat, (j : Int) < (f 40).toInt → (0 ≤ (f (41 + 4 * j)).toInt ∧ (f (41 + 4 * j)).toInt ≤ 99) ∧ (0 ≤ (f (41 + 4 * j + 1)).toInt ∧ (f (41 + 4 * j + 1)).toInt ≤ 99) ∧ (0 ≤ (f (41 + 4 * j + 2)).toInt ∧ (f (41 + 4 * j + 2)).toInt ≤ N) ∧ (0 ≤ (f (41 + 4 * j + 3)).toInt ∧ (f (41 + 4 * j + 3)).toInt ≤ 2))
/-- the class's jar b holds what that row tells -/
def jrep (c : JM) (b : Nat) (f : Nat → Int32) : Prop :=
  c.1 b 0 = f 0 ∧ c.1 b 1 = f 3 ∧ c.1 b 2 = f 4 ∧ (c.1 b 3).toInt = mZ (f 1).toInt (f 2).toInt (f 6).toInt ∧ c.1 b 4 = f 5 ∧ c.1 b 5 = f 15 ∧ c.1 b 6 = f 40 ∧ (∀ j : Nat, j < 8 → c.1 (b + 1) j = f (7 + j)) ∧
  (∀ j : Nat, (j : Int) < 4 * (f 15).toInt → c.1 (b + 2) j = f (16 + j)) ∧ (∀ j : Nat, (j : Int) < (f 40).toInt → (c.1 (b + 3) j).toInt = mZ (f (41 + 4 * j)).toInt (f (41 + 4 * j + 1)).toInt (f (41 + 4 * j + 3)).toInt ∧ c.1 (b + 4) j = f (41 + 4 * j + 2))
def imgF (m : JM) (i : Nat) : Nat → Int32 := fun k => m.1 11 (73 * i + k)
def Inv (N : Int) (c m : JM) : Prop :=
  constM m ∧ wfF N (m.1 1) ∧ jrep c 1 (m.1 1) ∧ (∀ i : Nat, i < 2 → (m.1 12 i = 0 ∨ m.1 12 i = 1) ∧ c.1 (11 + 5 * i) 7 = m.1 12 i ∧ (m.1 12 i = 1 → wfF N (imgF m i) ∧ jrep c (11 + 5 * i) (imgF m i))) ∧
  (c.1 21 1 = m.1 0 9 ∧ (0 ≤ (m.1 0 9).toInt ∧ (m.1 0 9).toInt ≤ 150) ∧ ∀ j : Nat, (j : Int) < (m.1 0 9).toInt → c.1 22 j = m.1 5 j ∧ 0 ≤ (m.1 5 j).toInt ∧ (m.1 5 j).toInt ≤ 127) ∧
  (c.2 0 6 = m.2 0 20 ∧ c.2 0 7 = m.2 0 21) ∧ (c.1 0 8 = m.1 4 0 ∧ c.1 0 9 = m.1 4 1 ∧ c.1 0 10 = m.1 4 2)
theorem wfF_mono {N M : Int} (h : N ≤ M) {f : Nat → Int32} (hw : wfF N f) : wfF M f := by
  obtain ⟨h0, h1, h2, h3, h4, h5, h6, h7, h8, h9, ha, hb⟩ := hw
  exact ⟨h0, h1, h2, h3, h4, ⟨h5.1, by omega⟩, h6, h7, h8, h9, ha, fun j hj => ⟨(hb j hj).1, (hb j hj).2.1, ⟨(hb j hj).2.2.1.1, by have := (hb j hj).2.2.1.2; omega⟩, (hb j hj).2.2.2⟩⟩
theorem wfF_congr {N : Int} {f g : Nat → Int32} (h : ∀ j, j < 73 → g j = f j) (hw : wfF N f) : wfF N g := by
  obtain ⟨h0, h1, h2, h3, h4, h5, h6, h7, h8, h9, ha, hb⟩ := hw
  have e15 := h 15 (by omega)
  have e40 := h 40 (by omega)
  unfold wfF
  rw [h 0 (by omega), h 1 (by omega), h 2 (by omega), h 3 (by omega), h 4 (by omega), h 5 (by omega), h 6 (by omega), e15, e40]
  refine ⟨h0, h1, h2, h3, h4, h5, h6, fun j hj => by rw [h _ (by omega)]; exact h7 j hj, h8, h9, fun j hj => ?_, fun j hj => ?_⟩
  · rw [h _ (by omega), h _ (by omega)]; exact ha j hj
  · rw [h _ (by omega), h _ (by omega), h _ (by omega), h _ (by omega)]; exact hb j hj
theorem jrep_congr {c c' : JM} {b : Nat} {f g : Nat → Int32} {N : Int} (hw : wfF N f) (h : ∀ j, j < 73 → g j = f j) (hc : ∀ o, b ≤ o → o ≤ b + 4 → ∀ k, (o = b → k ≠ 7) → c'.1 o k = c.1 o k) (hj : jrep c b f) : jrep c' b g := by
  obtain ⟨h0, h1, h2, h3, h4, h5, h6, h7, h8, h9⟩ := hj
  obtain ⟨-, -, -, -, -, -, -, -, w8, w9, -, -⟩ := hw
  have e15 := h 15 (by omega)
  have e40 := h 40 (by omega)
  unfold jrep
  rw [h 0 (by omega), h 1 (by omega), h 2 (by omega), h 3 (by omega), h 4 (by omega), h 5 (by omega), h 6 (by omega), e15, e40]
  rw [hc b (by omega) (by omega) 0 (by omega), hc b (by omega) (by omega) 1 (by omega), hc b (by omega) (by omega) 2 (by omega), hc b (by omega) (by omega) 3 (by omega), hc b (by omega) (by omega) 4 (by omega), hc b (by omega) (by omega) 5 (by omega), hc b (by omega) (by omega) 6 (by omega)]
  refine ⟨h0, h1, h2, h3, h4, h5, h6, fun j hj => ?_, fun j hj => ?_, fun j hj => ?_⟩
  · rw [hc _ (by omega) (by omega) j (by omega), h _ (by omega)]; exact h7 j hj
  · rw [hc _ (by omega) (by omega) j (by omega), h _ (by omega)]; exact h8 j hj
  · rw [hc _ (by omega) (by omega) j (by omega), hc _ (by omega) (by omega) j (by omega), h _ (by omega), h _ (by omega), h _ (by omega), h _ (by omega)]; exact h9 j hj
/-- what else the class's memory may hold -/
def eqC (c c' : JM) : Prop := (∀ o, (1 ≤ o ∧ o ≤ 5) ∨ (11 ≤ o ∧ o ≤ 20) ∨ o = 22 ∨ o = 0 → c'.1 o = c.1 o) ∧ c'.1 21 1 = c.1 21 1 ∧ c'.2 0 = c.2 0
def eqM (m m' : JM) : Prop := (∀ o, (1 ≤ o ∧ o ≤ 5) ∨ o = 11 ∨ o = 12 → m'.1 o = m.1 o) ∧ m'.1 0 9 = m.1 0 9 ∧ m'.2 0 = m.2 0
theorem eqC_rf (c : JM) : eqC c c := ⟨fun _ _ => rfl, rfl, rfl⟩
theorem eqM_rf (m : JM) : eqM m m := ⟨fun _ _ => rfl, rfl, rfl⟩
theorem eqC_tr {c d e : JM} (h1 : eqC c d) (h2 : eqC d e) : eqC c e := ⟨fun o ho => (h2.1 o ho).trans (h1.1 o ho), h2.2.1.trans h1.2.1, h2.2.2.trans h1.2.2⟩
theorem eqM_tr {c d e : JM} (h1 : eqM c d) (h2 : eqM d e) : eqM c e := ⟨fun o ho => (h2.1 o ho).trans (h1.1 o ho), h2.2.1.trans h1.2.1, h2.2.2.trans h1.2.2⟩
theorem Inv_eq {N M : Int} {c c' m m' : JM} (hNM : N ≤ M) (h : Inv N c m) (hc : eqC c c') (hm : eqM m m') : Inv M c' m' := by
  obtain ⟨a1, a2, a3, a4, a5, a6, a7⟩ := h
  obtain ⟨c1, c2, c3⟩ := hc
  obtain ⟨m1, m2, m3⟩ := hm
  have f1 : m'.1 1 = m.1 1 := m1 1 (by omega)
  have f11 : m'.1 11 = m.1 11 := m1 11 (by omega)
  have f12 : m'.1 12 = m.1 12 := m1 12 (by omega)
  have fi : ∀ i, imgF m' i = imgF m i := fun i => by unfold imgF; rw [f11]
  refine ⟨⟨fun j hj => by rw [m1 2 (by omega)]; exact a1.1 j hj, fun j hj => by rw [m1 3 (by omega)]; exact a1.2 j hj⟩, by rw [f1]; exact wfF_mono hNM a2, ?_, fun i hi => ?_, ?_, ?_, ?_⟩
  · rw [f1]
    exact jrep_congr a2 (fun _ _ => rfl) (fun o h1 h2 k _ => by rw [c1 o (by omega)]) a3
  · rw [f12, fi, c1 (11 + 5 * i) (by omega)]
    obtain ⟨b1, b2, b3⟩ := a4 i hi
    exact ⟨b1, b2, fun hk => ⟨wfF_mono hNM (b3 hk).1, jrep_congr (b3 hk).1 (fun _ _ => rfl) (fun o h1 h2 k _ => by rw [c1 o (by omega)]) (b3 hk).2⟩⟩
  · rw [c2, m2, c1 22 (by omega), m1 5 (by omega)]; exact a5
  · rw [c3, m3]; exact a6
  · rw [c1 0 (by omega), m1 4 (by omega)]; exact a7
/-- a refusal -/
theorem Inv_no {N M : Int} {c m : JM} (hNM : N ≤ M) (h : Inv N c m) (i : Nat) (hi : i < 3) : Inv M (jI c 0 (8 + i) (c.1 0 (8 + i) + 1)) (jI m 4 i (m.1 4 i + 1)) := by
  obtain ⟨a1, a2, a3, a4, a5, a6, a7⟩ := h
  have hm : ∀ o, o ≠ 4 → (jI m 4 i (m.1 4 i + 1)).1 o = m.1 o := fun o ho => by funext k; simp [jI_i, ho]
  have hc : ∀ o, o ≠ 0 → (jI c 0 (8 + i) (c.1 0 (8 + i) + 1)).1 o = c.1 o := fun o ho => by funext k; simp [jI_i, ho]
  have fi : ∀ j, imgF (jI m 4 i (m.1 4 i + 1)) j = imgF m j := fun j => by unfold imgF; rw [hm 11 (by omega)]
  refine ⟨⟨fun j hj => by rw [hm 2 (by omega)]; exact a1.1 j hj, fun j hj => by rw [hm 3 (by omega)]; exact a1.2 j hj⟩, by rw [hm 1 (by omega)]; exact wfF_mono hNM a2, ?_, fun j hj => ?_, ?_, ?_, ?_⟩
  · rw [hm 1 (by omega)]
    exact jrep_congr a2 (fun _ _ => rfl) (fun o h1 h2 k _ => by rw [hc o (by omega)]) a3
  · rw [hm 12 (by omega), fi, hc (11 + 5 * j) (by omega)]
    obtain ⟨b1, b2, b3⟩ := a4 j hj
    exact ⟨b1, b2, fun hk => ⟨wfF_mono hNM (b3 hk).1, jrep_congr (b3 hk).1 (fun _ _ => rfl) (fun o h1 h2 k _ => by rw [hc o (by omega)]) (b3 hk).2⟩⟩
  · rw [hm 0 (by omega), hm 5 (by omega), hc 21 (by omega), hc 22 (by omega)]; exact a5
  · exact a6
  · obtain ⟨s0, s1, s2⟩ := a7
    rcases (show i = 0 ∨ i = 1 ∨ i = 2 by omega) with rfl | rfl | rfl <;> simp [jI_i, s0, s1, s2]
/-- a pair of calls answers alike -/
def Pair (G : JG) (N : Int) (c m : JM) (MC MM : JMth) (as : List Value) : Prop := ∃ QC QM : Option Value → JM → Prop, Con G shC MC (.ref 0 :: as) c QC ∧ Con G shM MM (.ref 0 :: as) m QM ∧ ∀ v c' w m', QC v c' → QM w m' → (v = w ∧ ∃ z : Int32, v = some (.int z)) ∧ Inv (N + 1) c' m'
def PairL (G : JG) (N : Int) (c m : JM) (MC MM : JMth) (as : List Value) : Prop := ∃ QC QM : Option Value → JM → Prop, Con G shC MC (.ref 0 :: as) c QC ∧ Con G shM MM (.ref 0 :: as) m QM ∧ ∀ v c' w m', QC v c' → QM w m' → (v = w ∧ ∃ z : Int64, v = some (.long z)) ∧ Inv (N + 1) c' m'
/-- the numbers of the class's own jar, told by the model's row -/
theorem Inv_q {N : Int} {c m : JM} (h : Inv N c m) : (c.1 1 0).toInt = (m.1 1 0).toInt ∧ (c.1 1 1).toInt = (m.1 1 3).toInt ∧ (c.1 1 2).toInt = (m.1 1 4).toInt ∧ (c.1 1 3).toInt = (m.1 1 6).toInt * 10000 + (m.1 1 1).toInt * 100 + (m.1 1 2).toInt ∧ (c.1 1 4).toInt = (m.1 1 5).toInt ∧ (c.1 1 5).toInt = (m.1 1 15).toInt ∧ (c.1 1 6).toInt = (m.1 1 40).toInt := by
  obtain ⟨-, -, ⟨h0, h1, h2, h3, h4, h5, h6, -⟩, -⟩ := h
  exact ⟨by rw [h0], by rw [h1], by rw [h2], h3, by rw [h4], by rw [h5], by rw [h6]⟩
theorem Inv_r {N : Int} {c m : JM} (h : Inv N c m) : (0 ≤ (m.1 1 0).toInt ∧ (m.1 1 0).toInt ≤ 5) ∧ (0 ≤ (m.1 1 1).toInt ∧ (m.1 1 1).toInt ≤ 99) ∧ (0 ≤ (m.1 1 2).toInt ∧ (m.1 1 2).toInt ≤ 99) ∧ (1 ≤ (m.1 1 3).toInt ∧ (m.1 1 3).toInt ≤ 99) ∧ (1 ≤ (m.1 1 4).toInt ∧ (m.1 1 4).toInt ≤ 99) ∧ (0 ≤ (m.1 1 5).toInt ∧ (m.1 1 5).toInt ≤ N) ∧ (0 ≤ (m.1 1 6).toInt ∧ (m.1 1 6).toInt ≤ 2) ∧ (0 ≤ (m.1 1 15).toInt ∧ (m.1 1 15).toInt ≤ 6) ∧ (0 ≤ (m.1 1 40).toInt ∧ (m.1 1 40).toInt ≤ 8) ∧ (0 ≤ (m.1 0 9).toInt ∧ (m.1 0 9).toInt ≤ 150) := by
  obtain ⟨-, ⟨h0, h1, h2, h3, h4, h5, h6, -, h8, h9, -, -⟩, -, -, ⟨-, ht, -⟩, -⟩ := h
  exact ⟨h0, h1, h2, h3, h4, h5, h6, h8, h9, ht⟩
end
section
/-! ===== how each change keeps the tie: rows of the model against the class's jar ===== -/
theorem Inv_row {N M : Int} {c m c' m' : JM} {f : Nat → Int32} (hNM : N ≤ M) (h : Inv N c m) (hc : ∀ o, (11 ≤ o ∧ o ≤ 20) ∨ o = 22 ∨ o = 0 → c'.1 o = c.1 o) (hc2 : c'.1 21 1 = c.1 21 1) (hc3 : c'.2 0 = c.2 0) (hm : eqM (jC m 1 f) m') (hj : jrep c' 1 f) (hw : wfF M f) : Inv M c' m' := by
  obtain ⟨a1, a2, a3, a4, a5, a6, a7⟩ := h
  obtain ⟨m1, m2, m3⟩ := hm
  have f1 : m'.1 1 = f := by rw [m1 1 (by omega), jC_at]
  have fo : ∀ o, (2 ≤ o ∧ o ≤ 5) ∨ o = 11 ∨ o = 12 → m'.1 o = m.1 o := fun o ho => by rw [m1 o (by omega), jC_ne (by omega)]
  have fi : ∀ i, imgF m' i = imgF m i := fun i => by unfold imgF; rw [fo 11 (by omega)]
  have m2' : m'.1 0 9 = m.1 0 9 := by rw [m2, jC_ne (by omega)]
  have m3' : m'.2 0 = m.2 0 := m3
  refine ⟨⟨fun j hj => by rw [fo 2 (by omega)]; exact a1.1 j hj, fun j hj => by rw [fo 3 (by omega)]; exact a1.2 j hj⟩, by rw [f1]; exact hw, by rw [f1]; exact hj, fun i hi => ?_, ?_, ?_, ?_⟩
  · rw [fo 12 (by omega), fi, hc (11 + 5 * i) (by omega)]
    obtain ⟨b1, b2, b3⟩ := a4 i hi
    exact ⟨b1, b2, fun hk => ⟨wfF_mono hNM (b3 hk).1, jrep_congr (b3 hk).1 (fun _ _ => rfl) (fun o h1 h2 k _ => by rw [hc o (by omega)]) (b3 hk).2⟩⟩
  · rw [hc2, m2', hc 22 (by omega), fo 5 (by omega)]; exact a5
  · rw [hc3, m3']; exact a6
  · rw [hc 0 (by omega), fo 4 (by omega)]; exact a7
theorem mZ_d {a p b : Int} (h : 0 ≤ a ∧ a ≤ 99 ∧ 0 ≤ p ∧ p ≤ 99) : mZ a p b % 10000 / 100 = a ∧ mZ a p b % 100 = p ∧ mZ a p b / 10000 = b := by
  unfold mZ; omega
/-- begin anew -/
theorem jrep_begin {c : JM} {b : Nat} {k : Int32} {g : Nat → Int32} : jrep (begM c b k) b (fun j => if j < 73 then freF k j else g j) := by
  unfold jrep begM
  refine ⟨?_, ?_, ?_, ?_, ?_, ?_, ?_, fun j hj => ?_, fun j hj => ?_, fun j hj => ?_⟩
  · simp [jC, jI_i, freF]
  · simp [jC, jI_i, freF]
  · simp [jC, jI_i, freF]
  · simp [jC, jI_i, freF]; rfl
  · simp [jC, jI_i, freF]
  · simp [jC, jI_i, freF]
  · simp [jC, jI_i, freF]
  · rw [jC_at]
    simp only [hj, if_true]
    rw [if_pos (by omega), freF, if_neg (by omega), if_neg (by omega), if_neg (by omega), if_neg (by omega), if_pos (by omega), show 7 + j - 7 = j by omega]
  · exfalso
    dsimp only at hj
    rw [if_pos (by omega)] at hj
    have : (freF k 15).toInt = 0 := rfl
    omega
  · exfalso
    dsimp only at hj
    rw [if_pos (by omega)] at hj
    have : (freF k 40).toInt = 0 := rfl
    omega
theorem wfF_fresh {N : Int} {k : Int32} {g : Nat → Int32} (hN : 0 ≤ N) (hk : 0 ≤ k.toInt ∧ k.toInt ≤ 5) : wfF N (fun j => if j < 73 then freF k j else g j) := by
  refine wfF_congr (f := freF k) (fun j hj => by simp [hj]) ?_
  have e15 : (freF k 15).toInt = 0 := rfl
  have e40 : (freF k 40).toInt = 0 := rfl
  have e1 : (freF k 1).toInt = 20 := rfl
  have e2 : (freF k 2).toInt = 0 := rfl
  have e3 : (freF k 3).toInt = 40 := rfl
  have e4 : (freF k 4).toInt = 9 := rfl
  have e5 : (freF k 5).toInt = 0 := rfl
  have e6 : (freF k 6).toInt = 0 := rfl
  refine ⟨hk, by omega, by omega, by omega, by omega, by omega, by omega, fun j hj => ?_, by omega, by omega, fun j hj => by omega, fun j hj => by omega⟩
  rcases (show j = 0 ∨ j = 1 ∨ j = 2 ∨ j = 3 ∨ j = 4 ∨ j = 5 ∨ j = 6 ∨ j = 7 by omega) with rfl | rfl | rfl | rfl | rfl | rfl | rfl | rfl
  · exact (by decide : 0 ≤ (0 : Int32).toInt ∧ (0 : Int32).toInt ≤ 4)
  · exact (by decide : 0 ≤ (1 : Int32).toInt ∧ (1 : Int32).toInt ≤ 4)
  · exact (by decide : 0 ≤ (2 : Int32).toInt ∧ (2 : Int32).toInt ≤ 4)
  · exact (by decide : 0 ≤ (3 : Int32).toInt ∧ (3 : Int32).toInt ≤ 4)
  · exact (by decide : 0 ≤ (4 : Int32).toInt ∧ (4 : Int32).toInt ≤ 4)
  · exact (by decide : 0 ≤ (4 : Int32).toInt ∧ (4 : Int32).toInt ≤ 4)
  · exact (by decide : 0 ≤ (4 : Int32).toInt ∧ (4 : Int32).toInt ≤ 4)
  · exact (by decide : 0 ≤ (4 : Int32).toInt ∧ (4 : Int32).toInt ≤ 4)
/-- what a word makes of the row -/
def listF (f : Nat → Int32) (w : Int) : Nat → Int32 :=
  upd (upd (upd (upd f 1 (iZ (hA2 (f 0).toInt (f 1).toInt (f 5).toInt w))) 2 (iZ (hP2 (f 0).toInt (f 2).toInt (f 5).toInt w))) 5 (iZ ((f 5).toInt + 1))) 6
    (iZ (jZ (f 3).toInt (f 4).toInt (hA2 (f 0).toInt (f 1).toInt (f 5).toInt w) (hP2 (f 0).toInt (f 2).toInt (f 5).toInt w) w))
theorem jZ_rng (wr ht a p w : Int) : 0 ≤ jZ wr ht a p w ∧ jZ wr ht a p w ≤ 2 := by unfold jZ; omega
theorem hA2_rng (k a n w : Int) : 0 ≤ hA2 k a n w ∧ hA2 k a n w ≤ 99 := kZ_rng _
theorem hP2_rng (k p n w : Int) : 0 ≤ hP2 k p n w ∧ hP2 k p n w ≤ 99 := kZ_rng _
theorem hM_2 {k wr ht a p b n w : Int} (h : 0 ≤ a ∧ a ≤ 99 ∧ 0 ≤ p ∧ p ≤ 99) : hM k wr ht (mZ a p b) n w = mZ (hA2 k a n w) (hP2 k p n w) (jZ wr ht (hA2 k a n w) (hP2 k p n w) w) := by
  obtain ⟨e1, e2, e3⟩ := mZ_d (b := b) h
  unfold hM hA hP
  rw [e1, e2]
  rfl
theorem listF_v {f : Nat → Int32} {w N : Int} (hw : wfF N f) (hN : N < 1000000) : (listF f w 1).toInt = hA2 (f 0).toInt (f 1).toInt (f 5).toInt w ∧ (listF f w 2).toInt = hP2 (f 0).toInt (f 2).toInt (f 5).toInt w ∧ (listF f w 5).toInt = (f 5).toInt + 1 ∧ (listF f w 6).toInt = jZ (f 3).toInt (f 4).toInt (hA2 (f 0).toInt (f 1).toInt (f 5).toInt w) (hP2 (f 0).toInt (f 2).toInt (f 5).toInt w) w ∧ ∀ j, j ≠ 1 → j ≠ 2 → j ≠ 5 → j ≠ 6 → listF f w j = f j := by
  obtain ⟨h0, h1, h2, h3, h4, h5, h6, -⟩ := hw
  have g1 := hA2_rng (f 0).toInt (f 1).toInt (f 5).toInt w
  have g2 := hP2_rng (f 0).toInt (f 2).toInt (f 5).toInt w
  have g3 := jZ_rng (f 3).toInt (f 4).toInt (hA2 (f 0).toInt (f 1).toInt (f 5).toInt w) (hP2 (f 0).toInt (f 2).toInt (f 5).toInt w) w
  refine ⟨?_, ?_, ?_, ?_, fun j a1 a2 a5 a6 => by simp [listF, upd, a1, a2, a5, a6]⟩
  · simp only [listF, upd]; rw [if_neg (by omega), if_neg (by omega), if_neg (by omega), if_pos trivial, iZ_i (by omega)]
  · simp only [listF, upd]; rw [if_neg (by omega), if_neg (by omega), if_pos trivial, iZ_i (by omega)]
  · simp only [listF, upd]; rw [if_neg (by omega), if_pos trivial, iZ_i (by omega)]
  · simp only [listF, upd]; rw [if_pos trivial, iZ_i (by omega)]
theorem wfF_list {f : Nat → Int32} {w N : Int} (hw : wfF N f) (hN : N < 1000000) : wfF (N + 1) (listF f w) := by
  obtain ⟨e1, e2, e5, e6, eo⟩ := listF_v (w := w) hw hN
  have g1 := hA2_rng (f 0).toInt (f 1).toInt (f 5).toInt w
  have g2 := hP2_rng (f 0).toInt (f 2).toInt (f 5).toInt w
  have g3 := jZ_rng (f 3).toInt (f 4).toInt (hA2 (f 0).toInt (f 1).toInt (f 5).toInt w) (hP2 (f 0).toInt (f 2).toInt (f 5).toInt w) w
  obtain ⟨h0, h1, h2, h3, h4, h5, h6, h7, h8, h9, ha, hb⟩ := wfF_mono (M := N + 1) (by omega) hw
  have o15 := eo 15 (by omega) (by omega) (by omega) (by omega)
  have o40 := eo 40 (by omega) (by omega) (by omega) (by omega)
  have h5' := hw.2.2.2.2.2.1
  unfold wfF
  rw [e1, e2, e5, e6, o15, o40, eo 0 (by omega) (by omega) (by omega) (by omega), eo 3 (by omega) (by omega) (by omega) (by omega), eo 4 (by omega) (by omega) (by omega) (by omega)]
  refine ⟨h0, g1, g2, h3, h4, ⟨by omega, by omega⟩, g3, fun j hj => by rw [eo _ (by omega) (by omega) (by omega) (by omega)]; exact h7 j hj, h8, h9, fun j hj => ?_, fun j hj => ?_⟩
  · rw [eo _ (by omega) (by omega) (by omega) (by omega), eo _ (by omega) (by omega) (by omega) (by omega)]; exact ha j hj
  · rw [eo _ (by omega) (by omega) (by omega) (by omega), eo _ (by omega) (by omega) (by omega) (by omega), eo _ (by omega) (by omega) (by omega) (by omega), eo _ (by omega) (by omega) (by omega) (by omega)]; exact hb j hj
theorem listenM_o {c : JM} {b : Nat} {w : Int} {o k : Nat} (h : o ≠ b ∨ (k ≠ 3 ∧ k ≠ 4)) : (listenM c b w).1 o k = c.1 o k := by
  simp only [listenM, jI_i]
  rw [if_neg (by omega), if_neg (by omega)]
theorem jrep_listen {c : JM} {b : Nat} {f : Nat → Int32} {w N : Int} (hw : wfF N f) (hN : N < 1000000) (hj : jrep c b f) : jrep (listenM c b w) b (listF f w) := by
  obtain ⟨e1, e2, e5, e6, eo⟩ := listF_v (w := w) hw hN
  have g1 := hA2_rng (f 0).toInt (f 1).toInt (f 5).toInt w
  have g2 := hP2_rng (f 0).toInt (f 2).toInt (f 5).toInt w
  have g3 := jZ_rng (f 3).toInt (f 4).toInt (hA2 (f 0).toInt (f 1).toInt (f 5).toInt w) (hP2 (f 0).toInt (f 2).toInt (f 5).toInt w) w
  obtain ⟨h0, h1, h2, h3, h4, h5, h6, h7, h8, h9⟩ := hj
  have o15 := eo 15 (by omega) (by omega) (by omega) (by omega)
  have o40 := eo 40 (by omega) (by omega) (by omega) (by omega)
  have r1 := hw.2.1
  have r2 := hw.2.2.1
  have e3 : (listenM c b w).1 b 3 = iZ (hM (c.1 b 0).toInt (c.1 b 1).toInt (c.1 b 2).toInt (c.1 b 3).toInt (c.1 b 4).toInt w) := by simp [listenM, jI_i]
  have e4 : (listenM c b w).1 b 4 = iZ ((c.1 b 4).toInt + 1) := by simp [listenM, jI_i]
  have hm := hM_rng (c.1 b 0).toInt (c.1 b 1).toInt (c.1 b 2).toInt (c.1 b 3).toInt (c.1 b 4).toInt w
  unfold jrep
  rw [e1, e2, e6, o15, o40, eo 0 (by omega) (by omega) (by omega) (by omega), eo 3 (by omega) (by omega) (by omega) (by omega), eo 4 (by omega) (by omega) (by omega) (by omega), e3, iZ_i (by omega), e4, listenM_o (by omega), listenM_o (by omega), listenM_o (by omega), listenM_o (by omega), listenM_o (by omega)]
  refine ⟨h0, h1, h2, ?_, ?_, h5, h6, fun j hj => ?_, fun j hj => ?_, fun j hj => ?_⟩
  · rw [h0, h1, h2, h3, h4, hM_2 (by omega)]
  · rw [h4]; simp [listF, upd]
  · rw [listenM_o (by omega), eo _ (by omega) (by omega) (by omega) (by omega)]; exact h7 j hj
  · rw [listenM_o (by omega), eo _ (by omega) (by omega) (by omega) (by omega)]; exact h8 j hj
  · rw [listenM_o (by omega), listenM_o (by omega), eo _ (by omega) (by omega) (by omega) (by omega), eo _ (by omega) (by omega) (by omega) (by omega), eo _ (by omega) (by omega) (by omega) (by omega), eo _ (by omega) (by omega) (by omega) (by omega)]; exact h9 j hj
/-- remember -/
theorem remM_b {c : JM} {b k : Nat} (h : k ≠ 6) : (remM c b).1 b k = c.1 b k := by
  unfold remM
  split <;> simp [pushM, jI_i, jC, h]
theorem remM_v {c : JM} {b k : Nat} : (remM c b).1 (b + 1) k = c.1 (b + 1) k := by
  unfold remM
  split <;> simp [pushM, jI_i, jC]
theorem remM_n {c : JM} {b k : Nat} : (remM c b).1 (b + 2) k = c.1 (b + 2) k := by
  unfold remM
  split <;> simp [pushM, jI_i, jC]
theorem remM_o {c : JM} {b o : Nat} (h : o ≠ b) (h3 : o ≠ b + 3) (h4 : o ≠ b + 4) : (remM c b).1 o = c.1 o := by
  funext k
  unfold remM
  split <;> simp [pushM, jI_i, jC, h, h3, h4]
theorem remM_l {c : JM} {b : Nat} : (remM c b).2 = c.2 := by
  unfold remM
  split <;> rfl
theorem pushF_v {f : Nat → Int32} {n : Nat} (hn : n < 8) : pushF f n (41 + 4 * n) = f 1 ∧ pushF f n (41 + 4 * n + 1) = f 2 ∧ pushF f n (41 + 4 * n + 2) = f 5 ∧ pushF f n (41 + 4 * n + 3) = f 6 ∧ pushF f n 40 = iZ ((n : Int) + 1) ∧ ∀ j, j ≠ 40 → (j < 41 + 4 * n ∨ 41 + 4 * n + 3 < j) → pushF f n j = f j := by
  refine ⟨?_, ?_, ?_, ?_, ?_, fun j h1 h2 => ?_⟩
  · simp only [pushF, upd]; rw [if_neg (by omega), if_neg (by omega), if_neg (by omega), if_neg (by omega), if_pos trivial]
  · simp only [pushF, upd]; rw [if_neg (by omega), if_neg (by omega), if_neg (by omega), if_pos trivial]
  · simp only [pushF, upd]; rw [if_neg (by omega), if_neg (by omega), if_pos trivial]
  · simp only [pushF, upd]; rw [if_neg (by omega), if_pos trivial]
  · simp only [pushF, upd]; rw [if_pos trivial]
  · simp only [pushF, upd]; rw [if_neg (by omega), if_neg (by omega), if_neg (by omega), if_neg (by omega), if_neg (by omega)]
theorem wfF_push {f : Nat → Int32} {n : Nat} {N : Int} (hw : wfF N f) (hn : n < 8) (hb : ∀ j : Nat, j < n → (0 ≤ (f (41 + 4 * j)).toInt ∧ (f (41 + 4 * j)).toInt ≤ 99) ∧ (0 ≤ (f (41 + 4 * j + 1)).toInt ∧ (f (41 + 4 * j + 1)).toInt ≤ 99) ∧ (0 ≤ (f (41 + 4 * j + 2)).toInt ∧ (f (41 + 4 * j + 2)).toInt ≤ N) ∧ (0 ≤ (f (41 + 4 * j + 3)).toInt ∧ (f (41 + 4 * j + 3)).toInt ≤ 2)) : wfF N (pushF f n) := by
  obtain ⟨p1, p2, p3, p4, p5, po⟩ := pushF_v (f := f) hn
  obtain ⟨h0, h1, h2, h3, h4, h5, h6, h7, h8, h9, ha, -⟩ := hw
  unfold wfF
  rw [po 0 (by omega) (by omega), po 1 (by omega) (by omega), po 2 (by omega) (by omega), po 3 (by omega) (by omega), po 4 (by omega) (by omega), po 5 (by omega) (by omega), po 6 (by omega) (by omega), po 15 (by omega) (by omega), p5, iZ_i (by omega)]
  refine ⟨h0, h1, h2, h3, h4, h5, h6, fun j hj => by rw [po _ (by omega) (by omega)]; exact h7 j hj, h8, by omega, fun j hj => ?_, fun j hj => ?_⟩
  · rw [po _ (by omega) (by omega), po _ (by omega) (by omega)]; exact ha j hj
  · by_cases e : j = n
    · subst e
      rw [p1, p2, p3, p4]
      exact ⟨h1, h2, h5, h6⟩
    · rw [po _ (by omega) (by omega), po _ (by omega) (by omega), po _ (by omega) (by omega), po _ (by omega) (by omega)]
      exact hb j (by omega)
theorem shF_v {f : Nat → Int32} : (shF f 40) = 7 ∧ (∀ j, j < 40 → shF f j = f j) ∧ ∀ j, 41 ≤ j → j < 69 → shF f j = f (j + 4) := by
  refine ⟨by simp [shF], fun j hj => ?_, fun j h1 h2 => ?_⟩
  · simp only [shF]; rw [if_neg (by omega), if_neg (by omega)]
  · simp only [shF]; rw [if_pos ⟨h1, h2⟩]
theorem wfF_sh {f : Nat → Int32} {N : Int} (hw : wfF N f) (h8 : (f 40).toInt = 8) : wfF N (shF f) := by
  obtain ⟨s40, so, sp⟩ := shF_v (f := f)
  obtain ⟨h0, h1, h2, h3, h4, h5, h6, h7, h8', h9, ha, hb⟩ := hw
  unfold wfF
  rw [so 0 (by omega), so 1 (by omega), so 2 (by omega), so 3 (by omega), so 4 (by omega), so 5 (by omega), so 6 (by omega), so 15 (by omega), s40]
  have e7 : (7 : Int32).toInt = 7 := rfl
  refine ⟨h0, h1, h2, h3, h4, h5, h6, fun j hj => by rw [so _ (by omega)]; exact h7 j hj, h8', by omega, fun j hj => ?_, fun j hj => ?_⟩
  · rw [so _ (by omega), so _ (by omega)]; exact ha j hj
  · rw [sp _ (by omega) (by omega), sp _ (by omega) (by omega), sp _ (by omega) (by omega), sp _ (by omega) (by omega)]
    have := hb (j + 1) (by omega)
    rw [show 41 + 4 * (j + 1) = 41 + 4 * j + 4 by omega] at this
    exact this
theorem wfF_rem {f : Nat → Int32} {N : Int} (hw : wfF N f) : wfF N (remF f) := by
  have h9 := hw.2.2.2.2.2.2.2.2.2.1
  unfold remF
  split
  · rename_i h8
    have hs := wfF_sh hw h8
    refine wfF_push hs (by omega) (fun j hj => ?_)
    exact hs.2.2.2.2.2.2.2.2.2.2.2 j (by rw [shF_v.1]; show (j : Int) < 7; omega)
  · exact wfF_push hw (by omega) (fun j hj => hw.2.2.2.2.2.2.2.2.2.2.2 j (by omega))
theorem jrep_push {c : JM} {b n : Nat} {f : Nat → Int32} (hn : n < 8) (hj : jrep c b f) (hf : (f 15).toInt ≤ 6) (h9 : ∀ j : Nat, j < n → (c.1 (b + 3) j).toInt = mZ (f (41 + 4 * j)).toInt (f (41 + 4 * j + 1)).toInt (f (41 + 4 * j + 3)).toInt ∧ c.1 (b + 4) j = f (41 + 4 * j + 2)) : jrep (pushM c b n) b (pushF f n) := by
  obtain ⟨p1, p2, p3, p4, p5, po⟩ := pushF_v (f := f) hn
  obtain ⟨h0, h1, h2, h3, h4, h5, h6, h7, h8, -⟩ := hj
  unfold jrep
  rw [po 0 (by omega) (by omega), po 1 (by omega) (by omega), po 2 (by omega) (by omega), po 3 (by omega) (by omega), po 4 (by omega) (by omega), po 5 (by omega) (by omega), po 6 (by omega) (by omega), po 15 (by omega) (by omega), p5, iZ_i (by omega)]
  refine ⟨by simp [pushM, jI_i, h0], by simp [pushM, jI_i, h1], by simp [pushM, jI_i, h2], by simp [pushM, jI_i, h3], by simp [pushM, jI_i, h4], by simp [pushM, jI_i, h5], by simp [pushM, jI_i], fun j hj => ?_, fun j hj => ?_, fun j hj => ?_⟩
  · rw [po _ (by omega) (by omega), ← h7 j hj]; simp [pushM, jI_i]
  · rw [po _ (by omega) (by omega), ← h8 j hj]; simp [pushM, jI_i]
  · by_cases e : j = n
    · subst e
      rw [p1, p2, p3, p4, ← h3, ← h4]
      exact ⟨by simp [pushM, jI_i], by simp [pushM, jI_i]⟩
    · rw [po _ (by omega) (by omega), po _ (by omega) (by omega), po _ (by omega) (by omega), po _ (by omega) (by omega)]
      obtain ⟨k1, k2⟩ := h9 j (by omega)
      rw [← k1, ← k2]
      exact ⟨by simp [pushM, jI_i, e], by simp [pushM, jI_i, e]⟩
theorem jrep_rem {c : JM} {b : Nat} {f : Nat → Int32} {N : Int} (hw : wfF N f) (hj : jrep c b f) : jrep (remM c b) b (remF f) := by
  have w9 := hw.2.2.2.2.2.2.2.2.2.1
  have w15 := hw.2.2.2.2.2.2.2.2.1
  have h6 := hj.2.2.2.2.2.2.1
  have h9 := hj.2.2.2.2.2.2.2.2.2
  unfold remM remF
  rw [h6]
  by_cases e : (f 40).toInt = 8
  · rw [if_pos (by omega), if_pos e]
    obtain ⟨s40, so, sp⟩ := shF_v (f := f)
    have e7 : (7 : Int32).toInt = 7 := rfl
    refine jrep_push (by omega) ?_ (by rw [so 15 (by omega)]; omega) (fun j hj2 => ?_)
    · obtain ⟨h0, h1, h2, h3, h4, h5, h6, h7, h8, h9⟩ := hj
      unfold jrep
      rw [so 0 (by omega), so 1 (by omega), so 2 (by omega), so 3 (by omega), so 4 (by omega), so 5 (by omega), so 6 (by omega), so 15 (by omega), s40]
      refine ⟨by simp [jI_i, jC, h0], by simp [jI_i, jC, h1], by simp [jI_i, jC, h2], by simp [jI_i, jC, h3], by simp [jI_i, jC, h4], by simp [jI_i, jC, h5], by simp [jI_i], fun j hj => ?_, fun j hj => ?_, fun j hj => ?_⟩
      · rw [so _ (by omega), ← h7 j hj]; simp [jI_i, jC]
      · rw [so _ (by omega), ← h8 j hj]; simp [jI_i, jC]
      · rw [sp _ (by omega) (by omega), sp _ (by omega) (by omega), sp _ (by omega) (by omega), sp _ (by omega) (by omega)]
        obtain ⟨k1, k2⟩ := h9 (j + 1) (by omega)
        rw [show 41 + 4 * (j + 1) = 41 + 4 * j + 4 by omega] at k1 k2
        rw [show 41 + 4 * j + 4 = 41 + 4 * j + 4 from rfl, show 41 + 4 * j + 1 + 4 = 41 + 4 * j + 4 + 1 by omega, show 41 + 4 * j + 3 + 4 = 41 + 4 * j + 4 + 3 by omega, show 41 + 4 * j + 2 + 4 = 41 + 4 * j + 4 + 2 by omega, ← k1, ← k2]
        constructor <;> simp [jI_i, jC, va_cpy, show j < 7 by omega, show 1 + j = j + 1 by omega]
    · rw [sp _ (by omega) (by omega), sp _ (by omega) (by omega), sp _ (by omega) (by omega), sp _ (by omega) (by omega)]
      obtain ⟨k1, k2⟩ := h9 (j + 1) (by omega)
      rw [show 41 + 4 * (j + 1) = 41 + 4 * j + 4 by omega] at k1 k2
      rw [show 41 + 4 * j + 4 = 41 + 4 * j + 4 from rfl, show 41 + 4 * j + 1 + 4 = 41 + 4 * j + 4 + 1 by omega, show 41 + 4 * j + 3 + 4 = 41 + 4 * j + 4 + 3 by omega, show 41 + 4 * j + 2 + 4 = 41 + 4 * j + 4 + 2 by omega, ← k1, ← k2]
      constructor <;> simp [jI_i, jC, va_cpy, show j < 7 by omega, show 1 + j = j + 1 by omega]
  · rw [if_neg (by omega), if_neg e]
    exact jrep_push (by omega) hj (by omega) (fun j hj2 => h9 j (by omega))
end
