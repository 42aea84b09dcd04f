section
-- ===== PART A: goes FIRST, ahead of the names: the tables' words, and 'selects' of the private methods out of them =====
/-- a private method of a class that the tables say can be made, by its rows of tables_1 -/
def lw_okq (q : MethodName × Nat) : Prop := (q.1.cls ≠ "java/lang/invoke/MethodHandle" ∧ q.1.cls ≠ "java/lang/invoke/VarHandle") ∧ Cond.instantiable q.1.cls q.2 ∈ tables_1 ∧ Cond.privateMethod q.1 ∈ tables_1 ∧ Cond.instanceMethod q.1 ∈ tables_1
theorem lw_p0 : lw_okq (⟨"SneezeLights", "tell", "(I)I"⟩, 8) := ⟨⟨by decide +kernel, by decide +kernel⟩, List.mem_of_getElem? (i := 14) (by decide +kernel), List.mem_of_getElem? (i := 186) (by decide +kernel), List.mem_of_getElem? (i := 187) (by decide +kernel)⟩
theorem lw_p1 : lw_okq (⟨"SneezeLights", "isThere", "(I)Z"⟩, 8) := ⟨⟨by decide +kernel, by decide +kernel⟩, List.mem_of_getElem? (i := 14) (by decide +kernel), List.mem_of_getElem? (i := 258) (by decide +kernel), List.mem_of_getElem? (i := 259) (by decide +kernel)⟩
theorem lw_p2 : lw_okq (⟨"SneezeLights$Street", "burnLamps", "()V"⟩, 13) := ⟨⟨by decide +kernel, by decide +kernel⟩, List.mem_of_getElem? (i := 22) (by decide +kernel), List.mem_of_getElem? (i := 315) (by decide +kernel), List.mem_of_getElem? (i := 316) (by decide +kernel)⟩
theorem lw_p3 : lw_okq (⟨"SneezeLights$Street", "tickleAll", "()V"⟩, 13) := ⟨⟨by decide +kernel, by decide +kernel⟩, List.mem_of_getElem? (i := 22) (by decide +kernel), List.mem_of_getElem? (i := 322) (by decide +kernel), List.mem_of_getElem? (i := 323) (by decide +kernel)⟩
theorem lw_p4 : lw_okq (⟨"SneezeLights$Street", "goOff", "(I)V"⟩, 13) := ⟨⟨by decide +kernel, by decide +kernel⟩, List.mem_of_getElem? (i := 22) (by decide +kernel), List.mem_of_getElem? (i := 331) (by decide +kernel), List.mem_of_getElem? (i := 332) (by decide +kernel)⟩
theorem lw_p5 : lw_okq (⟨"SneezeLights$Street", "lightBefore", "(I)V"⟩, 13) := ⟨⟨by decide +kernel, by decide +kernel⟩, List.mem_of_getElem? (i := 22) (by decide +kernel), List.mem_of_getElem? (i := 335) (by decide +kernel), List.mem_of_getElem? (i := 336) (by decide +kernel)⟩
theorem lw_p6 : lw_okq (⟨"SneezeLights$Street", "giveCold", "(I)V"⟩, 13) := ⟨⟨by decide +kernel, by decide +kernel⟩, List.mem_of_getElem? (i := 22) (by decide +kernel), List.mem_of_getElem? (i := 341) (by decide +kernel), List.mem_of_getElem? (i := 342) (by decide +kernel)⟩
theorem lw_p7 : lw_okq (⟨"SneezeLights$Street", "healAll", "()V"⟩, 13) := ⟨⟨by decide +kernel, by decide +kernel⟩, List.mem_of_getElem? (i := 22) (by decide +kernel), List.mem_of_getElem? (i := 348) (by decide +kernel), List.mem_of_getElem? (i := 349) (by decide +kernel)⟩
theorem lw_p8 : lw_okq (⟨"SneezeLights", "startTrial", "()V"⟩, 8) := ⟨⟨by decide +kernel, by decide +kernel⟩, List.mem_of_getElem? (i := 14) (by decide +kernel), List.mem_of_getElem? (i := 357) (by decide +kernel), List.mem_of_getElem? (i := 358) (by decide +kernel)⟩
theorem lw_p9 : lw_okq (⟨"SneezeLights", "brightest", "(IIII)I"⟩, 8) := ⟨⟨by decide +kernel, by decide +kernel⟩, List.mem_of_getElem? (i := 14) (by decide +kernel), List.mem_of_getElem? (i := 392) (by decide +kernel), List.mem_of_getElem? (i := 393) (by decide +kernel)⟩
theorem lw_p10 : lw_okq (⟨"SneezeLights", "choose", "(III)V"⟩, 8) := ⟨⟨by decide +kernel, by decide +kernel⟩, List.mem_of_getElem? (i := 14) (by decide +kernel), List.mem_of_getElem? (i := 396) (by decide +kernel), List.mem_of_getElem? (i := 397) (by decide +kernel)⟩
theorem lw_p11 : lw_okq (⟨"SneezeLights$Winter", "step", "(LSneezeLights$Tape;)V"⟩, 5) := ⟨⟨by decide +kernel, by decide +kernel⟩, List.mem_of_getElem? (i := 104) (by decide +kernel), List.mem_of_getElem? (i := 445) (by decide +kernel), List.mem_of_getElem? (i := 446) (by decide +kernel)⟩
theorem lw_p12 : lw_okq (⟨"SneezeLights$Winter", "tellItem", "(LSneezeLights$Tape;LSneezeLights$Street;)Z"⟩, 5) := ⟨⟨by decide +kernel, by decide +kernel⟩, List.mem_of_getElem? (i := 104) (by decide +kernel), List.mem_of_getElem? (i := 460) (by decide +kernel), List.mem_of_getElem? (i := 461) (by decide +kernel)⟩
theorem lw_p13 : lw_okq (⟨"SneezeLights$Winter", "isWord", "(LSneezeLights$Tape;Ljava/lang/String;)Z"⟩, 5) := ⟨⟨by decide +kernel, by decide +kernel⟩, List.mem_of_getElem? (i := 104) (by decide +kernel), List.mem_of_getElem? (i := 473) (by decide +kernel), List.mem_of_getElem? (i := 474) (by decide +kernel)⟩
theorem lw_p14 : lw_okq (⟨"SneezeLights$Winter", "tellSneezer", "(LSneezeLights$Tape;LSneezeLights$Street;I)Z"⟩, 5) := ⟨⟨by decide +kernel, by decide +kernel⟩, List.mem_of_getElem? (i := 104) (by decide +kernel), List.mem_of_getElem? (i := 525) (by decide +kernel), List.mem_of_getElem? (i := 526) (by decide +kernel)⟩
theorem lw_p15 : lw_okq (⟨"SneezeLights$Winter", "isNumber", "(I)Z"⟩, 5) := ⟨⟨by decide +kernel, by decide +kernel⟩, List.mem_of_getElem? (i := 104) (by decide +kernel), List.mem_of_getElem? (i := 529) (by decide +kernel), List.mem_of_getElem? (i := 530) (by decide +kernel)⟩
def lw_privs_1 : List (MethodName × Nat) := [(⟨"SneezeLights", "tell", "(I)I"⟩, 8), (⟨"SneezeLights", "isThere", "(I)Z"⟩, 8), (⟨"SneezeLights$Street", "burnLamps", "()V"⟩, 13), (⟨"SneezeLights$Street", "tickleAll", "()V"⟩, 13), (⟨"SneezeLights$Street", "goOff", "(I)V"⟩, 13), (⟨"SneezeLights$Street", "lightBefore", "(I)V"⟩, 13), (⟨"SneezeLights$Street", "giveCold", "(I)V"⟩, 13), (⟨"SneezeLights$Street", "healAll", "()V"⟩, 13), (⟨"SneezeLights", "startTrial", "()V"⟩, 8), (⟨"SneezeLights", "brightest", "(IIII)I"⟩, 8), (⟨"SneezeLights", "choose", "(III)V"⟩, 8), (⟨"SneezeLights$Winter", "step", "(LSneezeLights$Tape;)V"⟩, 5), (⟨"SneezeLights$Winter", "tellItem", "(LSneezeLights$Tape;LSneezeLights$Street;)Z"⟩, 5), (⟨"SneezeLights$Winter", "isWord", "(LSneezeLights$Tape;Ljava/lang/String;)Z"⟩, 5), (⟨"SneezeLights$Winter", "tellSneezer", "(LSneezeLights$Tape;LSneezeLights$Street;I)Z"⟩, 5), (⟨"SneezeLights$Winter", "isNumber", "(I)Z"⟩, 5)]
theorem lw_r1 : ∀ q ∈ lw_privs_1, lw_okq q := List.forall_mem_cons.mpr ⟨lw_p0, List.forall_mem_cons.mpr ⟨lw_p1, List.forall_mem_cons.mpr ⟨lw_p2, List.forall_mem_cons.mpr ⟨lw_p3, List.forall_mem_cons.mpr ⟨lw_p4, List.forall_mem_cons.mpr ⟨lw_p5, List.forall_mem_cons.mpr ⟨lw_p6, List.forall_mem_cons.mpr ⟨lw_p7, List.forall_mem_cons.mpr ⟨lw_p8, List.forall_mem_cons.mpr ⟨lw_p9, List.forall_mem_cons.mpr ⟨lw_p10, List.forall_mem_cons.mpr ⟨lw_p11, List.forall_mem_cons.mpr ⟨lw_p12, List.forall_mem_cons.mpr ⟨lw_p13, List.forall_mem_cons.mpr ⟨lw_p14, List.forall_mem_cons.mpr ⟨lw_p15, fun _ h => absurd h List.not_mem_nil⟩⟩⟩⟩⟩⟩⟩⟩⟩⟩⟩⟩⟩⟩⟩⟩
theorem lw_p16 : lw_okq (⟨"SneezeLights$Winter", "tellPart", "(LSneezeLights$Tape;Ljava/lang/String;[II)Z"⟩, 5) := ⟨⟨by decide +kernel, by decide +kernel⟩, List.mem_of_getElem? (i := 104) (by decide +kernel), List.mem_of_getElem? (i := 537) (by decide +kernel), List.mem_of_getElem? (i := 538) (by decide +kernel)⟩
theorem lw_p17 : lw_okq (⟨"SneezeLights$Winter", "tellBook", "(LSneezeLights$Tape;LSneezeLights$Street;I)Z"⟩, 5) := ⟨⟨by decide +kernel, by decide +kernel⟩, List.mem_of_getElem? (i := 104) (by decide +kernel), List.mem_of_getElem? (i := 543) (by decide +kernel), List.mem_of_getElem? (i := 544) (by decide +kernel)⟩
theorem lw_p18 : lw_okq (⟨"SneezeLights$Winter", "tellDry", "(LSneezeLights$Tape;LSneezeLights$Street;)Z"⟩, 5) := ⟨⟨by decide +kernel, by decide +kernel⟩, List.mem_of_getElem? (i := 104) (by decide +kernel), List.mem_of_getElem? (i := 549) (by decide +kernel), List.mem_of_getElem? (i := 550) (by decide +kernel)⟩
theorem lw_p19 : lw_okq (⟨"SneezeLights$Winter", "tellLamp", "(LSneezeLights$Tape;LSneezeLights$Street;)Z"⟩, 5) := ⟨⟨by decide +kernel, by decide +kernel⟩, List.mem_of_getElem? (i := 104) (by decide +kernel), List.mem_of_getElem? (i := 554) (by decide +kernel), List.mem_of_getElem? (i := 555) (by decide +kernel)⟩
theorem lw_p20 : lw_okq (⟨"SneezeLights", "ticklesJustSo", "(IIII)Z"⟩, 8) := ⟨⟨by decide +kernel, by decide +kernel⟩, List.mem_of_getElem? (i := 14) (by decide +kernel), List.mem_of_getElem? (i := 621) (by decide +kernel), List.mem_of_getElem? (i := 622) (by decide +kernel)⟩
theorem lw_p21 : lw_okq (⟨"SneezeLightsModel", "becomes", "(II)I"⟩, 20) := ⟨⟨by decide +kernel, by decide +kernel⟩, List.mem_of_getElem? (i := 650) (by decide +kernel), List.mem_of_getElem? (i := 730) (by decide +kernel), List.mem_of_getElem? (i := 731) (by decide +kernel)⟩
theorem lw_p22 : lw_okq (⟨"SneezeLightsModel", "finds", "(I)I"⟩, 20) := ⟨⟨by decide +kernel, by decide +kernel⟩, List.mem_of_getElem? (i := 650) (by decide +kernel), List.mem_of_getElem? (i := 735) (by decide +kernel), List.mem_of_getElem? (i := 736) (by decide +kernel)⟩
theorem lw_p23 : lw_okq (⟨"SneezeLightsModel", "stands", "(II)I"⟩, 20) := ⟨⟨by decide +kernel, by decide +kernel⟩, List.mem_of_getElem? (i := 650) (by decide +kernel), List.mem_of_getElem? (i := 743) (by decide +kernel), List.mem_of_getElem? (i := 744) (by decide +kernel)⟩
theorem lw_p24 : lw_okq (⟨"SneezeLightsModel", "peopleAt", "(I)I"⟩, 20) := ⟨⟨by decide +kernel, by decide +kernel⟩, List.mem_of_getElem? (i := 650) (by decide +kernel), List.mem_of_getElem? (i := 747) (by decide +kernel), List.mem_of_getElem? (i := 748) (by decide +kernel)⟩
theorem lw_p25 : lw_okq (⟨"SneezeLightsModel", "its", "(II)I"⟩, 20) := ⟨⟨by decide +kernel, by decide +kernel⟩, List.mem_of_getElem? (i := 650) (by decide +kernel), List.mem_of_getElem? (i := 751) (by decide +kernel), List.mem_of_getElem? (i := 752) (by decide +kernel)⟩
theorem lw_p26 : lw_okq (⟨"SneezeLightsModel", "setOf", "(I)I"⟩, 20) := ⟨⟨by decide +kernel, by decide +kernel⟩, List.mem_of_getElem? (i := 650) (by decide +kernel), List.mem_of_getElem? (i := 763) (by decide +kernel), List.mem_of_getElem? (i := 764) (by decide +kernel)⟩
theorem lw_p27 : lw_okq (⟨"SneezeLightsModel", "dueSet", "()I"⟩, 20) := ⟨⟨by decide +kernel, by decide +kernel⟩, List.mem_of_getElem? (i := 650) (by decide +kernel), List.mem_of_getElem? (i := 767) (by decide +kernel), List.mem_of_getElem? (i := 768) (by decide +kernel)⟩
theorem lw_p28 : lw_okq (⟨"SneezeLightsModel", "isDue", "(I)Z"⟩, 20) := ⟨⟨by decide +kernel, by decide +kernel⟩, List.mem_of_getElem? (i := 650) (by decide +kernel), List.mem_of_getElem? (i := 771) (by decide +kernel), List.mem_of_getElem? (i := 772) (by decide +kernel)⟩
theorem lw_p29 : lw_okq (⟨"SneezeLightsModel", "holds", "(I)I"⟩, 20) := ⟨⟨by decide +kernel, by decide +kernel⟩, List.mem_of_getElem? (i := 650) (by decide +kernel), List.mem_of_getElem? (i := 775) (by decide +kernel), List.mem_of_getElem? (i := 776) (by decide +kernel)⟩
theorem lw_p30 : lw_okq (⟨"SneezeLightsModel", "lampsMany", "()I"⟩, 20) := ⟨⟨by decide +kernel, by decide +kernel⟩, List.mem_of_getElem? (i := 650) (by decide +kernel), List.mem_of_getElem? (i := 779) (by decide +kernel), List.mem_of_getElem? (i := 780) (by decide +kernel)⟩
theorem lw_p31 : lw_okq (⟨"SneezeLightsModel", "sumOf", "(I)I"⟩, 20) := ⟨⟨by decide +kernel, by decide +kernel⟩, List.mem_of_getElem? (i := 650) (by decide +kernel), List.mem_of_getElem? (i := 783) (by decide +kernel), List.mem_of_getElem? (i := 784) (by decide +kernel)⟩
def lw_privs_2 : List (MethodName × Nat) := [(⟨"SneezeLights$Winter", "tellPart", "(LSneezeLights$Tape;Ljava/lang/String;[II)Z"⟩, 5), (⟨"SneezeLights$Winter", "tellBook", "(LSneezeLights$Tape;LSneezeLights$Street;I)Z"⟩, 5), (⟨"SneezeLights$Winter", "tellDry", "(LSneezeLights$Tape;LSneezeLights$Street;)Z"⟩, 5), (⟨"SneezeLights$Winter", "tellLamp", "(LSneezeLights$Tape;LSneezeLights$Street;)Z"⟩, 5), (⟨"SneezeLights", "ticklesJustSo", "(IIII)Z"⟩, 8), (⟨"SneezeLightsModel", "becomes", "(II)I"⟩, 20), (⟨"SneezeLightsModel", "finds", "(I)I"⟩, 20), (⟨"SneezeLightsModel", "stands", "(II)I"⟩, 20), (⟨"SneezeLightsModel", "peopleAt", "(I)I"⟩, 20), (⟨"SneezeLightsModel", "its", "(II)I"⟩, 20), (⟨"SneezeLightsModel", "setOf", "(I)I"⟩, 20), (⟨"SneezeLightsModel", "dueSet", "()I"⟩, 20), (⟨"SneezeLightsModel", "isDue", "(I)Z"⟩, 20), (⟨"SneezeLightsModel", "holds", "(I)I"⟩, 20), (⟨"SneezeLightsModel", "lampsMany", "()I"⟩, 20), (⟨"SneezeLightsModel", "sumOf", "(I)I"⟩, 20)]
theorem lw_r2 : ∀ q ∈ lw_privs_2, lw_okq q := List.forall_mem_cons.mpr ⟨lw_p16, List.forall_mem_cons.mpr ⟨lw_p17, List.forall_mem_cons.mpr ⟨lw_p18, List.forall_mem_cons.mpr ⟨lw_p19, List.forall_mem_cons.mpr ⟨lw_p20, List.forall_mem_cons.mpr ⟨lw_p21, List.forall_mem_cons.mpr ⟨lw_p22, List.forall_mem_cons.mpr ⟨lw_p23, List.forall_mem_cons.mpr ⟨lw_p24, List.forall_mem_cons.mpr ⟨lw_p25, List.forall_mem_cons.mpr ⟨lw_p26, List.forall_mem_cons.mpr ⟨lw_p27, List.forall_mem_cons.mpr ⟨lw_p28, List.forall_mem_cons.mpr ⟨lw_p29, List.forall_mem_cons.mpr ⟨lw_p30, List.forall_mem_cons.mpr ⟨lw_p31, fun _ h => absurd h List.not_mem_nil⟩⟩⟩⟩⟩⟩⟩⟩⟩⟩⟩⟩⟩⟩⟩⟩
theorem lw_p32 : lw_okq (⟨"SneezeLightsModel", "readOfAll", "()I"⟩, 20) := ⟨⟨by decide +kernel, by decide +kernel⟩, List.mem_of_getElem? (i := 650) (by decide +kernel), List.mem_of_getElem? (i := 787) (by decide +kernel), List.mem_of_getElem? (i := 788) (by decide +kernel)⟩
theorem lw_p33 : lw_okq (⟨"SneezeLightsModel", "adds", "(IIIII)V"⟩, 20) := ⟨⟨by decide +kernel, by decide +kernel⟩, List.mem_of_getElem? (i := 650) (by decide +kernel), List.mem_of_getElem? (i := 799) (by decide +kernel), List.mem_of_getElem? (i := 800) (by decide +kernel)⟩
theorem lw_p34 : lw_okq (⟨"SneezeLightsModel", "puts", "(III)V"⟩, 20) := ⟨⟨by decide +kernel, by decide +kernel⟩, List.mem_of_getElem? (i := 650) (by decide +kernel), List.mem_of_getElem? (i := 803) (by decide +kernel), List.mem_of_getElem? (i := 804) (by decide +kernel)⟩
theorem lw_p35 : lw_okq (⟨"SneezeLightsModel", "isOne", "(I)Z"⟩, 20) := ⟨⟨by decide +kernel, by decide +kernel⟩, List.mem_of_getElem? (i := 650) (by decide +kernel), List.mem_of_getElem? (i := 811) (by decide +kernel), List.mem_of_getElem? (i := 812) (by decide +kernel)⟩
theorem lw_p36 : lw_okq (⟨"SneezeLightsModel", "tickles", "(I)I"⟩, 20) := ⟨⟨by decide +kernel, by decide +kernel⟩, List.mem_of_getElem? (i := 650) (by decide +kernel), List.mem_of_getElem? (i := 815) (by decide +kernel), List.mem_of_getElem? (i := 816) (by decide +kernel)⟩
theorem lw_p37 : lw_okq (⟨"SneezeLightsModel", "blows", "(I)I"⟩, 20) := ⟨⟨by decide +kernel, by decide +kernel⟩, List.mem_of_getElem? (i := 650) (by decide +kernel), List.mem_of_getElem? (i := 822) (by decide +kernel), List.mem_of_getElem? (i := 823) (by decide +kernel)⟩
theorem lw_p38 : lw_okq (⟨"SneezeLightsModel", "heals", "(I)I"⟩, 20) := ⟨⟨by decide +kernel, by decide +kernel⟩, List.mem_of_getElem? (i := 650) (by decide +kernel), List.mem_of_getElem? (i := 826) (by decide +kernel), List.mem_of_getElem? (i := 827) (by decide +kernel)⟩
theorem lw_p39 : lw_okq (⟨"SneezeLightsModel", "passes", "(I)V"⟩, 20) := ⟨⟨by decide +kernel, by decide +kernel⟩, List.mem_of_getElem? (i := 650) (by decide +kernel), List.mem_of_getElem? (i := 852) (by decide +kernel), List.mem_of_getElem? (i := 853) (by decide +kernel)⟩
theorem lw_p40 : lw_okq (⟨"SneezeLightsModel", "oneMinute", "()V"⟩, 20) := ⟨⟨by decide +kernel, by decide +kernel⟩, List.mem_of_getElem? (i := 650) (by decide +kernel), List.mem_of_getElem? (i := 856) (by decide +kernel), List.mem_of_getElem? (i := 857) (by decide +kernel)⟩
theorem lw_p41 : lw_okq (⟨"SneezeLightsModel", "burns", "(I)V"⟩, 20) := ⟨⟨by decide +kernel, by decide +kernel⟩, List.mem_of_getElem? (i := 650) (by decide +kernel), List.mem_of_getElem? (i := 860) (by decide +kernel), List.mem_of_getElem? (i := 861) (by decide +kernel)⟩
theorem lw_p42 : lw_okq (⟨"SneezeLightsModel", "rests", "(III)V"⟩, 20) := ⟨⟨by decide +kernel, by decide +kernel⟩, List.mem_of_getElem? (i := 650) (by decide +kernel), List.mem_of_getElem? (i := 864) (by decide +kernel), List.mem_of_getElem? (i := 865) (by decide +kernel)⟩
theorem lw_p43 : lw_okq (⟨"SneezeLightsModel", "goesOff", "(I)V"⟩, 20) := ⟨⟨by decide +kernel, by decide +kernel⟩, List.mem_of_getElem? (i := 650) (by decide +kernel), List.mem_of_getElem? (i := 868) (by decide +kernel), List.mem_of_getElem? (i := 869) (by decide +kernel)⟩
theorem lw_p44 : lw_okq (⟨"SneezeLightsModel", "lights", "(I)V"⟩, 20) := ⟨⟨by decide +kernel, by decide +kernel⟩, List.mem_of_getElem? (i := 650) (by decide +kernel), List.mem_of_getElem? (i := 872) (by decide +kernel), List.mem_of_getElem? (i := 873) (by decide +kernel)⟩
theorem lw_p45 : lw_okq (⟨"SneezeLightsModel", "catches", "(I)V"⟩, 20) := ⟨⟨by decide +kernel, by decide +kernel⟩, List.mem_of_getElem? (i := 650) (by decide +kernel), List.mem_of_getElem? (i := 876) (by decide +kernel), List.mem_of_getElem? (i := 877) (by decide +kernel)⟩
theorem lw_p46 : lw_okq (⟨"SneezeLightsModel", "moveAll", "(Z[I)V"⟩, 20) := ⟨⟨by decide +kernel, by decide +kernel⟩, List.mem_of_getElem? (i := 650) (by decide +kernel), List.mem_of_getElem? (i := 884) (by decide +kernel), List.mem_of_getElem? (i := 885) (by decide +kernel)⟩
theorem lw_p47 : lw_okq (⟨"SneezeLightsModel", "behind", "(II)I"⟩, 20) := ⟨⟨by decide +kernel, by decide +kernel⟩, List.mem_of_getElem? (i := 650) (by decide +kernel), List.mem_of_getElem? (i := 888) (by decide +kernel), List.mem_of_getElem? (i := 889) (by decide +kernel)⟩
def lw_privs_3 : List (MethodName × Nat) := [(⟨"SneezeLightsModel", "readOfAll", "()I"⟩, 20), (⟨"SneezeLightsModel", "adds", "(IIIII)V"⟩, 20), (⟨"SneezeLightsModel", "puts", "(III)V"⟩, 20), (⟨"SneezeLightsModel", "isOne", "(I)Z"⟩, 20), (⟨"SneezeLightsModel", "tickles", "(I)I"⟩, 20), (⟨"SneezeLightsModel", "blows", "(I)I"⟩, 20), (⟨"SneezeLightsModel", "heals", "(I)I"⟩, 20), (⟨"SneezeLightsModel", "passes", "(I)V"⟩, 20), (⟨"SneezeLightsModel", "oneMinute", "()V"⟩, 20), (⟨"SneezeLightsModel", "burns", "(I)V"⟩, 20), (⟨"SneezeLightsModel", "rests", "(III)V"⟩, 20), (⟨"SneezeLightsModel", "goesOff", "(I)V"⟩, 20), (⟨"SneezeLightsModel", "lights", "(I)V"⟩, 20), (⟨"SneezeLightsModel", "catches", "(I)V"⟩, 20), (⟨"SneezeLightsModel", "moveAll", "(Z[I)V"⟩, 20), (⟨"SneezeLightsModel", "behind", "(II)I"⟩, 20)]
theorem lw_r3 : ∀ q ∈ lw_privs_3, lw_okq q := List.forall_mem_cons.mpr ⟨lw_p32, List.forall_mem_cons.mpr ⟨lw_p33, List.forall_mem_cons.mpr ⟨lw_p34, List.forall_mem_cons.mpr ⟨lw_p35, List.forall_mem_cons.mpr ⟨lw_p36, List.forall_mem_cons.mpr ⟨lw_p37, List.forall_mem_cons.mpr ⟨lw_p38, List.forall_mem_cons.mpr ⟨lw_p39, List.forall_mem_cons.mpr ⟨lw_p40, List.forall_mem_cons.mpr ⟨lw_p41, List.forall_mem_cons.mpr ⟨lw_p42, List.forall_mem_cons.mpr ⟨lw_p43, List.forall_mem_cons.mpr ⟨lw_p44, List.forall_mem_cons.mpr ⟨lw_p45, List.forall_mem_cons.mpr ⟨lw_p46, List.forall_mem_cons.mpr ⟨lw_p47, fun _ h => absurd h List.not_mem_nil⟩⟩⟩⟩⟩⟩⟩⟩⟩⟩⟩⟩⟩⟩⟩⟩
theorem lw_p48 : lw_okq (⟨"SneezeLightsModel", "isLit", "(I)Z"⟩, 20) := ⟨⟨by decide +kernel, by decide +kernel⟩, List.mem_of_getElem? (i := 650) (by decide +kernel), List.mem_of_getElem? (i := 900) (by decide +kernel), List.mem_of_getElem? (i := 901) (by decide +kernel)⟩
theorem lw_p49 : lw_okq (⟨"SneezeLightsModel", "readBehind", "(I)I"⟩, 20) := ⟨⟨by decide +kernel, by decide +kernel⟩, List.mem_of_getElem? (i := 650) (by decide +kernel), List.mem_of_getElem? (i := 917) (by decide +kernel), List.mem_of_getElem? (i := 918) (by decide +kernel)⟩
theorem lw_p50 : lw_okq (⟨"SneezeLightsModel", "advance", "()V"⟩, 20) := ⟨⟨by decide +kernel, by decide +kernel⟩, List.mem_of_getElem? (i := 650) (by decide +kernel), List.mem_of_getElem? (i := 957) (by decide +kernel), List.mem_of_getElem? (i := 958) (by decide +kernel)⟩
theorem lw_p51 : lw_okq (⟨"SneezeLightsModel", "byteAt", "(I)I"⟩, 20) := ⟨⟨by decide +kernel, by decide +kernel⟩, List.mem_of_getElem? (i := 650) (by decide +kernel), List.mem_of_getElem? (i := 961) (by decide +kernel), List.mem_of_getElem? (i := 962) (by decide +kernel)⟩
theorem lw_p52 : lw_okq (⟨"SneezeLightsModel", "wantItem", "()V"⟩, 20) := ⟨⟨by decide +kernel, by decide +kernel⟩, List.mem_of_getElem? (i := 650) (by decide +kernel), List.mem_of_getElem? (i := 974) (by decide +kernel), List.mem_of_getElem? (i := 975) (by decide +kernel)⟩
theorem lw_p53 : lw_okq (⟨"SneezeLightsModel", "kindHere", "()I"⟩, 20) := ⟨⟨by decide +kernel, by decide +kernel⟩, List.mem_of_getElem? (i := 650) (by decide +kernel), List.mem_of_getElem? (i := 978) (by decide +kernel), List.mem_of_getElem? (i := 979) (by decide +kernel)⟩
theorem lw_p54 : lw_okq (⟨"SneezeLightsModel", "isWord", "(J)Z"⟩, 20) := ⟨⟨by decide +kernel, by decide +kernel⟩, List.mem_of_getElem? (i := 650) (by decide +kernel), List.mem_of_getElem? (i := 983) (by decide +kernel), List.mem_of_getElem? (i := 984) (by decide +kernel)⟩
theorem lw_p55 : lw_okq (⟨"SneezeLightsModel", "wantOne", "(I)V"⟩, 20) := ⟨⟨by decide +kernel, by decide +kernel⟩, List.mem_of_getElem? (i := 650) (by decide +kernel), List.mem_of_getElem? (i := 992) (by decide +kernel), List.mem_of_getElem? (i := 993) (by decide +kernel)⟩
theorem lw_p56 : lw_okq (⟨"SneezeLightsModel", "wantNumber", "(II)I"⟩, 20) := ⟨⟨by decide +kernel, by decide +kernel⟩, List.mem_of_getElem? (i := 650) (by decide +kernel), List.mem_of_getElem? (i := 996) (by decide +kernel), List.mem_of_getElem? (i := 997) (by decide +kernel)⟩
theorem lw_p57 : lw_okq (⟨"SneezeLightsModel", "mayWant", "(JIII)I"⟩, 20) := ⟨⟨by decide +kernel, by decide +kernel⟩, List.mem_of_getElem? (i := 650) (by decide +kernel), List.mem_of_getElem? (i := 1002) (by decide +kernel), List.mem_of_getElem? (i := 1003) (by decide +kernel)⟩
theorem lw_p58 : lw_okq (⟨"SneezeLightsModel", "wantBook", "(I)V"⟩, 20) := ⟨⟨by decide +kernel, by decide +kernel⟩, List.mem_of_getElem? (i := 650) (by decide +kernel), List.mem_of_getElem? (i := 1008) (by decide +kernel), List.mem_of_getElem? (i := 1009) (by decide +kernel)⟩
theorem lw_p59 : lw_okq (⟨"SneezeLightsModel", "wantLamp", "()V"⟩, 20) := ⟨⟨by decide +kernel, by decide +kernel⟩, List.mem_of_getElem? (i := 650) (by decide +kernel), List.mem_of_getElem? (i := 1014) (by decide +kernel), List.mem_of_getElem? (i := 1015) (by decide +kernel)⟩
theorem lw_p60 : lw_okq (⟨"SneezeLightsModel", "isPart", "(III)Z"⟩, 20) := ⟨⟨by decide +kernel, by decide +kernel⟩, List.mem_of_getElem? (i := 650) (by decide +kernel), List.mem_of_getElem? (i := 1039) (by decide +kernel), List.mem_of_getElem? (i := 1040) (by decide +kernel)⟩
theorem lw_p61 : lw_okq (⟨"SneezeLightsModel", "badSheet", "(I)I"⟩, 20) := ⟨⟨by decide +kernel, by decide +kernel⟩, List.mem_of_getElem? (i := 650) (by decide +kernel), List.mem_of_getElem? (i := 1047) (by decide +kernel), List.mem_of_getElem? (i := 1048) (by decide +kernel)⟩
theorem lw_p62 : lw_okq (⟨"SneezeLightsModel", "isSo", "(II)Z"⟩, 20) := ⟨⟨by decide +kernel, by decide +kernel⟩, List.mem_of_getElem? (i := 650) (by decide +kernel), List.mem_of_getElem? (i := 1060) (by decide +kernel), List.mem_of_getElem? (i := 1061) (by decide +kernel)⟩
def lw_privs_4 : List (MethodName × Nat) := [(⟨"SneezeLightsModel", "isLit", "(I)Z"⟩, 20), (⟨"SneezeLightsModel", "readBehind", "(I)I"⟩, 20), (⟨"SneezeLightsModel", "advance", "()V"⟩, 20), (⟨"SneezeLightsModel", "byteAt", "(I)I"⟩, 20), (⟨"SneezeLightsModel", "wantItem", "()V"⟩, 20), (⟨"SneezeLightsModel", "kindHere", "()I"⟩, 20), (⟨"SneezeLightsModel", "isWord", "(J)Z"⟩, 20), (⟨"SneezeLightsModel", "wantOne", "(I)V"⟩, 20), (⟨"SneezeLightsModel", "wantNumber", "(II)I"⟩, 20), (⟨"SneezeLightsModel", "mayWant", "(JIII)I"⟩, 20), (⟨"SneezeLightsModel", "wantBook", "(I)V"⟩, 20), (⟨"SneezeLightsModel", "wantLamp", "()V"⟩, 20), (⟨"SneezeLightsModel", "isPart", "(III)Z"⟩, 20), (⟨"SneezeLightsModel", "badSheet", "(I)I"⟩, 20), (⟨"SneezeLightsModel", "isSo", "(II)Z"⟩, 20)]
theorem lw_r4 : ∀ q ∈ lw_privs_4, lw_okq q := List.forall_mem_cons.mpr ⟨lw_p48, List.forall_mem_cons.mpr ⟨lw_p49, List.forall_mem_cons.mpr ⟨lw_p50, List.forall_mem_cons.mpr ⟨lw_p51, List.forall_mem_cons.mpr ⟨lw_p52, List.forall_mem_cons.mpr ⟨lw_p53, List.forall_mem_cons.mpr ⟨lw_p54, List.forall_mem_cons.mpr ⟨lw_p55, List.forall_mem_cons.mpr ⟨lw_p56, List.forall_mem_cons.mpr ⟨lw_p57, List.forall_mem_cons.mpr ⟨lw_p58, List.forall_mem_cons.mpr ⟨lw_p59, List.forall_mem_cons.mpr ⟨lw_p60, List.forall_mem_cons.mpr ⟨lw_p61, List.forall_mem_cons.mpr ⟨lw_p62, fun _ h => absurd h List.not_mem_nil⟩⟩⟩⟩⟩⟩⟩⟩⟩⟩⟩⟩⟩⟩⟩
def lw_privs : List (MethodName × Nat) := lw_privs_1 ++ (lw_privs_2 ++ (lw_privs_3 ++ (lw_privs_4)))
def lw_tbl : List Cond := k2_sels lw_privs ++ tables_1
theorem lw_privs_ok : ∀ q ∈ lw_privs, lw_okq q := by
  show ∀ q ∈ lw_privs_1 ++ (lw_privs_2 ++ (lw_privs_3 ++ (lw_privs_4))), lw_okq q
  exact List.forall_mem_append.mpr ⟨lw_r1, List.forall_mem_append.mpr ⟨lw_r2, List.forall_mem_append.mpr ⟨lw_r3, lw_r4⟩⟩⟩
end
section
def RX0 : String := "SneezeLights$Sheets"
def TX0 : u_T := fun k => match k with
  | 0 => ("SneezeLights$Sheets", "widths", "[I", true)
  | 1 => ("SneezeLights$Sheets", "sizes", "[I", true)
  | _ => ("SneezeLights$Sheets", "numbers", "[J", true)
def tyX0 : Nat → FieldType := fun k => match k with
  | 0 => .array .int
  | 1 => .array .int
  | _ => .array .long
theorem nmX0 : ∀ a, a < 3 → ∀ b, b < 3 → a ≠ b → (TX0 a).2.1 ≠ (TX0 b).2.1 := by decide +kernel
theorem tyX0_ok : ∀ k, k < 3 → parseFieldDescriptor (TX0 k).2.2.1 = some (tyX0 k) := by decide +kernel
abbrev cX0_init : ByteArray := prog_2_method_1_code
def yX0_init : MethodName := ⟨RX0, "<init>", "()V"⟩
abbrev cX0_lay : ByteArray := prog_2_method_2_code
def yX0_lay : MethodName := ⟨RX0, "lay", "(III)V"⟩
abbrev cX0_isMissing : ByteArray := prog_2_method_3_code
def yX0_isMissing : MethodName := ⟨RX0, "isMissing", "(I)Z"⟩
abbrev cX0_number : ByteArray := prog_2_method_4_code
def yX0_number : MethodName := ⟨RX0, "number", "(II)J"⟩
abbrev cX0_put : ByteArray := prog_2_method_5_code
def yX0_put : MethodName := ⟨RX0, "put", "(IIJ)V"⟩
abbrev cX0_cut : ByteArray := prog_2_method_6_code
def yX0_cut : MethodName := ⟨RX0, "cut", "(JI)J"⟩
abbrev cX0_hasRun : ByteArray := prog_2_method_7_code
def yX0_hasRun : MethodName := ⟨RX0, "hasRun", "(III)Z"⟩
abbrev cX0_move : ByteArray := prog_2_method_8_code
def yX0_move : MethodName := ⟨RX0, "move", "(IIIII)V"⟩
def RX1 : String := "SneezeLights$Street"
def TX1 : u_T := fun k => match k with
  | 0 => ("SneezeLights$Street", "minute", "I", false)
  | 1 => ("SneezeLights$Street", "dryness", "I", false)
  | 2 => ("SneezeLights$Street", "lamps", "[I", true)
  | 3 => ("SneezeLights$Street", "books", "[I", true)
  | 4 => ("SneezeLights$Street", "minutesRead", "[I", true)
  | 5 => ("SneezeLights$Street", "sneezers", "I", false)
  | 6 => ("SneezeLights$Street", "kinds", "[I", true)
  | 7 => ("SneezeLights$Street", "at", "[I", true)
  | 8 => ("SneezeLights$Street", "faces", "[I", true)
  | 9 => ("SneezeLights$Street", "colds", "[I", true)
  | 10 => ("SneezeLights$Street", "tickle", "[I", true)
  | 11 => ("SneezeLights$Street", "goneOff", "[I", true)
  | _ => ("SneezeLights$Street", "wentOff", "I", false)
def tyX1 : Nat → FieldType := fun k => match k with
  | 0 => .int
  | 1 => .int
  | 2 => .array .int
  | 3 => .array .int
  | 4 => .array .int
  | 5 => .int
  | 6 => .array .int
  | 7 => .array .int
  | 8 => .array .int
  | 9 => .array .int
  | 10 => .array .int
  | 11 => .array .int
  | _ => .int
theorem nmX1 : ∀ a, a < 13 → ∀ b, b < 13 → a ≠ b → (TX1 a).2.1 ≠ (TX1 b).2.1 := by decide +kernel
theorem tyX1_ok : ∀ k, k < 13 → parseFieldDescriptor (TX1 k).2.2.1 = some (tyX1 k) := by decide +kernel
abbrev cX1_init : ByteArray := prog_3_method_1_code
def yX1_init : MethodName := ⟨RX1, "<init>", "()V"⟩
abbrev cX1_become : ByteArray := prog_3_method_2_code
def yX1_become : MethodName := ⟨RX1, "become", "(LSneezeLights$Street;)V"⟩
abbrev cX1_addOne : ByteArray := prog_3_method_3_code
def yX1_addOne : MethodName := ⟨RX1, "addOne", "(II)I"⟩
abbrev cX1_houseRow : ByteArray := prog_3_method_4_code
def yX1_houseRow : MethodName := ⟨RX1, "houseRow", "(I)[I"⟩
abbrev cX1_sneezerRow : ByteArray := prog_3_method_5_code
def yX1_sneezerRow : MethodName := ⟨RX1, "sneezerRow", "(I)[I"⟩
abbrev cX1_burns : ByteArray := prog_3_method_6_code
def yX1_burns : MethodName := ⟨RX1, "burns", "(I)Z"⟩
abbrev cX1_burning : ByteArray := prog_3_method_7_code
def yX1_burning : MethodName := ⟨RX1, "burning", "()I"⟩
abbrev cX1_lampsBurning : ByteArray := prog_3_method_8_code
def yX1_lampsBurning : MethodName := ⟨RX1, "lampsBurning", "()I"⟩
abbrev cX1_openBooks : ByteArray := prog_3_method_9_code
def yX1_openBooks : MethodName := ⟨RX1, "openBooks", "()I"⟩
abbrev cX1_whoIsAt : ByteArray := prog_3_method_10_code
def yX1_whoIsAt : MethodName := ⟨RX1, "whoIsAt", "(I)I"⟩
abbrev cX1_readOfAll : ByteArray := prog_3_method_11_code
def yX1_readOfAll : MethodName := ⟨RX1, "readOfAll", "()I"⟩
abbrev cX1_coldOfAll : ByteArray := prog_3_method_12_code
def yX1_coldOfAll : MethodName := ⟨RX1, "coldOfAll", "()I"⟩
abbrev cX1_goneOffOfAll : ByteArray := prog_3_method_13_code
def yX1_goneOffOfAll : MethodName := ⟨RX1, "goneOffOfAll", "()I"⟩
abbrev cX1_ticklesOf : ByteArray := prog_3_method_14_code
def yX1_ticklesOf : MethodName := ⟨RX1, "ticklesOf", "(I)I"⟩
abbrev cX1_holdsOf : ByteArray := prog_3_method_15_code
def yX1_holdsOf : MethodName := ⟨RX1, "holdsOf", "(I)I"⟩
abbrev cX1_blowsOf : ByteArray := prog_3_method_16_code
def yX1_blowsOf : MethodName := ⟨RX1, "blowsOf", "(I)I"⟩
abbrev cX1_healsOf : ByteArray := prog_3_method_17_code
def yX1_healsOf : MethodName := ⟨RX1, "healsOf", "(I)I"⟩
abbrev cX1_ready : ByteArray := prog_3_method_18_code
def yX1_ready : MethodName := ⟨RX1, "ready", "()I"⟩
abbrev cX1_goMinutes : ByteArray := prog_3_method_19_code
def yX1_goMinutes : MethodName := ⟨RX1, "goMinutes", "(I)V"⟩
abbrev cX1_goMinute : ByteArray := prog_3_method_20_code
def yX1_goMinute : MethodName := ⟨RX1, "goMinute", "()V"⟩
abbrev cX1_burnLamps : ByteArray := prog_3_method_21_code
def yX1_burnLamps : MethodName := ⟨RX1, "burnLamps", "()V"⟩
abbrev cX1_tickleAll : ByteArray := prog_3_method_22_code
def yX1_tickleAll : MethodName := ⟨RX1, "tickleAll", "()V"⟩
abbrev cX1_goOff : ByteArray := prog_3_method_23_code
def yX1_goOff : MethodName := ⟨RX1, "goOff", "(I)V"⟩
abbrev cX1_lightBefore : ByteArray := prog_3_method_24_code
def yX1_lightBefore : MethodName := ⟨RX1, "lightBefore", "(I)V"⟩
abbrev cX1_giveCold : ByteArray := prog_3_method_25_code
def yX1_giveCold : MethodName := ⟨RX1, "giveCold", "(I)V"⟩
abbrev cX1_healAll : ByteArray := prog_3_method_26_code
def yX1_healAll : MethodName := ⟨RX1, "healAll", "()V"⟩
def RX2 : String := "SneezeLights$Tape"
def TX2 : u_T := fun k => match k with
  | 0 => ("SneezeLights$Tape", "bytes", "[I", true)
  | _ => ("SneezeLights$Tape", "length", "I", false)
def tyX2 : Nat → FieldType := fun k => match k with
  | 0 => .array .int
  | _ => .int
theorem nmX2 : ∀ a, a < 2 → ∀ b, b < 2 → a ≠ b → (TX2 a).2.1 ≠ (TX2 b).2.1 := by decide +kernel
theorem tyX2_ok : ∀ k, k < 2 → parseFieldDescriptor (TX2 k).2.2.1 = some (tyX2 k) := by decide +kernel
abbrev cX2_init : ByteArray := prog_4_method_1_code
def yX2_init : MethodName := ⟨RX2, "<init>", "()V"⟩
abbrev cX2_addByte : ByteArray := prog_4_method_2_code
def yX2_addByte : MethodName := ⟨RX2, "addByte", "(I)V"⟩
abbrev cX2_byteAt : ByteArray := prog_4_method_3_code
def yX2_byteAt : MethodName := ⟨RX2, "byteAt", "(I)I"⟩
def RX3 : String := "SneezeLights$Winter"
def TX3 : u_T := fun k => match k with
  | 0 => ("SneezeLights$Winter", "items", "I", false)
  | 1 => ("SneezeLights$Winter", "start", "I", false)
  | 2 => ("SneezeLights$Winter", "end", "I", false)
  | 3 => ("SneezeLights$Winter", "token", "I", false)
  | _ => ("SneezeLights$Winter", "value", "I", false)
def tyX3 : Nat → FieldType := fun k => match k with
  | 0 => .int
  | 1 => .int
  | 2 => .int
  | 3 => .int
  | _ => .int
theorem nmX3 : ∀ a, a < 5 → ∀ b, b < 5 → a ≠ b → (TX3 a).2.1 ≠ (TX3 b).2.1 := by decide +kernel
theorem tyX3_ok : ∀ k, k < 5 → parseFieldDescriptor (TX3 k).2.2.1 = some (tyX3 k) := by decide +kernel
abbrev cX3_init : ByteArray := prog_5_method_1_code
def yX3_init : MethodName := ⟨RX3, "<init>", "()V"⟩
abbrev cX3_tellAll : ByteArray := prog_5_method_2_code
def yX3_tellAll : MethodName := ⟨RX3, "tellAll", "(LSneezeLights$Tape;LSneezeLights$Street;)Z"⟩
abbrev cX3_tellItem : ByteArray := prog_5_method_3_code
def yX3_tellItem : MethodName := ⟨RX3, "tellItem", "(LSneezeLights$Tape;LSneezeLights$Street;)Z"⟩
abbrev cX3_tellSneezer : ByteArray := prog_5_method_4_code
def yX3_tellSneezer : MethodName := ⟨RX3, "tellSneezer", "(LSneezeLights$Tape;LSneezeLights$Street;I)Z"⟩
abbrev cX3_tellPart : ByteArray := prog_5_method_5_code
def yX3_tellPart : MethodName := ⟨RX3, "tellPart", "(LSneezeLights$Tape;Ljava/lang/String;[II)Z"⟩
abbrev cX3_tellBook : ByteArray := prog_5_method_6_code
def yX3_tellBook : MethodName := ⟨RX3, "tellBook", "(LSneezeLights$Tape;LSneezeLights$Street;I)Z"⟩
abbrev cX3_tellDry : ByteArray := prog_5_method_7_code
def yX3_tellDry : MethodName := ⟨RX3, "tellDry", "(LSneezeLights$Tape;LSneezeLights$Street;)Z"⟩
abbrev cX3_tellLamp : ByteArray := prog_5_method_8_code
def yX3_tellLamp : MethodName := ⟨RX3, "tellLamp", "(LSneezeLights$Tape;LSneezeLights$Street;)Z"⟩
abbrev cX3_nameOfKind : ByteArray := prog_5_method_9_code
def yX3_nameOfKind : MethodName := ⟨RX3, "nameOfKind", "(I)Ljava/lang/String;"⟩
abbrev cX3_isNumber : ByteArray := prog_5_method_10_code
def yX3_isNumber : MethodName := ⟨RX3, "isNumber", "(I)Z"⟩
abbrev cX3_isWord : ByteArray := prog_5_method_11_code
def yX3_isWord : MethodName := ⟨RX3, "isWord", "(LSneezeLights$Tape;Ljava/lang/String;)Z"⟩
abbrev cX3_step : ByteArray := prog_5_method_12_code
def yX3_step : MethodName := ⟨RX3, "step", "(LSneezeLights$Tape;)V"⟩
abbrev cX3_isLetter : ByteArray := prog_5_method_13_code
def yX3_isLetter : MethodName := ⟨RX3, "isLetter", "(I)Z"⟩
abbrev cX3_isDigit : ByteArray := prog_5_method_14_code
def yX3_isDigit : MethodName := ⟨RX3, "isDigit", "(I)Z"⟩
def RX4 : String := "SneezeLights"
def TX4 : u_T := fun k => match k with
  | 0 => ("SneezeLights", "street", "LSneezeLights$Street;", true)
  | 1 => ("SneezeLights", "trial", "LSneezeLights$Street;", true)
  | 2 => ("SneezeLights", "kept", "LSneezeLights$Street;", true)
  | 3 => ("SneezeLights", "tape", "LSneezeLights$Tape;", true)
  | 4 => ("SneezeLights", "text", "LSneezeLights$Winter;", true)
  | 5 => ("SneezeLights", "sheets", "LSneezeLights$Sheets;", true)
  | 6 => ("SneezeLights", "findings", "[I", true)
  | _ => ("SneezeLights", "isKept", "Z", false)
def tyX4 : Nat → FieldType := fun k => match k with
  | 0 => .object "SneezeLights$Street"
  | 1 => .object "SneezeLights$Street"
  | 2 => .object "SneezeLights$Street"
  | 3 => .object "SneezeLights$Tape"
  | 4 => .object "SneezeLights$Winter"
  | 5 => .object "SneezeLights$Sheets"
  | 6 => .array .int
  | _ => .boolean
theorem nmX4 : ∀ a, a < 8 → ∀ b, b < 8 → a ≠ b → (TX4 a).2.1 ≠ (TX4 b).2.1 := by decide +kernel
theorem tyX4_ok : ∀ k, k < 8 → parseFieldDescriptor (TX4 k).2.2.1 = some (tyX4 k) := by decide +kernel
abbrev cX4_init : ByteArray := prog_1_method_1_code
def yX4_init : MethodName := ⟨RX4, "<init>", "()V"⟩
abbrev cX4_house : ByteArray := prog_1_method_2_code
def yX4_house : MethodName := ⟨RX4, "house", "(III)I"⟩
abbrev cX4_houseOf : ByteArray := prog_1_method_3_code
def yX4_houseOf : MethodName := ⟨RX4, "houseOf", "(II)I"⟩
abbrev cX4_dry : ByteArray := prog_1_method_4_code
def yX4_dry : MethodName := ⟨RX4, "dry", "(I)I"⟩
abbrev cX4_now : ByteArray := prog_1_method_5_code
def yX4_now : MethodName := ⟨RX4, "now", "(I)I"⟩
abbrev cX4_sneezer : ByteArray := prog_1_method_6_code
def yX4_sneezer : MethodName := ⟨RX4, "sneezer", "(II)I"⟩
abbrev cX4_of : ByteArray := prog_1_method_7_code
def yX4_of : MethodName := ⟨RX4, "of", "(II)I"⟩
abbrev cX4_set : ByteArray := prog_1_method_8_code
def yX4_set : MethodName := ⟨RX4, "set", "(III)I"⟩
abbrev cX4_turn : ByteArray := prog_1_method_9_code
def yX4_turn : MethodName := ⟨RX4, "turn", "(II)I"⟩
abbrev cX4_as : ByteArray := prog_1_method_10_code
def yX4_as : MethodName := ⟨RX4, "as", "(II)I"⟩
abbrev cX4_minutes : ByteArray := prog_1_method_11_code
def yX4_minutes : MethodName := ⟨RX4, "minutes", "(I)I"⟩
abbrev cX4_on : ByteArray := prog_1_method_12_code
def yX4_on : MethodName := ⟨RX4, "on", "(III)I"⟩
abbrev cX4_then : ByteArray := prog_1_method_13_code
def yX4_then : MethodName := ⟨RX4, "then", "(III)I"⟩
abbrev cX4_lit : ByteArray := prog_1_method_14_code
def yX4_lit : MethodName := ⟨RX4, "lit", "(II)I"⟩
abbrev cX4_goes : ByteArray := prog_1_method_15_code
def yX4_goes : MethodName := ⟨RX4, "goes", "(I)I"⟩
abbrev cX4_well : ByteArray := prog_1_method_16_code
def yX4_well : MethodName := ⟨RX4, "well", "()I"⟩
abbrev cX4_feather : ByteArray := prog_1_method_17_code
def yX4_feather : MethodName := ⟨RX4, "feather", "(I)I"⟩
abbrev cX4_seat : ByteArray := prog_1_method_18_code
def yX4_seat : MethodName := ⟨RX4, "seat", "(II)I"⟩
abbrev cX4_kind : ByteArray := prog_1_method_19_code
def yX4_kind : MethodName := ⟨RX4, "kind", "(II)I"⟩
abbrev cX4_driest : ByteArray := prog_1_method_20_code
def yX4_driest : MethodName := ⟨RX4, "driest", "(II)I"⟩
abbrev cX4_needs : ByteArray := prog_1_method_21_code
def yX4_needs : MethodName := ⟨RX4, "needs", "(III)I"⟩
abbrev cX4_dear : ByteArray := prog_1_method_22_code
def yX4_dear : MethodName := ⟨RX4, "dear", "(I)I"⟩
abbrev cX4_open : ByteArray := prog_1_method_23_code
def yX4_open : MethodName := ⟨RX4, "open", "(I)I"⟩
abbrev cX4_feed : ByteArray := prog_1_method_24_code
def yX4_feed : MethodName := ⟨RX4, "feed", "(II)I"⟩
abbrev cX4_wipe : ByteArray := prog_1_method_25_code
def yX4_wipe : MethodName := ⟨RX4, "wipe", "()I"⟩
abbrev cX4_winter : ByteArray := prog_1_method_26_code
def yX4_winter : MethodName := ⟨RX4, "winter", "()I"⟩
abbrev cX4_sheet : ByteArray := prog_1_method_27_code
def yX4_sheet : MethodName := ⟨RX4, "sheet", "(III)I"⟩
abbrev cX4_write : ByteArray := prog_1_method_28_code
def yX4_write : MethodName := ⟨RX4, "write", "(IIJ)J"⟩
abbrev cX4_copy : ByteArray := prog_1_method_29_code
def yX4_copy : MethodName := ⟨RX4, "copy", "(IIIII)I"⟩
abbrev cX4_lays : ByteArray := prog_1_method_30_code
def yX4_lays : MethodName := ⟨RX4, "lays", "(I)I"⟩
abbrev cX4_book : ByteArray := prog_1_method_31_code
def yX4_book : MethodName := ⟨RX4, "book", "(II)I"⟩
abbrev cX4_read : ByteArray := prog_1_method_32_code
def yX4_read : MethodName := ⟨RX4, "read", "(II)I"⟩
abbrev cX4_image : ByteArray := prog_1_method_33_code
def yX4_image : MethodName := ⟨RX4, "image", "()I"⟩
abbrev cX4_undo : ByteArray := prog_1_method_34_code
def yX4_undo : MethodName := ⟨RX4, "undo", "()I"⟩
abbrev cX4_tear : ByteArray := prog_1_method_35_code
def yX4_tear : MethodName := ⟨RX4, "tear", "()I"⟩
abbrev cX4_count : ByteArray := prog_1_method_36_code
def yX4_count : MethodName := ⟨RX4, "count", "(I)I"⟩
abbrev cX4_status : ByteArray := prog_1_method_37_code
def yX4_status : MethodName := ⟨RX4, "status", "(I)I"⟩
abbrev cX4_tell : ByteArray := prog_1_method_38_code
def yX4_tell : MethodName := ⟨RX4, "tell", "(I)I"⟩
abbrev cX4_startTrial : ByteArray := prog_1_method_39_code
def yX4_startTrial : MethodName := ⟨RX4, "startTrial", "()V"⟩
abbrev cX4_brightest : ByteArray := prog_1_method_40_code
def yX4_brightest : MethodName := ⟨RX4, "brightest", "(IIII)I"⟩
abbrev cX4_choose : ByteArray := prog_1_method_41_code
def yX4_choose : MethodName := ⟨RX4, "choose", "(III)V"⟩
abbrev cX4_ticklesJustSo : ByteArray := prog_1_method_42_code
def yX4_ticklesJustSo : MethodName := ⟨RX4, "ticklesJustSo", "(IIII)Z"⟩
abbrev cX4_isThere : ByteArray := prog_1_method_43_code
def yX4_isThere : MethodName := ⟨RX4, "isThere", "(I)Z"⟩
abbrev cX4_within : ByteArray := prog_1_method_44_code
def yX4_within : MethodName := ⟨RX4, "within", "(III)Z"⟩
abbrev cX4_isHouse : ByteArray := prog_1_method_45_code
def yX4_isHouse : MethodName := ⟨RX4, "isHouse", "(I)Z"⟩
abbrev cX4_isKind : ByteArray := prog_1_method_46_code
def yX4_isKind : MethodName := ⟨RX4, "isKind", "(I)Z"⟩
abbrev cX4_isSheet : ByteArray := prog_1_method_47_code
def yX4_isSheet : MethodName := ⟨RX4, "isSheet", "(I)Z"⟩
abbrev cX4_isWidth : ByteArray := prog_1_method_48_code
def yX4_isWidth : MethodName := ⟨RX4, "isWidth", "(I)Z"⟩
abbrev cX4_isIn : ByteArray := prog_1_method_49_code
def yX4_isIn : MethodName := ⟨RX4, "isIn", "(II)Z"⟩
abbrev cX4_isUnder : ByteArray := prog_1_method_50_code
def yX4_isUnder : MethodName := ⟨RX4, "isUnder", "(II)Z"⟩
abbrev cX4_mostOfHouse : ByteArray := prog_1_method_51_code
def yX4_mostOfHouse : MethodName := ⟨RX4, "mostOfHouse", "(I)I"⟩
abbrev cX4_mostOfSneezer : ByteArray := prog_1_method_52_code
def yX4_mostOfSneezer : MethodName := ⟨RX4, "mostOfSneezer", "(I)I"⟩
def RX5 : String := "SneezeLightsModel"
def TX5 : u_T := fun k => match k with
  | 0 => ("SneezeLightsModel", "row", "[I", true)
  | 1 => ("SneezeLightsModel", "found", "[I", true)
  | 2 => ("SneezeLightsModel", "off", "I", false)
  | 3 => ("SneezeLightsModel", "tried", "[I", true)
  | 4 => ("SneezeLightsModel", "before1", "[I", true)
  | 5 => ("SneezeLightsModel", "tape", "[I", true)
  | 6 => ("SneezeLightsModel", "tapeMany", "I", false)
  | 7 => ("SneezeLightsModel", "sort", "I", false)
  | 8 => ("SneezeLightsModel", "begins", "I", false)
  | 9 => ("SneezeLightsModel", "tokenEnds", "I", false)
  | 10 => ("SneezeLightsModel", "word", "J", false)
  | 11 => ("SneezeLightsModel", "value", "I", false)
  | 12 => ("SneezeLightsModel", "good", "Z", false)
  | 13 => ("SneezeLightsModel", "bitsOf", "[I", true)
  | 14 => ("SneezeLightsModel", "sizeOf", "[I", true)
  | 15 => ("SneezeLightsModel", "sheets", "[J", true)
  | 16 => ("SneezeLightsModel", "lent", "[J", true)
  | 17 => ("SneezeLightsModel", "image", "[I", true)
  | 18 => ("SneezeLightsModel", "before", "[I", true)
  | _ => ("SneezeLightsModel", "isKept", "Z", false)
def tyX5 : Nat → FieldType := fun k => match k with
  | 0 => .array .int
  | 1 => .array .int
  | 2 => .int
  | 3 => .array .int
  | 4 => .array .int
  | 5 => .array .int
  | 6 => .int
  | 7 => .int
  | 8 => .int
  | 9 => .int
  | 10 => .long
  | 11 => .int
  | 12 => .boolean
  | 13 => .array .int
  | 14 => .array .int
  | 15 => .array .long
  | 16 => .array .long
  | 17 => .array .int
  | 18 => .array .int
  | _ => .boolean
theorem nmX5 : ∀ a, a < 20 → ∀ b, b < 20 → a ≠ b → (TX5 a).2.1 ≠ (TX5 b).2.1 := by decide +kernel
theorem tyX5_ok : ∀ k, k < 20 → parseFieldDescriptor (TX5 k).2.2.1 = some (tyX5 k) := by decide +kernel
abbrev cX5_init : ByteArray := prog_7_method_1_code
def yX5_init : MethodName := ⟨RX5, "<init>", "()V"⟩
abbrev cX5_in : ByteArray := prog_7_method_2_code
def yX5_in : MethodName := ⟨RX5, "in", "(III)Z"⟩
abbrev cX5_finds : ByteArray := prog_7_method_3_code
def yX5_finds : MethodName := ⟨RX5, "finds", "(I)I"⟩
abbrev cX5_held : ByteArray := prog_7_method_4_code
def yX5_held : MethodName := ⟨RX5, "held", "(III)I"⟩
abbrev cX5_its : ByteArray := prog_7_method_5_code
def yX5_its : MethodName := ⟨RX5, "its", "(II)I"⟩
abbrev cX5_puts : ByteArray := prog_7_method_6_code
def yX5_puts : MethodName := ⟨RX5, "puts", "(III)V"⟩
abbrev cX5_stands : ByteArray := prog_7_method_7_code
def yX5_stands : MethodName := ⟨RX5, "stands", "(II)I"⟩
abbrev cX5_rests : ByteArray := prog_7_method_8_code
def yX5_rests : MethodName := ⟨RX5, "rests", "(III)V"⟩
abbrev cX5_becomes : ByteArray := prog_7_method_9_code
def yX5_becomes : MethodName := ⟨RX5, "becomes", "(II)I"⟩
abbrev cX5_isOne : ByteArray := prog_7_method_10_code
def yX5_isOne : MethodName := ⟨RX5, "isOne", "(I)Z"⟩
abbrev cX5_isHouse : ByteArray := prog_7_method_11_code
def yX5_isHouse : MethodName := ⟨RX5, "isHouse", "(I)Z"⟩
abbrev cX5_isKind : ByteArray := prog_7_method_12_code
def yX5_isKind : MethodName := ⟨RX5, "isKind", "(I)Z"⟩
abbrev cX5_setOf : ByteArray := prog_7_method_13_code
def yX5_setOf : MethodName := ⟨RX5, "setOf", "(I)I"⟩
abbrev cX5_lampsMany : ByteArray := prog_7_method_14_code
def yX5_lampsMany : MethodName := ⟨RX5, "lampsMany", "()I"⟩
abbrev cX5_readOfAll : ByteArray := prog_7_method_15_code
def yX5_readOfAll : MethodName := ⟨RX5, "readOfAll", "()I"⟩
abbrev cX5_tickles : ByteArray := prog_7_method_16_code
def yX5_tickles : MethodName := ⟨RX5, "tickles", "(I)I"⟩
abbrev cX5_holds : ByteArray := prog_7_method_17_code
def yX5_holds : MethodName := ⟨RX5, "holds", "(I)I"⟩
abbrev cX5_blows : ByteArray := prog_7_method_18_code
def yX5_blows : MethodName := ⟨RX5, "blows", "(I)I"⟩
abbrev cX5_heals : ByteArray := prog_7_method_19_code
def yX5_heals : MethodName := ⟨RX5, "heals", "(I)I"⟩
abbrev cX5_isDue : ByteArray := prog_7_method_20_code
def yX5_isDue : MethodName := ⟨RX5, "isDue", "(I)Z"⟩
abbrev cX5_dueSet : ByteArray := prog_7_method_21_code
def yX5_dueSet : MethodName := ⟨RX5, "dueSet", "()I"⟩
abbrev cX5_sumOf : ByteArray := prog_7_method_22_code
def yX5_sumOf : MethodName := ⟨RX5, "sumOf", "(I)I"⟩
abbrev cX5_mostOf : ByteArray := prog_7_method_23_code
def yX5_mostOf : MethodName := ⟨RX5, "mostOf", "(I)I"⟩
abbrev cX5_house : ByteArray := prog_7_method_24_code
def yX5_house : MethodName := ⟨RX5, "house", "(III)I"⟩
abbrev cX5_peopleAt : ByteArray := prog_7_method_25_code
def yX5_peopleAt : MethodName := ⟨RX5, "peopleAt", "(I)I"⟩
abbrev cX5_houseOf : ByteArray := prog_7_method_26_code
def yX5_houseOf : MethodName := ⟨RX5, "houseOf", "(II)I"⟩
abbrev cX5_dry : ByteArray := prog_7_method_27_code
def yX5_dry : MethodName := ⟨RX5, "dry", "(I)I"⟩
abbrev cX5_now : ByteArray := prog_7_method_28_code
def yX5_now : MethodName := ⟨RX5, "now", "(I)I"⟩
abbrev cX5_adds : ByteArray := prog_7_method_29_code
def yX5_adds : MethodName := ⟨RX5, "adds", "(IIIII)V"⟩
abbrev cX5_sneezer : ByteArray := prog_7_method_30_code
def yX5_sneezer : MethodName := ⟨RX5, "sneezer", "(II)I"⟩
abbrev cX5_of : ByteArray := prog_7_method_31_code
def yX5_of : MethodName := ⟨RX5, "of", "(II)I"⟩
abbrev cX5_isPart : ByteArray := prog_7_method_32_code
def yX5_isPart : MethodName := ⟨RX5, "isPart", "(II)Z"⟩
abbrev cX5_set : ByteArray := prog_7_method_33_code
def yX5_set : MethodName := ⟨RX5, "set", "(III)I"⟩
abbrev cX5_turn : ByteArray := prog_7_method_34_code
def yX5_turn : MethodName := ⟨RX5, "turn", "(II)I"⟩
abbrev cX5_as : ByteArray := prog_7_method_35_code
def yX5_as : MethodName := ⟨RX5, "as", "(II)I"⟩
abbrev cX5_burns : ByteArray := prog_7_method_36_code
def yX5_burns : MethodName := ⟨RX5, "burns", "(I)V"⟩
abbrev cX5_lights : ByteArray := prog_7_method_37_code
def yX5_lights : MethodName := ⟨RX5, "lights", "(I)V"⟩
abbrev cX5_catches : ByteArray := prog_7_method_38_code
def yX5_catches : MethodName := ⟨RX5, "catches", "(I)V"⟩
abbrev cX5_goesOff : ByteArray := prog_7_method_39_code
def yX5_goesOff : MethodName := ⟨RX5, "goesOff", "(I)V"⟩
abbrev cX5_oneMinute : ByteArray := prog_7_method_40_code
def yX5_oneMinute : MethodName := ⟨RX5, "oneMinute", "()V"⟩
abbrev cX5_passes : ByteArray := prog_7_method_41_code
def yX5_passes : MethodName := ⟨RX5, "passes", "(I)V"⟩
abbrev cX5_minutes : ByteArray := prog_7_method_42_code
def yX5_minutes : MethodName := ⟨RX5, "minutes", "(I)I"⟩
abbrev cX5_behind : ByteArray := prog_7_method_43_code
def yX5_behind : MethodName := ⟨RX5, "behind", "(II)I"⟩
abbrev cX5_on : ByteArray := prog_7_method_44_code
def yX5_on : MethodName := ⟨RX5, "on", "(III)I"⟩
abbrev cX5_then : ByteArray := prog_7_method_45_code
def yX5_then : MethodName := ⟨RX5, "then", "(III)I"⟩
abbrev cX5_isLit : ByteArray := prog_7_method_46_code
def yX5_isLit : MethodName := ⟨RX5, "isLit", "(I)Z"⟩
abbrev cX5_lit : ByteArray := prog_7_method_47_code
def yX5_lit : MethodName := ⟨RX5, "lit", "(II)I"⟩
abbrev cX5_goes : ByteArray := prog_7_method_48_code
def yX5_goes : MethodName := ⟨RX5, "goes", "(I)I"⟩
abbrev cX5_well : ByteArray := prog_7_method_49_code
def yX5_well : MethodName := ⟨RX5, "well", "()I"⟩
abbrev cX5_readBehind : ByteArray := prog_7_method_50_code
def yX5_readBehind : MethodName := ⟨RX5, "readBehind", "(I)I"⟩
abbrev cX5_feather : ByteArray := prog_7_method_51_code
def yX5_feather : MethodName := ⟨RX5, "feather", "(I)I"⟩
abbrev cX5_seat : ByteArray := prog_7_method_52_code
def yX5_seat : MethodName := ⟨RX5, "seat", "(II)I"⟩
abbrev cX5_kind : ByteArray := prog_7_method_53_code
def yX5_kind : MethodName := ⟨RX5, "kind", "(II)I"⟩
abbrev cX5_driest : ByteArray := prog_7_method_54_code
def yX5_driest : MethodName := ⟨RX5, "driest", "(II)I"⟩
abbrev cX5_needs : ByteArray := prog_7_method_55_code
def yX5_needs : MethodName := ⟨RX5, "needs", "(III)I"⟩
abbrev cX5_dear : ByteArray := prog_7_method_56_code
def yX5_dear : MethodName := ⟨RX5, "dear", "(I)I"⟩
abbrev cX5_open : ByteArray := prog_7_method_57_code
def yX5_open : MethodName := ⟨RX5, "open", "(I)I"⟩
abbrev cX5_feed : ByteArray := prog_7_method_58_code
def yX5_feed : MethodName := ⟨RX5, "feed", "(II)I"⟩
abbrev cX5_wipe : ByteArray := prog_7_method_59_code
def yX5_wipe : MethodName := ⟨RX5, "wipe", "()I"⟩
abbrev cX5_byteAt : ByteArray := prog_7_method_60_code
def yX5_byteAt : MethodName := ⟨RX5, "byteAt", "(I)I"⟩
abbrev cX5_isLetter : ByteArray := prog_7_method_61_code
def yX5_isLetter : MethodName := ⟨RX5, "isLetter", "(I)Z"⟩
abbrev cX5_isDigit : ByteArray := prog_7_method_62_code
def yX5_isDigit : MethodName := ⟨RX5, "isDigit", "(I)Z"⟩
abbrev cX5_advance : ByteArray := prog_7_method_63_code
def yX5_advance : MethodName := ⟨RX5, "advance", "()V"⟩
abbrev cX5_isWord : ByteArray := prog_7_method_64_code
def yX5_isWord : MethodName := ⟨RX5, "isWord", "(J)Z"⟩
abbrev cX5_kindHere : ByteArray := prog_7_method_65_code
def yX5_kindHere : MethodName := ⟨RX5, "kindHere", "()I"⟩
abbrev cX5_wantNumber : ByteArray := prog_7_method_66_code
def yX5_wantNumber : MethodName := ⟨RX5, "wantNumber", "(II)I"⟩
abbrev cX5_mayWant : ByteArray := prog_7_method_67_code
def yX5_mayWant : MethodName := ⟨RX5, "mayWant", "(JIII)I"⟩
abbrev cX5_wantOne : ByteArray := prog_7_method_68_code
def yX5_wantOne : MethodName := ⟨RX5, "wantOne", "(I)V"⟩
abbrev cX5_wantBook : ByteArray := prog_7_method_69_code
def yX5_wantBook : MethodName := ⟨RX5, "wantBook", "(I)V"⟩
abbrev cX5_wantLamp : ByteArray := prog_7_method_70_code
def yX5_wantLamp : MethodName := ⟨RX5, "wantLamp", "()V"⟩
abbrev cX5_wantItem : ByteArray := prog_7_method_71_code
def yX5_wantItem : MethodName := ⟨RX5, "wantItem", "()V"⟩
abbrev cX5_winter : ByteArray := prog_7_method_72_code
def yX5_winter : MethodName := ⟨RX5, "winter", "()I"⟩
abbrev cX5_isSheet : ByteArray := prog_7_method_73_code
def yX5_isSheet : MethodName := ⟨RX5, "isSheet", "(I)Z"⟩
abbrev cX5_narrow : ByteArray := prog_7_method_74_code
def yX5_narrow : MethodName := ⟨RX5, "narrow", "(IJ)J"⟩
abbrev cX5_sheet : ByteArray := prog_7_method_75_code
def yX5_sheet : MethodName := ⟨RX5, "sheet", "(III)I"⟩
abbrev cX5_write : ByteArray := prog_7_method_76_code
def yX5_write : MethodName := ⟨RX5, "write", "(IIJ)J"⟩
abbrev cX5_isPart_ : ByteArray := prog_7_method_77_code
def yX5_isPart_ : MethodName := ⟨RX5, "isPart", "(III)Z"⟩
abbrev cX5_copy : ByteArray := prog_7_method_78_code
def yX5_copy : MethodName := ⟨RX5, "copy", "(IIIII)I"⟩
abbrev cX5_badSheet : ByteArray := prog_7_method_79_code
def yX5_badSheet : MethodName := ⟨RX5, "badSheet", "(I)I"⟩
abbrev cX5_lays : ByteArray := prog_7_method_80_code
def yX5_lays : MethodName := ⟨RX5, "lays", "(I)I"⟩
abbrev cX5_book : ByteArray := prog_7_method_81_code
def yX5_book : MethodName := ⟨RX5, "book", "(II)I"⟩
abbrev cX5_isSo : ByteArray := prog_7_method_82_code
def yX5_isSo : MethodName := ⟨RX5, "isSo", "(II)Z"⟩
abbrev cX5_read : ByteArray := prog_7_method_83_code
def yX5_read : MethodName := ⟨RX5, "read", "(II)I"⟩
abbrev cX5_moveAll : ByteArray := prog_7_method_84_code
def yX5_moveAll : MethodName := ⟨RX5, "moveAll", "(Z[I)V"⟩
abbrev cX5_image : ByteArray := prog_7_method_85_code
def yX5_image : MethodName := ⟨RX5, "image", "()I"⟩
abbrev cX5_undo : ByteArray := prog_7_method_86_code
def yX5_undo : MethodName := ⟨RX5, "undo", "()I"⟩
abbrev cX5_tear : ByteArray := prog_7_method_87_code
def yX5_tear : MethodName := ⟨RX5, "tear", "()I"⟩
abbrev cX5_count : ByteArray := prog_7_method_88_code
def yX5_count : MethodName := ⟨RX5, "count", "(I)I"⟩
abbrev cX5_status : ByteArray := prog_7_method_89_code
def yX5_status : MethodName := ⟨RX5, "status", "(I)I"⟩
def RJ9 : String := "java/lang/Math"
def TJ9 : u_T := fun k => match k with
  | _ => ("", "", "", false)
def tyJ9 : Nat → FieldType := fun k => match k with
  | _ => .int
theorem nmJ9 : ∀ a, a < 0 → ∀ b, b < 0 → a ≠ b → (TJ9 a).2.1 ≠ (TJ9 b).2.1 := by decide +kernel
theorem tyJ9_ok : ∀ k, k < 0 → parseFieldDescriptor (TJ9 k).2.2.1 = some (tyJ9 k) := by decide +kernel
abbrev cJ9_abs_0f7a4 : ByteArray := prog_8_method_59_code
def yJ9_abs_0f7a4 : MethodName := ⟨RJ9, "abs", "(I)I"⟩
abbrev cJ9_max_7cf53 : ByteArray := prog_8_method_65_code
def yJ9_max_7cf53 : MethodName := ⟨RJ9, "max", "(II)I"⟩
abbrev cJ9_min_7cf53 : ByteArray := prog_8_method_69_code
def yJ9_min_7cf53 : MethodName := ⟨RJ9, "min", "(II)I"⟩
def RJ0 : String := "java/lang/String"
def TJ0 : u_T := fun k => match k with
  | _ => ("", "", "", false)
def tyJ0 : Nat → FieldType := fun k => match k with
  | _ => .int
theorem nmJ0 : ∀ a, a < 0 → ∀ b, b < 0 → a ≠ b → (TJ0 a).2.1 ≠ (TJ0 b).2.1 := by decide +kernel
theorem tyJ0_ok : ∀ k, k < 0 → parseFieldDescriptor (TJ0 k).2.2.1 = some (tyJ0 k) := by decide +kernel
abbrev cJ0_length_8abf5 : ByteArray := prog_9_method_54_code
def yJ0_length_8abf5 : MethodName := ⟨RJ0, "length", "()I"⟩
abbrev cJ0_charAt_5068e : ByteArray := prog_9_method_56_code
def yJ0_charAt_5068e : MethodName := ⟨RJ0, "charAt", "(I)C"⟩
abbrev cJ0_coder_7d493 : ByteArray := prog_9_method_152_code
def yJ0_coder_7d493 : MethodName := ⟨RJ0, "coder", "()B"⟩
abbrev cJ0_isLatin1_aae02 : ByteArray := prog_9_method_154_code
def yJ0_isLatin1_aae02 : MethodName := ⟨RJ0, "isLatin1", "()Z"⟩
abbrev cJ0_checkIndex_df160 : ByteArray := prog_9_method_155_code
def yJ0_checkIndex_df160 : MethodName := ⟨RJ0, "checkIndex", "(II)V"⟩
def RJ1 : String := "java/lang/StringLatin1"
def TJ1 : u_T := fun k => match k with
  | _ => ("", "", "", false)
def tyJ1 : Nat → FieldType := fun k => match k with
  | _ => .int
theorem nmJ1 : ∀ a, a < 0 → ∀ b, b < 0 → a ≠ b → (TJ1 a).2.1 ≠ (TJ1 b).2.1 := by decide +kernel
theorem tyJ1_ok : ∀ k, k < 0 → parseFieldDescriptor (TJ1 k).2.2.1 = some (tyJ1 k) := by decide +kernel
abbrev cJ1_charAt_3b067 : ByteArray := prog_10_method_2_code
def yJ1_charAt_3b067 : MethodName := ⟨RJ1, "charAt", "([BI)C"⟩
def RJ2 : String := "java/lang/StringUTF16"
def TJ2 : u_T := fun k => match k with
  | _ => ("", "", "", false)
def tyJ2 : Nat → FieldType := fun k => match k with
  | _ => .int
theorem nmJ2 : ∀ a, a < 0 → ∀ b, b < 0 → a ≠ b → (TJ2 a).2.1 ≠ (TJ2 b).2.1 := by decide +kernel
theorem tyJ2_ok : ∀ k, k < 0 → parseFieldDescriptor (TJ2 k).2.2.1 = some (tyJ2 k) := by decide +kernel
abbrev cJ2_getChar_3b067 : ByteArray := prog_11_method_5_code
def yJ2_getChar_3b067 : MethodName := ⟨RJ2, "getChar", "([BI)C"⟩
abbrev cJ2_length_9d52b : ByteArray := prog_11_method_6_code
def yJ2_length_9d52b : MethodName := ⟨RJ2, "length", "([B)I"⟩
abbrev cJ2_charAt_3b067 : ByteArray := prog_11_method_83_code
def yJ2_charAt_3b067 : MethodName := ⟨RJ2, "charAt", "([BI)C"⟩
abbrev cJ2_checkIndex_2214a : ByteArray := prog_11_method_91_code
def yJ2_checkIndex_2214a : MethodName := ⟨RJ2, "checkIndex", "(I[B)V"⟩
def RJ10 : String := "java/lang/System"
def TJ10 : u_T := fun k => match k with
  | _ => ("", "", "", false)
def tyJ10 : Nat → FieldType := fun k => match k with
  | _ => .int
theorem nmJ10 : ∀ a, a < 0 → ∀ b, b < 0 → a ≠ b → (TJ10 a).2.1 ≠ (TJ10 b).2.1 := by decide +kernel
theorem tyJ10_ok : ∀ k, k < 0 → parseFieldDescriptor (TJ10 k).2.2.1 = some (tyJ10 k) := by decide +kernel
def RJ3 : String := "jdk/internal/util/Preconditions"
def TJ3 : u_T := fun k => match k with
  | _ => ("", "", "", false)
def tyJ3 : Nat → FieldType := fun k => match k with
  | _ => .int
theorem nmJ3 : ∀ a, a < 0 → ∀ b, b < 0 → a ≠ b → (TJ3 a).2.1 ≠ (TJ3 b).2.1 := by decide +kernel
theorem tyJ3_ok : ∀ k, k < 0 → parseFieldDescriptor (TJ3 k).2.2.1 = some (tyJ3 k) := by decide +kernel
abbrev cJ3_checkIndex_8e157 : ByteArray := prog_13_method_11_code
def yJ3_checkIndex_8e157 : MethodName := ⟨RJ3, "checkIndex", "(IILjava/util/function/BiFunction;)I"⟩
def RL : String := "SneezeLightsLaw"
abbrev cL_law : ByteArray := code
def yL_law : MethodName := ⟨RL, "law", "([I)Z"⟩
abbrev vwCl : List vw_C := [(RX0, TX0, 3), (RX1, TX1, 13), (RX2, TX2, 2), (RX3, TX3, 5), (RX4, TX4, 8), (RX5, TX5, 20)]
end
section
theorem dX0_init_0 : decode cX0_init 0 = .ok (.aload_n 0, 1) := by decide +kernel
theorem dX0_init_1 : decode cX0_init 1 = .ok (.invokespecial 3, 3) := by decide +kernel
theorem dX0_init_4 : decode cX0_init 4 = .ok (.aload_n 0, 1) := by decide +kernel
theorem dX0_init_5 : decode cX0_init 5 = .ok (.iconst 4, 1) := by decide +kernel
theorem dX0_init_6 : decode cX0_init 6 = .ok (.newarray .int, 2) := by decide +kernel
theorem dX0_init_8 : decode cX0_init 8 = .ok (.putfield 9, 3) := by decide +kernel
theorem dX0_init_11 : decode cX0_init 11 = .ok (.aload_n 0, 1) := by decide +kernel
theorem dX0_init_12 : decode cX0_init 12 = .ok (.iconst 4, 1) := by decide +kernel
theorem dX0_init_13 : decode cX0_init 13 = .ok (.newarray .int, 2) := by decide +kernel
theorem dX0_init_15 : decode cX0_init 15 = .ok (.putfield 15, 3) := by decide +kernel
theorem dX0_init_18 : decode cX0_init 18 = .ok (.aload_n 0, 1) := by decide +kernel
theorem dX0_init_19 : decode cX0_init 19 = .ok (.sipush 160, 3) := by decide +kernel
theorem dX0_init_22 : decode cX0_init 22 = .ok (.newarray .long, 2) := by decide +kernel
theorem dX0_init_24 : decode cX0_init 24 = .ok (.putfield 18, 3) := by decide +kernel
theorem dX0_init_27 : decode cX0_init 27 = .ok (.return_, 1) := by decide +kernel
theorem dX0_lay_0 : decode cX0_lay 0 = .ok (.aload_n 0, 1) := by decide +kernel
theorem dX0_lay_1 : decode cX0_lay 1 = .ok (.getfield 9, 3) := by decide +kernel
theorem dX0_lay_4 : decode cX0_lay 4 = .ok (.iload_n 1, 1) := by decide +kernel
theorem dX0_lay_5 : decode cX0_lay 5 = .ok (.iload_n 2, 1) := by decide +kernel
theorem dX0_lay_6 : decode cX0_lay 6 = .ok (.iastore, 1) := by decide +kernel
theorem dX0_lay_7 : decode cX0_lay 7 = .ok (.aload_n 0, 1) := by decide +kernel
theorem dX0_lay_8 : decode cX0_lay 8 = .ok (.getfield 15, 3) := by decide +kernel
theorem dX0_lay_11 : decode cX0_lay 11 = .ok (.iload_n 1, 1) := by decide +kernel
theorem dX0_lay_12 : decode cX0_lay 12 = .ok (.iload_n 3, 1) := by decide +kernel
theorem dX0_lay_13 : decode cX0_lay 13 = .ok (.iastore, 1) := by decide +kernel
theorem dX0_lay_14 : decode cX0_lay 14 = .ok (.iconst 0, 1) := by decide +kernel
theorem dX0_lay_15 : decode cX0_lay 15 = .ok (.istore 4, 2) := by decide +kernel
theorem dX0_lay_17 : decode cX0_lay 17 = .ok (.iload 4, 2) := by decide +kernel
theorem dX0_lay_19 : decode cX0_lay 19 = .ok (.bipush 40, 2) := by decide +kernel
theorem dX0_lay_21 : decode cX0_lay 21 = .ok (.if_icmp .ge 22, 3) := by decide +kernel
theorem dX0_lay_24 : decode cX0_lay 24 = .ok (.aload_n 0, 1) := by decide +kernel
theorem dX0_lay_25 : decode cX0_lay 25 = .ok (.getfield 18, 3) := by decide +kernel
theorem dX0_lay_28 : decode cX0_lay 28 = .ok (.iload_n 1, 1) := by decide +kernel
theorem dX0_lay_29 : decode cX0_lay 29 = .ok (.bipush 40, 2) := by decide +kernel
theorem dX0_lay_31 : decode cX0_lay 31 = .ok (.imul, 1) := by decide +kernel
theorem dX0_lay_32 : decode cX0_lay 32 = .ok (.iload 4, 2) := by decide +kernel
theorem dX0_lay_34 : decode cX0_lay 34 = .ok (.iadd, 1) := by decide +kernel
theorem dX0_lay_35 : decode cX0_lay 35 = .ok (.lconst 0, 1) := by decide +kernel
theorem dX0_lay_36 : decode cX0_lay 36 = .ok (.lastore, 1) := by decide +kernel
theorem dX0_lay_37 : decode cX0_lay 37 = .ok (.iinc 4 1, 3) := by decide +kernel
theorem dX0_lay_40 : decode cX0_lay 40 = .ok (.goto (-23), 3) := by decide +kernel
theorem dX0_lay_43 : decode cX0_lay 43 = .ok (.return_, 1) := by decide +kernel
theorem dX0_isMissing_0 : decode cX0_isMissing 0 = .ok (.aload_n 0, 1) := by decide +kernel
theorem dX0_isMissing_1 : decode cX0_isMissing 1 = .ok (.getfield 9, 3) := by decide +kernel
theorem dX0_isMissing_4 : decode cX0_isMissing 4 = .ok (.iload_n 1, 1) := by decide +kernel
theorem dX0_isMissing_5 : decode cX0_isMissing 5 = .ok (.iaload, 1) := by decide +kernel
theorem dX0_isMissing_6 : decode cX0_isMissing 6 = .ok (.ifCond .ne 7, 3) := by decide +kernel
theorem dX0_isMissing_9 : decode cX0_isMissing 9 = .ok (.iconst 1, 1) := by decide +kernel
theorem dX0_isMissing_10 : decode cX0_isMissing 10 = .ok (.goto 4, 3) := by decide +kernel
theorem dX0_isMissing_13 : decode cX0_isMissing 13 = .ok (.iconst 0, 1) := by decide +kernel
theorem dX0_isMissing_14 : decode cX0_isMissing 14 = .ok (.ireturn, 1) := by decide +kernel
theorem dX0_number_0 : decode cX0_number 0 = .ok (.aload_n 0, 1) := by decide +kernel
theorem dX0_number_1 : decode cX0_number 1 = .ok (.getfield 18, 3) := by decide +kernel
theorem dX0_number_4 : decode cX0_number 4 = .ok (.iload_n 1, 1) := by decide +kernel
theorem dX0_number_5 : decode cX0_number 5 = .ok (.bipush 40, 2) := by decide +kernel
theorem dX0_number_7 : decode cX0_number 7 = .ok (.imul, 1) := by decide +kernel
theorem dX0_number_8 : decode cX0_number 8 = .ok (.iload_n 2, 1) := by decide +kernel
theorem dX0_number_9 : decode cX0_number 9 = .ok (.iadd, 1) := by decide +kernel
theorem dX0_number_10 : decode cX0_number 10 = .ok (.laload, 1) := by decide +kernel
theorem dX0_number_11 : decode cX0_number 11 = .ok (.lreturn, 1) := by decide +kernel
theorem dX0_put_0 : decode cX0_put 0 = .ok (.aload_n 0, 1) := by decide +kernel
theorem dX0_put_1 : decode cX0_put 1 = .ok (.getfield 18, 3) := by decide +kernel
theorem dX0_put_4 : decode cX0_put 4 = .ok (.iload_n 1, 1) := by decide +kernel
theorem dX0_put_5 : decode cX0_put 5 = .ok (.bipush 40, 2) := by decide +kernel
theorem dX0_put_7 : decode cX0_put 7 = .ok (.imul, 1) := by decide +kernel
theorem dX0_put_8 : decode cX0_put 8 = .ok (.iload_n 2, 1) := by decide +kernel
theorem dX0_put_9 : decode cX0_put 9 = .ok (.iadd, 1) := by decide +kernel
theorem dX0_put_10 : decode cX0_put 10 = .ok (.lload_n 3, 1) := by decide +kernel
theorem dX0_put_11 : decode cX0_put 11 = .ok (.aload_n 0, 1) := by decide +kernel
theorem dX0_put_12 : decode cX0_put 12 = .ok (.getfield 9, 3) := by decide +kernel
theorem dX0_put_15 : decode cX0_put 15 = .ok (.iload_n 1, 1) := by decide +kernel
theorem dX0_put_16 : decode cX0_put 16 = .ok (.iaload, 1) := by decide +kernel
theorem dX0_put_17 : decode cX0_put 17 = .ok (.invokestatic 22, 3) := by decide +kernel
theorem dX0_put_20 : decode cX0_put 20 = .ok (.lastore, 1) := by decide +kernel
theorem dX0_put_21 : decode cX0_put 21 = .ok (.return_, 1) := by decide +kernel
theorem dX0_cut_0 : decode cX0_cut 0 = .ok (.iload_n 2, 1) := by decide +kernel
theorem dX0_cut_1 : decode cX0_cut 1 = .ok (.lookupswitch 37 #[(8, 27), (16, 32)], 27) := by decide +kernel
theorem dX0_cut_28 : decode cX0_cut 28 = .ok (.lload_n 0, 1) := by decide +kernel
theorem dX0_cut_29 : decode cX0_cut 29 = .ok (.l2i, 1) := by decide +kernel
theorem dX0_cut_30 : decode cX0_cut 30 = .ok (.i2b, 1) := by decide +kernel
theorem dX0_cut_31 : decode cX0_cut 31 = .ok (.i2l, 1) := by decide +kernel
theorem dX0_cut_32 : decode cX0_cut 32 = .ok (.lreturn, 1) := by decide +kernel
theorem dX0_cut_33 : decode cX0_cut 33 = .ok (.lload_n 0, 1) := by decide +kernel
theorem dX0_cut_34 : decode cX0_cut 34 = .ok (.l2i, 1) := by decide +kernel
theorem dX0_cut_35 : decode cX0_cut 35 = .ok (.i2s, 1) := by decide +kernel
theorem dX0_cut_36 : decode cX0_cut 36 = .ok (.i2l, 1) := by decide +kernel
theorem dX0_cut_37 : decode cX0_cut 37 = .ok (.lreturn, 1) := by decide +kernel
theorem dX0_cut_38 : decode cX0_cut 38 = .ok (.lload_n 0, 1) := by decide +kernel
theorem dX0_cut_39 : decode cX0_cut 39 = .ok (.lreturn, 1) := by decide +kernel
theorem dX0_hasRun_0 : decode cX0_hasRun 0 = .ok (.iload_n 2, 1) := by decide +kernel
theorem dX0_hasRun_1 : decode cX0_hasRun 1 = .ok (.ifCond .lt 33, 3) := by decide +kernel
theorem dX0_hasRun_4 : decode cX0_hasRun 4 = .ok (.iload_n 3, 1) := by decide +kernel
theorem dX0_hasRun_5 : decode cX0_hasRun 5 = .ok (.ifCond .lt 29, 3) := by decide +kernel
theorem dX0_hasRun_8 : decode cX0_hasRun 8 = .ok (.iload_n 3, 1) := by decide +kernel
theorem dX0_hasRun_9 : decode cX0_hasRun 9 = .ok (.aload_n 0, 1) := by decide +kernel
theorem dX0_hasRun_10 : decode cX0_hasRun 10 = .ok (.getfield 15, 3) := by decide +kernel
theorem dX0_hasRun_13 : decode cX0_hasRun 13 = .ok (.iload_n 1, 1) := by decide +kernel
theorem dX0_hasRun_14 : decode cX0_hasRun 14 = .ok (.iaload, 1) := by decide +kernel
theorem dX0_hasRun_15 : decode cX0_hasRun 15 = .ok (.if_icmp .gt 19, 3) := by decide +kernel
theorem dX0_hasRun_18 : decode cX0_hasRun 18 = .ok (.iload_n 2, 1) := by decide +kernel
theorem dX0_hasRun_19 : decode cX0_hasRun 19 = .ok (.aload_n 0, 1) := by decide +kernel
theorem dX0_hasRun_20 : decode cX0_hasRun 20 = .ok (.getfield 15, 3) := by decide +kernel
theorem dX0_hasRun_23 : decode cX0_hasRun 23 = .ok (.iload_n 1, 1) := by decide +kernel
theorem dX0_hasRun_24 : decode cX0_hasRun 24 = .ok (.iaload, 1) := by decide +kernel
theorem dX0_hasRun_25 : decode cX0_hasRun 25 = .ok (.iload_n 3, 1) := by decide +kernel
theorem dX0_hasRun_26 : decode cX0_hasRun 26 = .ok (.isub, 1) := by decide +kernel
theorem dX0_hasRun_27 : decode cX0_hasRun 27 = .ok (.if_icmp .gt 7, 3) := by decide +kernel
theorem dX0_hasRun_30 : decode cX0_hasRun 30 = .ok (.iconst 1, 1) := by decide +kernel
theorem dX0_hasRun_31 : decode cX0_hasRun 31 = .ok (.goto 4, 3) := by decide +kernel
theorem dX0_hasRun_34 : decode cX0_hasRun 34 = .ok (.iconst 0, 1) := by decide +kernel
theorem dX0_hasRun_35 : decode cX0_hasRun 35 = .ok (.ireturn, 1) := by decide +kernel
theorem dX0_move_0 : decode cX0_move 0 = .ok (.aload_n 0, 1) := by decide +kernel
theorem dX0_move_1 : decode cX0_move 1 = .ok (.getfield 18, 3) := by decide +kernel
theorem dX0_move_4 : decode cX0_move 4 = .ok (.iload_n 1, 1) := by decide +kernel
theorem dX0_move_5 : decode cX0_move 5 = .ok (.bipush 40, 2) := by decide +kernel
theorem dX0_move_7 : decode cX0_move 7 = .ok (.imul, 1) := by decide +kernel
theorem dX0_move_8 : decode cX0_move 8 = .ok (.iload_n 2, 1) := by decide +kernel
theorem dX0_move_9 : decode cX0_move 9 = .ok (.iadd, 1) := by decide +kernel
theorem dX0_move_10 : decode cX0_move 10 = .ok (.aload_n 0, 1) := by decide +kernel
theorem dX0_move_11 : decode cX0_move 11 = .ok (.getfield 18, 3) := by decide +kernel
theorem dX0_move_14 : decode cX0_move 14 = .ok (.iload_n 3, 1) := by decide +kernel
theorem dX0_move_15 : decode cX0_move 15 = .ok (.bipush 40, 2) := by decide +kernel
theorem dX0_move_17 : decode cX0_move 17 = .ok (.imul, 1) := by decide +kernel
theorem dX0_move_18 : decode cX0_move 18 = .ok (.iload 4, 2) := by decide +kernel
theorem dX0_move_20 : decode cX0_move 20 = .ok (.iadd, 1) := by decide +kernel
theorem dX0_move_21 : decode cX0_move 21 = .ok (.iload 5, 2) := by decide +kernel
theorem dX0_move_23 : decode cX0_move 23 = .ok (.invokestatic 26, 3) := by decide +kernel
theorem dX0_move_26 : decode cX0_move 26 = .ok (.return_, 1) := by decide +kernel
theorem dX1_init_0 : decode cX1_init 0 = .ok (.aload_n 0, 1) := by decide +kernel
theorem dX1_init_1 : decode cX1_init 1 = .ok (.invokespecial 3, 3) := by decide +kernel
theorem dX1_init_4 : decode cX1_init 4 = .ok (.aload_n 0, 1) := by decide +kernel
theorem dX1_init_5 : decode cX1_init 5 = .ok (.iconst 0, 1) := by decide +kernel
theorem dX1_init_6 : decode cX1_init 6 = .ok (.putfield 9, 3) := by decide +kernel
theorem dX1_init_9 : decode cX1_init 9 = .ok (.aload_n 0, 1) := by decide +kernel
theorem dX1_init_10 : decode cX1_init 10 = .ok (.iconst 2, 1) := by decide +kernel
theorem dX1_init_11 : decode cX1_init 11 = .ok (.putfield 15, 3) := by decide +kernel
theorem dX1_init_14 : decode cX1_init 14 = .ok (.aload_n 0, 1) := by decide +kernel
theorem dX1_init_15 : decode cX1_init 15 = .ok (.bipush 12, 2) := by decide +kernel
theorem dX1_init_17 : decode cX1_init 17 = .ok (.newarray .int, 2) := by decide +kernel
theorem dX1_init_19 : decode cX1_init 19 = .ok (.putfield 18, 3) := by decide +kernel
theorem dX1_init_22 : decode cX1_init 22 = .ok (.aload_n 0, 1) := by decide +kernel
theorem dX1_init_23 : decode cX1_init 23 = .ok (.bipush 12, 2) := by decide +kernel
theorem dX1_init_25 : decode cX1_init 25 = .ok (.newarray .int, 2) := by decide +kernel
theorem dX1_init_27 : decode cX1_init 27 = .ok (.putfield 22, 3) := by decide +kernel
theorem dX1_init_30 : decode cX1_init 30 = .ok (.aload_n 0, 1) := by decide +kernel
theorem dX1_init_31 : decode cX1_init 31 = .ok (.bipush 12, 2) := by decide +kernel
theorem dX1_init_33 : decode cX1_init 33 = .ok (.newarray .int, 2) := by decide +kernel
theorem dX1_init_35 : decode cX1_init 35 = .ok (.putfield 25, 3) := by decide +kernel
theorem dX1_init_38 : decode cX1_init 38 = .ok (.aload_n 0, 1) := by decide +kernel
theorem dX1_init_39 : decode cX1_init 39 = .ok (.iconst 0, 1) := by decide +kernel
theorem dX1_init_40 : decode cX1_init 40 = .ok (.putfield 28, 3) := by decide +kernel
theorem dX1_init_43 : decode cX1_init 43 = .ok (.aload_n 0, 1) := by decide +kernel
theorem dX1_init_44 : decode cX1_init 44 = .ok (.bipush 8, 2) := by decide +kernel
theorem dX1_init_46 : decode cX1_init 46 = .ok (.newarray .int, 2) := by decide +kernel
theorem dX1_init_48 : decode cX1_init 48 = .ok (.putfield 31, 3) := by decide +kernel
theorem dX1_init_51 : decode cX1_init 51 = .ok (.aload_n 0, 1) := by decide +kernel
theorem dX1_init_52 : decode cX1_init 52 = .ok (.bipush 8, 2) := by decide +kernel
theorem dX1_init_54 : decode cX1_init 54 = .ok (.newarray .int, 2) := by decide +kernel
theorem dX1_init_56 : decode cX1_init 56 = .ok (.putfield 34, 3) := by decide +kernel
theorem dX1_init_59 : decode cX1_init 59 = .ok (.aload_n 0, 1) := by decide +kernel
theorem dX1_init_60 : decode cX1_init 60 = .ok (.bipush 8, 2) := by decide +kernel
theorem dX1_init_62 : decode cX1_init 62 = .ok (.newarray .int, 2) := by decide +kernel
theorem dX1_init_64 : decode cX1_init 64 = .ok (.putfield 37, 3) := by decide +kernel
theorem dX1_init_67 : decode cX1_init 67 = .ok (.aload_n 0, 1) := by decide +kernel
theorem dX1_init_68 : decode cX1_init 68 = .ok (.bipush 8, 2) := by decide +kernel
theorem dX1_init_70 : decode cX1_init 70 = .ok (.newarray .int, 2) := by decide +kernel
theorem dX1_init_72 : decode cX1_init 72 = .ok (.putfield 40, 3) := by decide +kernel
theorem dX1_init_75 : decode cX1_init 75 = .ok (.aload_n 0, 1) := by decide +kernel
theorem dX1_init_76 : decode cX1_init 76 = .ok (.bipush 8, 2) := by decide +kernel
theorem dX1_init_78 : decode cX1_init 78 = .ok (.newarray .int, 2) := by decide +kernel
theorem dX1_init_80 : decode cX1_init 80 = .ok (.putfield 43, 3) := by decide +kernel
theorem dX1_init_83 : decode cX1_init 83 = .ok (.aload_n 0, 1) := by decide +kernel
theorem dX1_init_84 : decode cX1_init 84 = .ok (.bipush 8, 2) := by decide +kernel
theorem dX1_init_86 : decode cX1_init 86 = .ok (.newarray .int, 2) := by decide +kernel
theorem dX1_init_88 : decode cX1_init 88 = .ok (.putfield 46, 3) := by decide +kernel
theorem dX1_init_91 : decode cX1_init 91 = .ok (.aload_n 0, 1) := by decide +kernel
theorem dX1_init_92 : decode cX1_init 92 = .ok (.iconst 0, 1) := by decide +kernel
theorem dX1_init_93 : decode cX1_init 93 = .ok (.putfield 49, 3) := by decide +kernel
theorem dX1_init_96 : decode cX1_init 96 = .ok (.iconst 0, 1) := by decide +kernel
theorem dX1_init_97 : decode cX1_init 97 = .ok (.istore_n 1, 1) := by decide +kernel
theorem dX1_init_98 : decode cX1_init 98 = .ok (.iload_n 1, 1) := by decide +kernel
theorem dX1_init_99 : decode cX1_init 99 = .ok (.bipush 12, 2) := by decide +kernel
theorem dX1_init_101 : decode cX1_init 101 = .ok (.if_icmp .ge 16, 3) := by decide +kernel
theorem dX1_init_104 : decode cX1_init 104 = .ok (.aload_n 0, 1) := by decide +kernel
theorem dX1_init_105 : decode cX1_init 105 = .ok (.getfield 22, 3) := by decide +kernel
theorem dX1_init_108 : decode cX1_init 108 = .ok (.iload_n 1, 1) := by decide +kernel
theorem dX1_init_109 : decode cX1_init 109 = .ok (.iconst 1, 1) := by decide +kernel
theorem dX1_init_110 : decode cX1_init 110 = .ok (.iastore, 1) := by decide +kernel
theorem dX1_init_111 : decode cX1_init 111 = .ok (.iinc 1 1, 3) := by decide +kernel
theorem dX1_init_114 : decode cX1_init 114 = .ok (.goto (-16), 3) := by decide +kernel
theorem dX1_init_117 : decode cX1_init 117 = .ok (.return_, 1) := by decide +kernel
theorem dX1_become_0 : decode cX1_become 0 = .ok (.aload_n 0, 1) := by decide +kernel
theorem dX1_become_1 : decode cX1_become 1 = .ok (.aload_n 1, 1) := by decide +kernel
theorem dX1_become_2 : decode cX1_become 2 = .ok (.getfield 9, 3) := by decide +kernel
theorem dX1_become_5 : decode cX1_become 5 = .ok (.putfield 9, 3) := by decide +kernel
theorem dX1_become_8 : decode cX1_become 8 = .ok (.aload_n 0, 1) := by decide +kernel
theorem dX1_become_9 : decode cX1_become 9 = .ok (.aload_n 1, 1) := by decide +kernel
theorem dX1_become_10 : decode cX1_become 10 = .ok (.getfield 15, 3) := by decide +kernel
theorem dX1_become_13 : decode cX1_become 13 = .ok (.putfield 15, 3) := by decide +kernel
theorem dX1_become_16 : decode cX1_become 16 = .ok (.aload_n 1, 1) := by decide +kernel
theorem dX1_become_17 : decode cX1_become 17 = .ok (.getfield 18, 3) := by decide +kernel
theorem dX1_become_20 : decode cX1_become 20 = .ok (.iconst 0, 1) := by decide +kernel
theorem dX1_become_21 : decode cX1_become 21 = .ok (.aload_n 0, 1) := by decide +kernel
theorem dX1_become_22 : decode cX1_become 22 = .ok (.getfield 18, 3) := by decide +kernel
theorem dX1_become_25 : decode cX1_become 25 = .ok (.iconst 0, 1) := by decide +kernel
theorem dX1_become_26 : decode cX1_become 26 = .ok (.bipush 12, 2) := by decide +kernel
theorem dX1_become_28 : decode cX1_become 28 = .ok (.invokestatic 52, 3) := by decide +kernel
theorem dX1_become_31 : decode cX1_become 31 = .ok (.aload_n 1, 1) := by decide +kernel
theorem dX1_become_32 : decode cX1_become 32 = .ok (.getfield 22, 3) := by decide +kernel
theorem dX1_become_35 : decode cX1_become 35 = .ok (.iconst 0, 1) := by decide +kernel
theorem dX1_become_36 : decode cX1_become 36 = .ok (.aload_n 0, 1) := by decide +kernel
theorem dX1_become_37 : decode cX1_become 37 = .ok (.getfield 22, 3) := by decide +kernel
theorem dX1_become_40 : decode cX1_become 40 = .ok (.iconst 0, 1) := by decide +kernel
theorem dX1_become_41 : decode cX1_become 41 = .ok (.bipush 12, 2) := by decide +kernel
theorem dX1_become_43 : decode cX1_become 43 = .ok (.invokestatic 52, 3) := by decide +kernel
theorem dX1_become_46 : decode cX1_become 46 = .ok (.aload_n 1, 1) := by decide +kernel
theorem dX1_become_47 : decode cX1_become 47 = .ok (.getfield 25, 3) := by decide +kernel
theorem dX1_become_50 : decode cX1_become 50 = .ok (.iconst 0, 1) := by decide +kernel
theorem dX1_become_51 : decode cX1_become 51 = .ok (.aload_n 0, 1) := by decide +kernel
theorem dX1_become_52 : decode cX1_become 52 = .ok (.getfield 25, 3) := by decide +kernel
theorem dX1_become_55 : decode cX1_become 55 = .ok (.iconst 0, 1) := by decide +kernel
theorem dX1_become_56 : decode cX1_become 56 = .ok (.bipush 12, 2) := by decide +kernel
theorem dX1_become_58 : decode cX1_become 58 = .ok (.invokestatic 52, 3) := by decide +kernel
theorem dX1_become_61 : decode cX1_become 61 = .ok (.aload_n 0, 1) := by decide +kernel
theorem dX1_become_62 : decode cX1_become 62 = .ok (.aload_n 1, 1) := by decide +kernel
theorem dX1_become_63 : decode cX1_become 63 = .ok (.getfield 28, 3) := by decide +kernel
theorem dX1_become_66 : decode cX1_become 66 = .ok (.putfield 28, 3) := by decide +kernel
theorem dX1_become_69 : decode cX1_become 69 = .ok (.aload_n 1, 1) := by decide +kernel
theorem dX1_become_70 : decode cX1_become 70 = .ok (.getfield 31, 3) := by decide +kernel
theorem dX1_become_73 : decode cX1_become 73 = .ok (.iconst 0, 1) := by decide +kernel
theorem dX1_become_74 : decode cX1_become 74 = .ok (.aload_n 0, 1) := by decide +kernel
theorem dX1_become_75 : decode cX1_become 75 = .ok (.getfield 31, 3) := by decide +kernel
theorem dX1_become_78 : decode cX1_become 78 = .ok (.iconst 0, 1) := by decide +kernel
theorem dX1_become_79 : decode cX1_become 79 = .ok (.bipush 8, 2) := by decide +kernel
theorem dX1_become_81 : decode cX1_become 81 = .ok (.invokestatic 52, 3) := by decide +kernel
theorem dX1_become_84 : decode cX1_become 84 = .ok (.aload_n 1, 1) := by decide +kernel
theorem dX1_become_85 : decode cX1_become 85 = .ok (.getfield 34, 3) := by decide +kernel
theorem dX1_become_88 : decode cX1_become 88 = .ok (.iconst 0, 1) := by decide +kernel
theorem dX1_become_89 : decode cX1_become 89 = .ok (.aload_n 0, 1) := by decide +kernel
theorem dX1_become_90 : decode cX1_become 90 = .ok (.getfield 34, 3) := by decide +kernel
theorem dX1_become_93 : decode cX1_become 93 = .ok (.iconst 0, 1) := by decide +kernel
theorem dX1_become_94 : decode cX1_become 94 = .ok (.bipush 8, 2) := by decide +kernel
theorem dX1_become_96 : decode cX1_become 96 = .ok (.invokestatic 52, 3) := by decide +kernel
theorem dX1_become_99 : decode cX1_become 99 = .ok (.aload_n 1, 1) := by decide +kernel
theorem dX1_become_100 : decode cX1_become 100 = .ok (.getfield 37, 3) := by decide +kernel
theorem dX1_become_103 : decode cX1_become 103 = .ok (.iconst 0, 1) := by decide +kernel
theorem dX1_become_104 : decode cX1_become 104 = .ok (.aload_n 0, 1) := by decide +kernel
theorem dX1_become_105 : decode cX1_become 105 = .ok (.getfield 37, 3) := by decide +kernel
theorem dX1_become_108 : decode cX1_become 108 = .ok (.iconst 0, 1) := by decide +kernel
theorem dX1_become_109 : decode cX1_become 109 = .ok (.bipush 8, 2) := by decide +kernel
theorem dX1_become_111 : decode cX1_become 111 = .ok (.invokestatic 52, 3) := by decide +kernel
theorem dX1_become_114 : decode cX1_become 114 = .ok (.aload_n 1, 1) := by decide +kernel
theorem dX1_become_115 : decode cX1_become 115 = .ok (.getfield 40, 3) := by decide +kernel
theorem dX1_become_118 : decode cX1_become 118 = .ok (.iconst 0, 1) := by decide +kernel
theorem dX1_become_119 : decode cX1_become 119 = .ok (.aload_n 0, 1) := by decide +kernel
theorem dX1_become_120 : decode cX1_become 120 = .ok (.getfield 40, 3) := by decide +kernel
theorem dX1_become_123 : decode cX1_become 123 = .ok (.iconst 0, 1) := by decide +kernel
theorem dX1_become_124 : decode cX1_become 124 = .ok (.bipush 8, 2) := by decide +kernel
theorem dX1_become_126 : decode cX1_become 126 = .ok (.invokestatic 52, 3) := by decide +kernel
theorem dX1_become_129 : decode cX1_become 129 = .ok (.aload_n 1, 1) := by decide +kernel
theorem dX1_become_130 : decode cX1_become 130 = .ok (.getfield 43, 3) := by decide +kernel
theorem dX1_become_133 : decode cX1_become 133 = .ok (.iconst 0, 1) := by decide +kernel
theorem dX1_become_134 : decode cX1_become 134 = .ok (.aload_n 0, 1) := by decide +kernel
theorem dX1_become_135 : decode cX1_become 135 = .ok (.getfield 43, 3) := by decide +kernel
theorem dX1_become_138 : decode cX1_become 138 = .ok (.iconst 0, 1) := by decide +kernel
theorem dX1_become_139 : decode cX1_become 139 = .ok (.bipush 8, 2) := by decide +kernel
theorem dX1_become_141 : decode cX1_become 141 = .ok (.invokestatic 52, 3) := by decide +kernel
theorem dX1_become_144 : decode cX1_become 144 = .ok (.aload_n 1, 1) := by decide +kernel
theorem dX1_become_145 : decode cX1_become 145 = .ok (.getfield 46, 3) := by decide +kernel
theorem dX1_become_148 : decode cX1_become 148 = .ok (.iconst 0, 1) := by decide +kernel
theorem dX1_become_149 : decode cX1_become 149 = .ok (.aload_n 0, 1) := by decide +kernel
theorem dX1_become_150 : decode cX1_become 150 = .ok (.getfield 46, 3) := by decide +kernel
theorem dX1_become_153 : decode cX1_become 153 = .ok (.iconst 0, 1) := by decide +kernel
theorem dX1_become_154 : decode cX1_become 154 = .ok (.bipush 8, 2) := by decide +kernel
theorem dX1_become_156 : decode cX1_become 156 = .ok (.invokestatic 52, 3) := by decide +kernel
theorem dX1_become_159 : decode cX1_become 159 = .ok (.return_, 1) := by decide +kernel
theorem dX1_addOne_0 : decode cX1_addOne 0 = .ok (.aload_n 0, 1) := by decide +kernel
theorem dX1_addOne_1 : decode cX1_addOne 1 = .ok (.getfield 28, 3) := by decide +kernel
theorem dX1_addOne_4 : decode cX1_addOne 4 = .ok (.istore_n 3, 1) := by decide +kernel
theorem dX1_addOne_5 : decode cX1_addOne 5 = .ok (.iload_n 3, 1) := by decide +kernel
theorem dX1_addOne_6 : decode cX1_addOne 6 = .ok (.bipush 8, 2) := by decide +kernel
theorem dX1_addOne_8 : decode cX1_addOne 8 = .ok (.if_icmp .lt 6, 3) := by decide +kernel
theorem dX1_addOne_11 : decode cX1_addOne 11 = .ok (.bipush 7, 2) := by decide +kernel
theorem dX1_addOne_13 : decode cX1_addOne 13 = .ok (.ireturn, 1) := by decide +kernel
theorem dX1_addOne_14 : decode cX1_addOne 14 = .ok (.aload_n 0, 1) := by decide +kernel
theorem dX1_addOne_15 : decode cX1_addOne 15 = .ok (.getfield 31, 3) := by decide +kernel
theorem dX1_addOne_18 : decode cX1_addOne 18 = .ok (.iload_n 3, 1) := by decide +kernel
theorem dX1_addOne_19 : decode cX1_addOne 19 = .ok (.iload_n 1, 1) := by decide +kernel
theorem dX1_addOne_20 : decode cX1_addOne 20 = .ok (.iastore, 1) := by decide +kernel
theorem dX1_addOne_21 : decode cX1_addOne 21 = .ok (.aload_n 0, 1) := by decide +kernel
theorem dX1_addOne_22 : decode cX1_addOne 22 = .ok (.getfield 34, 3) := by decide +kernel
theorem dX1_addOne_25 : decode cX1_addOne 25 = .ok (.iload_n 3, 1) := by decide +kernel
theorem dX1_addOne_26 : decode cX1_addOne 26 = .ok (.iload_n 2, 1) := by decide +kernel
theorem dX1_addOne_27 : decode cX1_addOne 27 = .ok (.iastore, 1) := by decide +kernel
theorem dX1_addOne_28 : decode cX1_addOne 28 = .ok (.aload_n 0, 1) := by decide +kernel
theorem dX1_addOne_29 : decode cX1_addOne 29 = .ok (.getfield 37, 3) := by decide +kernel
theorem dX1_addOne_32 : decode cX1_addOne 32 = .ok (.iload_n 3, 1) := by decide +kernel
theorem dX1_addOne_33 : decode cX1_addOne 33 = .ok (.iconst 1, 1) := by decide +kernel
theorem dX1_addOne_34 : decode cX1_addOne 34 = .ok (.iastore, 1) := by decide +kernel
theorem dX1_addOne_35 : decode cX1_addOne 35 = .ok (.aload_n 0, 1) := by decide +kernel
theorem dX1_addOne_36 : decode cX1_addOne 36 = .ok (.getfield 40, 3) := by decide +kernel
theorem dX1_addOne_39 : decode cX1_addOne 39 = .ok (.iload_n 3, 1) := by decide +kernel
theorem dX1_addOne_40 : decode cX1_addOne 40 = .ok (.bipush 20, 2) := by decide +kernel
theorem dX1_addOne_42 : decode cX1_addOne 42 = .ok (.iastore, 1) := by decide +kernel
theorem dX1_addOne_43 : decode cX1_addOne 43 = .ok (.aload_n 0, 1) := by decide +kernel
theorem dX1_addOne_44 : decode cX1_addOne 44 = .ok (.getfield 43, 3) := by decide +kernel
theorem dX1_addOne_47 : decode cX1_addOne 47 = .ok (.iload_n 3, 1) := by decide +kernel
theorem dX1_addOne_48 : decode cX1_addOne 48 = .ok (.iconst 0, 1) := by decide +kernel
theorem dX1_addOne_49 : decode cX1_addOne 49 = .ok (.iastore, 1) := by decide +kernel
theorem dX1_addOne_50 : decode cX1_addOne 50 = .ok (.aload_n 0, 1) := by decide +kernel
theorem dX1_addOne_51 : decode cX1_addOne 51 = .ok (.getfield 46, 3) := by decide +kernel
theorem dX1_addOne_54 : decode cX1_addOne 54 = .ok (.iload_n 3, 1) := by decide +kernel
theorem dX1_addOne_55 : decode cX1_addOne 55 = .ok (.iconst 0, 1) := by decide +kernel
theorem dX1_addOne_56 : decode cX1_addOne 56 = .ok (.iastore, 1) := by decide +kernel
theorem dX1_addOne_57 : decode cX1_addOne 57 = .ok (.aload_n 0, 1) := by decide +kernel
theorem dX1_addOne_58 : decode cX1_addOne 58 = .ok (.iload_n 3, 1) := by decide +kernel
theorem dX1_addOne_59 : decode cX1_addOne 59 = .ok (.iconst 1, 1) := by decide +kernel
theorem dX1_addOne_60 : decode cX1_addOne 60 = .ok (.iadd, 1) := by decide +kernel
theorem dX1_addOne_61 : decode cX1_addOne 61 = .ok (.putfield 28, 3) := by decide +kernel
theorem dX1_addOne_64 : decode cX1_addOne 64 = .ok (.iload_n 3, 1) := by decide +kernel
theorem dX1_addOne_65 : decode cX1_addOne 65 = .ok (.ireturn, 1) := by decide +kernel
theorem dX1_houseRow_0 : decode cX1_houseRow 0 = .ok (.iload_n 1, 1) := by decide +kernel
theorem dX1_houseRow_1 : decode cX1_houseRow 1 = .ok (.lookupswitch 37 #[(0, 27), (1, 32)], 27) := by decide +kernel
theorem dX1_houseRow_28 : decode cX1_houseRow 28 = .ok (.aload_n 0, 1) := by decide +kernel
theorem dX1_houseRow_29 : decode cX1_houseRow 29 = .ok (.getfield 18, 3) := by decide +kernel
theorem dX1_houseRow_32 : decode cX1_houseRow 32 = .ok (.areturn, 1) := by decide +kernel
theorem dX1_houseRow_33 : decode cX1_houseRow 33 = .ok (.aload_n 0, 1) := by decide +kernel
theorem dX1_houseRow_34 : decode cX1_houseRow 34 = .ok (.getfield 22, 3) := by decide +kernel
theorem dX1_houseRow_37 : decode cX1_houseRow 37 = .ok (.areturn, 1) := by decide +kernel
theorem dX1_houseRow_38 : decode cX1_houseRow 38 = .ok (.aload_n 0, 1) := by decide +kernel
theorem dX1_houseRow_39 : decode cX1_houseRow 39 = .ok (.getfield 25, 3) := by decide +kernel
theorem dX1_houseRow_42 : decode cX1_houseRow 42 = .ok (.areturn, 1) := by decide +kernel
theorem dX1_sneezerRow_0 : decode cX1_sneezerRow 0 = .ok (.iload_n 1, 1) := by decide +kernel
theorem dX1_sneezerRow_1 : decode cX1_sneezerRow 1 = .ok (.tableswitch 51 1 4 #[31, 36, 41, 46], 31) := by decide +kernel
theorem dX1_sneezerRow_32 : decode cX1_sneezerRow 32 = .ok (.aload_n 0, 1) := by decide +kernel
theorem dX1_sneezerRow_33 : decode cX1_sneezerRow 33 = .ok (.getfield 34, 3) := by decide +kernel
theorem dX1_sneezerRow_36 : decode cX1_sneezerRow 36 = .ok (.areturn, 1) := by decide +kernel
theorem dX1_sneezerRow_37 : decode cX1_sneezerRow 37 = .ok (.aload_n 0, 1) := by decide +kernel
theorem dX1_sneezerRow_38 : decode cX1_sneezerRow 38 = .ok (.getfield 37, 3) := by decide +kernel
theorem dX1_sneezerRow_41 : decode cX1_sneezerRow 41 = .ok (.areturn, 1) := by decide +kernel
theorem dX1_sneezerRow_42 : decode cX1_sneezerRow 42 = .ok (.aload_n 0, 1) := by decide +kernel
theorem dX1_sneezerRow_43 : decode cX1_sneezerRow 43 = .ok (.getfield 40, 3) := by decide +kernel
theorem dX1_sneezerRow_46 : decode cX1_sneezerRow 46 = .ok (.areturn, 1) := by decide +kernel
theorem dX1_sneezerRow_47 : decode cX1_sneezerRow 47 = .ok (.aload_n 0, 1) := by decide +kernel
theorem dX1_sneezerRow_48 : decode cX1_sneezerRow 48 = .ok (.getfield 43, 3) := by decide +kernel
theorem dX1_sneezerRow_51 : decode cX1_sneezerRow 51 = .ok (.areturn, 1) := by decide +kernel
theorem dX1_sneezerRow_52 : decode cX1_sneezerRow 52 = .ok (.aload_n 0, 1) := by decide +kernel
theorem dX1_sneezerRow_53 : decode cX1_sneezerRow 53 = .ok (.getfield 46, 3) := by decide +kernel
theorem dX1_sneezerRow_56 : decode cX1_sneezerRow 56 = .ok (.areturn, 1) := by decide +kernel
theorem dX1_burns_0 : decode cX1_burns 0 = .ok (.aload_n 0, 1) := by decide +kernel
theorem dX1_burns_1 : decode cX1_burns 1 = .ok (.getfield 18, 3) := by decide +kernel
theorem dX1_burns_4 : decode cX1_burns 4 = .ok (.iload_n 1, 1) := by decide +kernel
theorem dX1_burns_5 : decode cX1_burns 5 = .ok (.iaload, 1) := by decide +kernel
theorem dX1_burns_6 : decode cX1_burns 6 = .ok (.ifCond .le 7, 3) := by decide +kernel
theorem dX1_burns_9 : decode cX1_burns 9 = .ok (.iconst 1, 1) := by decide +kernel
theorem dX1_burns_10 : decode cX1_burns 10 = .ok (.goto 4, 3) := by decide +kernel
theorem dX1_burns_13 : decode cX1_burns 13 = .ok (.iconst 0, 1) := by decide +kernel
theorem dX1_burns_14 : decode cX1_burns 14 = .ok (.ireturn, 1) := by decide +kernel
theorem dX1_burning_0 : decode cX1_burning 0 = .ok (.iconst 0, 1) := by decide +kernel
theorem dX1_burning_1 : decode cX1_burning 1 = .ok (.istore_n 1, 1) := by decide +kernel
theorem dX1_burning_2 : decode cX1_burning 2 = .ok (.iconst 0, 1) := by decide +kernel
theorem dX1_burning_3 : decode cX1_burning 3 = .ok (.istore_n 2, 1) := by decide +kernel
theorem dX1_burning_4 : decode cX1_burning 4 = .ok (.iload_n 2, 1) := by decide +kernel
theorem dX1_burning_5 : decode cX1_burning 5 = .ok (.bipush 12, 2) := by decide +kernel
theorem dX1_burning_7 : decode cX1_burning 7 = .ok (.if_icmp .ge 23, 3) := by decide +kernel
theorem dX1_burning_10 : decode cX1_burning 10 = .ok (.aload_n 0, 1) := by decide +kernel
theorem dX1_burning_11 : decode cX1_burning 11 = .ok (.iload_n 2, 1) := by decide +kernel
theorem dX1_burning_12 : decode cX1_burning 12 = .ok (.invokevirtual 58, 3) := by decide +kernel
theorem dX1_burning_15 : decode cX1_burning 15 = .ok (.ifCond .eq 9, 3) := by decide +kernel
theorem dX1_burning_18 : decode cX1_burning 18 = .ok (.iload_n 1, 1) := by decide +kernel
theorem dX1_burning_19 : decode cX1_burning 19 = .ok (.iconst 1, 1) := by decide +kernel
theorem dX1_burning_20 : decode cX1_burning 20 = .ok (.iload_n 2, 1) := by decide +kernel
theorem dX1_burning_21 : decode cX1_burning 21 = .ok (.ishl, 1) := by decide +kernel
theorem dX1_burning_22 : decode cX1_burning 22 = .ok (.ior, 1) := by decide +kernel
theorem dX1_burning_23 : decode cX1_burning 23 = .ok (.istore_n 1, 1) := by decide +kernel
theorem dX1_burning_24 : decode cX1_burning 24 = .ok (.iinc 2 1, 3) := by decide +kernel
theorem dX1_burning_27 : decode cX1_burning 27 = .ok (.goto (-23), 3) := by decide +kernel
theorem dX1_burning_30 : decode cX1_burning 30 = .ok (.iload_n 1, 1) := by decide +kernel
theorem dX1_burning_31 : decode cX1_burning 31 = .ok (.ireturn, 1) := by decide +kernel
theorem dX1_lampsBurning_0 : decode cX1_lampsBurning 0 = .ok (.iconst 0, 1) := by decide +kernel
theorem dX1_lampsBurning_1 : decode cX1_lampsBurning 1 = .ok (.istore_n 1, 1) := by decide +kernel
theorem dX1_lampsBurning_2 : decode cX1_lampsBurning 2 = .ok (.iconst 0, 1) := by decide +kernel
theorem dX1_lampsBurning_3 : decode cX1_lampsBurning 3 = .ok (.istore_n 2, 1) := by decide +kernel
theorem dX1_lampsBurning_4 : decode cX1_lampsBurning 4 = .ok (.iload_n 2, 1) := by decide +kernel
theorem dX1_lampsBurning_5 : decode cX1_lampsBurning 5 = .ok (.bipush 12, 2) := by decide +kernel
theorem dX1_lampsBurning_7 : decode cX1_lampsBurning 7 = .ok (.if_icmp .ge 21, 3) := by decide +kernel
theorem dX1_lampsBurning_10 : decode cX1_lampsBurning 10 = .ok (.aload_n 0, 1) := by decide +kernel
theorem dX1_lampsBurning_11 : decode cX1_lampsBurning 11 = .ok (.getfield 18, 3) := by decide +kernel
theorem dX1_lampsBurning_14 : decode cX1_lampsBurning 14 = .ok (.iload_n 2, 1) := by decide +kernel
theorem dX1_lampsBurning_15 : decode cX1_lampsBurning 15 = .ok (.iaload, 1) := by decide +kernel
theorem dX1_lampsBurning_16 : decode cX1_lampsBurning 16 = .ok (.ifCond .le 6, 3) := by decide +kernel
theorem dX1_lampsBurning_19 : decode cX1_lampsBurning 19 = .ok (.iinc 1 1, 3) := by decide +kernel
theorem dX1_lampsBurning_22 : decode cX1_lampsBurning 22 = .ok (.iinc 2 1, 3) := by decide +kernel
theorem dX1_lampsBurning_25 : decode cX1_lampsBurning 25 = .ok (.goto (-21), 3) := by decide +kernel
theorem dX1_lampsBurning_28 : decode cX1_lampsBurning 28 = .ok (.iload_n 1, 1) := by decide +kernel
theorem dX1_lampsBurning_29 : decode cX1_lampsBurning 29 = .ok (.ireturn, 1) := by decide +kernel
theorem dX1_openBooks_0 : decode cX1_openBooks 0 = .ok (.iconst 0, 1) := by decide +kernel
theorem dX1_openBooks_1 : decode cX1_openBooks 1 = .ok (.istore_n 1, 1) := by decide +kernel
theorem dX1_openBooks_2 : decode cX1_openBooks 2 = .ok (.iconst 0, 1) := by decide +kernel
theorem dX1_openBooks_3 : decode cX1_openBooks 3 = .ok (.istore_n 2, 1) := by decide +kernel
theorem dX1_openBooks_4 : decode cX1_openBooks 4 = .ok (.iload_n 2, 1) := by decide +kernel
theorem dX1_openBooks_5 : decode cX1_openBooks 5 = .ok (.bipush 12, 2) := by decide +kernel
theorem dX1_openBooks_7 : decode cX1_openBooks 7 = .ok (.if_icmp .ge 25, 3) := by decide +kernel
theorem dX1_openBooks_10 : decode cX1_openBooks 10 = .ok (.aload_n 0, 1) := by decide +kernel
theorem dX1_openBooks_11 : decode cX1_openBooks 11 = .ok (.getfield 22, 3) := by decide +kernel
theorem dX1_openBooks_14 : decode cX1_openBooks 14 = .ok (.iload_n 2, 1) := by decide +kernel
theorem dX1_openBooks_15 : decode cX1_openBooks 15 = .ok (.iaload, 1) := by decide +kernel
theorem dX1_openBooks_16 : decode cX1_openBooks 16 = .ok (.iconst 1, 1) := by decide +kernel
theorem dX1_openBooks_17 : decode cX1_openBooks 17 = .ok (.if_icmp .ne 9, 3) := by decide +kernel
theorem dX1_openBooks_20 : decode cX1_openBooks 20 = .ok (.iload_n 1, 1) := by decide +kernel
theorem dX1_openBooks_21 : decode cX1_openBooks 21 = .ok (.iconst 1, 1) := by decide +kernel
theorem dX1_openBooks_22 : decode cX1_openBooks 22 = .ok (.iload_n 2, 1) := by decide +kernel
theorem dX1_openBooks_23 : decode cX1_openBooks 23 = .ok (.ishl, 1) := by decide +kernel
theorem dX1_openBooks_24 : decode cX1_openBooks 24 = .ok (.ior, 1) := by decide +kernel
theorem dX1_openBooks_25 : decode cX1_openBooks 25 = .ok (.istore_n 1, 1) := by decide +kernel
theorem dX1_openBooks_26 : decode cX1_openBooks 26 = .ok (.iinc 2 1, 3) := by decide +kernel
theorem dX1_openBooks_29 : decode cX1_openBooks 29 = .ok (.goto (-25), 3) := by decide +kernel
theorem dX1_openBooks_32 : decode cX1_openBooks 32 = .ok (.iload_n 1, 1) := by decide +kernel
theorem dX1_openBooks_33 : decode cX1_openBooks 33 = .ok (.ireturn, 1) := by decide +kernel
theorem dX1_whoIsAt_0 : decode cX1_whoIsAt 0 = .ok (.iconst 0, 1) := by decide +kernel
theorem dX1_whoIsAt_1 : decode cX1_whoIsAt 1 = .ok (.istore_n 2, 1) := by decide +kernel
theorem dX1_whoIsAt_2 : decode cX1_whoIsAt 2 = .ok (.iconst 0, 1) := by decide +kernel
theorem dX1_whoIsAt_3 : decode cX1_whoIsAt 3 = .ok (.istore_n 3, 1) := by decide +kernel
theorem dX1_whoIsAt_4 : decode cX1_whoIsAt 4 = .ok (.iload_n 3, 1) := by decide +kernel
theorem dX1_whoIsAt_5 : decode cX1_whoIsAt 5 = .ok (.aload_n 0, 1) := by decide +kernel
theorem dX1_whoIsAt_6 : decode cX1_whoIsAt 6 = .ok (.getfield 28, 3) := by decide +kernel
theorem dX1_whoIsAt_9 : decode cX1_whoIsAt 9 = .ok (.if_icmp .ge 25, 3) := by decide +kernel
theorem dX1_whoIsAt_12 : decode cX1_whoIsAt 12 = .ok (.aload_n 0, 1) := by decide +kernel
theorem dX1_whoIsAt_13 : decode cX1_whoIsAt 13 = .ok (.getfield 34, 3) := by decide +kernel
theorem dX1_whoIsAt_16 : decode cX1_whoIsAt 16 = .ok (.iload_n 3, 1) := by decide +kernel
theorem dX1_whoIsAt_17 : decode cX1_whoIsAt 17 = .ok (.iaload, 1) := by decide +kernel
theorem dX1_whoIsAt_18 : decode cX1_whoIsAt 18 = .ok (.iload_n 1, 1) := by decide +kernel
theorem dX1_whoIsAt_19 : decode cX1_whoIsAt 19 = .ok (.if_icmp .ne 9, 3) := by decide +kernel
theorem dX1_whoIsAt_22 : decode cX1_whoIsAt 22 = .ok (.iload_n 2, 1) := by decide +kernel
theorem dX1_whoIsAt_23 : decode cX1_whoIsAt 23 = .ok (.iconst 1, 1) := by decide +kernel
theorem dX1_whoIsAt_24 : decode cX1_whoIsAt 24 = .ok (.iload_n 3, 1) := by decide +kernel
theorem dX1_whoIsAt_25 : decode cX1_whoIsAt 25 = .ok (.ishl, 1) := by decide +kernel
theorem dX1_whoIsAt_26 : decode cX1_whoIsAt 26 = .ok (.ior, 1) := by decide +kernel
theorem dX1_whoIsAt_27 : decode cX1_whoIsAt 27 = .ok (.istore_n 2, 1) := by decide +kernel
theorem dX1_whoIsAt_28 : decode cX1_whoIsAt 28 = .ok (.iinc 3 1, 3) := by decide +kernel
theorem dX1_whoIsAt_31 : decode cX1_whoIsAt 31 = .ok (.goto (-27), 3) := by decide +kernel
theorem dX1_whoIsAt_34 : decode cX1_whoIsAt 34 = .ok (.iload_n 2, 1) := by decide +kernel
theorem dX1_whoIsAt_35 : decode cX1_whoIsAt 35 = .ok (.ireturn, 1) := by decide +kernel
theorem dX1_readOfAll_0 : decode cX1_readOfAll 0 = .ok (.iconst 0, 1) := by decide +kernel
theorem dX1_readOfAll_1 : decode cX1_readOfAll 1 = .ok (.istore_n 1, 1) := by decide +kernel
theorem dX1_readOfAll_2 : decode cX1_readOfAll 2 = .ok (.iconst 0, 1) := by decide +kernel
theorem dX1_readOfAll_3 : decode cX1_readOfAll 3 = .ok (.istore_n 2, 1) := by decide +kernel
theorem dX1_readOfAll_4 : decode cX1_readOfAll 4 = .ok (.iload_n 2, 1) := by decide +kernel
theorem dX1_readOfAll_5 : decode cX1_readOfAll 5 = .ok (.bipush 12, 2) := by decide +kernel
theorem dX1_readOfAll_7 : decode cX1_readOfAll 7 = .ok (.if_icmp .ge 18, 3) := by decide +kernel
theorem dX1_readOfAll_10 : decode cX1_readOfAll 10 = .ok (.iload_n 1, 1) := by decide +kernel
theorem dX1_readOfAll_11 : decode cX1_readOfAll 11 = .ok (.aload_n 0, 1) := by decide +kernel
theorem dX1_readOfAll_12 : decode cX1_readOfAll 12 = .ok (.getfield 25, 3) := by decide +kernel
theorem dX1_readOfAll_15 : decode cX1_readOfAll 15 = .ok (.iload_n 2, 1) := by decide +kernel
theorem dX1_readOfAll_16 : decode cX1_readOfAll 16 = .ok (.iaload, 1) := by decide +kernel
theorem dX1_readOfAll_17 : decode cX1_readOfAll 17 = .ok (.iadd, 1) := by decide +kernel
theorem dX1_readOfAll_18 : decode cX1_readOfAll 18 = .ok (.istore_n 1, 1) := by decide +kernel
theorem dX1_readOfAll_19 : decode cX1_readOfAll 19 = .ok (.iinc 2 1, 3) := by decide +kernel
theorem dX1_readOfAll_22 : decode cX1_readOfAll 22 = .ok (.goto (-18), 3) := by decide +kernel
theorem dX1_readOfAll_25 : decode cX1_readOfAll 25 = .ok (.iload_n 1, 1) := by decide +kernel
theorem dX1_readOfAll_26 : decode cX1_readOfAll 26 = .ok (.ireturn, 1) := by decide +kernel
theorem dX1_coldOfAll_0 : decode cX1_coldOfAll 0 = .ok (.iconst 0, 1) := by decide +kernel
theorem dX1_coldOfAll_1 : decode cX1_coldOfAll 1 = .ok (.istore_n 1, 1) := by decide +kernel
theorem dX1_coldOfAll_2 : decode cX1_coldOfAll 2 = .ok (.iconst 0, 1) := by decide +kernel
theorem dX1_coldOfAll_3 : decode cX1_coldOfAll 3 = .ok (.istore_n 2, 1) := by decide +kernel
theorem dX1_coldOfAll_4 : decode cX1_coldOfAll 4 = .ok (.iload_n 2, 1) := by decide +kernel
theorem dX1_coldOfAll_5 : decode cX1_coldOfAll 5 = .ok (.aload_n 0, 1) := by decide +kernel
theorem dX1_coldOfAll_6 : decode cX1_coldOfAll 6 = .ok (.getfield 28, 3) := by decide +kernel
theorem dX1_coldOfAll_9 : decode cX1_coldOfAll 9 = .ok (.if_icmp .ge 18, 3) := by decide +kernel
theorem dX1_coldOfAll_12 : decode cX1_coldOfAll 12 = .ok (.iload_n 1, 1) := by decide +kernel
theorem dX1_coldOfAll_13 : decode cX1_coldOfAll 13 = .ok (.aload_n 0, 1) := by decide +kernel
theorem dX1_coldOfAll_14 : decode cX1_coldOfAll 14 = .ok (.getfield 40, 3) := by decide +kernel
theorem dX1_coldOfAll_17 : decode cX1_coldOfAll 17 = .ok (.iload_n 2, 1) := by decide +kernel
theorem dX1_coldOfAll_18 : decode cX1_coldOfAll 18 = .ok (.iaload, 1) := by decide +kernel
theorem dX1_coldOfAll_19 : decode cX1_coldOfAll 19 = .ok (.iadd, 1) := by decide +kernel
theorem dX1_coldOfAll_20 : decode cX1_coldOfAll 20 = .ok (.istore_n 1, 1) := by decide +kernel
theorem dX1_coldOfAll_21 : decode cX1_coldOfAll 21 = .ok (.iinc 2 1, 3) := by decide +kernel
theorem dX1_coldOfAll_24 : decode cX1_coldOfAll 24 = .ok (.goto (-20), 3) := by decide +kernel
theorem dX1_coldOfAll_27 : decode cX1_coldOfAll 27 = .ok (.iload_n 1, 1) := by decide +kernel
theorem dX1_coldOfAll_28 : decode cX1_coldOfAll 28 = .ok (.ireturn, 1) := by decide +kernel
theorem dX1_goneOffOfAll_0 : decode cX1_goneOffOfAll 0 = .ok (.iconst 0, 1) := by decide +kernel
theorem dX1_goneOffOfAll_1 : decode cX1_goneOffOfAll 1 = .ok (.istore_n 1, 1) := by decide +kernel
theorem dX1_goneOffOfAll_2 : decode cX1_goneOffOfAll 2 = .ok (.iconst 0, 1) := by decide +kernel
theorem dX1_goneOffOfAll_3 : decode cX1_goneOffOfAll 3 = .ok (.istore_n 2, 1) := by decide +kernel
theorem dX1_goneOffOfAll_4 : decode cX1_goneOffOfAll 4 = .ok (.iload_n 2, 1) := by decide +kernel
theorem dX1_goneOffOfAll_5 : decode cX1_goneOffOfAll 5 = .ok (.aload_n 0, 1) := by decide +kernel
theorem dX1_goneOffOfAll_6 : decode cX1_goneOffOfAll 6 = .ok (.getfield 28, 3) := by decide +kernel
theorem dX1_goneOffOfAll_9 : decode cX1_goneOffOfAll 9 = .ok (.if_icmp .ge 18, 3) := by decide +kernel
theorem dX1_goneOffOfAll_12 : decode cX1_goneOffOfAll 12 = .ok (.iload_n 1, 1) := by decide +kernel
theorem dX1_goneOffOfAll_13 : decode cX1_goneOffOfAll 13 = .ok (.aload_n 0, 1) := by decide +kernel
theorem dX1_goneOffOfAll_14 : decode cX1_goneOffOfAll 14 = .ok (.getfield 46, 3) := by decide +kernel
theorem dX1_goneOffOfAll_17 : decode cX1_goneOffOfAll 17 = .ok (.iload_n 2, 1) := by decide +kernel
theorem dX1_goneOffOfAll_18 : decode cX1_goneOffOfAll 18 = .ok (.iaload, 1) := by decide +kernel
theorem dX1_goneOffOfAll_19 : decode cX1_goneOffOfAll 19 = .ok (.iadd, 1) := by decide +kernel
theorem dX1_goneOffOfAll_20 : decode cX1_goneOffOfAll 20 = .ok (.istore_n 1, 1) := by decide +kernel
theorem dX1_goneOffOfAll_21 : decode cX1_goneOffOfAll 21 = .ok (.iinc 2 1, 3) := by decide +kernel
theorem dX1_goneOffOfAll_24 : decode cX1_goneOffOfAll 24 = .ok (.goto (-20), 3) := by decide +kernel
theorem dX1_goneOffOfAll_27 : decode cX1_goneOffOfAll 27 = .ok (.iload_n 1, 1) := by decide +kernel
theorem dX1_goneOffOfAll_28 : decode cX1_goneOffOfAll 28 = .ok (.ireturn, 1) := by decide +kernel
theorem dX1_ticklesOf_0 : decode cX1_ticklesOf 0 = .ok (.iconst 0, 1) := by decide +kernel
theorem dX1_ticklesOf_1 : decode cX1_ticklesOf 1 = .ok (.aload_n 0, 1) := by decide +kernel
theorem dX1_ticklesOf_2 : decode cX1_ticklesOf 2 = .ok (.getfield 40, 3) := by decide +kernel
theorem dX1_ticklesOf_5 : decode cX1_ticklesOf 5 = .ok (.iload_n 1, 1) := by decide +kernel
theorem dX1_ticklesOf_6 : decode cX1_ticklesOf 6 = .ok (.iaload, 1) := by decide +kernel
theorem dX1_ticklesOf_7 : decode cX1_ticklesOf 7 = .ok (.iconst 4, 1) := by decide +kernel
theorem dX1_ticklesOf_8 : decode cX1_ticklesOf 8 = .ok (.idiv, 1) := by decide +kernel
theorem dX1_ticklesOf_9 : decode cX1_ticklesOf 9 = .ok (.aload_n 0, 1) := by decide +kernel
theorem dX1_ticklesOf_10 : decode cX1_ticklesOf 10 = .ok (.getfield 15, 3) := by decide +kernel
theorem dX1_ticklesOf_13 : decode cX1_ticklesOf 13 = .ok (.isub, 1) := by decide +kernel
theorem dX1_ticklesOf_14 : decode cX1_ticklesOf 14 = .ok (.invokestatic 62, 3) := by decide +kernel
theorem dX1_ticklesOf_17 : decode cX1_ticklesOf 17 = .ok (.istore_n 2, 1) := by decide +kernel
theorem dX1_ticklesOf_18 : decode cX1_ticklesOf 18 = .ok (.iload_n 2, 1) := by decide +kernel
theorem dX1_ticklesOf_19 : decode cX1_ticklesOf 19 = .ok (.iconst 2, 1) := by decide +kernel
theorem dX1_ticklesOf_20 : decode cX1_ticklesOf 20 = .ok (.idiv, 1) := by decide +kernel
theorem dX1_ticklesOf_21 : decode cX1_ticklesOf 21 = .ok (.istore_n 3, 1) := by decide +kernel
theorem dX1_ticklesOf_22 : decode cX1_ticklesOf 22 = .ok (.iload_n 2, 1) := by decide +kernel
theorem dX1_ticklesOf_23 : decode cX1_ticklesOf 23 = .ok (.iconst 3, 1) := by decide +kernel
theorem dX1_ticklesOf_24 : decode cX1_ticklesOf 24 = .ok (.iadd, 1) := by decide +kernel
theorem dX1_ticklesOf_25 : decode cX1_ticklesOf 25 = .ok (.istore 4, 2) := by decide +kernel
theorem dX1_ticklesOf_27 : decode cX1_ticklesOf 27 = .ok (.aload_n 0, 1) := by decide +kernel
theorem dX1_ticklesOf_28 : decode cX1_ticklesOf 28 = .ok (.getfield 31, 3) := by decide +kernel
theorem dX1_ticklesOf_31 : decode cX1_ticklesOf 31 = .ok (.iload_n 1, 1) := by decide +kernel
theorem dX1_ticklesOf_32 : decode cX1_ticklesOf 32 = .ok (.iaload, 1) := by decide +kernel
theorem dX1_ticklesOf_33 : decode cX1_ticklesOf 33 = .ok (.tableswitch 69 1 5 #[35, 37, 40, 42, 46], 35) := by decide +kernel
theorem dX1_ticklesOf_68 : decode cX1_ticklesOf 68 = .ok (.iload_n 3, 1) := by decide +kernel
theorem dX1_ticklesOf_69 : decode cX1_ticklesOf 69 = .ok (.ireturn, 1) := by decide +kernel
theorem dX1_ticklesOf_70 : decode cX1_ticklesOf 70 = .ok (.iload 4, 2) := by decide +kernel
theorem dX1_ticklesOf_72 : decode cX1_ticklesOf 72 = .ok (.ireturn, 1) := by decide +kernel
theorem dX1_ticklesOf_73 : decode cX1_ticklesOf 73 = .ok (.iconst 0, 1) := by decide +kernel
theorem dX1_ticklesOf_74 : decode cX1_ticklesOf 74 = .ok (.ireturn, 1) := by decide +kernel
theorem dX1_ticklesOf_75 : decode cX1_ticklesOf 75 = .ok (.iload_n 3, 1) := by decide +kernel
theorem dX1_ticklesOf_76 : decode cX1_ticklesOf 76 = .ok (.iconst 1, 1) := by decide +kernel
theorem dX1_ticklesOf_77 : decode cX1_ticklesOf 77 = .ok (.iadd, 1) := by decide +kernel
theorem dX1_ticklesOf_78 : decode cX1_ticklesOf 78 = .ok (.ireturn, 1) := by decide +kernel
theorem dX1_ticklesOf_79 : decode cX1_ticklesOf 79 = .ok (.aload_n 0, 1) := by decide +kernel
theorem dX1_ticklesOf_80 : decode cX1_ticklesOf 80 = .ok (.aload_n 0, 1) := by decide +kernel
theorem dX1_ticklesOf_81 : decode cX1_ticklesOf 81 = .ok (.getfield 34, 3) := by decide +kernel
theorem dX1_ticklesOf_84 : decode cX1_ticklesOf 84 = .ok (.iload_n 1, 1) := by decide +kernel
theorem dX1_ticklesOf_85 : decode cX1_ticklesOf 85 = .ok (.iaload, 1) := by decide +kernel
theorem dX1_ticklesOf_86 : decode cX1_ticklesOf 86 = .ok (.invokevirtual 58, 3) := by decide +kernel
theorem dX1_ticklesOf_89 : decode cX1_ticklesOf 89 = .ok (.ifCond .eq 10, 3) := by decide +kernel
theorem dX1_ticklesOf_92 : decode cX1_ticklesOf 92 = .ok (.iconst 2, 1) := by decide +kernel
theorem dX1_ticklesOf_93 : decode cX1_ticklesOf 93 = .ok (.iload 4, 2) := by decide +kernel
theorem dX1_ticklesOf_95 : decode cX1_ticklesOf 95 = .ok (.imul, 1) := by decide +kernel
theorem dX1_ticklesOf_96 : decode cX1_ticklesOf 96 = .ok (.goto 5, 3) := by decide +kernel
theorem dX1_ticklesOf_99 : decode cX1_ticklesOf 99 = .ok (.iload 4, 2) := by decide +kernel
theorem dX1_ticklesOf_101 : decode cX1_ticklesOf 101 = .ok (.ireturn, 1) := by decide +kernel
theorem dX1_ticklesOf_102 : decode cX1_ticklesOf 102 = .ok (.iload_n 2, 1) := by decide +kernel
theorem dX1_ticklesOf_103 : decode cX1_ticklesOf 103 = .ok (.ireturn, 1) := by decide +kernel
theorem dX1_holdsOf_0 : decode cX1_holdsOf 0 = .ok (.bipush 30, 2) := by decide +kernel
theorem dX1_holdsOf_2 : decode cX1_holdsOf 2 = .ok (.istore_n 2, 1) := by decide +kernel
theorem dX1_holdsOf_3 : decode cX1_holdsOf 3 = .ok (.iload_n 2, 1) := by decide +kernel
theorem dX1_holdsOf_4 : decode cX1_holdsOf 4 = .ok (.bipush 60, 2) := by decide +kernel
theorem dX1_holdsOf_6 : decode cX1_holdsOf 6 = .ok (.iadd, 1) := by decide +kernel
theorem dX1_holdsOf_7 : decode cX1_holdsOf 7 = .ok (.istore_n 3, 1) := by decide +kernel
theorem dX1_holdsOf_8 : decode cX1_holdsOf 8 = .ok (.iload_n 2, 1) := by decide +kernel
theorem dX1_holdsOf_9 : decode cX1_holdsOf 9 = .ok (.bipush 10, 2) := by decide +kernel
theorem dX1_holdsOf_11 : decode cX1_holdsOf 11 = .ok (.isub, 1) := by decide +kernel
theorem dX1_holdsOf_12 : decode cX1_holdsOf 12 = .ok (.istore 4, 2) := by decide +kernel
theorem dX1_holdsOf_14 : decode cX1_holdsOf 14 = .ok (.aload_n 0, 1) := by decide +kernel
theorem dX1_holdsOf_15 : decode cX1_holdsOf 15 = .ok (.getfield 31, 3) := by decide +kernel
theorem dX1_holdsOf_18 : decode cX1_holdsOf 18 = .ok (.iload_n 1, 1) := by decide +kernel
theorem dX1_holdsOf_19 : decode cX1_holdsOf 19 = .ok (.iaload, 1) := by decide +kernel
theorem dX1_holdsOf_20 : decode cX1_holdsOf 20 = .ok (.tableswitch 56 1 5 #[36, 38, 41, 44, 53], 36) := by decide +kernel
theorem dX1_holdsOf_56 : decode cX1_holdsOf 56 = .ok (.iload_n 3, 1) := by decide +kernel
theorem dX1_holdsOf_57 : decode cX1_holdsOf 57 = .ok (.ireturn, 1) := by decide +kernel
theorem dX1_holdsOf_58 : decode cX1_holdsOf 58 = .ok (.iload 4, 2) := by decide +kernel
theorem dX1_holdsOf_60 : decode cX1_holdsOf 60 = .ok (.ireturn, 1) := by decide +kernel
theorem dX1_holdsOf_61 : decode cX1_holdsOf 61 = .ok (.bipush 99, 2) := by decide +kernel
theorem dX1_holdsOf_63 : decode cX1_holdsOf 63 = .ok (.ireturn, 1) := by decide +kernel
theorem dX1_holdsOf_64 : decode cX1_holdsOf 64 = .ok (.iload_n 3, 1) := by decide +kernel
theorem dX1_holdsOf_65 : decode cX1_holdsOf 65 = .ok (.iconst 5, 1) := by decide +kernel
theorem dX1_holdsOf_66 : decode cX1_holdsOf 66 = .ok (.aload_n 0, 1) := by decide +kernel
theorem dX1_holdsOf_67 : decode cX1_holdsOf 67 = .ok (.invokevirtual 68, 3) := by decide +kernel
theorem dX1_holdsOf_70 : decode cX1_holdsOf 70 = .ok (.imul, 1) := by decide +kernel
theorem dX1_holdsOf_71 : decode cX1_holdsOf 71 = .ok (.isub, 1) := by decide +kernel
theorem dX1_holdsOf_72 : decode cX1_holdsOf 72 = .ok (.ireturn, 1) := by decide +kernel
theorem dX1_holdsOf_73 : decode cX1_holdsOf 73 = .ok (.iload 4, 2) := by decide +kernel
theorem dX1_holdsOf_75 : decode cX1_holdsOf 75 = .ok (.ireturn, 1) := by decide +kernel
theorem dX1_holdsOf_76 : decode cX1_holdsOf 76 = .ok (.iload_n 2, 1) := by decide +kernel
theorem dX1_holdsOf_77 : decode cX1_holdsOf 77 = .ok (.ireturn, 1) := by decide +kernel
theorem dX1_blowsOf_0 : decode cX1_blowsOf 0 = .ok (.iconst 1, 1) := by decide +kernel
theorem dX1_blowsOf_1 : decode cX1_blowsOf 1 = .ok (.aload_n 0, 1) := by decide +kernel
theorem dX1_blowsOf_2 : decode cX1_blowsOf 2 = .ok (.getfield 40, 3) := by decide +kernel
theorem dX1_blowsOf_5 : decode cX1_blowsOf 5 = .ok (.iload_n 1, 1) := by decide +kernel
theorem dX1_blowsOf_6 : decode cX1_blowsOf 6 = .ok (.iaload, 1) := by decide +kernel
theorem dX1_blowsOf_7 : decode cX1_blowsOf 7 = .ok (.bipush 25, 2) := by decide +kernel
theorem dX1_blowsOf_9 : decode cX1_blowsOf 9 = .ok (.idiv, 1) := by decide +kernel
theorem dX1_blowsOf_10 : decode cX1_blowsOf 10 = .ok (.iadd, 1) := by decide +kernel
theorem dX1_blowsOf_11 : decode cX1_blowsOf 11 = .ok (.istore_n 2, 1) := by decide +kernel
theorem dX1_blowsOf_12 : decode cX1_blowsOf 12 = .ok (.iconst 2, 1) := by decide +kernel
theorem dX1_blowsOf_13 : decode cX1_blowsOf 13 = .ok (.iload_n 2, 1) := by decide +kernel
theorem dX1_blowsOf_14 : decode cX1_blowsOf 14 = .ok (.imul, 1) := by decide +kernel
theorem dX1_blowsOf_15 : decode cX1_blowsOf 15 = .ok (.istore_n 3, 1) := by decide +kernel
theorem dX1_blowsOf_16 : decode cX1_blowsOf 16 = .ok (.iconst 1, 1) := by decide +kernel
theorem dX1_blowsOf_17 : decode cX1_blowsOf 17 = .ok (.istore 4, 2) := by decide +kernel
theorem dX1_blowsOf_19 : decode cX1_blowsOf 19 = .ok (.aload_n 0, 1) := by decide +kernel
theorem dX1_blowsOf_20 : decode cX1_blowsOf 20 = .ok (.getfield 31, 3) := by decide +kernel
theorem dX1_blowsOf_23 : decode cX1_blowsOf 23 = .ok (.iload_n 1, 1) := by decide +kernel
theorem dX1_blowsOf_24 : decode cX1_blowsOf 24 = .ok (.iaload, 1) := by decide +kernel
theorem dX1_blowsOf_25 : decode cX1_blowsOf 25 = .ok (.tableswitch 59 1 5 #[35, 37, 40, 42, 46], 35) := by decide +kernel
theorem dX1_blowsOf_60 : decode cX1_blowsOf 60 = .ok (.iload_n 3, 1) := by decide +kernel
theorem dX1_blowsOf_61 : decode cX1_blowsOf 61 = .ok (.ireturn, 1) := by decide +kernel
theorem dX1_blowsOf_62 : decode cX1_blowsOf 62 = .ok (.iload 4, 2) := by decide +kernel
theorem dX1_blowsOf_64 : decode cX1_blowsOf 64 = .ok (.ireturn, 1) := by decide +kernel
theorem dX1_blowsOf_65 : decode cX1_blowsOf 65 = .ok (.iconst 0, 1) := by decide +kernel
theorem dX1_blowsOf_66 : decode cX1_blowsOf 66 = .ok (.ireturn, 1) := by decide +kernel
theorem dX1_blowsOf_67 : decode cX1_blowsOf 67 = .ok (.iload_n 3, 1) := by decide +kernel
theorem dX1_blowsOf_68 : decode cX1_blowsOf 68 = .ok (.iconst 1, 1) := by decide +kernel
theorem dX1_blowsOf_69 : decode cX1_blowsOf 69 = .ok (.iadd, 1) := by decide +kernel
theorem dX1_blowsOf_70 : decode cX1_blowsOf 70 = .ok (.ireturn, 1) := by decide +kernel
theorem dX1_blowsOf_71 : decode cX1_blowsOf 71 = .ok (.iload 4, 2) := by decide +kernel
theorem dX1_blowsOf_73 : decode cX1_blowsOf 73 = .ok (.aload_n 0, 1) := by decide +kernel
theorem dX1_blowsOf_74 : decode cX1_blowsOf 74 = .ok (.getfield 40, 3) := by decide +kernel
theorem dX1_blowsOf_77 : decode cX1_blowsOf 77 = .ok (.iload_n 1, 1) := by decide +kernel
theorem dX1_blowsOf_78 : decode cX1_blowsOf 78 = .ok (.iaload, 1) := by decide +kernel
theorem dX1_blowsOf_79 : decode cX1_blowsOf 79 = .ok (.bipush 50, 2) := by decide +kernel
theorem dX1_blowsOf_81 : decode cX1_blowsOf 81 = .ok (.idiv, 1) := by decide +kernel
theorem dX1_blowsOf_82 : decode cX1_blowsOf 82 = .ok (.iadd, 1) := by decide +kernel
theorem dX1_blowsOf_83 : decode cX1_blowsOf 83 = .ok (.ireturn, 1) := by decide +kernel
theorem dX1_blowsOf_84 : decode cX1_blowsOf 84 = .ok (.iload_n 2, 1) := by decide +kernel
theorem dX1_blowsOf_85 : decode cX1_blowsOf 85 = .ok (.ireturn, 1) := by decide +kernel
theorem dX1_healsOf_0 : decode cX1_healsOf 0 = .ok (.iconst 1, 1) := by decide +kernel
theorem dX1_healsOf_1 : decode cX1_healsOf 1 = .ok (.istore_n 2, 1) := by decide +kernel
theorem dX1_healsOf_2 : decode cX1_healsOf 2 = .ok (.iconst 0, 1) := by decide +kernel
theorem dX1_healsOf_3 : decode cX1_healsOf 3 = .ok (.istore_n 3, 1) := by decide +kernel
theorem dX1_healsOf_4 : decode cX1_healsOf 4 = .ok (.iload_n 2, 1) := by decide +kernel
theorem dX1_healsOf_5 : decode cX1_healsOf 5 = .ok (.iconst 1, 1) := by decide +kernel
theorem dX1_healsOf_6 : decode cX1_healsOf 6 = .ok (.iadd, 1) := by decide +kernel
theorem dX1_healsOf_7 : decode cX1_healsOf 7 = .ok (.istore 4, 2) := by decide +kernel
theorem dX1_healsOf_9 : decode cX1_healsOf 9 = .ok (.aload_n 0, 1) := by decide +kernel
theorem dX1_healsOf_10 : decode cX1_healsOf 10 = .ok (.getfield 31, 3) := by decide +kernel
theorem dX1_healsOf_13 : decode cX1_healsOf 13 = .ok (.iload_n 1, 1) := by decide +kernel
theorem dX1_healsOf_14 : decode cX1_healsOf 14 = .ok (.iaload, 1) := by decide +kernel
theorem dX1_healsOf_15 : decode cX1_healsOf 15 = .ok (.tableswitch 55 1 5 #[33, 35, 38, 41, 50], 33) := by decide +kernel
theorem dX1_healsOf_48 : decode cX1_healsOf 48 = .ok (.iload_n 3, 1) := by decide +kernel
theorem dX1_healsOf_49 : decode cX1_healsOf 49 = .ok (.ireturn, 1) := by decide +kernel
theorem dX1_healsOf_50 : decode cX1_healsOf 50 = .ok (.iload 4, 2) := by decide +kernel
theorem dX1_healsOf_52 : decode cX1_healsOf 52 = .ok (.ireturn, 1) := by decide +kernel
theorem dX1_healsOf_53 : decode cX1_healsOf 53 = .ok (.bipush 9, 2) := by decide +kernel
theorem dX1_healsOf_55 : decode cX1_healsOf 55 = .ok (.ireturn, 1) := by decide +kernel
theorem dX1_healsOf_56 : decode cX1_healsOf 56 = .ok (.iload_n 3, 1) := by decide +kernel
theorem dX1_healsOf_57 : decode cX1_healsOf 57 = .ok (.aload_n 0, 1) := by decide +kernel
theorem dX1_healsOf_58 : decode cX1_healsOf 58 = .ok (.getfield 15, 3) := by decide +kernel
theorem dX1_healsOf_61 : decode cX1_healsOf 61 = .ok (.iconst 3, 1) := by decide +kernel
theorem dX1_healsOf_62 : decode cX1_healsOf 62 = .ok (.idiv, 1) := by decide +kernel
theorem dX1_healsOf_63 : decode cX1_healsOf 63 = .ok (.iadd, 1) := by decide +kernel
theorem dX1_healsOf_64 : decode cX1_healsOf 64 = .ok (.ireturn, 1) := by decide +kernel
theorem dX1_healsOf_65 : decode cX1_healsOf 65 = .ok (.iload 4, 2) := by decide +kernel
theorem dX1_healsOf_67 : decode cX1_healsOf 67 = .ok (.iconst 1, 1) := by decide +kernel
theorem dX1_healsOf_68 : decode cX1_healsOf 68 = .ok (.isub, 1) := by decide +kernel
theorem dX1_healsOf_69 : decode cX1_healsOf 69 = .ok (.ireturn, 1) := by decide +kernel
theorem dX1_healsOf_70 : decode cX1_healsOf 70 = .ok (.iload_n 2, 1) := by decide +kernel
theorem dX1_healsOf_71 : decode cX1_healsOf 71 = .ok (.ireturn, 1) := by decide +kernel
theorem dX1_ready_0 : decode cX1_ready 0 = .ok (.iconst 0, 1) := by decide +kernel
theorem dX1_ready_1 : decode cX1_ready 1 = .ok (.istore_n 1, 1) := by decide +kernel
theorem dX1_ready_2 : decode cX1_ready 2 = .ok (.iconst 0, 1) := by decide +kernel
theorem dX1_ready_3 : decode cX1_ready 3 = .ok (.istore_n 2, 1) := by decide +kernel
theorem dX1_ready_4 : decode cX1_ready 4 = .ok (.iload_n 2, 1) := by decide +kernel
theorem dX1_ready_5 : decode cX1_ready 5 = .ok (.aload_n 0, 1) := by decide +kernel
theorem dX1_ready_6 : decode cX1_ready 6 = .ok (.getfield 28, 3) := by decide +kernel
theorem dX1_ready_9 : decode cX1_ready 9 = .ok (.if_icmp .ge 29, 3) := by decide +kernel
theorem dX1_ready_12 : decode cX1_ready 12 = .ok (.aload_n 0, 1) := by decide +kernel
theorem dX1_ready_13 : decode cX1_ready 13 = .ok (.getfield 43, 3) := by decide +kernel
theorem dX1_ready_16 : decode cX1_ready 16 = .ok (.iload_n 2, 1) := by decide +kernel
theorem dX1_ready_17 : decode cX1_ready 17 = .ok (.iaload, 1) := by decide +kernel
theorem dX1_ready_18 : decode cX1_ready 18 = .ok (.aload_n 0, 1) := by decide +kernel
theorem dX1_ready_19 : decode cX1_ready 19 = .ok (.iload_n 2, 1) := by decide +kernel
theorem dX1_ready_20 : decode cX1_ready 20 = .ok (.invokevirtual 72, 3) := by decide +kernel
theorem dX1_ready_23 : decode cX1_ready 23 = .ok (.if_icmp .lt 9, 3) := by decide +kernel
theorem dX1_ready_26 : decode cX1_ready 26 = .ok (.iload_n 1, 1) := by decide +kernel
theorem dX1_ready_27 : decode cX1_ready 27 = .ok (.iconst 1, 1) := by decide +kernel
theorem dX1_ready_28 : decode cX1_ready 28 = .ok (.iload_n 2, 1) := by decide +kernel
theorem dX1_ready_29 : decode cX1_ready 29 = .ok (.ishl, 1) := by decide +kernel
theorem dX1_ready_30 : decode cX1_ready 30 = .ok (.ior, 1) := by decide +kernel
theorem dX1_ready_31 : decode cX1_ready 31 = .ok (.istore_n 1, 1) := by decide +kernel
theorem dX1_ready_32 : decode cX1_ready 32 = .ok (.iinc 2 1, 3) := by decide +kernel
theorem dX1_ready_35 : decode cX1_ready 35 = .ok (.goto (-31), 3) := by decide +kernel
theorem dX1_ready_38 : decode cX1_ready 38 = .ok (.iload_n 1, 1) := by decide +kernel
theorem dX1_ready_39 : decode cX1_ready 39 = .ok (.ireturn, 1) := by decide +kernel
theorem dX1_goMinutes_0 : decode cX1_goMinutes 0 = .ok (.iconst 0, 1) := by decide +kernel
theorem dX1_goMinutes_1 : decode cX1_goMinutes 1 = .ok (.istore_n 2, 1) := by decide +kernel
theorem dX1_goMinutes_2 : decode cX1_goMinutes 2 = .ok (.iload_n 2, 1) := by decide +kernel
theorem dX1_goMinutes_3 : decode cX1_goMinutes 3 = .ok (.iload_n 1, 1) := by decide +kernel
theorem dX1_goMinutes_4 : decode cX1_goMinutes 4 = .ok (.if_icmp .ge 13, 3) := by decide +kernel
theorem dX1_goMinutes_7 : decode cX1_goMinutes 7 = .ok (.aload_n 0, 1) := by decide +kernel
theorem dX1_goMinutes_8 : decode cX1_goMinutes 8 = .ok (.invokevirtual 76, 3) := by decide +kernel
theorem dX1_goMinutes_11 : decode cX1_goMinutes 11 = .ok (.iinc 2 1, 3) := by decide +kernel
theorem dX1_goMinutes_14 : decode cX1_goMinutes 14 = .ok (.goto (-12), 3) := by decide +kernel
theorem dX1_goMinutes_17 : decode cX1_goMinutes 17 = .ok (.return_, 1) := by decide +kernel
theorem dX1_goMinute_0 : decode cX1_goMinute 0 = .ok (.aload_n 0, 1) := by decide +kernel
theorem dX1_goMinute_1 : decode cX1_goMinute 1 = .ok (.invokevirtual 79, 3) := by decide +kernel
theorem dX1_goMinute_4 : decode cX1_goMinute 4 = .ok (.aload_n 0, 1) := by decide +kernel
theorem dX1_goMinute_5 : decode cX1_goMinute 5 = .ok (.invokevirtual 82, 3) := by decide +kernel
theorem dX1_goMinute_8 : decode cX1_goMinute 8 = .ok (.aload_n 0, 1) := by decide +kernel
theorem dX1_goMinute_9 : decode cX1_goMinute 9 = .ok (.aload_n 0, 1) := by decide +kernel
theorem dX1_goMinute_10 : decode cX1_goMinute 10 = .ok (.invokevirtual 85, 3) := by decide +kernel
theorem dX1_goMinute_13 : decode cX1_goMinute 13 = .ok (.putfield 49, 3) := by decide +kernel
theorem dX1_goMinute_16 : decode cX1_goMinute 16 = .ok (.iconst 0, 1) := by decide +kernel
theorem dX1_goMinute_17 : decode cX1_goMinute 17 = .ok (.istore_n 1, 1) := by decide +kernel
theorem dX1_goMinute_18 : decode cX1_goMinute 18 = .ok (.iload_n 1, 1) := by decide +kernel
theorem dX1_goMinute_19 : decode cX1_goMinute 19 = .ok (.aload_n 0, 1) := by decide +kernel
theorem dX1_goMinute_20 : decode cX1_goMinute 20 = .ok (.getfield 28, 3) := by decide +kernel
theorem dX1_goMinute_23 : decode cX1_goMinute 23 = .ok (.if_icmp .ge 25, 3) := by decide +kernel
theorem dX1_goMinute_26 : decode cX1_goMinute 26 = .ok (.aload_n 0, 1) := by decide +kernel
theorem dX1_goMinute_27 : decode cX1_goMinute 27 = .ok (.getfield 49, 3) := by decide +kernel
theorem dX1_goMinute_30 : decode cX1_goMinute 30 = .ok (.iload_n 1, 1) := by decide +kernel
theorem dX1_goMinute_31 : decode cX1_goMinute 31 = .ok (.invokestatic 88, 3) := by decide +kernel
theorem dX1_goMinute_34 : decode cX1_goMinute 34 = .ok (.ifCond .eq 8, 3) := by decide +kernel
theorem dX1_goMinute_37 : decode cX1_goMinute 37 = .ok (.aload_n 0, 1) := by decide +kernel
theorem dX1_goMinute_38 : decode cX1_goMinute 38 = .ok (.iload_n 1, 1) := by decide +kernel
theorem dX1_goMinute_39 : decode cX1_goMinute 39 = .ok (.invokevirtual 92, 3) := by decide +kernel
theorem dX1_goMinute_42 : decode cX1_goMinute 42 = .ok (.iinc 1 1, 3) := by decide +kernel
theorem dX1_goMinute_45 : decode cX1_goMinute 45 = .ok (.goto (-27), 3) := by decide +kernel
theorem dX1_goMinute_48 : decode cX1_goMinute 48 = .ok (.aload_n 0, 1) := by decide +kernel
theorem dX1_goMinute_49 : decode cX1_goMinute 49 = .ok (.invokevirtual 96, 3) := by decide +kernel
theorem dX1_goMinute_52 : decode cX1_goMinute 52 = .ok (.aload_n 0, 1) := by decide +kernel
theorem dX1_goMinute_53 : decode cX1_goMinute 53 = .ok (.dup, 1) := by decide +kernel
theorem dX1_goMinute_54 : decode cX1_goMinute 54 = .ok (.getfield 9, 3) := by decide +kernel
theorem dX1_goMinute_57 : decode cX1_goMinute 57 = .ok (.iconst 1, 1) := by decide +kernel
theorem dX1_goMinute_58 : decode cX1_goMinute 58 = .ok (.iadd, 1) := by decide +kernel
theorem dX1_goMinute_59 : decode cX1_goMinute 59 = .ok (.putfield 9, 3) := by decide +kernel
theorem dX1_goMinute_62 : decode cX1_goMinute 62 = .ok (.return_, 1) := by decide +kernel
theorem dX1_burnLamps_0 : decode cX1_burnLamps 0 = .ok (.iconst 0, 1) := by decide +kernel
theorem dX1_burnLamps_1 : decode cX1_burnLamps 1 = .ok (.istore_n 1, 1) := by decide +kernel
theorem dX1_burnLamps_2 : decode cX1_burnLamps 2 = .ok (.iload_n 1, 1) := by decide +kernel
theorem dX1_burnLamps_3 : decode cX1_burnLamps 3 = .ok (.bipush 12, 2) := by decide +kernel
theorem dX1_burnLamps_5 : decode cX1_burnLamps 5 = .ok (.if_icmp .ge 47, 3) := by decide +kernel
theorem dX1_burnLamps_8 : decode cX1_burnLamps 8 = .ok (.aload_n 0, 1) := by decide +kernel
theorem dX1_burnLamps_9 : decode cX1_burnLamps 9 = .ok (.iload_n 1, 1) := by decide +kernel
theorem dX1_burnLamps_10 : decode cX1_burnLamps 10 = .ok (.invokevirtual 58, 3) := by decide +kernel
theorem dX1_burnLamps_13 : decode cX1_burnLamps 13 = .ok (.ifCond .eq 33, 3) := by decide +kernel
theorem dX1_burnLamps_16 : decode cX1_burnLamps 16 = .ok (.aload_n 0, 1) := by decide +kernel
theorem dX1_burnLamps_17 : decode cX1_burnLamps 17 = .ok (.getfield 25, 3) := by decide +kernel
theorem dX1_burnLamps_20 : decode cX1_burnLamps 20 = .ok (.iload_n 1, 1) := by decide +kernel
theorem dX1_burnLamps_21 : decode cX1_burnLamps 21 = .ok (.sipush 9999, 3) := by decide +kernel
theorem dX1_burnLamps_24 : decode cX1_burnLamps 24 = .ok (.aload_n 0, 1) := by decide +kernel
theorem dX1_burnLamps_25 : decode cX1_burnLamps 25 = .ok (.getfield 25, 3) := by decide +kernel
theorem dX1_burnLamps_28 : decode cX1_burnLamps 28 = .ok (.iload_n 1, 1) := by decide +kernel
theorem dX1_burnLamps_29 : decode cX1_burnLamps 29 = .ok (.iaload, 1) := by decide +kernel
theorem dX1_burnLamps_30 : decode cX1_burnLamps 30 = .ok (.iconst 1, 1) := by decide +kernel
theorem dX1_burnLamps_31 : decode cX1_burnLamps 31 = .ok (.iadd, 1) := by decide +kernel
theorem dX1_burnLamps_32 : decode cX1_burnLamps 32 = .ok (.invokestatic 99, 3) := by decide +kernel
theorem dX1_burnLamps_35 : decode cX1_burnLamps 35 = .ok (.iastore, 1) := by decide +kernel
theorem dX1_burnLamps_36 : decode cX1_burnLamps 36 = .ok (.aload_n 0, 1) := by decide +kernel
theorem dX1_burnLamps_37 : decode cX1_burnLamps 37 = .ok (.getfield 18, 3) := by decide +kernel
theorem dX1_burnLamps_40 : decode cX1_burnLamps 40 = .ok (.iload_n 1, 1) := by decide +kernel
theorem dX1_burnLamps_41 : decode cX1_burnLamps 41 = .ok (.dup2, 1) := by decide +kernel
theorem dX1_burnLamps_42 : decode cX1_burnLamps 42 = .ok (.iaload, 1) := by decide +kernel
theorem dX1_burnLamps_43 : decode cX1_burnLamps 43 = .ok (.iconst 1, 1) := by decide +kernel
theorem dX1_burnLamps_44 : decode cX1_burnLamps 44 = .ok (.isub, 1) := by decide +kernel
theorem dX1_burnLamps_45 : decode cX1_burnLamps 45 = .ok (.iastore, 1) := by decide +kernel
theorem dX1_burnLamps_46 : decode cX1_burnLamps 46 = .ok (.iinc 1 1, 3) := by decide +kernel
theorem dX1_burnLamps_49 : decode cX1_burnLamps 49 = .ok (.goto (-47), 3) := by decide +kernel
theorem dX1_burnLamps_52 : decode cX1_burnLamps 52 = .ok (.return_, 1) := by decide +kernel
theorem dX1_tickleAll_0 : decode cX1_tickleAll 0 = .ok (.iconst 0, 1) := by decide +kernel
theorem dX1_tickleAll_1 : decode cX1_tickleAll 1 = .ok (.istore_n 1, 1) := by decide +kernel
theorem dX1_tickleAll_2 : decode cX1_tickleAll 2 = .ok (.iload_n 1, 1) := by decide +kernel
theorem dX1_tickleAll_3 : decode cX1_tickleAll 3 = .ok (.aload_n 0, 1) := by decide +kernel
theorem dX1_tickleAll_4 : decode cX1_tickleAll 4 = .ok (.getfield 28, 3) := by decide +kernel
theorem dX1_tickleAll_7 : decode cX1_tickleAll 7 = .ok (.if_icmp .ge 32, 3) := by decide +kernel
theorem dX1_tickleAll_10 : decode cX1_tickleAll 10 = .ok (.aload_n 0, 1) := by decide +kernel
theorem dX1_tickleAll_11 : decode cX1_tickleAll 11 = .ok (.getfield 43, 3) := by decide +kernel
theorem dX1_tickleAll_14 : decode cX1_tickleAll 14 = .ok (.iload_n 1, 1) := by decide +kernel
theorem dX1_tickleAll_15 : decode cX1_tickleAll 15 = .ok (.bipush 99, 2) := by decide +kernel
theorem dX1_tickleAll_17 : decode cX1_tickleAll 17 = .ok (.aload_n 0, 1) := by decide +kernel
theorem dX1_tickleAll_18 : decode cX1_tickleAll 18 = .ok (.getfield 43, 3) := by decide +kernel
theorem dX1_tickleAll_21 : decode cX1_tickleAll 21 = .ok (.iload_n 1, 1) := by decide +kernel
theorem dX1_tickleAll_22 : decode cX1_tickleAll 22 = .ok (.iaload, 1) := by decide +kernel
theorem dX1_tickleAll_23 : decode cX1_tickleAll 23 = .ok (.aload_n 0, 1) := by decide +kernel
theorem dX1_tickleAll_24 : decode cX1_tickleAll 24 = .ok (.iload_n 1, 1) := by decide +kernel
theorem dX1_tickleAll_25 : decode cX1_tickleAll 25 = .ok (.invokevirtual 102, 3) := by decide +kernel
theorem dX1_tickleAll_28 : decode cX1_tickleAll 28 = .ok (.iadd, 1) := by decide +kernel
theorem dX1_tickleAll_29 : decode cX1_tickleAll 29 = .ok (.invokestatic 99, 3) := by decide +kernel
theorem dX1_tickleAll_32 : decode cX1_tickleAll 32 = .ok (.iastore, 1) := by decide +kernel
theorem dX1_tickleAll_33 : decode cX1_tickleAll 33 = .ok (.iinc 1 1, 3) := by decide +kernel
theorem dX1_tickleAll_36 : decode cX1_tickleAll 36 = .ok (.goto (-34), 3) := by decide +kernel
theorem dX1_tickleAll_39 : decode cX1_tickleAll 39 = .ok (.return_, 1) := by decide +kernel
theorem dX1_goOff_0 : decode cX1_goOff 0 = .ok (.aload_n 0, 1) := by decide +kernel
theorem dX1_goOff_1 : decode cX1_goOff 1 = .ok (.getfield 43, 3) := by decide +kernel
theorem dX1_goOff_4 : decode cX1_goOff 4 = .ok (.iload_n 1, 1) := by decide +kernel
theorem dX1_goOff_5 : decode cX1_goOff 5 = .ok (.iconst 0, 1) := by decide +kernel
theorem dX1_goOff_6 : decode cX1_goOff 6 = .ok (.iastore, 1) := by decide +kernel
theorem dX1_goOff_7 : decode cX1_goOff 7 = .ok (.aload_n 0, 1) := by decide +kernel
theorem dX1_goOff_8 : decode cX1_goOff 8 = .ok (.getfield 46, 3) := by decide +kernel
theorem dX1_goOff_11 : decode cX1_goOff 11 = .ok (.iload_n 1, 1) := by decide +kernel
theorem dX1_goOff_12 : decode cX1_goOff 12 = .ok (.sipush 9999, 3) := by decide +kernel
theorem dX1_goOff_15 : decode cX1_goOff 15 = .ok (.aload_n 0, 1) := by decide +kernel
theorem dX1_goOff_16 : decode cX1_goOff 16 = .ok (.getfield 46, 3) := by decide +kernel
theorem dX1_goOff_19 : decode cX1_goOff 19 = .ok (.iload_n 1, 1) := by decide +kernel
theorem dX1_goOff_20 : decode cX1_goOff 20 = .ok (.iaload, 1) := by decide +kernel
theorem dX1_goOff_21 : decode cX1_goOff 21 = .ok (.iconst 1, 1) := by decide +kernel
theorem dX1_goOff_22 : decode cX1_goOff 22 = .ok (.iadd, 1) := by decide +kernel
theorem dX1_goOff_23 : decode cX1_goOff 23 = .ok (.invokestatic 99, 3) := by decide +kernel
theorem dX1_goOff_26 : decode cX1_goOff 26 = .ok (.iastore, 1) := by decide +kernel
theorem dX1_goOff_27 : decode cX1_goOff 27 = .ok (.aload_n 0, 1) := by decide +kernel
theorem dX1_goOff_28 : decode cX1_goOff 28 = .ok (.iload_n 1, 1) := by decide +kernel
theorem dX1_goOff_29 : decode cX1_goOff 29 = .ok (.invokevirtual 105, 3) := by decide +kernel
theorem dX1_goOff_32 : decode cX1_goOff 32 = .ok (.aload_n 0, 1) := by decide +kernel
theorem dX1_goOff_33 : decode cX1_goOff 33 = .ok (.iload_n 1, 1) := by decide +kernel
theorem dX1_goOff_34 : decode cX1_goOff 34 = .ok (.invokevirtual 108, 3) := by decide +kernel
theorem dX1_goOff_37 : decode cX1_goOff 37 = .ok (.return_, 1) := by decide +kernel
theorem dX1_lightBefore_0 : decode cX1_lightBefore 0 = .ok (.aload_n 0, 1) := by decide +kernel
theorem dX1_lightBefore_1 : decode cX1_lightBefore 1 = .ok (.getfield 37, 3) := by decide +kernel
theorem dX1_lightBefore_4 : decode cX1_lightBefore 4 = .ok (.iload_n 1, 1) := by decide +kernel
theorem dX1_lightBefore_5 : decode cX1_lightBefore 5 = .ok (.iaload, 1) := by decide +kernel
theorem dX1_lightBefore_6 : decode cX1_lightBefore 6 = .ok (.iconst 1, 1) := by decide +kernel
theorem dX1_lightBefore_7 : decode cX1_lightBefore 7 = .ok (.if_icmp .ne 7, 3) := by decide +kernel
theorem dX1_lightBefore_10 : decode cX1_lightBefore 10 = .ok (.iconst 1, 1) := by decide +kernel
theorem dX1_lightBefore_11 : decode cX1_lightBefore 11 = .ok (.goto 4, 3) := by decide +kernel
theorem dX1_lightBefore_14 : decode cX1_lightBefore 14 = .ok (.iconst (-1), 1) := by decide +kernel
theorem dX1_lightBefore_15 : decode cX1_lightBefore 15 = .ok (.istore_n 2, 1) := by decide +kernel
theorem dX1_lightBefore_16 : decode cX1_lightBefore 16 = .ok (.iconst 5, 1) := by decide +kernel
theorem dX1_lightBefore_17 : decode cX1_lightBefore 17 = .ok (.aload_n 0, 1) := by decide +kernel
theorem dX1_lightBefore_18 : decode cX1_lightBefore 18 = .ok (.getfield 40, 3) := by decide +kernel
theorem dX1_lightBefore_21 : decode cX1_lightBefore 21 = .ok (.iload_n 1, 1) := by decide +kernel
theorem dX1_lightBefore_22 : decode cX1_lightBefore 22 = .ok (.iaload, 1) := by decide +kernel
theorem dX1_lightBefore_23 : decode cX1_lightBefore 23 = .ok (.bipush 10, 2) := by decide +kernel
theorem dX1_lightBefore_25 : decode cX1_lightBefore 25 = .ok (.idiv, 1) := by decide +kernel
theorem dX1_lightBefore_26 : decode cX1_lightBefore 26 = .ok (.iadd, 1) := by decide +kernel
theorem dX1_lightBefore_27 : decode cX1_lightBefore 27 = .ok (.istore_n 3, 1) := by decide +kernel
theorem dX1_lightBefore_28 : decode cX1_lightBefore 28 = .ok (.aload_n 0, 1) := by decide +kernel
theorem dX1_lightBefore_29 : decode cX1_lightBefore 29 = .ok (.iload_n 1, 1) := by decide +kernel
theorem dX1_lightBefore_30 : decode cX1_lightBefore 30 = .ok (.invokevirtual 111, 3) := by decide +kernel
theorem dX1_lightBefore_33 : decode cX1_lightBefore 33 = .ok (.istore 4, 2) := by decide +kernel
theorem dX1_lightBefore_35 : decode cX1_lightBefore 35 = .ok (.iconst 1, 1) := by decide +kernel
theorem dX1_lightBefore_36 : decode cX1_lightBefore 36 = .ok (.istore 5, 2) := by decide +kernel
theorem dX1_lightBefore_38 : decode cX1_lightBefore 38 = .ok (.iload 5, 2) := by decide +kernel
theorem dX1_lightBefore_40 : decode cX1_lightBefore 40 = .ok (.iload 4, 2) := by decide +kernel
theorem dX1_lightBefore_42 : decode cX1_lightBefore 42 = .ok (.if_icmp .gt 59, 3) := by decide +kernel
theorem dX1_lightBefore_45 : decode cX1_lightBefore 45 = .ok (.aload_n 0, 1) := by decide +kernel
theorem dX1_lightBefore_46 : decode cX1_lightBefore 46 = .ok (.getfield 34, 3) := by decide +kernel
theorem dX1_lightBefore_49 : decode cX1_lightBefore 49 = .ok (.iload_n 1, 1) := by decide +kernel
theorem dX1_lightBefore_50 : decode cX1_lightBefore 50 = .ok (.iaload, 1) := by decide +kernel
theorem dX1_lightBefore_51 : decode cX1_lightBefore 51 = .ok (.iload 5, 2) := by decide +kernel
theorem dX1_lightBefore_53 : decode cX1_lightBefore 53 = .ok (.iload_n 2, 1) := by decide +kernel
theorem dX1_lightBefore_54 : decode cX1_lightBefore 54 = .ok (.imul, 1) := by decide +kernel
theorem dX1_lightBefore_55 : decode cX1_lightBefore 55 = .ok (.iadd, 1) := by decide +kernel
theorem dX1_lightBefore_56 : decode cX1_lightBefore 56 = .ok (.istore 6, 2) := by decide +kernel
theorem dX1_lightBefore_58 : decode cX1_lightBefore 58 = .ok (.iload 6, 2) := by decide +kernel
theorem dX1_lightBefore_60 : decode cX1_lightBefore 60 = .ok (.invokestatic 114, 3) := by decide +kernel
theorem dX1_lightBefore_63 : decode cX1_lightBefore 63 = .ok (.ifCond .eq 32, 3) := by decide +kernel
theorem dX1_lightBefore_66 : decode cX1_lightBefore 66 = .ok (.aload_n 0, 1) := by decide +kernel
theorem dX1_lightBefore_67 : decode cX1_lightBefore 67 = .ok (.getfield 22, 3) := by decide +kernel
theorem dX1_lightBefore_70 : decode cX1_lightBefore 70 = .ok (.iload 6, 2) := by decide +kernel
theorem dX1_lightBefore_72 : decode cX1_lightBefore 72 = .ok (.iaload, 1) := by decide +kernel
theorem dX1_lightBefore_73 : decode cX1_lightBefore 73 = .ok (.iconst 1, 1) := by decide +kernel
theorem dX1_lightBefore_74 : decode cX1_lightBefore 74 = .ok (.if_icmp .ne 21, 3) := by decide +kernel
theorem dX1_lightBefore_77 : decode cX1_lightBefore 77 = .ok (.aload_n 0, 1) := by decide +kernel
theorem dX1_lightBefore_78 : decode cX1_lightBefore 78 = .ok (.getfield 18, 3) := by decide +kernel
theorem dX1_lightBefore_81 : decode cX1_lightBefore 81 = .ok (.iload 6, 2) := by decide +kernel
theorem dX1_lightBefore_83 : decode cX1_lightBefore 83 = .ok (.aload_n 0, 1) := by decide +kernel
theorem dX1_lightBefore_84 : decode cX1_lightBefore 84 = .ok (.getfield 18, 3) := by decide +kernel
theorem dX1_lightBefore_87 : decode cX1_lightBefore 87 = .ok (.iload 6, 2) := by decide +kernel
theorem dX1_lightBefore_89 : decode cX1_lightBefore 89 = .ok (.iaload, 1) := by decide +kernel
theorem dX1_lightBefore_90 : decode cX1_lightBefore 90 = .ok (.iload_n 3, 1) := by decide +kernel
theorem dX1_lightBefore_91 : decode cX1_lightBefore 91 = .ok (.invokestatic 62, 3) := by decide +kernel
theorem dX1_lightBefore_94 : decode cX1_lightBefore 94 = .ok (.iastore, 1) := by decide +kernel
theorem dX1_lightBefore_95 : decode cX1_lightBefore 95 = .ok (.iinc 5 1, 3) := by decide +kernel
theorem dX1_lightBefore_98 : decode cX1_lightBefore 98 = .ok (.goto (-60), 3) := by decide +kernel
theorem dX1_lightBefore_101 : decode cX1_lightBefore 101 = .ok (.return_, 1) := by decide +kernel
theorem dX1_giveCold_0 : decode cX1_giveCold 0 = .ok (.iconst 0, 1) := by decide +kernel
theorem dX1_giveCold_1 : decode cX1_giveCold 1 = .ok (.istore_n 2, 1) := by decide +kernel
theorem dX1_giveCold_2 : decode cX1_giveCold 2 = .ok (.iload_n 2, 1) := by decide +kernel
theorem dX1_giveCold_3 : decode cX1_giveCold 3 = .ok (.aload_n 0, 1) := by decide +kernel
theorem dX1_giveCold_4 : decode cX1_giveCold 4 = .ok (.getfield 28, 3) := by decide +kernel
theorem dX1_giveCold_7 : decode cX1_giveCold 7 = .ok (.if_icmp .ge 64, 3) := by decide +kernel
theorem dX1_giveCold_10 : decode cX1_giveCold 10 = .ok (.iload_n 2, 1) := by decide +kernel
theorem dX1_giveCold_11 : decode cX1_giveCold 11 = .ok (.iload_n 1, 1) := by decide +kernel
theorem dX1_giveCold_12 : decode cX1_giveCold 12 = .ok (.if_icmp .eq 53, 3) := by decide +kernel
theorem dX1_giveCold_15 : decode cX1_giveCold 15 = .ok (.aload_n 0, 1) := by decide +kernel
theorem dX1_giveCold_16 : decode cX1_giveCold 16 = .ok (.getfield 31, 3) := by decide +kernel
theorem dX1_giveCold_19 : decode cX1_giveCold 19 = .ok (.iload_n 2, 1) := by decide +kernel
theorem dX1_giveCold_20 : decode cX1_giveCold 20 = .ok (.iaload, 1) := by decide +kernel
theorem dX1_giveCold_21 : decode cX1_giveCold 21 = .ok (.iconst 3, 1) := by decide +kernel
theorem dX1_giveCold_22 : decode cX1_giveCold 22 = .ok (.if_icmp .eq 43, 3) := by decide +kernel
theorem dX1_giveCold_25 : decode cX1_giveCold 25 = .ok (.aload_n 0, 1) := by decide +kernel
theorem dX1_giveCold_26 : decode cX1_giveCold 26 = .ok (.getfield 34, 3) := by decide +kernel
theorem dX1_giveCold_29 : decode cX1_giveCold 29 = .ok (.iload_n 2, 1) := by decide +kernel
theorem dX1_giveCold_30 : decode cX1_giveCold 30 = .ok (.iaload, 1) := by decide +kernel
theorem dX1_giveCold_31 : decode cX1_giveCold 31 = .ok (.aload_n 0, 1) := by decide +kernel
theorem dX1_giveCold_32 : decode cX1_giveCold 32 = .ok (.getfield 34, 3) := by decide +kernel
theorem dX1_giveCold_35 : decode cX1_giveCold 35 = .ok (.iload_n 1, 1) := by decide +kernel
theorem dX1_giveCold_36 : decode cX1_giveCold 36 = .ok (.iaload, 1) := by decide +kernel
theorem dX1_giveCold_37 : decode cX1_giveCold 37 = .ok (.isub, 1) := by decide +kernel
theorem dX1_giveCold_38 : decode cX1_giveCold 38 = .ok (.invokestatic 117, 3) := by decide +kernel
theorem dX1_giveCold_41 : decode cX1_giveCold 41 = .ok (.iconst 1, 1) := by decide +kernel
theorem dX1_giveCold_42 : decode cX1_giveCold 42 = .ok (.if_icmp .gt 23, 3) := by decide +kernel
theorem dX1_giveCold_45 : decode cX1_giveCold 45 = .ok (.aload_n 0, 1) := by decide +kernel
theorem dX1_giveCold_46 : decode cX1_giveCold 46 = .ok (.getfield 40, 3) := by decide +kernel
theorem dX1_giveCold_49 : decode cX1_giveCold 49 = .ok (.iload_n 2, 1) := by decide +kernel
theorem dX1_giveCold_50 : decode cX1_giveCold 50 = .ok (.bipush 99, 2) := by decide +kernel
theorem dX1_giveCold_52 : decode cX1_giveCold 52 = .ok (.aload_n 0, 1) := by decide +kernel
theorem dX1_giveCold_53 : decode cX1_giveCold 53 = .ok (.getfield 40, 3) := by decide +kernel
theorem dX1_giveCold_56 : decode cX1_giveCold 56 = .ok (.iload_n 2, 1) := by decide +kernel
theorem dX1_giveCold_57 : decode cX1_giveCold 57 = .ok (.iaload, 1) := by decide +kernel
theorem dX1_giveCold_58 : decode cX1_giveCold 58 = .ok (.bipush 6, 2) := by decide +kernel
theorem dX1_giveCold_60 : decode cX1_giveCold 60 = .ok (.iadd, 1) := by decide +kernel
theorem dX1_giveCold_61 : decode cX1_giveCold 61 = .ok (.invokestatic 99, 3) := by decide +kernel
theorem dX1_giveCold_64 : decode cX1_giveCold 64 = .ok (.iastore, 1) := by decide +kernel
theorem dX1_giveCold_65 : decode cX1_giveCold 65 = .ok (.iinc 2 1, 3) := by decide +kernel
theorem dX1_giveCold_68 : decode cX1_giveCold 68 = .ok (.goto (-66), 3) := by decide +kernel
theorem dX1_giveCold_71 : decode cX1_giveCold 71 = .ok (.return_, 1) := by decide +kernel
theorem dX1_healAll_0 : decode cX1_healAll 0 = .ok (.iconst 0, 1) := by decide +kernel
theorem dX1_healAll_1 : decode cX1_healAll 1 = .ok (.istore_n 1, 1) := by decide +kernel
theorem dX1_healAll_2 : decode cX1_healAll 2 = .ok (.iload_n 1, 1) := by decide +kernel
theorem dX1_healAll_3 : decode cX1_healAll 3 = .ok (.aload_n 0, 1) := by decide +kernel
theorem dX1_healAll_4 : decode cX1_healAll 4 = .ok (.getfield 28, 3) := by decide +kernel
theorem dX1_healAll_7 : decode cX1_healAll 7 = .ok (.if_icmp .ge 31, 3) := by decide +kernel
theorem dX1_healAll_10 : decode cX1_healAll 10 = .ok (.aload_n 0, 1) := by decide +kernel
theorem dX1_healAll_11 : decode cX1_healAll 11 = .ok (.getfield 40, 3) := by decide +kernel
theorem dX1_healAll_14 : decode cX1_healAll 14 = .ok (.iload_n 1, 1) := by decide +kernel
theorem dX1_healAll_15 : decode cX1_healAll 15 = .ok (.iconst 0, 1) := by decide +kernel
theorem dX1_healAll_16 : decode cX1_healAll 16 = .ok (.aload_n 0, 1) := by decide +kernel
theorem dX1_healAll_17 : decode cX1_healAll 17 = .ok (.getfield 40, 3) := by decide +kernel
theorem dX1_healAll_20 : decode cX1_healAll 20 = .ok (.iload_n 1, 1) := by decide +kernel
theorem dX1_healAll_21 : decode cX1_healAll 21 = .ok (.iaload, 1) := by decide +kernel
theorem dX1_healAll_22 : decode cX1_healAll 22 = .ok (.aload_n 0, 1) := by decide +kernel
theorem dX1_healAll_23 : decode cX1_healAll 23 = .ok (.iload_n 1, 1) := by decide +kernel
theorem dX1_healAll_24 : decode cX1_healAll 24 = .ok (.invokevirtual 120, 3) := by decide +kernel
theorem dX1_healAll_27 : decode cX1_healAll 27 = .ok (.isub, 1) := by decide +kernel
theorem dX1_healAll_28 : decode cX1_healAll 28 = .ok (.invokestatic 62, 3) := by decide +kernel
theorem dX1_healAll_31 : decode cX1_healAll 31 = .ok (.iastore, 1) := by decide +kernel
theorem dX1_healAll_32 : decode cX1_healAll 32 = .ok (.iinc 1 1, 3) := by decide +kernel
theorem dX1_healAll_35 : decode cX1_healAll 35 = .ok (.goto (-33), 3) := by decide +kernel
theorem dX1_healAll_38 : decode cX1_healAll 38 = .ok (.return_, 1) := by decide +kernel
theorem dX2_init_0 : decode cX2_init 0 = .ok (.aload_n 0, 1) := by decide +kernel
theorem dX2_init_1 : decode cX2_init 1 = .ok (.invokespecial 3, 3) := by decide +kernel
theorem dX2_init_4 : decode cX2_init 4 = .ok (.aload_n 0, 1) := by decide +kernel
theorem dX2_init_5 : decode cX2_init 5 = .ok (.bipush 120, 2) := by decide +kernel
theorem dX2_init_7 : decode cX2_init 7 = .ok (.newarray .int, 2) := by decide +kernel
theorem dX2_init_9 : decode cX2_init 9 = .ok (.putfield 9, 3) := by decide +kernel
theorem dX2_init_12 : decode cX2_init 12 = .ok (.aload_n 0, 1) := by decide +kernel
theorem dX2_init_13 : decode cX2_init 13 = .ok (.iconst 0, 1) := by decide +kernel
theorem dX2_init_14 : decode cX2_init 14 = .ok (.putfield 15, 3) := by decide +kernel
theorem dX2_init_17 : decode cX2_init 17 = .ok (.return_, 1) := by decide +kernel
theorem dX2_addByte_0 : decode cX2_addByte 0 = .ok (.aload_n 0, 1) := by decide +kernel
theorem dX2_addByte_1 : decode cX2_addByte 1 = .ok (.getfield 15, 3) := by decide +kernel
theorem dX2_addByte_4 : decode cX2_addByte 4 = .ok (.bipush 120, 2) := by decide +kernel
theorem dX2_addByte_6 : decode cX2_addByte 6 = .ok (.if_icmp .ge 23, 3) := by decide +kernel
theorem dX2_addByte_9 : decode cX2_addByte 9 = .ok (.aload_n 0, 1) := by decide +kernel
theorem dX2_addByte_10 : decode cX2_addByte 10 = .ok (.getfield 9, 3) := by decide +kernel
theorem dX2_addByte_13 : decode cX2_addByte 13 = .ok (.aload_n 0, 1) := by decide +kernel
theorem dX2_addByte_14 : decode cX2_addByte 14 = .ok (.getfield 15, 3) := by decide +kernel
theorem dX2_addByte_17 : decode cX2_addByte 17 = .ok (.iload_n 1, 1) := by decide +kernel
theorem dX2_addByte_18 : decode cX2_addByte 18 = .ok (.iastore, 1) := by decide +kernel
theorem dX2_addByte_19 : decode cX2_addByte 19 = .ok (.aload_n 0, 1) := by decide +kernel
theorem dX2_addByte_20 : decode cX2_addByte 20 = .ok (.dup, 1) := by decide +kernel
theorem dX2_addByte_21 : decode cX2_addByte 21 = .ok (.getfield 15, 3) := by decide +kernel
theorem dX2_addByte_24 : decode cX2_addByte 24 = .ok (.iconst 1, 1) := by decide +kernel
theorem dX2_addByte_25 : decode cX2_addByte 25 = .ok (.iadd, 1) := by decide +kernel
theorem dX2_addByte_26 : decode cX2_addByte 26 = .ok (.putfield 15, 3) := by decide +kernel
theorem dX2_addByte_29 : decode cX2_addByte 29 = .ok (.return_, 1) := by decide +kernel
theorem dX2_byteAt_0 : decode cX2_byteAt 0 = .ok (.iload_n 1, 1) := by decide +kernel
theorem dX2_byteAt_1 : decode cX2_byteAt 1 = .ok (.ifCond .lt 20, 3) := by decide +kernel
theorem dX2_byteAt_4 : decode cX2_byteAt 4 = .ok (.iload_n 1, 1) := by decide +kernel
theorem dX2_byteAt_5 : decode cX2_byteAt 5 = .ok (.aload_n 0, 1) := by decide +kernel
theorem dX2_byteAt_6 : decode cX2_byteAt 6 = .ok (.getfield 15, 3) := by decide +kernel
theorem dX2_byteAt_9 : decode cX2_byteAt 9 = .ok (.if_icmp .ge 12, 3) := by decide +kernel
theorem dX2_byteAt_12 : decode cX2_byteAt 12 = .ok (.aload_n 0, 1) := by decide +kernel
theorem dX2_byteAt_13 : decode cX2_byteAt 13 = .ok (.getfield 9, 3) := by decide +kernel
theorem dX2_byteAt_16 : decode cX2_byteAt 16 = .ok (.iload_n 1, 1) := by decide +kernel
theorem dX2_byteAt_17 : decode cX2_byteAt 17 = .ok (.iaload, 1) := by decide +kernel
theorem dX2_byteAt_18 : decode cX2_byteAt 18 = .ok (.goto 4, 3) := by decide +kernel
theorem dX2_byteAt_21 : decode cX2_byteAt 21 = .ok (.iconst (-1), 1) := by decide +kernel
theorem dX2_byteAt_22 : decode cX2_byteAt 22 = .ok (.ireturn, 1) := by decide +kernel
theorem dX3_init_0 : decode cX3_init 0 = .ok (.aload_n 0, 1) := by decide +kernel
theorem dX3_init_1 : decode cX3_init 1 = .ok (.invokespecial 3, 3) := by decide +kernel
theorem dX3_init_4 : decode cX3_init 4 = .ok (.aload_n 0, 1) := by decide +kernel
theorem dX3_init_5 : decode cX3_init 5 = .ok (.iconst 0, 1) := by decide +kernel
theorem dX3_init_6 : decode cX3_init 6 = .ok (.putfield 9, 3) := by decide +kernel
theorem dX3_init_9 : decode cX3_init 9 = .ok (.aload_n 0, 1) := by decide +kernel
theorem dX3_init_10 : decode cX3_init 10 = .ok (.iconst 0, 1) := by decide +kernel
theorem dX3_init_11 : decode cX3_init 11 = .ok (.putfield 15, 3) := by decide +kernel
theorem dX3_init_14 : decode cX3_init 14 = .ok (.aload_n 0, 1) := by decide +kernel
theorem dX3_init_15 : decode cX3_init 15 = .ok (.iconst 0, 1) := by decide +kernel
theorem dX3_init_16 : decode cX3_init 16 = .ok (.putfield 18, 3) := by decide +kernel
theorem dX3_init_19 : decode cX3_init 19 = .ok (.aload_n 0, 1) := by decide +kernel
theorem dX3_init_20 : decode cX3_init 20 = .ok (.iconst 0, 1) := by decide +kernel
theorem dX3_init_21 : decode cX3_init 21 = .ok (.putfield 21, 3) := by decide +kernel
theorem dX3_init_24 : decode cX3_init 24 = .ok (.aload_n 0, 1) := by decide +kernel
theorem dX3_init_25 : decode cX3_init 25 = .ok (.iconst 0, 1) := by decide +kernel
theorem dX3_init_26 : decode cX3_init 26 = .ok (.putfield 24, 3) := by decide +kernel
theorem dX3_init_29 : decode cX3_init 29 = .ok (.return_, 1) := by decide +kernel
theorem dX3_tellAll_0 : decode cX3_tellAll 0 = .ok (.aload_n 0, 1) := by decide +kernel
theorem dX3_tellAll_1 : decode cX3_tellAll 1 = .ok (.iconst 0, 1) := by decide +kernel
theorem dX3_tellAll_2 : decode cX3_tellAll 2 = .ok (.putfield 9, 3) := by decide +kernel
theorem dX3_tellAll_5 : decode cX3_tellAll 5 = .ok (.aload_n 0, 1) := by decide +kernel
theorem dX3_tellAll_6 : decode cX3_tellAll 6 = .ok (.iconst 0, 1) := by decide +kernel
theorem dX3_tellAll_7 : decode cX3_tellAll 7 = .ok (.putfield 18, 3) := by decide +kernel
theorem dX3_tellAll_10 : decode cX3_tellAll 10 = .ok (.aload_n 0, 1) := by decide +kernel
theorem dX3_tellAll_11 : decode cX3_tellAll 11 = .ok (.aload_n 1, 1) := by decide +kernel
theorem dX3_tellAll_12 : decode cX3_tellAll 12 = .ok (.invokevirtual 27, 3) := by decide +kernel
theorem dX3_tellAll_15 : decode cX3_tellAll 15 = .ok (.iconst 0, 1) := by decide +kernel
theorem dX3_tellAll_16 : decode cX3_tellAll 16 = .ok (.istore_n 3, 1) := by decide +kernel
theorem dX3_tellAll_17 : decode cX3_tellAll 17 = .ok (.iload_n 3, 1) := by decide +kernel
theorem dX3_tellAll_18 : decode cX3_tellAll 18 = .ok (.bipush 120, 2) := by decide +kernel
theorem dX3_tellAll_20 : decode cX3_tellAll 20 = .ok (.if_icmp .gt 54, 3) := by decide +kernel
theorem dX3_tellAll_23 : decode cX3_tellAll 23 = .ok (.aload_n 0, 1) := by decide +kernel
theorem dX3_tellAll_24 : decode cX3_tellAll 24 = .ok (.aload_n 1, 1) := by decide +kernel
end
section
theorem dX3_tellAll_25 : decode cX3_tellAll 25 = .ok (.aload_n 2, 1) := by decide +kernel
theorem dX3_tellAll_26 : decode cX3_tellAll 26 = .ok (.invokevirtual 31, 3) := by decide +kernel
theorem dX3_tellAll_29 : decode cX3_tellAll 29 = .ok (.ifCond .ne 5, 3) := by decide +kernel
theorem dX3_tellAll_32 : decode cX3_tellAll 32 = .ok (.iconst 0, 1) := by decide +kernel
theorem dX3_tellAll_33 : decode cX3_tellAll 33 = .ok (.ireturn, 1) := by decide +kernel
theorem dX3_tellAll_34 : decode cX3_tellAll 34 = .ok (.aload_n 0, 1) := by decide +kernel
theorem dX3_tellAll_35 : decode cX3_tellAll 35 = .ok (.dup, 1) := by decide +kernel
theorem dX3_tellAll_36 : decode cX3_tellAll 36 = .ok (.getfield 9, 3) := by decide +kernel
theorem dX3_tellAll_39 : decode cX3_tellAll 39 = .ok (.iconst 1, 1) := by decide +kernel
theorem dX3_tellAll_40 : decode cX3_tellAll 40 = .ok (.iadd, 1) := by decide +kernel
theorem dX3_tellAll_41 : decode cX3_tellAll 41 = .ok (.putfield 9, 3) := by decide +kernel
theorem dX3_tellAll_44 : decode cX3_tellAll 44 = .ok (.aload_n 0, 1) := by decide +kernel
theorem dX3_tellAll_45 : decode cX3_tellAll 45 = .ok (.getfield 21, 3) := by decide +kernel
theorem dX3_tellAll_48 : decode cX3_tellAll 48 = .ok (.ifCond .ne 5, 3) := by decide +kernel
theorem dX3_tellAll_51 : decode cX3_tellAll 51 = .ok (.iconst 1, 1) := by decide +kernel
theorem dX3_tellAll_52 : decode cX3_tellAll 52 = .ok (.ireturn, 1) := by decide +kernel
theorem dX3_tellAll_53 : decode cX3_tellAll 53 = .ok (.aload_n 0, 1) := by decide +kernel
theorem dX3_tellAll_54 : decode cX3_tellAll 54 = .ok (.getfield 21, 3) := by decide +kernel
theorem dX3_tellAll_57 : decode cX3_tellAll 57 = .ok (.iconst 3, 1) := by decide +kernel
theorem dX3_tellAll_58 : decode cX3_tellAll 58 = .ok (.if_icmp .eq 5, 3) := by decide +kernel
theorem dX3_tellAll_61 : decode cX3_tellAll 61 = .ok (.iconst 0, 1) := by decide +kernel
theorem dX3_tellAll_62 : decode cX3_tellAll 62 = .ok (.ireturn, 1) := by decide +kernel
theorem dX3_tellAll_63 : decode cX3_tellAll 63 = .ok (.aload_n 0, 1) := by decide +kernel
theorem dX3_tellAll_64 : decode cX3_tellAll 64 = .ok (.aload_n 1, 1) := by decide +kernel
theorem dX3_tellAll_65 : decode cX3_tellAll 65 = .ok (.invokevirtual 27, 3) := by decide +kernel
theorem dX3_tellAll_68 : decode cX3_tellAll 68 = .ok (.iinc 3 1, 3) := by decide +kernel
theorem dX3_tellAll_71 : decode cX3_tellAll 71 = .ok (.goto (-54), 3) := by decide +kernel
theorem dX3_tellAll_74 : decode cX3_tellAll 74 = .ok (.iconst 0, 1) := by decide +kernel
theorem dX3_tellAll_75 : decode cX3_tellAll 75 = .ok (.ireturn, 1) := by decide +kernel
theorem dX3_tellItem_0 : decode cX3_tellItem 0 = .ok (.iconst 0, 1) := by decide +kernel
theorem dX3_tellItem_1 : decode cX3_tellItem 1 = .ok (.istore_n 3, 1) := by decide +kernel
theorem dX3_tellItem_2 : decode cX3_tellItem 2 = .ok (.iload_n 3, 1) := by decide +kernel
theorem dX3_tellItem_3 : decode cX3_tellItem 3 = .ok (.bipush 6, 2) := by decide +kernel
theorem dX3_tellItem_5 : decode cX3_tellItem 5 = .ok (.if_icmp .ge 29, 3) := by decide +kernel
theorem dX3_tellItem_8 : decode cX3_tellItem 8 = .ok (.aload_n 0, 1) := by decide +kernel
theorem dX3_tellItem_9 : decode cX3_tellItem 9 = .ok (.aload_n 1, 1) := by decide +kernel
theorem dX3_tellItem_10 : decode cX3_tellItem 10 = .ok (.iload_n 3, 1) := by decide +kernel
theorem dX3_tellItem_11 : decode cX3_tellItem 11 = .ok (.invokestatic 35, 3) := by decide +kernel
theorem dX3_tellItem_14 : decode cX3_tellItem 14 = .ok (.invokevirtual 39, 3) := by decide +kernel
theorem dX3_tellItem_17 : decode cX3_tellItem 17 = .ok (.ifCond .eq 11, 3) := by decide +kernel
theorem dX3_tellItem_20 : decode cX3_tellItem 20 = .ok (.aload_n 0, 1) := by decide +kernel
theorem dX3_tellItem_21 : decode cX3_tellItem 21 = .ok (.aload_n 1, 1) := by decide +kernel
theorem dX3_tellItem_22 : decode cX3_tellItem 22 = .ok (.aload_n 2, 1) := by decide +kernel
theorem dX3_tellItem_23 : decode cX3_tellItem 23 = .ok (.iload_n 3, 1) := by decide +kernel
theorem dX3_tellItem_24 : decode cX3_tellItem 24 = .ok (.invokevirtual 43, 3) := by decide +kernel
theorem dX3_tellItem_27 : decode cX3_tellItem 27 = .ok (.ireturn, 1) := by decide +kernel
theorem dX3_tellItem_28 : decode cX3_tellItem 28 = .ok (.iinc 3 1, 3) := by decide +kernel
theorem dX3_tellItem_31 : decode cX3_tellItem 31 = .ok (.goto (-29), 3) := by decide +kernel
theorem dX3_tellItem_34 : decode cX3_tellItem 34 = .ok (.aload_n 0, 1) := by decide +kernel
theorem dX3_tellItem_35 : decode cX3_tellItem 35 = .ok (.aload_n 1, 1) := by decide +kernel
theorem dX3_tellItem_36 : decode cX3_tellItem 36 = .ok (.ldc 47, 2) := by decide +kernel
theorem dX3_tellItem_38 : decode cX3_tellItem 38 = .ok (.invokevirtual 39, 3) := by decide +kernel
theorem dX3_tellItem_41 : decode cX3_tellItem 41 = .ok (.ifCond .eq 11, 3) := by decide +kernel
theorem dX3_tellItem_44 : decode cX3_tellItem 44 = .ok (.aload_n 0, 1) := by decide +kernel
theorem dX3_tellItem_45 : decode cX3_tellItem 45 = .ok (.aload_n 1, 1) := by decide +kernel
theorem dX3_tellItem_46 : decode cX3_tellItem 46 = .ok (.aload_n 2, 1) := by decide +kernel
theorem dX3_tellItem_47 : decode cX3_tellItem 47 = .ok (.iconst 1, 1) := by decide +kernel
theorem dX3_tellItem_48 : decode cX3_tellItem 48 = .ok (.invokevirtual 49, 3) := by decide +kernel
theorem dX3_tellItem_51 : decode cX3_tellItem 51 = .ok (.ireturn, 1) := by decide +kernel
theorem dX3_tellItem_52 : decode cX3_tellItem 52 = .ok (.aload_n 0, 1) := by decide +kernel
theorem dX3_tellItem_53 : decode cX3_tellItem 53 = .ok (.aload_n 1, 1) := by decide +kernel
theorem dX3_tellItem_54 : decode cX3_tellItem 54 = .ok (.ldc 52, 2) := by decide +kernel
theorem dX3_tellItem_56 : decode cX3_tellItem 56 = .ok (.invokevirtual 39, 3) := by decide +kernel
theorem dX3_tellItem_59 : decode cX3_tellItem 59 = .ok (.ifCond .eq 11, 3) := by decide +kernel
theorem dX3_tellItem_62 : decode cX3_tellItem 62 = .ok (.aload_n 0, 1) := by decide +kernel
theorem dX3_tellItem_63 : decode cX3_tellItem 63 = .ok (.aload_n 1, 1) := by decide +kernel
theorem dX3_tellItem_64 : decode cX3_tellItem 64 = .ok (.aload_n 2, 1) := by decide +kernel
theorem dX3_tellItem_65 : decode cX3_tellItem 65 = .ok (.iconst 0, 1) := by decide +kernel
theorem dX3_tellItem_66 : decode cX3_tellItem 66 = .ok (.invokevirtual 49, 3) := by decide +kernel
theorem dX3_tellItem_69 : decode cX3_tellItem 69 = .ok (.ireturn, 1) := by decide +kernel
theorem dX3_tellItem_70 : decode cX3_tellItem 70 = .ok (.aload_n 0, 1) := by decide +kernel
theorem dX3_tellItem_71 : decode cX3_tellItem 71 = .ok (.aload_n 1, 1) := by decide +kernel
theorem dX3_tellItem_72 : decode cX3_tellItem 72 = .ok (.ldc 54, 2) := by decide +kernel
theorem dX3_tellItem_74 : decode cX3_tellItem 74 = .ok (.invokevirtual 39, 3) := by decide +kernel
theorem dX3_tellItem_77 : decode cX3_tellItem 77 = .ok (.ifCond .eq 10, 3) := by decide +kernel
theorem dX3_tellItem_80 : decode cX3_tellItem 80 = .ok (.aload_n 0, 1) := by decide +kernel
theorem dX3_tellItem_81 : decode cX3_tellItem 81 = .ok (.aload_n 1, 1) := by decide +kernel
theorem dX3_tellItem_82 : decode cX3_tellItem 82 = .ok (.aload_n 2, 1) := by decide +kernel
theorem dX3_tellItem_83 : decode cX3_tellItem 83 = .ok (.invokevirtual 56, 3) := by decide +kernel
theorem dX3_tellItem_86 : decode cX3_tellItem 86 = .ok (.ireturn, 1) := by decide +kernel
theorem dX3_tellItem_87 : decode cX3_tellItem 87 = .ok (.aload_n 0, 1) := by decide +kernel
theorem dX3_tellItem_88 : decode cX3_tellItem 88 = .ok (.aload_n 1, 1) := by decide +kernel
theorem dX3_tellItem_89 : decode cX3_tellItem 89 = .ok (.ldc 59, 2) := by decide +kernel
theorem dX3_tellItem_91 : decode cX3_tellItem 91 = .ok (.invokevirtual 39, 3) := by decide +kernel
theorem dX3_tellItem_94 : decode cX3_tellItem 94 = .ok (.ifCond .eq 10, 3) := by decide +kernel
theorem dX3_tellItem_97 : decode cX3_tellItem 97 = .ok (.aload_n 0, 1) := by decide +kernel
theorem dX3_tellItem_98 : decode cX3_tellItem 98 = .ok (.aload_n 1, 1) := by decide +kernel
theorem dX3_tellItem_99 : decode cX3_tellItem 99 = .ok (.aload_n 2, 1) := by decide +kernel
theorem dX3_tellItem_100 : decode cX3_tellItem 100 = .ok (.invokevirtual 61, 3) := by decide +kernel
theorem dX3_tellItem_103 : decode cX3_tellItem 103 = .ok (.ireturn, 1) := by decide +kernel
theorem dX3_tellItem_104 : decode cX3_tellItem 104 = .ok (.iconst 0, 1) := by decide +kernel
theorem dX3_tellItem_105 : decode cX3_tellItem 105 = .ok (.ireturn, 1) := by decide +kernel
theorem dX3_tellSneezer_0 : decode cX3_tellSneezer 0 = .ok (.aload_n 2, 1) := by decide +kernel
theorem dX3_tellSneezer_1 : decode cX3_tellSneezer 1 = .ok (.getfield 64, 3) := by decide +kernel
theorem dX3_tellSneezer_4 : decode cX3_tellSneezer 4 = .ok (.bipush 8, 2) := by decide +kernel
theorem dX3_tellSneezer_6 : decode cX3_tellSneezer 6 = .ok (.if_icmp .lt 5, 3) := by decide +kernel
theorem dX3_tellSneezer_9 : decode cX3_tellSneezer 9 = .ok (.iconst 0, 1) := by decide +kernel
theorem dX3_tellSneezer_10 : decode cX3_tellSneezer 10 = .ok (.ireturn, 1) := by decide +kernel
theorem dX3_tellSneezer_11 : decode cX3_tellSneezer 11 = .ok (.aload_n 0, 1) := by decide +kernel
theorem dX3_tellSneezer_12 : decode cX3_tellSneezer 12 = .ok (.aload_n 1, 1) := by decide +kernel
theorem dX3_tellSneezer_13 : decode cX3_tellSneezer 13 = .ok (.invokevirtual 27, 3) := by decide +kernel
theorem dX3_tellSneezer_16 : decode cX3_tellSneezer 16 = .ok (.aload_n 0, 1) := by decide +kernel
theorem dX3_tellSneezer_17 : decode cX3_tellSneezer 17 = .ok (.bipush 11, 2) := by decide +kernel
theorem dX3_tellSneezer_19 : decode cX3_tellSneezer 19 = .ok (.invokevirtual 69, 3) := by decide +kernel
theorem dX3_tellSneezer_22 : decode cX3_tellSneezer 22 = .ok (.ifCond .ne 5, 3) := by decide +kernel
theorem dX3_tellSneezer_25 : decode cX3_tellSneezer 25 = .ok (.iconst 0, 1) := by decide +kernel
theorem dX3_tellSneezer_26 : decode cX3_tellSneezer 26 = .ok (.ireturn, 1) := by decide +kernel
theorem dX3_tellSneezer_27 : decode cX3_tellSneezer 27 = .ok (.aload_n 2, 1) := by decide +kernel
theorem dX3_tellSneezer_28 : decode cX3_tellSneezer 28 = .ok (.iload_n 3, 1) := by decide +kernel
theorem dX3_tellSneezer_29 : decode cX3_tellSneezer 29 = .ok (.aload_n 0, 1) := by decide +kernel
theorem dX3_tellSneezer_30 : decode cX3_tellSneezer 30 = .ok (.getfield 24, 3) := by decide +kernel
theorem dX3_tellSneezer_33 : decode cX3_tellSneezer 33 = .ok (.invokevirtual 73, 3) := by decide +kernel
theorem dX3_tellSneezer_36 : decode cX3_tellSneezer 36 = .ok (.istore 4, 2) := by decide +kernel
theorem dX3_tellSneezer_38 : decode cX3_tellSneezer 38 = .ok (.aload_n 0, 1) := by decide +kernel
theorem dX3_tellSneezer_39 : decode cX3_tellSneezer 39 = .ok (.aload_n 1, 1) := by decide +kernel
theorem dX3_tellSneezer_40 : decode cX3_tellSneezer 40 = .ok (.invokevirtual 27, 3) := by decide +kernel
theorem dX3_tellSneezer_43 : decode cX3_tellSneezer 43 = .ok (.aload_n 0, 1) := by decide +kernel
theorem dX3_tellSneezer_44 : decode cX3_tellSneezer 44 = .ok (.aload_n 1, 1) := by decide +kernel
theorem dX3_tellSneezer_45 : decode cX3_tellSneezer 45 = .ok (.ldc 77, 2) := by decide +kernel
theorem dX3_tellSneezer_47 : decode cX3_tellSneezer 47 = .ok (.invokevirtual 39, 3) := by decide +kernel
theorem dX3_tellSneezer_50 : decode cX3_tellSneezer 50 = .ok (.ifCond .eq 16, 3) := by decide +kernel
theorem dX3_tellSneezer_53 : decode cX3_tellSneezer 53 = .ok (.aload_n 2, 1) := by decide +kernel
theorem dX3_tellSneezer_54 : decode cX3_tellSneezer 54 = .ok (.getfield 79, 3) := by decide +kernel
theorem dX3_tellSneezer_57 : decode cX3_tellSneezer 57 = .ok (.iload 4, 2) := by decide +kernel
theorem dX3_tellSneezer_59 : decode cX3_tellSneezer 59 = .ok (.iconst 0, 1) := by decide +kernel
theorem dX3_tellSneezer_60 : decode cX3_tellSneezer 60 = .ok (.iastore, 1) := by decide +kernel
theorem dX3_tellSneezer_61 : decode cX3_tellSneezer 61 = .ok (.aload_n 0, 1) := by decide +kernel
theorem dX3_tellSneezer_62 : decode cX3_tellSneezer 62 = .ok (.aload_n 1, 1) := by decide +kernel
theorem dX3_tellSneezer_63 : decode cX3_tellSneezer 63 = .ok (.invokevirtual 27, 3) := by decide +kernel
theorem dX3_tellSneezer_66 : decode cX3_tellSneezer 66 = .ok (.aload_n 0, 1) := by decide +kernel
theorem dX3_tellSneezer_67 : decode cX3_tellSneezer 67 = .ok (.aload_n 1, 1) := by decide +kernel
theorem dX3_tellSneezer_68 : decode cX3_tellSneezer 68 = .ok (.ldc 83, 2) := by decide +kernel
theorem dX3_tellSneezer_70 : decode cX3_tellSneezer 70 = .ok (.aload_n 2, 1) := by decide +kernel
theorem dX3_tellSneezer_71 : decode cX3_tellSneezer 71 = .ok (.getfield 85, 3) := by decide +kernel
theorem dX3_tellSneezer_74 : decode cX3_tellSneezer 74 = .ok (.iload 4, 2) := by decide +kernel
theorem dX3_tellSneezer_76 : decode cX3_tellSneezer 76 = .ok (.invokevirtual 88, 3) := by decide +kernel
theorem dX3_tellSneezer_79 : decode cX3_tellSneezer 79 = .ok (.ifCond .eq 23, 3) := by decide +kernel
theorem dX3_tellSneezer_82 : decode cX3_tellSneezer 82 = .ok (.aload_n 0, 1) := by decide +kernel
theorem dX3_tellSneezer_83 : decode cX3_tellSneezer 83 = .ok (.aload_n 1, 1) := by decide +kernel
theorem dX3_tellSneezer_84 : decode cX3_tellSneezer 84 = .ok (.ldc 92, 2) := by decide +kernel
theorem dX3_tellSneezer_86 : decode cX3_tellSneezer 86 = .ok (.aload_n 2, 1) := by decide +kernel
theorem dX3_tellSneezer_87 : decode cX3_tellSneezer 87 = .ok (.getfield 94, 3) := by decide +kernel
theorem dX3_tellSneezer_90 : decode cX3_tellSneezer 90 = .ok (.iload 4, 2) := by decide +kernel
theorem dX3_tellSneezer_92 : decode cX3_tellSneezer 92 = .ok (.invokevirtual 88, 3) := by decide +kernel
theorem dX3_tellSneezer_95 : decode cX3_tellSneezer 95 = .ok (.ifCond .eq 7, 3) := by decide +kernel
theorem dX3_tellSneezer_98 : decode cX3_tellSneezer 98 = .ok (.iconst 1, 1) := by decide +kernel
theorem dX3_tellSneezer_99 : decode cX3_tellSneezer 99 = .ok (.goto 4, 3) := by decide +kernel
theorem dX3_tellSneezer_102 : decode cX3_tellSneezer 102 = .ok (.iconst 0, 1) := by decide +kernel
theorem dX3_tellSneezer_103 : decode cX3_tellSneezer 103 = .ok (.ireturn, 1) := by decide +kernel
theorem dX3_tellPart_0 : decode cX3_tellPart 0 = .ok (.aload_n 0, 1) := by decide +kernel
theorem dX3_tellPart_1 : decode cX3_tellPart 1 = .ok (.aload_n 1, 1) := by decide +kernel
theorem dX3_tellPart_2 : decode cX3_tellPart 2 = .ok (.aload_n 2, 1) := by decide +kernel
theorem dX3_tellPart_3 : decode cX3_tellPart 3 = .ok (.invokevirtual 39, 3) := by decide +kernel
theorem dX3_tellPart_6 : decode cX3_tellPart 6 = .ok (.ifCond .ne 5, 3) := by decide +kernel
theorem dX3_tellPart_9 : decode cX3_tellPart 9 = .ok (.iconst 1, 1) := by decide +kernel
theorem dX3_tellPart_10 : decode cX3_tellPart 10 = .ok (.ireturn, 1) := by decide +kernel
theorem dX3_tellPart_11 : decode cX3_tellPart 11 = .ok (.aload_n 0, 1) := by decide +kernel
theorem dX3_tellPart_12 : decode cX3_tellPart 12 = .ok (.aload_n 1, 1) := by decide +kernel
theorem dX3_tellPart_13 : decode cX3_tellPart 13 = .ok (.invokevirtual 27, 3) := by decide +kernel
theorem dX3_tellPart_16 : decode cX3_tellPart 16 = .ok (.aload_n 0, 1) := by decide +kernel
theorem dX3_tellPart_17 : decode cX3_tellPart 17 = .ok (.bipush 99, 2) := by decide +kernel
theorem dX3_tellPart_19 : decode cX3_tellPart 19 = .ok (.invokevirtual 69, 3) := by decide +kernel
theorem dX3_tellPart_22 : decode cX3_tellPart 22 = .ok (.ifCond .ne 5, 3) := by decide +kernel
theorem dX3_tellPart_25 : decode cX3_tellPart 25 = .ok (.iconst 0, 1) := by decide +kernel
theorem dX3_tellPart_26 : decode cX3_tellPart 26 = .ok (.ireturn, 1) := by decide +kernel
theorem dX3_tellPart_27 : decode cX3_tellPart 27 = .ok (.aload_n 3, 1) := by decide +kernel
theorem dX3_tellPart_28 : decode cX3_tellPart 28 = .ok (.iload 4, 2) := by decide +kernel
theorem dX3_tellPart_30 : decode cX3_tellPart 30 = .ok (.aload_n 0, 1) := by decide +kernel
theorem dX3_tellPart_31 : decode cX3_tellPart 31 = .ok (.getfield 24, 3) := by decide +kernel
theorem dX3_tellPart_34 : decode cX3_tellPart 34 = .ok (.iastore, 1) := by decide +kernel
theorem dX3_tellPart_35 : decode cX3_tellPart 35 = .ok (.aload_n 0, 1) := by decide +kernel
theorem dX3_tellPart_36 : decode cX3_tellPart 36 = .ok (.aload_n 1, 1) := by decide +kernel
theorem dX3_tellPart_37 : decode cX3_tellPart 37 = .ok (.invokevirtual 27, 3) := by decide +kernel
theorem dX3_tellPart_40 : decode cX3_tellPart 40 = .ok (.iconst 1, 1) := by decide +kernel
theorem dX3_tellPart_41 : decode cX3_tellPart 41 = .ok (.ireturn, 1) := by decide +kernel
theorem dX3_tellBook_0 : decode cX3_tellBook 0 = .ok (.aload_n 0, 1) := by decide +kernel
theorem dX3_tellBook_1 : decode cX3_tellBook 1 = .ok (.aload_n 1, 1) := by decide +kernel
theorem dX3_tellBook_2 : decode cX3_tellBook 2 = .ok (.invokevirtual 27, 3) := by decide +kernel
theorem dX3_tellBook_5 : decode cX3_tellBook 5 = .ok (.aload_n 0, 1) := by decide +kernel
theorem dX3_tellBook_6 : decode cX3_tellBook 6 = .ok (.bipush 11, 2) := by decide +kernel
theorem dX3_tellBook_8 : decode cX3_tellBook 8 = .ok (.invokevirtual 69, 3) := by decide +kernel
theorem dX3_tellBook_11 : decode cX3_tellBook 11 = .ok (.ifCond .ne 5, 3) := by decide +kernel
theorem dX3_tellBook_14 : decode cX3_tellBook 14 = .ok (.iconst 0, 1) := by decide +kernel
theorem dX3_tellBook_15 : decode cX3_tellBook 15 = .ok (.ireturn, 1) := by decide +kernel
theorem dX3_tellBook_16 : decode cX3_tellBook 16 = .ok (.aload_n 2, 1) := by decide +kernel
theorem dX3_tellBook_17 : decode cX3_tellBook 17 = .ok (.getfield 96, 3) := by decide +kernel
theorem dX3_tellBook_20 : decode cX3_tellBook 20 = .ok (.aload_n 0, 1) := by decide +kernel
theorem dX3_tellBook_21 : decode cX3_tellBook 21 = .ok (.getfield 24, 3) := by decide +kernel
theorem dX3_tellBook_24 : decode cX3_tellBook 24 = .ok (.iload_n 3, 1) := by decide +kernel
theorem dX3_tellBook_25 : decode cX3_tellBook 25 = .ok (.iastore, 1) := by decide +kernel
theorem dX3_tellBook_26 : decode cX3_tellBook 26 = .ok (.aload_n 0, 1) := by decide +kernel
theorem dX3_tellBook_27 : decode cX3_tellBook 27 = .ok (.aload_n 1, 1) := by decide +kernel
theorem dX3_tellBook_28 : decode cX3_tellBook 28 = .ok (.invokevirtual 27, 3) := by decide +kernel
theorem dX3_tellBook_31 : decode cX3_tellBook 31 = .ok (.iconst 1, 1) := by decide +kernel
theorem dX3_tellBook_32 : decode cX3_tellBook 32 = .ok (.ireturn, 1) := by decide +kernel
theorem dX3_tellDry_0 : decode cX3_tellDry 0 = .ok (.aload_n 0, 1) := by decide +kernel
theorem dX3_tellDry_1 : decode cX3_tellDry 1 = .ok (.aload_n 1, 1) := by decide +kernel
theorem dX3_tellDry_2 : decode cX3_tellDry 2 = .ok (.invokevirtual 27, 3) := by decide +kernel
theorem dX3_tellDry_5 : decode cX3_tellDry 5 = .ok (.aload_n 0, 1) := by decide +kernel
theorem dX3_tellDry_6 : decode cX3_tellDry 6 = .ok (.bipush 9, 2) := by decide +kernel
theorem dX3_tellDry_8 : decode cX3_tellDry 8 = .ok (.invokevirtual 69, 3) := by decide +kernel
theorem dX3_tellDry_11 : decode cX3_tellDry 11 = .ok (.ifCond .ne 5, 3) := by decide +kernel
theorem dX3_tellDry_14 : decode cX3_tellDry 14 = .ok (.iconst 0, 1) := by decide +kernel
theorem dX3_tellDry_15 : decode cX3_tellDry 15 = .ok (.ireturn, 1) := by decide +kernel
theorem dX3_tellDry_16 : decode cX3_tellDry 16 = .ok (.aload_n 2, 1) := by decide +kernel
theorem dX3_tellDry_17 : decode cX3_tellDry 17 = .ok (.aload_n 0, 1) := by decide +kernel
theorem dX3_tellDry_18 : decode cX3_tellDry 18 = .ok (.getfield 24, 3) := by decide +kernel
theorem dX3_tellDry_21 : decode cX3_tellDry 21 = .ok (.putfield 99, 3) := by decide +kernel
theorem dX3_tellDry_24 : decode cX3_tellDry 24 = .ok (.aload_n 0, 1) := by decide +kernel
theorem dX3_tellDry_25 : decode cX3_tellDry 25 = .ok (.aload_n 1, 1) := by decide +kernel
theorem dX3_tellDry_26 : decode cX3_tellDry 26 = .ok (.invokevirtual 27, 3) := by decide +kernel
theorem dX3_tellDry_29 : decode cX3_tellDry 29 = .ok (.iconst 1, 1) := by decide +kernel
theorem dX3_tellDry_30 : decode cX3_tellDry 30 = .ok (.ireturn, 1) := by decide +kernel
theorem dX3_tellLamp_0 : decode cX3_tellLamp 0 = .ok (.aload_n 0, 1) := by decide +kernel
theorem dX3_tellLamp_1 : decode cX3_tellLamp 1 = .ok (.aload_n 1, 1) := by decide +kernel
theorem dX3_tellLamp_2 : decode cX3_tellLamp 2 = .ok (.invokevirtual 27, 3) := by decide +kernel
theorem dX3_tellLamp_5 : decode cX3_tellLamp 5 = .ok (.aload_n 0, 1) := by decide +kernel
theorem dX3_tellLamp_6 : decode cX3_tellLamp 6 = .ok (.bipush 11, 2) := by decide +kernel
theorem dX3_tellLamp_8 : decode cX3_tellLamp 8 = .ok (.invokevirtual 69, 3) := by decide +kernel
theorem dX3_tellLamp_11 : decode cX3_tellLamp 11 = .ok (.ifCond .ne 5, 3) := by decide +kernel
theorem dX3_tellLamp_14 : decode cX3_tellLamp 14 = .ok (.iconst 0, 1) := by decide +kernel
theorem dX3_tellLamp_15 : decode cX3_tellLamp 15 = .ok (.ireturn, 1) := by decide +kernel
theorem dX3_tellLamp_16 : decode cX3_tellLamp 16 = .ok (.aload_n 0, 1) := by decide +kernel
theorem dX3_tellLamp_17 : decode cX3_tellLamp 17 = .ok (.getfield 24, 3) := by decide +kernel
theorem dX3_tellLamp_20 : decode cX3_tellLamp 20 = .ok (.istore_n 3, 1) := by decide +kernel
theorem dX3_tellLamp_21 : decode cX3_tellLamp 21 = .ok (.aload_n 0, 1) := by decide +kernel
theorem dX3_tellLamp_22 : decode cX3_tellLamp 22 = .ok (.aload_n 1, 1) := by decide +kernel
theorem dX3_tellLamp_23 : decode cX3_tellLamp 23 = .ok (.invokevirtual 27, 3) := by decide +kernel
theorem dX3_tellLamp_26 : decode cX3_tellLamp 26 = .ok (.aload_n 0, 1) := by decide +kernel
theorem dX3_tellLamp_27 : decode cX3_tellLamp 27 = .ok (.bipush 99, 2) := by decide +kernel
theorem dX3_tellLamp_29 : decode cX3_tellLamp 29 = .ok (.invokevirtual 69, 3) := by decide +kernel
theorem dX3_tellLamp_32 : decode cX3_tellLamp 32 = .ok (.ifCond .ne 5, 3) := by decide +kernel
theorem dX3_tellLamp_35 : decode cX3_tellLamp 35 = .ok (.iconst 0, 1) := by decide +kernel
theorem dX3_tellLamp_36 : decode cX3_tellLamp 36 = .ok (.ireturn, 1) := by decide +kernel
theorem dX3_tellLamp_37 : decode cX3_tellLamp 37 = .ok (.aload_n 2, 1) := by decide +kernel
theorem dX3_tellLamp_38 : decode cX3_tellLamp 38 = .ok (.getfield 102, 3) := by decide +kernel
theorem dX3_tellLamp_41 : decode cX3_tellLamp 41 = .ok (.iload_n 3, 1) := by decide +kernel
theorem dX3_tellLamp_42 : decode cX3_tellLamp 42 = .ok (.aload_n 0, 1) := by decide +kernel
theorem dX3_tellLamp_43 : decode cX3_tellLamp 43 = .ok (.getfield 24, 3) := by decide +kernel
theorem dX3_tellLamp_46 : decode cX3_tellLamp 46 = .ok (.iastore, 1) := by decide +kernel
theorem dX3_tellLamp_47 : decode cX3_tellLamp 47 = .ok (.aload_n 0, 1) := by decide +kernel
theorem dX3_tellLamp_48 : decode cX3_tellLamp 48 = .ok (.aload_n 1, 1) := by decide +kernel
theorem dX3_tellLamp_49 : decode cX3_tellLamp 49 = .ok (.invokevirtual 27, 3) := by decide +kernel
theorem dX3_tellLamp_52 : decode cX3_tellLamp 52 = .ok (.iconst 1, 1) := by decide +kernel
theorem dX3_tellLamp_53 : decode cX3_tellLamp 53 = .ok (.ireturn, 1) := by decide +kernel
theorem dX3_nameOfKind_0 : decode cX3_nameOfKind 0 = .ok (.iload_n 0, 1) := by decide +kernel
theorem dX3_nameOfKind_1 : decode cX3_nameOfKind 1 = .ok (.tableswitch 50 1 5 #[35, 38, 41, 44, 47], 35) := by decide +kernel
theorem dX3_nameOfKind_36 : decode cX3_nameOfKind 36 = .ok (.ldc 105, 2) := by decide +kernel
theorem dX3_nameOfKind_38 : decode cX3_nameOfKind 38 = .ok (.areturn, 1) := by decide +kernel
theorem dX3_nameOfKind_39 : decode cX3_nameOfKind 39 = .ok (.ldc 107, 2) := by decide +kernel
theorem dX3_nameOfKind_41 : decode cX3_nameOfKind 41 = .ok (.areturn, 1) := by decide +kernel
theorem dX3_nameOfKind_42 : decode cX3_nameOfKind 42 = .ok (.ldc 109, 2) := by decide +kernel
theorem dX3_nameOfKind_44 : decode cX3_nameOfKind 44 = .ok (.areturn, 1) := by decide +kernel
theorem dX3_nameOfKind_45 : decode cX3_nameOfKind 45 = .ok (.ldc 111, 2) := by decide +kernel
theorem dX3_nameOfKind_47 : decode cX3_nameOfKind 47 = .ok (.areturn, 1) := by decide +kernel
theorem dX3_nameOfKind_48 : decode cX3_nameOfKind 48 = .ok (.ldc 113, 2) := by decide +kernel
theorem dX3_nameOfKind_50 : decode cX3_nameOfKind 50 = .ok (.areturn, 1) := by decide +kernel
theorem dX3_nameOfKind_51 : decode cX3_nameOfKind 51 = .ok (.ldc 115, 2) := by decide +kernel
theorem dX3_nameOfKind_53 : decode cX3_nameOfKind 53 = .ok (.areturn, 1) := by decide +kernel
theorem dX3_isNumber_0 : decode cX3_isNumber 0 = .ok (.aload_n 0, 1) := by decide +kernel
theorem dX3_isNumber_1 : decode cX3_isNumber 1 = .ok (.getfield 21, 3) := by decide +kernel
theorem dX3_isNumber_4 : decode cX3_isNumber 4 = .ok (.iconst 2, 1) := by decide +kernel
theorem dX3_isNumber_5 : decode cX3_isNumber 5 = .ok (.if_icmp .ne 19, 3) := by decide +kernel
theorem dX3_isNumber_8 : decode cX3_isNumber 8 = .ok (.aload_n 0, 1) := by decide +kernel
theorem dX3_isNumber_9 : decode cX3_isNumber 9 = .ok (.getfield 24, 3) := by decide +kernel
theorem dX3_isNumber_12 : decode cX3_isNumber 12 = .ok (.iconst 0, 1) := by decide +kernel
theorem dX3_isNumber_13 : decode cX3_isNumber 13 = .ok (.iload_n 1, 1) := by decide +kernel
theorem dX3_isNumber_14 : decode cX3_isNumber 14 = .ok (.invokestatic 117, 3) := by decide +kernel
theorem dX3_isNumber_17 : decode cX3_isNumber 17 = .ok (.ifCond .eq 7, 3) := by decide +kernel
theorem dX3_isNumber_20 : decode cX3_isNumber 20 = .ok (.iconst 1, 1) := by decide +kernel
theorem dX3_isNumber_21 : decode cX3_isNumber 21 = .ok (.goto 4, 3) := by decide +kernel
theorem dX3_isNumber_24 : decode cX3_isNumber 24 = .ok (.iconst 0, 1) := by decide +kernel
theorem dX3_isNumber_25 : decode cX3_isNumber 25 = .ok (.ireturn, 1) := by decide +kernel
theorem dX3_isWord_0 : decode cX3_isWord 0 = .ok (.aload_n 0, 1) := by decide +kernel
theorem dX3_isWord_1 : decode cX3_isWord 1 = .ok (.getfield 21, 3) := by decide +kernel
theorem dX3_isWord_4 : decode cX3_isWord 4 = .ok (.iconst 1, 1) := by decide +kernel
theorem dX3_isWord_5 : decode cX3_isWord 5 = .ok (.if_icmp .ne 19, 3) := by decide +kernel
theorem dX3_isWord_8 : decode cX3_isWord 8 = .ok (.aload_n 0, 1) := by decide +kernel
theorem dX3_isWord_9 : decode cX3_isWord 9 = .ok (.getfield 18, 3) := by decide +kernel
theorem dX3_isWord_12 : decode cX3_isWord 12 = .ok (.aload_n 0, 1) := by decide +kernel
theorem dX3_isWord_13 : decode cX3_isWord 13 = .ok (.getfield 15, 3) := by decide +kernel
theorem dX3_isWord_16 : decode cX3_isWord 16 = .ok (.isub, 1) := by decide +kernel
theorem dX3_isWord_17 : decode cX3_isWord 17 = .ok (.aload_n 2, 1) := by decide +kernel
theorem dX3_isWord_18 : decode cX3_isWord 18 = .ok (.invokevirtual 121, 3) := by decide +kernel
theorem dX3_isWord_21 : decode cX3_isWord 21 = .ok (.if_icmp .eq 5, 3) := by decide +kernel
theorem dX3_isWord_24 : decode cX3_isWord 24 = .ok (.iconst 0, 1) := by decide +kernel
theorem dX3_isWord_25 : decode cX3_isWord 25 = .ok (.ireturn, 1) := by decide +kernel
theorem dX3_isWord_26 : decode cX3_isWord 26 = .ok (.iconst 0, 1) := by decide +kernel
theorem dX3_isWord_27 : decode cX3_isWord 27 = .ok (.istore_n 3, 1) := by decide +kernel
theorem dX3_isWord_28 : decode cX3_isWord 28 = .ok (.iload_n 3, 1) := by decide +kernel
theorem dX3_isWord_29 : decode cX3_isWord 29 = .ok (.aload_n 2, 1) := by decide +kernel
theorem dX3_isWord_30 : decode cX3_isWord 30 = .ok (.invokevirtual 121, 3) := by decide +kernel
theorem dX3_isWord_33 : decode cX3_isWord 33 = .ok (.if_icmp .ge 29, 3) := by decide +kernel
theorem dX3_isWord_36 : decode cX3_isWord 36 = .ok (.aload_n 1, 1) := by decide +kernel
theorem dX3_isWord_37 : decode cX3_isWord 37 = .ok (.aload_n 0, 1) := by decide +kernel
theorem dX3_isWord_38 : decode cX3_isWord 38 = .ok (.getfield 15, 3) := by decide +kernel
theorem dX3_isWord_41 : decode cX3_isWord 41 = .ok (.iload_n 3, 1) := by decide +kernel
theorem dX3_isWord_42 : decode cX3_isWord 42 = .ok (.iadd, 1) := by decide +kernel
theorem dX3_isWord_43 : decode cX3_isWord 43 = .ok (.invokevirtual 127, 3) := by decide +kernel
theorem dX3_isWord_46 : decode cX3_isWord 46 = .ok (.aload_n 2, 1) := by decide +kernel
theorem dX3_isWord_47 : decode cX3_isWord 47 = .ok (.iload_n 3, 1) := by decide +kernel
theorem dX3_isWord_48 : decode cX3_isWord 48 = .ok (.invokevirtual 133, 3) := by decide +kernel
theorem dX3_isWord_51 : decode cX3_isWord 51 = .ok (.if_icmp .eq 5, 3) := by decide +kernel
theorem dX3_isWord_54 : decode cX3_isWord 54 = .ok (.iconst 0, 1) := by decide +kernel
theorem dX3_isWord_55 : decode cX3_isWord 55 = .ok (.ireturn, 1) := by decide +kernel
theorem dX3_isWord_56 : decode cX3_isWord 56 = .ok (.iinc 3 1, 3) := by decide +kernel
theorem dX3_isWord_59 : decode cX3_isWord 59 = .ok (.goto (-31), 3) := by decide +kernel
theorem dX3_isWord_62 : decode cX3_isWord 62 = .ok (.iconst 1, 1) := by decide +kernel
theorem dX3_isWord_63 : decode cX3_isWord 63 = .ok (.ireturn, 1) := by decide +kernel
theorem dX3_step_0 : decode cX3_step 0 = .ok (.aload_n 0, 1) := by decide +kernel
theorem dX3_step_1 : decode cX3_step 1 = .ok (.aload_n 0, 1) := by decide +kernel
theorem dX3_step_2 : decode cX3_step 2 = .ok (.getfield 18, 3) := by decide +kernel
theorem dX3_step_5 : decode cX3_step 5 = .ok (.putfield 15, 3) := by decide +kernel
theorem dX3_step_8 : decode cX3_step 8 = .ok (.aload_n 0, 1) := by decide +kernel
theorem dX3_step_9 : decode cX3_step 9 = .ok (.getfield 15, 3) := by decide +kernel
theorem dX3_step_12 : decode cX3_step 12 = .ok (.aload_n 1, 1) := by decide +kernel
theorem dX3_step_13 : decode cX3_step 13 = .ok (.getfield 137, 3) := by decide +kernel
theorem dX3_step_16 : decode cX3_step 16 = .ok (.if_icmp .ge 29, 3) := by decide +kernel
theorem dX3_step_19 : decode cX3_step 19 = .ok (.aload_n 1, 1) := by decide +kernel
theorem dX3_step_20 : decode cX3_step 20 = .ok (.aload_n 0, 1) := by decide +kernel
theorem dX3_step_21 : decode cX3_step 21 = .ok (.getfield 15, 3) := by decide +kernel
theorem dX3_step_24 : decode cX3_step 24 = .ok (.invokevirtual 127, 3) := by decide +kernel
theorem dX3_step_27 : decode cX3_step 27 = .ok (.bipush 32, 2) := by decide +kernel
theorem dX3_step_29 : decode cX3_step 29 = .ok (.if_icmp .ne 16, 3) := by decide +kernel
theorem dX3_step_32 : decode cX3_step 32 = .ok (.aload_n 0, 1) := by decide +kernel
theorem dX3_step_33 : decode cX3_step 33 = .ok (.dup, 1) := by decide +kernel
theorem dX3_step_34 : decode cX3_step 34 = .ok (.getfield 15, 3) := by decide +kernel
theorem dX3_step_37 : decode cX3_step 37 = .ok (.iconst 1, 1) := by decide +kernel
theorem dX3_step_38 : decode cX3_step 38 = .ok (.iadd, 1) := by decide +kernel
theorem dX3_step_39 : decode cX3_step 39 = .ok (.putfield 15, 3) := by decide +kernel
theorem dX3_step_42 : decode cX3_step 42 = .ok (.goto (-34), 3) := by decide +kernel
theorem dX3_step_45 : decode cX3_step 45 = .ok (.aload_n 0, 1) := by decide +kernel
theorem dX3_step_46 : decode cX3_step 46 = .ok (.aload_n 0, 1) := by decide +kernel
theorem dX3_step_47 : decode cX3_step 47 = .ok (.getfield 15, 3) := by decide +kernel
theorem dX3_step_50 : decode cX3_step 50 = .ok (.putfield 18, 3) := by decide +kernel
theorem dX3_step_53 : decode cX3_step 53 = .ok (.aload_n 1, 1) := by decide +kernel
theorem dX3_step_54 : decode cX3_step 54 = .ok (.aload_n 0, 1) := by decide +kernel
theorem dX3_step_55 : decode cX3_step 55 = .ok (.getfield 15, 3) := by decide +kernel
theorem dX3_step_58 : decode cX3_step 58 = .ok (.invokevirtual 127, 3) := by decide +kernel
theorem dX3_step_61 : decode cX3_step 61 = .ok (.istore_n 2, 1) := by decide +kernel
theorem dX3_step_62 : decode cX3_step 62 = .ok (.iload_n 2, 1) := by decide +kernel
theorem dX3_step_63 : decode cX3_step 63 = .ok (.ifCond .ge 11, 3) := by decide +kernel
theorem dX3_step_66 : decode cX3_step 66 = .ok (.aload_n 0, 1) := by decide +kernel
theorem dX3_step_67 : decode cX3_step 67 = .ok (.iconst 0, 1) := by decide +kernel
theorem dX3_step_68 : decode cX3_step 68 = .ok (.putfield 21, 3) := by decide +kernel
theorem dX3_step_71 : decode cX3_step 71 = .ok (.goto 162, 3) := by decide +kernel
theorem dX3_step_74 : decode cX3_step 74 = .ok (.iload_n 2, 1) := by decide +kernel
theorem dX3_step_75 : decode cX3_step 75 = .ok (.invokestatic 139, 3) := by decide +kernel
theorem dX3_step_78 : decode cX3_step 78 = .ok (.ifCond .eq 46, 3) := by decide +kernel
theorem dX3_step_81 : decode cX3_step 81 = .ok (.aload_n 0, 1) := by decide +kernel
theorem dX3_step_82 : decode cX3_step 82 = .ok (.iconst 1, 1) := by decide +kernel
theorem dX3_step_83 : decode cX3_step 83 = .ok (.putfield 21, 3) := by decide +kernel
theorem dX3_step_86 : decode cX3_step 86 = .ok (.aload_n 0, 1) := by decide +kernel
theorem dX3_step_87 : decode cX3_step 87 = .ok (.getfield 18, 3) := by decide +kernel
theorem dX3_step_90 : decode cX3_step 90 = .ok (.aload_n 1, 1) := by decide +kernel
theorem dX3_step_91 : decode cX3_step 91 = .ok (.getfield 137, 3) := by decide +kernel
theorem dX3_step_94 : decode cX3_step 94 = .ok (.if_icmp .ge 139, 3) := by decide +kernel
theorem dX3_step_97 : decode cX3_step 97 = .ok (.aload_n 1, 1) := by decide +kernel
theorem dX3_step_98 : decode cX3_step 98 = .ok (.aload_n 0, 1) := by decide +kernel
theorem dX3_step_99 : decode cX3_step 99 = .ok (.getfield 18, 3) := by decide +kernel
theorem dX3_step_102 : decode cX3_step 102 = .ok (.invokevirtual 127, 3) := by decide +kernel
theorem dX3_step_105 : decode cX3_step 105 = .ok (.invokestatic 139, 3) := by decide +kernel
theorem dX3_step_108 : decode cX3_step 108 = .ok (.ifCond .eq 125, 3) := by decide +kernel
theorem dX3_step_111 : decode cX3_step 111 = .ok (.aload_n 0, 1) := by decide +kernel
theorem dX3_step_112 : decode cX3_step 112 = .ok (.dup, 1) := by decide +kernel
theorem dX3_step_113 : decode cX3_step 113 = .ok (.getfield 18, 3) := by decide +kernel
theorem dX3_step_116 : decode cX3_step 116 = .ok (.iconst 1, 1) := by decide +kernel
theorem dX3_step_117 : decode cX3_step 117 = .ok (.iadd, 1) := by decide +kernel
theorem dX3_step_118 : decode cX3_step 118 = .ok (.putfield 18, 3) := by decide +kernel
theorem dX3_step_121 : decode cX3_step 121 = .ok (.goto (-35), 3) := by decide +kernel
theorem dX3_step_124 : decode cX3_step 124 = .ok (.iload_n 2, 1) := by decide +kernel
theorem dX3_step_125 : decode cX3_step 125 = .ok (.invokestatic 142, 3) := by decide +kernel
theorem dX3_step_128 : decode cX3_step 128 = .ok (.ifCond .eq 80, 3) := by decide +kernel
theorem dX3_step_131 : decode cX3_step 131 = .ok (.aload_n 0, 1) := by decide +kernel
theorem dX3_step_132 : decode cX3_step 132 = .ok (.iconst 2, 1) := by decide +kernel
theorem dX3_step_133 : decode cX3_step 133 = .ok (.putfield 21, 3) := by decide +kernel
theorem dX3_step_136 : decode cX3_step 136 = .ok (.aload_n 0, 1) := by decide +kernel
theorem dX3_step_137 : decode cX3_step 137 = .ok (.iconst 0, 1) := by decide +kernel
theorem dX3_step_138 : decode cX3_step 138 = .ok (.putfield 24, 3) := by decide +kernel
theorem dX3_step_141 : decode cX3_step 141 = .ok (.aload_n 0, 1) := by decide +kernel
theorem dX3_step_142 : decode cX3_step 142 = .ok (.getfield 18, 3) := by decide +kernel
theorem dX3_step_145 : decode cX3_step 145 = .ok (.aload_n 1, 1) := by decide +kernel
theorem dX3_step_146 : decode cX3_step 146 = .ok (.getfield 137, 3) := by decide +kernel
theorem dX3_step_149 : decode cX3_step 149 = .ok (.if_icmp .ge 84, 3) := by decide +kernel
theorem dX3_step_152 : decode cX3_step 152 = .ok (.aload_n 1, 1) := by decide +kernel
theorem dX3_step_153 : decode cX3_step 153 = .ok (.aload_n 0, 1) := by decide +kernel
theorem dX3_step_154 : decode cX3_step 154 = .ok (.getfield 18, 3) := by decide +kernel
theorem dX3_step_157 : decode cX3_step 157 = .ok (.invokevirtual 127, 3) := by decide +kernel
theorem dX3_step_160 : decode cX3_step 160 = .ok (.invokestatic 142, 3) := by decide +kernel
theorem dX3_step_163 : decode cX3_step 163 = .ok (.ifCond .eq 70, 3) := by decide +kernel
theorem dX3_step_166 : decode cX3_step 166 = .ok (.aload_n 0, 1) := by decide +kernel
theorem dX3_step_167 : decode cX3_step 167 = .ok (.sipush 1000, 3) := by decide +kernel
theorem dX3_step_170 : decode cX3_step 170 = .ok (.bipush 10, 2) := by decide +kernel
theorem dX3_step_172 : decode cX3_step 172 = .ok (.aload_n 0, 1) := by decide +kernel
theorem dX3_step_173 : decode cX3_step 173 = .ok (.getfield 24, 3) := by decide +kernel
theorem dX3_step_176 : decode cX3_step 176 = .ok (.imul, 1) := by decide +kernel
theorem dX3_step_177 : decode cX3_step 177 = .ok (.aload_n 1, 1) := by decide +kernel
theorem dX3_step_178 : decode cX3_step 178 = .ok (.aload_n 0, 1) := by decide +kernel
theorem dX3_step_179 : decode cX3_step 179 = .ok (.getfield 18, 3) := by decide +kernel
theorem dX3_step_182 : decode cX3_step 182 = .ok (.invokevirtual 127, 3) := by decide +kernel
theorem dX3_step_185 : decode cX3_step 185 = .ok (.iadd, 1) := by decide +kernel
theorem dX3_step_186 : decode cX3_step 186 = .ok (.bipush 48, 2) := by decide +kernel
theorem dX3_step_188 : decode cX3_step 188 = .ok (.isub, 1) := by decide +kernel
theorem dX3_step_189 : decode cX3_step 189 = .ok (.invokestatic 145, 3) := by decide +kernel
theorem dX3_step_192 : decode cX3_step 192 = .ok (.putfield 24, 3) := by decide +kernel
theorem dX3_step_195 : decode cX3_step 195 = .ok (.aload_n 0, 1) := by decide +kernel
theorem dX3_step_196 : decode cX3_step 196 = .ok (.dup, 1) := by decide +kernel
theorem dX3_step_197 : decode cX3_step 197 = .ok (.getfield 18, 3) := by decide +kernel
theorem dX3_step_200 : decode cX3_step 200 = .ok (.iconst 1, 1) := by decide +kernel
theorem dX3_step_201 : decode cX3_step 201 = .ok (.iadd, 1) := by decide +kernel
theorem dX3_step_202 : decode cX3_step 202 = .ok (.putfield 18, 3) := by decide +kernel
theorem dX3_step_205 : decode cX3_step 205 = .ok (.goto (-64), 3) := by decide +kernel
theorem dX3_step_208 : decode cX3_step 208 = .ok (.aload_n 0, 1) := by decide +kernel
theorem dX3_step_209 : decode cX3_step 209 = .ok (.iload_n 2, 1) := by decide +kernel
theorem dX3_step_210 : decode cX3_step 210 = .ok (.bipush 59, 2) := by decide +kernel
theorem dX3_step_212 : decode cX3_step 212 = .ok (.if_icmp .ne 7, 3) := by decide +kernel
theorem dX3_step_215 : decode cX3_step 215 = .ok (.iconst 3, 1) := by decide +kernel
theorem dX3_step_216 : decode cX3_step 216 = .ok (.goto 4, 3) := by decide +kernel
theorem dX3_step_219 : decode cX3_step 219 = .ok (.iconst 4, 1) := by decide +kernel
theorem dX3_step_220 : decode cX3_step 220 = .ok (.putfield 21, 3) := by decide +kernel
theorem dX3_step_223 : decode cX3_step 223 = .ok (.aload_n 0, 1) := by decide +kernel
theorem dX3_step_224 : decode cX3_step 224 = .ok (.dup, 1) := by decide +kernel
theorem dX3_step_225 : decode cX3_step 225 = .ok (.getfield 18, 3) := by decide +kernel
theorem dX3_step_228 : decode cX3_step 228 = .ok (.iconst 1, 1) := by decide +kernel
theorem dX3_step_229 : decode cX3_step 229 = .ok (.iadd, 1) := by decide +kernel
theorem dX3_step_230 : decode cX3_step 230 = .ok (.putfield 18, 3) := by decide +kernel
theorem dX3_step_233 : decode cX3_step 233 = .ok (.return_, 1) := by decide +kernel
theorem dX3_isLetter_0 : decode cX3_isLetter 0 = .ok (.iload_n 0, 1) := by decide +kernel
theorem dX3_isLetter_1 : decode cX3_isLetter 1 = .ok (.bipush 97, 2) := by decide +kernel
theorem dX3_isLetter_3 : decode cX3_isLetter 3 = .ok (.if_icmp .lt 13, 3) := by decide +kernel
theorem dX3_isLetter_6 : decode cX3_isLetter 6 = .ok (.iload_n 0, 1) := by decide +kernel
theorem dX3_isLetter_7 : decode cX3_isLetter 7 = .ok (.bipush 122, 2) := by decide +kernel
theorem dX3_isLetter_9 : decode cX3_isLetter 9 = .ok (.if_icmp .gt 7, 3) := by decide +kernel
theorem dX3_isLetter_12 : decode cX3_isLetter 12 = .ok (.iconst 1, 1) := by decide +kernel
theorem dX3_isLetter_13 : decode cX3_isLetter 13 = .ok (.goto 4, 3) := by decide +kernel
theorem dX3_isLetter_16 : decode cX3_isLetter 16 = .ok (.iconst 0, 1) := by decide +kernel
theorem dX3_isLetter_17 : decode cX3_isLetter 17 = .ok (.ireturn, 1) := by decide +kernel
theorem dX3_isDigit_0 : decode cX3_isDigit 0 = .ok (.iload_n 0, 1) := by decide +kernel
theorem dX3_isDigit_1 : decode cX3_isDigit 1 = .ok (.bipush 48, 2) := by decide +kernel
theorem dX3_isDigit_3 : decode cX3_isDigit 3 = .ok (.if_icmp .lt 13, 3) := by decide +kernel
theorem dX3_isDigit_6 : decode cX3_isDigit 6 = .ok (.iload_n 0, 1) := by decide +kernel
theorem dX3_isDigit_7 : decode cX3_isDigit 7 = .ok (.bipush 57, 2) := by decide +kernel
theorem dX3_isDigit_9 : decode cX3_isDigit 9 = .ok (.if_icmp .gt 7, 3) := by decide +kernel
theorem dX3_isDigit_12 : decode cX3_isDigit 12 = .ok (.iconst 1, 1) := by decide +kernel
theorem dX3_isDigit_13 : decode cX3_isDigit 13 = .ok (.goto 4, 3) := by decide +kernel
theorem dX3_isDigit_16 : decode cX3_isDigit 16 = .ok (.iconst 0, 1) := by decide +kernel
theorem dX3_isDigit_17 : decode cX3_isDigit 17 = .ok (.ireturn, 1) := by decide +kernel
theorem dX4_init_0 : decode cX4_init 0 = .ok (.aload_n 0, 1) := by decide +kernel
theorem dX4_init_1 : decode cX4_init 1 = .ok (.invokespecial 1, 3) := by decide +kernel
theorem dX4_init_4 : decode cX4_init 4 = .ok (.aload_n 0, 1) := by decide +kernel
theorem dX4_init_5 : decode cX4_init 5 = .ok (.new 7, 3) := by decide +kernel
theorem dX4_init_8 : decode cX4_init 8 = .ok (.dup, 1) := by decide +kernel
theorem dX4_init_9 : decode cX4_init 9 = .ok (.invokespecial 9, 3) := by decide +kernel
theorem dX4_init_12 : decode cX4_init 12 = .ok (.putfield 10, 3) := by decide +kernel
theorem dX4_init_15 : decode cX4_init 15 = .ok (.aload_n 0, 1) := by decide +kernel
theorem dX4_init_16 : decode cX4_init 16 = .ok (.new 7, 3) := by decide +kernel
theorem dX4_init_19 : decode cX4_init 19 = .ok (.dup, 1) := by decide +kernel
theorem dX4_init_20 : decode cX4_init 20 = .ok (.invokespecial 9, 3) := by decide +kernel
theorem dX4_init_23 : decode cX4_init 23 = .ok (.putfield 16, 3) := by decide +kernel
theorem dX4_init_26 : decode cX4_init 26 = .ok (.aload_n 0, 1) := by decide +kernel
theorem dX4_init_27 : decode cX4_init 27 = .ok (.new 7, 3) := by decide +kernel
theorem dX4_init_30 : decode cX4_init 30 = .ok (.dup, 1) := by decide +kernel
theorem dX4_init_31 : decode cX4_init 31 = .ok (.invokespecial 9, 3) := by decide +kernel
theorem dX4_init_34 : decode cX4_init 34 = .ok (.putfield 19, 3) := by decide +kernel
theorem dX4_init_37 : decode cX4_init 37 = .ok (.aload_n 0, 1) := by decide +kernel
theorem dX4_init_38 : decode cX4_init 38 = .ok (.new 22, 3) := by decide +kernel
theorem dX4_init_41 : decode cX4_init 41 = .ok (.dup, 1) := by decide +kernel
theorem dX4_init_42 : decode cX4_init 42 = .ok (.invokespecial 24, 3) := by decide +kernel
theorem dX4_init_45 : decode cX4_init 45 = .ok (.putfield 25, 3) := by decide +kernel
theorem dX4_init_48 : decode cX4_init 48 = .ok (.aload_n 0, 1) := by decide +kernel
theorem dX4_init_49 : decode cX4_init 49 = .ok (.new 29, 3) := by decide +kernel
theorem dX4_init_52 : decode cX4_init 52 = .ok (.dup, 1) := by decide +kernel
theorem dX4_init_53 : decode cX4_init 53 = .ok (.invokespecial 31, 3) := by decide +kernel
theorem dX4_init_56 : decode cX4_init 56 = .ok (.putfield 32, 3) := by decide +kernel
theorem dX4_init_59 : decode cX4_init 59 = .ok (.aload_n 0, 1) := by decide +kernel
theorem dX4_init_60 : decode cX4_init 60 = .ok (.new 36, 3) := by decide +kernel
theorem dX4_init_63 : decode cX4_init 63 = .ok (.dup, 1) := by decide +kernel
theorem dX4_init_64 : decode cX4_init 64 = .ok (.invokespecial 38, 3) := by decide +kernel
theorem dX4_init_67 : decode cX4_init 67 = .ok (.putfield 39, 3) := by decide +kernel
theorem dX4_init_70 : decode cX4_init 70 = .ok (.aload_n 0, 1) := by decide +kernel
theorem dX4_init_71 : decode cX4_init 71 = .ok (.bipush 7, 2) := by decide +kernel
theorem dX4_init_73 : decode cX4_init 73 = .ok (.newarray .int, 2) := by decide +kernel
theorem dX4_init_75 : decode cX4_init 75 = .ok (.putfield 43, 3) := by decide +kernel
theorem dX4_init_78 : decode cX4_init 78 = .ok (.aload_n 0, 1) := by decide +kernel
theorem dX4_init_79 : decode cX4_init 79 = .ok (.iconst 0, 1) := by decide +kernel
theorem dX4_init_80 : decode cX4_init 80 = .ok (.putfield 47, 3) := by decide +kernel
theorem dX4_init_83 : decode cX4_init 83 = .ok (.return_, 1) := by decide +kernel
theorem dX4_house_0 : decode cX4_house 0 = .ok (.iload_n 1, 1) := by decide +kernel
theorem dX4_house_1 : decode cX4_house 1 = .ok (.invokestatic 51, 3) := by decide +kernel
theorem dX4_house_4 : decode cX4_house 4 = .ok (.ifCond .eq 24, 3) := by decide +kernel
theorem dX4_house_7 : decode cX4_house 7 = .ok (.iload_n 2, 1) := by decide +kernel
theorem dX4_house_8 : decode cX4_house 8 = .ok (.iconst 0, 1) := by decide +kernel
theorem dX4_house_9 : decode cX4_house 9 = .ok (.iconst 2, 1) := by decide +kernel
theorem dX4_house_10 : decode cX4_house 10 = .ok (.invokestatic 55, 3) := by decide +kernel
theorem dX4_house_13 : decode cX4_house 13 = .ok (.ifCond .eq 15, 3) := by decide +kernel
theorem dX4_house_16 : decode cX4_house 16 = .ok (.iload_n 3, 1) := by decide +kernel
theorem dX4_house_17 : decode cX4_house 17 = .ok (.iconst 0, 1) := by decide +kernel
theorem dX4_house_18 : decode cX4_house 18 = .ok (.iload_n 2, 1) := by decide +kernel
theorem dX4_house_19 : decode cX4_house 19 = .ok (.invokestatic 59, 3) := by decide +kernel
theorem dX4_house_22 : decode cX4_house 22 = .ok (.invokestatic 55, 3) := by decide +kernel
theorem dX4_house_25 : decode cX4_house 25 = .ok (.ifCond .ne 10, 3) := by decide +kernel
theorem dX4_house_28 : decode cX4_house 28 = .ok (.aload_n 0, 1) := by decide +kernel
theorem dX4_house_29 : decode cX4_house 29 = .ok (.ldc 63, 2) := by decide +kernel
theorem dX4_house_31 : decode cX4_house 31 = .ok (.invokevirtual 64, 3) := by decide +kernel
theorem dX4_house_34 : decode cX4_house 34 = .ok (.ireturn, 1) := by decide +kernel
theorem dX4_house_35 : decode cX4_house 35 = .ok (.aload_n 0, 1) := by decide +kernel
theorem dX4_house_36 : decode cX4_house 36 = .ok (.getfield 10, 3) := by decide +kernel
theorem dX4_house_39 : decode cX4_house 39 = .ok (.iload_n 2, 1) := by decide +kernel
theorem dX4_house_40 : decode cX4_house 40 = .ok (.invokevirtual 67, 3) := by decide +kernel
theorem dX4_house_43 : decode cX4_house 43 = .ok (.astore 4, 2) := by decide +kernel
theorem dX4_house_45 : decode cX4_house 45 = .ok (.aload 4, 2) := by decide +kernel
theorem dX4_house_47 : decode cX4_house 47 = .ok (.iload_n 1, 1) := by decide +kernel
theorem dX4_house_48 : decode cX4_house 48 = .ok (.iaload, 1) := by decide +kernel
theorem dX4_house_49 : decode cX4_house 49 = .ok (.istore 5, 2) := by decide +kernel
theorem dX4_house_51 : decode cX4_house 51 = .ok (.aload 4, 2) := by decide +kernel
theorem dX4_house_53 : decode cX4_house 53 = .ok (.iload_n 1, 1) := by decide +kernel
theorem dX4_house_54 : decode cX4_house 54 = .ok (.iload_n 3, 1) := by decide +kernel
theorem dX4_house_55 : decode cX4_house 55 = .ok (.iastore, 1) := by decide +kernel
theorem dX4_house_56 : decode cX4_house 56 = .ok (.iload 5, 2) := by decide +kernel
theorem dX4_house_58 : decode cX4_house 58 = .ok (.ireturn, 1) := by decide +kernel
theorem dX4_houseOf_0 : decode cX4_houseOf 0 = .ok (.iload_n 1, 1) := by decide +kernel
theorem dX4_houseOf_1 : decode cX4_houseOf 1 = .ok (.invokestatic 51, 3) := by decide +kernel
theorem dX4_houseOf_4 : decode cX4_houseOf 4 = .ok (.ifCond .eq 12, 3) := by decide +kernel
theorem dX4_houseOf_7 : decode cX4_houseOf 7 = .ok (.iload_n 2, 1) := by decide +kernel
theorem dX4_houseOf_8 : decode cX4_houseOf 8 = .ok (.iconst 0, 1) := by decide +kernel
theorem dX4_houseOf_9 : decode cX4_houseOf 9 = .ok (.iconst 3, 1) := by decide +kernel
theorem dX4_houseOf_10 : decode cX4_houseOf 10 = .ok (.invokestatic 55, 3) := by decide +kernel
theorem dX4_houseOf_13 : decode cX4_houseOf 13 = .ok (.ifCond .ne 10, 3) := by decide +kernel
theorem dX4_houseOf_16 : decode cX4_houseOf 16 = .ok (.aload_n 0, 1) := by decide +kernel
theorem dX4_houseOf_17 : decode cX4_houseOf 17 = .ok (.ldc 63, 2) := by decide +kernel
theorem dX4_houseOf_19 : decode cX4_houseOf 19 = .ok (.invokevirtual 64, 3) := by decide +kernel
theorem dX4_houseOf_22 : decode cX4_houseOf 22 = .ok (.ireturn, 1) := by decide +kernel
theorem dX4_houseOf_23 : decode cX4_houseOf 23 = .ok (.iload_n 2, 1) := by decide +kernel
theorem dX4_houseOf_24 : decode cX4_houseOf 24 = .ok (.iconst 3, 1) := by decide +kernel
theorem dX4_houseOf_25 : decode cX4_houseOf 25 = .ok (.if_icmp .ne 14, 3) := by decide +kernel
theorem dX4_houseOf_28 : decode cX4_houseOf 28 = .ok (.aload_n 0, 1) := by decide +kernel
theorem dX4_houseOf_29 : decode cX4_houseOf 29 = .ok (.getfield 10, 3) := by decide +kernel
theorem dX4_houseOf_32 : decode cX4_houseOf 32 = .ok (.iload_n 1, 1) := by decide +kernel
theorem dX4_houseOf_33 : decode cX4_houseOf 33 = .ok (.invokevirtual 71, 3) := by decide +kernel
theorem dX4_houseOf_36 : decode cX4_houseOf 36 = .ok (.goto 13, 3) := by decide +kernel
theorem dX4_houseOf_39 : decode cX4_houseOf 39 = .ok (.aload_n 0, 1) := by decide +kernel
theorem dX4_houseOf_40 : decode cX4_houseOf 40 = .ok (.getfield 10, 3) := by decide +kernel
theorem dX4_houseOf_43 : decode cX4_houseOf 43 = .ok (.iload_n 2, 1) := by decide +kernel
theorem dX4_houseOf_44 : decode cX4_houseOf 44 = .ok (.invokevirtual 67, 3) := by decide +kernel
theorem dX4_houseOf_47 : decode cX4_houseOf 47 = .ok (.iload_n 1, 1) := by decide +kernel
theorem dX4_houseOf_48 : decode cX4_houseOf 48 = .ok (.iaload, 1) := by decide +kernel
theorem dX4_houseOf_49 : decode cX4_houseOf 49 = .ok (.ireturn, 1) := by decide +kernel
theorem dX4_dry_0 : decode cX4_dry 0 = .ok (.iload_n 1, 1) := by decide +kernel
theorem dX4_dry_1 : decode cX4_dry 1 = .ok (.iconst 0, 1) := by decide +kernel
theorem dX4_dry_2 : decode cX4_dry 2 = .ok (.bipush 9, 2) := by decide +kernel
theorem dX4_dry_4 : decode cX4_dry 4 = .ok (.invokestatic 55, 3) := by decide +kernel
theorem dX4_dry_7 : decode cX4_dry 7 = .ok (.ifCond .ne 10, 3) := by decide +kernel
theorem dX4_dry_10 : decode cX4_dry 10 = .ok (.aload_n 0, 1) := by decide +kernel
theorem dX4_dry_11 : decode cX4_dry 11 = .ok (.ldc 63, 2) := by decide +kernel
theorem dX4_dry_13 : decode cX4_dry 13 = .ok (.invokevirtual 64, 3) := by decide +kernel
theorem dX4_dry_16 : decode cX4_dry 16 = .ok (.ireturn, 1) := by decide +kernel
theorem dX4_dry_17 : decode cX4_dry 17 = .ok (.aload_n 0, 1) := by decide +kernel
theorem dX4_dry_18 : decode cX4_dry 18 = .ok (.getfield 10, 3) := by decide +kernel
theorem dX4_dry_21 : decode cX4_dry 21 = .ok (.getfield 74, 3) := by decide +kernel
theorem dX4_dry_24 : decode cX4_dry 24 = .ok (.istore_n 2, 1) := by decide +kernel
theorem dX4_dry_25 : decode cX4_dry 25 = .ok (.aload_n 0, 1) := by decide +kernel
theorem dX4_dry_26 : decode cX4_dry 26 = .ok (.getfield 10, 3) := by decide +kernel
theorem dX4_dry_29 : decode cX4_dry 29 = .ok (.iload_n 1, 1) := by decide +kernel
theorem dX4_dry_30 : decode cX4_dry 30 = .ok (.putfield 74, 3) := by decide +kernel
theorem dX4_dry_33 : decode cX4_dry 33 = .ok (.iload_n 2, 1) := by decide +kernel
theorem dX4_dry_34 : decode cX4_dry 34 = .ok (.ireturn, 1) := by decide +kernel
theorem dX4_now_0 : decode cX4_now 0 = .ok (.iload_n 1, 1) := by decide +kernel
theorem dX4_now_1 : decode cX4_now 1 = .ok (.tableswitch 99 0 6 #[43, 51, 59, 67, 75, 83, 91], 43) := by decide +kernel
theorem dX4_now_44 : decode cX4_now 44 = .ok (.aload_n 0, 1) := by decide +kernel
theorem dX4_now_45 : decode cX4_now 45 = .ok (.getfield 10, 3) := by decide +kernel
theorem dX4_now_48 : decode cX4_now 48 = .ok (.getfield 78, 3) := by decide +kernel
theorem dX4_now_51 : decode cX4_now 51 = .ok (.ireturn, 1) := by decide +kernel
theorem dX4_now_52 : decode cX4_now 52 = .ok (.aload_n 0, 1) := by decide +kernel
theorem dX4_now_53 : decode cX4_now 53 = .ok (.getfield 10, 3) := by decide +kernel
theorem dX4_now_56 : decode cX4_now 56 = .ok (.getfield 74, 3) := by decide +kernel
theorem dX4_now_59 : decode cX4_now 59 = .ok (.ireturn, 1) := by decide +kernel
theorem dX4_now_60 : decode cX4_now 60 = .ok (.aload_n 0, 1) := by decide +kernel
theorem dX4_now_61 : decode cX4_now 61 = .ok (.getfield 10, 3) := by decide +kernel
theorem dX4_now_64 : decode cX4_now 64 = .ok (.invokevirtual 81, 3) := by decide +kernel
theorem dX4_now_67 : decode cX4_now 67 = .ok (.ireturn, 1) := by decide +kernel
theorem dX4_now_68 : decode cX4_now 68 = .ok (.aload_n 0, 1) := by decide +kernel
theorem dX4_now_69 : decode cX4_now 69 = .ok (.getfield 10, 3) := by decide +kernel
theorem dX4_now_72 : decode cX4_now 72 = .ok (.invokevirtual 85, 3) := by decide +kernel
theorem dX4_now_75 : decode cX4_now 75 = .ok (.ireturn, 1) := by decide +kernel
theorem dX4_now_76 : decode cX4_now 76 = .ok (.aload_n 0, 1) := by decide +kernel
theorem dX4_now_77 : decode cX4_now 77 = .ok (.getfield 10, 3) := by decide +kernel
theorem dX4_now_80 : decode cX4_now 80 = .ok (.invokevirtual 88, 3) := by decide +kernel
theorem dX4_now_83 : decode cX4_now 83 = .ok (.ireturn, 1) := by decide +kernel
theorem dX4_now_84 : decode cX4_now 84 = .ok (.aload_n 0, 1) := by decide +kernel
theorem dX4_now_85 : decode cX4_now 85 = .ok (.getfield 10, 3) := by decide +kernel
theorem dX4_now_88 : decode cX4_now 88 = .ok (.invokevirtual 91, 3) := by decide +kernel
theorem dX4_now_91 : decode cX4_now 91 = .ok (.ireturn, 1) := by decide +kernel
theorem dX4_now_92 : decode cX4_now 92 = .ok (.aload_n 0, 1) := by decide +kernel
theorem dX4_now_93 : decode cX4_now 93 = .ok (.getfield 10, 3) := by decide +kernel
theorem dX4_now_96 : decode cX4_now 96 = .ok (.invokevirtual 94, 3) := by decide +kernel
theorem dX4_now_99 : decode cX4_now 99 = .ok (.ireturn, 1) := by decide +kernel
theorem dX4_now_100 : decode cX4_now 100 = .ok (.aload_n 0, 1) := by decide +kernel
theorem dX4_now_101 : decode cX4_now 101 = .ok (.ldc 63, 2) := by decide +kernel
theorem dX4_now_103 : decode cX4_now 103 = .ok (.invokevirtual 64, 3) := by decide +kernel
theorem dX4_now_106 : decode cX4_now 106 = .ok (.ireturn, 1) := by decide +kernel
theorem dX4_sneezer_0 : decode cX4_sneezer 0 = .ok (.iload_n 1, 1) := by decide +kernel
theorem dX4_sneezer_1 : decode cX4_sneezer 1 = .ok (.invokestatic 97, 3) := by decide +kernel
theorem dX4_sneezer_4 : decode cX4_sneezer 4 = .ok (.ifCond .eq 10, 3) := by decide +kernel
theorem dX4_sneezer_7 : decode cX4_sneezer 7 = .ok (.iload_n 2, 1) := by decide +kernel
theorem dX4_sneezer_8 : decode cX4_sneezer 8 = .ok (.invokestatic 51, 3) := by decide +kernel
theorem dX4_sneezer_11 : decode cX4_sneezer 11 = .ok (.ifCond .ne 10, 3) := by decide +kernel
theorem dX4_sneezer_14 : decode cX4_sneezer 14 = .ok (.aload_n 0, 1) := by decide +kernel
theorem dX4_sneezer_15 : decode cX4_sneezer 15 = .ok (.ldc 63, 2) := by decide +kernel
theorem dX4_sneezer_17 : decode cX4_sneezer 17 = .ok (.invokevirtual 64, 3) := by decide +kernel
theorem dX4_sneezer_20 : decode cX4_sneezer 20 = .ok (.ireturn, 1) := by decide +kernel
theorem dX4_sneezer_21 : decode cX4_sneezer 21 = .ok (.aload_n 0, 1) := by decide +kernel
theorem dX4_sneezer_22 : decode cX4_sneezer 22 = .ok (.getfield 10, 3) := by decide +kernel
theorem dX4_sneezer_25 : decode cX4_sneezer 25 = .ok (.getfield 100, 3) := by decide +kernel
theorem dX4_sneezer_28 : decode cX4_sneezer 28 = .ok (.bipush 8, 2) := by decide +kernel
theorem dX4_sneezer_30 : decode cX4_sneezer 30 = .ok (.if_icmp .lt 10, 3) := by decide +kernel
theorem dX4_sneezer_33 : decode cX4_sneezer 33 = .ok (.aload_n 0, 1) := by decide +kernel
theorem dX4_sneezer_34 : decode cX4_sneezer 34 = .ok (.ldc 103, 2) := by decide +kernel
theorem dX4_sneezer_36 : decode cX4_sneezer 36 = .ok (.invokevirtual 64, 3) := by decide +kernel
theorem dX4_sneezer_39 : decode cX4_sneezer 39 = .ok (.ireturn, 1) := by decide +kernel
theorem dX4_sneezer_40 : decode cX4_sneezer 40 = .ok (.aload_n 0, 1) := by decide +kernel
theorem dX4_sneezer_41 : decode cX4_sneezer 41 = .ok (.getfield 10, 3) := by decide +kernel
theorem dX4_sneezer_44 : decode cX4_sneezer 44 = .ok (.iload_n 1, 1) := by decide +kernel
theorem dX4_sneezer_45 : decode cX4_sneezer 45 = .ok (.iload_n 2, 1) := by decide +kernel
theorem dX4_sneezer_46 : decode cX4_sneezer 46 = .ok (.invokevirtual 104, 3) := by decide +kernel
theorem dX4_sneezer_49 : decode cX4_sneezer 49 = .ok (.ireturn, 1) := by decide +kernel
theorem dX4_of_0 : decode cX4_of 0 = .ok (.aload_n 0, 1) := by decide +kernel
theorem dX4_of_1 : decode cX4_of 1 = .ok (.iload_n 1, 1) := by decide +kernel
theorem dX4_of_2 : decode cX4_of 2 = .ok (.invokevirtual 108, 3) := by decide +kernel
theorem dX4_of_5 : decode cX4_of 5 = .ok (.ifCond .ne 10, 3) := by decide +kernel
theorem dX4_of_8 : decode cX4_of 8 = .ok (.aload_n 0, 1) := by decide +kernel
theorem dX4_of_9 : decode cX4_of 9 = .ok (.ldc 63, 2) := by decide +kernel
theorem dX4_of_11 : decode cX4_of 11 = .ok (.invokevirtual 64, 3) := by decide +kernel
theorem dX4_of_14 : decode cX4_of 14 = .ok (.ireturn, 1) := by decide +kernel
theorem dX4_of_15 : decode cX4_of 15 = .ok (.iload_n 2, 1) := by decide +kernel
theorem dX4_of_16 : decode cX4_of 16 = .ok (.tableswitch 152 0 9 #[56, 66, 76, 86, 96, 106, 116, 125, 134, 143], 56) := by decide +kernel
theorem dX4_of_72 : decode cX4_of 72 = .ok (.aload_n 0, 1) := by decide +kernel
theorem dX4_of_73 : decode cX4_of 73 = .ok (.getfield 10, 3) := by decide +kernel
theorem dX4_of_76 : decode cX4_of 76 = .ok (.getfield 111, 3) := by decide +kernel
theorem dX4_of_79 : decode cX4_of 79 = .ok (.iload_n 1, 1) := by decide +kernel
theorem dX4_of_80 : decode cX4_of 80 = .ok (.iaload, 1) := by decide +kernel
theorem dX4_of_81 : decode cX4_of 81 = .ok (.ireturn, 1) := by decide +kernel
theorem dX4_of_82 : decode cX4_of 82 = .ok (.aload_n 0, 1) := by decide +kernel
theorem dX4_of_83 : decode cX4_of 83 = .ok (.getfield 10, 3) := by decide +kernel
theorem dX4_of_86 : decode cX4_of 86 = .ok (.getfield 114, 3) := by decide +kernel
theorem dX4_of_89 : decode cX4_of 89 = .ok (.iload_n 1, 1) := by decide +kernel
theorem dX4_of_90 : decode cX4_of 90 = .ok (.iaload, 1) := by decide +kernel
theorem dX4_of_91 : decode cX4_of 91 = .ok (.ireturn, 1) := by decide +kernel
theorem dX4_of_92 : decode cX4_of 92 = .ok (.aload_n 0, 1) := by decide +kernel
theorem dX4_of_93 : decode cX4_of 93 = .ok (.getfield 10, 3) := by decide +kernel
theorem dX4_of_96 : decode cX4_of 96 = .ok (.getfield 117, 3) := by decide +kernel
theorem dX4_of_99 : decode cX4_of 99 = .ok (.iload_n 1, 1) := by decide +kernel
theorem dX4_of_100 : decode cX4_of 100 = .ok (.iaload, 1) := by decide +kernel
theorem dX4_of_101 : decode cX4_of 101 = .ok (.ireturn, 1) := by decide +kernel
theorem dX4_of_102 : decode cX4_of 102 = .ok (.aload_n 0, 1) := by decide +kernel
theorem dX4_of_103 : decode cX4_of 103 = .ok (.getfield 10, 3) := by decide +kernel
theorem dX4_of_106 : decode cX4_of 106 = .ok (.getfield 120, 3) := by decide +kernel
theorem dX4_of_109 : decode cX4_of 109 = .ok (.iload_n 1, 1) := by decide +kernel
theorem dX4_of_110 : decode cX4_of 110 = .ok (.iaload, 1) := by decide +kernel
theorem dX4_of_111 : decode cX4_of 111 = .ok (.ireturn, 1) := by decide +kernel
theorem dX4_of_112 : decode cX4_of 112 = .ok (.aload_n 0, 1) := by decide +kernel
theorem dX4_of_113 : decode cX4_of 113 = .ok (.getfield 10, 3) := by decide +kernel
theorem dX4_of_116 : decode cX4_of 116 = .ok (.getfield 123, 3) := by decide +kernel
theorem dX4_of_119 : decode cX4_of 119 = .ok (.iload_n 1, 1) := by decide +kernel
theorem dX4_of_120 : decode cX4_of 120 = .ok (.iaload, 1) := by decide +kernel
theorem dX4_of_121 : decode cX4_of 121 = .ok (.ireturn, 1) := by decide +kernel
theorem dX4_of_122 : decode cX4_of 122 = .ok (.aload_n 0, 1) := by decide +kernel
theorem dX4_of_123 : decode cX4_of 123 = .ok (.getfield 10, 3) := by decide +kernel
theorem dX4_of_126 : decode cX4_of 126 = .ok (.getfield 126, 3) := by decide +kernel
theorem dX4_of_129 : decode cX4_of 129 = .ok (.iload_n 1, 1) := by decide +kernel
theorem dX4_of_130 : decode cX4_of 130 = .ok (.iaload, 1) := by decide +kernel
theorem dX4_of_131 : decode cX4_of 131 = .ok (.ireturn, 1) := by decide +kernel
theorem dX4_of_132 : decode cX4_of 132 = .ok (.aload_n 0, 1) := by decide +kernel
theorem dX4_of_133 : decode cX4_of 133 = .ok (.getfield 10, 3) := by decide +kernel
theorem dX4_of_136 : decode cX4_of 136 = .ok (.iload_n 1, 1) := by decide +kernel
theorem dX4_of_137 : decode cX4_of 137 = .ok (.invokevirtual 129, 3) := by decide +kernel
theorem dX4_of_140 : decode cX4_of 140 = .ok (.ireturn, 1) := by decide +kernel
theorem dX4_of_141 : decode cX4_of 141 = .ok (.aload_n 0, 1) := by decide +kernel
theorem dX4_of_142 : decode cX4_of 142 = .ok (.getfield 10, 3) := by decide +kernel
theorem dX4_of_145 : decode cX4_of 145 = .ok (.iload_n 1, 1) := by decide +kernel
theorem dX4_of_146 : decode cX4_of 146 = .ok (.invokevirtual 132, 3) := by decide +kernel
theorem dX4_of_149 : decode cX4_of 149 = .ok (.ireturn, 1) := by decide +kernel
theorem dX4_of_150 : decode cX4_of 150 = .ok (.aload_n 0, 1) := by decide +kernel
theorem dX4_of_151 : decode cX4_of 151 = .ok (.getfield 10, 3) := by decide +kernel
theorem dX4_of_154 : decode cX4_of 154 = .ok (.iload_n 1, 1) := by decide +kernel
theorem dX4_of_155 : decode cX4_of 155 = .ok (.invokevirtual 135, 3) := by decide +kernel
theorem dX4_of_158 : decode cX4_of 158 = .ok (.ireturn, 1) := by decide +kernel
theorem dX4_of_159 : decode cX4_of 159 = .ok (.aload_n 0, 1) := by decide +kernel
theorem dX4_of_160 : decode cX4_of 160 = .ok (.getfield 10, 3) := by decide +kernel
theorem dX4_of_163 : decode cX4_of 163 = .ok (.iload_n 1, 1) := by decide +kernel
theorem dX4_of_164 : decode cX4_of 164 = .ok (.invokevirtual 138, 3) := by decide +kernel
theorem dX4_of_167 : decode cX4_of 167 = .ok (.ireturn, 1) := by decide +kernel
theorem dX4_of_168 : decode cX4_of 168 = .ok (.aload_n 0, 1) := by decide +kernel
theorem dX4_of_169 : decode cX4_of 169 = .ok (.ldc 63, 2) := by decide +kernel
theorem dX4_of_171 : decode cX4_of 171 = .ok (.invokevirtual 64, 3) := by decide +kernel
theorem dX4_of_174 : decode cX4_of 174 = .ok (.ireturn, 1) := by decide +kernel
theorem dX4_set_0 : decode cX4_set 0 = .ok (.aload_n 0, 1) := by decide +kernel
theorem dX4_set_1 : decode cX4_set 1 = .ok (.iload_n 1, 1) := by decide +kernel
theorem dX4_set_2 : decode cX4_set 2 = .ok (.invokevirtual 108, 3) := by decide +kernel
theorem dX4_set_5 : decode cX4_set 5 = .ok (.ifCond .eq 24, 3) := by decide +kernel
theorem dX4_set_8 : decode cX4_set 8 = .ok (.iload_n 2, 1) := by decide +kernel
theorem dX4_set_9 : decode cX4_set 9 = .ok (.iconst 1, 1) := by decide +kernel
theorem dX4_set_10 : decode cX4_set 10 = .ok (.iconst 5, 1) := by decide +kernel
theorem dX4_set_11 : decode cX4_set 11 = .ok (.invokestatic 55, 3) := by decide +kernel
theorem dX4_set_14 : decode cX4_set 14 = .ok (.ifCond .eq 15, 3) := by decide +kernel
theorem dX4_set_17 : decode cX4_set 17 = .ok (.iload_n 3, 1) := by decide +kernel
theorem dX4_set_18 : decode cX4_set 18 = .ok (.iconst 0, 1) := by decide +kernel
theorem dX4_set_19 : decode cX4_set 19 = .ok (.iload_n 2, 1) := by decide +kernel
theorem dX4_set_20 : decode cX4_set 20 = .ok (.invokestatic 141, 3) := by decide +kernel
theorem dX4_set_23 : decode cX4_set 23 = .ok (.invokestatic 55, 3) := by decide +kernel
theorem dX4_set_26 : decode cX4_set 26 = .ok (.ifCond .ne 10, 3) := by decide +kernel
theorem dX4_set_29 : decode cX4_set 29 = .ok (.aload_n 0, 1) := by decide +kernel
theorem dX4_set_30 : decode cX4_set 30 = .ok (.ldc 63, 2) := by decide +kernel
theorem dX4_set_32 : decode cX4_set 32 = .ok (.invokevirtual 64, 3) := by decide +kernel
theorem dX4_set_35 : decode cX4_set 35 = .ok (.ireturn, 1) := by decide +kernel
theorem dX4_set_36 : decode cX4_set 36 = .ok (.aload_n 0, 1) := by decide +kernel
theorem dX4_set_37 : decode cX4_set 37 = .ok (.getfield 10, 3) := by decide +kernel
theorem dX4_set_40 : decode cX4_set 40 = .ok (.iload_n 2, 1) := by decide +kernel
theorem dX4_set_41 : decode cX4_set 41 = .ok (.invokevirtual 144, 3) := by decide +kernel
theorem dX4_set_44 : decode cX4_set 44 = .ok (.astore 4, 2) := by decide +kernel
theorem dX4_set_46 : decode cX4_set 46 = .ok (.aload 4, 2) := by decide +kernel
theorem dX4_set_48 : decode cX4_set 48 = .ok (.iload_n 1, 1) := by decide +kernel
theorem dX4_set_49 : decode cX4_set 49 = .ok (.iaload, 1) := by decide +kernel
theorem dX4_set_50 : decode cX4_set 50 = .ok (.istore 5, 2) := by decide +kernel
theorem dX4_set_52 : decode cX4_set 52 = .ok (.aload 4, 2) := by decide +kernel
theorem dX4_set_54 : decode cX4_set 54 = .ok (.iload_n 1, 1) := by decide +kernel
theorem dX4_set_55 : decode cX4_set 55 = .ok (.iload_n 3, 1) := by decide +kernel
theorem dX4_set_56 : decode cX4_set 56 = .ok (.iastore, 1) := by decide +kernel
theorem dX4_set_57 : decode cX4_set 57 = .ok (.iload 5, 2) := by decide +kernel
theorem dX4_set_59 : decode cX4_set 59 = .ok (.ireturn, 1) := by decide +kernel
theorem dX4_turn_0 : decode cX4_turn 0 = .ok (.aload_n 0, 1) := by decide +kernel
theorem dX4_turn_1 : decode cX4_turn 1 = .ok (.iload_n 1, 1) := by decide +kernel
theorem dX4_turn_2 : decode cX4_turn 2 = .ok (.invokevirtual 108, 3) := by decide +kernel
theorem dX4_turn_5 : decode cX4_turn 5 = .ok (.ifCond .eq 10, 3) := by decide +kernel
theorem dX4_turn_8 : decode cX4_turn 8 = .ok (.iload_n 2, 1) := by decide +kernel
theorem dX4_turn_9 : decode cX4_turn 9 = .ok (.invokestatic 97, 3) := by decide +kernel
theorem dX4_turn_12 : decode cX4_turn 12 = .ok (.ifCond .ne 10, 3) := by decide +kernel
theorem dX4_turn_15 : decode cX4_turn 15 = .ok (.aload_n 0, 1) := by decide +kernel
theorem dX4_turn_16 : decode cX4_turn 16 = .ok (.ldc 63, 2) := by decide +kernel
theorem dX4_turn_18 : decode cX4_turn 18 = .ok (.invokevirtual 64, 3) := by decide +kernel
theorem dX4_turn_21 : decode cX4_turn 21 = .ok (.ireturn, 1) := by decide +kernel
theorem dX4_turn_22 : decode cX4_turn 22 = .ok (.aload_n 0, 1) := by decide +kernel
theorem dX4_turn_23 : decode cX4_turn 23 = .ok (.getfield 10, 3) := by decide +kernel
theorem dX4_turn_26 : decode cX4_turn 26 = .ok (.getfield 111, 3) := by decide +kernel
theorem dX4_turn_29 : decode cX4_turn 29 = .ok (.iload_n 1, 1) := by decide +kernel
theorem dX4_turn_30 : decode cX4_turn 30 = .ok (.iaload, 1) := by decide +kernel
theorem dX4_turn_31 : decode cX4_turn 31 = .ok (.istore_n 3, 1) := by decide +kernel
theorem dX4_turn_32 : decode cX4_turn 32 = .ok (.aload_n 0, 1) := by decide +kernel
theorem dX4_turn_33 : decode cX4_turn 33 = .ok (.getfield 10, 3) := by decide +kernel
theorem dX4_turn_36 : decode cX4_turn 36 = .ok (.getfield 111, 3) := by decide +kernel
theorem dX4_turn_39 : decode cX4_turn 39 = .ok (.iload_n 1, 1) := by decide +kernel
theorem dX4_turn_40 : decode cX4_turn 40 = .ok (.iload_n 2, 1) := by decide +kernel
theorem dX4_turn_41 : decode cX4_turn 41 = .ok (.iastore, 1) := by decide +kernel
theorem dX4_turn_42 : decode cX4_turn 42 = .ok (.iload_n 3, 1) := by decide +kernel
theorem dX4_turn_43 : decode cX4_turn 43 = .ok (.ireturn, 1) := by decide +kernel
theorem dX4_as_0 : decode cX4_as 0 = .ok (.aload_n 0, 1) := by decide +kernel
theorem dX4_as_1 : decode cX4_as 1 = .ok (.iload_n 1, 1) := by decide +kernel
theorem dX4_as_2 : decode cX4_as 2 = .ok (.invokevirtual 108, 3) := by decide +kernel
theorem dX4_as_5 : decode cX4_as 5 = .ok (.ifCond .eq 10, 3) := by decide +kernel
theorem dX4_as_8 : decode cX4_as 8 = .ok (.iload_n 2, 1) := by decide +kernel
theorem dX4_as_9 : decode cX4_as 9 = .ok (.invokestatic 97, 3) := by decide +kernel
theorem dX4_as_12 : decode cX4_as 12 = .ok (.ifCond .ne 10, 3) := by decide +kernel
theorem dX4_as_15 : decode cX4_as 15 = .ok (.aload_n 0, 1) := by decide +kernel
theorem dX4_as_16 : decode cX4_as 16 = .ok (.ldc 63, 2) := by decide +kernel
theorem dX4_as_18 : decode cX4_as 18 = .ok (.invokevirtual 64, 3) := by decide +kernel
theorem dX4_as_21 : decode cX4_as 21 = .ok (.ireturn, 1) := by decide +kernel
theorem dX4_as_22 : decode cX4_as 22 = .ok (.aload_n 0, 1) := by decide +kernel
theorem dX4_as_23 : decode cX4_as 23 = .ok (.getfield 10, 3) := by decide +kernel
theorem dX4_as_26 : decode cX4_as 26 = .ok (.getfield 111, 3) := by decide +kernel
theorem dX4_as_29 : decode cX4_as 29 = .ok (.iload_n 1, 1) := by decide +kernel
theorem dX4_as_30 : decode cX4_as 30 = .ok (.iaload, 1) := by decide +kernel
theorem dX4_as_31 : decode cX4_as 31 = .ok (.iload_n 2, 1) := by decide +kernel
theorem dX4_as_32 : decode cX4_as 32 = .ok (.invokestatic 147, 3) := by decide +kernel
theorem dX4_as_35 : decode cX4_as 35 = .ok (.ifCond .ne 10, 3) := by decide +kernel
theorem dX4_as_38 : decode cX4_as 38 = .ok (.aload_n 0, 1) := by decide +kernel
theorem dX4_as_39 : decode cX4_as 39 = .ok (.ldc 151, 2) := by decide +kernel
theorem dX4_as_41 : decode cX4_as 41 = .ok (.invokevirtual 64, 3) := by decide +kernel
theorem dX4_as_44 : decode cX4_as 44 = .ok (.ireturn, 1) := by decide +kernel
theorem dX4_as_45 : decode cX4_as 45 = .ok (.aload_n 0, 1) := by decide +kernel
theorem dX4_as_46 : decode cX4_as 46 = .ok (.getfield 10, 3) := by decide +kernel
theorem dX4_as_49 : decode cX4_as 49 = .ok (.getfield 120, 3) := by decide +kernel
theorem dX4_as_52 : decode cX4_as 52 = .ok (.iload_n 1, 1) := by decide +kernel
theorem dX4_as_53 : decode cX4_as 53 = .ok (.iaload, 1) := by decide +kernel
theorem dX4_as_54 : decode cX4_as 54 = .ok (.ireturn, 1) := by decide +kernel
theorem dX4_minutes_0 : decode cX4_minutes 0 = .ok (.iload_n 1, 1) := by decide +kernel
theorem dX4_minutes_1 : decode cX4_minutes 1 = .ok (.iconst 1, 1) := by decide +kernel
theorem dX4_minutes_2 : decode cX4_minutes 2 = .ok (.bipush 100, 2) := by decide +kernel
theorem dX4_minutes_4 : decode cX4_minutes 4 = .ok (.invokestatic 55, 3) := by decide +kernel
theorem dX4_minutes_7 : decode cX4_minutes 7 = .ok (.ifCond .ne 10, 3) := by decide +kernel
theorem dX4_minutes_10 : decode cX4_minutes 10 = .ok (.aload_n 0, 1) := by decide +kernel
theorem dX4_minutes_11 : decode cX4_minutes 11 = .ok (.ldc 63, 2) := by decide +kernel
theorem dX4_minutes_13 : decode cX4_minutes 13 = .ok (.invokevirtual 64, 3) := by decide +kernel
theorem dX4_minutes_16 : decode cX4_minutes 16 = .ok (.ireturn, 1) := by decide +kernel
theorem dX4_minutes_17 : decode cX4_minutes 17 = .ok (.aload_n 0, 1) := by decide +kernel
theorem dX4_minutes_18 : decode cX4_minutes 18 = .ok (.getfield 10, 3) := by decide +kernel
theorem dX4_minutes_21 : decode cX4_minutes 21 = .ok (.getfield 78, 3) := by decide +kernel
theorem dX4_minutes_24 : decode cX4_minutes 24 = .ok (.ldc 152, 2) := by decide +kernel
theorem dX4_minutes_26 : decode cX4_minutes 26 = .ok (.iload_n 1, 1) := by decide +kernel
theorem dX4_minutes_27 : decode cX4_minutes 27 = .ok (.isub, 1) := by decide +kernel
theorem dX4_minutes_28 : decode cX4_minutes 28 = .ok (.if_icmp .le 10, 3) := by decide +kernel
theorem dX4_minutes_31 : decode cX4_minutes 31 = .ok (.aload_n 0, 1) := by decide +kernel
theorem dX4_minutes_32 : decode cX4_minutes 32 = .ok (.ldc 153, 2) := by decide +kernel
theorem dX4_minutes_34 : decode cX4_minutes 34 = .ok (.invokevirtual 64, 3) := by decide +kernel
theorem dX4_minutes_37 : decode cX4_minutes 37 = .ok (.ireturn, 1) := by decide +kernel
theorem dX4_minutes_38 : decode cX4_minutes 38 = .ok (.aload_n 0, 1) := by decide +kernel
theorem dX4_minutes_39 : decode cX4_minutes 39 = .ok (.getfield 10, 3) := by decide +kernel
theorem dX4_minutes_42 : decode cX4_minutes 42 = .ok (.iload_n 1, 1) := by decide +kernel
theorem dX4_minutes_43 : decode cX4_minutes 43 = .ok (.invokevirtual 154, 3) := by decide +kernel
theorem dX4_minutes_46 : decode cX4_minutes 46 = .ok (.aload_n 0, 1) := by decide +kernel
theorem dX4_minutes_47 : decode cX4_minutes 47 = .ok (.getfield 10, 3) := by decide +kernel
theorem dX4_minutes_50 : decode cX4_minutes 50 = .ok (.invokevirtual 81, 3) := by decide +kernel
theorem dX4_minutes_53 : decode cX4_minutes 53 = .ok (.ireturn, 1) := by decide +kernel
theorem dX4_on_0 : decode cX4_on 0 = .ok (.aload_n 0, 1) := by decide +kernel
theorem dX4_on_1 : decode cX4_on 1 = .ok (.iload_n 1, 1) := by decide +kernel
theorem dX4_on_2 : decode cX4_on 2 = .ok (.invokevirtual 108, 3) := by decide +kernel
theorem dX4_on_5 : decode cX4_on 5 = .ok (.ifCond .eq 23, 3) := by decide +kernel
theorem dX4_on_8 : decode cX4_on 8 = .ok (.iload_n 2, 1) := by decide +kernel
theorem dX4_on_9 : decode cX4_on 9 = .ok (.iconst 0, 1) := by decide +kernel
theorem dX4_on_10 : decode cX4_on 10 = .ok (.sipush 200, 3) := by decide +kernel
theorem dX4_on_13 : decode cX4_on 13 = .ok (.invokestatic 55, 3) := by decide +kernel
theorem dX4_on_16 : decode cX4_on 16 = .ok (.ifCond .eq 12, 3) := by decide +kernel
theorem dX4_on_19 : decode cX4_on 19 = .ok (.iload_n 3, 1) := by decide +kernel
theorem dX4_on_20 : decode cX4_on 20 = .ok (.iconst 0, 1) := by decide +kernel
theorem dX4_on_21 : decode cX4_on 21 = .ok (.iconst 2, 1) := by decide +kernel
theorem dX4_on_22 : decode cX4_on 22 = .ok (.invokestatic 55, 3) := by decide +kernel
theorem dX4_on_25 : decode cX4_on 25 = .ok (.ifCond .ne 10, 3) := by decide +kernel
theorem dX4_on_28 : decode cX4_on 28 = .ok (.aload_n 0, 1) := by decide +kernel
theorem dX4_on_29 : decode cX4_on 29 = .ok (.ldc 63, 2) := by decide +kernel
theorem dX4_on_31 : decode cX4_on 31 = .ok (.invokevirtual 64, 3) := by decide +kernel
theorem dX4_on_34 : decode cX4_on 34 = .ok (.ireturn, 1) := by decide +kernel
theorem dX4_on_35 : decode cX4_on 35 = .ok (.aload_n 0, 1) := by decide +kernel
theorem dX4_on_36 : decode cX4_on 36 = .ok (.invokevirtual 158, 3) := by decide +kernel
theorem dX4_on_39 : decode cX4_on 39 = .ok (.aload_n 0, 1) := by decide +kernel
theorem dX4_on_40 : decode cX4_on 40 = .ok (.getfield 16, 3) := by decide +kernel
theorem dX4_on_43 : decode cX4_on 43 = .ok (.iload_n 2, 1) := by decide +kernel
theorem dX4_on_44 : decode cX4_on 44 = .ok (.invokevirtual 154, 3) := by decide +kernel
theorem dX4_on_47 : decode cX4_on 47 = .ok (.aload_n 0, 1) := by decide +kernel
theorem dX4_on_48 : decode cX4_on 48 = .ok (.getfield 16, 3) := by decide +kernel
theorem dX4_on_51 : decode cX4_on 51 = .ok (.iload_n 3, 1) := by decide +kernel
theorem dX4_on_52 : decode cX4_on 52 = .ok (.iconst 3, 1) := by decide +kernel
theorem dX4_on_53 : decode cX4_on 53 = .ok (.iadd, 1) := by decide +kernel
theorem dX4_on_54 : decode cX4_on 54 = .ok (.invokevirtual 144, 3) := by decide +kernel
theorem dX4_on_57 : decode cX4_on 57 = .ok (.iload_n 1, 1) := by decide +kernel
theorem dX4_on_58 : decode cX4_on 58 = .ok (.iaload, 1) := by decide +kernel
theorem dX4_on_59 : decode cX4_on 59 = .ok (.ireturn, 1) := by decide +kernel
theorem dX4_then_0 : decode cX4_then 0 = .ok (.iload_n 1, 1) := by decide +kernel
theorem dX4_then_1 : decode cX4_then 1 = .ok (.invokestatic 51, 3) := by decide +kernel
theorem dX4_then_4 : decode cX4_then 4 = .ok (.ifCond .eq 23, 3) := by decide +kernel
theorem dX4_then_7 : decode cX4_then 7 = .ok (.iload_n 2, 1) := by decide +kernel
theorem dX4_then_8 : decode cX4_then 8 = .ok (.iconst 0, 1) := by decide +kernel
theorem dX4_then_9 : decode cX4_then 9 = .ok (.sipush 200, 3) := by decide +kernel
theorem dX4_then_12 : decode cX4_then 12 = .ok (.invokestatic 55, 3) := by decide +kernel
theorem dX4_then_15 : decode cX4_then 15 = .ok (.ifCond .eq 12, 3) := by decide +kernel
theorem dX4_then_18 : decode cX4_then 18 = .ok (.iload_n 3, 1) := by decide +kernel
theorem dX4_then_19 : decode cX4_then 19 = .ok (.iconst 0, 1) := by decide +kernel
theorem dX4_then_20 : decode cX4_then 20 = .ok (.iconst 1, 1) := by decide +kernel
theorem dX4_then_21 : decode cX4_then 21 = .ok (.invokestatic 55, 3) := by decide +kernel
theorem dX4_then_24 : decode cX4_then 24 = .ok (.ifCond .ne 10, 3) := by decide +kernel
theorem dX4_then_27 : decode cX4_then 27 = .ok (.aload_n 0, 1) := by decide +kernel
theorem dX4_then_28 : decode cX4_then 28 = .ok (.ldc 63, 2) := by decide +kernel
theorem dX4_then_30 : decode cX4_then 30 = .ok (.invokevirtual 64, 3) := by decide +kernel
theorem dX4_then_33 : decode cX4_then 33 = .ok (.ireturn, 1) := by decide +kernel
theorem dX4_then_34 : decode cX4_then 34 = .ok (.aload_n 0, 1) := by decide +kernel
theorem dX4_then_35 : decode cX4_then 35 = .ok (.invokevirtual 158, 3) := by decide +kernel
theorem dX4_then_38 : decode cX4_then 38 = .ok (.aload_n 0, 1) := by decide +kernel
theorem dX4_then_39 : decode cX4_then 39 = .ok (.getfield 16, 3) := by decide +kernel
theorem dX4_then_42 : decode cX4_then 42 = .ok (.iload_n 2, 1) := by decide +kernel
theorem dX4_then_43 : decode cX4_then 43 = .ok (.invokevirtual 154, 3) := by decide +kernel
theorem dX4_then_46 : decode cX4_then 46 = .ok (.iload_n 3, 1) := by decide +kernel
theorem dX4_then_47 : decode cX4_then 47 = .ok (.ifCond .ne 15, 3) := by decide +kernel
theorem dX4_then_50 : decode cX4_then 50 = .ok (.aload_n 0, 1) := by decide +kernel
theorem dX4_then_51 : decode cX4_then 51 = .ok (.getfield 16, 3) := by decide +kernel
theorem dX4_then_54 : decode cX4_then 54 = .ok (.getfield 161, 3) := by decide +kernel
theorem dX4_then_57 : decode cX4_then 57 = .ok (.iload_n 1, 1) := by decide +kernel
theorem dX4_then_58 : decode cX4_then 58 = .ok (.iaload, 1) := by decide +kernel
theorem dX4_then_59 : decode cX4_then 59 = .ok (.goto 12, 3) := by decide +kernel
theorem dX4_then_62 : decode cX4_then 62 = .ok (.aload_n 0, 1) := by decide +kernel
theorem dX4_then_63 : decode cX4_then 63 = .ok (.getfield 16, 3) := by decide +kernel
theorem dX4_then_66 : decode cX4_then 66 = .ok (.getfield 164, 3) := by decide +kernel
theorem dX4_then_69 : decode cX4_then 69 = .ok (.iload_n 1, 1) := by decide +kernel
theorem dX4_then_70 : decode cX4_then 70 = .ok (.iaload, 1) := by decide +kernel
theorem dX4_then_71 : decode cX4_then 71 = .ok (.ireturn, 1) := by decide +kernel
theorem dX4_lit_0 : decode cX4_lit 0 = .ok (.iload_n 1, 1) := by decide +kernel
theorem dX4_lit_1 : decode cX4_lit 1 = .ok (.invokestatic 51, 3) := by decide +kernel
theorem dX4_lit_4 : decode cX4_lit 4 = .ok (.ifCond .eq 12, 3) := by decide +kernel
theorem dX4_lit_7 : decode cX4_lit 7 = .ok (.iload_n 2, 1) := by decide +kernel
theorem dX4_lit_8 : decode cX4_lit 8 = .ok (.iconst 0, 1) := by decide +kernel
theorem dX4_lit_9 : decode cX4_lit 9 = .ok (.iconst 1, 1) := by decide +kernel
theorem dX4_lit_10 : decode cX4_lit 10 = .ok (.invokestatic 55, 3) := by decide +kernel
theorem dX4_lit_13 : decode cX4_lit 13 = .ok (.ifCond .ne 10, 3) := by decide +kernel
theorem dX4_lit_16 : decode cX4_lit 16 = .ok (.aload_n 0, 1) := by decide +kernel
theorem dX4_lit_17 : decode cX4_lit 17 = .ok (.ldc 63, 2) := by decide +kernel
theorem dX4_lit_19 : decode cX4_lit 19 = .ok (.invokevirtual 64, 3) := by decide +kernel
theorem dX4_lit_22 : decode cX4_lit 22 = .ok (.ireturn, 1) := by decide +kernel
theorem dX4_lit_23 : decode cX4_lit 23 = .ok (.aload_n 0, 1) := by decide +kernel
theorem dX4_lit_24 : decode cX4_lit 24 = .ok (.invokevirtual 158, 3) := by decide +kernel
theorem dX4_lit_27 : decode cX4_lit 27 = .ok (.iconst 0, 1) := by decide +kernel
theorem dX4_lit_28 : decode cX4_lit 28 = .ok (.istore_n 3, 1) := by decide +kernel
theorem dX4_lit_29 : decode cX4_lit 29 = .ok (.iload_n 3, 1) := by decide +kernel
theorem dX4_lit_30 : decode cX4_lit 30 = .ok (.sipush 200, 3) := by decide +kernel
theorem dX4_lit_33 : decode cX4_lit 33 = .ok (.if_icmp .gt 39, 3) := by decide +kernel
theorem dX4_lit_36 : decode cX4_lit 36 = .ok (.aload_n 0, 1) := by decide +kernel
theorem dX4_lit_37 : decode cX4_lit 37 = .ok (.getfield 16, 3) := by decide +kernel
theorem dX4_lit_40 : decode cX4_lit 40 = .ok (.iload_n 1, 1) := by decide +kernel
theorem dX4_lit_41 : decode cX4_lit 41 = .ok (.invokevirtual 167, 3) := by decide +kernel
theorem dX4_lit_44 : decode cX4_lit 44 = .ok (.iload_n 2, 1) := by decide +kernel
theorem dX4_lit_45 : decode cX4_lit 45 = .ok (.iconst 1, 1) := by decide +kernel
theorem dX4_lit_46 : decode cX4_lit 46 = .ok (.if_icmp .ne 7, 3) := by decide +kernel
theorem dX4_lit_49 : decode cX4_lit 49 = .ok (.iconst 1, 1) := by decide +kernel
theorem dX4_lit_50 : decode cX4_lit 50 = .ok (.goto 4, 3) := by decide +kernel
theorem dX4_lit_53 : decode cX4_lit 53 = .ok (.iconst 0, 1) := by decide +kernel
theorem dX4_lit_54 : decode cX4_lit 54 = .ok (.if_icmp .ne 5, 3) := by decide +kernel
theorem dX4_lit_57 : decode cX4_lit 57 = .ok (.iload_n 3, 1) := by decide +kernel
theorem dX4_lit_58 : decode cX4_lit 58 = .ok (.ireturn, 1) := by decide +kernel
theorem dX4_lit_59 : decode cX4_lit 59 = .ok (.aload_n 0, 1) := by decide +kernel
theorem dX4_lit_60 : decode cX4_lit 60 = .ok (.getfield 16, 3) := by decide +kernel
theorem dX4_lit_63 : decode cX4_lit 63 = .ok (.invokevirtual 170, 3) := by decide +kernel
theorem dX4_lit_66 : decode cX4_lit 66 = .ok (.iinc 3 1, 3) := by decide +kernel
theorem dX4_lit_69 : decode cX4_lit 69 = .ok (.goto (-40), 3) := by decide +kernel
theorem dX4_lit_72 : decode cX4_lit 72 = .ok (.aload_n 0, 1) := by decide +kernel
theorem dX4_lit_73 : decode cX4_lit 73 = .ok (.ldc 173, 2) := by decide +kernel
theorem dX4_lit_75 : decode cX4_lit 75 = .ok (.invokevirtual 64, 3) := by decide +kernel
theorem dX4_lit_78 : decode cX4_lit 78 = .ok (.ireturn, 1) := by decide +kernel
theorem dX4_goes_0 : decode cX4_goes 0 = .ok (.aload_n 0, 1) := by decide +kernel
theorem dX4_goes_1 : decode cX4_goes 1 = .ok (.iload_n 1, 1) := by decide +kernel
theorem dX4_goes_2 : decode cX4_goes 2 = .ok (.invokevirtual 108, 3) := by decide +kernel
theorem dX4_goes_5 : decode cX4_goes 5 = .ok (.ifCond .ne 10, 3) := by decide +kernel
theorem dX4_goes_8 : decode cX4_goes 8 = .ok (.aload_n 0, 1) := by decide +kernel
theorem dX4_goes_9 : decode cX4_goes 9 = .ok (.ldc 63, 2) := by decide +kernel
theorem dX4_goes_11 : decode cX4_goes 11 = .ok (.invokevirtual 64, 3) := by decide +kernel
theorem dX4_goes_14 : decode cX4_goes 14 = .ok (.ireturn, 1) := by decide +kernel
theorem dX4_goes_15 : decode cX4_goes 15 = .ok (.aload_n 0, 1) := by decide +kernel
theorem dX4_goes_16 : decode cX4_goes 16 = .ok (.invokevirtual 158, 3) := by decide +kernel
theorem dX4_goes_19 : decode cX4_goes 19 = .ok (.iconst 1, 1) := by decide +kernel
theorem dX4_goes_20 : decode cX4_goes 20 = .ok (.istore_n 2, 1) := by decide +kernel
theorem dX4_goes_21 : decode cX4_goes 21 = .ok (.iload_n 2, 1) := by decide +kernel
theorem dX4_goes_22 : decode cX4_goes 22 = .ok (.sipush 200, 3) := by decide +kernel
theorem dX4_goes_25 : decode cX4_goes 25 = .ok (.if_icmp .gt 32, 3) := by decide +kernel
theorem dX4_goes_28 : decode cX4_goes 28 = .ok (.aload_n 0, 1) := by decide +kernel
theorem dX4_goes_29 : decode cX4_goes 29 = .ok (.getfield 16, 3) := by decide +kernel
theorem dX4_goes_32 : decode cX4_goes 32 = .ok (.invokevirtual 170, 3) := by decide +kernel
theorem dX4_goes_35 : decode cX4_goes 35 = .ok (.aload_n 0, 1) := by decide +kernel
theorem dX4_goes_36 : decode cX4_goes 36 = .ok (.getfield 16, 3) := by decide +kernel
theorem dX4_goes_39 : decode cX4_goes 39 = .ok (.getfield 174, 3) := by decide +kernel
theorem dX4_goes_42 : decode cX4_goes 42 = .ok (.iload_n 1, 1) := by decide +kernel
theorem dX4_goes_43 : decode cX4_goes 43 = .ok (.invokestatic 177, 3) := by decide +kernel
theorem dX4_goes_46 : decode cX4_goes 46 = .ok (.ifCond .eq 5, 3) := by decide +kernel
theorem dX4_goes_49 : decode cX4_goes 49 = .ok (.iload_n 2, 1) := by decide +kernel
theorem dX4_goes_50 : decode cX4_goes 50 = .ok (.ireturn, 1) := by decide +kernel
theorem dX4_goes_51 : decode cX4_goes 51 = .ok (.iinc 2 1, 3) := by decide +kernel
theorem dX4_goes_54 : decode cX4_goes 54 = .ok (.goto (-33), 3) := by decide +kernel
theorem dX4_goes_57 : decode cX4_goes 57 = .ok (.aload_n 0, 1) := by decide +kernel
theorem dX4_goes_58 : decode cX4_goes 58 = .ok (.ldc 173, 2) := by decide +kernel
theorem dX4_goes_60 : decode cX4_goes 60 = .ok (.invokevirtual 64, 3) := by decide +kernel
theorem dX4_goes_63 : decode cX4_goes 63 = .ok (.ireturn, 1) := by decide +kernel
theorem dX4_well_0 : decode cX4_well 0 = .ok (.aload_n 0, 1) := by decide +kernel
theorem dX4_well_1 : decode cX4_well 1 = .ok (.invokevirtual 158, 3) := by decide +kernel
theorem dX4_well_4 : decode cX4_well 4 = .ok (.iconst 0, 1) := by decide +kernel
theorem dX4_well_5 : decode cX4_well 5 = .ok (.istore_n 1, 1) := by decide +kernel
theorem dX4_well_6 : decode cX4_well 6 = .ok (.iload_n 1, 1) := by decide +kernel
theorem dX4_well_7 : decode cX4_well 7 = .ok (.sipush 200, 3) := by decide +kernel
theorem dX4_well_10 : decode cX4_well 10 = .ok (.if_icmp .gt 28, 3) := by decide +kernel
theorem dX4_well_13 : decode cX4_well 13 = .ok (.aload_n 0, 1) := by decide +kernel
theorem dX4_well_14 : decode cX4_well 14 = .ok (.getfield 16, 3) := by decide +kernel
theorem dX4_well_17 : decode cX4_well 17 = .ok (.invokevirtual 91, 3) := by decide +kernel
theorem dX4_well_20 : decode cX4_well 20 = .ok (.ifCond .ne 5, 3) := by decide +kernel
theorem dX4_well_23 : decode cX4_well 23 = .ok (.iload_n 1, 1) := by decide +kernel
theorem dX4_well_24 : decode cX4_well 24 = .ok (.ireturn, 1) := by decide +kernel
theorem dX4_well_25 : decode cX4_well 25 = .ok (.aload_n 0, 1) := by decide +kernel
theorem dX4_well_26 : decode cX4_well 26 = .ok (.getfield 16, 3) := by decide +kernel
theorem dX4_well_29 : decode cX4_well 29 = .ok (.invokevirtual 170, 3) := by decide +kernel
theorem dX4_well_32 : decode cX4_well 32 = .ok (.iinc 1 1, 3) := by decide +kernel
theorem dX4_well_35 : decode cX4_well 35 = .ok (.goto (-29), 3) := by decide +kernel
theorem dX4_well_38 : decode cX4_well 38 = .ok (.aload_n 0, 1) := by decide +kernel
theorem dX4_well_39 : decode cX4_well 39 = .ok (.ldc 173, 2) := by decide +kernel
theorem dX4_well_41 : decode cX4_well 41 = .ok (.invokevirtual 64, 3) := by decide +kernel
theorem dX4_well_44 : decode cX4_well 44 = .ok (.ireturn, 1) := by decide +kernel
theorem dX4_feather_0 : decode cX4_feather 0 = .ok (.iload_n 1, 1) := by decide +kernel
theorem dX4_feather_1 : decode cX4_feather 1 = .ok (.iconst 1, 1) := by decide +kernel
theorem dX4_feather_2 : decode cX4_feather 2 = .ok (.bipush 60, 2) := by decide +kernel
theorem dX4_feather_4 : decode cX4_feather 4 = .ok (.invokestatic 55, 3) := by decide +kernel
theorem dX4_feather_7 : decode cX4_feather 7 = .ok (.ifCond .ne 10, 3) := by decide +kernel
theorem dX4_feather_10 : decode cX4_feather 10 = .ok (.aload_n 0, 1) := by decide +kernel
theorem dX4_feather_11 : decode cX4_feather 11 = .ok (.ldc 63, 2) := by decide +kernel
theorem dX4_feather_13 : decode cX4_feather 13 = .ok (.invokevirtual 64, 3) := by decide +kernel
theorem dX4_feather_16 : decode cX4_feather 16 = .ok (.ireturn, 1) := by decide +kernel
theorem dX4_feather_17 : decode cX4_feather 17 = .ok (.aload_n 0, 1) := by decide +kernel
theorem dX4_feather_18 : decode cX4_feather 18 = .ok (.getfield 10, 3) := by decide +kernel
theorem dX4_feather_21 : decode cX4_feather 21 = .ok (.getfield 100, 3) := by decide +kernel
theorem dX4_feather_24 : decode cX4_feather 24 = .ok (.ifCond .ne 10, 3) := by decide +kernel
theorem dX4_feather_27 : decode cX4_feather 27 = .ok (.aload_n 0, 1) := by decide +kernel
theorem dX4_feather_28 : decode cX4_feather 28 = .ok (.ldc 173, 2) := by decide +kernel
theorem dX4_feather_30 : decode cX4_feather 30 = .ok (.invokevirtual 64, 3) := by decide +kernel
theorem dX4_feather_33 : decode cX4_feather 33 = .ok (.ireturn, 1) := by decide +kernel
theorem dX4_feather_34 : decode cX4_feather 34 = .ok (.aload_n 0, 1) := by decide +kernel
theorem dX4_feather_35 : decode cX4_feather 35 = .ok (.iconst 0, 1) := by decide +kernel
theorem dX4_feather_36 : decode cX4_feather 36 = .ok (.aload_n 0, 1) := by decide +kernel
theorem dX4_feather_37 : decode cX4_feather 37 = .ok (.getfield 10, 3) := by decide +kernel
theorem dX4_feather_40 : decode cX4_feather 40 = .ok (.getfield 100, 3) := by decide +kernel
theorem dX4_feather_43 : decode cX4_feather 43 = .ok (.iconst 0, 1) := by decide +kernel
theorem dX4_feather_44 : decode cX4_feather 44 = .ok (.iload_n 1, 1) := by decide +kernel
end
section
theorem dX4_feather_45 : decode cX4_feather 45 = .ok (.invokevirtual 180, 3) := by decide +kernel
theorem dX4_feather_48 : decode cX4_feather 48 = .ok (.ireturn, 1) := by decide +kernel
theorem dX4_seat_0 : decode cX4_seat 0 = .ok (.aload_n 0, 1) := by decide +kernel
theorem dX4_seat_1 : decode cX4_seat 1 = .ok (.iload_n 1, 1) := by decide +kernel
theorem dX4_seat_2 : decode cX4_seat 2 = .ok (.invokevirtual 108, 3) := by decide +kernel
theorem dX4_seat_5 : decode cX4_seat 5 = .ok (.ifCond .eq 13, 3) := by decide +kernel
theorem dX4_seat_8 : decode cX4_seat 8 = .ok (.iload_n 2, 1) := by decide +kernel
theorem dX4_seat_9 : decode cX4_seat 9 = .ok (.iconst 1, 1) := by decide +kernel
theorem dX4_seat_10 : decode cX4_seat 10 = .ok (.bipush 60, 2) := by decide +kernel
theorem dX4_seat_12 : decode cX4_seat 12 = .ok (.invokestatic 55, 3) := by decide +kernel
theorem dX4_seat_15 : decode cX4_seat 15 = .ok (.ifCond .ne 10, 3) := by decide +kernel
theorem dX4_seat_18 : decode cX4_seat 18 = .ok (.aload_n 0, 1) := by decide +kernel
theorem dX4_seat_19 : decode cX4_seat 19 = .ok (.ldc 63, 2) := by decide +kernel
theorem dX4_seat_21 : decode cX4_seat 21 = .ok (.invokevirtual 64, 3) := by decide +kernel
theorem dX4_seat_24 : decode cX4_seat 24 = .ok (.ireturn, 1) := by decide +kernel
theorem dX4_seat_25 : decode cX4_seat 25 = .ok (.aload_n 0, 1) := by decide +kernel
theorem dX4_seat_26 : decode cX4_seat 26 = .ok (.iconst 1, 1) := by decide +kernel
theorem dX4_seat_27 : decode cX4_seat 27 = .ok (.bipush 24, 2) := by decide +kernel
theorem dX4_seat_29 : decode cX4_seat 29 = .ok (.iload_n 1, 1) := by decide +kernel
theorem dX4_seat_30 : decode cX4_seat 30 = .ok (.iload_n 2, 1) := by decide +kernel
theorem dX4_seat_31 : decode cX4_seat 31 = .ok (.invokevirtual 180, 3) := by decide +kernel
theorem dX4_seat_34 : decode cX4_seat 34 = .ok (.ireturn, 1) := by decide +kernel
theorem dX4_kind_0 : decode cX4_kind 0 = .ok (.aload_n 0, 1) := by decide +kernel
theorem dX4_kind_1 : decode cX4_kind 1 = .ok (.iload_n 1, 1) := by decide +kernel
theorem dX4_kind_2 : decode cX4_kind 2 = .ok (.invokevirtual 108, 3) := by decide +kernel
theorem dX4_kind_5 : decode cX4_kind 5 = .ok (.ifCond .eq 13, 3) := by decide +kernel
theorem dX4_kind_8 : decode cX4_kind 8 = .ok (.iload_n 2, 1) := by decide +kernel
theorem dX4_kind_9 : decode cX4_kind 9 = .ok (.iconst 1, 1) := by decide +kernel
theorem dX4_kind_10 : decode cX4_kind 10 = .ok (.bipush 60, 2) := by decide +kernel
theorem dX4_kind_12 : decode cX4_kind 12 = .ok (.invokestatic 55, 3) := by decide +kernel
theorem dX4_kind_15 : decode cX4_kind 15 = .ok (.ifCond .ne 10, 3) := by decide +kernel
theorem dX4_kind_18 : decode cX4_kind 18 = .ok (.aload_n 0, 1) := by decide +kernel
theorem dX4_kind_19 : decode cX4_kind 19 = .ok (.ldc 63, 2) := by decide +kernel
theorem dX4_kind_21 : decode cX4_kind 21 = .ok (.invokevirtual 64, 3) := by decide +kernel
theorem dX4_kind_24 : decode cX4_kind 24 = .ok (.ireturn, 1) := by decide +kernel
theorem dX4_kind_25 : decode cX4_kind 25 = .ok (.aload_n 0, 1) := by decide +kernel
theorem dX4_kind_26 : decode cX4_kind 26 = .ok (.iconst 2, 1) := by decide +kernel
theorem dX4_kind_27 : decode cX4_kind 27 = .ok (.bipush 6, 2) := by decide +kernel
theorem dX4_kind_29 : decode cX4_kind 29 = .ok (.iload_n 1, 1) := by decide +kernel
theorem dX4_kind_30 : decode cX4_kind 30 = .ok (.iload_n 2, 1) := by decide +kernel
theorem dX4_kind_31 : decode cX4_kind 31 = .ok (.invokevirtual 180, 3) := by decide +kernel
theorem dX4_kind_34 : decode cX4_kind 34 = .ok (.ireturn, 1) := by decide +kernel
theorem dX4_driest_0 : decode cX4_driest 0 = .ok (.iload_n 1, 1) := by decide +kernel
theorem dX4_driest_1 : decode cX4_driest 1 = .ok (.iconst 1, 1) := by decide +kernel
theorem dX4_driest_2 : decode cX4_driest 2 = .ok (.bipush 60, 2) := by decide +kernel
theorem dX4_driest_4 : decode cX4_driest 4 = .ok (.invokestatic 55, 3) := by decide +kernel
theorem dX4_driest_7 : decode cX4_driest 7 = .ok (.ifCond .eq 13, 3) := by decide +kernel
theorem dX4_driest_10 : decode cX4_driest 10 = .ok (.iload_n 2, 1) := by decide +kernel
theorem dX4_driest_11 : decode cX4_driest 11 = .ok (.iconst 0, 1) := by decide +kernel
theorem dX4_driest_12 : decode cX4_driest 12 = .ok (.ldc 152, 2) := by decide +kernel
theorem dX4_driest_14 : decode cX4_driest 14 = .ok (.invokestatic 55, 3) := by decide +kernel
theorem dX4_driest_17 : decode cX4_driest 17 = .ok (.ifCond .ne 10, 3) := by decide +kernel
theorem dX4_driest_20 : decode cX4_driest 20 = .ok (.aload_n 0, 1) := by decide +kernel
theorem dX4_driest_21 : decode cX4_driest 21 = .ok (.ldc 63, 2) := by decide +kernel
theorem dX4_driest_23 : decode cX4_driest 23 = .ok (.invokevirtual 64, 3) := by decide +kernel
theorem dX4_driest_26 : decode cX4_driest 26 = .ok (.ireturn, 1) := by decide +kernel
theorem dX4_driest_27 : decode cX4_driest 27 = .ok (.bipush 9, 2) := by decide +kernel
theorem dX4_driest_29 : decode cX4_driest 29 = .ok (.istore_n 3, 1) := by decide +kernel
theorem dX4_driest_30 : decode cX4_driest 30 = .ok (.iload_n 3, 1) := by decide +kernel
theorem dX4_driest_31 : decode cX4_driest 31 = .ok (.ifCond .lt 42, 3) := by decide +kernel
theorem dX4_driest_34 : decode cX4_driest 34 = .ok (.aload_n 0, 1) := by decide +kernel
theorem dX4_driest_35 : decode cX4_driest 35 = .ok (.invokevirtual 158, 3) := by decide +kernel
theorem dX4_driest_38 : decode cX4_driest 38 = .ok (.aload_n 0, 1) := by decide +kernel
theorem dX4_driest_39 : decode cX4_driest 39 = .ok (.getfield 16, 3) := by decide +kernel
theorem dX4_driest_42 : decode cX4_driest 42 = .ok (.iload_n 3, 1) := by decide +kernel
theorem dX4_driest_43 : decode cX4_driest 43 = .ok (.putfield 74, 3) := by decide +kernel
theorem dX4_driest_46 : decode cX4_driest 46 = .ok (.aload_n 0, 1) := by decide +kernel
theorem dX4_driest_47 : decode cX4_driest 47 = .ok (.getfield 16, 3) := by decide +kernel
theorem dX4_driest_50 : decode cX4_driest 50 = .ok (.iload_n 1, 1) := by decide +kernel
theorem dX4_driest_51 : decode cX4_driest 51 = .ok (.invokevirtual 154, 3) := by decide +kernel
theorem dX4_driest_54 : decode cX4_driest 54 = .ok (.aload_n 0, 1) := by decide +kernel
theorem dX4_driest_55 : decode cX4_driest 55 = .ok (.getfield 16, 3) := by decide +kernel
theorem dX4_driest_58 : decode cX4_driest 58 = .ok (.invokevirtual 94, 3) := by decide +kernel
theorem dX4_driest_61 : decode cX4_driest 61 = .ok (.iload_n 2, 1) := by decide +kernel
theorem dX4_driest_62 : decode cX4_driest 62 = .ok (.if_icmp .lt 5, 3) := by decide +kernel
theorem dX4_driest_65 : decode cX4_driest 65 = .ok (.iload_n 3, 1) := by decide +kernel
theorem dX4_driest_66 : decode cX4_driest 66 = .ok (.ireturn, 1) := by decide +kernel
theorem dX4_driest_67 : decode cX4_driest 67 = .ok (.iinc 3 (-1), 3) := by decide +kernel
theorem dX4_driest_70 : decode cX4_driest 70 = .ok (.goto (-40), 3) := by decide +kernel
theorem dX4_driest_73 : decode cX4_driest 73 = .ok (.aload_n 0, 1) := by decide +kernel
theorem dX4_driest_74 : decode cX4_driest 74 = .ok (.ldc 173, 2) := by decide +kernel
theorem dX4_driest_76 : decode cX4_driest 76 = .ok (.invokevirtual 64, 3) := by decide +kernel
theorem dX4_driest_79 : decode cX4_driest 79 = .ok (.ireturn, 1) := by decide +kernel
theorem dX4_needs_0 : decode cX4_needs 0 = .ok (.aload_n 0, 1) := by decide +kernel
theorem dX4_needs_1 : decode cX4_needs 1 = .ok (.iload_n 1, 1) := by decide +kernel
theorem dX4_needs_2 : decode cX4_needs 2 = .ok (.invokevirtual 108, 3) := by decide +kernel
theorem dX4_needs_5 : decode cX4_needs 5 = .ok (.ifCond .eq 20, 3) := by decide +kernel
theorem dX4_needs_8 : decode cX4_needs 8 = .ok (.iload_n 2, 1) := by decide +kernel
theorem dX4_needs_9 : decode cX4_needs 9 = .ok (.invokestatic 51, 3) := by decide +kernel
theorem dX4_needs_12 : decode cX4_needs 12 = .ok (.ifCond .eq 13, 3) := by decide +kernel
theorem dX4_needs_15 : decode cX4_needs 15 = .ok (.iload_n 3, 1) := by decide +kernel
theorem dX4_needs_16 : decode cX4_needs 16 = .ok (.iconst 0, 1) := by decide +kernel
theorem dX4_needs_17 : decode cX4_needs 17 = .ok (.bipush 60, 2) := by decide +kernel
theorem dX4_needs_19 : decode cX4_needs 19 = .ok (.invokestatic 55, 3) := by decide +kernel
theorem dX4_needs_22 : decode cX4_needs 22 = .ok (.ifCond .ne 10, 3) := by decide +kernel
theorem dX4_needs_25 : decode cX4_needs 25 = .ok (.aload_n 0, 1) := by decide +kernel
theorem dX4_needs_26 : decode cX4_needs 26 = .ok (.ldc 63, 2) := by decide +kernel
theorem dX4_needs_28 : decode cX4_needs 28 = .ok (.invokevirtual 64, 3) := by decide +kernel
theorem dX4_needs_31 : decode cX4_needs 31 = .ok (.ireturn, 1) := by decide +kernel
theorem dX4_needs_32 : decode cX4_needs 32 = .ok (.iconst 0, 1) := by decide +kernel
theorem dX4_needs_33 : decode cX4_needs 33 = .ok (.istore 4, 2) := by decide +kernel
theorem dX4_needs_35 : decode cX4_needs 35 = .ok (.iload 4, 2) := by decide +kernel
theorem dX4_needs_37 : decode cX4_needs 37 = .ok (.bipush 99, 2) := by decide +kernel
theorem dX4_needs_39 : decode cX4_needs 39 = .ok (.if_icmp .gt 46, 3) := by decide +kernel
theorem dX4_needs_42 : decode cX4_needs 42 = .ok (.aload_n 0, 1) := by decide +kernel
theorem dX4_needs_43 : decode cX4_needs 43 = .ok (.invokevirtual 158, 3) := by decide +kernel
theorem dX4_needs_46 : decode cX4_needs 46 = .ok (.aload_n 0, 1) := by decide +kernel
theorem dX4_needs_47 : decode cX4_needs 47 = .ok (.getfield 16, 3) := by decide +kernel
theorem dX4_needs_50 : decode cX4_needs 50 = .ok (.getfield 120, 3) := by decide +kernel
theorem dX4_needs_53 : decode cX4_needs 53 = .ok (.iload_n 1, 1) := by decide +kernel
theorem dX4_needs_54 : decode cX4_needs 54 = .ok (.iload 4, 2) := by decide +kernel
theorem dX4_needs_56 : decode cX4_needs 56 = .ok (.iastore, 1) := by decide +kernel
theorem dX4_needs_57 : decode cX4_needs 57 = .ok (.aload_n 0, 1) := by decide +kernel
theorem dX4_needs_58 : decode cX4_needs 58 = .ok (.getfield 16, 3) := by decide +kernel
theorem dX4_needs_61 : decode cX4_needs 61 = .ok (.iload_n 3, 1) := by decide +kernel
theorem dX4_needs_62 : decode cX4_needs 62 = .ok (.invokevirtual 154, 3) := by decide +kernel
theorem dX4_needs_65 : decode cX4_needs 65 = .ok (.aload_n 0, 1) := by decide +kernel
theorem dX4_needs_66 : decode cX4_needs 66 = .ok (.getfield 16, 3) := by decide +kernel
theorem dX4_needs_69 : decode cX4_needs 69 = .ok (.iload_n 2, 1) := by decide +kernel
theorem dX4_needs_70 : decode cX4_needs 70 = .ok (.invokevirtual 167, 3) := by decide +kernel
theorem dX4_needs_73 : decode cX4_needs 73 = .ok (.ifCond .eq 6, 3) := by decide +kernel
theorem dX4_needs_76 : decode cX4_needs 76 = .ok (.iload 4, 2) := by decide +kernel
theorem dX4_needs_78 : decode cX4_needs 78 = .ok (.ireturn, 1) := by decide +kernel
theorem dX4_needs_79 : decode cX4_needs 79 = .ok (.iinc 4 1, 3) := by decide +kernel
theorem dX4_needs_82 : decode cX4_needs 82 = .ok (.goto (-47), 3) := by decide +kernel
theorem dX4_needs_85 : decode cX4_needs 85 = .ok (.aload_n 0, 1) := by decide +kernel
theorem dX4_needs_86 : decode cX4_needs 86 = .ok (.ldc 173, 2) := by decide +kernel
theorem dX4_needs_88 : decode cX4_needs 88 = .ok (.invokevirtual 64, 3) := by decide +kernel
theorem dX4_needs_91 : decode cX4_needs 91 = .ok (.ireturn, 1) := by decide +kernel
theorem dX4_dear_0 : decode cX4_dear 0 = .ok (.iload_n 1, 1) := by decide +kernel
theorem dX4_dear_1 : decode cX4_dear 1 = .ok (.iconst 1, 1) := by decide +kernel
theorem dX4_dear_2 : decode cX4_dear 2 = .ok (.bipush 60, 2) := by decide +kernel
theorem dX4_dear_4 : decode cX4_dear 4 = .ok (.invokestatic 55, 3) := by decide +kernel
theorem dX4_dear_7 : decode cX4_dear 7 = .ok (.ifCond .ne 10, 3) := by decide +kernel
theorem dX4_dear_10 : decode cX4_dear 10 = .ok (.aload_n 0, 1) := by decide +kernel
theorem dX4_dear_11 : decode cX4_dear 11 = .ok (.ldc 63, 2) := by decide +kernel
theorem dX4_dear_13 : decode cX4_dear 13 = .ok (.invokevirtual 64, 3) := by decide +kernel
theorem dX4_dear_16 : decode cX4_dear 16 = .ok (.ireturn, 1) := by decide +kernel
theorem dX4_dear_17 : decode cX4_dear 17 = .ok (.aload_n 0, 1) := by decide +kernel
theorem dX4_dear_18 : decode cX4_dear 18 = .ok (.getfield 10, 3) := by decide +kernel
theorem dX4_dear_21 : decode cX4_dear 21 = .ok (.getfield 100, 3) := by decide +kernel
theorem dX4_dear_24 : decode cX4_dear 24 = .ok (.ifCond .ne 10, 3) := by decide +kernel
theorem dX4_dear_27 : decode cX4_dear 27 = .ok (.aload_n 0, 1) := by decide +kernel
theorem dX4_dear_28 : decode cX4_dear 28 = .ok (.ldc 173, 2) := by decide +kernel
theorem dX4_dear_30 : decode cX4_dear 30 = .ok (.invokevirtual 64, 3) := by decide +kernel
theorem dX4_dear_33 : decode cX4_dear 33 = .ok (.ireturn, 1) := by decide +kernel
theorem dX4_dear_34 : decode cX4_dear 34 = .ok (.iconst 0, 1) := by decide +kernel
theorem dX4_dear_35 : decode cX4_dear 35 = .ok (.istore_n 2, 1) := by decide +kernel
theorem dX4_dear_36 : decode cX4_dear 36 = .ok (.ldc 186, 2) := by decide +kernel
theorem dX4_dear_38 : decode cX4_dear 38 = .ok (.istore_n 3, 1) := by decide +kernel
theorem dX4_dear_39 : decode cX4_dear 39 = .ok (.iconst 0, 1) := by decide +kernel
theorem dX4_dear_40 : decode cX4_dear 40 = .ok (.istore 4, 2) := by decide +kernel
theorem dX4_dear_42 : decode cX4_dear 42 = .ok (.iload 4, 2) := by decide +kernel
theorem dX4_dear_44 : decode cX4_dear 44 = .ok (.aload_n 0, 1) := by decide +kernel
theorem dX4_dear_45 : decode cX4_dear 45 = .ok (.getfield 10, 3) := by decide +kernel
theorem dX4_dear_48 : decode cX4_dear 48 = .ok (.getfield 100, 3) := by decide +kernel
theorem dX4_dear_51 : decode cX4_dear 51 = .ok (.if_icmp .ge 53, 3) := by decide +kernel
theorem dX4_dear_54 : decode cX4_dear 54 = .ok (.aload_n 0, 1) := by decide +kernel
theorem dX4_dear_55 : decode cX4_dear 55 = .ok (.invokevirtual 158, 3) := by decide +kernel
theorem dX4_dear_58 : decode cX4_dear 58 = .ok (.aload_n 0, 1) := by decide +kernel
theorem dX4_dear_59 : decode cX4_dear 59 = .ok (.getfield 16, 3) := by decide +kernel
theorem dX4_dear_62 : decode cX4_dear 62 = .ok (.getfield 120, 3) := by decide +kernel
theorem dX4_dear_65 : decode cX4_dear 65 = .ok (.iload 4, 2) := by decide +kernel
theorem dX4_dear_67 : decode cX4_dear 67 = .ok (.iconst 0, 1) := by decide +kernel
theorem dX4_dear_68 : decode cX4_dear 68 = .ok (.iastore, 1) := by decide +kernel
theorem dX4_dear_69 : decode cX4_dear 69 = .ok (.aload_n 0, 1) := by decide +kernel
theorem dX4_dear_70 : decode cX4_dear 70 = .ok (.getfield 16, 3) := by decide +kernel
theorem dX4_dear_73 : decode cX4_dear 73 = .ok (.iload_n 1, 1) := by decide +kernel
theorem dX4_dear_74 : decode cX4_dear 74 = .ok (.invokevirtual 154, 3) := by decide +kernel
theorem dX4_dear_77 : decode cX4_dear 77 = .ok (.aload_n 0, 1) := by decide +kernel
theorem dX4_dear_78 : decode cX4_dear 78 = .ok (.getfield 16, 3) := by decide +kernel
theorem dX4_dear_81 : decode cX4_dear 81 = .ok (.invokevirtual 94, 3) := by decide +kernel
theorem dX4_dear_84 : decode cX4_dear 84 = .ok (.istore 5, 2) := by decide +kernel
theorem dX4_dear_86 : decode cX4_dear 86 = .ok (.iload 5, 2) := by decide +kernel
theorem dX4_dear_88 : decode cX4_dear 88 = .ok (.iload_n 3, 1) := by decide +kernel
theorem dX4_dear_89 : decode cX4_dear 89 = .ok (.if_icmp .ge 9, 3) := by decide +kernel
theorem dX4_dear_92 : decode cX4_dear 92 = .ok (.iload 5, 2) := by decide +kernel
theorem dX4_dear_94 : decode cX4_dear 94 = .ok (.istore_n 3, 1) := by decide +kernel
theorem dX4_dear_95 : decode cX4_dear 95 = .ok (.iload 4, 2) := by decide +kernel
theorem dX4_dear_97 : decode cX4_dear 97 = .ok (.istore_n 2, 1) := by decide +kernel
theorem dX4_dear_98 : decode cX4_dear 98 = .ok (.iinc 4 1, 3) := by decide +kernel
theorem dX4_dear_101 : decode cX4_dear 101 = .ok (.goto (-59), 3) := by decide +kernel
theorem dX4_dear_104 : decode cX4_dear 104 = .ok (.iload_n 2, 1) := by decide +kernel
theorem dX4_dear_105 : decode cX4_dear 105 = .ok (.ireturn, 1) := by decide +kernel
theorem dX4_open_0 : decode cX4_open 0 = .ok (.iload_n 1, 1) := by decide +kernel
theorem dX4_open_1 : decode cX4_open 1 = .ok (.iconst 1, 1) := by decide +kernel
theorem dX4_open_2 : decode cX4_open 2 = .ok (.bipush 60, 2) := by decide +kernel
theorem dX4_open_4 : decode cX4_open 4 = .ok (.invokestatic 55, 3) := by decide +kernel
theorem dX4_open_7 : decode cX4_open 7 = .ok (.ifCond .ne 10, 3) := by decide +kernel
theorem dX4_open_10 : decode cX4_open 10 = .ok (.aload_n 0, 1) := by decide +kernel
theorem dX4_open_11 : decode cX4_open 11 = .ok (.ldc 63, 2) := by decide +kernel
theorem dX4_open_13 : decode cX4_open 13 = .ok (.invokevirtual 64, 3) := by decide +kernel
theorem dX4_open_16 : decode cX4_open 16 = .ok (.ireturn, 1) := by decide +kernel
theorem dX4_open_17 : decode cX4_open 17 = .ok (.aload_n 0, 1) := by decide +kernel
theorem dX4_open_18 : decode cX4_open 18 = .ok (.iconst 3, 1) := by decide +kernel
theorem dX4_open_19 : decode cX4_open 19 = .ok (.bipush 12, 2) := by decide +kernel
theorem dX4_open_21 : decode cX4_open 21 = .ok (.iconst 0, 1) := by decide +kernel
theorem dX4_open_22 : decode cX4_open 22 = .ok (.iload_n 1, 1) := by decide +kernel
theorem dX4_open_23 : decode cX4_open 23 = .ok (.invokevirtual 180, 3) := by decide +kernel
theorem dX4_open_26 : decode cX4_open 26 = .ok (.ireturn, 1) := by decide +kernel
theorem dX4_feed_0 : decode cX4_feed 0 = .ok (.iload_n 2, 1) := by decide +kernel
theorem dX4_feed_1 : decode cX4_feed 1 = .ok (.iconst 1, 1) := by decide +kernel
theorem dX4_feed_2 : decode cX4_feed 2 = .ok (.iconst 4, 1) := by decide +kernel
theorem dX4_feed_3 : decode cX4_feed 3 = .ok (.invokestatic 55, 3) := by decide +kernel
theorem dX4_feed_6 : decode cX4_feed 6 = .ok (.ifCond .ne 10, 3) := by decide +kernel
theorem dX4_feed_9 : decode cX4_feed 9 = .ok (.aload_n 0, 1) := by decide +kernel
theorem dX4_feed_10 : decode cX4_feed 10 = .ok (.ldc 63, 2) := by decide +kernel
theorem dX4_feed_12 : decode cX4_feed 12 = .ok (.invokevirtual 64, 3) := by decide +kernel
theorem dX4_feed_15 : decode cX4_feed 15 = .ok (.ireturn, 1) := by decide +kernel
theorem dX4_feed_16 : decode cX4_feed 16 = .ok (.aload_n 0, 1) := by decide +kernel
theorem dX4_feed_17 : decode cX4_feed 17 = .ok (.getfield 25, 3) := by decide +kernel
theorem dX4_feed_20 : decode cX4_feed 20 = .ok (.getfield 187, 3) := by decide +kernel
theorem dX4_feed_23 : decode cX4_feed 23 = .ok (.bipush 120, 2) := by decide +kernel
theorem dX4_feed_25 : decode cX4_feed 25 = .ok (.iload_n 2, 1) := by decide +kernel
theorem dX4_feed_26 : decode cX4_feed 26 = .ok (.isub, 1) := by decide +kernel
theorem dX4_feed_27 : decode cX4_feed 27 = .ok (.if_icmp .le 10, 3) := by decide +kernel
theorem dX4_feed_30 : decode cX4_feed 30 = .ok (.aload_n 0, 1) := by decide +kernel
theorem dX4_feed_31 : decode cX4_feed 31 = .ok (.ldc 103, 2) := by decide +kernel
theorem dX4_feed_33 : decode cX4_feed 33 = .ok (.invokevirtual 64, 3) := by decide +kernel
theorem dX4_feed_36 : decode cX4_feed 36 = .ok (.ireturn, 1) := by decide +kernel
theorem dX4_feed_37 : decode cX4_feed 37 = .ok (.iload_n 2, 1) := by decide +kernel
theorem dX4_feed_38 : decode cX4_feed 38 = .ok (.iconst 1, 1) := by decide +kernel
theorem dX4_feed_39 : decode cX4_feed 39 = .ok (.isub, 1) := by decide +kernel
theorem dX4_feed_40 : decode cX4_feed 40 = .ok (.istore_n 3, 1) := by decide +kernel
theorem dX4_feed_41 : decode cX4_feed 41 = .ok (.iload_n 3, 1) := by decide +kernel
theorem dX4_feed_42 : decode cX4_feed 42 = .ok (.ifCond .lt 26, 3) := by decide +kernel
theorem dX4_feed_45 : decode cX4_feed 45 = .ok (.aload_n 0, 1) := by decide +kernel
theorem dX4_feed_46 : decode cX4_feed 46 = .ok (.getfield 25, 3) := by decide +kernel
theorem dX4_feed_49 : decode cX4_feed 49 = .ok (.iload_n 1, 1) := by decide +kernel
theorem dX4_feed_50 : decode cX4_feed 50 = .ok (.bipush 8, 2) := by decide +kernel
theorem dX4_feed_52 : decode cX4_feed 52 = .ok (.iload_n 3, 1) := by decide +kernel
theorem dX4_feed_53 : decode cX4_feed 53 = .ok (.imul, 1) := by decide +kernel
theorem dX4_feed_54 : decode cX4_feed 54 = .ok (.ishr, 1) := by decide +kernel
theorem dX4_feed_55 : decode cX4_feed 55 = .ok (.sipush 255, 3) := by decide +kernel
theorem dX4_feed_58 : decode cX4_feed 58 = .ok (.iand, 1) := by decide +kernel
theorem dX4_feed_59 : decode cX4_feed 59 = .ok (.invokevirtual 190, 3) := by decide +kernel
theorem dX4_feed_62 : decode cX4_feed 62 = .ok (.iinc 3 (-1), 3) := by decide +kernel
theorem dX4_feed_65 : decode cX4_feed 65 = .ok (.goto (-24), 3) := by decide +kernel
theorem dX4_feed_68 : decode cX4_feed 68 = .ok (.aload_n 0, 1) := by decide +kernel
theorem dX4_feed_69 : decode cX4_feed 69 = .ok (.getfield 25, 3) := by decide +kernel
theorem dX4_feed_72 : decode cX4_feed 72 = .ok (.getfield 187, 3) := by decide +kernel
theorem dX4_feed_75 : decode cX4_feed 75 = .ok (.ireturn, 1) := by decide +kernel
theorem dX4_wipe_0 : decode cX4_wipe 0 = .ok (.aload_n 0, 1) := by decide +kernel
theorem dX4_wipe_1 : decode cX4_wipe 1 = .ok (.getfield 25, 3) := by decide +kernel
theorem dX4_wipe_4 : decode cX4_wipe 4 = .ok (.getfield 187, 3) := by decide +kernel
theorem dX4_wipe_7 : decode cX4_wipe 7 = .ok (.istore_n 1, 1) := by decide +kernel
theorem dX4_wipe_8 : decode cX4_wipe 8 = .ok (.aload_n 0, 1) := by decide +kernel
theorem dX4_wipe_9 : decode cX4_wipe 9 = .ok (.getfield 25, 3) := by decide +kernel
theorem dX4_wipe_12 : decode cX4_wipe 12 = .ok (.iconst 0, 1) := by decide +kernel
theorem dX4_wipe_13 : decode cX4_wipe 13 = .ok (.putfield 187, 3) := by decide +kernel
theorem dX4_wipe_16 : decode cX4_wipe 16 = .ok (.iload_n 1, 1) := by decide +kernel
theorem dX4_wipe_17 : decode cX4_wipe 17 = .ok (.ireturn, 1) := by decide +kernel
theorem dX4_winter_0 : decode cX4_winter 0 = .ok (.aload_n 0, 1) := by decide +kernel
theorem dX4_winter_1 : decode cX4_winter 1 = .ok (.invokevirtual 158, 3) := by decide +kernel
theorem dX4_winter_4 : decode cX4_winter 4 = .ok (.aload_n 0, 1) := by decide +kernel
theorem dX4_winter_5 : decode cX4_winter 5 = .ok (.getfield 32, 3) := by decide +kernel
theorem dX4_winter_8 : decode cX4_winter 8 = .ok (.aload_n 0, 1) := by decide +kernel
theorem dX4_winter_9 : decode cX4_winter 9 = .ok (.getfield 25, 3) := by decide +kernel
theorem dX4_winter_12 : decode cX4_winter 12 = .ok (.aload_n 0, 1) := by decide +kernel
theorem dX4_winter_13 : decode cX4_winter 13 = .ok (.getfield 16, 3) := by decide +kernel
theorem dX4_winter_16 : decode cX4_winter 16 = .ok (.invokevirtual 193, 3) := by decide +kernel
theorem dX4_winter_19 : decode cX4_winter 19 = .ok (.istore_n 1, 1) := by decide +kernel
theorem dX4_winter_20 : decode cX4_winter 20 = .ok (.aload_n 0, 1) := by decide +kernel
theorem dX4_winter_21 : decode cX4_winter 21 = .ok (.getfield 25, 3) := by decide +kernel
theorem dX4_winter_24 : decode cX4_winter 24 = .ok (.iconst 0, 1) := by decide +kernel
theorem dX4_winter_25 : decode cX4_winter 25 = .ok (.putfield 187, 3) := by decide +kernel
theorem dX4_winter_28 : decode cX4_winter 28 = .ok (.iload_n 1, 1) := by decide +kernel
theorem dX4_winter_29 : decode cX4_winter 29 = .ok (.ifCond .ne 13, 3) := by decide +kernel
theorem dX4_winter_32 : decode cX4_winter 32 = .ok (.iconst (-1), 1) := by decide +kernel
theorem dX4_winter_33 : decode cX4_winter 33 = .ok (.aload_n 0, 1) := by decide +kernel
theorem dX4_winter_34 : decode cX4_winter 34 = .ok (.getfield 32, 3) := by decide +kernel
theorem dX4_winter_37 : decode cX4_winter 37 = .ok (.getfield 197, 3) := by decide +kernel
theorem dX4_winter_40 : decode cX4_winter 40 = .ok (.isub, 1) := by decide +kernel
theorem dX4_winter_41 : decode cX4_winter 41 = .ok (.ireturn, 1) := by decide +kernel
theorem dX4_winter_42 : decode cX4_winter 42 = .ok (.aload_n 0, 1) := by decide +kernel
theorem dX4_winter_43 : decode cX4_winter 43 = .ok (.getfield 10, 3) := by decide +kernel
theorem dX4_winter_46 : decode cX4_winter 46 = .ok (.aload_n 0, 1) := by decide +kernel
theorem dX4_winter_47 : decode cX4_winter 47 = .ok (.getfield 16, 3) := by decide +kernel
theorem dX4_winter_50 : decode cX4_winter 50 = .ok (.invokevirtual 200, 3) := by decide +kernel
theorem dX4_winter_53 : decode cX4_winter 53 = .ok (.aload_n 0, 1) := by decide +kernel
theorem dX4_winter_54 : decode cX4_winter 54 = .ok (.getfield 32, 3) := by decide +kernel
theorem dX4_winter_57 : decode cX4_winter 57 = .ok (.getfield 204, 3) := by decide +kernel
theorem dX4_winter_60 : decode cX4_winter 60 = .ok (.ireturn, 1) := by decide +kernel
theorem dX4_sheet_0 : decode cX4_sheet 0 = .ok (.iload_n 1, 1) := by decide +kernel
theorem dX4_sheet_1 : decode cX4_sheet 1 = .ok (.invokestatic 207, 3) := by decide +kernel
theorem dX4_sheet_4 : decode cX4_sheet 4 = .ok (.ifCond .eq 10, 3) := by decide +kernel
theorem dX4_sheet_7 : decode cX4_sheet 7 = .ok (.iload_n 2, 1) := by decide +kernel
theorem dX4_sheet_8 : decode cX4_sheet 8 = .ok (.invokestatic 210, 3) := by decide +kernel
theorem dX4_sheet_11 : decode cX4_sheet 11 = .ok (.ifCond .ne 10, 3) := by decide +kernel
theorem dX4_sheet_14 : decode cX4_sheet 14 = .ok (.aload_n 0, 1) := by decide +kernel
theorem dX4_sheet_15 : decode cX4_sheet 15 = .ok (.ldc 63, 2) := by decide +kernel
theorem dX4_sheet_17 : decode cX4_sheet 17 = .ok (.invokevirtual 64, 3) := by decide +kernel
theorem dX4_sheet_20 : decode cX4_sheet 20 = .ok (.ireturn, 1) := by decide +kernel
theorem dX4_sheet_21 : decode cX4_sheet 21 = .ok (.iload_n 3, 1) := by decide +kernel
theorem dX4_sheet_22 : decode cX4_sheet 22 = .ok (.ifCond .ge 10, 3) := by decide +kernel
theorem dX4_sheet_25 : decode cX4_sheet 25 = .ok (.aload_n 0, 1) := by decide +kernel
theorem dX4_sheet_26 : decode cX4_sheet 26 = .ok (.ldc 213, 2) := by decide +kernel
theorem dX4_sheet_28 : decode cX4_sheet 28 = .ok (.invokevirtual 64, 3) := by decide +kernel
theorem dX4_sheet_31 : decode cX4_sheet 31 = .ok (.ireturn, 1) := by decide +kernel
theorem dX4_sheet_32 : decode cX4_sheet 32 = .ok (.iload_n 3, 1) := by decide +kernel
theorem dX4_sheet_33 : decode cX4_sheet 33 = .ok (.bipush 40, 2) := by decide +kernel
theorem dX4_sheet_35 : decode cX4_sheet 35 = .ok (.if_icmp .le 10, 3) := by decide +kernel
theorem dX4_sheet_38 : decode cX4_sheet 38 = .ok (.aload_n 0, 1) := by decide +kernel
theorem dX4_sheet_39 : decode cX4_sheet 39 = .ok (.ldc 63, 2) := by decide +kernel
theorem dX4_sheet_41 : decode cX4_sheet 41 = .ok (.invokevirtual 64, 3) := by decide +kernel
theorem dX4_sheet_44 : decode cX4_sheet 44 = .ok (.ireturn, 1) := by decide +kernel
theorem dX4_sheet_45 : decode cX4_sheet 45 = .ok (.iload_n 2, 1) := by decide +kernel
theorem dX4_sheet_46 : decode cX4_sheet 46 = .ok (.ifCond .ne 7, 3) := by decide +kernel
theorem dX4_sheet_49 : decode cX4_sheet 49 = .ok (.iconst 0, 1) := by decide +kernel
theorem dX4_sheet_50 : decode cX4_sheet 50 = .ok (.goto 4, 3) := by decide +kernel
theorem dX4_sheet_53 : decode cX4_sheet 53 = .ok (.iload_n 3, 1) := by decide +kernel
theorem dX4_sheet_54 : decode cX4_sheet 54 = .ok (.istore 4, 2) := by decide +kernel
theorem dX4_sheet_56 : decode cX4_sheet 56 = .ok (.aload_n 0, 1) := by decide +kernel
theorem dX4_sheet_57 : decode cX4_sheet 57 = .ok (.getfield 39, 3) := by decide +kernel
theorem dX4_sheet_60 : decode cX4_sheet 60 = .ok (.iload_n 1, 1) := by decide +kernel
theorem dX4_sheet_61 : decode cX4_sheet 61 = .ok (.iload_n 2, 1) := by decide +kernel
theorem dX4_sheet_62 : decode cX4_sheet 62 = .ok (.iload 4, 2) := by decide +kernel
theorem dX4_sheet_64 : decode cX4_sheet 64 = .ok (.invokevirtual 214, 3) := by decide +kernel
theorem dX4_sheet_67 : decode cX4_sheet 67 = .ok (.iload 4, 2) := by decide +kernel
theorem dX4_sheet_69 : decode cX4_sheet 69 = .ok (.ireturn, 1) := by decide +kernel
theorem dX4_write_0 : decode cX4_write 0 = .ok (.iload_n 1, 1) := by decide +kernel
theorem dX4_write_1 : decode cX4_write 1 = .ok (.invokestatic 207, 3) := by decide +kernel
theorem dX4_write_4 : decode cX4_write 4 = .ok (.ifCond .ne 11, 3) := by decide +kernel
theorem dX4_write_7 : decode cX4_write 7 = .ok (.aload_n 0, 1) := by decide +kernel
theorem dX4_write_8 : decode cX4_write 8 = .ok (.ldc 63, 2) := by decide +kernel
theorem dX4_write_10 : decode cX4_write 10 = .ok (.invokevirtual 64, 3) := by decide +kernel
theorem dX4_write_13 : decode cX4_write 13 = .ok (.i2l, 1) := by decide +kernel
theorem dX4_write_14 : decode cX4_write 14 = .ok (.lreturn, 1) := by decide +kernel
theorem dX4_write_15 : decode cX4_write 15 = .ok (.aload_n 0, 1) := by decide +kernel
theorem dX4_write_16 : decode cX4_write 16 = .ok (.getfield 39, 3) := by decide +kernel
theorem dX4_write_19 : decode cX4_write 19 = .ok (.iload_n 1, 1) := by decide +kernel
theorem dX4_write_20 : decode cX4_write 20 = .ok (.invokevirtual 218, 3) := by decide +kernel
theorem dX4_write_23 : decode cX4_write 23 = .ok (.ifCond .eq 11, 3) := by decide +kernel
theorem dX4_write_26 : decode cX4_write 26 = .ok (.aload_n 0, 1) := by decide +kernel
theorem dX4_write_27 : decode cX4_write 27 = .ok (.ldc 221, 2) := by decide +kernel
theorem dX4_write_29 : decode cX4_write 29 = .ok (.invokevirtual 64, 3) := by decide +kernel
theorem dX4_write_32 : decode cX4_write 32 = .ok (.i2l, 1) := by decide +kernel
theorem dX4_write_33 : decode cX4_write 33 = .ok (.lreturn, 1) := by decide +kernel
theorem dX4_write_34 : decode cX4_write 34 = .ok (.iload_n 2, 1) := by decide +kernel
theorem dX4_write_35 : decode cX4_write 35 = .ok (.iconst 0, 1) := by decide +kernel
theorem dX4_write_36 : decode cX4_write 36 = .ok (.aload_n 0, 1) := by decide +kernel
theorem dX4_write_37 : decode cX4_write 37 = .ok (.getfield 39, 3) := by decide +kernel
theorem dX4_write_40 : decode cX4_write 40 = .ok (.getfield 222, 3) := by decide +kernel
theorem dX4_write_43 : decode cX4_write 43 = .ok (.iload_n 1, 1) := by decide +kernel
theorem dX4_write_44 : decode cX4_write 44 = .ok (.iaload, 1) := by decide +kernel
theorem dX4_write_45 : decode cX4_write 45 = .ok (.iconst 1, 1) := by decide +kernel
theorem dX4_write_46 : decode cX4_write 46 = .ok (.isub, 1) := by decide +kernel
theorem dX4_write_47 : decode cX4_write 47 = .ok (.invokestatic 55, 3) := by decide +kernel
theorem dX4_write_50 : decode cX4_write 50 = .ok (.ifCond .ne 11, 3) := by decide +kernel
theorem dX4_write_53 : decode cX4_write 53 = .ok (.aload_n 0, 1) := by decide +kernel
theorem dX4_write_54 : decode cX4_write 54 = .ok (.ldc 63, 2) := by decide +kernel
theorem dX4_write_56 : decode cX4_write 56 = .ok (.invokevirtual 64, 3) := by decide +kernel
theorem dX4_write_59 : decode cX4_write 59 = .ok (.i2l, 1) := by decide +kernel
theorem dX4_write_60 : decode cX4_write 60 = .ok (.lreturn, 1) := by decide +kernel
theorem dX4_write_61 : decode cX4_write 61 = .ok (.aload_n 0, 1) := by decide +kernel
theorem dX4_write_62 : decode cX4_write 62 = .ok (.getfield 39, 3) := by decide +kernel
theorem dX4_write_65 : decode cX4_write 65 = .ok (.iload_n 1, 1) := by decide +kernel
theorem dX4_write_66 : decode cX4_write 66 = .ok (.iload_n 2, 1) := by decide +kernel
theorem dX4_write_67 : decode cX4_write 67 = .ok (.invokevirtual 225, 3) := by decide +kernel
theorem dX4_write_70 : decode cX4_write 70 = .ok (.lstore 5, 2) := by decide +kernel
theorem dX4_write_72 : decode cX4_write 72 = .ok (.aload_n 0, 1) := by decide +kernel
theorem dX4_write_73 : decode cX4_write 73 = .ok (.getfield 39, 3) := by decide +kernel
theorem dX4_write_76 : decode cX4_write 76 = .ok (.iload_n 1, 1) := by decide +kernel
theorem dX4_write_77 : decode cX4_write 77 = .ok (.iload_n 2, 1) := by decide +kernel
theorem dX4_write_78 : decode cX4_write 78 = .ok (.lload_n 3, 1) := by decide +kernel
theorem dX4_write_79 : decode cX4_write 79 = .ok (.invokevirtual 229, 3) := by decide +kernel
theorem dX4_write_82 : decode cX4_write 82 = .ok (.lload 5, 2) := by decide +kernel
theorem dX4_write_84 : decode cX4_write 84 = .ok (.lreturn, 1) := by decide +kernel
theorem dX4_copy_0 : decode cX4_copy 0 = .ok (.iload_n 1, 1) := by decide +kernel
theorem dX4_copy_1 : decode cX4_copy 1 = .ok (.invokestatic 207, 3) := by decide +kernel
theorem dX4_copy_4 : decode cX4_copy 4 = .ok (.ifCond .eq 10, 3) := by decide +kernel
theorem dX4_copy_7 : decode cX4_copy 7 = .ok (.iload_n 3, 1) := by decide +kernel
theorem dX4_copy_8 : decode cX4_copy 8 = .ok (.invokestatic 207, 3) := by decide +kernel
theorem dX4_copy_11 : decode cX4_copy 11 = .ok (.ifCond .ne 10, 3) := by decide +kernel
theorem dX4_copy_14 : decode cX4_copy 14 = .ok (.aload_n 0, 1) := by decide +kernel
theorem dX4_copy_15 : decode cX4_copy 15 = .ok (.ldc 63, 2) := by decide +kernel
theorem dX4_copy_17 : decode cX4_copy 17 = .ok (.invokevirtual 64, 3) := by decide +kernel
theorem dX4_copy_20 : decode cX4_copy 20 = .ok (.ireturn, 1) := by decide +kernel
theorem dX4_copy_21 : decode cX4_copy 21 = .ok (.aload_n 0, 1) := by decide +kernel
theorem dX4_copy_22 : decode cX4_copy 22 = .ok (.getfield 39, 3) := by decide +kernel
theorem dX4_copy_25 : decode cX4_copy 25 = .ok (.iload_n 1, 1) := by decide +kernel
theorem dX4_copy_26 : decode cX4_copy 26 = .ok (.invokevirtual 218, 3) := by decide +kernel
theorem dX4_copy_29 : decode cX4_copy 29 = .ok (.ifCond .ne 14, 3) := by decide +kernel
theorem dX4_copy_32 : decode cX4_copy 32 = .ok (.aload_n 0, 1) := by decide +kernel
theorem dX4_copy_33 : decode cX4_copy 33 = .ok (.getfield 39, 3) := by decide +kernel
theorem dX4_copy_36 : decode cX4_copy 36 = .ok (.iload_n 3, 1) := by decide +kernel
theorem dX4_copy_37 : decode cX4_copy 37 = .ok (.invokevirtual 218, 3) := by decide +kernel
theorem dX4_copy_40 : decode cX4_copy 40 = .ok (.ifCond .eq 10, 3) := by decide +kernel
theorem dX4_copy_43 : decode cX4_copy 43 = .ok (.aload_n 0, 1) := by decide +kernel
theorem dX4_copy_44 : decode cX4_copy 44 = .ok (.ldc 221, 2) := by decide +kernel
theorem dX4_copy_46 : decode cX4_copy 46 = .ok (.invokevirtual 64, 3) := by decide +kernel
theorem dX4_copy_49 : decode cX4_copy 49 = .ok (.ireturn, 1) := by decide +kernel
theorem dX4_copy_50 : decode cX4_copy 50 = .ok (.aload_n 0, 1) := by decide +kernel
theorem dX4_copy_51 : decode cX4_copy 51 = .ok (.getfield 39, 3) := by decide +kernel
theorem dX4_copy_54 : decode cX4_copy 54 = .ok (.getfield 233, 3) := by decide +kernel
theorem dX4_copy_57 : decode cX4_copy 57 = .ok (.iload_n 1, 1) := by decide +kernel
theorem dX4_copy_58 : decode cX4_copy 58 = .ok (.iaload, 1) := by decide +kernel
theorem dX4_copy_59 : decode cX4_copy 59 = .ok (.aload_n 0, 1) := by decide +kernel
theorem dX4_copy_60 : decode cX4_copy 60 = .ok (.getfield 39, 3) := by decide +kernel
theorem dX4_copy_63 : decode cX4_copy 63 = .ok (.getfield 233, 3) := by decide +kernel
theorem dX4_copy_66 : decode cX4_copy 66 = .ok (.iload_n 3, 1) := by decide +kernel
theorem dX4_copy_67 : decode cX4_copy 67 = .ok (.iaload, 1) := by decide +kernel
theorem dX4_copy_68 : decode cX4_copy 68 = .ok (.if_icmp .eq 10, 3) := by decide +kernel
theorem dX4_copy_71 : decode cX4_copy 71 = .ok (.aload_n 0, 1) := by decide +kernel
theorem dX4_copy_72 : decode cX4_copy 72 = .ok (.ldc 151, 2) := by decide +kernel
theorem dX4_copy_74 : decode cX4_copy 74 = .ok (.invokevirtual 64, 3) := by decide +kernel
theorem dX4_copy_77 : decode cX4_copy 77 = .ok (.ireturn, 1) := by decide +kernel
theorem dX4_copy_78 : decode cX4_copy 78 = .ok (.aload_n 0, 1) := by decide +kernel
theorem dX4_copy_79 : decode cX4_copy 79 = .ok (.getfield 39, 3) := by decide +kernel
theorem dX4_copy_82 : decode cX4_copy 82 = .ok (.iload_n 1, 1) := by decide +kernel
theorem dX4_copy_83 : decode cX4_copy 83 = .ok (.iload_n 2, 1) := by decide +kernel
theorem dX4_copy_84 : decode cX4_copy 84 = .ok (.iload 5, 2) := by decide +kernel
theorem dX4_copy_86 : decode cX4_copy 86 = .ok (.invokevirtual 236, 3) := by decide +kernel
theorem dX4_copy_89 : decode cX4_copy 89 = .ok (.ifCond .eq 18, 3) := by decide +kernel
theorem dX4_copy_92 : decode cX4_copy 92 = .ok (.aload_n 0, 1) := by decide +kernel
theorem dX4_copy_93 : decode cX4_copy 93 = .ok (.getfield 39, 3) := by decide +kernel
theorem dX4_copy_96 : decode cX4_copy 96 = .ok (.iload_n 3, 1) := by decide +kernel
theorem dX4_copy_97 : decode cX4_copy 97 = .ok (.iload 4, 2) := by decide +kernel
theorem dX4_copy_99 : decode cX4_copy 99 = .ok (.iload 5, 2) := by decide +kernel
theorem dX4_copy_101 : decode cX4_copy 101 = .ok (.invokevirtual 236, 3) := by decide +kernel
theorem dX4_copy_104 : decode cX4_copy 104 = .ok (.ifCond .ne 10, 3) := by decide +kernel
theorem dX4_copy_107 : decode cX4_copy 107 = .ok (.aload_n 0, 1) := by decide +kernel
theorem dX4_copy_108 : decode cX4_copy 108 = .ok (.ldc 63, 2) := by decide +kernel
theorem dX4_copy_110 : decode cX4_copy 110 = .ok (.invokevirtual 64, 3) := by decide +kernel
theorem dX4_copy_113 : decode cX4_copy 113 = .ok (.ireturn, 1) := by decide +kernel
theorem dX4_copy_114 : decode cX4_copy 114 = .ok (.aload_n 0, 1) := by decide +kernel
theorem dX4_copy_115 : decode cX4_copy 115 = .ok (.getfield 39, 3) := by decide +kernel
theorem dX4_copy_118 : decode cX4_copy 118 = .ok (.iload_n 1, 1) := by decide +kernel
theorem dX4_copy_119 : decode cX4_copy 119 = .ok (.iload_n 2, 1) := by decide +kernel
theorem dX4_copy_120 : decode cX4_copy 120 = .ok (.iload_n 3, 1) := by decide +kernel
theorem dX4_copy_121 : decode cX4_copy 121 = .ok (.iload 4, 2) := by decide +kernel
theorem dX4_copy_123 : decode cX4_copy 123 = .ok (.iload 5, 2) := by decide +kernel
theorem dX4_copy_125 : decode cX4_copy 125 = .ok (.invokevirtual 239, 3) := by decide +kernel
theorem dX4_copy_128 : decode cX4_copy 128 = .ok (.iload 5, 2) := by decide +kernel
theorem dX4_copy_130 : decode cX4_copy 130 = .ok (.ireturn, 1) := by decide +kernel
theorem dX4_lays_0 : decode cX4_lays 0 = .ok (.iload_n 1, 1) := by decide +kernel
theorem dX4_lays_1 : decode cX4_lays 1 = .ok (.invokestatic 207, 3) := by decide +kernel
theorem dX4_lays_4 : decode cX4_lays 4 = .ok (.ifCond .ne 10, 3) := by decide +kernel
theorem dX4_lays_7 : decode cX4_lays 7 = .ok (.aload_n 0, 1) := by decide +kernel
theorem dX4_lays_8 : decode cX4_lays 8 = .ok (.ldc 63, 2) := by decide +kernel
theorem dX4_lays_10 : decode cX4_lays 10 = .ok (.invokevirtual 64, 3) := by decide +kernel
theorem dX4_lays_13 : decode cX4_lays 13 = .ok (.ireturn, 1) := by decide +kernel
theorem dX4_lays_14 : decode cX4_lays 14 = .ok (.aload_n 0, 1) := by decide +kernel
theorem dX4_lays_15 : decode cX4_lays 15 = .ok (.getfield 39, 3) := by decide +kernel
theorem dX4_lays_18 : decode cX4_lays 18 = .ok (.iload_n 1, 1) := by decide +kernel
theorem dX4_lays_19 : decode cX4_lays 19 = .ok (.invokevirtual 218, 3) := by decide +kernel
theorem dX4_lays_22 : decode cX4_lays 22 = .ok (.ifCond .eq 10, 3) := by decide +kernel
theorem dX4_lays_25 : decode cX4_lays 25 = .ok (.aload_n 0, 1) := by decide +kernel
theorem dX4_lays_26 : decode cX4_lays 26 = .ok (.ldc 221, 2) := by decide +kernel
theorem dX4_lays_28 : decode cX4_lays 28 = .ok (.invokevirtual 64, 3) := by decide +kernel
theorem dX4_lays_31 : decode cX4_lays 31 = .ok (.ireturn, 1) := by decide +kernel
theorem dX4_lays_32 : decode cX4_lays 32 = .ok (.iconst 0, 1) := by decide +kernel
theorem dX4_lays_33 : decode cX4_lays 33 = .ok (.istore_n 2, 1) := by decide +kernel
theorem dX4_lays_34 : decode cX4_lays 34 = .ok (.aload_n 0, 1) := by decide +kernel
theorem dX4_lays_35 : decode cX4_lays 35 = .ok (.getfield 39, 3) := by decide +kernel
theorem dX4_lays_38 : decode cX4_lays 38 = .ok (.getfield 222, 3) := by decide +kernel
theorem dX4_lays_41 : decode cX4_lays 41 = .ok (.iload_n 1, 1) := by decide +kernel
theorem dX4_lays_42 : decode cX4_lays 42 = .ok (.iaload, 1) := by decide +kernel
theorem dX4_lays_43 : decode cX4_lays 43 = .ok (.aload_n 0, 1) := by decide +kernel
theorem dX4_lays_44 : decode cX4_lays 44 = .ok (.getfield 10, 3) := by decide +kernel
theorem dX4_lays_47 : decode cX4_lays 47 = .ok (.getfield 100, 3) := by decide +kernel
theorem dX4_lays_50 : decode cX4_lays 50 = .ok (.invokestatic 243, 3) := by decide +kernel
theorem dX4_lays_53 : decode cX4_lays 53 = .ok (.istore_n 3, 1) := by decide +kernel
theorem dX4_lays_54 : decode cX4_lays 54 = .ok (.iconst 0, 1) := by decide +kernel
theorem dX4_lays_55 : decode cX4_lays 55 = .ok (.istore 4, 2) := by decide +kernel
theorem dX4_lays_57 : decode cX4_lays 57 = .ok (.iload 4, 2) := by decide +kernel
theorem dX4_lays_59 : decode cX4_lays 59 = .ok (.iload_n 3, 1) := by decide +kernel
theorem dX4_lays_60 : decode cX4_lays 60 = .ok (.if_icmp .ge 53, 3) := by decide +kernel
theorem dX4_lays_63 : decode cX4_lays 63 = .ok (.aload_n 0, 1) := by decide +kernel
theorem dX4_lays_64 : decode cX4_lays 64 = .ok (.getfield 39, 3) := by decide +kernel
theorem dX4_lays_67 : decode cX4_lays 67 = .ok (.iload_n 1, 1) := by decide +kernel
theorem dX4_lays_68 : decode cX4_lays 68 = .ok (.iload 4, 2) := by decide +kernel
theorem dX4_lays_70 : decode cX4_lays 70 = .ok (.invokevirtual 225, 3) := by decide +kernel
theorem dX4_lays_73 : decode cX4_lays 73 = .ok (.lstore 5, 2) := by decide +kernel
theorem dX4_lays_75 : decode cX4_lays 75 = .ok (.lload 5, 2) := by decide +kernel
theorem dX4_lays_77 : decode cX4_lays 77 = .ok (.lconst 0, 1) := by decide +kernel
theorem dX4_lays_78 : decode cX4_lays 78 = .ok (.lcmp, 1) := by decide +kernel
theorem dX4_lays_79 : decode cX4_lays 79 = .ok (.ifCond .lt 28, 3) := by decide +kernel
theorem dX4_lays_82 : decode cX4_lays 82 = .ok (.lload 5, 2) := by decide +kernel
theorem dX4_lays_84 : decode cX4_lays 84 = .ok (.ldc2_w 248, 3) := by decide +kernel
theorem dX4_lays_87 : decode cX4_lays 87 = .ok (.lcmp, 1) := by decide +kernel
theorem dX4_lays_88 : decode cX4_lays 88 = .ok (.ifCond .gt 19, 3) := by decide +kernel
theorem dX4_lays_91 : decode cX4_lays 91 = .ok (.aload_n 0, 1) := by decide +kernel
theorem dX4_lays_92 : decode cX4_lays 92 = .ok (.getfield 10, 3) := by decide +kernel
theorem dX4_lays_95 : decode cX4_lays 95 = .ok (.getfield 120, 3) := by decide +kernel
theorem dX4_lays_98 : decode cX4_lays 98 = .ok (.iload 4, 2) := by decide +kernel
theorem dX4_lays_100 : decode cX4_lays 100 = .ok (.lload 5, 2) := by decide +kernel
theorem dX4_lays_102 : decode cX4_lays 102 = .ok (.l2i, 1) := by decide +kernel
theorem dX4_lays_103 : decode cX4_lays 103 = .ok (.iastore, 1) := by decide +kernel
theorem dX4_lays_104 : decode cX4_lays 104 = .ok (.iinc 2 1, 3) := by decide +kernel
theorem dX4_lays_107 : decode cX4_lays 107 = .ok (.iinc 4 1, 3) := by decide +kernel
theorem dX4_lays_110 : decode cX4_lays 110 = .ok (.goto (-53), 3) := by decide +kernel
theorem dX4_lays_113 : decode cX4_lays 113 = .ok (.iload_n 2, 1) := by decide +kernel
theorem dX4_lays_114 : decode cX4_lays 114 = .ok (.ireturn, 1) := by decide +kernel
theorem dX4_book_0 : decode cX4_book 0 = .ok (.iload_n 1, 1) := by decide +kernel
theorem dX4_book_1 : decode cX4_book 1 = .ok (.invokestatic 207, 3) := by decide +kernel
theorem dX4_book_4 : decode cX4_book 4 = .ok (.ifCond .ne 10, 3) := by decide +kernel
theorem dX4_book_7 : decode cX4_book 7 = .ok (.aload_n 0, 1) := by decide +kernel
theorem dX4_book_8 : decode cX4_book 8 = .ok (.ldc 63, 2) := by decide +kernel
theorem dX4_book_10 : decode cX4_book 10 = .ok (.invokevirtual 64, 3) := by decide +kernel
theorem dX4_book_13 : decode cX4_book 13 = .ok (.ireturn, 1) := by decide +kernel
theorem dX4_book_14 : decode cX4_book 14 = .ok (.aload_n 0, 1) := by decide +kernel
theorem dX4_book_15 : decode cX4_book 15 = .ok (.getfield 39, 3) := by decide +kernel
theorem dX4_book_18 : decode cX4_book 18 = .ok (.iload_n 1, 1) := by decide +kernel
theorem dX4_book_19 : decode cX4_book 19 = .ok (.invokevirtual 218, 3) := by decide +kernel
theorem dX4_book_22 : decode cX4_book 22 = .ok (.ifCond .eq 10, 3) := by decide +kernel
theorem dX4_book_25 : decode cX4_book 25 = .ok (.aload_n 0, 1) := by decide +kernel
theorem dX4_book_26 : decode cX4_book 26 = .ok (.ldc 221, 2) := by decide +kernel
theorem dX4_book_28 : decode cX4_book 28 = .ok (.invokevirtual 64, 3) := by decide +kernel
theorem dX4_book_31 : decode cX4_book 31 = .ok (.ireturn, 1) := by decide +kernel
theorem dX4_book_32 : decode cX4_book 32 = .ok (.aload_n 0, 1) := by decide +kernel
theorem dX4_book_33 : decode cX4_book 33 = .ok (.iload_n 2, 1) := by decide +kernel
theorem dX4_book_34 : decode cX4_book 34 = .ok (.invokevirtual 108, 3) := by decide +kernel
theorem dX4_book_37 : decode cX4_book 37 = .ok (.ifCond .ne 10, 3) := by decide +kernel
theorem dX4_book_40 : decode cX4_book 40 = .ok (.aload_n 0, 1) := by decide +kernel
theorem dX4_book_41 : decode cX4_book 41 = .ok (.ldc 63, 2) := by decide +kernel
theorem dX4_book_43 : decode cX4_book 43 = .ok (.invokevirtual 64, 3) := by decide +kernel
theorem dX4_book_46 : decode cX4_book 46 = .ok (.ireturn, 1) := by decide +kernel
theorem dX4_book_47 : decode cX4_book 47 = .ok (.aload_n 0, 1) := by decide +kernel
theorem dX4_book_48 : decode cX4_book 48 = .ok (.invokevirtual 158, 3) := by decide +kernel
theorem dX4_book_51 : decode cX4_book 51 = .ok (.iconst 0, 1) := by decide +kernel
theorem dX4_book_52 : decode cX4_book 52 = .ok (.istore_n 3, 1) := by decide +kernel
theorem dX4_book_53 : decode cX4_book 53 = .ok (.iload_n 3, 1) := by decide +kernel
theorem dX4_book_54 : decode cX4_book 54 = .ok (.aload_n 0, 1) := by decide +kernel
theorem dX4_book_55 : decode cX4_book 55 = .ok (.getfield 39, 3) := by decide +kernel
theorem dX4_book_58 : decode cX4_book 58 = .ok (.getfield 222, 3) := by decide +kernel
theorem dX4_book_61 : decode cX4_book 61 = .ok (.iload_n 1, 1) := by decide +kernel
theorem dX4_book_62 : decode cX4_book 62 = .ok (.iaload, 1) := by decide +kernel
theorem dX4_book_63 : decode cX4_book 63 = .ok (.if_icmp .ge 35, 3) := by decide +kernel
theorem dX4_book_66 : decode cX4_book 66 = .ok (.aload_n 0, 1) := by decide +kernel
theorem dX4_book_67 : decode cX4_book 67 = .ok (.getfield 39, 3) := by decide +kernel
theorem dX4_book_70 : decode cX4_book 70 = .ok (.iload_n 1, 1) := by decide +kernel
theorem dX4_book_71 : decode cX4_book 71 = .ok (.iload_n 3, 1) := by decide +kernel
theorem dX4_book_72 : decode cX4_book 72 = .ok (.aload_n 0, 1) := by decide +kernel
theorem dX4_book_73 : decode cX4_book 73 = .ok (.getfield 16, 3) := by decide +kernel
theorem dX4_book_76 : decode cX4_book 76 = .ok (.getfield 123, 3) := by decide +kernel
theorem dX4_book_79 : decode cX4_book 79 = .ok (.iload_n 2, 1) := by decide +kernel
theorem dX4_book_80 : decode cX4_book 80 = .ok (.iaload, 1) := by decide +kernel
theorem dX4_book_81 : decode cX4_book 81 = .ok (.i2l, 1) := by decide +kernel
theorem dX4_book_82 : decode cX4_book 82 = .ok (.invokevirtual 229, 3) := by decide +kernel
theorem dX4_book_85 : decode cX4_book 85 = .ok (.aload_n 0, 1) := by decide +kernel
theorem dX4_book_86 : decode cX4_book 86 = .ok (.getfield 16, 3) := by decide +kernel
theorem dX4_book_89 : decode cX4_book 89 = .ok (.invokevirtual 170, 3) := by decide +kernel
theorem dX4_book_92 : decode cX4_book 92 = .ok (.iinc 3 1, 3) := by decide +kernel
theorem dX4_book_95 : decode cX4_book 95 = .ok (.goto (-42), 3) := by decide +kernel
theorem dX4_book_98 : decode cX4_book 98 = .ok (.aload_n 0, 1) := by decide +kernel
theorem dX4_book_99 : decode cX4_book 99 = .ok (.getfield 39, 3) := by decide +kernel
theorem dX4_book_102 : decode cX4_book 102 = .ok (.getfield 222, 3) := by decide +kernel
theorem dX4_book_105 : decode cX4_book 105 = .ok (.iload_n 1, 1) := by decide +kernel
theorem dX4_book_106 : decode cX4_book 106 = .ok (.iaload, 1) := by decide +kernel
theorem dX4_book_107 : decode cX4_book 107 = .ok (.ireturn, 1) := by decide +kernel
theorem dX4_read_0 : decode cX4_read 0 = .ok (.iload_n 1, 1) := by decide +kernel
theorem dX4_read_1 : decode cX4_read 1 = .ok (.invokestatic 207, 3) := by decide +kernel
theorem dX4_read_4 : decode cX4_read 4 = .ok (.ifCond .ne 10, 3) := by decide +kernel
theorem dX4_read_7 : decode cX4_read 7 = .ok (.aload_n 0, 1) := by decide +kernel
theorem dX4_read_8 : decode cX4_read 8 = .ok (.ldc 63, 2) := by decide +kernel
theorem dX4_read_10 : decode cX4_read 10 = .ok (.invokevirtual 64, 3) := by decide +kernel
theorem dX4_read_13 : decode cX4_read 13 = .ok (.ireturn, 1) := by decide +kernel
theorem dX4_read_14 : decode cX4_read 14 = .ok (.aload_n 0, 1) := by decide +kernel
theorem dX4_read_15 : decode cX4_read 15 = .ok (.getfield 39, 3) := by decide +kernel
theorem dX4_read_18 : decode cX4_read 18 = .ok (.iload_n 1, 1) := by decide +kernel
theorem dX4_read_19 : decode cX4_read 19 = .ok (.invokevirtual 218, 3) := by decide +kernel
theorem dX4_read_22 : decode cX4_read 22 = .ok (.ifCond .eq 10, 3) := by decide +kernel
theorem dX4_read_25 : decode cX4_read 25 = .ok (.aload_n 0, 1) := by decide +kernel
theorem dX4_read_26 : decode cX4_read 26 = .ok (.ldc 221, 2) := by decide +kernel
theorem dX4_read_28 : decode cX4_read 28 = .ok (.invokevirtual 64, 3) := by decide +kernel
theorem dX4_read_31 : decode cX4_read 31 = .ok (.ireturn, 1) := by decide +kernel
theorem dX4_read_32 : decode cX4_read 32 = .ok (.aload_n 0, 1) := by decide +kernel
theorem dX4_read_33 : decode cX4_read 33 = .ok (.iload_n 2, 1) := by decide +kernel
theorem dX4_read_34 : decode cX4_read 34 = .ok (.invokevirtual 108, 3) := by decide +kernel
theorem dX4_read_37 : decode cX4_read 37 = .ok (.ifCond .ne 10, 3) := by decide +kernel
theorem dX4_read_40 : decode cX4_read 40 = .ok (.aload_n 0, 1) := by decide +kernel
theorem dX4_read_41 : decode cX4_read 41 = .ok (.ldc 63, 2) := by decide +kernel
theorem dX4_read_43 : decode cX4_read 43 = .ok (.invokevirtual 64, 3) := by decide +kernel
theorem dX4_read_46 : decode cX4_read 46 = .ok (.ireturn, 1) := by decide +kernel
theorem dX4_read_47 : decode cX4_read 47 = .ok (.iconst 0, 1) := by decide +kernel
theorem dX4_read_48 : decode cX4_read 48 = .ok (.istore_n 3, 1) := by decide +kernel
theorem dX4_read_49 : decode cX4_read 49 = .ok (.iconst 0, 1) := by decide +kernel
theorem dX4_read_50 : decode cX4_read 50 = .ok (.istore 4, 2) := by decide +kernel
theorem dX4_read_52 : decode cX4_read 52 = .ok (.iload 4, 2) := by decide +kernel
theorem dX4_read_54 : decode cX4_read 54 = .ok (.bipush 6, 2) := by decide +kernel
theorem dX4_read_56 : decode cX4_read 56 = .ok (.if_icmp .ge 41, 3) := by decide +kernel
theorem dX4_read_59 : decode cX4_read 59 = .ok (.iconst 0, 1) := by decide +kernel
theorem dX4_read_60 : decode cX4_read 60 = .ok (.istore 5, 2) := by decide +kernel
theorem dX4_read_62 : decode cX4_read 62 = .ok (.iload 5, 2) := by decide +kernel
theorem dX4_read_64 : decode cX4_read 64 = .ok (.bipush 99, 2) := by decide +kernel
theorem dX4_read_66 : decode cX4_read 66 = .ok (.if_icmp .gt 25, 3) := by decide +kernel
theorem dX4_read_69 : decode cX4_read 69 = .ok (.aload_n 0, 1) := by decide +kernel
theorem dX4_read_70 : decode cX4_read 70 = .ok (.iload_n 1, 1) := by decide +kernel
theorem dX4_read_71 : decode cX4_read 71 = .ok (.iload_n 2, 1) := by decide +kernel
theorem dX4_read_72 : decode cX4_read 72 = .ok (.iload 4, 2) := by decide +kernel
theorem dX4_read_74 : decode cX4_read 74 = .ok (.iload 5, 2) := by decide +kernel
theorem dX4_read_76 : decode cX4_read 76 = .ok (.invokevirtual 250, 3) := by decide +kernel
theorem dX4_read_79 : decode cX4_read 79 = .ok (.ifCond .eq 6, 3) := by decide +kernel
theorem dX4_read_82 : decode cX4_read 82 = .ok (.iinc 3 1, 3) := by decide +kernel
theorem dX4_read_85 : decode cX4_read 85 = .ok (.iinc 5 1, 3) := by decide +kernel
theorem dX4_read_88 : decode cX4_read 88 = .ok (.goto (-26), 3) := by decide +kernel
theorem dX4_read_91 : decode cX4_read 91 = .ok (.iinc 4 1, 3) := by decide +kernel
theorem dX4_read_94 : decode cX4_read 94 = .ok (.goto (-42), 3) := by decide +kernel
theorem dX4_read_97 : decode cX4_read 97 = .ok (.iload_n 3, 1) := by decide +kernel
theorem dX4_read_98 : decode cX4_read 98 = .ok (.ireturn, 1) := by decide +kernel
theorem dX4_image_0 : decode cX4_image 0 = .ok (.aload_n 0, 1) := by decide +kernel
theorem dX4_image_1 : decode cX4_image 1 = .ok (.getfield 19, 3) := by decide +kernel
theorem dX4_image_4 : decode cX4_image 4 = .ok (.aload_n 0, 1) := by decide +kernel
theorem dX4_image_5 : decode cX4_image 5 = .ok (.getfield 10, 3) := by decide +kernel
theorem dX4_image_8 : decode cX4_image 8 = .ok (.invokevirtual 200, 3) := by decide +kernel
theorem dX4_image_11 : decode cX4_image 11 = .ok (.aload_n 0, 1) := by decide +kernel
theorem dX4_image_12 : decode cX4_image 12 = .ok (.iconst 1, 1) := by decide +kernel
theorem dX4_image_13 : decode cX4_image 13 = .ok (.putfield 47, 3) := by decide +kernel
theorem dX4_image_16 : decode cX4_image 16 = .ok (.iconst 1, 1) := by decide +kernel
theorem dX4_image_17 : decode cX4_image 17 = .ok (.ireturn, 1) := by decide +kernel
theorem dX4_undo_0 : decode cX4_undo 0 = .ok (.aload_n 0, 1) := by decide +kernel
theorem dX4_undo_1 : decode cX4_undo 1 = .ok (.getfield 47, 3) := by decide +kernel
theorem dX4_undo_4 : decode cX4_undo 4 = .ok (.ifCond .ne 10, 3) := by decide +kernel
theorem dX4_undo_7 : decode cX4_undo 7 = .ok (.aload_n 0, 1) := by decide +kernel
theorem dX4_undo_8 : decode cX4_undo 8 = .ok (.ldc 173, 2) := by decide +kernel
theorem dX4_undo_10 : decode cX4_undo 10 = .ok (.invokevirtual 64, 3) := by decide +kernel
theorem dX4_undo_13 : decode cX4_undo 13 = .ok (.ireturn, 1) := by decide +kernel
theorem dX4_undo_14 : decode cX4_undo 14 = .ok (.aload_n 0, 1) := by decide +kernel
theorem dX4_undo_15 : decode cX4_undo 15 = .ok (.getfield 10, 3) := by decide +kernel
theorem dX4_undo_18 : decode cX4_undo 18 = .ok (.aload_n 0, 1) := by decide +kernel
theorem dX4_undo_19 : decode cX4_undo 19 = .ok (.getfield 19, 3) := by decide +kernel
theorem dX4_undo_22 : decode cX4_undo 22 = .ok (.invokevirtual 200, 3) := by decide +kernel
theorem dX4_undo_25 : decode cX4_undo 25 = .ok (.aload_n 0, 1) := by decide +kernel
theorem dX4_undo_26 : decode cX4_undo 26 = .ok (.getfield 10, 3) := by decide +kernel
theorem dX4_undo_29 : decode cX4_undo 29 = .ok (.getfield 100, 3) := by decide +kernel
theorem dX4_undo_32 : decode cX4_undo 32 = .ok (.ireturn, 1) := by decide +kernel
theorem dX4_tear_0 : decode cX4_tear 0 = .ok (.aload_n 0, 1) := by decide +kernel
theorem dX4_tear_1 : decode cX4_tear 1 = .ok (.getfield 47, 3) := by decide +kernel
theorem dX4_tear_4 : decode cX4_tear 4 = .ok (.ifCond .eq 7, 3) := by decide +kernel
theorem dX4_tear_7 : decode cX4_tear 7 = .ok (.iconst 1, 1) := by decide +kernel
theorem dX4_tear_8 : decode cX4_tear 8 = .ok (.goto 4, 3) := by decide +kernel
theorem dX4_tear_11 : decode cX4_tear 11 = .ok (.iconst 0, 1) := by decide +kernel
theorem dX4_tear_12 : decode cX4_tear 12 = .ok (.istore_n 1, 1) := by decide +kernel
theorem dX4_tear_13 : decode cX4_tear 13 = .ok (.aload_n 0, 1) := by decide +kernel
theorem dX4_tear_14 : decode cX4_tear 14 = .ok (.iconst 0, 1) := by decide +kernel
theorem dX4_tear_15 : decode cX4_tear 15 = .ok (.putfield 47, 3) := by decide +kernel
theorem dX4_tear_18 : decode cX4_tear 18 = .ok (.iload_n 1, 1) := by decide +kernel
theorem dX4_tear_19 : decode cX4_tear 19 = .ok (.ireturn, 1) := by decide +kernel
theorem dX4_count_0 : decode cX4_count 0 = .ok (.iload_n 1, 1) := by decide +kernel
theorem dX4_count_1 : decode cX4_count 1 = .ok (.tableswitch 63 0 3 #[31, 39, 47, 55], 31) := by decide +kernel
theorem dX4_count_32 : decode cX4_count 32 = .ok (.aload_n 0, 1) := by decide +kernel
theorem dX4_count_33 : decode cX4_count 33 = .ok (.getfield 10, 3) := by decide +kernel
theorem dX4_count_36 : decode cX4_count 36 = .ok (.getfield 100, 3) := by decide +kernel
theorem dX4_count_39 : decode cX4_count 39 = .ok (.ireturn, 1) := by decide +kernel
theorem dX4_count_40 : decode cX4_count 40 = .ok (.aload_n 0, 1) := by decide +kernel
theorem dX4_count_41 : decode cX4_count 41 = .ok (.getfield 25, 3) := by decide +kernel
theorem dX4_count_44 : decode cX4_count 44 = .ok (.getfield 187, 3) := by decide +kernel
theorem dX4_count_47 : decode cX4_count 47 = .ok (.ireturn, 1) := by decide +kernel
theorem dX4_count_48 : decode cX4_count 48 = .ok (.aload_n 0, 1) := by decide +kernel
theorem dX4_count_49 : decode cX4_count 49 = .ok (.getfield 10, 3) := by decide +kernel
theorem dX4_count_52 : decode cX4_count 52 = .ok (.invokevirtual 254, 3) := by decide +kernel
theorem dX4_count_55 : decode cX4_count 55 = .ok (.ireturn, 1) := by decide +kernel
theorem dX4_count_56 : decode cX4_count 56 = .ok (.aload_n 0, 1) := by decide +kernel
theorem dX4_count_57 : decode cX4_count 57 = .ok (.getfield 10, 3) := by decide +kernel
theorem dX4_count_60 : decode cX4_count 60 = .ok (.invokevirtual 257, 3) := by decide +kernel
theorem dX4_count_63 : decode cX4_count 63 = .ok (.ireturn, 1) := by decide +kernel
theorem dX4_count_64 : decode cX4_count 64 = .ok (.aload_n 0, 1) := by decide +kernel
theorem dX4_count_65 : decode cX4_count 65 = .ok (.ldc 63, 2) := by decide +kernel
theorem dX4_count_67 : decode cX4_count 67 = .ok (.invokevirtual 64, 3) := by decide +kernel
theorem dX4_count_70 : decode cX4_count 70 = .ok (.ireturn, 1) := by decide +kernel
theorem dX4_status_0 : decode cX4_status 0 = .ok (.iload_n 1, 1) := by decide +kernel
theorem dX4_status_1 : decode cX4_status 1 = .ok (.iconst (-1), 1) := by decide +kernel
theorem dX4_status_2 : decode cX4_status 2 = .ok (.bipush 6, 2) := by decide +kernel
theorem dX4_status_4 : decode cX4_status 4 = .ok (.invokestatic 55, 3) := by decide +kernel
theorem dX4_status_7 : decode cX4_status 7 = .ok (.ifCond .ne 10, 3) := by decide +kernel
theorem dX4_status_10 : decode cX4_status 10 = .ok (.aload_n 0, 1) := by decide +kernel
theorem dX4_status_11 : decode cX4_status 11 = .ok (.ldc 63, 2) := by decide +kernel
theorem dX4_status_13 : decode cX4_status 13 = .ok (.invokevirtual 64, 3) := by decide +kernel
theorem dX4_status_16 : decode cX4_status 16 = .ok (.ireturn, 1) := by decide +kernel
theorem dX4_status_17 : decode cX4_status 17 = .ok (.iload_n 1, 1) := by decide +kernel
theorem dX4_status_18 : decode cX4_status 18 = .ok (.ifCond .lt 10, 3) := by decide +kernel
theorem dX4_status_21 : decode cX4_status 21 = .ok (.aload_n 0, 1) := by decide +kernel
theorem dX4_status_22 : decode cX4_status 22 = .ok (.getfield 43, 3) := by decide +kernel
theorem dX4_status_25 : decode cX4_status 25 = .ok (.iload_n 1, 1) := by decide +kernel
theorem dX4_status_26 : decode cX4_status 26 = .ok (.iaload, 1) := by decide +kernel
theorem dX4_status_27 : decode cX4_status 27 = .ok (.ireturn, 1) := by decide +kernel
theorem dX4_status_28 : decode cX4_status 28 = .ok (.iconst 0, 1) := by decide +kernel
theorem dX4_status_29 : decode cX4_status 29 = .ok (.istore_n 2, 1) := by decide +kernel
theorem dX4_status_30 : decode cX4_status 30 = .ok (.iconst 0, 1) := by decide +kernel
theorem dX4_status_31 : decode cX4_status 31 = .ok (.istore_n 3, 1) := by decide +kernel
theorem dX4_status_32 : decode cX4_status 32 = .ok (.iload_n 3, 1) := by decide +kernel
theorem dX4_status_33 : decode cX4_status 33 = .ok (.bipush 7, 2) := by decide +kernel
theorem dX4_status_35 : decode cX4_status 35 = .ok (.if_icmp .ge 18, 3) := by decide +kernel
theorem dX4_status_38 : decode cX4_status 38 = .ok (.iload_n 2, 1) := by decide +kernel
theorem dX4_status_39 : decode cX4_status 39 = .ok (.aload_n 0, 1) := by decide +kernel
theorem dX4_status_40 : decode cX4_status 40 = .ok (.getfield 43, 3) := by decide +kernel
theorem dX4_status_43 : decode cX4_status 43 = .ok (.iload_n 3, 1) := by decide +kernel
theorem dX4_status_44 : decode cX4_status 44 = .ok (.iaload, 1) := by decide +kernel
theorem dX4_status_45 : decode cX4_status 45 = .ok (.iadd, 1) := by decide +kernel
theorem dX4_status_46 : decode cX4_status 46 = .ok (.istore_n 2, 1) := by decide +kernel
theorem dX4_status_47 : decode cX4_status 47 = .ok (.iinc 3 1, 3) := by decide +kernel
theorem dX4_status_50 : decode cX4_status 50 = .ok (.goto (-18), 3) := by decide +kernel
theorem dX4_status_53 : decode cX4_status 53 = .ok (.iload_n 2, 1) := by decide +kernel
theorem dX4_status_54 : decode cX4_status 54 = .ok (.ireturn, 1) := by decide +kernel
theorem dX4_tell_0 : decode cX4_tell 0 = .ok (.ldc 63, 2) := by decide +kernel
theorem dX4_tell_2 : decode cX4_tell 2 = .ok (.iload_n 1, 1) := by decide +kernel
theorem dX4_tell_3 : decode cX4_tell 3 = .ok (.isub, 1) := by decide +kernel
theorem dX4_tell_4 : decode cX4_tell 4 = .ok (.istore_n 2, 1) := by decide +kernel
theorem dX4_tell_5 : decode cX4_tell 5 = .ok (.iload_n 2, 1) := by decide +kernel
theorem dX4_tell_6 : decode cX4_tell 6 = .ok (.iconst 0, 1) := by decide +kernel
theorem dX4_tell_7 : decode cX4_tell 7 = .ok (.bipush 6, 2) := by decide +kernel
theorem dX4_tell_9 : decode cX4_tell 9 = .ok (.invokestatic 55, 3) := by decide +kernel
theorem dX4_tell_12 : decode cX4_tell 12 = .ok (.ifCond .eq 13, 3) := by decide +kernel
theorem dX4_tell_15 : decode cX4_tell 15 = .ok (.aload_n 0, 1) := by decide +kernel
theorem dX4_tell_16 : decode cX4_tell 16 = .ok (.getfield 43, 3) := by decide +kernel
theorem dX4_tell_19 : decode cX4_tell 19 = .ok (.iload_n 2, 1) := by decide +kernel
theorem dX4_tell_20 : decode cX4_tell 20 = .ok (.dup2, 1) := by decide +kernel
theorem dX4_tell_21 : decode cX4_tell 21 = .ok (.iaload, 1) := by decide +kernel
theorem dX4_tell_22 : decode cX4_tell 22 = .ok (.iconst 1, 1) := by decide +kernel
theorem dX4_tell_23 : decode cX4_tell 23 = .ok (.iadd, 1) := by decide +kernel
theorem dX4_tell_24 : decode cX4_tell 24 = .ok (.iastore, 1) := by decide +kernel
theorem dX4_tell_25 : decode cX4_tell 25 = .ok (.iload_n 1, 1) := by decide +kernel
theorem dX4_tell_26 : decode cX4_tell 26 = .ok (.ireturn, 1) := by decide +kernel
theorem dX4_startTrial_0 : decode cX4_startTrial 0 = .ok (.aload_n 0, 1) := by decide +kernel
theorem dX4_startTrial_1 : decode cX4_startTrial 1 = .ok (.getfield 16, 3) := by decide +kernel
theorem dX4_startTrial_4 : decode cX4_startTrial 4 = .ok (.aload_n 0, 1) := by decide +kernel
theorem dX4_startTrial_5 : decode cX4_startTrial 5 = .ok (.getfield 10, 3) := by decide +kernel
theorem dX4_startTrial_8 : decode cX4_startTrial 8 = .ok (.invokevirtual 200, 3) := by decide +kernel
theorem dX4_startTrial_11 : decode cX4_startTrial 11 = .ok (.return_, 1) := by decide +kernel
theorem dX4_brightest_0 : decode cX4_brightest 0 = .ok (.iconst 0, 1) := by decide +kernel
theorem dX4_brightest_1 : decode cX4_brightest 1 = .ok (.istore 5, 2) := by decide +kernel
theorem dX4_brightest_3 : decode cX4_brightest 3 = .ok (.iconst (-1), 1) := by decide +kernel
theorem dX4_brightest_4 : decode cX4_brightest 4 = .ok (.istore 6, 2) := by decide +kernel
theorem dX4_brightest_6 : decode cX4_brightest 6 = .ok (.iconst 0, 1) := by decide +kernel
theorem dX4_brightest_7 : decode cX4_brightest 7 = .ok (.istore 7, 2) := by decide +kernel
theorem dX4_brightest_9 : decode cX4_brightest 9 = .ok (.iload 7, 2) := by decide +kernel
theorem dX4_brightest_11 : decode cX4_brightest 11 = .ok (.iload_n 2, 1) := by decide +kernel
theorem dX4_brightest_12 : decode cX4_brightest 12 = .ok (.if_icmp .ge 54, 3) := by decide +kernel
theorem dX4_brightest_15 : decode cX4_brightest 15 = .ok (.aload_n 0, 1) := by decide +kernel
theorem dX4_brightest_16 : decode cX4_brightest 16 = .ok (.invokevirtual 158, 3) := by decide +kernel
theorem dX4_brightest_19 : decode cX4_brightest 19 = .ok (.aload_n 0, 1) := by decide +kernel
theorem dX4_brightest_20 : decode cX4_brightest 20 = .ok (.iload_n 1, 1) := by decide +kernel
theorem dX4_brightest_21 : decode cX4_brightest 21 = .ok (.iload 7, 2) := by decide +kernel
theorem dX4_brightest_23 : decode cX4_brightest 23 = .ok (.iload_n 3, 1) := by decide +kernel
theorem dX4_brightest_24 : decode cX4_brightest 24 = .ok (.invokevirtual 260, 3) := by decide +kernel
theorem dX4_brightest_27 : decode cX4_brightest 27 = .ok (.aload_n 0, 1) := by decide +kernel
theorem dX4_brightest_28 : decode cX4_brightest 28 = .ok (.getfield 16, 3) := by decide +kernel
theorem dX4_brightest_31 : decode cX4_brightest 31 = .ok (.iload 4, 2) := by decide +kernel
theorem dX4_brightest_33 : decode cX4_brightest 33 = .ok (.invokevirtual 154, 3) := by decide +kernel
theorem dX4_brightest_36 : decode cX4_brightest 36 = .ok (.aload_n 0, 1) := by decide +kernel
theorem dX4_brightest_37 : decode cX4_brightest 37 = .ok (.getfield 16, 3) := by decide +kernel
theorem dX4_brightest_40 : decode cX4_brightest 40 = .ok (.invokevirtual 94, 3) := by decide +kernel
theorem dX4_brightest_43 : decode cX4_brightest 43 = .ok (.istore 8, 2) := by decide +kernel
theorem dX4_brightest_45 : decode cX4_brightest 45 = .ok (.iload 8, 2) := by decide +kernel
theorem dX4_brightest_47 : decode cX4_brightest 47 = .ok (.iload 6, 2) := by decide +kernel
theorem dX4_brightest_49 : decode cX4_brightest 49 = .ok (.if_icmp .le 11, 3) := by decide +kernel
theorem dX4_brightest_52 : decode cX4_brightest 52 = .ok (.iload 8, 2) := by decide +kernel
theorem dX4_brightest_54 : decode cX4_brightest 54 = .ok (.istore 6, 2) := by decide +kernel
theorem dX4_brightest_56 : decode cX4_brightest 56 = .ok (.iload 7, 2) := by decide +kernel
theorem dX4_brightest_58 : decode cX4_brightest 58 = .ok (.istore 5, 2) := by decide +kernel
theorem dX4_brightest_60 : decode cX4_brightest 60 = .ok (.iinc 7 1, 3) := by decide +kernel
theorem dX4_brightest_63 : decode cX4_brightest 63 = .ok (.goto (-54), 3) := by decide +kernel
theorem dX4_brightest_66 : decode cX4_brightest 66 = .ok (.iload 5, 2) := by decide +kernel
theorem dX4_brightest_68 : decode cX4_brightest 68 = .ok (.ireturn, 1) := by decide +kernel
theorem dX4_choose_0 : decode cX4_choose 0 = .ok (.iload_n 1, 1) := by decide +kernel
theorem dX4_choose_1 : decode cX4_choose 1 = .ok (.tableswitch 81 0 2 #[27, 41, 68], 27) := by decide +kernel
theorem dX4_choose_28 : decode cX4_choose 28 = .ok (.aload_n 0, 1) := by decide +kernel
theorem dX4_choose_29 : decode cX4_choose 29 = .ok (.getfield 16, 3) := by decide +kernel
theorem dX4_choose_32 : decode cX4_choose 32 = .ok (.getfield 123, 3) := by decide +kernel
theorem dX4_choose_35 : decode cX4_choose 35 = .ok (.iload_n 2, 1) := by decide +kernel
theorem dX4_choose_36 : decode cX4_choose 36 = .ok (.bipush 99, 2) := by decide +kernel
theorem dX4_choose_38 : decode cX4_choose 38 = .ok (.iastore, 1) := by decide +kernel
theorem dX4_choose_39 : decode cX4_choose 39 = .ok (.goto 63, 3) := by decide +kernel
theorem dX4_choose_42 : decode cX4_choose 42 = .ok (.aload_n 0, 1) := by decide +kernel
theorem dX4_choose_43 : decode cX4_choose 43 = .ok (.getfield 16, 3) := by decide +kernel
theorem dX4_choose_46 : decode cX4_choose 46 = .ok (.getfield 114, 3) := by decide +kernel
theorem dX4_choose_49 : decode cX4_choose 49 = .ok (.iload_n 3, 1) := by decide +kernel
theorem dX4_choose_50 : decode cX4_choose 50 = .ok (.iload_n 2, 1) := by decide +kernel
theorem dX4_choose_51 : decode cX4_choose 51 = .ok (.iconst 2, 1) := by decide +kernel
theorem dX4_choose_52 : decode cX4_choose 52 = .ok (.idiv, 1) := by decide +kernel
theorem dX4_choose_53 : decode cX4_choose 53 = .ok (.iastore, 1) := by decide +kernel
theorem dX4_choose_54 : decode cX4_choose 54 = .ok (.aload_n 0, 1) := by decide +kernel
theorem dX4_choose_55 : decode cX4_choose 55 = .ok (.getfield 16, 3) := by decide +kernel
theorem dX4_choose_58 : decode cX4_choose 58 = .ok (.getfield 117, 3) := by decide +kernel
theorem dX4_choose_61 : decode cX4_choose 61 = .ok (.iload_n 3, 1) := by decide +kernel
theorem dX4_choose_62 : decode cX4_choose 62 = .ok (.iload_n 2, 1) := by decide +kernel
theorem dX4_choose_63 : decode cX4_choose 63 = .ok (.iconst 2, 1) := by decide +kernel
theorem dX4_choose_64 : decode cX4_choose 64 = .ok (.irem, 1) := by decide +kernel
theorem dX4_choose_65 : decode cX4_choose 65 = .ok (.iastore, 1) := by decide +kernel
theorem dX4_choose_66 : decode cX4_choose 66 = .ok (.goto 36, 3) := by decide +kernel
theorem dX4_choose_69 : decode cX4_choose 69 = .ok (.aload_n 0, 1) := by decide +kernel
theorem dX4_choose_70 : decode cX4_choose 70 = .ok (.getfield 16, 3) := by decide +kernel
theorem dX4_choose_73 : decode cX4_choose 73 = .ok (.getfield 111, 3) := by decide +kernel
theorem dX4_choose_76 : decode cX4_choose 76 = .ok (.iload_n 3, 1) := by decide +kernel
theorem dX4_choose_77 : decode cX4_choose 77 = .ok (.iload_n 2, 1) := by decide +kernel
theorem dX4_choose_78 : decode cX4_choose 78 = .ok (.iastore, 1) := by decide +kernel
theorem dX4_choose_79 : decode cX4_choose 79 = .ok (.goto 23, 3) := by decide +kernel
theorem dX4_choose_82 : decode cX4_choose 82 = .ok (.aload_n 0, 1) := by decide +kernel
theorem dX4_choose_83 : decode cX4_choose 83 = .ok (.getfield 16, 3) := by decide +kernel
theorem dX4_choose_86 : decode cX4_choose 86 = .ok (.getfield 263, 3) := by decide +kernel
theorem dX4_choose_89 : decode cX4_choose 89 = .ok (.iload_n 2, 1) := by decide +kernel
theorem dX4_choose_90 : decode cX4_choose 90 = .ok (.iconst 1, 1) := by decide +kernel
theorem dX4_choose_91 : decode cX4_choose 91 = .ok (.aload_n 0, 1) := by decide +kernel
theorem dX4_choose_92 : decode cX4_choose 92 = .ok (.getfield 16, 3) := by decide +kernel
theorem dX4_choose_95 : decode cX4_choose 95 = .ok (.getfield 263, 3) := by decide +kernel
theorem dX4_choose_98 : decode cX4_choose 98 = .ok (.iload_n 2, 1) := by decide +kernel
theorem dX4_choose_99 : decode cX4_choose 99 = .ok (.iaload, 1) := by decide +kernel
theorem dX4_choose_100 : decode cX4_choose 100 = .ok (.isub, 1) := by decide +kernel
theorem dX4_choose_101 : decode cX4_choose 101 = .ok (.iastore, 1) := by decide +kernel
theorem dX4_choose_102 : decode cX4_choose 102 = .ok (.return_, 1) := by decide +kernel
theorem dX4_ticklesJustSo_0 : decode cX4_ticklesJustSo 0 = .ok (.aload_n 0, 1) := by decide +kernel
theorem dX4_ticklesJustSo_1 : decode cX4_ticklesJustSo 1 = .ok (.invokevirtual 158, 3) := by decide +kernel
theorem dX4_ticklesJustSo_4 : decode cX4_ticklesJustSo 4 = .ok (.aload_n 0, 1) := by decide +kernel
theorem dX4_ticklesJustSo_5 : decode cX4_ticklesJustSo 5 = .ok (.getfield 16, 3) := by decide +kernel
theorem dX4_ticklesJustSo_8 : decode cX4_ticklesJustSo 8 = .ok (.getfield 111, 3) := by decide +kernel
theorem dX4_ticklesJustSo_11 : decode cX4_ticklesJustSo 11 = .ok (.iload_n 2, 1) := by decide +kernel
theorem dX4_ticklesJustSo_12 : decode cX4_ticklesJustSo 12 = .ok (.iload_n 3, 1) := by decide +kernel
theorem dX4_ticklesJustSo_13 : decode cX4_ticklesJustSo 13 = .ok (.iastore, 1) := by decide +kernel
theorem dX4_ticklesJustSo_14 : decode cX4_ticklesJustSo 14 = .ok (.aload_n 0, 1) := by decide +kernel
theorem dX4_ticklesJustSo_15 : decode cX4_ticklesJustSo 15 = .ok (.getfield 16, 3) := by decide +kernel
theorem dX4_ticklesJustSo_18 : decode cX4_ticklesJustSo 18 = .ok (.getfield 120, 3) := by decide +kernel
theorem dX4_ticklesJustSo_21 : decode cX4_ticklesJustSo 21 = .ok (.iload_n 2, 1) := by decide +kernel
theorem dX4_ticklesJustSo_22 : decode cX4_ticklesJustSo 22 = .ok (.iload 4, 2) := by decide +kernel
theorem dX4_ticklesJustSo_24 : decode cX4_ticklesJustSo 24 = .ok (.iastore, 1) := by decide +kernel
theorem dX4_ticklesJustSo_25 : decode cX4_ticklesJustSo 25 = .ok (.iconst 0, 1) := by decide +kernel
theorem dX4_ticklesJustSo_26 : decode cX4_ticklesJustSo 26 = .ok (.istore 5, 2) := by decide +kernel
theorem dX4_ticklesJustSo_28 : decode cX4_ticklesJustSo 28 = .ok (.iload 5, 2) := by decide +kernel
theorem dX4_ticklesJustSo_30 : decode cX4_ticklesJustSo 30 = .ok (.aload_n 0, 1) := by decide +kernel
theorem dX4_ticklesJustSo_31 : decode cX4_ticklesJustSo 31 = .ok (.getfield 39, 3) := by decide +kernel
theorem dX4_ticklesJustSo_34 : decode cX4_ticklesJustSo 34 = .ok (.getfield 222, 3) := by decide +kernel
theorem dX4_ticklesJustSo_37 : decode cX4_ticklesJustSo 37 = .ok (.iload_n 1, 1) := by decide +kernel
theorem dX4_ticklesJustSo_38 : decode cX4_ticklesJustSo 38 = .ok (.iaload, 1) := by decide +kernel
theorem dX4_ticklesJustSo_39 : decode cX4_ticklesJustSo 39 = .ok (.if_icmp .ge 42, 3) := by decide +kernel
theorem dX4_ticklesJustSo_42 : decode cX4_ticklesJustSo 42 = .ok (.aload_n 0, 1) := by decide +kernel
theorem dX4_ticklesJustSo_43 : decode cX4_ticklesJustSo 43 = .ok (.getfield 39, 3) := by decide +kernel
theorem dX4_ticklesJustSo_46 : decode cX4_ticklesJustSo 46 = .ok (.iload_n 1, 1) := by decide +kernel
theorem dX4_ticklesJustSo_47 : decode cX4_ticklesJustSo 47 = .ok (.iload 5, 2) := by decide +kernel
theorem dX4_ticklesJustSo_49 : decode cX4_ticklesJustSo 49 = .ok (.invokevirtual 225, 3) := by decide +kernel
theorem dX4_ticklesJustSo_52 : decode cX4_ticklesJustSo 52 = .ok (.aload_n 0, 1) := by decide +kernel
theorem dX4_ticklesJustSo_53 : decode cX4_ticklesJustSo 53 = .ok (.getfield 16, 3) := by decide +kernel
theorem dX4_ticklesJustSo_56 : decode cX4_ticklesJustSo 56 = .ok (.getfield 123, 3) := by decide +kernel
theorem dX4_ticklesJustSo_59 : decode cX4_ticklesJustSo 59 = .ok (.iload_n 2, 1) := by decide +kernel
theorem dX4_ticklesJustSo_60 : decode cX4_ticklesJustSo 60 = .ok (.iaload, 1) := by decide +kernel
theorem dX4_ticklesJustSo_61 : decode cX4_ticklesJustSo 61 = .ok (.i2l, 1) := by decide +kernel
theorem dX4_ticklesJustSo_62 : decode cX4_ticklesJustSo 62 = .ok (.lcmp, 1) := by decide +kernel
theorem dX4_ticklesJustSo_63 : decode cX4_ticklesJustSo 63 = .ok (.ifCond .eq 5, 3) := by decide +kernel
theorem dX4_ticklesJustSo_66 : decode cX4_ticklesJustSo 66 = .ok (.iconst 0, 1) := by decide +kernel
theorem dX4_ticklesJustSo_67 : decode cX4_ticklesJustSo 67 = .ok (.ireturn, 1) := by decide +kernel
theorem dX4_ticklesJustSo_68 : decode cX4_ticklesJustSo 68 = .ok (.aload_n 0, 1) := by decide +kernel
theorem dX4_ticklesJustSo_69 : decode cX4_ticklesJustSo 69 = .ok (.getfield 16, 3) := by decide +kernel
theorem dX4_ticklesJustSo_72 : decode cX4_ticklesJustSo 72 = .ok (.invokevirtual 170, 3) := by decide +kernel
theorem dX4_ticklesJustSo_75 : decode cX4_ticklesJustSo 75 = .ok (.iinc 5 1, 3) := by decide +kernel
theorem dX4_ticklesJustSo_78 : decode cX4_ticklesJustSo 78 = .ok (.goto (-50), 3) := by decide +kernel
theorem dX4_ticklesJustSo_81 : decode cX4_ticklesJustSo 81 = .ok (.iconst 1, 1) := by decide +kernel
theorem dX4_ticklesJustSo_82 : decode cX4_ticklesJustSo 82 = .ok (.ireturn, 1) := by decide +kernel
theorem dX4_isThere_0 : decode cX4_isThere 0 = .ok (.iload_n 1, 1) := by decide +kernel
theorem dX4_isThere_1 : decode cX4_isThere 1 = .ok (.iconst 0, 1) := by decide +kernel
theorem dX4_isThere_2 : decode cX4_isThere 2 = .ok (.aload_n 0, 1) := by decide +kernel
theorem dX4_isThere_3 : decode cX4_isThere 3 = .ok (.getfield 10, 3) := by decide +kernel
theorem dX4_isThere_6 : decode cX4_isThere 6 = .ok (.getfield 100, 3) := by decide +kernel
theorem dX4_isThere_9 : decode cX4_isThere 9 = .ok (.iconst 1, 1) := by decide +kernel
theorem dX4_isThere_10 : decode cX4_isThere 10 = .ok (.isub, 1) := by decide +kernel
theorem dX4_isThere_11 : decode cX4_isThere 11 = .ok (.invokestatic 55, 3) := by decide +kernel
theorem dX4_isThere_14 : decode cX4_isThere 14 = .ok (.ireturn, 1) := by decide +kernel
theorem dX4_within_0 : decode cX4_within 0 = .ok (.iload_n 0, 1) := by decide +kernel
theorem dX4_within_1 : decode cX4_within 1 = .ok (.iload_n 1, 1) := by decide +kernel
theorem dX4_within_2 : decode cX4_within 2 = .ok (.if_icmp .lt 12, 3) := by decide +kernel
theorem dX4_within_5 : decode cX4_within 5 = .ok (.iload_n 0, 1) := by decide +kernel
theorem dX4_within_6 : decode cX4_within 6 = .ok (.iload_n 2, 1) := by decide +kernel
theorem dX4_within_7 : decode cX4_within 7 = .ok (.if_icmp .gt 7, 3) := by decide +kernel
theorem dX4_within_10 : decode cX4_within 10 = .ok (.iconst 1, 1) := by decide +kernel
theorem dX4_within_11 : decode cX4_within 11 = .ok (.goto 4, 3) := by decide +kernel
theorem dX4_within_14 : decode cX4_within 14 = .ok (.iconst 0, 1) := by decide +kernel
theorem dX4_within_15 : decode cX4_within 15 = .ok (.ireturn, 1) := by decide +kernel
theorem dX4_isHouse_0 : decode cX4_isHouse 0 = .ok (.iload_n 0, 1) := by decide +kernel
theorem dX4_isHouse_1 : decode cX4_isHouse 1 = .ok (.ifCond .lt 13, 3) := by decide +kernel
theorem dX4_isHouse_4 : decode cX4_isHouse 4 = .ok (.iload_n 0, 1) := by decide +kernel
theorem dX4_isHouse_5 : decode cX4_isHouse 5 = .ok (.bipush 12, 2) := by decide +kernel
theorem dX4_isHouse_7 : decode cX4_isHouse 7 = .ok (.if_icmp .ge 7, 3) := by decide +kernel
theorem dX4_isHouse_10 : decode cX4_isHouse 10 = .ok (.iconst 1, 1) := by decide +kernel
theorem dX4_isHouse_11 : decode cX4_isHouse 11 = .ok (.goto 4, 3) := by decide +kernel
theorem dX4_isHouse_14 : decode cX4_isHouse 14 = .ok (.iconst 0, 1) := by decide +kernel
theorem dX4_isHouse_15 : decode cX4_isHouse 15 = .ok (.ireturn, 1) := by decide +kernel
theorem dX4_isKind_0 : decode cX4_isKind 0 = .ok (.iload_n 0, 1) := by decide +kernel
theorem dX4_isKind_1 : decode cX4_isKind 1 = .ok (.iconst 0, 1) := by decide +kernel
theorem dX4_isKind_2 : decode cX4_isKind 2 = .ok (.iconst 5, 1) := by decide +kernel
theorem dX4_isKind_3 : decode cX4_isKind 3 = .ok (.invokestatic 55, 3) := by decide +kernel
theorem dX4_isKind_6 : decode cX4_isKind 6 = .ok (.ireturn, 1) := by decide +kernel
theorem dX4_isSheet_0 : decode cX4_isSheet 0 = .ok (.iload_n 0, 1) := by decide +kernel
theorem dX4_isSheet_1 : decode cX4_isSheet 1 = .ok (.iconst 0, 1) := by decide +kernel
theorem dX4_isSheet_2 : decode cX4_isSheet 2 = .ok (.iconst 3, 1) := by decide +kernel
theorem dX4_isSheet_3 : decode cX4_isSheet 3 = .ok (.invokestatic 55, 3) := by decide +kernel
theorem dX4_isSheet_6 : decode cX4_isSheet 6 = .ok (.ireturn, 1) := by decide +kernel
theorem dX4_isWidth_0 : decode cX4_isWidth 0 = .ok (.iload_n 0, 1) := by decide +kernel
theorem dX4_isWidth_1 : decode cX4_isWidth 1 = .ok (.ifCond .eq 21, 3) := by decide +kernel
theorem dX4_isWidth_4 : decode cX4_isWidth 4 = .ok (.iload_n 0, 1) := by decide +kernel
theorem dX4_isWidth_5 : decode cX4_isWidth 5 = .ok (.bipush 8, 2) := by decide +kernel
theorem dX4_isWidth_7 : decode cX4_isWidth 7 = .ok (.if_icmp .eq 15, 3) := by decide +kernel
theorem dX4_isWidth_10 : decode cX4_isWidth 10 = .ok (.iload_n 0, 1) := by decide +kernel
theorem dX4_isWidth_11 : decode cX4_isWidth 11 = .ok (.bipush 16, 2) := by decide +kernel
theorem dX4_isWidth_13 : decode cX4_isWidth 13 = .ok (.if_icmp .eq 9, 3) := by decide +kernel
theorem dX4_isWidth_16 : decode cX4_isWidth 16 = .ok (.iload_n 0, 1) := by decide +kernel
theorem dX4_isWidth_17 : decode cX4_isWidth 17 = .ok (.bipush 64, 2) := by decide +kernel
theorem dX4_isWidth_19 : decode cX4_isWidth 19 = .ok (.if_icmp .ne 7, 3) := by decide +kernel
theorem dX4_isWidth_22 : decode cX4_isWidth 22 = .ok (.iconst 1, 1) := by decide +kernel
theorem dX4_isWidth_23 : decode cX4_isWidth 23 = .ok (.goto 4, 3) := by decide +kernel
theorem dX4_isWidth_26 : decode cX4_isWidth 26 = .ok (.iconst 0, 1) := by decide +kernel
theorem dX4_isWidth_27 : decode cX4_isWidth 27 = .ok (.ireturn, 1) := by decide +kernel
theorem dX4_isIn_0 : decode cX4_isIn 0 = .ok (.iload_n 0, 1) := by decide +kernel
theorem dX4_isIn_1 : decode cX4_isIn 1 = .ok (.iload_n 1, 1) := by decide +kernel
theorem dX4_isIn_2 : decode cX4_isIn 2 = .ok (.ishr, 1) := by decide +kernel
theorem dX4_isIn_3 : decode cX4_isIn 3 = .ok (.iconst 1, 1) := by decide +kernel
theorem dX4_isIn_4 : decode cX4_isIn 4 = .ok (.iand, 1) := by decide +kernel
theorem dX4_isIn_5 : decode cX4_isIn 5 = .ok (.iconst 1, 1) := by decide +kernel
theorem dX4_isIn_6 : decode cX4_isIn 6 = .ok (.if_icmp .ne 7, 3) := by decide +kernel
theorem dX4_isIn_9 : decode cX4_isIn 9 = .ok (.iconst 1, 1) := by decide +kernel
theorem dX4_isIn_10 : decode cX4_isIn 10 = .ok (.goto 4, 3) := by decide +kernel
theorem dX4_isIn_13 : decode cX4_isIn 13 = .ok (.iconst 0, 1) := by decide +kernel
theorem dX4_isIn_14 : decode cX4_isIn 14 = .ok (.ireturn, 1) := by decide +kernel
theorem dX4_isUnder_0 : decode cX4_isUnder 0 = .ok (.iload_n 0, 1) := by decide +kernel
theorem dX4_isUnder_1 : decode cX4_isUnder 1 = .ok (.iload_n 1, 1) := by decide +kernel
theorem dX4_isUnder_2 : decode cX4_isUnder 2 = .ok (.if_icmp .eq 27, 3) := by decide +kernel
theorem dX4_isUnder_5 : decode cX4_isUnder 5 = .ok (.iload_n 1, 1) := by decide +kernel
theorem dX4_isUnder_6 : decode cX4_isUnder 6 = .ok (.ifCond .eq 23, 3) := by decide +kernel
theorem dX4_isUnder_9 : decode cX4_isUnder 9 = .ok (.iload_n 0, 1) := by decide +kernel
theorem dX4_isUnder_10 : decode cX4_isUnder 10 = .ok (.iconst 4, 1) := by decide +kernel
theorem dX4_isUnder_11 : decode cX4_isUnder 11 = .ok (.if_icmp .ne 8, 3) := by decide +kernel
theorem dX4_isUnder_14 : decode cX4_isUnder 14 = .ok (.iload_n 1, 1) := by decide +kernel
theorem dX4_isUnder_15 : decode cX4_isUnder 15 = .ok (.iconst 1, 1) := by decide +kernel
theorem dX4_isUnder_16 : decode cX4_isUnder 16 = .ok (.if_icmp .eq 13, 3) := by decide +kernel
theorem dX4_isUnder_19 : decode cX4_isUnder 19 = .ok (.iload_n 0, 1) := by decide +kernel
theorem dX4_isUnder_20 : decode cX4_isUnder 20 = .ok (.iconst 5, 1) := by decide +kernel
theorem dX4_isUnder_21 : decode cX4_isUnder 21 = .ok (.if_icmp .ne 12, 3) := by decide +kernel
theorem dX4_isUnder_24 : decode cX4_isUnder 24 = .ok (.iload_n 1, 1) := by decide +kernel
theorem dX4_isUnder_25 : decode cX4_isUnder 25 = .ok (.iconst 2, 1) := by decide +kernel
theorem dX4_isUnder_26 : decode cX4_isUnder 26 = .ok (.if_icmp .ne 7, 3) := by decide +kernel
theorem dX4_isUnder_29 : decode cX4_isUnder 29 = .ok (.iconst 1, 1) := by decide +kernel
theorem dX4_isUnder_30 : decode cX4_isUnder 30 = .ok (.goto 4, 3) := by decide +kernel
theorem dX4_isUnder_33 : decode cX4_isUnder 33 = .ok (.iconst 0, 1) := by decide +kernel
theorem dX4_isUnder_34 : decode cX4_isUnder 34 = .ok (.ireturn, 1) := by decide +kernel
theorem dX4_mostOfHouse_0 : decode cX4_mostOfHouse 0 = .ok (.iload_n 0, 1) := by decide +kernel
theorem dX4_mostOfHouse_1 : decode cX4_mostOfHouse 1 = .ok (.lookupswitch 32 #[(0, 27), (1, 30)], 27) := by decide +kernel
theorem dX4_mostOfHouse_28 : decode cX4_mostOfHouse 28 = .ok (.bipush 99, 2) := by decide +kernel
theorem dX4_mostOfHouse_30 : decode cX4_mostOfHouse 30 = .ok (.ireturn, 1) := by decide +kernel
theorem dX4_mostOfHouse_31 : decode cX4_mostOfHouse 31 = .ok (.iconst 1, 1) := by decide +kernel
theorem dX4_mostOfHouse_32 : decode cX4_mostOfHouse 32 = .ok (.ireturn, 1) := by decide +kernel
theorem dX4_mostOfHouse_33 : decode cX4_mostOfHouse 33 = .ok (.sipush 9999, 3) := by decide +kernel
theorem dX4_mostOfHouse_36 : decode cX4_mostOfHouse 36 = .ok (.ireturn, 1) := by decide +kernel
theorem dX4_mostOfSneezer_0 : decode cX4_mostOfSneezer 0 = .ok (.iload_n 0, 1) := by decide +kernel
theorem dX4_mostOfSneezer_1 : decode cX4_mostOfSneezer 1 = .ok (.tableswitch 44 1 5 #[35, 38, 44, 44, 40], 35) := by decide +kernel
theorem dX4_mostOfSneezer_36 : decode cX4_mostOfSneezer 36 = .ok (.bipush 11, 2) := by decide +kernel
theorem dX4_mostOfSneezer_38 : decode cX4_mostOfSneezer 38 = .ok (.ireturn, 1) := by decide +kernel
theorem dX4_mostOfSneezer_39 : decode cX4_mostOfSneezer 39 = .ok (.iconst 1, 1) := by decide +kernel
theorem dX4_mostOfSneezer_40 : decode cX4_mostOfSneezer 40 = .ok (.ireturn, 1) := by decide +kernel
theorem dX4_mostOfSneezer_41 : decode cX4_mostOfSneezer 41 = .ok (.sipush 9999, 3) := by decide +kernel
theorem dX4_mostOfSneezer_44 : decode cX4_mostOfSneezer 44 = .ok (.ireturn, 1) := by decide +kernel
theorem dX4_mostOfSneezer_45 : decode cX4_mostOfSneezer 45 = .ok (.bipush 99, 2) := by decide +kernel
theorem dX4_mostOfSneezer_47 : decode cX4_mostOfSneezer 47 = .ok (.ireturn, 1) := by decide +kernel
theorem dX5_init_0 : decode cX5_init 0 = .ok (.aload_n 0, 1) := by decide +kernel
theorem dX5_init_1 : decode cX5_init 1 = .ok (.invokespecial 1, 3) := by decide +kernel
theorem dX5_init_4 : decode cX5_init 4 = .ok (.aload_n 0, 1) := by decide +kernel
theorem dX5_init_5 : decode cX5_init 5 = .ok (.bipush 87, 2) := by decide +kernel
theorem dX5_init_7 : decode cX5_init 7 = .ok (.newarray .int, 2) := by decide +kernel
theorem dX5_init_9 : decode cX5_init 9 = .ok (.putfield 7, 3) := by decide +kernel
theorem dX5_init_12 : decode cX5_init 12 = .ok (.aload_n 0, 1) := by decide +kernel
theorem dX5_init_13 : decode cX5_init 13 = .ok (.bipush 7, 2) := by decide +kernel
theorem dX5_init_15 : decode cX5_init 15 = .ok (.newarray .int, 2) := by decide +kernel
theorem dX5_init_17 : decode cX5_init 17 = .ok (.putfield 13, 3) := by decide +kernel
theorem dX5_init_20 : decode cX5_init 20 = .ok (.aload_n 0, 1) := by decide +kernel
theorem dX5_init_21 : decode cX5_init 21 = .ok (.bipush 87, 2) := by decide +kernel
theorem dX5_init_23 : decode cX5_init 23 = .ok (.newarray .int, 2) := by decide +kernel
theorem dX5_init_25 : decode cX5_init 25 = .ok (.putfield 16, 3) := by decide +kernel
theorem dX5_init_28 : decode cX5_init 28 = .ok (.aload_n 0, 1) := by decide +kernel
theorem dX5_init_29 : decode cX5_init 29 = .ok (.bipush 87, 2) := by decide +kernel
theorem dX5_init_31 : decode cX5_init 31 = .ok (.newarray .int, 2) := by decide +kernel
theorem dX5_init_33 : decode cX5_init 33 = .ok (.putfield 19, 3) := by decide +kernel
theorem dX5_init_36 : decode cX5_init 36 = .ok (.aload_n 0, 1) := by decide +kernel
theorem dX5_init_37 : decode cX5_init 37 = .ok (.bipush 120, 2) := by decide +kernel
theorem dX5_init_39 : decode cX5_init 39 = .ok (.newarray .int, 2) := by decide +kernel
theorem dX5_init_41 : decode cX5_init 41 = .ok (.putfield 22, 3) := by decide +kernel
theorem dX5_init_44 : decode cX5_init 44 = .ok (.aload_n 0, 1) := by decide +kernel
theorem dX5_init_45 : decode cX5_init 45 = .ok (.iconst 4, 1) := by decide +kernel
theorem dX5_init_46 : decode cX5_init 46 = .ok (.newarray .int, 2) := by decide +kernel
theorem dX5_init_48 : decode cX5_init 48 = .ok (.putfield 25, 3) := by decide +kernel
theorem dX5_init_51 : decode cX5_init 51 = .ok (.aload_n 0, 1) := by decide +kernel
theorem dX5_init_52 : decode cX5_init 52 = .ok (.iconst 4, 1) := by decide +kernel
theorem dX5_init_53 : decode cX5_init 53 = .ok (.newarray .int, 2) := by decide +kernel
theorem dX5_init_55 : decode cX5_init 55 = .ok (.putfield 28, 3) := by decide +kernel
theorem dX5_init_58 : decode cX5_init 58 = .ok (.aload_n 0, 1) := by decide +kernel
theorem dX5_init_59 : decode cX5_init 59 = .ok (.sipush 160, 3) := by decide +kernel
theorem dX5_init_62 : decode cX5_init 62 = .ok (.newarray .long, 2) := by decide +kernel
theorem dX5_init_64 : decode cX5_init 64 = .ok (.putfield 31, 3) := by decide +kernel
theorem dX5_init_67 : decode cX5_init 67 = .ok (.aload_n 0, 1) := by decide +kernel
theorem dX5_init_68 : decode cX5_init 68 = .ok (.bipush 40, 2) := by decide +kernel
theorem dX5_init_70 : decode cX5_init 70 = .ok (.newarray .long, 2) := by decide +kernel
theorem dX5_init_72 : decode cX5_init 72 = .ok (.putfield 35, 3) := by decide +kernel
theorem dX5_init_75 : decode cX5_init 75 = .ok (.aload_n 0, 1) := by decide +kernel
theorem dX5_init_76 : decode cX5_init 76 = .ok (.bipush 87, 2) := by decide +kernel
theorem dX5_init_78 : decode cX5_init 78 = .ok (.newarray .int, 2) := by decide +kernel
theorem dX5_init_80 : decode cX5_init 80 = .ok (.putfield 38, 3) := by decide +kernel
theorem dX5_init_83 : decode cX5_init 83 = .ok (.aload_n 0, 1) := by decide +kernel
theorem dX5_init_84 : decode cX5_init 84 = .ok (.bipush 87, 2) := by decide +kernel
theorem dX5_init_86 : decode cX5_init 86 = .ok (.newarray .int, 2) := by decide +kernel
theorem dX5_init_88 : decode cX5_init 88 = .ok (.putfield 41, 3) := by decide +kernel
theorem dX5_init_91 : decode cX5_init 91 = .ok (.aload_n 0, 1) := by decide +kernel
theorem dX5_init_92 : decode cX5_init 92 = .ok (.getfield 7, 3) := by decide +kernel
theorem dX5_init_95 : decode cX5_init 95 = .ok (.iconst 1, 1) := by decide +kernel
theorem dX5_init_96 : decode cX5_init 96 = .ok (.iconst 2, 1) := by decide +kernel
theorem dX5_init_97 : decode cX5_init 97 = .ok (.iastore, 1) := by decide +kernel
end
section
theorem dX5_init_98 : decode cX5_init 98 = .ok (.iconst 0, 1) := by decide +kernel
theorem dX5_init_99 : decode cX5_init 99 = .ok (.istore_n 1, 1) := by decide +kernel
theorem dX5_init_100 : decode cX5_init 100 = .ok (.iload_n 1, 1) := by decide +kernel
theorem dX5_init_101 : decode cX5_init 101 = .ok (.bipush 12, 2) := by decide +kernel
theorem dX5_init_103 : decode cX5_init 103 = .ok (.if_icmp .ge 22, 3) := by decide +kernel
theorem dX5_init_106 : decode cX5_init 106 = .ok (.aload_n 0, 1) := by decide +kernel
theorem dX5_init_107 : decode cX5_init 107 = .ok (.getfield 7, 3) := by decide +kernel
theorem dX5_init_110 : decode cX5_init 110 = .ok (.iconst 3, 1) := by decide +kernel
theorem dX5_init_111 : decode cX5_init 111 = .ok (.iconst 3, 1) := by decide +kernel
theorem dX5_init_112 : decode cX5_init 112 = .ok (.iload_n 1, 1) := by decide +kernel
theorem dX5_init_113 : decode cX5_init 113 = .ok (.imul, 1) := by decide +kernel
theorem dX5_init_114 : decode cX5_init 114 = .ok (.iadd, 1) := by decide +kernel
theorem dX5_init_115 : decode cX5_init 115 = .ok (.iconst 1, 1) := by decide +kernel
theorem dX5_init_116 : decode cX5_init 116 = .ok (.iadd, 1) := by decide +kernel
theorem dX5_init_117 : decode cX5_init 117 = .ok (.iconst 1, 1) := by decide +kernel
theorem dX5_init_118 : decode cX5_init 118 = .ok (.iastore, 1) := by decide +kernel
theorem dX5_init_119 : decode cX5_init 119 = .ok (.iinc 1 1, 3) := by decide +kernel
theorem dX5_init_122 : decode cX5_init 122 = .ok (.goto (-22), 3) := by decide +kernel
theorem dX5_init_125 : decode cX5_init 125 = .ok (.return_, 1) := by decide +kernel
theorem dX5_in_0 : decode cX5_in 0 = .ok (.iload_n 0, 1) := by decide +kernel
theorem dX5_in_1 : decode cX5_in 1 = .ok (.iload_n 1, 1) := by decide +kernel
theorem dX5_in_2 : decode cX5_in 2 = .ok (.if_icmp .lt 12, 3) := by decide +kernel
theorem dX5_in_5 : decode cX5_in 5 = .ok (.iload_n 0, 1) := by decide +kernel
theorem dX5_in_6 : decode cX5_in 6 = .ok (.iload_n 2, 1) := by decide +kernel
theorem dX5_in_7 : decode cX5_in 7 = .ok (.if_icmp .gt 7, 3) := by decide +kernel
theorem dX5_in_10 : decode cX5_in 10 = .ok (.iconst 1, 1) := by decide +kernel
theorem dX5_in_11 : decode cX5_in 11 = .ok (.goto 4, 3) := by decide +kernel
theorem dX5_in_14 : decode cX5_in 14 = .ok (.iconst 0, 1) := by decide +kernel
theorem dX5_in_15 : decode cX5_in 15 = .ok (.ireturn, 1) := by decide +kernel
theorem dX5_finds_0 : decode cX5_finds 0 = .ok (.aload_n 0, 1) := by decide +kernel
theorem dX5_finds_1 : decode cX5_finds 1 = .ok (.getfield 13, 3) := by decide +kernel
theorem dX5_finds_4 : decode cX5_finds 4 = .ok (.ldc 44, 2) := by decide +kernel
theorem dX5_finds_6 : decode cX5_finds 6 = .ok (.iload_n 1, 1) := by decide +kernel
theorem dX5_finds_7 : decode cX5_finds 7 = .ok (.isub, 1) := by decide +kernel
theorem dX5_finds_8 : decode cX5_finds 8 = .ok (.dup2, 1) := by decide +kernel
theorem dX5_finds_9 : decode cX5_finds 9 = .ok (.iaload, 1) := by decide +kernel
theorem dX5_finds_10 : decode cX5_finds 10 = .ok (.iconst 1, 1) := by decide +kernel
theorem dX5_finds_11 : decode cX5_finds 11 = .ok (.iadd, 1) := by decide +kernel
theorem dX5_finds_12 : decode cX5_finds 12 = .ok (.iastore, 1) := by decide +kernel
theorem dX5_finds_13 : decode cX5_finds 13 = .ok (.iload_n 1, 1) := by decide +kernel
theorem dX5_finds_14 : decode cX5_finds 14 = .ok (.ireturn, 1) := by decide +kernel
theorem dX5_held_0 : decode cX5_held 0 = .ok (.iload_n 0, 1) := by decide +kernel
theorem dX5_held_1 : decode cX5_held 1 = .ok (.iload_n 1, 1) := by decide +kernel
theorem dX5_held_2 : decode cX5_held 2 = .ok (.if_icmp .ge 7, 3) := by decide +kernel
theorem dX5_held_5 : decode cX5_held 5 = .ok (.iload_n 1, 1) := by decide +kernel
theorem dX5_held_6 : decode cX5_held 6 = .ok (.goto 13, 3) := by decide +kernel
theorem dX5_held_9 : decode cX5_held 9 = .ok (.iload_n 0, 1) := by decide +kernel
theorem dX5_held_10 : decode cX5_held 10 = .ok (.iload_n 2, 1) := by decide +kernel
theorem dX5_held_11 : decode cX5_held 11 = .ok (.if_icmp .le 7, 3) := by decide +kernel
theorem dX5_held_14 : decode cX5_held 14 = .ok (.iload_n 2, 1) := by decide +kernel
theorem dX5_held_15 : decode cX5_held 15 = .ok (.goto 4, 3) := by decide +kernel
theorem dX5_held_18 : decode cX5_held 18 = .ok (.iload_n 0, 1) := by decide +kernel
theorem dX5_held_19 : decode cX5_held 19 = .ok (.ireturn, 1) := by decide +kernel
theorem dX5_its_0 : decode cX5_its 0 = .ok (.aload_n 0, 1) := by decide +kernel
theorem dX5_its_1 : decode cX5_its 1 = .ok (.getfield 7, 3) := by decide +kernel
theorem dX5_its_4 : decode cX5_its 4 = .ok (.bipush 39, 2) := by decide +kernel
theorem dX5_its_6 : decode cX5_its 6 = .ok (.bipush 6, 2) := by decide +kernel
theorem dX5_its_8 : decode cX5_its 8 = .ok (.iload_n 1, 1) := by decide +kernel
theorem dX5_its_9 : decode cX5_its 9 = .ok (.imul, 1) := by decide +kernel
theorem dX5_its_10 : decode cX5_its 10 = .ok (.iadd, 1) := by decide +kernel
theorem dX5_its_11 : decode cX5_its 11 = .ok (.iload_n 2, 1) := by decide +kernel
theorem dX5_its_12 : decode cX5_its 12 = .ok (.iadd, 1) := by decide +kernel
theorem dX5_its_13 : decode cX5_its 13 = .ok (.iaload, 1) := by decide +kernel
theorem dX5_its_14 : decode cX5_its 14 = .ok (.ireturn, 1) := by decide +kernel
theorem dX5_puts_0 : decode cX5_puts 0 = .ok (.aload_n 0, 1) := by decide +kernel
theorem dX5_puts_1 : decode cX5_puts 1 = .ok (.getfield 7, 3) := by decide +kernel
theorem dX5_puts_4 : decode cX5_puts 4 = .ok (.bipush 39, 2) := by decide +kernel
theorem dX5_puts_6 : decode cX5_puts 6 = .ok (.bipush 6, 2) := by decide +kernel
theorem dX5_puts_8 : decode cX5_puts 8 = .ok (.iload_n 1, 1) := by decide +kernel
theorem dX5_puts_9 : decode cX5_puts 9 = .ok (.imul, 1) := by decide +kernel
theorem dX5_puts_10 : decode cX5_puts 10 = .ok (.iadd, 1) := by decide +kernel
theorem dX5_puts_11 : decode cX5_puts 11 = .ok (.iload_n 2, 1) := by decide +kernel
theorem dX5_puts_12 : decode cX5_puts 12 = .ok (.iadd, 1) := by decide +kernel
theorem dX5_puts_13 : decode cX5_puts 13 = .ok (.iload_n 3, 1) := by decide +kernel
theorem dX5_puts_14 : decode cX5_puts 14 = .ok (.iastore, 1) := by decide +kernel
theorem dX5_puts_15 : decode cX5_puts 15 = .ok (.return_, 1) := by decide +kernel
theorem dX5_stands_0 : decode cX5_stands 0 = .ok (.aload_n 0, 1) := by decide +kernel
theorem dX5_stands_1 : decode cX5_stands 1 = .ok (.getfield 7, 3) := by decide +kernel
theorem dX5_stands_4 : decode cX5_stands 4 = .ok (.iconst 3, 1) := by decide +kernel
theorem dX5_stands_5 : decode cX5_stands 5 = .ok (.iconst 3, 1) := by decide +kernel
theorem dX5_stands_6 : decode cX5_stands 6 = .ok (.iload_n 1, 1) := by decide +kernel
theorem dX5_stands_7 : decode cX5_stands 7 = .ok (.imul, 1) := by decide +kernel
theorem dX5_stands_8 : decode cX5_stands 8 = .ok (.iadd, 1) := by decide +kernel
theorem dX5_stands_9 : decode cX5_stands 9 = .ok (.iload_n 2, 1) := by decide +kernel
theorem dX5_stands_10 : decode cX5_stands 10 = .ok (.iadd, 1) := by decide +kernel
theorem dX5_stands_11 : decode cX5_stands 11 = .ok (.iaload, 1) := by decide +kernel
theorem dX5_stands_12 : decode cX5_stands 12 = .ok (.ireturn, 1) := by decide +kernel
theorem dX5_rests_0 : decode cX5_rests 0 = .ok (.aload_n 0, 1) := by decide +kernel
theorem dX5_rests_1 : decode cX5_rests 1 = .ok (.getfield 7, 3) := by decide +kernel
theorem dX5_rests_4 : decode cX5_rests 4 = .ok (.iconst 3, 1) := by decide +kernel
theorem dX5_rests_5 : decode cX5_rests 5 = .ok (.iconst 3, 1) := by decide +kernel
theorem dX5_rests_6 : decode cX5_rests 6 = .ok (.iload_n 1, 1) := by decide +kernel
theorem dX5_rests_7 : decode cX5_rests 7 = .ok (.imul, 1) := by decide +kernel
theorem dX5_rests_8 : decode cX5_rests 8 = .ok (.iadd, 1) := by decide +kernel
theorem dX5_rests_9 : decode cX5_rests 9 = .ok (.iload_n 2, 1) := by decide +kernel
theorem dX5_rests_10 : decode cX5_rests 10 = .ok (.iadd, 1) := by decide +kernel
theorem dX5_rests_11 : decode cX5_rests 11 = .ok (.iload_n 3, 1) := by decide +kernel
theorem dX5_rests_12 : decode cX5_rests 12 = .ok (.iastore, 1) := by decide +kernel
theorem dX5_rests_13 : decode cX5_rests 13 = .ok (.return_, 1) := by decide +kernel
theorem dX5_becomes_0 : decode cX5_becomes 0 = .ok (.aload_n 0, 1) := by decide +kernel
theorem dX5_becomes_1 : decode cX5_becomes 1 = .ok (.getfield 7, 3) := by decide +kernel
theorem dX5_becomes_4 : decode cX5_becomes 4 = .ok (.iload_n 1, 1) := by decide +kernel
theorem dX5_becomes_5 : decode cX5_becomes 5 = .ok (.iaload, 1) := by decide +kernel
theorem dX5_becomes_6 : decode cX5_becomes 6 = .ok (.istore_n 3, 1) := by decide +kernel
theorem dX5_becomes_7 : decode cX5_becomes 7 = .ok (.aload_n 0, 1) := by decide +kernel
theorem dX5_becomes_8 : decode cX5_becomes 8 = .ok (.getfield 7, 3) := by decide +kernel
theorem dX5_becomes_11 : decode cX5_becomes 11 = .ok (.iload_n 1, 1) := by decide +kernel
theorem dX5_becomes_12 : decode cX5_becomes 12 = .ok (.iload_n 2, 1) := by decide +kernel
theorem dX5_becomes_13 : decode cX5_becomes 13 = .ok (.iastore, 1) := by decide +kernel
theorem dX5_becomes_14 : decode cX5_becomes 14 = .ok (.iload_n 3, 1) := by decide +kernel
theorem dX5_becomes_15 : decode cX5_becomes 15 = .ok (.ireturn, 1) := by decide +kernel
theorem dX5_isOne_0 : decode cX5_isOne 0 = .ok (.iload_n 1, 1) := by decide +kernel
theorem dX5_isOne_1 : decode cX5_isOne 1 = .ok (.iconst 0, 1) := by decide +kernel
theorem dX5_isOne_2 : decode cX5_isOne 2 = .ok (.aload_n 0, 1) := by decide +kernel
theorem dX5_isOne_3 : decode cX5_isOne 3 = .ok (.getfield 7, 3) := by decide +kernel
theorem dX5_isOne_6 : decode cX5_isOne 6 = .ok (.iconst 2, 1) := by decide +kernel
theorem dX5_isOne_7 : decode cX5_isOne 7 = .ok (.iaload, 1) := by decide +kernel
theorem dX5_isOne_8 : decode cX5_isOne 8 = .ok (.iconst 1, 1) := by decide +kernel
theorem dX5_isOne_9 : decode cX5_isOne 9 = .ok (.isub, 1) := by decide +kernel
theorem dX5_isOne_10 : decode cX5_isOne 10 = .ok (.invokestatic 45, 3) := by decide +kernel
theorem dX5_isOne_13 : decode cX5_isOne 13 = .ok (.ireturn, 1) := by decide +kernel
theorem dX5_isHouse_0 : decode cX5_isHouse 0 = .ok (.iload_n 0, 1) := by decide +kernel
theorem dX5_isHouse_1 : decode cX5_isHouse 1 = .ok (.iconst 0, 1) := by decide +kernel
theorem dX5_isHouse_2 : decode cX5_isHouse 2 = .ok (.bipush 11, 2) := by decide +kernel
theorem dX5_isHouse_4 : decode cX5_isHouse 4 = .ok (.invokestatic 45, 3) := by decide +kernel
theorem dX5_isHouse_7 : decode cX5_isHouse 7 = .ok (.ireturn, 1) := by decide +kernel
theorem dX5_isKind_0 : decode cX5_isKind 0 = .ok (.iload_n 0, 1) := by decide +kernel
theorem dX5_isKind_1 : decode cX5_isKind 1 = .ok (.iconst 0, 1) := by decide +kernel
theorem dX5_isKind_2 : decode cX5_isKind 2 = .ok (.iconst 5, 1) := by decide +kernel
theorem dX5_isKind_3 : decode cX5_isKind 3 = .ok (.invokestatic 45, 3) := by decide +kernel
theorem dX5_isKind_6 : decode cX5_isKind 6 = .ok (.ireturn, 1) := by decide +kernel
theorem dX5_setOf_0 : decode cX5_setOf 0 = .ok (.iconst 0, 1) := by decide +kernel
theorem dX5_setOf_1 : decode cX5_setOf 1 = .ok (.istore_n 2, 1) := by decide +kernel
theorem dX5_setOf_2 : decode cX5_setOf 2 = .ok (.iconst 0, 1) := by decide +kernel
theorem dX5_setOf_3 : decode cX5_setOf 3 = .ok (.istore_n 3, 1) := by decide +kernel
theorem dX5_setOf_4 : decode cX5_setOf 4 = .ok (.iload_n 3, 1) := by decide +kernel
theorem dX5_setOf_5 : decode cX5_setOf 5 = .ok (.bipush 12, 2) := by decide +kernel
theorem dX5_setOf_7 : decode cX5_setOf 7 = .ok (.if_icmp .ge 28, 3) := by decide +kernel
theorem dX5_setOf_10 : decode cX5_setOf 10 = .ok (.iload_n 2, 1) := by decide +kernel
theorem dX5_setOf_11 : decode cX5_setOf 11 = .ok (.aload_n 0, 1) := by decide +kernel
theorem dX5_setOf_12 : decode cX5_setOf 12 = .ok (.iload_n 3, 1) := by decide +kernel
theorem dX5_setOf_13 : decode cX5_setOf 13 = .ok (.iload_n 1, 1) := by decide +kernel
theorem dX5_setOf_14 : decode cX5_setOf 14 = .ok (.invokevirtual 49, 3) := by decide +kernel
theorem dX5_setOf_17 : decode cX5_setOf 17 = .ok (.ifCond .le 9, 3) := by decide +kernel
theorem dX5_setOf_20 : decode cX5_setOf 20 = .ok (.iconst 1, 1) := by decide +kernel
theorem dX5_setOf_21 : decode cX5_setOf 21 = .ok (.iload_n 3, 1) := by decide +kernel
theorem dX5_setOf_22 : decode cX5_setOf 22 = .ok (.ishl, 1) := by decide +kernel
theorem dX5_setOf_23 : decode cX5_setOf 23 = .ok (.goto 4, 3) := by decide +kernel
theorem dX5_setOf_26 : decode cX5_setOf 26 = .ok (.iconst 0, 1) := by decide +kernel
theorem dX5_setOf_27 : decode cX5_setOf 27 = .ok (.ior, 1) := by decide +kernel
theorem dX5_setOf_28 : decode cX5_setOf 28 = .ok (.istore_n 2, 1) := by decide +kernel
theorem dX5_setOf_29 : decode cX5_setOf 29 = .ok (.iinc 3 1, 3) := by decide +kernel
theorem dX5_setOf_32 : decode cX5_setOf 32 = .ok (.goto (-28), 3) := by decide +kernel
theorem dX5_setOf_35 : decode cX5_setOf 35 = .ok (.iload_n 2, 1) := by decide +kernel
theorem dX5_setOf_36 : decode cX5_setOf 36 = .ok (.ireturn, 1) := by decide +kernel
theorem dX5_lampsMany_0 : decode cX5_lampsMany 0 = .ok (.iconst 0, 1) := by decide +kernel
theorem dX5_lampsMany_1 : decode cX5_lampsMany 1 = .ok (.istore_n 1, 1) := by decide +kernel
theorem dX5_lampsMany_2 : decode cX5_lampsMany 2 = .ok (.iconst 0, 1) := by decide +kernel
theorem dX5_lampsMany_3 : decode cX5_lampsMany 3 = .ok (.istore_n 2, 1) := by decide +kernel
theorem dX5_lampsMany_4 : decode cX5_lampsMany 4 = .ok (.iload_n 2, 1) := by decide +kernel
theorem dX5_lampsMany_5 : decode cX5_lampsMany 5 = .ok (.bipush 12, 2) := by decide +kernel
theorem dX5_lampsMany_7 : decode cX5_lampsMany 7 = .ok (.if_icmp .ge 26, 3) := by decide +kernel
theorem dX5_lampsMany_10 : decode cX5_lampsMany 10 = .ok (.iload_n 1, 1) := by decide +kernel
theorem dX5_lampsMany_11 : decode cX5_lampsMany 11 = .ok (.aload_n 0, 1) := by decide +kernel
theorem dX5_lampsMany_12 : decode cX5_lampsMany 12 = .ok (.iload_n 2, 1) := by decide +kernel
theorem dX5_lampsMany_13 : decode cX5_lampsMany 13 = .ok (.iconst 0, 1) := by decide +kernel
theorem dX5_lampsMany_14 : decode cX5_lampsMany 14 = .ok (.invokevirtual 49, 3) := by decide +kernel
theorem dX5_lampsMany_17 : decode cX5_lampsMany 17 = .ok (.ifCond .le 7, 3) := by decide +kernel
theorem dX5_lampsMany_20 : decode cX5_lampsMany 20 = .ok (.iconst 1, 1) := by decide +kernel
theorem dX5_lampsMany_21 : decode cX5_lampsMany 21 = .ok (.goto 4, 3) := by decide +kernel
theorem dX5_lampsMany_24 : decode cX5_lampsMany 24 = .ok (.iconst 0, 1) := by decide +kernel
theorem dX5_lampsMany_25 : decode cX5_lampsMany 25 = .ok (.iadd, 1) := by decide +kernel
theorem dX5_lampsMany_26 : decode cX5_lampsMany 26 = .ok (.istore_n 1, 1) := by decide +kernel
theorem dX5_lampsMany_27 : decode cX5_lampsMany 27 = .ok (.iinc 2 1, 3) := by decide +kernel
theorem dX5_lampsMany_30 : decode cX5_lampsMany 30 = .ok (.goto (-26), 3) := by decide +kernel
theorem dX5_lampsMany_33 : decode cX5_lampsMany 33 = .ok (.iload_n 1, 1) := by decide +kernel
theorem dX5_lampsMany_34 : decode cX5_lampsMany 34 = .ok (.ireturn, 1) := by decide +kernel
theorem dX5_readOfAll_0 : decode cX5_readOfAll 0 = .ok (.iconst 0, 1) := by decide +kernel
theorem dX5_readOfAll_1 : decode cX5_readOfAll 1 = .ok (.istore_n 1, 1) := by decide +kernel
theorem dX5_readOfAll_2 : decode cX5_readOfAll 2 = .ok (.iconst 0, 1) := by decide +kernel
theorem dX5_readOfAll_3 : decode cX5_readOfAll 3 = .ok (.istore_n 2, 1) := by decide +kernel
theorem dX5_readOfAll_4 : decode cX5_readOfAll 4 = .ok (.iload_n 2, 1) := by decide +kernel
theorem dX5_readOfAll_5 : decode cX5_readOfAll 5 = .ok (.bipush 12, 2) := by decide +kernel
theorem dX5_readOfAll_7 : decode cX5_readOfAll 7 = .ok (.if_icmp .ge 18, 3) := by decide +kernel
theorem dX5_readOfAll_10 : decode cX5_readOfAll 10 = .ok (.iload_n 1, 1) := by decide +kernel
theorem dX5_readOfAll_11 : decode cX5_readOfAll 11 = .ok (.aload_n 0, 1) := by decide +kernel
theorem dX5_readOfAll_12 : decode cX5_readOfAll 12 = .ok (.iload_n 2, 1) := by decide +kernel
theorem dX5_readOfAll_13 : decode cX5_readOfAll 13 = .ok (.iconst 2, 1) := by decide +kernel
theorem dX5_readOfAll_14 : decode cX5_readOfAll 14 = .ok (.invokevirtual 49, 3) := by decide +kernel
theorem dX5_readOfAll_17 : decode cX5_readOfAll 17 = .ok (.iadd, 1) := by decide +kernel
theorem dX5_readOfAll_18 : decode cX5_readOfAll 18 = .ok (.istore_n 1, 1) := by decide +kernel
theorem dX5_readOfAll_19 : decode cX5_readOfAll 19 = .ok (.iinc 2 1, 3) := by decide +kernel
theorem dX5_readOfAll_22 : decode cX5_readOfAll 22 = .ok (.goto (-18), 3) := by decide +kernel
theorem dX5_readOfAll_25 : decode cX5_readOfAll 25 = .ok (.iload_n 1, 1) := by decide +kernel
theorem dX5_readOfAll_26 : decode cX5_readOfAll 26 = .ok (.ireturn, 1) := by decide +kernel
theorem dX5_tickles_0 : decode cX5_tickles 0 = .ok (.aload_n 0, 1) := by decide +kernel
theorem dX5_tickles_1 : decode cX5_tickles 1 = .ok (.iload_n 1, 1) := by decide +kernel
theorem dX5_tickles_2 : decode cX5_tickles 2 = .ok (.iconst 3, 1) := by decide +kernel
theorem dX5_tickles_3 : decode cX5_tickles 3 = .ok (.invokevirtual 53, 3) := by decide +kernel
theorem dX5_tickles_6 : decode cX5_tickles 6 = .ok (.iconst 4, 1) := by decide +kernel
theorem dX5_tickles_7 : decode cX5_tickles 7 = .ok (.idiv, 1) := by decide +kernel
theorem dX5_tickles_8 : decode cX5_tickles 8 = .ok (.aload_n 0, 1) := by decide +kernel
theorem dX5_tickles_9 : decode cX5_tickles 9 = .ok (.getfield 7, 3) := by decide +kernel
theorem dX5_tickles_12 : decode cX5_tickles 12 = .ok (.iconst 1, 1) := by decide +kernel
theorem dX5_tickles_13 : decode cX5_tickles 13 = .ok (.iaload, 1) := by decide +kernel
theorem dX5_tickles_14 : decode cX5_tickles 14 = .ok (.isub, 1) := by decide +kernel
theorem dX5_tickles_15 : decode cX5_tickles 15 = .ok (.iconst 0, 1) := by decide +kernel
theorem dX5_tickles_16 : decode cX5_tickles 16 = .ok (.bipush 99, 2) := by decide +kernel
theorem dX5_tickles_18 : decode cX5_tickles 18 = .ok (.invokestatic 56, 3) := by decide +kernel
theorem dX5_tickles_21 : decode cX5_tickles 21 = .ok (.istore_n 2, 1) := by decide +kernel
theorem dX5_tickles_22 : decode cX5_tickles 22 = .ok (.aload_n 0, 1) := by decide +kernel
theorem dX5_tickles_23 : decode cX5_tickles 23 = .ok (.iload_n 1, 1) := by decide +kernel
theorem dX5_tickles_24 : decode cX5_tickles 24 = .ok (.iconst 0, 1) := by decide +kernel
theorem dX5_tickles_25 : decode cX5_tickles 25 = .ok (.invokevirtual 53, 3) := by decide +kernel
theorem dX5_tickles_28 : decode cX5_tickles 28 = .ok (.tableswitch 78 1 5 #[36, 46, 76, 40, 50], 36) := by decide +kernel
theorem dX5_tickles_64 : decode cX5_tickles 64 = .ok (.iload_n 2, 1) := by decide +kernel
theorem dX5_tickles_65 : decode cX5_tickles 65 = .ok (.iconst 2, 1) := by decide +kernel
theorem dX5_tickles_66 : decode cX5_tickles 66 = .ok (.idiv, 1) := by decide +kernel
theorem dX5_tickles_67 : decode cX5_tickles 67 = .ok (.ireturn, 1) := by decide +kernel
theorem dX5_tickles_68 : decode cX5_tickles 68 = .ok (.iload_n 2, 1) := by decide +kernel
theorem dX5_tickles_69 : decode cX5_tickles 69 = .ok (.iconst 2, 1) := by decide +kernel
theorem dX5_tickles_70 : decode cX5_tickles 70 = .ok (.idiv, 1) := by decide +kernel
theorem dX5_tickles_71 : decode cX5_tickles 71 = .ok (.iconst 1, 1) := by decide +kernel
theorem dX5_tickles_72 : decode cX5_tickles 72 = .ok (.iadd, 1) := by decide +kernel
theorem dX5_tickles_73 : decode cX5_tickles 73 = .ok (.ireturn, 1) := by decide +kernel
theorem dX5_tickles_74 : decode cX5_tickles 74 = .ok (.iload_n 2, 1) := by decide +kernel
theorem dX5_tickles_75 : decode cX5_tickles 75 = .ok (.iconst 3, 1) := by decide +kernel
theorem dX5_tickles_76 : decode cX5_tickles 76 = .ok (.iadd, 1) := by decide +kernel
theorem dX5_tickles_77 : decode cX5_tickles 77 = .ok (.ireturn, 1) := by decide +kernel
theorem dX5_tickles_78 : decode cX5_tickles 78 = .ok (.aload_n 0, 1) := by decide +kernel
theorem dX5_tickles_79 : decode cX5_tickles 79 = .ok (.aload_n 0, 1) := by decide +kernel
theorem dX5_tickles_80 : decode cX5_tickles 80 = .ok (.iload_n 1, 1) := by decide +kernel
theorem dX5_tickles_81 : decode cX5_tickles 81 = .ok (.iconst 1, 1) := by decide +kernel
theorem dX5_tickles_82 : decode cX5_tickles 82 = .ok (.invokevirtual 53, 3) := by decide +kernel
theorem dX5_tickles_85 : decode cX5_tickles 85 = .ok (.iconst 0, 1) := by decide +kernel
theorem dX5_tickles_86 : decode cX5_tickles 86 = .ok (.invokevirtual 49, 3) := by decide +kernel
theorem dX5_tickles_89 : decode cX5_tickles 89 = .ok (.ifCond .le 11, 3) := by decide +kernel
theorem dX5_tickles_92 : decode cX5_tickles 92 = .ok (.iconst 2, 1) := by decide +kernel
theorem dX5_tickles_93 : decode cX5_tickles 93 = .ok (.iload_n 2, 1) := by decide +kernel
theorem dX5_tickles_94 : decode cX5_tickles 94 = .ok (.iconst 3, 1) := by decide +kernel
theorem dX5_tickles_95 : decode cX5_tickles 95 = .ok (.iadd, 1) := by decide +kernel
theorem dX5_tickles_96 : decode cX5_tickles 96 = .ok (.imul, 1) := by decide +kernel
theorem dX5_tickles_97 : decode cX5_tickles 97 = .ok (.goto 6, 3) := by decide +kernel
theorem dX5_tickles_100 : decode cX5_tickles 100 = .ok (.iload_n 2, 1) := by decide +kernel
theorem dX5_tickles_101 : decode cX5_tickles 101 = .ok (.iconst 3, 1) := by decide +kernel
theorem dX5_tickles_102 : decode cX5_tickles 102 = .ok (.iadd, 1) := by decide +kernel
theorem dX5_tickles_103 : decode cX5_tickles 103 = .ok (.ireturn, 1) := by decide +kernel
theorem dX5_tickles_104 : decode cX5_tickles 104 = .ok (.iconst 0, 1) := by decide +kernel
theorem dX5_tickles_105 : decode cX5_tickles 105 = .ok (.ireturn, 1) := by decide +kernel
theorem dX5_tickles_106 : decode cX5_tickles 106 = .ok (.iload_n 2, 1) := by decide +kernel
theorem dX5_tickles_107 : decode cX5_tickles 107 = .ok (.ireturn, 1) := by decide +kernel
theorem dX5_holds_0 : decode cX5_holds 0 = .ok (.aload_n 0, 1) := by decide +kernel
theorem dX5_holds_1 : decode cX5_holds 1 = .ok (.iload_n 1, 1) := by decide +kernel
theorem dX5_holds_2 : decode cX5_holds 2 = .ok (.iconst 0, 1) := by decide +kernel
theorem dX5_holds_3 : decode cX5_holds 3 = .ok (.invokevirtual 53, 3) := by decide +kernel
theorem dX5_holds_6 : decode cX5_holds 6 = .ok (.tableswitch 53 1 5 #[34, 47, 50, 37, 47], 34) := by decide +kernel
theorem dX5_holds_40 : decode cX5_holds 40 = .ok (.bipush 90, 2) := by decide +kernel
theorem dX5_holds_42 : decode cX5_holds 42 = .ok (.ireturn, 1) := by decide +kernel
theorem dX5_holds_43 : decode cX5_holds 43 = .ok (.bipush 90, 2) := by decide +kernel
theorem dX5_holds_45 : decode cX5_holds 45 = .ok (.iconst 5, 1) := by decide +kernel
theorem dX5_holds_46 : decode cX5_holds 46 = .ok (.aload_n 0, 1) := by decide +kernel
theorem dX5_holds_47 : decode cX5_holds 47 = .ok (.invokevirtual 60, 3) := by decide +kernel
theorem dX5_holds_50 : decode cX5_holds 50 = .ok (.imul, 1) := by decide +kernel
theorem dX5_holds_51 : decode cX5_holds 51 = .ok (.isub, 1) := by decide +kernel
theorem dX5_holds_52 : decode cX5_holds 52 = .ok (.ireturn, 1) := by decide +kernel
theorem dX5_holds_53 : decode cX5_holds 53 = .ok (.bipush 20, 2) := by decide +kernel
theorem dX5_holds_55 : decode cX5_holds 55 = .ok (.ireturn, 1) := by decide +kernel
theorem dX5_holds_56 : decode cX5_holds 56 = .ok (.bipush 99, 2) := by decide +kernel
theorem dX5_holds_58 : decode cX5_holds 58 = .ok (.ireturn, 1) := by decide +kernel
theorem dX5_holds_59 : decode cX5_holds 59 = .ok (.bipush 30, 2) := by decide +kernel
theorem dX5_holds_61 : decode cX5_holds 61 = .ok (.ireturn, 1) := by decide +kernel
theorem dX5_blows_0 : decode cX5_blows 0 = .ok (.aload_n 0, 1) := by decide +kernel
theorem dX5_blows_1 : decode cX5_blows 1 = .ok (.iload_n 1, 1) := by decide +kernel
theorem dX5_blows_2 : decode cX5_blows 2 = .ok (.iconst 3, 1) := by decide +kernel
theorem dX5_blows_3 : decode cX5_blows 3 = .ok (.invokevirtual 53, 3) := by decide +kernel
theorem dX5_blows_6 : decode cX5_blows 6 = .ok (.istore_n 2, 1) := by decide +kernel
theorem dX5_blows_7 : decode cX5_blows 7 = .ok (.aload_n 0, 1) := by decide +kernel
theorem dX5_blows_8 : decode cX5_blows 8 = .ok (.iload_n 1, 1) := by decide +kernel
theorem dX5_blows_9 : decode cX5_blows 9 = .ok (.iconst 0, 1) := by decide +kernel
theorem dX5_blows_10 : decode cX5_blows 10 = .ok (.invokevirtual 53, 3) := by decide +kernel
theorem dX5_blows_13 : decode cX5_blows 13 = .ok (.tableswitch 66 1 5 #[35, 55, 64, 44, 57], 35) := by decide +kernel
theorem dX5_blows_48 : decode cX5_blows 48 = .ok (.iconst 2, 1) := by decide +kernel
theorem dX5_blows_49 : decode cX5_blows 49 = .ok (.iconst 1, 1) := by decide +kernel
theorem dX5_blows_50 : decode cX5_blows 50 = .ok (.iload_n 2, 1) := by decide +kernel
theorem dX5_blows_51 : decode cX5_blows 51 = .ok (.bipush 25, 2) := by decide +kernel
theorem dX5_blows_53 : decode cX5_blows 53 = .ok (.idiv, 1) := by decide +kernel
theorem dX5_blows_54 : decode cX5_blows 54 = .ok (.iadd, 1) := by decide +kernel
theorem dX5_blows_55 : decode cX5_blows 55 = .ok (.imul, 1) := by decide +kernel
theorem dX5_blows_56 : decode cX5_blows 56 = .ok (.ireturn, 1) := by decide +kernel
theorem dX5_blows_57 : decode cX5_blows 57 = .ok (.iconst 2, 1) := by decide +kernel
theorem dX5_blows_58 : decode cX5_blows 58 = .ok (.iconst 1, 1) := by decide +kernel
theorem dX5_blows_59 : decode cX5_blows 59 = .ok (.iload_n 2, 1) := by decide +kernel
theorem dX5_blows_60 : decode cX5_blows 60 = .ok (.bipush 25, 2) := by decide +kernel
theorem dX5_blows_62 : decode cX5_blows 62 = .ok (.idiv, 1) := by decide +kernel
theorem dX5_blows_63 : decode cX5_blows 63 = .ok (.iadd, 1) := by decide +kernel
theorem dX5_blows_64 : decode cX5_blows 64 = .ok (.imul, 1) := by decide +kernel
theorem dX5_blows_65 : decode cX5_blows 65 = .ok (.iconst 1, 1) := by decide +kernel
theorem dX5_blows_66 : decode cX5_blows 66 = .ok (.iadd, 1) := by decide +kernel
theorem dX5_blows_67 : decode cX5_blows 67 = .ok (.ireturn, 1) := by decide +kernel
theorem dX5_blows_68 : decode cX5_blows 68 = .ok (.iconst 1, 1) := by decide +kernel
theorem dX5_blows_69 : decode cX5_blows 69 = .ok (.ireturn, 1) := by decide +kernel
theorem dX5_blows_70 : decode cX5_blows 70 = .ok (.iconst 1, 1) := by decide +kernel
theorem dX5_blows_71 : decode cX5_blows 71 = .ok (.iload_n 2, 1) := by decide +kernel
theorem dX5_blows_72 : decode cX5_blows 72 = .ok (.bipush 50, 2) := by decide +kernel
theorem dX5_blows_74 : decode cX5_blows 74 = .ok (.idiv, 1) := by decide +kernel
theorem dX5_blows_75 : decode cX5_blows 75 = .ok (.iadd, 1) := by decide +kernel
theorem dX5_blows_76 : decode cX5_blows 76 = .ok (.ireturn, 1) := by decide +kernel
theorem dX5_blows_77 : decode cX5_blows 77 = .ok (.iconst 0, 1) := by decide +kernel
theorem dX5_blows_78 : decode cX5_blows 78 = .ok (.ireturn, 1) := by decide +kernel
theorem dX5_blows_79 : decode cX5_blows 79 = .ok (.iconst 1, 1) := by decide +kernel
theorem dX5_blows_80 : decode cX5_blows 80 = .ok (.iload_n 2, 1) := by decide +kernel
theorem dX5_blows_81 : decode cX5_blows 81 = .ok (.bipush 25, 2) := by decide +kernel
theorem dX5_blows_83 : decode cX5_blows 83 = .ok (.idiv, 1) := by decide +kernel
theorem dX5_blows_84 : decode cX5_blows 84 = .ok (.iadd, 1) := by decide +kernel
theorem dX5_blows_85 : decode cX5_blows 85 = .ok (.ireturn, 1) := by decide +kernel
theorem dX5_heals_0 : decode cX5_heals 0 = .ok (.aload_n 0, 1) := by decide +kernel
theorem dX5_heals_1 : decode cX5_heals 1 = .ok (.iload_n 1, 1) := by decide +kernel
theorem dX5_heals_2 : decode cX5_heals 2 = .ok (.iconst 0, 1) := by decide +kernel
theorem dX5_heals_3 : decode cX5_heals 3 = .ok (.invokevirtual 53, 3) := by decide +kernel
theorem dX5_heals_6 : decode cX5_heals 6 = .ok (.tableswitch 46 1 4 #[30, 41, 43, 32], 30) := by decide +kernel
theorem dX5_heals_36 : decode cX5_heals 36 = .ok (.iconst 0, 1) := by decide +kernel
theorem dX5_heals_37 : decode cX5_heals 37 = .ok (.ireturn, 1) := by decide +kernel
theorem dX5_heals_38 : decode cX5_heals 38 = .ok (.aload_n 0, 1) := by decide +kernel
theorem dX5_heals_39 : decode cX5_heals 39 = .ok (.getfield 7, 3) := by decide +kernel
theorem dX5_heals_42 : decode cX5_heals 42 = .ok (.iconst 1, 1) := by decide +kernel
theorem dX5_heals_43 : decode cX5_heals 43 = .ok (.iaload, 1) := by decide +kernel
theorem dX5_heals_44 : decode cX5_heals 44 = .ok (.iconst 3, 1) := by decide +kernel
theorem dX5_heals_45 : decode cX5_heals 45 = .ok (.idiv, 1) := by decide +kernel
theorem dX5_heals_46 : decode cX5_heals 46 = .ok (.ireturn, 1) := by decide +kernel
theorem dX5_heals_47 : decode cX5_heals 47 = .ok (.iconst 2, 1) := by decide +kernel
theorem dX5_heals_48 : decode cX5_heals 48 = .ok (.ireturn, 1) := by decide +kernel
theorem dX5_heals_49 : decode cX5_heals 49 = .ok (.bipush 9, 2) := by decide +kernel
theorem dX5_heals_51 : decode cX5_heals 51 = .ok (.ireturn, 1) := by decide +kernel
theorem dX5_heals_52 : decode cX5_heals 52 = .ok (.iconst 1, 1) := by decide +kernel
theorem dX5_heals_53 : decode cX5_heals 53 = .ok (.ireturn, 1) := by decide +kernel
theorem dX5_isDue_0 : decode cX5_isDue 0 = .ok (.aload_n 0, 1) := by decide +kernel
theorem dX5_isDue_1 : decode cX5_isDue 1 = .ok (.iload_n 1, 1) := by decide +kernel
theorem dX5_isDue_2 : decode cX5_isDue 2 = .ok (.iconst 4, 1) := by decide +kernel
theorem dX5_isDue_3 : decode cX5_isDue 3 = .ok (.invokevirtual 53, 3) := by decide +kernel
theorem dX5_isDue_6 : decode cX5_isDue 6 = .ok (.aload_n 0, 1) := by decide +kernel
theorem dX5_isDue_7 : decode cX5_isDue 7 = .ok (.iload_n 1, 1) := by decide +kernel
theorem dX5_isDue_8 : decode cX5_isDue 8 = .ok (.invokevirtual 64, 3) := by decide +kernel
theorem dX5_isDue_11 : decode cX5_isDue 11 = .ok (.if_icmp .lt 7, 3) := by decide +kernel
theorem dX5_isDue_14 : decode cX5_isDue 14 = .ok (.iconst 1, 1) := by decide +kernel
theorem dX5_isDue_15 : decode cX5_isDue 15 = .ok (.goto 4, 3) := by decide +kernel
theorem dX5_isDue_18 : decode cX5_isDue 18 = .ok (.iconst 0, 1) := by decide +kernel
theorem dX5_isDue_19 : decode cX5_isDue 19 = .ok (.ireturn, 1) := by decide +kernel
theorem dX5_dueSet_0 : decode cX5_dueSet 0 = .ok (.iconst 0, 1) := by decide +kernel
theorem dX5_dueSet_1 : decode cX5_dueSet 1 = .ok (.istore_n 1, 1) := by decide +kernel
theorem dX5_dueSet_2 : decode cX5_dueSet 2 = .ok (.iconst 0, 1) := by decide +kernel
theorem dX5_dueSet_3 : decode cX5_dueSet 3 = .ok (.istore_n 2, 1) := by decide +kernel
theorem dX5_dueSet_4 : decode cX5_dueSet 4 = .ok (.iload_n 2, 1) := by decide +kernel
theorem dX5_dueSet_5 : decode cX5_dueSet 5 = .ok (.aload_n 0, 1) := by decide +kernel
theorem dX5_dueSet_6 : decode cX5_dueSet 6 = .ok (.getfield 7, 3) := by decide +kernel
theorem dX5_dueSet_9 : decode cX5_dueSet 9 = .ok (.iconst 2, 1) := by decide +kernel
theorem dX5_dueSet_10 : decode cX5_dueSet 10 = .ok (.iaload, 1) := by decide +kernel
theorem dX5_dueSet_11 : decode cX5_dueSet 11 = .ok (.if_icmp .ge 27, 3) := by decide +kernel
theorem dX5_dueSet_14 : decode cX5_dueSet 14 = .ok (.iload_n 1, 1) := by decide +kernel
theorem dX5_dueSet_15 : decode cX5_dueSet 15 = .ok (.aload_n 0, 1) := by decide +kernel
theorem dX5_dueSet_16 : decode cX5_dueSet 16 = .ok (.iload_n 2, 1) := by decide +kernel
theorem dX5_dueSet_17 : decode cX5_dueSet 17 = .ok (.invokevirtual 68, 3) := by decide +kernel
theorem dX5_dueSet_20 : decode cX5_dueSet 20 = .ok (.ifCond .eq 9, 3) := by decide +kernel
theorem dX5_dueSet_23 : decode cX5_dueSet 23 = .ok (.iconst 1, 1) := by decide +kernel
theorem dX5_dueSet_24 : decode cX5_dueSet 24 = .ok (.iload_n 2, 1) := by decide +kernel
theorem dX5_dueSet_25 : decode cX5_dueSet 25 = .ok (.ishl, 1) := by decide +kernel
theorem dX5_dueSet_26 : decode cX5_dueSet 26 = .ok (.goto 4, 3) := by decide +kernel
theorem dX5_dueSet_29 : decode cX5_dueSet 29 = .ok (.iconst 0, 1) := by decide +kernel
theorem dX5_dueSet_30 : decode cX5_dueSet 30 = .ok (.ior, 1) := by decide +kernel
theorem dX5_dueSet_31 : decode cX5_dueSet 31 = .ok (.istore_n 1, 1) := by decide +kernel
theorem dX5_dueSet_32 : decode cX5_dueSet 32 = .ok (.iinc 2 1, 3) := by decide +kernel
theorem dX5_dueSet_35 : decode cX5_dueSet 35 = .ok (.goto (-31), 3) := by decide +kernel
theorem dX5_dueSet_38 : decode cX5_dueSet 38 = .ok (.iload_n 1, 1) := by decide +kernel
theorem dX5_dueSet_39 : decode cX5_dueSet 39 = .ok (.ireturn, 1) := by decide +kernel
theorem dX5_sumOf_0 : decode cX5_sumOf 0 = .ok (.iconst 0, 1) := by decide +kernel
theorem dX5_sumOf_1 : decode cX5_sumOf 1 = .ok (.istore_n 2, 1) := by decide +kernel
theorem dX5_sumOf_2 : decode cX5_sumOf 2 = .ok (.iconst 0, 1) := by decide +kernel
theorem dX5_sumOf_3 : decode cX5_sumOf 3 = .ok (.istore_n 3, 1) := by decide +kernel
theorem dX5_sumOf_4 : decode cX5_sumOf 4 = .ok (.iload_n 3, 1) := by decide +kernel
theorem dX5_sumOf_5 : decode cX5_sumOf 5 = .ok (.aload_n 0, 1) := by decide +kernel
theorem dX5_sumOf_6 : decode cX5_sumOf 6 = .ok (.getfield 7, 3) := by decide +kernel
theorem dX5_sumOf_9 : decode cX5_sumOf 9 = .ok (.iconst 2, 1) := by decide +kernel
theorem dX5_sumOf_10 : decode cX5_sumOf 10 = .ok (.iaload, 1) := by decide +kernel
theorem dX5_sumOf_11 : decode cX5_sumOf 11 = .ok (.if_icmp .ge 18, 3) := by decide +kernel
theorem dX5_sumOf_14 : decode cX5_sumOf 14 = .ok (.iload_n 2, 1) := by decide +kernel
theorem dX5_sumOf_15 : decode cX5_sumOf 15 = .ok (.aload_n 0, 1) := by decide +kernel
theorem dX5_sumOf_16 : decode cX5_sumOf 16 = .ok (.iload_n 3, 1) := by decide +kernel
theorem dX5_sumOf_17 : decode cX5_sumOf 17 = .ok (.iload_n 1, 1) := by decide +kernel
theorem dX5_sumOf_18 : decode cX5_sumOf 18 = .ok (.invokevirtual 53, 3) := by decide +kernel
theorem dX5_sumOf_21 : decode cX5_sumOf 21 = .ok (.iadd, 1) := by decide +kernel
theorem dX5_sumOf_22 : decode cX5_sumOf 22 = .ok (.istore_n 2, 1) := by decide +kernel
theorem dX5_sumOf_23 : decode cX5_sumOf 23 = .ok (.iinc 3 1, 3) := by decide +kernel
theorem dX5_sumOf_26 : decode cX5_sumOf 26 = .ok (.goto (-22), 3) := by decide +kernel
theorem dX5_sumOf_29 : decode cX5_sumOf 29 = .ok (.iload_n 2, 1) := by decide +kernel
theorem dX5_sumOf_30 : decode cX5_sumOf 30 = .ok (.ireturn, 1) := by decide +kernel
theorem dX5_mostOf_0 : decode cX5_mostOf 0 = .ok (.iload_n 0, 1) := by decide +kernel
theorem dX5_mostOf_1 : decode cX5_mostOf 1 = .ok (.ifCond .ne 8, 3) := by decide +kernel
theorem dX5_mostOf_4 : decode cX5_mostOf 4 = .ok (.bipush 99, 2) := by decide +kernel
theorem dX5_mostOf_6 : decode cX5_mostOf 6 = .ok (.goto 15, 3) := by decide +kernel
theorem dX5_mostOf_9 : decode cX5_mostOf 9 = .ok (.iload_n 0, 1) := by decide +kernel
theorem dX5_mostOf_10 : decode cX5_mostOf 10 = .ok (.iconst 1, 1) := by decide +kernel
theorem dX5_mostOf_11 : decode cX5_mostOf 11 = .ok (.if_icmp .ne 7, 3) := by decide +kernel
theorem dX5_mostOf_14 : decode cX5_mostOf 14 = .ok (.iconst 1, 1) := by decide +kernel
theorem dX5_mostOf_15 : decode cX5_mostOf 15 = .ok (.goto 6, 3) := by decide +kernel
theorem dX5_mostOf_18 : decode cX5_mostOf 18 = .ok (.sipush 9999, 3) := by decide +kernel
theorem dX5_mostOf_21 : decode cX5_mostOf 21 = .ok (.ireturn, 1) := by decide +kernel
theorem dX5_house_0 : decode cX5_house 0 = .ok (.iload_n 1, 1) := by decide +kernel
theorem dX5_house_1 : decode cX5_house 1 = .ok (.invokestatic 72, 3) := by decide +kernel
theorem dX5_house_4 : decode cX5_house 4 = .ok (.ifCond .eq 39, 3) := by decide +kernel
theorem dX5_house_7 : decode cX5_house 7 = .ok (.iload_n 2, 1) := by decide +kernel
theorem dX5_house_8 : decode cX5_house 8 = .ok (.iconst 0, 1) := by decide +kernel
theorem dX5_house_9 : decode cX5_house 9 = .ok (.iconst 2, 1) := by decide +kernel
theorem dX5_house_10 : decode cX5_house 10 = .ok (.invokestatic 45, 3) := by decide +kernel
theorem dX5_house_13 : decode cX5_house 13 = .ok (.ifCond .eq 30, 3) := by decide +kernel
theorem dX5_house_16 : decode cX5_house 16 = .ok (.iload_n 3, 1) := by decide +kernel
theorem dX5_house_17 : decode cX5_house 17 = .ok (.iconst 0, 1) := by decide +kernel
theorem dX5_house_18 : decode cX5_house 18 = .ok (.iload_n 2, 1) := by decide +kernel
theorem dX5_house_19 : decode cX5_house 19 = .ok (.invokestatic 75, 3) := by decide +kernel
theorem dX5_house_22 : decode cX5_house 22 = .ok (.invokestatic 45, 3) := by decide +kernel
theorem dX5_house_25 : decode cX5_house 25 = .ok (.ifCond .eq 18, 3) := by decide +kernel
theorem dX5_house_28 : decode cX5_house 28 = .ok (.aload_n 0, 1) := by decide +kernel
theorem dX5_house_29 : decode cX5_house 29 = .ok (.iconst 3, 1) := by decide +kernel
theorem dX5_house_30 : decode cX5_house 30 = .ok (.iconst 3, 1) := by decide +kernel
theorem dX5_house_31 : decode cX5_house 31 = .ok (.iload_n 1, 1) := by decide +kernel
theorem dX5_house_32 : decode cX5_house 32 = .ok (.imul, 1) := by decide +kernel
theorem dX5_house_33 : decode cX5_house 33 = .ok (.iadd, 1) := by decide +kernel
theorem dX5_house_34 : decode cX5_house 34 = .ok (.iload_n 2, 1) := by decide +kernel
theorem dX5_house_35 : decode cX5_house 35 = .ok (.iadd, 1) := by decide +kernel
theorem dX5_house_36 : decode cX5_house 36 = .ok (.iload_n 3, 1) := by decide +kernel
theorem dX5_house_37 : decode cX5_house 37 = .ok (.invokevirtual 78, 3) := by decide +kernel
theorem dX5_house_40 : decode cX5_house 40 = .ok (.goto 9, 3) := by decide +kernel
theorem dX5_house_43 : decode cX5_house 43 = .ok (.aload_n 0, 1) := by decide +kernel
theorem dX5_house_44 : decode cX5_house 44 = .ok (.ldc 44, 2) := by decide +kernel
theorem dX5_house_46 : decode cX5_house 46 = .ok (.invokevirtual 81, 3) := by decide +kernel
theorem dX5_house_49 : decode cX5_house 49 = .ok (.ireturn, 1) := by decide +kernel
theorem dX5_peopleAt_0 : decode cX5_peopleAt 0 = .ok (.iconst 0, 1) := by decide +kernel
theorem dX5_peopleAt_1 : decode cX5_peopleAt 1 = .ok (.istore_n 2, 1) := by decide +kernel
theorem dX5_peopleAt_2 : decode cX5_peopleAt 2 = .ok (.iconst 0, 1) := by decide +kernel
theorem dX5_peopleAt_3 : decode cX5_peopleAt 3 = .ok (.istore_n 3, 1) := by decide +kernel
theorem dX5_peopleAt_4 : decode cX5_peopleAt 4 = .ok (.iload_n 3, 1) := by decide +kernel
theorem dX5_peopleAt_5 : decode cX5_peopleAt 5 = .ok (.aload_n 0, 1) := by decide +kernel
theorem dX5_peopleAt_6 : decode cX5_peopleAt 6 = .ok (.getfield 7, 3) := by decide +kernel
theorem dX5_peopleAt_9 : decode cX5_peopleAt 9 = .ok (.iconst 2, 1) := by decide +kernel
theorem dX5_peopleAt_10 : decode cX5_peopleAt 10 = .ok (.iaload, 1) := by decide +kernel
theorem dX5_peopleAt_11 : decode cX5_peopleAt 11 = .ok (.if_icmp .ge 29, 3) := by decide +kernel
theorem dX5_peopleAt_14 : decode cX5_peopleAt 14 = .ok (.iload_n 2, 1) := by decide +kernel
theorem dX5_peopleAt_15 : decode cX5_peopleAt 15 = .ok (.aload_n 0, 1) := by decide +kernel
theorem dX5_peopleAt_16 : decode cX5_peopleAt 16 = .ok (.iload_n 3, 1) := by decide +kernel
theorem dX5_peopleAt_17 : decode cX5_peopleAt 17 = .ok (.iconst 1, 1) := by decide +kernel
theorem dX5_peopleAt_18 : decode cX5_peopleAt 18 = .ok (.invokevirtual 53, 3) := by decide +kernel
theorem dX5_peopleAt_21 : decode cX5_peopleAt 21 = .ok (.iload_n 1, 1) := by decide +kernel
theorem dX5_peopleAt_22 : decode cX5_peopleAt 22 = .ok (.if_icmp .ne 9, 3) := by decide +kernel
theorem dX5_peopleAt_25 : decode cX5_peopleAt 25 = .ok (.iconst 1, 1) := by decide +kernel
theorem dX5_peopleAt_26 : decode cX5_peopleAt 26 = .ok (.iload_n 3, 1) := by decide +kernel
theorem dX5_peopleAt_27 : decode cX5_peopleAt 27 = .ok (.ishl, 1) := by decide +kernel
theorem dX5_peopleAt_28 : decode cX5_peopleAt 28 = .ok (.goto 4, 3) := by decide +kernel
theorem dX5_peopleAt_31 : decode cX5_peopleAt 31 = .ok (.iconst 0, 1) := by decide +kernel
theorem dX5_peopleAt_32 : decode cX5_peopleAt 32 = .ok (.ior, 1) := by decide +kernel
theorem dX5_peopleAt_33 : decode cX5_peopleAt 33 = .ok (.istore_n 2, 1) := by decide +kernel
theorem dX5_peopleAt_34 : decode cX5_peopleAt 34 = .ok (.iinc 3 1, 3) := by decide +kernel
theorem dX5_peopleAt_37 : decode cX5_peopleAt 37 = .ok (.goto (-33), 3) := by decide +kernel
theorem dX5_peopleAt_40 : decode cX5_peopleAt 40 = .ok (.iload_n 2, 1) := by decide +kernel
theorem dX5_peopleAt_41 : decode cX5_peopleAt 41 = .ok (.ireturn, 1) := by decide +kernel
theorem dX5_houseOf_0 : decode cX5_houseOf 0 = .ok (.iload_n 1, 1) := by decide +kernel
theorem dX5_houseOf_1 : decode cX5_houseOf 1 = .ok (.invokestatic 72, 3) := by decide +kernel
theorem dX5_houseOf_4 : decode cX5_houseOf 4 = .ok (.ifCond .eq 12, 3) := by decide +kernel
theorem dX5_houseOf_7 : decode cX5_houseOf 7 = .ok (.iload_n 2, 1) := by decide +kernel
theorem dX5_houseOf_8 : decode cX5_houseOf 8 = .ok (.iconst 0, 1) := by decide +kernel
theorem dX5_houseOf_9 : decode cX5_houseOf 9 = .ok (.iconst 3, 1) := by decide +kernel
theorem dX5_houseOf_10 : decode cX5_houseOf 10 = .ok (.invokestatic 45, 3) := by decide +kernel
theorem dX5_houseOf_13 : decode cX5_houseOf 13 = .ok (.ifCond .ne 10, 3) := by decide +kernel
theorem dX5_houseOf_16 : decode cX5_houseOf 16 = .ok (.aload_n 0, 1) := by decide +kernel
theorem dX5_houseOf_17 : decode cX5_houseOf 17 = .ok (.ldc 44, 2) := by decide +kernel
theorem dX5_houseOf_19 : decode cX5_houseOf 19 = .ok (.invokevirtual 81, 3) := by decide +kernel
theorem dX5_houseOf_22 : decode cX5_houseOf 22 = .ok (.ireturn, 1) := by decide +kernel
theorem dX5_houseOf_23 : decode cX5_houseOf 23 = .ok (.iload_n 2, 1) := by decide +kernel
theorem dX5_houseOf_24 : decode cX5_houseOf 24 = .ok (.iconst 3, 1) := by decide +kernel
theorem dX5_houseOf_25 : decode cX5_houseOf 25 = .ok (.if_icmp .ge 12, 3) := by decide +kernel
theorem dX5_houseOf_28 : decode cX5_houseOf 28 = .ok (.aload_n 0, 1) := by decide +kernel
theorem dX5_houseOf_29 : decode cX5_houseOf 29 = .ok (.iload_n 1, 1) := by decide +kernel
theorem dX5_houseOf_30 : decode cX5_houseOf 30 = .ok (.iload_n 2, 1) := by decide +kernel
theorem dX5_houseOf_31 : decode cX5_houseOf 31 = .ok (.invokevirtual 49, 3) := by decide +kernel
theorem dX5_houseOf_34 : decode cX5_houseOf 34 = .ok (.goto 8, 3) := by decide +kernel
theorem dX5_houseOf_37 : decode cX5_houseOf 37 = .ok (.aload_n 0, 1) := by decide +kernel
theorem dX5_houseOf_38 : decode cX5_houseOf 38 = .ok (.iload_n 1, 1) := by decide +kernel
theorem dX5_houseOf_39 : decode cX5_houseOf 39 = .ok (.invokevirtual 84, 3) := by decide +kernel
theorem dX5_houseOf_42 : decode cX5_houseOf 42 = .ok (.ireturn, 1) := by decide +kernel
theorem dX5_dry_0 : decode cX5_dry 0 = .ok (.iload_n 1, 1) := by decide +kernel
theorem dX5_dry_1 : decode cX5_dry 1 = .ok (.iconst 0, 1) := by decide +kernel
theorem dX5_dry_2 : decode cX5_dry 2 = .ok (.bipush 9, 2) := by decide +kernel
theorem dX5_dry_4 : decode cX5_dry 4 = .ok (.invokestatic 45, 3) := by decide +kernel
theorem dX5_dry_7 : decode cX5_dry 7 = .ok (.ifCond .eq 12, 3) := by decide +kernel
theorem dX5_dry_10 : decode cX5_dry 10 = .ok (.aload_n 0, 1) := by decide +kernel
theorem dX5_dry_11 : decode cX5_dry 11 = .ok (.iconst 1, 1) := by decide +kernel
theorem dX5_dry_12 : decode cX5_dry 12 = .ok (.iload_n 1, 1) := by decide +kernel
theorem dX5_dry_13 : decode cX5_dry 13 = .ok (.invokevirtual 78, 3) := by decide +kernel
theorem dX5_dry_16 : decode cX5_dry 16 = .ok (.goto 9, 3) := by decide +kernel
theorem dX5_dry_19 : decode cX5_dry 19 = .ok (.aload_n 0, 1) := by decide +kernel
theorem dX5_dry_20 : decode cX5_dry 20 = .ok (.ldc 44, 2) := by decide +kernel
theorem dX5_dry_22 : decode cX5_dry 22 = .ok (.invokevirtual 81, 3) := by decide +kernel
theorem dX5_dry_25 : decode cX5_dry 25 = .ok (.ireturn, 1) := by decide +kernel
theorem dX5_now_0 : decode cX5_now 0 = .ok (.iload_n 1, 1) := by decide +kernel
theorem dX5_now_1 : decode cX5_now 1 = .ok (.tableswitch 85 0 6 #[43, 50, 57, 63, 69, 74, 80], 43) := by decide +kernel
theorem dX5_now_44 : decode cX5_now 44 = .ok (.aload_n 0, 1) := by decide +kernel
theorem dX5_now_45 : decode cX5_now 45 = .ok (.getfield 7, 3) := by decide +kernel
theorem dX5_now_48 : decode cX5_now 48 = .ok (.iconst 0, 1) := by decide +kernel
theorem dX5_now_49 : decode cX5_now 49 = .ok (.iaload, 1) := by decide +kernel
theorem dX5_now_50 : decode cX5_now 50 = .ok (.ireturn, 1) := by decide +kernel
theorem dX5_now_51 : decode cX5_now 51 = .ok (.aload_n 0, 1) := by decide +kernel
theorem dX5_now_52 : decode cX5_now 52 = .ok (.getfield 7, 3) := by decide +kernel
theorem dX5_now_55 : decode cX5_now 55 = .ok (.iconst 1, 1) := by decide +kernel
theorem dX5_now_56 : decode cX5_now 56 = .ok (.iaload, 1) := by decide +kernel
theorem dX5_now_57 : decode cX5_now 57 = .ok (.ireturn, 1) := by decide +kernel
theorem dX5_now_58 : decode cX5_now 58 = .ok (.aload_n 0, 1) := by decide +kernel
theorem dX5_now_59 : decode cX5_now 59 = .ok (.iconst 0, 1) := by decide +kernel
theorem dX5_now_60 : decode cX5_now 60 = .ok (.invokevirtual 87, 3) := by decide +kernel
theorem dX5_now_63 : decode cX5_now 63 = .ok (.ireturn, 1) := by decide +kernel
theorem dX5_now_64 : decode cX5_now 64 = .ok (.aload_n 0, 1) := by decide +kernel
theorem dX5_now_65 : decode cX5_now 65 = .ok (.iconst 1, 1) := by decide +kernel
theorem dX5_now_66 : decode cX5_now 66 = .ok (.invokevirtual 87, 3) := by decide +kernel
theorem dX5_now_69 : decode cX5_now 69 = .ok (.ireturn, 1) := by decide +kernel
theorem dX5_now_70 : decode cX5_now 70 = .ok (.aload_n 0, 1) := by decide +kernel
theorem dX5_now_71 : decode cX5_now 71 = .ok (.invokevirtual 90, 3) := by decide +kernel
theorem dX5_now_74 : decode cX5_now 74 = .ok (.ireturn, 1) := by decide +kernel
theorem dX5_now_75 : decode cX5_now 75 = .ok (.aload_n 0, 1) := by decide +kernel
theorem dX5_now_76 : decode cX5_now 76 = .ok (.iconst 3, 1) := by decide +kernel
theorem dX5_now_77 : decode cX5_now 77 = .ok (.invokevirtual 93, 3) := by decide +kernel
theorem dX5_now_80 : decode cX5_now 80 = .ok (.ireturn, 1) := by decide +kernel
theorem dX5_now_81 : decode cX5_now 81 = .ok (.aload_n 0, 1) := by decide +kernel
theorem dX5_now_82 : decode cX5_now 82 = .ok (.invokevirtual 96, 3) := by decide +kernel
theorem dX5_now_85 : decode cX5_now 85 = .ok (.ireturn, 1) := by decide +kernel
theorem dX5_now_86 : decode cX5_now 86 = .ok (.aload_n 0, 1) := by decide +kernel
theorem dX5_now_87 : decode cX5_now 87 = .ok (.ldc 44, 2) := by decide +kernel
theorem dX5_now_89 : decode cX5_now 89 = .ok (.invokevirtual 81, 3) := by decide +kernel
theorem dX5_now_92 : decode cX5_now 92 = .ok (.ireturn, 1) := by decide +kernel
theorem dX5_adds_0 : decode cX5_adds 0 = .ok (.aload_n 0, 1) := by decide +kernel
theorem dX5_adds_1 : decode cX5_adds 1 = .ok (.getfield 7, 3) := by decide +kernel
theorem dX5_adds_4 : decode cX5_adds 4 = .ok (.iconst 2, 1) := by decide +kernel
theorem dX5_adds_5 : decode cX5_adds 5 = .ok (.iaload, 1) := by decide +kernel
theorem dX5_adds_6 : decode cX5_adds 6 = .ok (.istore 6, 2) := by decide +kernel
theorem dX5_adds_8 : decode cX5_adds 8 = .ok (.aload_n 0, 1) := by decide +kernel
theorem dX5_adds_9 : decode cX5_adds 9 = .ok (.iload 6, 2) := by decide +kernel
theorem dX5_adds_11 : decode cX5_adds 11 = .ok (.iconst 0, 1) := by decide +kernel
theorem dX5_adds_12 : decode cX5_adds 12 = .ok (.iload_n 1, 1) := by decide +kernel
theorem dX5_adds_13 : decode cX5_adds 13 = .ok (.invokevirtual 99, 3) := by decide +kernel
theorem dX5_adds_16 : decode cX5_adds 16 = .ok (.aload_n 0, 1) := by decide +kernel
theorem dX5_adds_17 : decode cX5_adds 17 = .ok (.iload 6, 2) := by decide +kernel
theorem dX5_adds_19 : decode cX5_adds 19 = .ok (.iconst 1, 1) := by decide +kernel
theorem dX5_adds_20 : decode cX5_adds 20 = .ok (.iload_n 2, 1) := by decide +kernel
theorem dX5_adds_21 : decode cX5_adds 21 = .ok (.invokevirtual 99, 3) := by decide +kernel
theorem dX5_adds_24 : decode cX5_adds 24 = .ok (.aload_n 0, 1) := by decide +kernel
theorem dX5_adds_25 : decode cX5_adds 25 = .ok (.iload 6, 2) := by decide +kernel
theorem dX5_adds_27 : decode cX5_adds 27 = .ok (.iconst 2, 1) := by decide +kernel
theorem dX5_adds_28 : decode cX5_adds 28 = .ok (.iload_n 3, 1) := by decide +kernel
theorem dX5_adds_29 : decode cX5_adds 29 = .ok (.invokevirtual 99, 3) := by decide +kernel
theorem dX5_adds_32 : decode cX5_adds 32 = .ok (.aload_n 0, 1) := by decide +kernel
theorem dX5_adds_33 : decode cX5_adds 33 = .ok (.iload 6, 2) := by decide +kernel
theorem dX5_adds_35 : decode cX5_adds 35 = .ok (.iconst 3, 1) := by decide +kernel
theorem dX5_adds_36 : decode cX5_adds 36 = .ok (.iload 4, 2) := by decide +kernel
theorem dX5_adds_38 : decode cX5_adds 38 = .ok (.invokevirtual 99, 3) := by decide +kernel
theorem dX5_adds_41 : decode cX5_adds 41 = .ok (.aload_n 0, 1) := by decide +kernel
theorem dX5_adds_42 : decode cX5_adds 42 = .ok (.iload 6, 2) := by decide +kernel
theorem dX5_adds_44 : decode cX5_adds 44 = .ok (.iconst 4, 1) := by decide +kernel
theorem dX5_adds_45 : decode cX5_adds 45 = .ok (.iload 5, 2) := by decide +kernel
theorem dX5_adds_47 : decode cX5_adds 47 = .ok (.invokevirtual 99, 3) := by decide +kernel
theorem dX5_adds_50 : decode cX5_adds 50 = .ok (.aload_n 0, 1) := by decide +kernel
theorem dX5_adds_51 : decode cX5_adds 51 = .ok (.iload 6, 2) := by decide +kernel
theorem dX5_adds_53 : decode cX5_adds 53 = .ok (.iconst 5, 1) := by decide +kernel
theorem dX5_adds_54 : decode cX5_adds 54 = .ok (.iconst 0, 1) := by decide +kernel
theorem dX5_adds_55 : decode cX5_adds 55 = .ok (.invokevirtual 99, 3) := by decide +kernel
theorem dX5_adds_58 : decode cX5_adds 58 = .ok (.aload_n 0, 1) := by decide +kernel
theorem dX5_adds_59 : decode cX5_adds 59 = .ok (.getfield 7, 3) := by decide +kernel
theorem dX5_adds_62 : decode cX5_adds 62 = .ok (.iconst 2, 1) := by decide +kernel
theorem dX5_adds_63 : decode cX5_adds 63 = .ok (.dup2, 1) := by decide +kernel
theorem dX5_adds_64 : decode cX5_adds 64 = .ok (.iaload, 1) := by decide +kernel
theorem dX5_adds_65 : decode cX5_adds 65 = .ok (.iconst 1, 1) := by decide +kernel
theorem dX5_adds_66 : decode cX5_adds 66 = .ok (.iadd, 1) := by decide +kernel
theorem dX5_adds_67 : decode cX5_adds 67 = .ok (.iastore, 1) := by decide +kernel
theorem dX5_adds_68 : decode cX5_adds 68 = .ok (.return_, 1) := by decide +kernel
theorem dX5_sneezer_0 : decode cX5_sneezer 0 = .ok (.iload_n 1, 1) := by decide +kernel
theorem dX5_sneezer_1 : decode cX5_sneezer 1 = .ok (.invokestatic 103, 3) := by decide +kernel
theorem dX5_sneezer_4 : decode cX5_sneezer 4 = .ok (.ifCond .eq 10, 3) := by decide +kernel
theorem dX5_sneezer_7 : decode cX5_sneezer 7 = .ok (.iload_n 2, 1) := by decide +kernel
theorem dX5_sneezer_8 : decode cX5_sneezer 8 = .ok (.invokestatic 72, 3) := by decide +kernel
theorem dX5_sneezer_11 : decode cX5_sneezer 11 = .ok (.ifCond .ne 10, 3) := by decide +kernel
theorem dX5_sneezer_14 : decode cX5_sneezer 14 = .ok (.aload_n 0, 1) := by decide +kernel
theorem dX5_sneezer_15 : decode cX5_sneezer 15 = .ok (.ldc 44, 2) := by decide +kernel
theorem dX5_sneezer_17 : decode cX5_sneezer 17 = .ok (.invokevirtual 81, 3) := by decide +kernel
theorem dX5_sneezer_20 : decode cX5_sneezer 20 = .ok (.ireturn, 1) := by decide +kernel
theorem dX5_sneezer_21 : decode cX5_sneezer 21 = .ok (.aload_n 0, 1) := by decide +kernel
theorem dX5_sneezer_22 : decode cX5_sneezer 22 = .ok (.getfield 7, 3) := by decide +kernel
theorem dX5_sneezer_25 : decode cX5_sneezer 25 = .ok (.iconst 2, 1) := by decide +kernel
theorem dX5_sneezer_26 : decode cX5_sneezer 26 = .ok (.iaload, 1) := by decide +kernel
theorem dX5_sneezer_27 : decode cX5_sneezer 27 = .ok (.bipush 8, 2) := by decide +kernel
theorem dX5_sneezer_29 : decode cX5_sneezer 29 = .ok (.if_icmp .ne 10, 3) := by decide +kernel
theorem dX5_sneezer_32 : decode cX5_sneezer 32 = .ok (.aload_n 0, 1) := by decide +kernel
theorem dX5_sneezer_33 : decode cX5_sneezer 33 = .ok (.ldc 106, 2) := by decide +kernel
theorem dX5_sneezer_35 : decode cX5_sneezer 35 = .ok (.invokevirtual 81, 3) := by decide +kernel
theorem dX5_sneezer_38 : decode cX5_sneezer 38 = .ok (.ireturn, 1) := by decide +kernel
theorem dX5_sneezer_39 : decode cX5_sneezer 39 = .ok (.aload_n 0, 1) := by decide +kernel
theorem dX5_sneezer_40 : decode cX5_sneezer 40 = .ok (.iload_n 1, 1) := by decide +kernel
theorem dX5_sneezer_41 : decode cX5_sneezer 41 = .ok (.iload_n 2, 1) := by decide +kernel
theorem dX5_sneezer_42 : decode cX5_sneezer 42 = .ok (.iconst 1, 1) := by decide +kernel
theorem dX5_sneezer_43 : decode cX5_sneezer 43 = .ok (.bipush 20, 2) := by decide +kernel
theorem dX5_sneezer_45 : decode cX5_sneezer 45 = .ok (.iconst 0, 1) := by decide +kernel
theorem dX5_sneezer_46 : decode cX5_sneezer 46 = .ok (.invokevirtual 107, 3) := by decide +kernel
theorem dX5_sneezer_49 : decode cX5_sneezer 49 = .ok (.aload_n 0, 1) := by decide +kernel
theorem dX5_sneezer_50 : decode cX5_sneezer 50 = .ok (.getfield 7, 3) := by decide +kernel
theorem dX5_sneezer_53 : decode cX5_sneezer 53 = .ok (.iconst 2, 1) := by decide +kernel
theorem dX5_sneezer_54 : decode cX5_sneezer 54 = .ok (.iaload, 1) := by decide +kernel
theorem dX5_sneezer_55 : decode cX5_sneezer 55 = .ok (.iconst 1, 1) := by decide +kernel
theorem dX5_sneezer_56 : decode cX5_sneezer 56 = .ok (.isub, 1) := by decide +kernel
theorem dX5_sneezer_57 : decode cX5_sneezer 57 = .ok (.ireturn, 1) := by decide +kernel
theorem dX5_of_0 : decode cX5_of 0 = .ok (.aload_n 0, 1) := by decide +kernel
theorem dX5_of_1 : decode cX5_of 1 = .ok (.iload_n 1, 1) := by decide +kernel
theorem dX5_of_2 : decode cX5_of 2 = .ok (.invokevirtual 111, 3) := by decide +kernel
theorem dX5_of_5 : decode cX5_of 5 = .ok (.ifCond .eq 13, 3) := by decide +kernel
theorem dX5_of_8 : decode cX5_of 8 = .ok (.iload_n 2, 1) := by decide +kernel
theorem dX5_of_9 : decode cX5_of 9 = .ok (.iconst 0, 1) := by decide +kernel
theorem dX5_of_10 : decode cX5_of 10 = .ok (.bipush 9, 2) := by decide +kernel
theorem dX5_of_12 : decode cX5_of 12 = .ok (.invokestatic 45, 3) := by decide +kernel
theorem dX5_of_15 : decode cX5_of 15 = .ok (.ifCond .ne 10, 3) := by decide +kernel
theorem dX5_of_18 : decode cX5_of 18 = .ok (.aload_n 0, 1) := by decide +kernel
theorem dX5_of_19 : decode cX5_of 19 = .ok (.ldc 44, 2) := by decide +kernel
theorem dX5_of_21 : decode cX5_of 21 = .ok (.invokevirtual 81, 3) := by decide +kernel
theorem dX5_of_24 : decode cX5_of 24 = .ok (.ireturn, 1) := by decide +kernel
theorem dX5_of_25 : decode cX5_of 25 = .ok (.iload_n 2, 1) := by decide +kernel
theorem dX5_of_26 : decode cX5_of 26 = .ok (.tableswitch 54 6 9 #[30, 36, 42, 48], 30) := by decide +kernel
theorem dX5_of_56 : decode cX5_of 56 = .ok (.aload_n 0, 1) := by decide +kernel
theorem dX5_of_57 : decode cX5_of 57 = .ok (.iload_n 1, 1) := by decide +kernel
theorem dX5_of_58 : decode cX5_of 58 = .ok (.invokevirtual 114, 3) := by decide +kernel
theorem dX5_of_61 : decode cX5_of 61 = .ok (.ireturn, 1) := by decide +kernel
theorem dX5_of_62 : decode cX5_of 62 = .ok (.aload_n 0, 1) := by decide +kernel
theorem dX5_of_63 : decode cX5_of 63 = .ok (.iload_n 1, 1) := by decide +kernel
theorem dX5_of_64 : decode cX5_of 64 = .ok (.invokevirtual 64, 3) := by decide +kernel
theorem dX5_of_67 : decode cX5_of 67 = .ok (.ireturn, 1) := by decide +kernel
theorem dX5_of_68 : decode cX5_of 68 = .ok (.aload_n 0, 1) := by decide +kernel
theorem dX5_of_69 : decode cX5_of 69 = .ok (.iload_n 1, 1) := by decide +kernel
theorem dX5_of_70 : decode cX5_of 70 = .ok (.invokevirtual 117, 3) := by decide +kernel
theorem dX5_of_73 : decode cX5_of 73 = .ok (.ireturn, 1) := by decide +kernel
theorem dX5_of_74 : decode cX5_of 74 = .ok (.aload_n 0, 1) := by decide +kernel
theorem dX5_of_75 : decode cX5_of 75 = .ok (.iload_n 1, 1) := by decide +kernel
theorem dX5_of_76 : decode cX5_of 76 = .ok (.invokevirtual 120, 3) := by decide +kernel
theorem dX5_of_79 : decode cX5_of 79 = .ok (.ireturn, 1) := by decide +kernel
theorem dX5_of_80 : decode cX5_of 80 = .ok (.aload_n 0, 1) := by decide +kernel
theorem dX5_of_81 : decode cX5_of 81 = .ok (.iload_n 1, 1) := by decide +kernel
theorem dX5_of_82 : decode cX5_of 82 = .ok (.iload_n 2, 1) := by decide +kernel
theorem dX5_of_83 : decode cX5_of 83 = .ok (.invokevirtual 53, 3) := by decide +kernel
theorem dX5_of_86 : decode cX5_of 86 = .ok (.ireturn, 1) := by decide +kernel
theorem dX5_isPart_0 : decode cX5_isPart 0 = .ok (.iload_n 0, 1) := by decide +kernel
theorem dX5_isPart_1 : decode cX5_isPart 1 = .ok (.tableswitch 51 1 4 #[31, 36, 43, 43], 31) := by decide +kernel
theorem dX5_isPart_32 : decode cX5_isPart 32 = .ok (.iload_n 1, 1) := by decide +kernel
theorem dX5_isPart_33 : decode cX5_isPart 33 = .ok (.invokestatic 72, 3) := by decide +kernel
theorem dX5_isPart_36 : decode cX5_isPart 36 = .ok (.ireturn, 1) := by decide +kernel
theorem dX5_isPart_37 : decode cX5_isPart 37 = .ok (.iload_n 1, 1) := by decide +kernel
theorem dX5_isPart_38 : decode cX5_isPart 38 = .ok (.iconst 0, 1) := by decide +kernel
theorem dX5_isPart_39 : decode cX5_isPart 39 = .ok (.iconst 1, 1) := by decide +kernel
theorem dX5_isPart_40 : decode cX5_isPart 40 = .ok (.invokestatic 45, 3) := by decide +kernel
theorem dX5_isPart_43 : decode cX5_isPart 43 = .ok (.ireturn, 1) := by decide +kernel
theorem dX5_isPart_44 : decode cX5_isPart 44 = .ok (.iload_n 1, 1) := by decide +kernel
theorem dX5_isPart_45 : decode cX5_isPart 45 = .ok (.iconst 0, 1) := by decide +kernel
theorem dX5_isPart_46 : decode cX5_isPart 46 = .ok (.bipush 99, 2) := by decide +kernel
theorem dX5_isPart_48 : decode cX5_isPart 48 = .ok (.invokestatic 45, 3) := by decide +kernel
theorem dX5_isPart_51 : decode cX5_isPart 51 = .ok (.ireturn, 1) := by decide +kernel
theorem dX5_isPart_52 : decode cX5_isPart 52 = .ok (.iload_n 0, 1) := by decide +kernel
theorem dX5_isPart_53 : decode cX5_isPart 53 = .ok (.iconst 5, 1) := by decide +kernel
theorem dX5_isPart_54 : decode cX5_isPart 54 = .ok (.if_icmp .ne 18, 3) := by decide +kernel
theorem dX5_isPart_57 : decode cX5_isPart 57 = .ok (.iload_n 1, 1) := by decide +kernel
theorem dX5_isPart_58 : decode cX5_isPart 58 = .ok (.iconst 0, 1) := by decide +kernel
theorem dX5_isPart_59 : decode cX5_isPart 59 = .ok (.sipush 9999, 3) := by decide +kernel
theorem dX5_isPart_62 : decode cX5_isPart 62 = .ok (.invokestatic 45, 3) := by decide +kernel
theorem dX5_isPart_65 : decode cX5_isPart 65 = .ok (.ifCond .eq 7, 3) := by decide +kernel
theorem dX5_isPart_68 : decode cX5_isPart 68 = .ok (.iconst 1, 1) := by decide +kernel
theorem dX5_isPart_69 : decode cX5_isPart 69 = .ok (.goto 4, 3) := by decide +kernel
theorem dX5_isPart_72 : decode cX5_isPart 72 = .ok (.iconst 0, 1) := by decide +kernel
theorem dX5_isPart_73 : decode cX5_isPart 73 = .ok (.ireturn, 1) := by decide +kernel
theorem dX5_set_0 : decode cX5_set 0 = .ok (.aload_n 0, 1) := by decide +kernel
theorem dX5_set_1 : decode cX5_set 1 = .ok (.iload_n 1, 1) := by decide +kernel
theorem dX5_set_2 : decode cX5_set 2 = .ok (.invokevirtual 111, 3) := by decide +kernel
theorem dX5_set_5 : decode cX5_set 5 = .ok (.ifCond .eq 28, 3) := by decide +kernel
theorem dX5_set_8 : decode cX5_set 8 = .ok (.iload_n 2, 1) := by decide +kernel
theorem dX5_set_9 : decode cX5_set 9 = .ok (.iload_n 3, 1) := by decide +kernel
theorem dX5_set_10 : decode cX5_set 10 = .ok (.invokestatic 123, 3) := by decide +kernel
theorem dX5_set_13 : decode cX5_set 13 = .ok (.ifCond .eq 20, 3) := by decide +kernel
theorem dX5_set_16 : decode cX5_set 16 = .ok (.aload_n 0, 1) := by decide +kernel
theorem dX5_set_17 : decode cX5_set 17 = .ok (.bipush 39, 2) := by decide +kernel
theorem dX5_set_19 : decode cX5_set 19 = .ok (.bipush 6, 2) := by decide +kernel
theorem dX5_set_21 : decode cX5_set 21 = .ok (.iload_n 1, 1) := by decide +kernel
theorem dX5_set_22 : decode cX5_set 22 = .ok (.imul, 1) := by decide +kernel
theorem dX5_set_23 : decode cX5_set 23 = .ok (.iadd, 1) := by decide +kernel
theorem dX5_set_24 : decode cX5_set 24 = .ok (.iload_n 2, 1) := by decide +kernel
theorem dX5_set_25 : decode cX5_set 25 = .ok (.iadd, 1) := by decide +kernel
theorem dX5_set_26 : decode cX5_set 26 = .ok (.iload_n 3, 1) := by decide +kernel
theorem dX5_set_27 : decode cX5_set 27 = .ok (.invokevirtual 78, 3) := by decide +kernel
theorem dX5_set_30 : decode cX5_set 30 = .ok (.goto 9, 3) := by decide +kernel
theorem dX5_set_33 : decode cX5_set 33 = .ok (.aload_n 0, 1) := by decide +kernel
theorem dX5_set_34 : decode cX5_set 34 = .ok (.ldc 44, 2) := by decide +kernel
theorem dX5_set_36 : decode cX5_set 36 = .ok (.invokevirtual 81, 3) := by decide +kernel
theorem dX5_set_39 : decode cX5_set 39 = .ok (.ireturn, 1) := by decide +kernel
theorem dX5_turn_0 : decode cX5_turn 0 = .ok (.aload_n 0, 1) := by decide +kernel
theorem dX5_turn_1 : decode cX5_turn 1 = .ok (.iload_n 1, 1) := by decide +kernel
theorem dX5_turn_2 : decode cX5_turn 2 = .ok (.invokevirtual 111, 3) := by decide +kernel
theorem dX5_turn_5 : decode cX5_turn 5 = .ok (.ifCond .eq 25, 3) := by decide +kernel
theorem dX5_turn_8 : decode cX5_turn 8 = .ok (.iload_n 2, 1) := by decide +kernel
theorem dX5_turn_9 : decode cX5_turn 9 = .ok (.invokestatic 103, 3) := by decide +kernel
theorem dX5_turn_12 : decode cX5_turn 12 = .ok (.ifCond .eq 18, 3) := by decide +kernel
theorem dX5_turn_15 : decode cX5_turn 15 = .ok (.aload_n 0, 1) := by decide +kernel
theorem dX5_turn_16 : decode cX5_turn 16 = .ok (.bipush 39, 2) := by decide +kernel
theorem dX5_turn_18 : decode cX5_turn 18 = .ok (.bipush 6, 2) := by decide +kernel
theorem dX5_turn_20 : decode cX5_turn 20 = .ok (.iload_n 1, 1) := by decide +kernel
theorem dX5_turn_21 : decode cX5_turn 21 = .ok (.imul, 1) := by decide +kernel
theorem dX5_turn_22 : decode cX5_turn 22 = .ok (.iadd, 1) := by decide +kernel
theorem dX5_turn_23 : decode cX5_turn 23 = .ok (.iload_n 2, 1) := by decide +kernel
theorem dX5_turn_24 : decode cX5_turn 24 = .ok (.invokevirtual 78, 3) := by decide +kernel
theorem dX5_turn_27 : decode cX5_turn 27 = .ok (.goto 9, 3) := by decide +kernel
theorem dX5_turn_30 : decode cX5_turn 30 = .ok (.aload_n 0, 1) := by decide +kernel
theorem dX5_turn_31 : decode cX5_turn 31 = .ok (.ldc 44, 2) := by decide +kernel
theorem dX5_turn_33 : decode cX5_turn 33 = .ok (.invokevirtual 81, 3) := by decide +kernel
theorem dX5_turn_36 : decode cX5_turn 36 = .ok (.ireturn, 1) := by decide +kernel
theorem dX5_as_0 : decode cX5_as 0 = .ok (.aload_n 0, 1) := by decide +kernel
theorem dX5_as_1 : decode cX5_as 1 = .ok (.iload_n 1, 1) := by decide +kernel
theorem dX5_as_2 : decode cX5_as 2 = .ok (.invokevirtual 111, 3) := by decide +kernel
theorem dX5_as_5 : decode cX5_as 5 = .ok (.ifCond .eq 10, 3) := by decide +kernel
theorem dX5_as_8 : decode cX5_as 8 = .ok (.iload_n 2, 1) := by decide +kernel
theorem dX5_as_9 : decode cX5_as 9 = .ok (.invokestatic 103, 3) := by decide +kernel
theorem dX5_as_12 : decode cX5_as 12 = .ok (.ifCond .ne 10, 3) := by decide +kernel
theorem dX5_as_15 : decode cX5_as 15 = .ok (.aload_n 0, 1) := by decide +kernel
theorem dX5_as_16 : decode cX5_as 16 = .ok (.ldc 44, 2) := by decide +kernel
theorem dX5_as_18 : decode cX5_as 18 = .ok (.invokevirtual 81, 3) := by decide +kernel
theorem dX5_as_21 : decode cX5_as 21 = .ok (.ireturn, 1) := by decide +kernel
theorem dX5_as_22 : decode cX5_as 22 = .ok (.aload_n 0, 1) := by decide +kernel
theorem dX5_as_23 : decode cX5_as 23 = .ok (.iload_n 1, 1) := by decide +kernel
theorem dX5_as_24 : decode cX5_as 24 = .ok (.iconst 0, 1) := by decide +kernel
theorem dX5_as_25 : decode cX5_as 25 = .ok (.invokevirtual 53, 3) := by decide +kernel
theorem dX5_as_28 : decode cX5_as 28 = .ok (.istore_n 3, 1) := by decide +kernel
theorem dX5_as_29 : decode cX5_as 29 = .ok (.iload_n 2, 1) := by decide +kernel
theorem dX5_as_30 : decode cX5_as 30 = .ok (.ifCond .eq 28, 3) := by decide +kernel
theorem dX5_as_33 : decode cX5_as 33 = .ok (.iload_n 2, 1) := by decide +kernel
theorem dX5_as_34 : decode cX5_as 34 = .ok (.iload_n 3, 1) := by decide +kernel
theorem dX5_as_35 : decode cX5_as 35 = .ok (.if_icmp .eq 23, 3) := by decide +kernel
theorem dX5_as_38 : decode cX5_as 38 = .ok (.iload_n 2, 1) := by decide +kernel
theorem dX5_as_39 : decode cX5_as 39 = .ok (.iconst 1, 1) := by decide +kernel
theorem dX5_as_40 : decode cX5_as 40 = .ok (.if_icmp .ne 8, 3) := by decide +kernel
theorem dX5_as_43 : decode cX5_as 43 = .ok (.iload_n 3, 1) := by decide +kernel
theorem dX5_as_44 : decode cX5_as 44 = .ok (.iconst 4, 1) := by decide +kernel
theorem dX5_as_45 : decode cX5_as 45 = .ok (.if_icmp .eq 13, 3) := by decide +kernel
theorem dX5_as_48 : decode cX5_as 48 = .ok (.iload_n 2, 1) := by decide +kernel
theorem dX5_as_49 : decode cX5_as 49 = .ok (.iconst 2, 1) := by decide +kernel
theorem dX5_as_50 : decode cX5_as 50 = .ok (.if_icmp .ne 12, 3) := by decide +kernel
theorem dX5_as_53 : decode cX5_as 53 = .ok (.iload_n 3, 1) := by decide +kernel
theorem dX5_as_54 : decode cX5_as 54 = .ok (.iconst 5, 1) := by decide +kernel
theorem dX5_as_55 : decode cX5_as 55 = .ok (.if_icmp .ne 7, 3) := by decide +kernel
theorem dX5_as_58 : decode cX5_as 58 = .ok (.iconst 1, 1) := by decide +kernel
theorem dX5_as_59 : decode cX5_as 59 = .ok (.goto 4, 3) := by decide +kernel
theorem dX5_as_62 : decode cX5_as 62 = .ok (.iconst 0, 1) := by decide +kernel
theorem dX5_as_63 : decode cX5_as 63 = .ok (.istore 4, 2) := by decide +kernel
theorem dX5_as_65 : decode cX5_as 65 = .ok (.iload 4, 2) := by decide +kernel
theorem dX5_as_67 : decode cX5_as 67 = .ok (.ifCond .eq 12, 3) := by decide +kernel
theorem dX5_as_70 : decode cX5_as 70 = .ok (.aload_n 0, 1) := by decide +kernel
theorem dX5_as_71 : decode cX5_as 71 = .ok (.iload_n 1, 1) := by decide +kernel
theorem dX5_as_72 : decode cX5_as 72 = .ok (.iconst 3, 1) := by decide +kernel
theorem dX5_as_73 : decode cX5_as 73 = .ok (.invokevirtual 53, 3) := by decide +kernel
theorem dX5_as_76 : decode cX5_as 76 = .ok (.goto 9, 3) := by decide +kernel
theorem dX5_as_79 : decode cX5_as 79 = .ok (.aload_n 0, 1) := by decide +kernel
theorem dX5_as_80 : decode cX5_as 80 = .ok (.ldc 127, 2) := by decide +kernel
theorem dX5_as_82 : decode cX5_as 82 = .ok (.invokevirtual 81, 3) := by decide +kernel
theorem dX5_as_85 : decode cX5_as 85 = .ok (.ireturn, 1) := by decide +kernel
theorem dX5_burns_0 : decode cX5_burns 0 = .ok (.aload_n 0, 1) := by decide +kernel
theorem dX5_burns_1 : decode cX5_burns 1 = .ok (.iload_n 1, 1) := by decide +kernel
theorem dX5_burns_2 : decode cX5_burns 2 = .ok (.iconst 0, 1) := by decide +kernel
theorem dX5_burns_3 : decode cX5_burns 3 = .ok (.invokevirtual 49, 3) := by decide +kernel
theorem dX5_burns_6 : decode cX5_burns 6 = .ok (.ifCond .le 38, 3) := by decide +kernel
theorem dX5_burns_9 : decode cX5_burns 9 = .ok (.aload_n 0, 1) := by decide +kernel
theorem dX5_burns_10 : decode cX5_burns 10 = .ok (.iload_n 1, 1) := by decide +kernel
theorem dX5_burns_11 : decode cX5_burns 11 = .ok (.iconst 2, 1) := by decide +kernel
theorem dX5_burns_12 : decode cX5_burns 12 = .ok (.aload_n 0, 1) := by decide +kernel
theorem dX5_burns_13 : decode cX5_burns 13 = .ok (.iload_n 1, 1) := by decide +kernel
theorem dX5_burns_14 : decode cX5_burns 14 = .ok (.iconst 2, 1) := by decide +kernel
theorem dX5_burns_15 : decode cX5_burns 15 = .ok (.invokevirtual 49, 3) := by decide +kernel
theorem dX5_burns_18 : decode cX5_burns 18 = .ok (.iconst 1, 1) := by decide +kernel
theorem dX5_burns_19 : decode cX5_burns 19 = .ok (.iadd, 1) := by decide +kernel
theorem dX5_burns_20 : decode cX5_burns 20 = .ok (.iconst 0, 1) := by decide +kernel
theorem dX5_burns_21 : decode cX5_burns 21 = .ok (.sipush 9999, 3) := by decide +kernel
theorem dX5_burns_24 : decode cX5_burns 24 = .ok (.invokestatic 56, 3) := by decide +kernel
theorem dX5_burns_27 : decode cX5_burns 27 = .ok (.invokevirtual 128, 3) := by decide +kernel
theorem dX5_burns_30 : decode cX5_burns 30 = .ok (.aload_n 0, 1) := by decide +kernel
theorem dX5_burns_31 : decode cX5_burns 31 = .ok (.iload_n 1, 1) := by decide +kernel
theorem dX5_burns_32 : decode cX5_burns 32 = .ok (.iconst 0, 1) := by decide +kernel
theorem dX5_burns_33 : decode cX5_burns 33 = .ok (.aload_n 0, 1) := by decide +kernel
theorem dX5_burns_34 : decode cX5_burns 34 = .ok (.iload_n 1, 1) := by decide +kernel
theorem dX5_burns_35 : decode cX5_burns 35 = .ok (.iconst 0, 1) := by decide +kernel
theorem dX5_burns_36 : decode cX5_burns 36 = .ok (.invokevirtual 49, 3) := by decide +kernel
theorem dX5_burns_39 : decode cX5_burns 39 = .ok (.iconst 1, 1) := by decide +kernel
theorem dX5_burns_40 : decode cX5_burns 40 = .ok (.isub, 1) := by decide +kernel
theorem dX5_burns_41 : decode cX5_burns 41 = .ok (.invokevirtual 128, 3) := by decide +kernel
theorem dX5_burns_44 : decode cX5_burns 44 = .ok (.return_, 1) := by decide +kernel
theorem dX5_lights_0 : decode cX5_lights 0 = .ok (.aload_n 0, 1) := by decide +kernel
theorem dX5_lights_1 : decode cX5_lights 1 = .ok (.iload_n 1, 1) := by decide +kernel
theorem dX5_lights_2 : decode cX5_lights 2 = .ok (.iconst 2, 1) := by decide +kernel
theorem dX5_lights_3 : decode cX5_lights 3 = .ok (.invokevirtual 53, 3) := by decide +kernel
theorem dX5_lights_6 : decode cX5_lights 6 = .ok (.iconst 1, 1) := by decide +kernel
theorem dX5_lights_7 : decode cX5_lights 7 = .ok (.if_icmp .ne 7, 3) := by decide +kernel
theorem dX5_lights_10 : decode cX5_lights 10 = .ok (.iconst 1, 1) := by decide +kernel
theorem dX5_lights_11 : decode cX5_lights 11 = .ok (.goto 4, 3) := by decide +kernel
theorem dX5_lights_14 : decode cX5_lights 14 = .ok (.iconst (-1), 1) := by decide +kernel
theorem dX5_lights_15 : decode cX5_lights 15 = .ok (.istore_n 2, 1) := by decide +kernel
theorem dX5_lights_16 : decode cX5_lights 16 = .ok (.iconst 5, 1) := by decide +kernel
theorem dX5_lights_17 : decode cX5_lights 17 = .ok (.aload_n 0, 1) := by decide +kernel
theorem dX5_lights_18 : decode cX5_lights 18 = .ok (.iload_n 1, 1) := by decide +kernel
theorem dX5_lights_19 : decode cX5_lights 19 = .ok (.iconst 3, 1) := by decide +kernel
theorem dX5_lights_20 : decode cX5_lights 20 = .ok (.invokevirtual 53, 3) := by decide +kernel
theorem dX5_lights_23 : decode cX5_lights 23 = .ok (.bipush 10, 2) := by decide +kernel
theorem dX5_lights_25 : decode cX5_lights 25 = .ok (.idiv, 1) := by decide +kernel
theorem dX5_lights_26 : decode cX5_lights 26 = .ok (.iadd, 1) := by decide +kernel
theorem dX5_lights_27 : decode cX5_lights 27 = .ok (.istore_n 3, 1) := by decide +kernel
theorem dX5_lights_28 : decode cX5_lights 28 = .ok (.aload_n 0, 1) := by decide +kernel
theorem dX5_lights_29 : decode cX5_lights 29 = .ok (.iload_n 1, 1) := by decide +kernel
theorem dX5_lights_30 : decode cX5_lights 30 = .ok (.iconst 1, 1) := by decide +kernel
theorem dX5_lights_31 : decode cX5_lights 31 = .ok (.invokevirtual 53, 3) := by decide +kernel
theorem dX5_lights_34 : decode cX5_lights 34 = .ok (.istore 4, 2) := by decide +kernel
theorem dX5_lights_36 : decode cX5_lights 36 = .ok (.aload_n 0, 1) := by decide +kernel
theorem dX5_lights_37 : decode cX5_lights 37 = .ok (.iload_n 1, 1) := by decide +kernel
theorem dX5_lights_38 : decode cX5_lights 38 = .ok (.invokevirtual 117, 3) := by decide +kernel
theorem dX5_lights_41 : decode cX5_lights 41 = .ok (.istore 5, 2) := by decide +kernel
theorem dX5_lights_43 : decode cX5_lights 43 = .ok (.iload 5, 2) := by decide +kernel
theorem dX5_lights_45 : decode cX5_lights 45 = .ok (.ifCond .le 53, 3) := by decide +kernel
theorem dX5_lights_48 : decode cX5_lights 48 = .ok (.iload 4, 2) := by decide +kernel
theorem dX5_lights_50 : decode cX5_lights 50 = .ok (.iload_n 2, 1) := by decide +kernel
theorem dX5_lights_51 : decode cX5_lights 51 = .ok (.iadd, 1) := by decide +kernel
theorem dX5_lights_52 : decode cX5_lights 52 = .ok (.istore 4, 2) := by decide +kernel
theorem dX5_lights_54 : decode cX5_lights 54 = .ok (.iload 4, 2) := by decide +kernel
theorem dX5_lights_56 : decode cX5_lights 56 = .ok (.invokestatic 72, 3) := by decide +kernel
theorem dX5_lights_59 : decode cX5_lights 59 = .ok (.ifCond .eq 33, 3) := by decide +kernel
theorem dX5_lights_62 : decode cX5_lights 62 = .ok (.aload_n 0, 1) := by decide +kernel
theorem dX5_lights_63 : decode cX5_lights 63 = .ok (.iload 4, 2) := by decide +kernel
theorem dX5_lights_65 : decode cX5_lights 65 = .ok (.iconst 1, 1) := by decide +kernel
theorem dX5_lights_66 : decode cX5_lights 66 = .ok (.invokevirtual 49, 3) := by decide +kernel
theorem dX5_lights_69 : decode cX5_lights 69 = .ok (.iconst 1, 1) := by decide +kernel
theorem dX5_lights_70 : decode cX5_lights 70 = .ok (.if_icmp .ne 22, 3) := by decide +kernel
theorem dX5_lights_73 : decode cX5_lights 73 = .ok (.iload_n 3, 1) := by decide +kernel
theorem dX5_lights_74 : decode cX5_lights 74 = .ok (.aload_n 0, 1) := by decide +kernel
theorem dX5_lights_75 : decode cX5_lights 75 = .ok (.iload 4, 2) := by decide +kernel
theorem dX5_lights_77 : decode cX5_lights 77 = .ok (.iconst 0, 1) := by decide +kernel
theorem dX5_lights_78 : decode cX5_lights 78 = .ok (.invokevirtual 49, 3) := by decide +kernel
theorem dX5_lights_81 : decode cX5_lights 81 = .ok (.if_icmp .le 11, 3) := by decide +kernel
theorem dX5_lights_84 : decode cX5_lights 84 = .ok (.aload_n 0, 1) := by decide +kernel
theorem dX5_lights_85 : decode cX5_lights 85 = .ok (.iload 4, 2) := by decide +kernel
theorem dX5_lights_87 : decode cX5_lights 87 = .ok (.iconst 0, 1) := by decide +kernel
theorem dX5_lights_88 : decode cX5_lights 88 = .ok (.iload_n 3, 1) := by decide +kernel
theorem dX5_lights_89 : decode cX5_lights 89 = .ok (.invokevirtual 128, 3) := by decide +kernel
theorem dX5_lights_92 : decode cX5_lights 92 = .ok (.iinc 5 (-1), 3) := by decide +kernel
theorem dX5_lights_95 : decode cX5_lights 95 = .ok (.goto (-52), 3) := by decide +kernel
theorem dX5_lights_98 : decode cX5_lights 98 = .ok (.return_, 1) := by decide +kernel
theorem dX5_catches_0 : decode cX5_catches 0 = .ok (.iconst 0, 1) := by decide +kernel
theorem dX5_catches_1 : decode cX5_catches 1 = .ok (.istore_n 2, 1) := by decide +kernel
theorem dX5_catches_2 : decode cX5_catches 2 = .ok (.iload_n 2, 1) := by decide +kernel
theorem dX5_catches_3 : decode cX5_catches 3 = .ok (.aload_n 0, 1) := by decide +kernel
theorem dX5_catches_4 : decode cX5_catches 4 = .ok (.getfield 7, 3) := by decide +kernel
theorem dX5_catches_7 : decode cX5_catches 7 = .ok (.iconst 2, 1) := by decide +kernel
theorem dX5_catches_8 : decode cX5_catches 8 = .ok (.iaload, 1) := by decide +kernel
theorem dX5_catches_9 : decode cX5_catches 9 = .ok (.if_icmp .ge 68, 3) := by decide +kernel
theorem dX5_catches_12 : decode cX5_catches 12 = .ok (.aload_n 0, 1) := by decide +kernel
theorem dX5_catches_13 : decode cX5_catches 13 = .ok (.iload_n 2, 1) := by decide +kernel
theorem dX5_catches_14 : decode cX5_catches 14 = .ok (.iconst 1, 1) := by decide +kernel
theorem dX5_catches_15 : decode cX5_catches 15 = .ok (.invokevirtual 53, 3) := by decide +kernel
theorem dX5_catches_18 : decode cX5_catches 18 = .ok (.aload_n 0, 1) := by decide +kernel
theorem dX5_catches_19 : decode cX5_catches 19 = .ok (.iload_n 1, 1) := by decide +kernel
theorem dX5_catches_20 : decode cX5_catches 20 = .ok (.iconst 1, 1) := by decide +kernel
theorem dX5_catches_21 : decode cX5_catches 21 = .ok (.invokevirtual 53, 3) := by decide +kernel
theorem dX5_catches_24 : decode cX5_catches 24 = .ok (.isub, 1) := by decide +kernel
theorem dX5_catches_25 : decode cX5_catches 25 = .ok (.istore_n 3, 1) := by decide +kernel
theorem dX5_catches_26 : decode cX5_catches 26 = .ok (.iload_n 2, 1) := by decide +kernel
theorem dX5_catches_27 : decode cX5_catches 27 = .ok (.iload_n 1, 1) := by decide +kernel
theorem dX5_catches_28 : decode cX5_catches 28 = .ok (.if_icmp .eq 43, 3) := by decide +kernel
theorem dX5_catches_31 : decode cX5_catches 31 = .ok (.iload_n 3, 1) := by decide +kernel
theorem dX5_catches_32 : decode cX5_catches 32 = .ok (.iconst (-1), 1) := by decide +kernel
theorem dX5_catches_33 : decode cX5_catches 33 = .ok (.iconst 1, 1) := by decide +kernel
theorem dX5_catches_34 : decode cX5_catches 34 = .ok (.invokestatic 45, 3) := by decide +kernel
theorem dX5_catches_37 : decode cX5_catches 37 = .ok (.ifCond .eq 34, 3) := by decide +kernel
theorem dX5_catches_40 : decode cX5_catches 40 = .ok (.aload_n 0, 1) := by decide +kernel
theorem dX5_catches_41 : decode cX5_catches 41 = .ok (.iload_n 2, 1) := by decide +kernel
theorem dX5_catches_42 : decode cX5_catches 42 = .ok (.iconst 0, 1) := by decide +kernel
theorem dX5_catches_43 : decode cX5_catches 43 = .ok (.invokevirtual 53, 3) := by decide +kernel
theorem dX5_catches_46 : decode cX5_catches 46 = .ok (.iconst 3, 1) := by decide +kernel
theorem dX5_catches_47 : decode cX5_catches 47 = .ok (.if_icmp .eq 24, 3) := by decide +kernel
theorem dX5_catches_50 : decode cX5_catches 50 = .ok (.aload_n 0, 1) := by decide +kernel
theorem dX5_catches_51 : decode cX5_catches 51 = .ok (.iload_n 2, 1) := by decide +kernel
theorem dX5_catches_52 : decode cX5_catches 52 = .ok (.iconst 3, 1) := by decide +kernel
theorem dX5_catches_53 : decode cX5_catches 53 = .ok (.aload_n 0, 1) := by decide +kernel
theorem dX5_catches_54 : decode cX5_catches 54 = .ok (.iload_n 2, 1) := by decide +kernel
theorem dX5_catches_55 : decode cX5_catches 55 = .ok (.iconst 3, 1) := by decide +kernel
theorem dX5_catches_56 : decode cX5_catches 56 = .ok (.invokevirtual 53, 3) := by decide +kernel
theorem dX5_catches_59 : decode cX5_catches 59 = .ok (.bipush 6, 2) := by decide +kernel
theorem dX5_catches_61 : decode cX5_catches 61 = .ok (.iadd, 1) := by decide +kernel
theorem dX5_catches_62 : decode cX5_catches 62 = .ok (.iconst 0, 1) := by decide +kernel
theorem dX5_catches_63 : decode cX5_catches 63 = .ok (.bipush 99, 2) := by decide +kernel
theorem dX5_catches_65 : decode cX5_catches 65 = .ok (.invokestatic 56, 3) := by decide +kernel
theorem dX5_catches_68 : decode cX5_catches 68 = .ok (.invokevirtual 99, 3) := by decide +kernel
theorem dX5_catches_71 : decode cX5_catches 71 = .ok (.iinc 2 1, 3) := by decide +kernel
theorem dX5_catches_74 : decode cX5_catches 74 = .ok (.goto (-72), 3) := by decide +kernel
theorem dX5_catches_77 : decode cX5_catches 77 = .ok (.return_, 1) := by decide +kernel
theorem dX5_goesOff_0 : decode cX5_goesOff 0 = .ok (.aload_n 0, 1) := by decide +kernel
theorem dX5_goesOff_1 : decode cX5_goesOff 1 = .ok (.iload_n 1, 1) := by decide +kernel
theorem dX5_goesOff_2 : decode cX5_goesOff 2 = .ok (.iconst 4, 1) := by decide +kernel
theorem dX5_goesOff_3 : decode cX5_goesOff 3 = .ok (.iconst 0, 1) := by decide +kernel
theorem dX5_goesOff_4 : decode cX5_goesOff 4 = .ok (.invokevirtual 99, 3) := by decide +kernel
theorem dX5_goesOff_7 : decode cX5_goesOff 7 = .ok (.aload_n 0, 1) := by decide +kernel
theorem dX5_goesOff_8 : decode cX5_goesOff 8 = .ok (.iload_n 1, 1) := by decide +kernel
theorem dX5_goesOff_9 : decode cX5_goesOff 9 = .ok (.iconst 5, 1) := by decide +kernel
theorem dX5_goesOff_10 : decode cX5_goesOff 10 = .ok (.aload_n 0, 1) := by decide +kernel
theorem dX5_goesOff_11 : decode cX5_goesOff 11 = .ok (.iload_n 1, 1) := by decide +kernel
theorem dX5_goesOff_12 : decode cX5_goesOff 12 = .ok (.iconst 5, 1) := by decide +kernel
theorem dX5_goesOff_13 : decode cX5_goesOff 13 = .ok (.invokevirtual 53, 3) := by decide +kernel
theorem dX5_goesOff_16 : decode cX5_goesOff 16 = .ok (.iconst 1, 1) := by decide +kernel
theorem dX5_goesOff_17 : decode cX5_goesOff 17 = .ok (.iadd, 1) := by decide +kernel
theorem dX5_goesOff_18 : decode cX5_goesOff 18 = .ok (.iconst 0, 1) := by decide +kernel
theorem dX5_goesOff_19 : decode cX5_goesOff 19 = .ok (.sipush 9999, 3) := by decide +kernel
theorem dX5_goesOff_22 : decode cX5_goesOff 22 = .ok (.invokestatic 56, 3) := by decide +kernel
theorem dX5_goesOff_25 : decode cX5_goesOff 25 = .ok (.invokevirtual 99, 3) := by decide +kernel
theorem dX5_goesOff_28 : decode cX5_goesOff 28 = .ok (.aload_n 0, 1) := by decide +kernel
theorem dX5_goesOff_29 : decode cX5_goesOff 29 = .ok (.iload_n 1, 1) := by decide +kernel
theorem dX5_goesOff_30 : decode cX5_goesOff 30 = .ok (.invokevirtual 131, 3) := by decide +kernel
theorem dX5_goesOff_33 : decode cX5_goesOff 33 = .ok (.aload_n 0, 1) := by decide +kernel
theorem dX5_goesOff_34 : decode cX5_goesOff 34 = .ok (.iload_n 1, 1) := by decide +kernel
theorem dX5_goesOff_35 : decode cX5_goesOff 35 = .ok (.invokevirtual 135, 3) := by decide +kernel
theorem dX5_goesOff_38 : decode cX5_goesOff 38 = .ok (.return_, 1) := by decide +kernel
theorem dX5_oneMinute_0 : decode cX5_oneMinute 0 = .ok (.iconst 0, 1) := by decide +kernel
theorem dX5_oneMinute_1 : decode cX5_oneMinute 1 = .ok (.istore_n 1, 1) := by decide +kernel
theorem dX5_oneMinute_2 : decode cX5_oneMinute 2 = .ok (.iload_n 1, 1) := by decide +kernel
theorem dX5_oneMinute_3 : decode cX5_oneMinute 3 = .ok (.bipush 12, 2) := by decide +kernel
theorem dX5_oneMinute_5 : decode cX5_oneMinute 5 = .ok (.if_icmp .ge 14, 3) := by decide +kernel
theorem dX5_oneMinute_8 : decode cX5_oneMinute 8 = .ok (.aload_n 0, 1) := by decide +kernel
theorem dX5_oneMinute_9 : decode cX5_oneMinute 9 = .ok (.iload_n 1, 1) := by decide +kernel
theorem dX5_oneMinute_10 : decode cX5_oneMinute 10 = .ok (.invokevirtual 138, 3) := by decide +kernel
theorem dX5_oneMinute_13 : decode cX5_oneMinute 13 = .ok (.iinc 1 1, 3) := by decide +kernel
theorem dX5_oneMinute_16 : decode cX5_oneMinute 16 = .ok (.goto (-14), 3) := by decide +kernel
theorem dX5_oneMinute_19 : decode cX5_oneMinute 19 = .ok (.iconst 0, 1) := by decide +kernel
theorem dX5_oneMinute_20 : decode cX5_oneMinute 20 = .ok (.istore_n 1, 1) := by decide +kernel
theorem dX5_oneMinute_21 : decode cX5_oneMinute 21 = .ok (.iload_n 1, 1) := by decide +kernel
theorem dX5_oneMinute_22 : decode cX5_oneMinute 22 = .ok (.aload_n 0, 1) := by decide +kernel
theorem dX5_oneMinute_23 : decode cX5_oneMinute 23 = .ok (.getfield 7, 3) := by decide +kernel
theorem dX5_oneMinute_26 : decode cX5_oneMinute 26 = .ok (.iconst 2, 1) := by decide +kernel
theorem dX5_oneMinute_27 : decode cX5_oneMinute 27 = .ok (.iaload, 1) := by decide +kernel
theorem dX5_oneMinute_28 : decode cX5_oneMinute 28 = .ok (.if_icmp .ge 33, 3) := by decide +kernel
theorem dX5_oneMinute_31 : decode cX5_oneMinute 31 = .ok (.aload_n 0, 1) := by decide +kernel
theorem dX5_oneMinute_32 : decode cX5_oneMinute 32 = .ok (.iload_n 1, 1) := by decide +kernel
theorem dX5_oneMinute_33 : decode cX5_oneMinute 33 = .ok (.iconst 4, 1) := by decide +kernel
theorem dX5_oneMinute_34 : decode cX5_oneMinute 34 = .ok (.aload_n 0, 1) := by decide +kernel
theorem dX5_oneMinute_35 : decode cX5_oneMinute 35 = .ok (.iload_n 1, 1) := by decide +kernel
theorem dX5_oneMinute_36 : decode cX5_oneMinute 36 = .ok (.iconst 4, 1) := by decide +kernel
theorem dX5_oneMinute_37 : decode cX5_oneMinute 37 = .ok (.invokevirtual 53, 3) := by decide +kernel
theorem dX5_oneMinute_40 : decode cX5_oneMinute 40 = .ok (.aload_n 0, 1) := by decide +kernel
theorem dX5_oneMinute_41 : decode cX5_oneMinute 41 = .ok (.iload_n 1, 1) := by decide +kernel
theorem dX5_oneMinute_42 : decode cX5_oneMinute 42 = .ok (.invokevirtual 114, 3) := by decide +kernel
theorem dX5_oneMinute_45 : decode cX5_oneMinute 45 = .ok (.iadd, 1) := by decide +kernel
theorem dX5_oneMinute_46 : decode cX5_oneMinute 46 = .ok (.iconst 0, 1) := by decide +kernel
theorem dX5_oneMinute_47 : decode cX5_oneMinute 47 = .ok (.bipush 99, 2) := by decide +kernel
theorem dX5_oneMinute_49 : decode cX5_oneMinute 49 = .ok (.invokestatic 56, 3) := by decide +kernel
theorem dX5_oneMinute_52 : decode cX5_oneMinute 52 = .ok (.invokevirtual 99, 3) := by decide +kernel
theorem dX5_oneMinute_55 : decode cX5_oneMinute 55 = .ok (.iinc 1 1, 3) := by decide +kernel
theorem dX5_oneMinute_58 : decode cX5_oneMinute 58 = .ok (.goto (-37), 3) := by decide +kernel
theorem dX5_oneMinute_61 : decode cX5_oneMinute 61 = .ok (.aload_n 0, 1) := by decide +kernel
theorem dX5_oneMinute_62 : decode cX5_oneMinute 62 = .ok (.invokevirtual 90, 3) := by decide +kernel
theorem dX5_oneMinute_65 : decode cX5_oneMinute 65 = .ok (.istore_n 1, 1) := by decide +kernel
theorem dX5_oneMinute_66 : decode cX5_oneMinute 66 = .ok (.aload_n 0, 1) := by decide +kernel
theorem dX5_oneMinute_67 : decode cX5_oneMinute 67 = .ok (.iload_n 1, 1) := by decide +kernel
theorem dX5_oneMinute_68 : decode cX5_oneMinute 68 = .ok (.putfield 141, 3) := by decide +kernel
theorem dX5_oneMinute_71 : decode cX5_oneMinute 71 = .ok (.iconst 0, 1) := by decide +kernel
theorem dX5_oneMinute_72 : decode cX5_oneMinute 72 = .ok (.istore_n 2, 1) := by decide +kernel
theorem dX5_oneMinute_73 : decode cX5_oneMinute 73 = .ok (.iload_n 2, 1) := by decide +kernel
theorem dX5_oneMinute_74 : decode cX5_oneMinute 74 = .ok (.aload_n 0, 1) := by decide +kernel
theorem dX5_oneMinute_75 : decode cX5_oneMinute 75 = .ok (.getfield 7, 3) := by decide +kernel
theorem dX5_oneMinute_78 : decode cX5_oneMinute 78 = .ok (.iconst 2, 1) := by decide +kernel
theorem dX5_oneMinute_79 : decode cX5_oneMinute 79 = .ok (.iaload, 1) := by decide +kernel
theorem dX5_oneMinute_80 : decode cX5_oneMinute 80 = .ok (.if_icmp .ge 23, 3) := by decide +kernel
theorem dX5_oneMinute_83 : decode cX5_oneMinute 83 = .ok (.iload_n 1, 1) := by decide +kernel
theorem dX5_oneMinute_84 : decode cX5_oneMinute 84 = .ok (.iload_n 2, 1) := by decide +kernel
theorem dX5_oneMinute_85 : decode cX5_oneMinute 85 = .ok (.ishr, 1) := by decide +kernel
theorem dX5_oneMinute_86 : decode cX5_oneMinute 86 = .ok (.iconst 1, 1) := by decide +kernel
theorem dX5_oneMinute_87 : decode cX5_oneMinute 87 = .ok (.iand, 1) := by decide +kernel
theorem dX5_oneMinute_88 : decode cX5_oneMinute 88 = .ok (.iconst 1, 1) := by decide +kernel
theorem dX5_oneMinute_89 : decode cX5_oneMinute 89 = .ok (.if_icmp .ne 8, 3) := by decide +kernel
theorem dX5_oneMinute_92 : decode cX5_oneMinute 92 = .ok (.aload_n 0, 1) := by decide +kernel
theorem dX5_oneMinute_93 : decode cX5_oneMinute 93 = .ok (.iload_n 2, 1) := by decide +kernel
theorem dX5_oneMinute_94 : decode cX5_oneMinute 94 = .ok (.invokevirtual 145, 3) := by decide +kernel
theorem dX5_oneMinute_97 : decode cX5_oneMinute 97 = .ok (.iinc 2 1, 3) := by decide +kernel
theorem dX5_oneMinute_100 : decode cX5_oneMinute 100 = .ok (.goto (-27), 3) := by decide +kernel
theorem dX5_oneMinute_103 : decode cX5_oneMinute 103 = .ok (.iconst 0, 1) := by decide +kernel
theorem dX5_oneMinute_104 : decode cX5_oneMinute 104 = .ok (.istore_n 2, 1) := by decide +kernel
theorem dX5_oneMinute_105 : decode cX5_oneMinute 105 = .ok (.iload_n 2, 1) := by decide +kernel
theorem dX5_oneMinute_106 : decode cX5_oneMinute 106 = .ok (.aload_n 0, 1) := by decide +kernel
theorem dX5_oneMinute_107 : decode cX5_oneMinute 107 = .ok (.getfield 7, 3) := by decide +kernel
theorem dX5_oneMinute_110 : decode cX5_oneMinute 110 = .ok (.iconst 2, 1) := by decide +kernel
theorem dX5_oneMinute_111 : decode cX5_oneMinute 111 = .ok (.iaload, 1) := by decide +kernel
theorem dX5_oneMinute_112 : decode cX5_oneMinute 112 = .ok (.if_icmp .ge 33, 3) := by decide +kernel
theorem dX5_oneMinute_115 : decode cX5_oneMinute 115 = .ok (.aload_n 0, 1) := by decide +kernel
theorem dX5_oneMinute_116 : decode cX5_oneMinute 116 = .ok (.iload_n 2, 1) := by decide +kernel
theorem dX5_oneMinute_117 : decode cX5_oneMinute 117 = .ok (.iconst 3, 1) := by decide +kernel
theorem dX5_oneMinute_118 : decode cX5_oneMinute 118 = .ok (.aload_n 0, 1) := by decide +kernel
theorem dX5_oneMinute_119 : decode cX5_oneMinute 119 = .ok (.iload_n 2, 1) := by decide +kernel
theorem dX5_oneMinute_120 : decode cX5_oneMinute 120 = .ok (.iconst 3, 1) := by decide +kernel
end
section
theorem dX5_oneMinute_121 : decode cX5_oneMinute 121 = .ok (.invokevirtual 53, 3) := by decide +kernel
theorem dX5_oneMinute_124 : decode cX5_oneMinute 124 = .ok (.aload_n 0, 1) := by decide +kernel
theorem dX5_oneMinute_125 : decode cX5_oneMinute 125 = .ok (.iload_n 2, 1) := by decide +kernel
theorem dX5_oneMinute_126 : decode cX5_oneMinute 126 = .ok (.invokevirtual 120, 3) := by decide +kernel
theorem dX5_oneMinute_129 : decode cX5_oneMinute 129 = .ok (.isub, 1) := by decide +kernel
theorem dX5_oneMinute_130 : decode cX5_oneMinute 130 = .ok (.iconst 0, 1) := by decide +kernel
theorem dX5_oneMinute_131 : decode cX5_oneMinute 131 = .ok (.bipush 99, 2) := by decide +kernel
theorem dX5_oneMinute_133 : decode cX5_oneMinute 133 = .ok (.invokestatic 56, 3) := by decide +kernel
theorem dX5_oneMinute_136 : decode cX5_oneMinute 136 = .ok (.invokevirtual 99, 3) := by decide +kernel
theorem dX5_oneMinute_139 : decode cX5_oneMinute 139 = .ok (.iinc 2 1, 3) := by decide +kernel
theorem dX5_oneMinute_142 : decode cX5_oneMinute 142 = .ok (.goto (-37), 3) := by decide +kernel
theorem dX5_oneMinute_145 : decode cX5_oneMinute 145 = .ok (.aload_n 0, 1) := by decide +kernel
theorem dX5_oneMinute_146 : decode cX5_oneMinute 146 = .ok (.getfield 7, 3) := by decide +kernel
theorem dX5_oneMinute_149 : decode cX5_oneMinute 149 = .ok (.iconst 0, 1) := by decide +kernel
theorem dX5_oneMinute_150 : decode cX5_oneMinute 150 = .ok (.dup2, 1) := by decide +kernel
theorem dX5_oneMinute_151 : decode cX5_oneMinute 151 = .ok (.iaload, 1) := by decide +kernel
theorem dX5_oneMinute_152 : decode cX5_oneMinute 152 = .ok (.iconst 1, 1) := by decide +kernel
theorem dX5_oneMinute_153 : decode cX5_oneMinute 153 = .ok (.iadd, 1) := by decide +kernel
theorem dX5_oneMinute_154 : decode cX5_oneMinute 154 = .ok (.iastore, 1) := by decide +kernel
theorem dX5_oneMinute_155 : decode cX5_oneMinute 155 = .ok (.return_, 1) := by decide +kernel
theorem dX5_passes_0 : decode cX5_passes 0 = .ok (.iconst 0, 1) := by decide +kernel
theorem dX5_passes_1 : decode cX5_passes 1 = .ok (.istore_n 2, 1) := by decide +kernel
theorem dX5_passes_2 : decode cX5_passes 2 = .ok (.iload_n 2, 1) := by decide +kernel
theorem dX5_passes_3 : decode cX5_passes 3 = .ok (.iload_n 1, 1) := by decide +kernel
theorem dX5_passes_4 : decode cX5_passes 4 = .ok (.if_icmp .ge 13, 3) := by decide +kernel
theorem dX5_passes_7 : decode cX5_passes 7 = .ok (.aload_n 0, 1) := by decide +kernel
theorem dX5_passes_8 : decode cX5_passes 8 = .ok (.invokevirtual 148, 3) := by decide +kernel
theorem dX5_passes_11 : decode cX5_passes 11 = .ok (.iinc 2 1, 3) := by decide +kernel
theorem dX5_passes_14 : decode cX5_passes 14 = .ok (.goto (-12), 3) := by decide +kernel
theorem dX5_passes_17 : decode cX5_passes 17 = .ok (.return_, 1) := by decide +kernel
theorem dX5_minutes_0 : decode cX5_minutes 0 = .ok (.iload_n 1, 1) := by decide +kernel
theorem dX5_minutes_1 : decode cX5_minutes 1 = .ok (.iconst 1, 1) := by decide +kernel
theorem dX5_minutes_2 : decode cX5_minutes 2 = .ok (.bipush 100, 2) := by decide +kernel
theorem dX5_minutes_4 : decode cX5_minutes 4 = .ok (.invokestatic 45, 3) := by decide +kernel
theorem dX5_minutes_7 : decode cX5_minutes 7 = .ok (.ifCond .ne 10, 3) := by decide +kernel
theorem dX5_minutes_10 : decode cX5_minutes 10 = .ok (.aload_n 0, 1) := by decide +kernel
theorem dX5_minutes_11 : decode cX5_minutes 11 = .ok (.ldc 44, 2) := by decide +kernel
theorem dX5_minutes_13 : decode cX5_minutes 13 = .ok (.invokevirtual 81, 3) := by decide +kernel
theorem dX5_minutes_16 : decode cX5_minutes 16 = .ok (.ireturn, 1) := by decide +kernel
theorem dX5_minutes_17 : decode cX5_minutes 17 = .ok (.aload_n 0, 1) := by decide +kernel
theorem dX5_minutes_18 : decode cX5_minutes 18 = .ok (.getfield 7, 3) := by decide +kernel
theorem dX5_minutes_21 : decode cX5_minutes 21 = .ok (.iconst 0, 1) := by decide +kernel
theorem dX5_minutes_22 : decode cX5_minutes 22 = .ok (.iaload, 1) := by decide +kernel
theorem dX5_minutes_23 : decode cX5_minutes 23 = .ok (.iload_n 1, 1) := by decide +kernel
theorem dX5_minutes_24 : decode cX5_minutes 24 = .ok (.iadd, 1) := by decide +kernel
theorem dX5_minutes_25 : decode cX5_minutes 25 = .ok (.ldc 151, 2) := by decide +kernel
theorem dX5_minutes_27 : decode cX5_minutes 27 = .ok (.if_icmp .le 10, 3) := by decide +kernel
theorem dX5_minutes_30 : decode cX5_minutes 30 = .ok (.aload_n 0, 1) := by decide +kernel
theorem dX5_minutes_31 : decode cX5_minutes 31 = .ok (.ldc 152, 2) := by decide +kernel
theorem dX5_minutes_33 : decode cX5_minutes 33 = .ok (.invokevirtual 81, 3) := by decide +kernel
theorem dX5_minutes_36 : decode cX5_minutes 36 = .ok (.ireturn, 1) := by decide +kernel
theorem dX5_minutes_37 : decode cX5_minutes 37 = .ok (.aload_n 0, 1) := by decide +kernel
theorem dX5_minutes_38 : decode cX5_minutes 38 = .ok (.iload_n 1, 1) := by decide +kernel
theorem dX5_minutes_39 : decode cX5_minutes 39 = .ok (.invokevirtual 153, 3) := by decide +kernel
theorem dX5_minutes_42 : decode cX5_minutes 42 = .ok (.aload_n 0, 1) := by decide +kernel
theorem dX5_minutes_43 : decode cX5_minutes 43 = .ok (.iconst 0, 1) := by decide +kernel
theorem dX5_minutes_44 : decode cX5_minutes 44 = .ok (.invokevirtual 87, 3) := by decide +kernel
theorem dX5_minutes_47 : decode cX5_minutes 47 = .ok (.ireturn, 1) := by decide +kernel
theorem dX5_behind_0 : decode cX5_behind 0 = .ok (.aload_n 0, 1) := by decide +kernel
theorem dX5_behind_1 : decode cX5_behind 1 = .ok (.iload_n 1, 1) := by decide +kernel
theorem dX5_behind_2 : decode cX5_behind 2 = .ok (.invokevirtual 153, 3) := by decide +kernel
theorem dX5_behind_5 : decode cX5_behind 5 = .ok (.aload_n 0, 1) := by decide +kernel
theorem dX5_behind_6 : decode cX5_behind 6 = .ok (.getfield 7, 3) := by decide +kernel
theorem dX5_behind_9 : decode cX5_behind 9 = .ok (.iload_n 2, 1) := by decide +kernel
theorem dX5_behind_10 : decode cX5_behind 10 = .ok (.iaload, 1) := by decide +kernel
theorem dX5_behind_11 : decode cX5_behind 11 = .ok (.istore_n 3, 1) := by decide +kernel
theorem dX5_behind_12 : decode cX5_behind 12 = .ok (.aload_n 0, 1) := by decide +kernel
theorem dX5_behind_13 : decode cX5_behind 13 = .ok (.iconst 0, 1) := by decide +kernel
theorem dX5_behind_14 : decode cX5_behind 14 = .ok (.aload_n 0, 1) := by decide +kernel
theorem dX5_behind_15 : decode cX5_behind 15 = .ok (.getfield 16, 3) := by decide +kernel
theorem dX5_behind_18 : decode cX5_behind 18 = .ok (.invokevirtual 156, 3) := by decide +kernel
theorem dX5_behind_21 : decode cX5_behind 21 = .ok (.iload_n 3, 1) := by decide +kernel
theorem dX5_behind_22 : decode cX5_behind 22 = .ok (.ireturn, 1) := by decide +kernel
theorem dX5_on_0 : decode cX5_on 0 = .ok (.aload_n 0, 1) := by decide +kernel
theorem dX5_on_1 : decode cX5_on 1 = .ok (.iload_n 1, 1) := by decide +kernel
theorem dX5_on_2 : decode cX5_on 2 = .ok (.invokevirtual 111, 3) := by decide +kernel
theorem dX5_on_5 : decode cX5_on 5 = .ok (.ifCond .eq 23, 3) := by decide +kernel
theorem dX5_on_8 : decode cX5_on 8 = .ok (.iload_n 2, 1) := by decide +kernel
theorem dX5_on_9 : decode cX5_on 9 = .ok (.iconst 0, 1) := by decide +kernel
theorem dX5_on_10 : decode cX5_on 10 = .ok (.sipush 200, 3) := by decide +kernel
theorem dX5_on_13 : decode cX5_on 13 = .ok (.invokestatic 45, 3) := by decide +kernel
theorem dX5_on_16 : decode cX5_on 16 = .ok (.ifCond .eq 12, 3) := by decide +kernel
theorem dX5_on_19 : decode cX5_on 19 = .ok (.iload_n 3, 1) := by decide +kernel
theorem dX5_on_20 : decode cX5_on 20 = .ok (.iconst 0, 1) := by decide +kernel
theorem dX5_on_21 : decode cX5_on 21 = .ok (.iconst 2, 1) := by decide +kernel
theorem dX5_on_22 : decode cX5_on 22 = .ok (.invokestatic 45, 3) := by decide +kernel
theorem dX5_on_25 : decode cX5_on 25 = .ok (.ifCond .ne 10, 3) := by decide +kernel
theorem dX5_on_28 : decode cX5_on 28 = .ok (.aload_n 0, 1) := by decide +kernel
theorem dX5_on_29 : decode cX5_on 29 = .ok (.ldc 44, 2) := by decide +kernel
theorem dX5_on_31 : decode cX5_on 31 = .ok (.invokevirtual 81, 3) := by decide +kernel
theorem dX5_on_34 : decode cX5_on 34 = .ok (.ireturn, 1) := by decide +kernel
theorem dX5_on_35 : decode cX5_on 35 = .ok (.aload_n 0, 1) := by decide +kernel
theorem dX5_on_36 : decode cX5_on 36 = .ok (.iconst 1, 1) := by decide +kernel
theorem dX5_on_37 : decode cX5_on 37 = .ok (.aload_n 0, 1) := by decide +kernel
theorem dX5_on_38 : decode cX5_on 38 = .ok (.getfield 16, 3) := by decide +kernel
theorem dX5_on_41 : decode cX5_on 41 = .ok (.invokevirtual 156, 3) := by decide +kernel
theorem dX5_on_44 : decode cX5_on 44 = .ok (.aload_n 0, 1) := by decide +kernel
theorem dX5_on_45 : decode cX5_on 45 = .ok (.iload_n 2, 1) := by decide +kernel
theorem dX5_on_46 : decode cX5_on 46 = .ok (.bipush 39, 2) := by decide +kernel
theorem dX5_on_48 : decode cX5_on 48 = .ok (.bipush 6, 2) := by decide +kernel
theorem dX5_on_50 : decode cX5_on 50 = .ok (.iload_n 1, 1) := by decide +kernel
theorem dX5_on_51 : decode cX5_on 51 = .ok (.imul, 1) := by decide +kernel
theorem dX5_on_52 : decode cX5_on 52 = .ok (.iadd, 1) := by decide +kernel
theorem dX5_on_53 : decode cX5_on 53 = .ok (.iconst 3, 1) := by decide +kernel
theorem dX5_on_54 : decode cX5_on 54 = .ok (.iadd, 1) := by decide +kernel
theorem dX5_on_55 : decode cX5_on 55 = .ok (.iload_n 3, 1) := by decide +kernel
theorem dX5_on_56 : decode cX5_on 56 = .ok (.iadd, 1) := by decide +kernel
theorem dX5_on_57 : decode cX5_on 57 = .ok (.invokevirtual 160, 3) := by decide +kernel
theorem dX5_on_60 : decode cX5_on 60 = .ok (.ireturn, 1) := by decide +kernel
theorem dX5_then_0 : decode cX5_then 0 = .ok (.iload_n 1, 1) := by decide +kernel
theorem dX5_then_1 : decode cX5_then 1 = .ok (.invokestatic 72, 3) := by decide +kernel
theorem dX5_then_4 : decode cX5_then 4 = .ok (.ifCond .eq 23, 3) := by decide +kernel
theorem dX5_then_7 : decode cX5_then 7 = .ok (.iload_n 2, 1) := by decide +kernel
theorem dX5_then_8 : decode cX5_then 8 = .ok (.iconst 0, 1) := by decide +kernel
theorem dX5_then_9 : decode cX5_then 9 = .ok (.sipush 200, 3) := by decide +kernel
theorem dX5_then_12 : decode cX5_then 12 = .ok (.invokestatic 45, 3) := by decide +kernel
theorem dX5_then_15 : decode cX5_then 15 = .ok (.ifCond .eq 12, 3) := by decide +kernel
theorem dX5_then_18 : decode cX5_then 18 = .ok (.iload_n 3, 1) := by decide +kernel
theorem dX5_then_19 : decode cX5_then 19 = .ok (.iconst 0, 1) := by decide +kernel
theorem dX5_then_20 : decode cX5_then 20 = .ok (.iconst 1, 1) := by decide +kernel
theorem dX5_then_21 : decode cX5_then 21 = .ok (.invokestatic 45, 3) := by decide +kernel
theorem dX5_then_24 : decode cX5_then 24 = .ok (.ifCond .ne 10, 3) := by decide +kernel
theorem dX5_then_27 : decode cX5_then 27 = .ok (.aload_n 0, 1) := by decide +kernel
theorem dX5_then_28 : decode cX5_then 28 = .ok (.ldc 44, 2) := by decide +kernel
theorem dX5_then_30 : decode cX5_then 30 = .ok (.invokevirtual 81, 3) := by decide +kernel
theorem dX5_then_33 : decode cX5_then 33 = .ok (.ireturn, 1) := by decide +kernel
theorem dX5_then_34 : decode cX5_then 34 = .ok (.aload_n 0, 1) := by decide +kernel
theorem dX5_then_35 : decode cX5_then 35 = .ok (.iconst 1, 1) := by decide +kernel
theorem dX5_then_36 : decode cX5_then 36 = .ok (.aload_n 0, 1) := by decide +kernel
theorem dX5_then_37 : decode cX5_then 37 = .ok (.getfield 16, 3) := by decide +kernel
theorem dX5_then_40 : decode cX5_then 40 = .ok (.invokevirtual 156, 3) := by decide +kernel
theorem dX5_then_43 : decode cX5_then 43 = .ok (.aload_n 0, 1) := by decide +kernel
theorem dX5_then_44 : decode cX5_then 44 = .ok (.iload_n 2, 1) := by decide +kernel
theorem dX5_then_45 : decode cX5_then 45 = .ok (.iconst 3, 1) := by decide +kernel
theorem dX5_then_46 : decode cX5_then 46 = .ok (.iconst 3, 1) := by decide +kernel
theorem dX5_then_47 : decode cX5_then 47 = .ok (.iload_n 1, 1) := by decide +kernel
theorem dX5_then_48 : decode cX5_then 48 = .ok (.imul, 1) := by decide +kernel
theorem dX5_then_49 : decode cX5_then 49 = .ok (.iadd, 1) := by decide +kernel
theorem dX5_then_50 : decode cX5_then 50 = .ok (.iload_n 3, 1) := by decide +kernel
theorem dX5_then_51 : decode cX5_then 51 = .ok (.ifCond .ne 7, 3) := by decide +kernel
theorem dX5_then_54 : decode cX5_then 54 = .ok (.iconst 0, 1) := by decide +kernel
theorem dX5_then_55 : decode cX5_then 55 = .ok (.goto 4, 3) := by decide +kernel
theorem dX5_then_58 : decode cX5_then 58 = .ok (.iconst 2, 1) := by decide +kernel
theorem dX5_then_59 : decode cX5_then 59 = .ok (.iadd, 1) := by decide +kernel
theorem dX5_then_60 : decode cX5_then 60 = .ok (.invokevirtual 160, 3) := by decide +kernel
theorem dX5_then_63 : decode cX5_then 63 = .ok (.ireturn, 1) := by decide +kernel
theorem dX5_isLit_0 : decode cX5_isLit 0 = .ok (.aload_n 0, 1) := by decide +kernel
theorem dX5_isLit_1 : decode cX5_isLit 1 = .ok (.iload_n 1, 1) := by decide +kernel
theorem dX5_isLit_2 : decode cX5_isLit 2 = .ok (.iconst 0, 1) := by decide +kernel
theorem dX5_isLit_3 : decode cX5_isLit 3 = .ok (.invokevirtual 49, 3) := by decide +kernel
theorem dX5_isLit_6 : decode cX5_isLit 6 = .ok (.ifCond .le 7, 3) := by decide +kernel
theorem dX5_isLit_9 : decode cX5_isLit 9 = .ok (.iconst 1, 1) := by decide +kernel
theorem dX5_isLit_10 : decode cX5_isLit 10 = .ok (.goto 4, 3) := by decide +kernel
theorem dX5_isLit_13 : decode cX5_isLit 13 = .ok (.iconst 0, 1) := by decide +kernel
theorem dX5_isLit_14 : decode cX5_isLit 14 = .ok (.ireturn, 1) := by decide +kernel
theorem dX5_lit_0 : decode cX5_lit 0 = .ok (.iload_n 1, 1) := by decide +kernel
theorem dX5_lit_1 : decode cX5_lit 1 = .ok (.invokestatic 72, 3) := by decide +kernel
theorem dX5_lit_4 : decode cX5_lit 4 = .ok (.ifCond .eq 12, 3) := by decide +kernel
theorem dX5_lit_7 : decode cX5_lit 7 = .ok (.iload_n 2, 1) := by decide +kernel
theorem dX5_lit_8 : decode cX5_lit 8 = .ok (.iconst 0, 1) := by decide +kernel
theorem dX5_lit_9 : decode cX5_lit 9 = .ok (.iconst 1, 1) := by decide +kernel
theorem dX5_lit_10 : decode cX5_lit 10 = .ok (.invokestatic 45, 3) := by decide +kernel
theorem dX5_lit_13 : decode cX5_lit 13 = .ok (.ifCond .ne 10, 3) := by decide +kernel
theorem dX5_lit_16 : decode cX5_lit 16 = .ok (.aload_n 0, 1) := by decide +kernel
theorem dX5_lit_17 : decode cX5_lit 17 = .ok (.ldc 44, 2) := by decide +kernel
theorem dX5_lit_19 : decode cX5_lit 19 = .ok (.invokevirtual 81, 3) := by decide +kernel
theorem dX5_lit_22 : decode cX5_lit 22 = .ok (.ireturn, 1) := by decide +kernel
theorem dX5_lit_23 : decode cX5_lit 23 = .ok (.aload_n 0, 1) := by decide +kernel
theorem dX5_lit_24 : decode cX5_lit 24 = .ok (.iconst 1, 1) := by decide +kernel
theorem dX5_lit_25 : decode cX5_lit 25 = .ok (.aload_n 0, 1) := by decide +kernel
theorem dX5_lit_26 : decode cX5_lit 26 = .ok (.getfield 16, 3) := by decide +kernel
theorem dX5_lit_29 : decode cX5_lit 29 = .ok (.invokevirtual 156, 3) := by decide +kernel
theorem dX5_lit_32 : decode cX5_lit 32 = .ok (.iconst 0, 1) := by decide +kernel
theorem dX5_lit_33 : decode cX5_lit 33 = .ok (.istore_n 3, 1) := by decide +kernel
theorem dX5_lit_34 : decode cX5_lit 34 = .ok (.iload_n 3, 1) := by decide +kernel
theorem dX5_lit_35 : decode cX5_lit 35 = .ok (.sipush 200, 3) := by decide +kernel
theorem dX5_lit_38 : decode cX5_lit 38 = .ok (.if_icmp .gt 31, 3) := by decide +kernel
theorem dX5_lit_41 : decode cX5_lit 41 = .ok (.aload_n 0, 1) := by decide +kernel
theorem dX5_lit_42 : decode cX5_lit 42 = .ok (.iload_n 1, 1) := by decide +kernel
theorem dX5_lit_43 : decode cX5_lit 43 = .ok (.invokevirtual 163, 3) := by decide +kernel
theorem dX5_lit_46 : decode cX5_lit 46 = .ok (.iload_n 2, 1) := by decide +kernel
theorem dX5_lit_47 : decode cX5_lit 47 = .ok (.iconst 1, 1) := by decide +kernel
theorem dX5_lit_48 : decode cX5_lit 48 = .ok (.if_icmp .ne 7, 3) := by decide +kernel
theorem dX5_lit_51 : decode cX5_lit 51 = .ok (.iconst 1, 1) := by decide +kernel
theorem dX5_lit_52 : decode cX5_lit 52 = .ok (.goto 4, 3) := by decide +kernel
theorem dX5_lit_55 : decode cX5_lit 55 = .ok (.iconst 0, 1) := by decide +kernel
theorem dX5_lit_56 : decode cX5_lit 56 = .ok (.if_icmp .eq 13, 3) := by decide +kernel
theorem dX5_lit_59 : decode cX5_lit 59 = .ok (.aload_n 0, 1) := by decide +kernel
theorem dX5_lit_60 : decode cX5_lit 60 = .ok (.invokevirtual 148, 3) := by decide +kernel
theorem dX5_lit_63 : decode cX5_lit 63 = .ok (.iinc 3 1, 3) := by decide +kernel
theorem dX5_lit_66 : decode cX5_lit 66 = .ok (.goto (-32), 3) := by decide +kernel
theorem dX5_lit_69 : decode cX5_lit 69 = .ok (.aload_n 0, 1) := by decide +kernel
theorem dX5_lit_70 : decode cX5_lit 70 = .ok (.iconst 0, 1) := by decide +kernel
theorem dX5_lit_71 : decode cX5_lit 71 = .ok (.aload_n 0, 1) := by decide +kernel
theorem dX5_lit_72 : decode cX5_lit 72 = .ok (.getfield 16, 3) := by decide +kernel
theorem dX5_lit_75 : decode cX5_lit 75 = .ok (.invokevirtual 156, 3) := by decide +kernel
theorem dX5_lit_78 : decode cX5_lit 78 = .ok (.iload_n 3, 1) := by decide +kernel
theorem dX5_lit_79 : decode cX5_lit 79 = .ok (.sipush 200, 3) := by decide +kernel
theorem dX5_lit_82 : decode cX5_lit 82 = .ok (.if_icmp .le 12, 3) := by decide +kernel
theorem dX5_lit_85 : decode cX5_lit 85 = .ok (.aload_n 0, 1) := by decide +kernel
theorem dX5_lit_86 : decode cX5_lit 86 = .ok (.ldc 166, 2) := by decide +kernel
theorem dX5_lit_88 : decode cX5_lit 88 = .ok (.invokevirtual 81, 3) := by decide +kernel
theorem dX5_lit_91 : decode cX5_lit 91 = .ok (.goto 4, 3) := by decide +kernel
theorem dX5_lit_94 : decode cX5_lit 94 = .ok (.iload_n 3, 1) := by decide +kernel
theorem dX5_lit_95 : decode cX5_lit 95 = .ok (.ireturn, 1) := by decide +kernel
theorem dX5_goes_0 : decode cX5_goes 0 = .ok (.aload_n 0, 1) := by decide +kernel
theorem dX5_goes_1 : decode cX5_goes 1 = .ok (.iload_n 1, 1) := by decide +kernel
theorem dX5_goes_2 : decode cX5_goes 2 = .ok (.invokevirtual 111, 3) := by decide +kernel
theorem dX5_goes_5 : decode cX5_goes 5 = .ok (.ifCond .ne 10, 3) := by decide +kernel
theorem dX5_goes_8 : decode cX5_goes 8 = .ok (.aload_n 0, 1) := by decide +kernel
theorem dX5_goes_9 : decode cX5_goes 9 = .ok (.ldc 44, 2) := by decide +kernel
theorem dX5_goes_11 : decode cX5_goes 11 = .ok (.invokevirtual 81, 3) := by decide +kernel
theorem dX5_goes_14 : decode cX5_goes 14 = .ok (.ireturn, 1) := by decide +kernel
theorem dX5_goes_15 : decode cX5_goes 15 = .ok (.aload_n 0, 1) := by decide +kernel
theorem dX5_goes_16 : decode cX5_goes 16 = .ok (.iconst 1, 1) := by decide +kernel
theorem dX5_goes_17 : decode cX5_goes 17 = .ok (.aload_n 0, 1) := by decide +kernel
theorem dX5_goes_18 : decode cX5_goes 18 = .ok (.getfield 16, 3) := by decide +kernel
theorem dX5_goes_21 : decode cX5_goes 21 = .ok (.invokevirtual 156, 3) := by decide +kernel
theorem dX5_goes_24 : decode cX5_goes 24 = .ok (.iconst 0, 1) := by decide +kernel
theorem dX5_goes_25 : decode cX5_goes 25 = .ok (.istore_n 2, 1) := by decide +kernel
theorem dX5_goes_26 : decode cX5_goes 26 = .ok (.iconst 0, 1) := by decide +kernel
theorem dX5_goes_27 : decode cX5_goes 27 = .ok (.istore_n 3, 1) := by decide +kernel
theorem dX5_goes_28 : decode cX5_goes 28 = .ok (.iload_n 3, 1) := by decide +kernel
theorem dX5_goes_29 : decode cX5_goes 29 = .ok (.sipush 200, 3) := by decide +kernel
theorem dX5_goes_32 : decode cX5_goes 32 = .ok (.if_icmp .ge 35, 3) := by decide +kernel
theorem dX5_goes_35 : decode cX5_goes 35 = .ok (.iload_n 2, 1) := by decide +kernel
theorem dX5_goes_36 : decode cX5_goes 36 = .ok (.ifCond .ne 31, 3) := by decide +kernel
theorem dX5_goes_39 : decode cX5_goes 39 = .ok (.aload_n 0, 1) := by decide +kernel
theorem dX5_goes_40 : decode cX5_goes 40 = .ok (.invokevirtual 148, 3) := by decide +kernel
theorem dX5_goes_43 : decode cX5_goes 43 = .ok (.iinc 3 1, 3) := by decide +kernel
theorem dX5_goes_46 : decode cX5_goes 46 = .ok (.aload_n 0, 1) := by decide +kernel
theorem dX5_goes_47 : decode cX5_goes 47 = .ok (.getfield 141, 3) := by decide +kernel
theorem dX5_goes_50 : decode cX5_goes 50 = .ok (.iload_n 1, 1) := by decide +kernel
theorem dX5_goes_51 : decode cX5_goes 51 = .ok (.ishr, 1) := by decide +kernel
theorem dX5_goes_52 : decode cX5_goes 52 = .ok (.iconst 1, 1) := by decide +kernel
theorem dX5_goes_53 : decode cX5_goes 53 = .ok (.iand, 1) := by decide +kernel
theorem dX5_goes_54 : decode cX5_goes 54 = .ok (.iconst 1, 1) := by decide +kernel
theorem dX5_goes_55 : decode cX5_goes 55 = .ok (.if_icmp .ne 7, 3) := by decide +kernel
theorem dX5_goes_58 : decode cX5_goes 58 = .ok (.iconst 1, 1) := by decide +kernel
theorem dX5_goes_59 : decode cX5_goes 59 = .ok (.goto 4, 3) := by decide +kernel
theorem dX5_goes_62 : decode cX5_goes 62 = .ok (.iconst 0, 1) := by decide +kernel
theorem dX5_goes_63 : decode cX5_goes 63 = .ok (.istore_n 2, 1) := by decide +kernel
theorem dX5_goes_64 : decode cX5_goes 64 = .ok (.goto (-36), 3) := by decide +kernel
theorem dX5_goes_67 : decode cX5_goes 67 = .ok (.aload_n 0, 1) := by decide +kernel
theorem dX5_goes_68 : decode cX5_goes 68 = .ok (.iconst 0, 1) := by decide +kernel
theorem dX5_goes_69 : decode cX5_goes 69 = .ok (.aload_n 0, 1) := by decide +kernel
theorem dX5_goes_70 : decode cX5_goes 70 = .ok (.getfield 16, 3) := by decide +kernel
theorem dX5_goes_73 : decode cX5_goes 73 = .ok (.invokevirtual 156, 3) := by decide +kernel
theorem dX5_goes_76 : decode cX5_goes 76 = .ok (.iload_n 2, 1) := by decide +kernel
theorem dX5_goes_77 : decode cX5_goes 77 = .ok (.ifCond .eq 7, 3) := by decide +kernel
theorem dX5_goes_80 : decode cX5_goes 80 = .ok (.iload_n 3, 1) := by decide +kernel
theorem dX5_goes_81 : decode cX5_goes 81 = .ok (.goto 9, 3) := by decide +kernel
theorem dX5_goes_84 : decode cX5_goes 84 = .ok (.aload_n 0, 1) := by decide +kernel
theorem dX5_goes_85 : decode cX5_goes 85 = .ok (.ldc 166, 2) := by decide +kernel
theorem dX5_goes_87 : decode cX5_goes 87 = .ok (.invokevirtual 81, 3) := by decide +kernel
theorem dX5_goes_90 : decode cX5_goes 90 = .ok (.ireturn, 1) := by decide +kernel
theorem dX5_well_0 : decode cX5_well 0 = .ok (.aload_n 0, 1) := by decide +kernel
theorem dX5_well_1 : decode cX5_well 1 = .ok (.iconst 1, 1) := by decide +kernel
theorem dX5_well_2 : decode cX5_well 2 = .ok (.aload_n 0, 1) := by decide +kernel
theorem dX5_well_3 : decode cX5_well 3 = .ok (.getfield 16, 3) := by decide +kernel
theorem dX5_well_6 : decode cX5_well 6 = .ok (.invokevirtual 156, 3) := by decide +kernel
theorem dX5_well_9 : decode cX5_well 9 = .ok (.iconst 0, 1) := by decide +kernel
theorem dX5_well_10 : decode cX5_well 10 = .ok (.istore_n 1, 1) := by decide +kernel
theorem dX5_well_11 : decode cX5_well 11 = .ok (.iload_n 1, 1) := by decide +kernel
theorem dX5_well_12 : decode cX5_well 12 = .ok (.sipush 200, 3) := by decide +kernel
theorem dX5_well_15 : decode cX5_well 15 = .ok (.if_icmp .gt 21, 3) := by decide +kernel
theorem dX5_well_18 : decode cX5_well 18 = .ok (.aload_n 0, 1) := by decide +kernel
theorem dX5_well_19 : decode cX5_well 19 = .ok (.iconst 3, 1) := by decide +kernel
theorem dX5_well_20 : decode cX5_well 20 = .ok (.invokevirtual 93, 3) := by decide +kernel
theorem dX5_well_23 : decode cX5_well 23 = .ok (.ifCond .le 13, 3) := by decide +kernel
theorem dX5_well_26 : decode cX5_well 26 = .ok (.aload_n 0, 1) := by decide +kernel
theorem dX5_well_27 : decode cX5_well 27 = .ok (.invokevirtual 148, 3) := by decide +kernel
theorem dX5_well_30 : decode cX5_well 30 = .ok (.iinc 1 1, 3) := by decide +kernel
theorem dX5_well_33 : decode cX5_well 33 = .ok (.goto (-22), 3) := by decide +kernel
theorem dX5_well_36 : decode cX5_well 36 = .ok (.aload_n 0, 1) := by decide +kernel
theorem dX5_well_37 : decode cX5_well 37 = .ok (.iconst 0, 1) := by decide +kernel
theorem dX5_well_38 : decode cX5_well 38 = .ok (.aload_n 0, 1) := by decide +kernel
theorem dX5_well_39 : decode cX5_well 39 = .ok (.getfield 16, 3) := by decide +kernel
theorem dX5_well_42 : decode cX5_well 42 = .ok (.invokevirtual 156, 3) := by decide +kernel
theorem dX5_well_45 : decode cX5_well 45 = .ok (.iload_n 1, 1) := by decide +kernel
theorem dX5_well_46 : decode cX5_well 46 = .ok (.sipush 200, 3) := by decide +kernel
theorem dX5_well_49 : decode cX5_well 49 = .ok (.if_icmp .le 12, 3) := by decide +kernel
theorem dX5_well_52 : decode cX5_well 52 = .ok (.aload_n 0, 1) := by decide +kernel
theorem dX5_well_53 : decode cX5_well 53 = .ok (.ldc 166, 2) := by decide +kernel
theorem dX5_well_55 : decode cX5_well 55 = .ok (.invokevirtual 81, 3) := by decide +kernel
theorem dX5_well_58 : decode cX5_well 58 = .ok (.goto 4, 3) := by decide +kernel
theorem dX5_well_61 : decode cX5_well 61 = .ok (.iload_n 1, 1) := by decide +kernel
theorem dX5_well_62 : decode cX5_well 62 = .ok (.ireturn, 1) := by decide +kernel
theorem dX5_readBehind_0 : decode cX5_readBehind 0 = .ok (.aload_n 0, 1) := by decide +kernel
theorem dX5_readBehind_1 : decode cX5_readBehind 1 = .ok (.iload_n 1, 1) := by decide +kernel
theorem dX5_readBehind_2 : decode cX5_readBehind 2 = .ok (.invokevirtual 153, 3) := by decide +kernel
theorem dX5_readBehind_5 : decode cX5_readBehind 5 = .ok (.aload_n 0, 1) := by decide +kernel
theorem dX5_readBehind_6 : decode cX5_readBehind 6 = .ok (.invokevirtual 96, 3) := by decide +kernel
theorem dX5_readBehind_9 : decode cX5_readBehind 9 = .ok (.istore_n 2, 1) := by decide +kernel
theorem dX5_readBehind_10 : decode cX5_readBehind 10 = .ok (.aload_n 0, 1) := by decide +kernel
theorem dX5_readBehind_11 : decode cX5_readBehind 11 = .ok (.iconst 0, 1) := by decide +kernel
theorem dX5_readBehind_12 : decode cX5_readBehind 12 = .ok (.aload_n 0, 1) := by decide +kernel
theorem dX5_readBehind_13 : decode cX5_readBehind 13 = .ok (.getfield 16, 3) := by decide +kernel
theorem dX5_readBehind_16 : decode cX5_readBehind 16 = .ok (.invokevirtual 156, 3) := by decide +kernel
theorem dX5_readBehind_19 : decode cX5_readBehind 19 = .ok (.iload_n 2, 1) := by decide +kernel
theorem dX5_readBehind_20 : decode cX5_readBehind 20 = .ok (.ireturn, 1) := by decide +kernel
theorem dX5_feather_0 : decode cX5_feather 0 = .ok (.iload_n 1, 1) := by decide +kernel
theorem dX5_feather_1 : decode cX5_feather 1 = .ok (.iconst 1, 1) := by decide +kernel
theorem dX5_feather_2 : decode cX5_feather 2 = .ok (.bipush 60, 2) := by decide +kernel
theorem dX5_feather_4 : decode cX5_feather 4 = .ok (.invokestatic 45, 3) := by decide +kernel
theorem dX5_feather_7 : decode cX5_feather 7 = .ok (.ifCond .ne 10, 3) := by decide +kernel
theorem dX5_feather_10 : decode cX5_feather 10 = .ok (.aload_n 0, 1) := by decide +kernel
theorem dX5_feather_11 : decode cX5_feather 11 = .ok (.ldc 44, 2) := by decide +kernel
theorem dX5_feather_13 : decode cX5_feather 13 = .ok (.invokevirtual 81, 3) := by decide +kernel
theorem dX5_feather_16 : decode cX5_feather 16 = .ok (.ireturn, 1) := by decide +kernel
theorem dX5_feather_17 : decode cX5_feather 17 = .ok (.aload_n 0, 1) := by decide +kernel
theorem dX5_feather_18 : decode cX5_feather 18 = .ok (.iconst 1, 1) := by decide +kernel
theorem dX5_feather_19 : decode cX5_feather 19 = .ok (.aload_n 0, 1) := by decide +kernel
theorem dX5_feather_20 : decode cX5_feather 20 = .ok (.getfield 16, 3) := by decide +kernel
theorem dX5_feather_23 : decode cX5_feather 23 = .ok (.invokevirtual 156, 3) := by decide +kernel
theorem dX5_feather_26 : decode cX5_feather 26 = .ok (.iconst (-1), 1) := by decide +kernel
theorem dX5_feather_27 : decode cX5_feather 27 = .ok (.istore_n 2, 1) := by decide +kernel
theorem dX5_feather_28 : decode cX5_feather 28 = .ok (.iconst (-1), 1) := by decide +kernel
theorem dX5_feather_29 : decode cX5_feather 29 = .ok (.istore_n 3, 1) := by decide +kernel
theorem dX5_feather_30 : decode cX5_feather 30 = .ok (.iconst 0, 1) := by decide +kernel
theorem dX5_feather_31 : decode cX5_feather 31 = .ok (.istore 4, 2) := by decide +kernel
theorem dX5_feather_33 : decode cX5_feather 33 = .ok (.iload 4, 2) := by decide +kernel
theorem dX5_feather_35 : decode cX5_feather 35 = .ok (.aload_n 0, 1) := by decide +kernel
theorem dX5_feather_36 : decode cX5_feather 36 = .ok (.getfield 7, 3) := by decide +kernel
theorem dX5_feather_39 : decode cX5_feather 39 = .ok (.iconst 2, 1) := by decide +kernel
theorem dX5_feather_40 : decode cX5_feather 40 = .ok (.iaload, 1) := by decide +kernel
theorem dX5_feather_41 : decode cX5_feather 41 = .ok (.if_icmp .ge 51, 3) := by decide +kernel
theorem dX5_feather_44 : decode cX5_feather 44 = .ok (.aload_n 0, 1) := by decide +kernel
theorem dX5_feather_45 : decode cX5_feather 45 = .ok (.iload 4, 2) := by decide +kernel
theorem dX5_feather_47 : decode cX5_feather 47 = .ok (.iconst 4, 1) := by decide +kernel
theorem dX5_feather_48 : decode cX5_feather 48 = .ok (.bipush 99, 2) := by decide +kernel
theorem dX5_feather_50 : decode cX5_feather 50 = .ok (.invokevirtual 99, 3) := by decide +kernel
theorem dX5_feather_53 : decode cX5_feather 53 = .ok (.aload_n 0, 1) := by decide +kernel
theorem dX5_feather_54 : decode cX5_feather 54 = .ok (.iload_n 1, 1) := by decide +kernel
theorem dX5_feather_55 : decode cX5_feather 55 = .ok (.invokevirtual 167, 3) := by decide +kernel
theorem dX5_feather_58 : decode cX5_feather 58 = .ok (.istore 5, 2) := by decide +kernel
theorem dX5_feather_60 : decode cX5_feather 60 = .ok (.iload 5, 2) := by decide +kernel
theorem dX5_feather_62 : decode cX5_feather 62 = .ok (.iload_n 3, 1) := by decide +kernel
theorem dX5_feather_63 : decode cX5_feather 63 = .ok (.if_icmp .le 8, 3) := by decide +kernel
theorem dX5_feather_66 : decode cX5_feather 66 = .ok (.iload 4, 2) := by decide +kernel
theorem dX5_feather_68 : decode cX5_feather 68 = .ok (.goto 4, 3) := by decide +kernel
theorem dX5_feather_71 : decode cX5_feather 71 = .ok (.iload_n 2, 1) := by decide +kernel
theorem dX5_feather_72 : decode cX5_feather 72 = .ok (.istore_n 2, 1) := by decide +kernel
theorem dX5_feather_73 : decode cX5_feather 73 = .ok (.iload 5, 2) := by decide +kernel
theorem dX5_feather_75 : decode cX5_feather 75 = .ok (.iload_n 3, 1) := by decide +kernel
theorem dX5_feather_76 : decode cX5_feather 76 = .ok (.if_icmp .le 8, 3) := by decide +kernel
theorem dX5_feather_79 : decode cX5_feather 79 = .ok (.iload 5, 2) := by decide +kernel
theorem dX5_feather_81 : decode cX5_feather 81 = .ok (.goto 4, 3) := by decide +kernel
theorem dX5_feather_84 : decode cX5_feather 84 = .ok (.iload_n 3, 1) := by decide +kernel
theorem dX5_feather_85 : decode cX5_feather 85 = .ok (.istore_n 3, 1) := by decide +kernel
theorem dX5_feather_86 : decode cX5_feather 86 = .ok (.iinc 4 1, 3) := by decide +kernel
theorem dX5_feather_89 : decode cX5_feather 89 = .ok (.goto (-56), 3) := by decide +kernel
theorem dX5_feather_92 : decode cX5_feather 92 = .ok (.iload_n 2, 1) := by decide +kernel
theorem dX5_feather_93 : decode cX5_feather 93 = .ok (.ifCond .ge 12, 3) := by decide +kernel
theorem dX5_feather_96 : decode cX5_feather 96 = .ok (.aload_n 0, 1) := by decide +kernel
theorem dX5_feather_97 : decode cX5_feather 97 = .ok (.ldc 166, 2) := by decide +kernel
theorem dX5_feather_99 : decode cX5_feather 99 = .ok (.invokevirtual 81, 3) := by decide +kernel
theorem dX5_feather_102 : decode cX5_feather 102 = .ok (.goto 4, 3) := by decide +kernel
theorem dX5_feather_105 : decode cX5_feather 105 = .ok (.iload_n 2, 1) := by decide +kernel
theorem dX5_feather_106 : decode cX5_feather 106 = .ok (.ireturn, 1) := by decide +kernel
theorem dX5_seat_0 : decode cX5_seat 0 = .ok (.aload_n 0, 1) := by decide +kernel
theorem dX5_seat_1 : decode cX5_seat 1 = .ok (.iload_n 1, 1) := by decide +kernel
theorem dX5_seat_2 : decode cX5_seat 2 = .ok (.invokevirtual 111, 3) := by decide +kernel
theorem dX5_seat_5 : decode cX5_seat 5 = .ok (.ifCond .eq 13, 3) := by decide +kernel
theorem dX5_seat_8 : decode cX5_seat 8 = .ok (.iload_n 2, 1) := by decide +kernel
theorem dX5_seat_9 : decode cX5_seat 9 = .ok (.iconst 1, 1) := by decide +kernel
theorem dX5_seat_10 : decode cX5_seat 10 = .ok (.bipush 60, 2) := by decide +kernel
theorem dX5_seat_12 : decode cX5_seat 12 = .ok (.invokestatic 45, 3) := by decide +kernel
theorem dX5_seat_15 : decode cX5_seat 15 = .ok (.ifCond .ne 10, 3) := by decide +kernel
theorem dX5_seat_18 : decode cX5_seat 18 = .ok (.aload_n 0, 1) := by decide +kernel
theorem dX5_seat_19 : decode cX5_seat 19 = .ok (.ldc 44, 2) := by decide +kernel
theorem dX5_seat_21 : decode cX5_seat 21 = .ok (.invokevirtual 81, 3) := by decide +kernel
theorem dX5_seat_24 : decode cX5_seat 24 = .ok (.ireturn, 1) := by decide +kernel
theorem dX5_seat_25 : decode cX5_seat 25 = .ok (.aload_n 0, 1) := by decide +kernel
theorem dX5_seat_26 : decode cX5_seat 26 = .ok (.iconst 1, 1) := by decide +kernel
theorem dX5_seat_27 : decode cX5_seat 27 = .ok (.aload_n 0, 1) := by decide +kernel
theorem dX5_seat_28 : decode cX5_seat 28 = .ok (.getfield 16, 3) := by decide +kernel
theorem dX5_seat_31 : decode cX5_seat 31 = .ok (.invokevirtual 156, 3) := by decide +kernel
theorem dX5_seat_34 : decode cX5_seat 34 = .ok (.iconst 0, 1) := by decide +kernel
theorem dX5_seat_35 : decode cX5_seat 35 = .ok (.istore_n 3, 1) := by decide +kernel
theorem dX5_seat_36 : decode cX5_seat 36 = .ok (.iconst (-1), 1) := by decide +kernel
theorem dX5_seat_37 : decode cX5_seat 37 = .ok (.istore 4, 2) := by decide +kernel
theorem dX5_seat_39 : decode cX5_seat 39 = .ok (.iconst 0, 1) := by decide +kernel
theorem dX5_seat_40 : decode cX5_seat 40 = .ok (.istore 5, 2) := by decide +kernel
theorem dX5_seat_42 : decode cX5_seat 42 = .ok (.iload 5, 2) := by decide +kernel
theorem dX5_seat_44 : decode cX5_seat 44 = .ok (.bipush 24, 2) := by decide +kernel
theorem dX5_seat_46 : decode cX5_seat 46 = .ok (.if_icmp .ge 66, 3) := by decide +kernel
theorem dX5_seat_49 : decode cX5_seat 49 = .ok (.aload_n 0, 1) := by decide +kernel
theorem dX5_seat_50 : decode cX5_seat 50 = .ok (.iload_n 1, 1) := by decide +kernel
theorem dX5_seat_51 : decode cX5_seat 51 = .ok (.iconst 1, 1) := by decide +kernel
theorem dX5_seat_52 : decode cX5_seat 52 = .ok (.iload 5, 2) := by decide +kernel
theorem dX5_seat_54 : decode cX5_seat 54 = .ok (.iconst 2, 1) := by decide +kernel
theorem dX5_seat_55 : decode cX5_seat 55 = .ok (.idiv, 1) := by decide +kernel
theorem dX5_seat_56 : decode cX5_seat 56 = .ok (.invokevirtual 99, 3) := by decide +kernel
theorem dX5_seat_59 : decode cX5_seat 59 = .ok (.aload_n 0, 1) := by decide +kernel
theorem dX5_seat_60 : decode cX5_seat 60 = .ok (.iload_n 1, 1) := by decide +kernel
theorem dX5_seat_61 : decode cX5_seat 61 = .ok (.iconst 2, 1) := by decide +kernel
theorem dX5_seat_62 : decode cX5_seat 62 = .ok (.iload 5, 2) := by decide +kernel
theorem dX5_seat_64 : decode cX5_seat 64 = .ok (.iconst 2, 1) := by decide +kernel
theorem dX5_seat_65 : decode cX5_seat 65 = .ok (.irem, 1) := by decide +kernel
theorem dX5_seat_66 : decode cX5_seat 66 = .ok (.invokevirtual 99, 3) := by decide +kernel
theorem dX5_seat_69 : decode cX5_seat 69 = .ok (.aload_n 0, 1) := by decide +kernel
theorem dX5_seat_70 : decode cX5_seat 70 = .ok (.iload_n 2, 1) := by decide +kernel
theorem dX5_seat_71 : decode cX5_seat 71 = .ok (.invokevirtual 167, 3) := by decide +kernel
theorem dX5_seat_74 : decode cX5_seat 74 = .ok (.istore 6, 2) := by decide +kernel
theorem dX5_seat_76 : decode cX5_seat 76 = .ok (.iload 6, 2) := by decide +kernel
theorem dX5_seat_78 : decode cX5_seat 78 = .ok (.iload 4, 2) := by decide +kernel
theorem dX5_seat_80 : decode cX5_seat 80 = .ok (.if_icmp .le 8, 3) := by decide +kernel
theorem dX5_seat_83 : decode cX5_seat 83 = .ok (.iload 5, 2) := by decide +kernel
theorem dX5_seat_85 : decode cX5_seat 85 = .ok (.goto 4, 3) := by decide +kernel
theorem dX5_seat_88 : decode cX5_seat 88 = .ok (.iload_n 3, 1) := by decide +kernel
theorem dX5_seat_89 : decode cX5_seat 89 = .ok (.istore_n 3, 1) := by decide +kernel
theorem dX5_seat_90 : decode cX5_seat 90 = .ok (.iload 6, 2) := by decide +kernel
theorem dX5_seat_92 : decode cX5_seat 92 = .ok (.iload 4, 2) := by decide +kernel
theorem dX5_seat_94 : decode cX5_seat 94 = .ok (.if_icmp .le 8, 3) := by decide +kernel
theorem dX5_seat_97 : decode cX5_seat 97 = .ok (.iload 6, 2) := by decide +kernel
theorem dX5_seat_99 : decode cX5_seat 99 = .ok (.goto 5, 3) := by decide +kernel
theorem dX5_seat_102 : decode cX5_seat 102 = .ok (.iload 4, 2) := by decide +kernel
theorem dX5_seat_104 : decode cX5_seat 104 = .ok (.istore 4, 2) := by decide +kernel
theorem dX5_seat_106 : decode cX5_seat 106 = .ok (.iinc 5 1, 3) := by decide +kernel
theorem dX5_seat_109 : decode cX5_seat 109 = .ok (.goto (-67), 3) := by decide +kernel
theorem dX5_seat_112 : decode cX5_seat 112 = .ok (.iload_n 3, 1) := by decide +kernel
theorem dX5_seat_113 : decode cX5_seat 113 = .ok (.ireturn, 1) := by decide +kernel
theorem dX5_kind_0 : decode cX5_kind 0 = .ok (.aload_n 0, 1) := by decide +kernel
theorem dX5_kind_1 : decode cX5_kind 1 = .ok (.iload_n 1, 1) := by decide +kernel
theorem dX5_kind_2 : decode cX5_kind 2 = .ok (.invokevirtual 111, 3) := by decide +kernel
theorem dX5_kind_5 : decode cX5_kind 5 = .ok (.ifCond .eq 13, 3) := by decide +kernel
theorem dX5_kind_8 : decode cX5_kind 8 = .ok (.iload_n 2, 1) := by decide +kernel
theorem dX5_kind_9 : decode cX5_kind 9 = .ok (.iconst 1, 1) := by decide +kernel
theorem dX5_kind_10 : decode cX5_kind 10 = .ok (.bipush 60, 2) := by decide +kernel
theorem dX5_kind_12 : decode cX5_kind 12 = .ok (.invokestatic 45, 3) := by decide +kernel
theorem dX5_kind_15 : decode cX5_kind 15 = .ok (.ifCond .ne 10, 3) := by decide +kernel
theorem dX5_kind_18 : decode cX5_kind 18 = .ok (.aload_n 0, 1) := by decide +kernel
theorem dX5_kind_19 : decode cX5_kind 19 = .ok (.ldc 44, 2) := by decide +kernel
theorem dX5_kind_21 : decode cX5_kind 21 = .ok (.invokevirtual 81, 3) := by decide +kernel
theorem dX5_kind_24 : decode cX5_kind 24 = .ok (.ireturn, 1) := by decide +kernel
theorem dX5_kind_25 : decode cX5_kind 25 = .ok (.aload_n 0, 1) := by decide +kernel
theorem dX5_kind_26 : decode cX5_kind 26 = .ok (.iconst 1, 1) := by decide +kernel
theorem dX5_kind_27 : decode cX5_kind 27 = .ok (.aload_n 0, 1) := by decide +kernel
theorem dX5_kind_28 : decode cX5_kind 28 = .ok (.getfield 16, 3) := by decide +kernel
theorem dX5_kind_31 : decode cX5_kind 31 = .ok (.invokevirtual 156, 3) := by decide +kernel
theorem dX5_kind_34 : decode cX5_kind 34 = .ok (.iconst 0, 1) := by decide +kernel
theorem dX5_kind_35 : decode cX5_kind 35 = .ok (.istore_n 3, 1) := by decide +kernel
theorem dX5_kind_36 : decode cX5_kind 36 = .ok (.iconst (-1), 1) := by decide +kernel
theorem dX5_kind_37 : decode cX5_kind 37 = .ok (.istore 4, 2) := by decide +kernel
theorem dX5_kind_39 : decode cX5_kind 39 = .ok (.iconst 0, 1) := by decide +kernel
theorem dX5_kind_40 : decode cX5_kind 40 = .ok (.istore 5, 2) := by decide +kernel
theorem dX5_kind_42 : decode cX5_kind 42 = .ok (.iload 5, 2) := by decide +kernel
theorem dX5_kind_44 : decode cX5_kind 44 = .ok (.bipush 6, 2) := by decide +kernel
theorem dX5_kind_46 : decode cX5_kind 46 = .ok (.if_icmp .ge 54, 3) := by decide +kernel
theorem dX5_kind_49 : decode cX5_kind 49 = .ok (.aload_n 0, 1) := by decide +kernel
theorem dX5_kind_50 : decode cX5_kind 50 = .ok (.iload_n 1, 1) := by decide +kernel
theorem dX5_kind_51 : decode cX5_kind 51 = .ok (.iconst 0, 1) := by decide +kernel
theorem dX5_kind_52 : decode cX5_kind 52 = .ok (.iload 5, 2) := by decide +kernel
theorem dX5_kind_54 : decode cX5_kind 54 = .ok (.invokevirtual 99, 3) := by decide +kernel
theorem dX5_kind_57 : decode cX5_kind 57 = .ok (.aload_n 0, 1) := by decide +kernel
theorem dX5_kind_58 : decode cX5_kind 58 = .ok (.iload_n 2, 1) := by decide +kernel
theorem dX5_kind_59 : decode cX5_kind 59 = .ok (.invokevirtual 167, 3) := by decide +kernel
theorem dX5_kind_62 : decode cX5_kind 62 = .ok (.istore 6, 2) := by decide +kernel
theorem dX5_kind_64 : decode cX5_kind 64 = .ok (.iload 6, 2) := by decide +kernel
theorem dX5_kind_66 : decode cX5_kind 66 = .ok (.iload 4, 2) := by decide +kernel
theorem dX5_kind_68 : decode cX5_kind 68 = .ok (.if_icmp .le 8, 3) := by decide +kernel
theorem dX5_kind_71 : decode cX5_kind 71 = .ok (.iload 5, 2) := by decide +kernel
theorem dX5_kind_73 : decode cX5_kind 73 = .ok (.goto 4, 3) := by decide +kernel
theorem dX5_kind_76 : decode cX5_kind 76 = .ok (.iload_n 3, 1) := by decide +kernel
theorem dX5_kind_77 : decode cX5_kind 77 = .ok (.istore_n 3, 1) := by decide +kernel
theorem dX5_kind_78 : decode cX5_kind 78 = .ok (.iload 6, 2) := by decide +kernel
theorem dX5_kind_80 : decode cX5_kind 80 = .ok (.iload 4, 2) := by decide +kernel
theorem dX5_kind_82 : decode cX5_kind 82 = .ok (.if_icmp .le 8, 3) := by decide +kernel
theorem dX5_kind_85 : decode cX5_kind 85 = .ok (.iload 6, 2) := by decide +kernel
theorem dX5_kind_87 : decode cX5_kind 87 = .ok (.goto 5, 3) := by decide +kernel
theorem dX5_kind_90 : decode cX5_kind 90 = .ok (.iload 4, 2) := by decide +kernel
theorem dX5_kind_92 : decode cX5_kind 92 = .ok (.istore 4, 2) := by decide +kernel
theorem dX5_kind_94 : decode cX5_kind 94 = .ok (.iinc 5 1, 3) := by decide +kernel
theorem dX5_kind_97 : decode cX5_kind 97 = .ok (.goto (-55), 3) := by decide +kernel
theorem dX5_kind_100 : decode cX5_kind 100 = .ok (.iload_n 3, 1) := by decide +kernel
theorem dX5_kind_101 : decode cX5_kind 101 = .ok (.ireturn, 1) := by decide +kernel
theorem dX5_driest_0 : decode cX5_driest 0 = .ok (.iload_n 1, 1) := by decide +kernel
theorem dX5_driest_1 : decode cX5_driest 1 = .ok (.iconst 1, 1) := by decide +kernel
theorem dX5_driest_2 : decode cX5_driest 2 = .ok (.bipush 60, 2) := by decide +kernel
theorem dX5_driest_4 : decode cX5_driest 4 = .ok (.invokestatic 45, 3) := by decide +kernel
theorem dX5_driest_7 : decode cX5_driest 7 = .ok (.ifCond .eq 13, 3) := by decide +kernel
theorem dX5_driest_10 : decode cX5_driest 10 = .ok (.iload_n 2, 1) := by decide +kernel
theorem dX5_driest_11 : decode cX5_driest 11 = .ok (.iconst 0, 1) := by decide +kernel
theorem dX5_driest_12 : decode cX5_driest 12 = .ok (.ldc 151, 2) := by decide +kernel
theorem dX5_driest_14 : decode cX5_driest 14 = .ok (.invokestatic 45, 3) := by decide +kernel
theorem dX5_driest_17 : decode cX5_driest 17 = .ok (.ifCond .ne 10, 3) := by decide +kernel
theorem dX5_driest_20 : decode cX5_driest 20 = .ok (.aload_n 0, 1) := by decide +kernel
theorem dX5_driest_21 : decode cX5_driest 21 = .ok (.ldc 44, 2) := by decide +kernel
theorem dX5_driest_23 : decode cX5_driest 23 = .ok (.invokevirtual 81, 3) := by decide +kernel
theorem dX5_driest_26 : decode cX5_driest 26 = .ok (.ireturn, 1) := by decide +kernel
theorem dX5_driest_27 : decode cX5_driest 27 = .ok (.aload_n 0, 1) := by decide +kernel
theorem dX5_driest_28 : decode cX5_driest 28 = .ok (.iconst 1, 1) := by decide +kernel
theorem dX5_driest_29 : decode cX5_driest 29 = .ok (.aload_n 0, 1) := by decide +kernel
theorem dX5_driest_30 : decode cX5_driest 30 = .ok (.getfield 16, 3) := by decide +kernel
theorem dX5_driest_33 : decode cX5_driest 33 = .ok (.invokevirtual 156, 3) := by decide +kernel
theorem dX5_driest_36 : decode cX5_driest 36 = .ok (.bipush 10, 2) := by decide +kernel
theorem dX5_driest_38 : decode cX5_driest 38 = .ok (.istore_n 3, 1) := by decide +kernel
theorem dX5_driest_39 : decode cX5_driest 39 = .ok (.iconst 0, 1) := by decide +kernel
theorem dX5_driest_40 : decode cX5_driest 40 = .ok (.istore 4, 2) := by decide +kernel
theorem dX5_driest_42 : decode cX5_driest 42 = .ok (.iload_n 3, 1) := by decide +kernel
theorem dX5_driest_43 : decode cX5_driest 43 = .ok (.ifCond .le 37, 3) := by decide +kernel
theorem dX5_driest_46 : decode cX5_driest 46 = .ok (.iload 4, 2) := by decide +kernel
theorem dX5_driest_48 : decode cX5_driest 48 = .ok (.ifCond .ne 32, 3) := by decide +kernel
theorem dX5_driest_51 : decode cX5_driest 51 = .ok (.iinc 3 (-1), 3) := by decide +kernel
theorem dX5_driest_54 : decode cX5_driest 54 = .ok (.aload_n 0, 1) := by decide +kernel
theorem dX5_driest_55 : decode cX5_driest 55 = .ok (.getfield 7, 3) := by decide +kernel
theorem dX5_driest_58 : decode cX5_driest 58 = .ok (.iconst 1, 1) := by decide +kernel
theorem dX5_driest_59 : decode cX5_driest 59 = .ok (.iload_n 3, 1) := by decide +kernel
theorem dX5_driest_60 : decode cX5_driest 60 = .ok (.iastore, 1) := by decide +kernel
theorem dX5_driest_61 : decode cX5_driest 61 = .ok (.aload_n 0, 1) := by decide +kernel
theorem dX5_driest_62 : decode cX5_driest 62 = .ok (.iload_n 1, 1) := by decide +kernel
theorem dX5_driest_63 : decode cX5_driest 63 = .ok (.invokevirtual 167, 3) := by decide +kernel
theorem dX5_driest_66 : decode cX5_driest 66 = .ok (.iload_n 2, 1) := by decide +kernel
theorem dX5_driest_67 : decode cX5_driest 67 = .ok (.if_icmp .lt 7, 3) := by decide +kernel
theorem dX5_driest_70 : decode cX5_driest 70 = .ok (.iconst 1, 1) := by decide +kernel
theorem dX5_driest_71 : decode cX5_driest 71 = .ok (.goto 4, 3) := by decide +kernel
theorem dX5_driest_74 : decode cX5_driest 74 = .ok (.iconst 0, 1) := by decide +kernel
theorem dX5_driest_75 : decode cX5_driest 75 = .ok (.istore 4, 2) := by decide +kernel
theorem dX5_driest_77 : decode cX5_driest 77 = .ok (.goto (-35), 3) := by decide +kernel
theorem dX5_driest_80 : decode cX5_driest 80 = .ok (.iload 4, 2) := by decide +kernel
theorem dX5_driest_82 : decode cX5_driest 82 = .ok (.ifCond .eq 7, 3) := by decide +kernel
theorem dX5_driest_85 : decode cX5_driest 85 = .ok (.iload_n 3, 1) := by decide +kernel
theorem dX5_driest_86 : decode cX5_driest 86 = .ok (.goto 9, 3) := by decide +kernel
theorem dX5_driest_89 : decode cX5_driest 89 = .ok (.aload_n 0, 1) := by decide +kernel
theorem dX5_driest_90 : decode cX5_driest 90 = .ok (.ldc 166, 2) := by decide +kernel
theorem dX5_driest_92 : decode cX5_driest 92 = .ok (.invokevirtual 81, 3) := by decide +kernel
theorem dX5_driest_95 : decode cX5_driest 95 = .ok (.ireturn, 1) := by decide +kernel
theorem dX5_needs_0 : decode cX5_needs 0 = .ok (.aload_n 0, 1) := by decide +kernel
theorem dX5_needs_1 : decode cX5_needs 1 = .ok (.iload_n 1, 1) := by decide +kernel
theorem dX5_needs_2 : decode cX5_needs 2 = .ok (.invokevirtual 111, 3) := by decide +kernel
theorem dX5_needs_5 : decode cX5_needs 5 = .ok (.ifCond .eq 20, 3) := by decide +kernel
theorem dX5_needs_8 : decode cX5_needs 8 = .ok (.iload_n 2, 1) := by decide +kernel
theorem dX5_needs_9 : decode cX5_needs 9 = .ok (.invokestatic 72, 3) := by decide +kernel
theorem dX5_needs_12 : decode cX5_needs 12 = .ok (.ifCond .eq 13, 3) := by decide +kernel
theorem dX5_needs_15 : decode cX5_needs 15 = .ok (.iload_n 3, 1) := by decide +kernel
theorem dX5_needs_16 : decode cX5_needs 16 = .ok (.iconst 0, 1) := by decide +kernel
theorem dX5_needs_17 : decode cX5_needs 17 = .ok (.bipush 60, 2) := by decide +kernel
theorem dX5_needs_19 : decode cX5_needs 19 = .ok (.invokestatic 45, 3) := by decide +kernel
theorem dX5_needs_22 : decode cX5_needs 22 = .ok (.ifCond .ne 10, 3) := by decide +kernel
theorem dX5_needs_25 : decode cX5_needs 25 = .ok (.aload_n 0, 1) := by decide +kernel
theorem dX5_needs_26 : decode cX5_needs 26 = .ok (.ldc 44, 2) := by decide +kernel
theorem dX5_needs_28 : decode cX5_needs 28 = .ok (.invokevirtual 81, 3) := by decide +kernel
theorem dX5_needs_31 : decode cX5_needs 31 = .ok (.ireturn, 1) := by decide +kernel
theorem dX5_needs_32 : decode cX5_needs 32 = .ok (.aload_n 0, 1) := by decide +kernel
theorem dX5_needs_33 : decode cX5_needs 33 = .ok (.iconst 1, 1) := by decide +kernel
theorem dX5_needs_34 : decode cX5_needs 34 = .ok (.aload_n 0, 1) := by decide +kernel
theorem dX5_needs_35 : decode cX5_needs 35 = .ok (.getfield 16, 3) := by decide +kernel
theorem dX5_needs_38 : decode cX5_needs 38 = .ok (.invokevirtual 156, 3) := by decide +kernel
theorem dX5_needs_41 : decode cX5_needs 41 = .ok (.iconst (-1), 1) := by decide +kernel
theorem dX5_needs_42 : decode cX5_needs 42 = .ok (.istore 4, 2) := by decide +kernel
theorem dX5_needs_44 : decode cX5_needs 44 = .ok (.iconst 0, 1) := by decide +kernel
theorem dX5_needs_45 : decode cX5_needs 45 = .ok (.istore 5, 2) := by decide +kernel
theorem dX5_needs_47 : decode cX5_needs 47 = .ok (.iload 4, 2) := by decide +kernel
theorem dX5_needs_49 : decode cX5_needs 49 = .ok (.bipush 99, 2) := by decide +kernel
theorem dX5_needs_51 : decode cX5_needs 51 = .ok (.if_icmp .ge 42, 3) := by decide +kernel
theorem dX5_needs_54 : decode cX5_needs 54 = .ok (.iload 5, 2) := by decide +kernel
theorem dX5_needs_56 : decode cX5_needs 56 = .ok (.ifCond .ne 37, 3) := by decide +kernel
theorem dX5_needs_59 : decode cX5_needs 59 = .ok (.iinc 4 1, 3) := by decide +kernel
theorem dX5_needs_62 : decode cX5_needs 62 = .ok (.aload_n 0, 1) := by decide +kernel
theorem dX5_needs_63 : decode cX5_needs 63 = .ok (.iload_n 1, 1) := by decide +kernel
theorem dX5_needs_64 : decode cX5_needs 64 = .ok (.iconst 3, 1) := by decide +kernel
theorem dX5_needs_65 : decode cX5_needs 65 = .ok (.iload 4, 2) := by decide +kernel
theorem dX5_needs_67 : decode cX5_needs 67 = .ok (.invokevirtual 99, 3) := by decide +kernel
theorem dX5_needs_70 : decode cX5_needs 70 = .ok (.aload_n 0, 1) := by decide +kernel
theorem dX5_needs_71 : decode cX5_needs 71 = .ok (.iload_n 3, 1) := by decide +kernel
theorem dX5_needs_72 : decode cX5_needs 72 = .ok (.iconst 3, 1) := by decide +kernel
theorem dX5_needs_73 : decode cX5_needs 73 = .ok (.iconst 3, 1) := by decide +kernel
theorem dX5_needs_74 : decode cX5_needs 74 = .ok (.iload_n 2, 1) := by decide +kernel
theorem dX5_needs_75 : decode cX5_needs 75 = .ok (.imul, 1) := by decide +kernel
theorem dX5_needs_76 : decode cX5_needs 76 = .ok (.iadd, 1) := by decide +kernel
theorem dX5_needs_77 : decode cX5_needs 77 = .ok (.invokevirtual 160, 3) := by decide +kernel
theorem dX5_needs_80 : decode cX5_needs 80 = .ok (.ifCond .le 7, 3) := by decide +kernel
theorem dX5_needs_83 : decode cX5_needs 83 = .ok (.iconst 1, 1) := by decide +kernel
theorem dX5_needs_84 : decode cX5_needs 84 = .ok (.goto 4, 3) := by decide +kernel
theorem dX5_needs_87 : decode cX5_needs 87 = .ok (.iconst 0, 1) := by decide +kernel
theorem dX5_needs_88 : decode cX5_needs 88 = .ok (.istore 5, 2) := by decide +kernel
theorem dX5_needs_90 : decode cX5_needs 90 = .ok (.goto (-43), 3) := by decide +kernel
theorem dX5_needs_93 : decode cX5_needs 93 = .ok (.iload 5, 2) := by decide +kernel
theorem dX5_needs_95 : decode cX5_needs 95 = .ok (.ifCond .eq 8, 3) := by decide +kernel
theorem dX5_needs_98 : decode cX5_needs 98 = .ok (.iload 4, 2) := by decide +kernel
theorem dX5_needs_100 : decode cX5_needs 100 = .ok (.goto 9, 3) := by decide +kernel
theorem dX5_needs_103 : decode cX5_needs 103 = .ok (.aload_n 0, 1) := by decide +kernel
theorem dX5_needs_104 : decode cX5_needs 104 = .ok (.ldc 166, 2) := by decide +kernel
theorem dX5_needs_106 : decode cX5_needs 106 = .ok (.invokevirtual 81, 3) := by decide +kernel
theorem dX5_needs_109 : decode cX5_needs 109 = .ok (.ireturn, 1) := by decide +kernel
theorem dX5_dear_0 : decode cX5_dear 0 = .ok (.iload_n 1, 1) := by decide +kernel
theorem dX5_dear_1 : decode cX5_dear 1 = .ok (.iconst 1, 1) := by decide +kernel
theorem dX5_dear_2 : decode cX5_dear 2 = .ok (.bipush 60, 2) := by decide +kernel
theorem dX5_dear_4 : decode cX5_dear 4 = .ok (.invokestatic 45, 3) := by decide +kernel
theorem dX5_dear_7 : decode cX5_dear 7 = .ok (.ifCond .ne 10, 3) := by decide +kernel
theorem dX5_dear_10 : decode cX5_dear 10 = .ok (.aload_n 0, 1) := by decide +kernel
theorem dX5_dear_11 : decode cX5_dear 11 = .ok (.ldc 44, 2) := by decide +kernel
theorem dX5_dear_13 : decode cX5_dear 13 = .ok (.invokevirtual 81, 3) := by decide +kernel
theorem dX5_dear_16 : decode cX5_dear 16 = .ok (.ireturn, 1) := by decide +kernel
theorem dX5_dear_17 : decode cX5_dear 17 = .ok (.aload_n 0, 1) := by decide +kernel
theorem dX5_dear_18 : decode cX5_dear 18 = .ok (.iconst 1, 1) := by decide +kernel
theorem dX5_dear_19 : decode cX5_dear 19 = .ok (.aload_n 0, 1) := by decide +kernel
theorem dX5_dear_20 : decode cX5_dear 20 = .ok (.getfield 16, 3) := by decide +kernel
theorem dX5_dear_23 : decode cX5_dear 23 = .ok (.invokevirtual 156, 3) := by decide +kernel
theorem dX5_dear_26 : decode cX5_dear 26 = .ok (.iconst (-1), 1) := by decide +kernel
theorem dX5_dear_27 : decode cX5_dear 27 = .ok (.istore_n 2, 1) := by decide +kernel
theorem dX5_dear_28 : decode cX5_dear 28 = .ok (.iconst 0, 1) := by decide +kernel
theorem dX5_dear_29 : decode cX5_dear 29 = .ok (.istore_n 3, 1) := by decide +kernel
theorem dX5_dear_30 : decode cX5_dear 30 = .ok (.iconst 0, 1) := by decide +kernel
theorem dX5_dear_31 : decode cX5_dear 31 = .ok (.istore 4, 2) := by decide +kernel
theorem dX5_dear_33 : decode cX5_dear 33 = .ok (.iload 4, 2) := by decide +kernel
theorem dX5_dear_35 : decode cX5_dear 35 = .ok (.aload_n 0, 1) := by decide +kernel
theorem dX5_dear_36 : decode cX5_dear 36 = .ok (.getfield 7, 3) := by decide +kernel
theorem dX5_dear_39 : decode cX5_dear 39 = .ok (.iconst 2, 1) := by decide +kernel
theorem dX5_dear_40 : decode cX5_dear 40 = .ok (.iaload, 1) := by decide +kernel
theorem dX5_dear_41 : decode cX5_dear 41 = .ok (.if_icmp .ge 65, 3) := by decide +kernel
theorem dX5_dear_44 : decode cX5_dear 44 = .ok (.aload_n 0, 1) := by decide +kernel
theorem dX5_dear_45 : decode cX5_dear 45 = .ok (.iload 4, 2) := by decide +kernel
theorem dX5_dear_47 : decode cX5_dear 47 = .ok (.iconst 3, 1) := by decide +kernel
theorem dX5_dear_48 : decode cX5_dear 48 = .ok (.iconst 0, 1) := by decide +kernel
theorem dX5_dear_49 : decode cX5_dear 49 = .ok (.invokevirtual 99, 3) := by decide +kernel
theorem dX5_dear_52 : decode cX5_dear 52 = .ok (.aload_n 0, 1) := by decide +kernel
theorem dX5_dear_53 : decode cX5_dear 53 = .ok (.iload_n 1, 1) := by decide +kernel
theorem dX5_dear_54 : decode cX5_dear 54 = .ok (.invokevirtual 167, 3) := by decide +kernel
theorem dX5_dear_57 : decode cX5_dear 57 = .ok (.istore 5, 2) := by decide +kernel
theorem dX5_dear_59 : decode cX5_dear 59 = .ok (.iload_n 2, 1) := by decide +kernel
theorem dX5_dear_60 : decode cX5_dear 60 = .ok (.ifCond .lt 9, 3) := by decide +kernel
theorem dX5_dear_63 : decode cX5_dear 63 = .ok (.iload 5, 2) := by decide +kernel
theorem dX5_dear_65 : decode cX5_dear 65 = .ok (.iload_n 3, 1) := by decide +kernel
theorem dX5_dear_66 : decode cX5_dear 66 = .ok (.if_icmp .ge 7, 3) := by decide +kernel
theorem dX5_dear_69 : decode cX5_dear 69 = .ok (.iconst 1, 1) := by decide +kernel
theorem dX5_dear_70 : decode cX5_dear 70 = .ok (.goto 4, 3) := by decide +kernel
theorem dX5_dear_73 : decode cX5_dear 73 = .ok (.iconst 0, 1) := by decide +kernel
theorem dX5_dear_74 : decode cX5_dear 74 = .ok (.istore 6, 2) := by decide +kernel
theorem dX5_dear_76 : decode cX5_dear 76 = .ok (.iload 6, 2) := by decide +kernel
theorem dX5_dear_78 : decode cX5_dear 78 = .ok (.ifCond .eq 8, 3) := by decide +kernel
theorem dX5_dear_81 : decode cX5_dear 81 = .ok (.iload 4, 2) := by decide +kernel
theorem dX5_dear_83 : decode cX5_dear 83 = .ok (.goto 4, 3) := by decide +kernel
theorem dX5_dear_86 : decode cX5_dear 86 = .ok (.iload_n 2, 1) := by decide +kernel
theorem dX5_dear_87 : decode cX5_dear 87 = .ok (.istore_n 2, 1) := by decide +kernel
theorem dX5_dear_88 : decode cX5_dear 88 = .ok (.iload 6, 2) := by decide +kernel
theorem dX5_dear_90 : decode cX5_dear 90 = .ok (.ifCond .eq 8, 3) := by decide +kernel
theorem dX5_dear_93 : decode cX5_dear 93 = .ok (.iload 5, 2) := by decide +kernel
theorem dX5_dear_95 : decode cX5_dear 95 = .ok (.goto 4, 3) := by decide +kernel
theorem dX5_dear_98 : decode cX5_dear 98 = .ok (.iload_n 3, 1) := by decide +kernel
theorem dX5_dear_99 : decode cX5_dear 99 = .ok (.istore_n 3, 1) := by decide +kernel
theorem dX5_dear_100 : decode cX5_dear 100 = .ok (.iinc 4 1, 3) := by decide +kernel
theorem dX5_dear_103 : decode cX5_dear 103 = .ok (.goto (-70), 3) := by decide +kernel
theorem dX5_dear_106 : decode cX5_dear 106 = .ok (.iload_n 2, 1) := by decide +kernel
theorem dX5_dear_107 : decode cX5_dear 107 = .ok (.ifCond .ge 12, 3) := by decide +kernel
theorem dX5_dear_110 : decode cX5_dear 110 = .ok (.aload_n 0, 1) := by decide +kernel
theorem dX5_dear_111 : decode cX5_dear 111 = .ok (.ldc 166, 2) := by decide +kernel
theorem dX5_dear_113 : decode cX5_dear 113 = .ok (.invokevirtual 81, 3) := by decide +kernel
theorem dX5_dear_116 : decode cX5_dear 116 = .ok (.goto 4, 3) := by decide +kernel
theorem dX5_dear_119 : decode cX5_dear 119 = .ok (.iload_n 2, 1) := by decide +kernel
theorem dX5_dear_120 : decode cX5_dear 120 = .ok (.ireturn, 1) := by decide +kernel
theorem dX5_open_0 : decode cX5_open 0 = .ok (.iload_n 1, 1) := by decide +kernel
theorem dX5_open_1 : decode cX5_open 1 = .ok (.iconst 1, 1) := by decide +kernel
theorem dX5_open_2 : decode cX5_open 2 = .ok (.bipush 60, 2) := by decide +kernel
theorem dX5_open_4 : decode cX5_open 4 = .ok (.invokestatic 45, 3) := by decide +kernel
theorem dX5_open_7 : decode cX5_open 7 = .ok (.ifCond .ne 10, 3) := by decide +kernel
theorem dX5_open_10 : decode cX5_open 10 = .ok (.aload_n 0, 1) := by decide +kernel
theorem dX5_open_11 : decode cX5_open 11 = .ok (.ldc 44, 2) := by decide +kernel
theorem dX5_open_13 : decode cX5_open 13 = .ok (.invokevirtual 81, 3) := by decide +kernel
theorem dX5_open_16 : decode cX5_open 16 = .ok (.ireturn, 1) := by decide +kernel
theorem dX5_open_17 : decode cX5_open 17 = .ok (.aload_n 0, 1) := by decide +kernel
theorem dX5_open_18 : decode cX5_open 18 = .ok (.iconst 1, 1) := by decide +kernel
theorem dX5_open_19 : decode cX5_open 19 = .ok (.aload_n 0, 1) := by decide +kernel
theorem dX5_open_20 : decode cX5_open 20 = .ok (.getfield 16, 3) := by decide +kernel
theorem dX5_open_23 : decode cX5_open 23 = .ok (.invokevirtual 156, 3) := by decide +kernel
theorem dX5_open_26 : decode cX5_open 26 = .ok (.iconst 0, 1) := by decide +kernel
theorem dX5_open_27 : decode cX5_open 27 = .ok (.istore_n 2, 1) := by decide +kernel
theorem dX5_open_28 : decode cX5_open 28 = .ok (.iconst (-1), 1) := by decide +kernel
theorem dX5_open_29 : decode cX5_open 29 = .ok (.istore_n 3, 1) := by decide +kernel
theorem dX5_open_30 : decode cX5_open 30 = .ok (.iconst 0, 1) := by decide +kernel
theorem dX5_open_31 : decode cX5_open 31 = .ok (.istore 4, 2) := by decide +kernel
theorem dX5_open_33 : decode cX5_open 33 = .ok (.iload 4, 2) := by decide +kernel
theorem dX5_open_35 : decode cX5_open 35 = .ok (.bipush 12, 2) := by decide +kernel
theorem dX5_open_37 : decode cX5_open 37 = .ok (.if_icmp .ge 58, 3) := by decide +kernel
theorem dX5_open_40 : decode cX5_open 40 = .ok (.aload_n 0, 1) := by decide +kernel
theorem dX5_open_41 : decode cX5_open 41 = .ok (.iload 4, 2) := by decide +kernel
theorem dX5_open_43 : decode cX5_open 43 = .ok (.iconst 1, 1) := by decide +kernel
theorem dX5_open_44 : decode cX5_open 44 = .ok (.iconst 1, 1) := by decide +kernel
theorem dX5_open_45 : decode cX5_open 45 = .ok (.aload_n 0, 1) := by decide +kernel
theorem dX5_open_46 : decode cX5_open 46 = .ok (.iload 4, 2) := by decide +kernel
theorem dX5_open_48 : decode cX5_open 48 = .ok (.iconst 1, 1) := by decide +kernel
theorem dX5_open_49 : decode cX5_open 49 = .ok (.invokevirtual 49, 3) := by decide +kernel
theorem dX5_open_52 : decode cX5_open 52 = .ok (.isub, 1) := by decide +kernel
theorem dX5_open_53 : decode cX5_open 53 = .ok (.invokevirtual 128, 3) := by decide +kernel
theorem dX5_open_56 : decode cX5_open 56 = .ok (.aload_n 0, 1) := by decide +kernel
theorem dX5_open_57 : decode cX5_open 57 = .ok (.iload_n 1, 1) := by decide +kernel
theorem dX5_open_58 : decode cX5_open 58 = .ok (.invokevirtual 167, 3) := by decide +kernel
theorem dX5_open_61 : decode cX5_open 61 = .ok (.istore 5, 2) := by decide +kernel
theorem dX5_open_63 : decode cX5_open 63 = .ok (.iload 5, 2) := by decide +kernel
theorem dX5_open_65 : decode cX5_open 65 = .ok (.iload_n 3, 1) := by decide +kernel
theorem dX5_open_66 : decode cX5_open 66 = .ok (.if_icmp .le 8, 3) := by decide +kernel
theorem dX5_open_69 : decode cX5_open 69 = .ok (.iload 4, 2) := by decide +kernel
theorem dX5_open_71 : decode cX5_open 71 = .ok (.goto 4, 3) := by decide +kernel
theorem dX5_open_74 : decode cX5_open 74 = .ok (.iload_n 2, 1) := by decide +kernel
theorem dX5_open_75 : decode cX5_open 75 = .ok (.istore_n 2, 1) := by decide +kernel
theorem dX5_open_76 : decode cX5_open 76 = .ok (.iload 5, 2) := by decide +kernel
theorem dX5_open_78 : decode cX5_open 78 = .ok (.iload_n 3, 1) := by decide +kernel
theorem dX5_open_79 : decode cX5_open 79 = .ok (.if_icmp .le 8, 3) := by decide +kernel
theorem dX5_open_82 : decode cX5_open 82 = .ok (.iload 5, 2) := by decide +kernel
theorem dX5_open_84 : decode cX5_open 84 = .ok (.goto 4, 3) := by decide +kernel
theorem dX5_open_87 : decode cX5_open 87 = .ok (.iload_n 3, 1) := by decide +kernel
theorem dX5_open_88 : decode cX5_open 88 = .ok (.istore_n 3, 1) := by decide +kernel
theorem dX5_open_89 : decode cX5_open 89 = .ok (.iinc 4 1, 3) := by decide +kernel
theorem dX5_open_92 : decode cX5_open 92 = .ok (.goto (-59), 3) := by decide +kernel
theorem dX5_open_95 : decode cX5_open 95 = .ok (.iload_n 2, 1) := by decide +kernel
theorem dX5_open_96 : decode cX5_open 96 = .ok (.ireturn, 1) := by decide +kernel
theorem dX5_feed_0 : decode cX5_feed 0 = .ok (.iload_n 2, 1) := by decide +kernel
theorem dX5_feed_1 : decode cX5_feed 1 = .ok (.iconst 1, 1) := by decide +kernel
theorem dX5_feed_2 : decode cX5_feed 2 = .ok (.iconst 4, 1) := by decide +kernel
theorem dX5_feed_3 : decode cX5_feed 3 = .ok (.invokestatic 45, 3) := by decide +kernel
theorem dX5_feed_6 : decode cX5_feed 6 = .ok (.ifCond .ne 10, 3) := by decide +kernel
theorem dX5_feed_9 : decode cX5_feed 9 = .ok (.aload_n 0, 1) := by decide +kernel
theorem dX5_feed_10 : decode cX5_feed 10 = .ok (.ldc 44, 2) := by decide +kernel
theorem dX5_feed_12 : decode cX5_feed 12 = .ok (.invokevirtual 81, 3) := by decide +kernel
theorem dX5_feed_15 : decode cX5_feed 15 = .ok (.ireturn, 1) := by decide +kernel
theorem dX5_feed_16 : decode cX5_feed 16 = .ok (.aload_n 0, 1) := by decide +kernel
theorem dX5_feed_17 : decode cX5_feed 17 = .ok (.getfield 170, 3) := by decide +kernel
theorem dX5_feed_20 : decode cX5_feed 20 = .ok (.iload_n 2, 1) := by decide +kernel
theorem dX5_feed_21 : decode cX5_feed 21 = .ok (.iadd, 1) := by decide +kernel
theorem dX5_feed_22 : decode cX5_feed 22 = .ok (.bipush 120, 2) := by decide +kernel
theorem dX5_feed_24 : decode cX5_feed 24 = .ok (.if_icmp .le 10, 3) := by decide +kernel
theorem dX5_feed_27 : decode cX5_feed 27 = .ok (.aload_n 0, 1) := by decide +kernel
theorem dX5_feed_28 : decode cX5_feed 28 = .ok (.ldc 106, 2) := by decide +kernel
theorem dX5_feed_30 : decode cX5_feed 30 = .ok (.invokevirtual 81, 3) := by decide +kernel
theorem dX5_feed_33 : decode cX5_feed 33 = .ok (.ireturn, 1) := by decide +kernel
theorem dX5_feed_34 : decode cX5_feed 34 = .ok (.iload_n 2, 1) := by decide +kernel
theorem dX5_feed_35 : decode cX5_feed 35 = .ok (.iconst 1, 1) := by decide +kernel
theorem dX5_feed_36 : decode cX5_feed 36 = .ok (.isub, 1) := by decide +kernel
theorem dX5_feed_37 : decode cX5_feed 37 = .ok (.istore_n 3, 1) := by decide +kernel
theorem dX5_feed_38 : decode cX5_feed 38 = .ok (.iload_n 3, 1) := by decide +kernel
theorem dX5_feed_39 : decode cX5_feed 39 = .ok (.ifCond .lt 38, 3) := by decide +kernel
theorem dX5_feed_42 : decode cX5_feed 42 = .ok (.aload_n 0, 1) := by decide +kernel
theorem dX5_feed_43 : decode cX5_feed 43 = .ok (.getfield 22, 3) := by decide +kernel
theorem dX5_feed_46 : decode cX5_feed 46 = .ok (.aload_n 0, 1) := by decide +kernel
theorem dX5_feed_47 : decode cX5_feed 47 = .ok (.getfield 170, 3) := by decide +kernel
theorem dX5_feed_50 : decode cX5_feed 50 = .ok (.iload_n 1, 1) := by decide +kernel
theorem dX5_feed_51 : decode cX5_feed 51 = .ok (.bipush 8, 2) := by decide +kernel
theorem dX5_feed_53 : decode cX5_feed 53 = .ok (.iload_n 3, 1) := by decide +kernel
theorem dX5_feed_54 : decode cX5_feed 54 = .ok (.imul, 1) := by decide +kernel
theorem dX5_feed_55 : decode cX5_feed 55 = .ok (.ishr, 1) := by decide +kernel
theorem dX5_feed_56 : decode cX5_feed 56 = .ok (.sipush 255, 3) := by decide +kernel
theorem dX5_feed_59 : decode cX5_feed 59 = .ok (.iand, 1) := by decide +kernel
theorem dX5_feed_60 : decode cX5_feed 60 = .ok (.iastore, 1) := by decide +kernel
theorem dX5_feed_61 : decode cX5_feed 61 = .ok (.aload_n 0, 1) := by decide +kernel
theorem dX5_feed_62 : decode cX5_feed 62 = .ok (.dup, 1) := by decide +kernel
theorem dX5_feed_63 : decode cX5_feed 63 = .ok (.getfield 170, 3) := by decide +kernel
theorem dX5_feed_66 : decode cX5_feed 66 = .ok (.iconst 1, 1) := by decide +kernel
theorem dX5_feed_67 : decode cX5_feed 67 = .ok (.iadd, 1) := by decide +kernel
theorem dX5_feed_68 : decode cX5_feed 68 = .ok (.putfield 170, 3) := by decide +kernel
theorem dX5_feed_71 : decode cX5_feed 71 = .ok (.iinc 3 (-1), 3) := by decide +kernel
theorem dX5_feed_74 : decode cX5_feed 74 = .ok (.goto (-36), 3) := by decide +kernel
theorem dX5_feed_77 : decode cX5_feed 77 = .ok (.aload_n 0, 1) := by decide +kernel
theorem dX5_feed_78 : decode cX5_feed 78 = .ok (.getfield 170, 3) := by decide +kernel
theorem dX5_feed_81 : decode cX5_feed 81 = .ok (.ireturn, 1) := by decide +kernel
theorem dX5_wipe_0 : decode cX5_wipe 0 = .ok (.aload_n 0, 1) := by decide +kernel
theorem dX5_wipe_1 : decode cX5_wipe 1 = .ok (.getfield 170, 3) := by decide +kernel
theorem dX5_wipe_4 : decode cX5_wipe 4 = .ok (.istore_n 1, 1) := by decide +kernel
theorem dX5_wipe_5 : decode cX5_wipe 5 = .ok (.aload_n 0, 1) := by decide +kernel
theorem dX5_wipe_6 : decode cX5_wipe 6 = .ok (.iconst 0, 1) := by decide +kernel
theorem dX5_wipe_7 : decode cX5_wipe 7 = .ok (.putfield 170, 3) := by decide +kernel
theorem dX5_wipe_10 : decode cX5_wipe 10 = .ok (.iload_n 1, 1) := by decide +kernel
theorem dX5_wipe_11 : decode cX5_wipe 11 = .ok (.ireturn, 1) := by decide +kernel
theorem dX5_byteAt_0 : decode cX5_byteAt 0 = .ok (.iload_n 1, 1) := by decide +kernel
theorem dX5_byteAt_1 : decode cX5_byteAt 1 = .ok (.aload_n 0, 1) := by decide +kernel
theorem dX5_byteAt_2 : decode cX5_byteAt 2 = .ok (.getfield 170, 3) := by decide +kernel
theorem dX5_byteAt_5 : decode cX5_byteAt 5 = .ok (.if_icmp .ge 12, 3) := by decide +kernel
theorem dX5_byteAt_8 : decode cX5_byteAt 8 = .ok (.aload_n 0, 1) := by decide +kernel
theorem dX5_byteAt_9 : decode cX5_byteAt 9 = .ok (.getfield 22, 3) := by decide +kernel
theorem dX5_byteAt_12 : decode cX5_byteAt 12 = .ok (.iload_n 1, 1) := by decide +kernel
theorem dX5_byteAt_13 : decode cX5_byteAt 13 = .ok (.iaload, 1) := by decide +kernel
theorem dX5_byteAt_14 : decode cX5_byteAt 14 = .ok (.goto 4, 3) := by decide +kernel
theorem dX5_byteAt_17 : decode cX5_byteAt 17 = .ok (.iconst (-1), 1) := by decide +kernel
theorem dX5_byteAt_18 : decode cX5_byteAt 18 = .ok (.ireturn, 1) := by decide +kernel
theorem dX5_isLetter_0 : decode cX5_isLetter 0 = .ok (.iload_n 0, 1) := by decide +kernel
theorem dX5_isLetter_1 : decode cX5_isLetter 1 = .ok (.bipush 97, 2) := by decide +kernel
theorem dX5_isLetter_3 : decode cX5_isLetter 3 = .ok (.bipush 122, 2) := by decide +kernel
theorem dX5_isLetter_5 : decode cX5_isLetter 5 = .ok (.invokestatic 45, 3) := by decide +kernel
theorem dX5_isLetter_8 : decode cX5_isLetter 8 = .ok (.ireturn, 1) := by decide +kernel
theorem dX5_isDigit_0 : decode cX5_isDigit 0 = .ok (.iload_n 0, 1) := by decide +kernel
theorem dX5_isDigit_1 : decode cX5_isDigit 1 = .ok (.bipush 48, 2) := by decide +kernel
theorem dX5_isDigit_3 : decode cX5_isDigit 3 = .ok (.bipush 57, 2) := by decide +kernel
theorem dX5_isDigit_5 : decode cX5_isDigit 5 = .ok (.invokestatic 45, 3) := by decide +kernel
theorem dX5_isDigit_8 : decode cX5_isDigit 8 = .ok (.ireturn, 1) := by decide +kernel
theorem dX5_advance_0 : decode cX5_advance 0 = .ok (.aload_n 0, 1) := by decide +kernel
theorem dX5_advance_1 : decode cX5_advance 1 = .ok (.aload_n 0, 1) := by decide +kernel
theorem dX5_advance_2 : decode cX5_advance 2 = .ok (.getfield 173, 3) := by decide +kernel
theorem dX5_advance_5 : decode cX5_advance 5 = .ok (.putfield 176, 3) := by decide +kernel
theorem dX5_advance_8 : decode cX5_advance 8 = .ok (.aload_n 0, 1) := by decide +kernel
theorem dX5_advance_9 : decode cX5_advance 9 = .ok (.aload_n 0, 1) := by decide +kernel
theorem dX5_advance_10 : decode cX5_advance 10 = .ok (.getfield 176, 3) := by decide +kernel
theorem dX5_advance_13 : decode cX5_advance 13 = .ok (.invokevirtual 179, 3) := by decide +kernel
theorem dX5_advance_16 : decode cX5_advance 16 = .ok (.bipush 32, 2) := by decide +kernel
theorem dX5_advance_18 : decode cX5_advance 18 = .ok (.if_icmp .ne 16, 3) := by decide +kernel
theorem dX5_advance_21 : decode cX5_advance 21 = .ok (.aload_n 0, 1) := by decide +kernel
theorem dX5_advance_22 : decode cX5_advance 22 = .ok (.dup, 1) := by decide +kernel
theorem dX5_advance_23 : decode cX5_advance 23 = .ok (.getfield 176, 3) := by decide +kernel
theorem dX5_advance_26 : decode cX5_advance 26 = .ok (.iconst 1, 1) := by decide +kernel
theorem dX5_advance_27 : decode cX5_advance 27 = .ok (.iadd, 1) := by decide +kernel
theorem dX5_advance_28 : decode cX5_advance 28 = .ok (.putfield 176, 3) := by decide +kernel
theorem dX5_advance_31 : decode cX5_advance 31 = .ok (.goto (-23), 3) := by decide +kernel
theorem dX5_advance_34 : decode cX5_advance 34 = .ok (.aload_n 0, 1) := by decide +kernel
theorem dX5_advance_35 : decode cX5_advance 35 = .ok (.aload_n 0, 1) := by decide +kernel
theorem dX5_advance_36 : decode cX5_advance 36 = .ok (.getfield 176, 3) := by decide +kernel
theorem dX5_advance_39 : decode cX5_advance 39 = .ok (.putfield 173, 3) := by decide +kernel
theorem dX5_advance_42 : decode cX5_advance 42 = .ok (.aload_n 0, 1) := by decide +kernel
theorem dX5_advance_43 : decode cX5_advance 43 = .ok (.aload_n 0, 1) := by decide +kernel
theorem dX5_advance_44 : decode cX5_advance 44 = .ok (.getfield 176, 3) := by decide +kernel
theorem dX5_advance_47 : decode cX5_advance 47 = .ok (.invokevirtual 179, 3) := by decide +kernel
theorem dX5_advance_50 : decode cX5_advance 50 = .ok (.istore_n 1, 1) := by decide +kernel
theorem dX5_advance_51 : decode cX5_advance 51 = .ok (.aload_n 0, 1) := by decide +kernel
theorem dX5_advance_52 : decode cX5_advance 52 = .ok (.iload_n 1, 1) := by decide +kernel
theorem dX5_advance_53 : decode cX5_advance 53 = .ok (.ifCond .ge 7, 3) := by decide +kernel
theorem dX5_advance_56 : decode cX5_advance 56 = .ok (.iconst 0, 1) := by decide +kernel
theorem dX5_advance_57 : decode cX5_advance 57 = .ok (.goto 26, 3) := by decide +kernel
theorem dX5_advance_60 : decode cX5_advance 60 = .ok (.iload_n 1, 1) := by decide +kernel
theorem dX5_advance_61 : decode cX5_advance 61 = .ok (.invokestatic 182, 3) := by decide +kernel
theorem dX5_advance_64 : decode cX5_advance 64 = .ok (.ifCond .eq 7, 3) := by decide +kernel
theorem dX5_advance_67 : decode cX5_advance 67 = .ok (.iconst 1, 1) := by decide +kernel
theorem dX5_advance_68 : decode cX5_advance 68 = .ok (.goto 15, 3) := by decide +kernel
theorem dX5_advance_71 : decode cX5_advance 71 = .ok (.iload_n 1, 1) := by decide +kernel
theorem dX5_advance_72 : decode cX5_advance 72 = .ok (.invokestatic 185, 3) := by decide +kernel
theorem dX5_advance_75 : decode cX5_advance 75 = .ok (.ifCond .eq 7, 3) := by decide +kernel
theorem dX5_advance_78 : decode cX5_advance 78 = .ok (.iconst 2, 1) := by decide +kernel
theorem dX5_advance_79 : decode cX5_advance 79 = .ok (.goto 4, 3) := by decide +kernel
theorem dX5_advance_82 : decode cX5_advance 82 = .ok (.iconst 3, 1) := by decide +kernel
theorem dX5_advance_83 : decode cX5_advance 83 = .ok (.putfield 188, 3) := by decide +kernel
theorem dX5_advance_86 : decode cX5_advance 86 = .ok (.aload_n 0, 1) := by decide +kernel
theorem dX5_advance_87 : decode cX5_advance 87 = .ok (.lconst 0, 1) := by decide +kernel
theorem dX5_advance_88 : decode cX5_advance 88 = .ok (.putfield 191, 3) := by decide +kernel
theorem dX5_advance_91 : decode cX5_advance 91 = .ok (.aload_n 0, 1) := by decide +kernel
theorem dX5_advance_92 : decode cX5_advance 92 = .ok (.aload_n 0, 1) := by decide +kernel
theorem dX5_advance_93 : decode cX5_advance 93 = .ok (.getfield 188, 3) := by decide +kernel
theorem dX5_advance_96 : decode cX5_advance 96 = .ok (.iconst 2, 1) := by decide +kernel
theorem dX5_advance_97 : decode cX5_advance 97 = .ok (.if_icmp .ne 7, 3) := by decide +kernel
theorem dX5_advance_100 : decode cX5_advance 100 = .ok (.iconst 0, 1) := by decide +kernel
theorem dX5_advance_101 : decode cX5_advance 101 = .ok (.goto 4, 3) := by decide +kernel
theorem dX5_advance_104 : decode cX5_advance 104 = .ok (.iload_n 1, 1) := by decide +kernel
theorem dX5_advance_105 : decode cX5_advance 105 = .ok (.putfield 195, 3) := by decide +kernel
theorem dX5_advance_108 : decode cX5_advance 108 = .ok (.aload_n 0, 1) := by decide +kernel
theorem dX5_advance_109 : decode cX5_advance 109 = .ok (.getfield 188, 3) := by decide +kernel
theorem dX5_advance_112 : decode cX5_advance 112 = .ok (.iconst 3, 1) := by decide +kernel
theorem dX5_advance_113 : decode cX5_advance 113 = .ok (.if_icmp .ne 13, 3) := by decide +kernel
theorem dX5_advance_116 : decode cX5_advance 116 = .ok (.aload_n 0, 1) := by decide +kernel
theorem dX5_advance_117 : decode cX5_advance 117 = .ok (.dup, 1) := by decide +kernel
theorem dX5_advance_118 : decode cX5_advance 118 = .ok (.getfield 173, 3) := by decide +kernel
theorem dX5_advance_121 : decode cX5_advance 121 = .ok (.iconst 1, 1) := by decide +kernel
theorem dX5_advance_122 : decode cX5_advance 122 = .ok (.iadd, 1) := by decide +kernel
theorem dX5_advance_123 : decode cX5_advance 123 = .ok (.putfield 173, 3) := by decide +kernel
theorem dX5_advance_126 : decode cX5_advance 126 = .ok (.aload_n 0, 1) := by decide +kernel
theorem dX5_advance_127 : decode cX5_advance 127 = .ok (.getfield 188, 3) := by decide +kernel
theorem dX5_advance_130 : decode cX5_advance 130 = .ok (.iconst 1, 1) := by decide +kernel
theorem dX5_advance_131 : decode cX5_advance 131 = .ok (.if_icmp .ne 76, 3) := by decide +kernel
theorem dX5_advance_134 : decode cX5_advance 134 = .ok (.aload_n 0, 1) := by decide +kernel
theorem dX5_advance_135 : decode cX5_advance 135 = .ok (.aload_n 0, 1) := by decide +kernel
theorem dX5_advance_136 : decode cX5_advance 136 = .ok (.getfield 173, 3) := by decide +kernel
theorem dX5_advance_139 : decode cX5_advance 139 = .ok (.invokevirtual 179, 3) := by decide +kernel
theorem dX5_advance_142 : decode cX5_advance 142 = .ok (.invokestatic 182, 3) := by decide +kernel
theorem dX5_advance_145 : decode cX5_advance 145 = .ok (.ifCond .eq 62, 3) := by decide +kernel
theorem dX5_advance_148 : decode cX5_advance 148 = .ok (.aload_n 0, 1) := by decide +kernel
theorem dX5_advance_149 : decode cX5_advance 149 = .ok (.aload_n 0, 1) := by decide +kernel
theorem dX5_advance_150 : decode cX5_advance 150 = .ok (.getfield 173, 3) := by decide +kernel
theorem dX5_advance_153 : decode cX5_advance 153 = .ok (.aload_n 0, 1) := by decide +kernel
theorem dX5_advance_154 : decode cX5_advance 154 = .ok (.getfield 176, 3) := by decide +kernel
theorem dX5_advance_157 : decode cX5_advance 157 = .ok (.isub, 1) := by decide +kernel
theorem dX5_advance_158 : decode cX5_advance 158 = .ok (.bipush 12, 2) := by decide +kernel
theorem dX5_advance_160 : decode cX5_advance 160 = .ok (.if_icmp .ge 28, 3) := by decide +kernel
theorem dX5_advance_163 : decode cX5_advance 163 = .ok (.ldc2_w 198, 3) := by decide +kernel
theorem dX5_advance_166 : decode cX5_advance 166 = .ok (.aload_n 0, 1) := by decide +kernel
theorem dX5_advance_167 : decode cX5_advance 167 = .ok (.getfield 191, 3) := by decide +kernel
theorem dX5_advance_170 : decode cX5_advance 170 = .ok (.lmul, 1) := by decide +kernel
theorem dX5_advance_171 : decode cX5_advance 171 = .ok (.aload_n 0, 1) := by decide +kernel
theorem dX5_advance_172 : decode cX5_advance 172 = .ok (.aload_n 0, 1) := by decide +kernel
theorem dX5_advance_173 : decode cX5_advance 173 = .ok (.getfield 173, 3) := by decide +kernel
theorem dX5_advance_176 : decode cX5_advance 176 = .ok (.invokevirtual 179, 3) := by decide +kernel
theorem dX5_advance_179 : decode cX5_advance 179 = .ok (.i2l, 1) := by decide +kernel
theorem dX5_advance_180 : decode cX5_advance 180 = .ok (.ladd, 1) := by decide +kernel
theorem dX5_advance_181 : decode cX5_advance 181 = .ok (.ldc2_w 200, 3) := by decide +kernel
theorem dX5_advance_184 : decode cX5_advance 184 = .ok (.lsub, 1) := by decide +kernel
theorem dX5_advance_185 : decode cX5_advance 185 = .ok (.goto 6, 3) := by decide +kernel
theorem dX5_advance_188 : decode cX5_advance 188 = .ok (.ldc2_w 202, 3) := by decide +kernel
theorem dX5_advance_191 : decode cX5_advance 191 = .ok (.putfield 191, 3) := by decide +kernel
theorem dX5_advance_194 : decode cX5_advance 194 = .ok (.aload_n 0, 1) := by decide +kernel
theorem dX5_advance_195 : decode cX5_advance 195 = .ok (.dup, 1) := by decide +kernel
theorem dX5_advance_196 : decode cX5_advance 196 = .ok (.getfield 173, 3) := by decide +kernel
theorem dX5_advance_199 : decode cX5_advance 199 = .ok (.iconst 1, 1) := by decide +kernel
theorem dX5_advance_200 : decode cX5_advance 200 = .ok (.iadd, 1) := by decide +kernel
theorem dX5_advance_201 : decode cX5_advance 201 = .ok (.putfield 173, 3) := by decide +kernel
theorem dX5_advance_204 : decode cX5_advance 204 = .ok (.goto (-78), 3) := by decide +kernel
theorem dX5_advance_207 : decode cX5_advance 207 = .ok (.aload_n 0, 1) := by decide +kernel
theorem dX5_advance_208 : decode cX5_advance 208 = .ok (.getfield 188, 3) := by decide +kernel
theorem dX5_advance_211 : decode cX5_advance 211 = .ok (.iconst 2, 1) := by decide +kernel
theorem dX5_advance_212 : decode cX5_advance 212 = .ok (.if_icmp .ne 69, 3) := by decide +kernel
theorem dX5_advance_215 : decode cX5_advance 215 = .ok (.aload_n 0, 1) := by decide +kernel
theorem dX5_advance_216 : decode cX5_advance 216 = .ok (.aload_n 0, 1) := by decide +kernel
theorem dX5_advance_217 : decode cX5_advance 217 = .ok (.getfield 173, 3) := by decide +kernel
theorem dX5_advance_220 : decode cX5_advance 220 = .ok (.invokevirtual 179, 3) := by decide +kernel
theorem dX5_advance_223 : decode cX5_advance 223 = .ok (.invokestatic 185, 3) := by decide +kernel
theorem dX5_advance_226 : decode cX5_advance 226 = .ok (.ifCond .eq 55, 3) := by decide +kernel
theorem dX5_advance_229 : decode cX5_advance 229 = .ok (.aload_n 0, 1) := by decide +kernel
theorem dX5_advance_230 : decode cX5_advance 230 = .ok (.aload_n 0, 1) := by decide +kernel
theorem dX5_advance_231 : decode cX5_advance 231 = .ok (.getfield 195, 3) := by decide +kernel
theorem dX5_advance_234 : decode cX5_advance 234 = .ok (.sipush 999, 3) := by decide +kernel
theorem dX5_advance_237 : decode cX5_advance 237 = .ok (.if_icmp .le 9, 3) := by decide +kernel
theorem dX5_advance_240 : decode cX5_advance 240 = .ok (.sipush 10000, 3) := by decide +kernel
theorem dX5_advance_243 : decode cX5_advance 243 = .ok (.goto 22, 3) := by decide +kernel
theorem dX5_advance_246 : decode cX5_advance 246 = .ok (.bipush 10, 2) := by decide +kernel
theorem dX5_advance_248 : decode cX5_advance 248 = .ok (.aload_n 0, 1) := by decide +kernel
theorem dX5_advance_249 : decode cX5_advance 249 = .ok (.getfield 195, 3) := by decide +kernel
theorem dX5_advance_252 : decode cX5_advance 252 = .ok (.imul, 1) := by decide +kernel
theorem dX5_advance_253 : decode cX5_advance 253 = .ok (.aload_n 0, 1) := by decide +kernel
theorem dX5_advance_254 : decode cX5_advance 254 = .ok (.aload_n 0, 1) := by decide +kernel
theorem dX5_advance_255 : decode cX5_advance 255 = .ok (.getfield 173, 3) := by decide +kernel
theorem dX5_advance_258 : decode cX5_advance 258 = .ok (.invokevirtual 179, 3) := by decide +kernel
theorem dX5_advance_261 : decode cX5_advance 261 = .ok (.iadd, 1) := by decide +kernel
theorem dX5_advance_262 : decode cX5_advance 262 = .ok (.bipush 48, 2) := by decide +kernel
theorem dX5_advance_264 : decode cX5_advance 264 = .ok (.isub, 1) := by decide +kernel
theorem dX5_advance_265 : decode cX5_advance 265 = .ok (.putfield 195, 3) := by decide +kernel
theorem dX5_advance_268 : decode cX5_advance 268 = .ok (.aload_n 0, 1) := by decide +kernel
theorem dX5_advance_269 : decode cX5_advance 269 = .ok (.dup, 1) := by decide +kernel
theorem dX5_advance_270 : decode cX5_advance 270 = .ok (.getfield 173, 3) := by decide +kernel
theorem dX5_advance_273 : decode cX5_advance 273 = .ok (.iconst 1, 1) := by decide +kernel
theorem dX5_advance_274 : decode cX5_advance 274 = .ok (.iadd, 1) := by decide +kernel
theorem dX5_advance_275 : decode cX5_advance 275 = .ok (.putfield 173, 3) := by decide +kernel
theorem dX5_advance_278 : decode cX5_advance 278 = .ok (.goto (-71), 3) := by decide +kernel
theorem dX5_advance_281 : decode cX5_advance 281 = .ok (.return_, 1) := by decide +kernel
theorem dX5_isWord_0 : decode cX5_isWord 0 = .ok (.aload_n 0, 1) := by decide +kernel
theorem dX5_isWord_1 : decode cX5_isWord 1 = .ok (.getfield 188, 3) := by decide +kernel
theorem dX5_isWord_4 : decode cX5_isWord 4 = .ok (.iconst 1, 1) := by decide +kernel
theorem dX5_isWord_5 : decode cX5_isWord 5 = .ok (.if_icmp .ne 16, 3) := by decide +kernel
theorem dX5_isWord_8 : decode cX5_isWord 8 = .ok (.aload_n 0, 1) := by decide +kernel
theorem dX5_isWord_9 : decode cX5_isWord 9 = .ok (.getfield 191, 3) := by decide +kernel
theorem dX5_isWord_12 : decode cX5_isWord 12 = .ok (.lload_n 1, 1) := by decide +kernel
theorem dX5_isWord_13 : decode cX5_isWord 13 = .ok (.lcmp, 1) := by decide +kernel
theorem dX5_isWord_14 : decode cX5_isWord 14 = .ok (.ifCond .ne 7, 3) := by decide +kernel
theorem dX5_isWord_17 : decode cX5_isWord 17 = .ok (.iconst 1, 1) := by decide +kernel
theorem dX5_isWord_18 : decode cX5_isWord 18 = .ok (.goto 4, 3) := by decide +kernel
theorem dX5_isWord_21 : decode cX5_isWord 21 = .ok (.iconst 0, 1) := by decide +kernel
theorem dX5_isWord_22 : decode cX5_isWord 22 = .ok (.ireturn, 1) := by decide +kernel
theorem dX5_kindHere_0 : decode cX5_kindHere 0 = .ok (.aload_n 0, 1) := by decide +kernel
theorem dX5_kindHere_1 : decode cX5_kindHere 1 = .ok (.ldc2_w 204, 3) := by decide +kernel
theorem dX5_kindHere_4 : decode cX5_kindHere 4 = .ok (.invokevirtual 206, 3) := by decide +kernel
theorem dX5_kindHere_7 : decode cX5_kindHere 7 = .ok (.ifCond .eq 7, 3) := by decide +kernel
theorem dX5_kindHere_10 : decode cX5_kindHere 10 = .ok (.iconst 0, 1) := by decide +kernel
theorem dX5_kindHere_11 : decode cX5_kindHere 11 = .ok (.goto 74, 3) := by decide +kernel
theorem dX5_kindHere_14 : decode cX5_kindHere 14 = .ok (.aload_n 0, 1) := by decide +kernel
theorem dX5_kindHere_15 : decode cX5_kindHere 15 = .ok (.ldc2_w 210, 3) := by decide +kernel
theorem dX5_kindHere_18 : decode cX5_kindHere 18 = .ok (.invokevirtual 206, 3) := by decide +kernel
theorem dX5_kindHere_21 : decode cX5_kindHere 21 = .ok (.ifCond .eq 7, 3) := by decide +kernel
theorem dX5_kindHere_24 : decode cX5_kindHere 24 = .ok (.iconst 1, 1) := by decide +kernel
theorem dX5_kindHere_25 : decode cX5_kindHere 25 = .ok (.goto 60, 3) := by decide +kernel
theorem dX5_kindHere_28 : decode cX5_kindHere 28 = .ok (.aload_n 0, 1) := by decide +kernel
theorem dX5_kindHere_29 : decode cX5_kindHere 29 = .ok (.ldc2_w 212, 3) := by decide +kernel
theorem dX5_kindHere_32 : decode cX5_kindHere 32 = .ok (.invokevirtual 206, 3) := by decide +kernel
theorem dX5_kindHere_35 : decode cX5_kindHere 35 = .ok (.ifCond .eq 7, 3) := by decide +kernel
theorem dX5_kindHere_38 : decode cX5_kindHere 38 = .ok (.iconst 2, 1) := by decide +kernel
theorem dX5_kindHere_39 : decode cX5_kindHere 39 = .ok (.goto 46, 3) := by decide +kernel
theorem dX5_kindHere_42 : decode cX5_kindHere 42 = .ok (.aload_n 0, 1) := by decide +kernel
theorem dX5_kindHere_43 : decode cX5_kindHere 43 = .ok (.ldc2_w 214, 3) := by decide +kernel
theorem dX5_kindHere_46 : decode cX5_kindHere 46 = .ok (.invokevirtual 206, 3) := by decide +kernel
theorem dX5_kindHere_49 : decode cX5_kindHere 49 = .ok (.ifCond .eq 7, 3) := by decide +kernel
theorem dX5_kindHere_52 : decode cX5_kindHere 52 = .ok (.iconst 3, 1) := by decide +kernel
theorem dX5_kindHere_53 : decode cX5_kindHere 53 = .ok (.goto 32, 3) := by decide +kernel
theorem dX5_kindHere_56 : decode cX5_kindHere 56 = .ok (.aload_n 0, 1) := by decide +kernel
theorem dX5_kindHere_57 : decode cX5_kindHere 57 = .ok (.ldc2_w 216, 3) := by decide +kernel
theorem dX5_kindHere_60 : decode cX5_kindHere 60 = .ok (.invokevirtual 206, 3) := by decide +kernel
theorem dX5_kindHere_63 : decode cX5_kindHere 63 = .ok (.ifCond .eq 7, 3) := by decide +kernel
theorem dX5_kindHere_66 : decode cX5_kindHere 66 = .ok (.iconst 4, 1) := by decide +kernel
theorem dX5_kindHere_67 : decode cX5_kindHere 67 = .ok (.goto 18, 3) := by decide +kernel
theorem dX5_kindHere_70 : decode cX5_kindHere 70 = .ok (.aload_n 0, 1) := by decide +kernel
theorem dX5_kindHere_71 : decode cX5_kindHere 71 = .ok (.ldc2_w 218, 3) := by decide +kernel
theorem dX5_kindHere_74 : decode cX5_kindHere 74 = .ok (.invokevirtual 206, 3) := by decide +kernel
theorem dX5_kindHere_77 : decode cX5_kindHere 77 = .ok (.ifCond .eq 7, 3) := by decide +kernel
theorem dX5_kindHere_80 : decode cX5_kindHere 80 = .ok (.iconst 5, 1) := by decide +kernel
theorem dX5_kindHere_81 : decode cX5_kindHere 81 = .ok (.goto 4, 3) := by decide +kernel
theorem dX5_kindHere_84 : decode cX5_kindHere 84 = .ok (.iconst (-1), 1) := by decide +kernel
theorem dX5_kindHere_85 : decode cX5_kindHere 85 = .ok (.ireturn, 1) := by decide +kernel
theorem dX5_wantNumber_0 : decode cX5_wantNumber 0 = .ok (.aload_n 0, 1) := by decide +kernel
theorem dX5_wantNumber_1 : decode cX5_wantNumber 1 = .ok (.getfield 195, 3) := by decide +kernel
theorem dX5_wantNumber_4 : decode cX5_wantNumber 4 = .ok (.istore_n 3, 1) := by decide +kernel
theorem dX5_wantNumber_5 : decode cX5_wantNumber 5 = .ok (.aload_n 0, 1) := by decide +kernel
theorem dX5_wantNumber_6 : decode cX5_wantNumber 6 = .ok (.aload_n 0, 1) := by decide +kernel
theorem dX5_wantNumber_7 : decode cX5_wantNumber 7 = .ok (.getfield 220, 3) := by decide +kernel
theorem dX5_wantNumber_10 : decode cX5_wantNumber 10 = .ok (.ifCond .eq 24, 3) := by decide +kernel
theorem dX5_wantNumber_13 : decode cX5_wantNumber 13 = .ok (.aload_n 0, 1) := by decide +kernel
theorem dX5_wantNumber_14 : decode cX5_wantNumber 14 = .ok (.getfield 188, 3) := by decide +kernel
theorem dX5_wantNumber_17 : decode cX5_wantNumber 17 = .ok (.iconst 2, 1) := by decide +kernel
theorem dX5_wantNumber_18 : decode cX5_wantNumber 18 = .ok (.if_icmp .ne 16, 3) := by decide +kernel
theorem dX5_wantNumber_21 : decode cX5_wantNumber 21 = .ok (.iload_n 3, 1) := by decide +kernel
theorem dX5_wantNumber_22 : decode cX5_wantNumber 22 = .ok (.iload_n 1, 1) := by decide +kernel
theorem dX5_wantNumber_23 : decode cX5_wantNumber 23 = .ok (.iload_n 2, 1) := by decide +kernel
theorem dX5_wantNumber_24 : decode cX5_wantNumber 24 = .ok (.invokestatic 45, 3) := by decide +kernel
theorem dX5_wantNumber_27 : decode cX5_wantNumber 27 = .ok (.ifCond .eq 7, 3) := by decide +kernel
theorem dX5_wantNumber_30 : decode cX5_wantNumber 30 = .ok (.iconst 1, 1) := by decide +kernel
theorem dX5_wantNumber_31 : decode cX5_wantNumber 31 = .ok (.goto 4, 3) := by decide +kernel
theorem dX5_wantNumber_34 : decode cX5_wantNumber 34 = .ok (.iconst 0, 1) := by decide +kernel
theorem dX5_wantNumber_35 : decode cX5_wantNumber 35 = .ok (.putfield 220, 3) := by decide +kernel
theorem dX5_wantNumber_38 : decode cX5_wantNumber 38 = .ok (.aload_n 0, 1) := by decide +kernel
theorem dX5_wantNumber_39 : decode cX5_wantNumber 39 = .ok (.getfield 220, 3) := by decide +kernel
theorem dX5_wantNumber_42 : decode cX5_wantNumber 42 = .ok (.ifCond .eq 7, 3) := by decide +kernel
end
section
theorem dX5_wantNumber_45 : decode cX5_wantNumber 45 = .ok (.aload_n 0, 1) := by decide +kernel
theorem dX5_wantNumber_46 : decode cX5_wantNumber 46 = .ok (.invokevirtual 224, 3) := by decide +kernel
theorem dX5_wantNumber_49 : decode cX5_wantNumber 49 = .ok (.iload_n 3, 1) := by decide +kernel
theorem dX5_wantNumber_50 : decode cX5_wantNumber 50 = .ok (.ireturn, 1) := by decide +kernel
theorem dX5_mayWant_0 : decode cX5_mayWant 0 = .ok (.aload_n 0, 1) := by decide +kernel
theorem dX5_mayWant_1 : decode cX5_mayWant 1 = .ok (.getfield 220, 3) := by decide +kernel
theorem dX5_mayWant_4 : decode cX5_mayWant 4 = .ok (.ifCond .eq 11, 3) := by decide +kernel
theorem dX5_mayWant_7 : decode cX5_mayWant 7 = .ok (.aload_n 0, 1) := by decide +kernel
theorem dX5_mayWant_8 : decode cX5_mayWant 8 = .ok (.lload_n 1, 1) := by decide +kernel
theorem dX5_mayWant_9 : decode cX5_mayWant 9 = .ok (.invokevirtual 206, 3) := by decide +kernel
theorem dX5_mayWant_12 : decode cX5_mayWant 12 = .ok (.ifCond .ne 6, 3) := by decide +kernel
theorem dX5_mayWant_15 : decode cX5_mayWant 15 = .ok (.iload 5, 2) := by decide +kernel
theorem dX5_mayWant_17 : decode cX5_mayWant 17 = .ok (.ireturn, 1) := by decide +kernel
theorem dX5_mayWant_18 : decode cX5_mayWant 18 = .ok (.aload_n 0, 1) := by decide +kernel
theorem dX5_mayWant_19 : decode cX5_mayWant 19 = .ok (.invokevirtual 224, 3) := by decide +kernel
theorem dX5_mayWant_22 : decode cX5_mayWant 22 = .ok (.aload_n 0, 1) := by decide +kernel
theorem dX5_mayWant_23 : decode cX5_mayWant 23 = .ok (.iload_n 3, 1) := by decide +kernel
theorem dX5_mayWant_24 : decode cX5_mayWant 24 = .ok (.iload 4, 2) := by decide +kernel
theorem dX5_mayWant_26 : decode cX5_mayWant 26 = .ok (.invokevirtual 227, 3) := by decide +kernel
theorem dX5_mayWant_29 : decode cX5_mayWant 29 = .ok (.ireturn, 1) := by decide +kernel
theorem dX5_wantOne_0 : decode cX5_wantOne 0 = .ok (.aload_n 0, 1) := by decide +kernel
theorem dX5_wantOne_1 : decode cX5_wantOne 1 = .ok (.aload_n 0, 1) := by decide +kernel
theorem dX5_wantOne_2 : decode cX5_wantOne 2 = .ok (.getfield 7, 3) := by decide +kernel
theorem dX5_wantOne_5 : decode cX5_wantOne 5 = .ok (.iconst 2, 1) := by decide +kernel
theorem dX5_wantOne_6 : decode cX5_wantOne 6 = .ok (.iaload, 1) := by decide +kernel
theorem dX5_wantOne_7 : decode cX5_wantOne 7 = .ok (.bipush 8, 2) := by decide +kernel
theorem dX5_wantOne_9 : decode cX5_wantOne 9 = .ok (.if_icmp .ge 7, 3) := by decide +kernel
theorem dX5_wantOne_12 : decode cX5_wantOne 12 = .ok (.iconst 1, 1) := by decide +kernel
theorem dX5_wantOne_13 : decode cX5_wantOne 13 = .ok (.goto 4, 3) := by decide +kernel
theorem dX5_wantOne_16 : decode cX5_wantOne 16 = .ok (.iconst 0, 1) := by decide +kernel
theorem dX5_wantOne_17 : decode cX5_wantOne 17 = .ok (.putfield 220, 3) := by decide +kernel
theorem dX5_wantOne_20 : decode cX5_wantOne 20 = .ok (.aload_n 0, 1) := by decide +kernel
theorem dX5_wantOne_21 : decode cX5_wantOne 21 = .ok (.getfield 220, 3) := by decide +kernel
theorem dX5_wantOne_24 : decode cX5_wantOne 24 = .ok (.ifCond .ne 4, 3) := by decide +kernel
theorem dX5_wantOne_27 : decode cX5_wantOne 27 = .ok (.return_, 1) := by decide +kernel
theorem dX5_wantOne_28 : decode cX5_wantOne 28 = .ok (.aload_n 0, 1) := by decide +kernel
theorem dX5_wantOne_29 : decode cX5_wantOne 29 = .ok (.invokevirtual 224, 3) := by decide +kernel
theorem dX5_wantOne_32 : decode cX5_wantOne 32 = .ok (.aload_n 0, 1) := by decide +kernel
theorem dX5_wantOne_33 : decode cX5_wantOne 33 = .ok (.iconst 0, 1) := by decide +kernel
theorem dX5_wantOne_34 : decode cX5_wantOne 34 = .ok (.bipush 11, 2) := by decide +kernel
theorem dX5_wantOne_36 : decode cX5_wantOne 36 = .ok (.invokevirtual 227, 3) := by decide +kernel
theorem dX5_wantOne_39 : decode cX5_wantOne 39 = .ok (.istore_n 2, 1) := by decide +kernel
theorem dX5_wantOne_40 : decode cX5_wantOne 40 = .ok (.aload_n 0, 1) := by decide +kernel
theorem dX5_wantOne_41 : decode cX5_wantOne 41 = .ok (.getfield 220, 3) := by decide +kernel
theorem dX5_wantOne_44 : decode cX5_wantOne 44 = .ok (.ifCond .eq 17, 3) := by decide +kernel
theorem dX5_wantOne_47 : decode cX5_wantOne 47 = .ok (.aload_n 0, 1) := by decide +kernel
theorem dX5_wantOne_48 : decode cX5_wantOne 48 = .ok (.ldc2_w 230, 3) := by decide +kernel
theorem dX5_wantOne_51 : decode cX5_wantOne 51 = .ok (.invokevirtual 206, 3) := by decide +kernel
theorem dX5_wantOne_54 : decode cX5_wantOne 54 = .ok (.ifCond .eq 7, 3) := by decide +kernel
theorem dX5_wantOne_57 : decode cX5_wantOne 57 = .ok (.iconst 1, 1) := by decide +kernel
theorem dX5_wantOne_58 : decode cX5_wantOne 58 = .ok (.goto 4, 3) := by decide +kernel
theorem dX5_wantOne_61 : decode cX5_wantOne 61 = .ok (.iconst 0, 1) := by decide +kernel
theorem dX5_wantOne_62 : decode cX5_wantOne 62 = .ok (.istore_n 3, 1) := by decide +kernel
theorem dX5_wantOne_63 : decode cX5_wantOne 63 = .ok (.iload_n 3, 1) := by decide +kernel
theorem dX5_wantOne_64 : decode cX5_wantOne 64 = .ok (.ifCond .eq 7, 3) := by decide +kernel
theorem dX5_wantOne_67 : decode cX5_wantOne 67 = .ok (.aload_n 0, 1) := by decide +kernel
theorem dX5_wantOne_68 : decode cX5_wantOne 68 = .ok (.invokevirtual 224, 3) := by decide +kernel
theorem dX5_wantOne_71 : decode cX5_wantOne 71 = .ok (.aload_n 0, 1) := by decide +kernel
theorem dX5_wantOne_72 : decode cX5_wantOne 72 = .ok (.ldc2_w 232, 3) := by decide +kernel
theorem dX5_wantOne_75 : decode cX5_wantOne 75 = .ok (.iconst 0, 1) := by decide +kernel
theorem dX5_wantOne_76 : decode cX5_wantOne 76 = .ok (.bipush 99, 2) := by decide +kernel
theorem dX5_wantOne_78 : decode cX5_wantOne 78 = .ok (.bipush 20, 2) := by decide +kernel
theorem dX5_wantOne_80 : decode cX5_wantOne 80 = .ok (.invokevirtual 234, 3) := by decide +kernel
theorem dX5_wantOne_83 : decode cX5_wantOne 83 = .ok (.istore 4, 2) := by decide +kernel
theorem dX5_wantOne_85 : decode cX5_wantOne 85 = .ok (.aload_n 0, 1) := by decide +kernel
theorem dX5_wantOne_86 : decode cX5_wantOne 86 = .ok (.ldc2_w 238, 3) := by decide +kernel
theorem dX5_wantOne_89 : decode cX5_wantOne 89 = .ok (.iconst 0, 1) := by decide +kernel
theorem dX5_wantOne_90 : decode cX5_wantOne 90 = .ok (.bipush 99, 2) := by decide +kernel
theorem dX5_wantOne_92 : decode cX5_wantOne 92 = .ok (.iconst 0, 1) := by decide +kernel
theorem dX5_wantOne_93 : decode cX5_wantOne 93 = .ok (.invokevirtual 234, 3) := by decide +kernel
theorem dX5_wantOne_96 : decode cX5_wantOne 96 = .ok (.istore 5, 2) := by decide +kernel
theorem dX5_wantOne_98 : decode cX5_wantOne 98 = .ok (.aload_n 0, 1) := by decide +kernel
theorem dX5_wantOne_99 : decode cX5_wantOne 99 = .ok (.getfield 220, 3) := by decide +kernel
theorem dX5_wantOne_102 : decode cX5_wantOne 102 = .ok (.ifCond .eq 22, 3) := by decide +kernel
theorem dX5_wantOne_105 : decode cX5_wantOne 105 = .ok (.aload_n 0, 1) := by decide +kernel
theorem dX5_wantOne_106 : decode cX5_wantOne 106 = .ok (.iload_n 1, 1) := by decide +kernel
theorem dX5_wantOne_107 : decode cX5_wantOne 107 = .ok (.iload_n 2, 1) := by decide +kernel
theorem dX5_wantOne_108 : decode cX5_wantOne 108 = .ok (.iload_n 3, 1) := by decide +kernel
theorem dX5_wantOne_109 : decode cX5_wantOne 109 = .ok (.ifCond .eq 7, 3) := by decide +kernel
theorem dX5_wantOne_112 : decode cX5_wantOne 112 = .ok (.iconst 0, 1) := by decide +kernel
theorem dX5_wantOne_113 : decode cX5_wantOne 113 = .ok (.goto 4, 3) := by decide +kernel
theorem dX5_wantOne_116 : decode cX5_wantOne 116 = .ok (.iconst 1, 1) := by decide +kernel
theorem dX5_wantOne_117 : decode cX5_wantOne 117 = .ok (.iload 4, 2) := by decide +kernel
theorem dX5_wantOne_119 : decode cX5_wantOne 119 = .ok (.iload 5, 2) := by decide +kernel
theorem dX5_wantOne_121 : decode cX5_wantOne 121 = .ok (.invokevirtual 107, 3) := by decide +kernel
theorem dX5_wantOne_124 : decode cX5_wantOne 124 = .ok (.return_, 1) := by decide +kernel
theorem dX5_wantBook_0 : decode cX5_wantBook 0 = .ok (.aload_n 0, 1) := by decide +kernel
theorem dX5_wantBook_1 : decode cX5_wantBook 1 = .ok (.invokevirtual 224, 3) := by decide +kernel
theorem dX5_wantBook_4 : decode cX5_wantBook 4 = .ok (.aload_n 0, 1) := by decide +kernel
theorem dX5_wantBook_5 : decode cX5_wantBook 5 = .ok (.iconst 0, 1) := by decide +kernel
theorem dX5_wantBook_6 : decode cX5_wantBook 6 = .ok (.bipush 11, 2) := by decide +kernel
theorem dX5_wantBook_8 : decode cX5_wantBook 8 = .ok (.invokevirtual 227, 3) := by decide +kernel
theorem dX5_wantBook_11 : decode cX5_wantBook 11 = .ok (.istore_n 2, 1) := by decide +kernel
theorem dX5_wantBook_12 : decode cX5_wantBook 12 = .ok (.aload_n 0, 1) := by decide +kernel
theorem dX5_wantBook_13 : decode cX5_wantBook 13 = .ok (.getfield 220, 3) := by decide +kernel
theorem dX5_wantBook_16 : decode cX5_wantBook 16 = .ok (.ifCond .eq 10, 3) := by decide +kernel
theorem dX5_wantBook_19 : decode cX5_wantBook 19 = .ok (.aload_n 0, 1) := by decide +kernel
theorem dX5_wantBook_20 : decode cX5_wantBook 20 = .ok (.iload_n 2, 1) := by decide +kernel
theorem dX5_wantBook_21 : decode cX5_wantBook 21 = .ok (.iconst 1, 1) := by decide +kernel
theorem dX5_wantBook_22 : decode cX5_wantBook 22 = .ok (.iload_n 1, 1) := by decide +kernel
theorem dX5_wantBook_23 : decode cX5_wantBook 23 = .ok (.invokevirtual 128, 3) := by decide +kernel
theorem dX5_wantBook_26 : decode cX5_wantBook 26 = .ok (.return_, 1) := by decide +kernel
theorem dX5_wantLamp_0 : decode cX5_wantLamp 0 = .ok (.aload_n 0, 1) := by decide +kernel
theorem dX5_wantLamp_1 : decode cX5_wantLamp 1 = .ok (.invokevirtual 224, 3) := by decide +kernel
theorem dX5_wantLamp_4 : decode cX5_wantLamp 4 = .ok (.aload_n 0, 1) := by decide +kernel
theorem dX5_wantLamp_5 : decode cX5_wantLamp 5 = .ok (.iconst 0, 1) := by decide +kernel
theorem dX5_wantLamp_6 : decode cX5_wantLamp 6 = .ok (.bipush 11, 2) := by decide +kernel
theorem dX5_wantLamp_8 : decode cX5_wantLamp 8 = .ok (.invokevirtual 227, 3) := by decide +kernel
theorem dX5_wantLamp_11 : decode cX5_wantLamp 11 = .ok (.istore_n 1, 1) := by decide +kernel
theorem dX5_wantLamp_12 : decode cX5_wantLamp 12 = .ok (.aload_n 0, 1) := by decide +kernel
theorem dX5_wantLamp_13 : decode cX5_wantLamp 13 = .ok (.getfield 220, 3) := by decide +kernel
theorem dX5_wantLamp_16 : decode cX5_wantLamp 16 = .ok (.ifCond .eq 13, 3) := by decide +kernel
theorem dX5_wantLamp_19 : decode cX5_wantLamp 19 = .ok (.aload_n 0, 1) := by decide +kernel
theorem dX5_wantLamp_20 : decode cX5_wantLamp 20 = .ok (.iconst 0, 1) := by decide +kernel
theorem dX5_wantLamp_21 : decode cX5_wantLamp 21 = .ok (.bipush 99, 2) := by decide +kernel
theorem dX5_wantLamp_23 : decode cX5_wantLamp 23 = .ok (.invokevirtual 227, 3) := by decide +kernel
theorem dX5_wantLamp_26 : decode cX5_wantLamp 26 = .ok (.goto 4, 3) := by decide +kernel
theorem dX5_wantLamp_29 : decode cX5_wantLamp 29 = .ok (.iconst 0, 1) := by decide +kernel
theorem dX5_wantLamp_30 : decode cX5_wantLamp 30 = .ok (.istore_n 2, 1) := by decide +kernel
theorem dX5_wantLamp_31 : decode cX5_wantLamp 31 = .ok (.aload_n 0, 1) := by decide +kernel
theorem dX5_wantLamp_32 : decode cX5_wantLamp 32 = .ok (.getfield 220, 3) := by decide +kernel
theorem dX5_wantLamp_35 : decode cX5_wantLamp 35 = .ok (.ifCond .eq 10, 3) := by decide +kernel
theorem dX5_wantLamp_38 : decode cX5_wantLamp 38 = .ok (.aload_n 0, 1) := by decide +kernel
theorem dX5_wantLamp_39 : decode cX5_wantLamp 39 = .ok (.iload_n 1, 1) := by decide +kernel
theorem dX5_wantLamp_40 : decode cX5_wantLamp 40 = .ok (.iconst 0, 1) := by decide +kernel
theorem dX5_wantLamp_41 : decode cX5_wantLamp 41 = .ok (.iload_n 2, 1) := by decide +kernel
theorem dX5_wantLamp_42 : decode cX5_wantLamp 42 = .ok (.invokevirtual 128, 3) := by decide +kernel
theorem dX5_wantLamp_45 : decode cX5_wantLamp 45 = .ok (.return_, 1) := by decide +kernel
theorem dX5_wantItem_0 : decode cX5_wantItem 0 = .ok (.aload_n 0, 1) := by decide +kernel
theorem dX5_wantItem_1 : decode cX5_wantItem 1 = .ok (.invokevirtual 240, 3) := by decide +kernel
theorem dX5_wantItem_4 : decode cX5_wantItem 4 = .ok (.ifCond .lt 14, 3) := by decide +kernel
theorem dX5_wantItem_7 : decode cX5_wantItem 7 = .ok (.aload_n 0, 1) := by decide +kernel
theorem dX5_wantItem_8 : decode cX5_wantItem 8 = .ok (.aload_n 0, 1) := by decide +kernel
theorem dX5_wantItem_9 : decode cX5_wantItem 9 = .ok (.invokevirtual 240, 3) := by decide +kernel
theorem dX5_wantItem_12 : decode cX5_wantItem 12 = .ok (.invokevirtual 243, 3) := by decide +kernel
theorem dX5_wantItem_15 : decode cX5_wantItem 15 = .ok (.goto 109, 3) := by decide +kernel
theorem dX5_wantItem_18 : decode cX5_wantItem 18 = .ok (.aload_n 0, 1) := by decide +kernel
theorem dX5_wantItem_19 : decode cX5_wantItem 19 = .ok (.ldc2_w 246, 3) := by decide +kernel
theorem dX5_wantItem_22 : decode cX5_wantItem 22 = .ok (.invokevirtual 206, 3) := by decide +kernel
theorem dX5_wantItem_25 : decode cX5_wantItem 25 = .ok (.ifCond .eq 11, 3) := by decide +kernel
theorem dX5_wantItem_28 : decode cX5_wantItem 28 = .ok (.aload_n 0, 1) := by decide +kernel
theorem dX5_wantItem_29 : decode cX5_wantItem 29 = .ok (.iconst 1, 1) := by decide +kernel
theorem dX5_wantItem_30 : decode cX5_wantItem 30 = .ok (.invokevirtual 248, 3) := by decide +kernel
theorem dX5_wantItem_33 : decode cX5_wantItem 33 = .ok (.goto 91, 3) := by decide +kernel
theorem dX5_wantItem_36 : decode cX5_wantItem 36 = .ok (.aload_n 0, 1) := by decide +kernel
theorem dX5_wantItem_37 : decode cX5_wantItem 37 = .ok (.ldc2_w 251, 3) := by decide +kernel
theorem dX5_wantItem_40 : decode cX5_wantItem 40 = .ok (.invokevirtual 206, 3) := by decide +kernel
theorem dX5_wantItem_43 : decode cX5_wantItem 43 = .ok (.ifCond .eq 11, 3) := by decide +kernel
theorem dX5_wantItem_46 : decode cX5_wantItem 46 = .ok (.aload_n 0, 1) := by decide +kernel
theorem dX5_wantItem_47 : decode cX5_wantItem 47 = .ok (.iconst 0, 1) := by decide +kernel
theorem dX5_wantItem_48 : decode cX5_wantItem 48 = .ok (.invokevirtual 248, 3) := by decide +kernel
theorem dX5_wantItem_51 : decode cX5_wantItem 51 = .ok (.goto 73, 3) := by decide +kernel
theorem dX5_wantItem_54 : decode cX5_wantItem 54 = .ok (.aload_n 0, 1) := by decide +kernel
theorem dX5_wantItem_55 : decode cX5_wantItem 55 = .ok (.ldc2_w 253, 3) := by decide +kernel
theorem dX5_wantItem_58 : decode cX5_wantItem 58 = .ok (.invokevirtual 206, 3) := by decide +kernel
theorem dX5_wantItem_61 : decode cX5_wantItem 61 = .ok (.ifCond .eq 10, 3) := by decide +kernel
theorem dX5_wantItem_64 : decode cX5_wantItem 64 = .ok (.aload_n 0, 1) := by decide +kernel
theorem dX5_wantItem_65 : decode cX5_wantItem 65 = .ok (.invokevirtual 255, 3) := by decide +kernel
theorem dX5_wantItem_68 : decode cX5_wantItem 68 = .ok (.goto 56, 3) := by decide +kernel
theorem dX5_wantItem_71 : decode cX5_wantItem 71 = .ok (.aload_n 0, 1) := by decide +kernel
theorem dX5_wantItem_72 : decode cX5_wantItem 72 = .ok (.ldc2_w 258, 3) := by decide +kernel
theorem dX5_wantItem_75 : decode cX5_wantItem 75 = .ok (.invokevirtual 206, 3) := by decide +kernel
theorem dX5_wantItem_78 : decode cX5_wantItem 78 = .ok (.ifCond .eq 41, 3) := by decide +kernel
theorem dX5_wantItem_81 : decode cX5_wantItem 81 = .ok (.aload_n 0, 1) := by decide +kernel
theorem dX5_wantItem_82 : decode cX5_wantItem 82 = .ok (.invokevirtual 224, 3) := by decide +kernel
theorem dX5_wantItem_85 : decode cX5_wantItem 85 = .ok (.aload_n 0, 1) := by decide +kernel
theorem dX5_wantItem_86 : decode cX5_wantItem 86 = .ok (.iconst 0, 1) := by decide +kernel
theorem dX5_wantItem_87 : decode cX5_wantItem 87 = .ok (.bipush 9, 2) := by decide +kernel
theorem dX5_wantItem_89 : decode cX5_wantItem 89 = .ok (.invokevirtual 227, 3) := by decide +kernel
theorem dX5_wantItem_92 : decode cX5_wantItem 92 = .ok (.istore_n 1, 1) := by decide +kernel
theorem dX5_wantItem_93 : decode cX5_wantItem 93 = .ok (.aload_n 0, 1) := by decide +kernel
theorem dX5_wantItem_94 : decode cX5_wantItem 94 = .ok (.getfield 7, 3) := by decide +kernel
theorem dX5_wantItem_97 : decode cX5_wantItem 97 = .ok (.iconst 1, 1) := by decide +kernel
theorem dX5_wantItem_98 : decode cX5_wantItem 98 = .ok (.aload_n 0, 1) := by decide +kernel
theorem dX5_wantItem_99 : decode cX5_wantItem 99 = .ok (.getfield 220, 3) := by decide +kernel
theorem dX5_wantItem_102 : decode cX5_wantItem 102 = .ok (.ifCond .eq 7, 3) := by decide +kernel
theorem dX5_wantItem_105 : decode cX5_wantItem 105 = .ok (.iload_n 1, 1) := by decide +kernel
theorem dX5_wantItem_106 : decode cX5_wantItem 106 = .ok (.goto 9, 3) := by decide +kernel
theorem dX5_wantItem_109 : decode cX5_wantItem 109 = .ok (.aload_n 0, 1) := by decide +kernel
theorem dX5_wantItem_110 : decode cX5_wantItem 110 = .ok (.getfield 7, 3) := by decide +kernel
theorem dX5_wantItem_113 : decode cX5_wantItem 113 = .ok (.iconst 1, 1) := by decide +kernel
theorem dX5_wantItem_114 : decode cX5_wantItem 114 = .ok (.iaload, 1) := by decide +kernel
theorem dX5_wantItem_115 : decode cX5_wantItem 115 = .ok (.iastore, 1) := by decide +kernel
theorem dX5_wantItem_116 : decode cX5_wantItem 116 = .ok (.goto 8, 3) := by decide +kernel
theorem dX5_wantItem_119 : decode cX5_wantItem 119 = .ok (.aload_n 0, 1) := by decide +kernel
theorem dX5_wantItem_120 : decode cX5_wantItem 120 = .ok (.iconst 0, 1) := by decide +kernel
theorem dX5_wantItem_121 : decode cX5_wantItem 121 = .ok (.putfield 220, 3) := by decide +kernel
theorem dX5_wantItem_124 : decode cX5_wantItem 124 = .ok (.return_, 1) := by decide +kernel
theorem dX5_winter_0 : decode cX5_winter 0 = .ok (.aload_n 0, 1) := by decide +kernel
theorem dX5_winter_1 : decode cX5_winter 1 = .ok (.iconst 1, 1) := by decide +kernel
theorem dX5_winter_2 : decode cX5_winter 2 = .ok (.aload_n 0, 1) := by decide +kernel
theorem dX5_winter_3 : decode cX5_winter 3 = .ok (.getfield 41, 3) := by decide +kernel
theorem dX5_winter_6 : decode cX5_winter 6 = .ok (.invokevirtual 156, 3) := by decide +kernel
theorem dX5_winter_9 : decode cX5_winter 9 = .ok (.aload_n 0, 1) := by decide +kernel
theorem dX5_winter_10 : decode cX5_winter 10 = .ok (.iconst 0, 1) := by decide +kernel
theorem dX5_winter_11 : decode cX5_winter 11 = .ok (.putfield 173, 3) := by decide +kernel
theorem dX5_winter_14 : decode cX5_winter 14 = .ok (.aload_n 0, 1) := by decide +kernel
theorem dX5_winter_15 : decode cX5_winter 15 = .ok (.iconst 1, 1) := by decide +kernel
theorem dX5_winter_16 : decode cX5_winter 16 = .ok (.putfield 220, 3) := by decide +kernel
theorem dX5_winter_19 : decode cX5_winter 19 = .ok (.iconst 0, 1) := by decide +kernel
theorem dX5_winter_20 : decode cX5_winter 20 = .ok (.istore_n 1, 1) := by decide +kernel
theorem dX5_winter_21 : decode cX5_winter 21 = .ok (.iconst 1, 1) := by decide +kernel
theorem dX5_winter_22 : decode cX5_winter 22 = .ok (.istore_n 2, 1) := by decide +kernel
theorem dX5_winter_23 : decode cX5_winter 23 = .ok (.iload_n 2, 1) := by decide +kernel
theorem dX5_winter_24 : decode cX5_winter 24 = .ok (.ifCond .eq 47, 3) := by decide +kernel
theorem dX5_winter_27 : decode cX5_winter 27 = .ok (.aload_n 0, 1) := by decide +kernel
theorem dX5_winter_28 : decode cX5_winter 28 = .ok (.invokevirtual 224, 3) := by decide +kernel
theorem dX5_winter_31 : decode cX5_winter 31 = .ok (.aload_n 0, 1) := by decide +kernel
theorem dX5_winter_32 : decode cX5_winter 32 = .ok (.invokevirtual 260, 3) := by decide +kernel
theorem dX5_winter_35 : decode cX5_winter 35 = .ok (.iinc 1 1, 3) := by decide +kernel
theorem dX5_winter_38 : decode cX5_winter 38 = .ok (.aload_n 0, 1) := by decide +kernel
theorem dX5_winter_39 : decode cX5_winter 39 = .ok (.getfield 220, 3) := by decide +kernel
theorem dX5_winter_42 : decode cX5_winter 42 = .ok (.ifCond .eq 24, 3) := by decide +kernel
theorem dX5_winter_45 : decode cX5_winter 45 = .ok (.aload_n 0, 1) := by decide +kernel
theorem dX5_winter_46 : decode cX5_winter 46 = .ok (.getfield 188, 3) := by decide +kernel
theorem dX5_winter_49 : decode cX5_winter 49 = .ok (.iconst 3, 1) := by decide +kernel
theorem dX5_winter_50 : decode cX5_winter 50 = .ok (.if_icmp .ne 16, 3) := by decide +kernel
theorem dX5_winter_53 : decode cX5_winter 53 = .ok (.aload_n 0, 1) := by decide +kernel
theorem dX5_winter_54 : decode cX5_winter 54 = .ok (.getfield 195, 3) := by decide +kernel
theorem dX5_winter_57 : decode cX5_winter 57 = .ok (.bipush 59, 2) := by decide +kernel
theorem dX5_winter_59 : decode cX5_winter 59 = .ok (.if_icmp .ne 7, 3) := by decide +kernel
theorem dX5_winter_62 : decode cX5_winter 62 = .ok (.iconst 1, 1) := by decide +kernel
theorem dX5_winter_63 : decode cX5_winter 63 = .ok (.goto 4, 3) := by decide +kernel
theorem dX5_winter_66 : decode cX5_winter 66 = .ok (.iconst 0, 1) := by decide +kernel
theorem dX5_winter_67 : decode cX5_winter 67 = .ok (.istore_n 2, 1) := by decide +kernel
theorem dX5_winter_68 : decode cX5_winter 68 = .ok (.goto (-45), 3) := by decide +kernel
theorem dX5_winter_71 : decode cX5_winter 71 = .ok (.aload_n 0, 1) := by decide +kernel
theorem dX5_winter_72 : decode cX5_winter 72 = .ok (.aload_n 0, 1) := by decide +kernel
theorem dX5_winter_73 : decode cX5_winter 73 = .ok (.getfield 220, 3) := by decide +kernel
theorem dX5_winter_76 : decode cX5_winter 76 = .ok (.ifCond .eq 14, 3) := by decide +kernel
theorem dX5_winter_79 : decode cX5_winter 79 = .ok (.aload_n 0, 1) := by decide +kernel
theorem dX5_winter_80 : decode cX5_winter 80 = .ok (.getfield 188, 3) := by decide +kernel
theorem dX5_winter_83 : decode cX5_winter 83 = .ok (.ifCond .ne 7, 3) := by decide +kernel
theorem dX5_winter_86 : decode cX5_winter 86 = .ok (.iconst 1, 1) := by decide +kernel
theorem dX5_winter_87 : decode cX5_winter 87 = .ok (.goto 4, 3) := by decide +kernel
theorem dX5_winter_90 : decode cX5_winter 90 = .ok (.iconst 0, 1) := by decide +kernel
theorem dX5_winter_91 : decode cX5_winter 91 = .ok (.putfield 220, 3) := by decide +kernel
theorem dX5_winter_94 : decode cX5_winter 94 = .ok (.aload_n 0, 1) := by decide +kernel
theorem dX5_winter_95 : decode cX5_winter 95 = .ok (.iconst 0, 1) := by decide +kernel
theorem dX5_winter_96 : decode cX5_winter 96 = .ok (.putfield 170, 3) := by decide +kernel
theorem dX5_winter_99 : decode cX5_winter 99 = .ok (.aload_n 0, 1) := by decide +kernel
theorem dX5_winter_100 : decode cX5_winter 100 = .ok (.getfield 220, 3) := by decide +kernel
theorem dX5_winter_103 : decode cX5_winter 103 = .ok (.ifCond .ne 19, 3) := by decide +kernel
theorem dX5_winter_106 : decode cX5_winter 106 = .ok (.aload_n 0, 1) := by decide +kernel
theorem dX5_winter_107 : decode cX5_winter 107 = .ok (.iconst 0, 1) := by decide +kernel
theorem dX5_winter_108 : decode cX5_winter 108 = .ok (.aload_n 0, 1) := by decide +kernel
theorem dX5_winter_109 : decode cX5_winter 109 = .ok (.getfield 41, 3) := by decide +kernel
theorem dX5_winter_112 : decode cX5_winter 112 = .ok (.invokevirtual 156, 3) := by decide +kernel
theorem dX5_winter_115 : decode cX5_winter 115 = .ok (.iconst (-1), 1) := by decide +kernel
theorem dX5_winter_116 : decode cX5_winter 116 = .ok (.aload_n 0, 1) := by decide +kernel
theorem dX5_winter_117 : decode cX5_winter 117 = .ok (.getfield 176, 3) := by decide +kernel
theorem dX5_winter_120 : decode cX5_winter 120 = .ok (.isub, 1) := by decide +kernel
theorem dX5_winter_121 : decode cX5_winter 121 = .ok (.ireturn, 1) := by decide +kernel
theorem dX5_winter_122 : decode cX5_winter 122 = .ok (.iload_n 1, 1) := by decide +kernel
theorem dX5_winter_123 : decode cX5_winter 123 = .ok (.ireturn, 1) := by decide +kernel
theorem dX5_isSheet_0 : decode cX5_isSheet 0 = .ok (.iload_n 0, 1) := by decide +kernel
theorem dX5_isSheet_1 : decode cX5_isSheet 1 = .ok (.iconst 0, 1) := by decide +kernel
theorem dX5_isSheet_2 : decode cX5_isSheet 2 = .ok (.iconst 3, 1) := by decide +kernel
theorem dX5_isSheet_3 : decode cX5_isSheet 3 = .ok (.invokestatic 45, 3) := by decide +kernel
theorem dX5_isSheet_6 : decode cX5_isSheet 6 = .ok (.ireturn, 1) := by decide +kernel
theorem dX5_narrow_0 : decode cX5_narrow 0 = .ok (.iload_n 0, 1) := by decide +kernel
theorem dX5_narrow_1 : decode cX5_narrow 1 = .ok (.bipush 8, 2) := by decide +kernel
theorem dX5_narrow_3 : decode cX5_narrow 3 = .ok (.if_icmp .ne 13, 3) := by decide +kernel
theorem dX5_narrow_6 : decode cX5_narrow 6 = .ok (.lload_n 1, 1) := by decide +kernel
theorem dX5_narrow_7 : decode cX5_narrow 7 = .ok (.bipush 56, 2) := by decide +kernel
theorem dX5_narrow_9 : decode cX5_narrow 9 = .ok (.lshl, 1) := by decide +kernel
theorem dX5_narrow_10 : decode cX5_narrow 10 = .ok (.bipush 56, 2) := by decide +kernel
theorem dX5_narrow_12 : decode cX5_narrow 12 = .ok (.lshr, 1) := by decide +kernel
theorem dX5_narrow_13 : decode cX5_narrow 13 = .ok (.goto 20, 3) := by decide +kernel
theorem dX5_narrow_16 : decode cX5_narrow 16 = .ok (.iload_n 0, 1) := by decide +kernel
theorem dX5_narrow_17 : decode cX5_narrow 17 = .ok (.bipush 16, 2) := by decide +kernel
theorem dX5_narrow_19 : decode cX5_narrow 19 = .ok (.if_icmp .ne 13, 3) := by decide +kernel
theorem dX5_narrow_22 : decode cX5_narrow 22 = .ok (.lload_n 1, 1) := by decide +kernel
theorem dX5_narrow_23 : decode cX5_narrow 23 = .ok (.bipush 48, 2) := by decide +kernel
theorem dX5_narrow_25 : decode cX5_narrow 25 = .ok (.lshl, 1) := by decide +kernel
theorem dX5_narrow_26 : decode cX5_narrow 26 = .ok (.bipush 48, 2) := by decide +kernel
theorem dX5_narrow_28 : decode cX5_narrow 28 = .ok (.lshr, 1) := by decide +kernel
theorem dX5_narrow_29 : decode cX5_narrow 29 = .ok (.goto 4, 3) := by decide +kernel
theorem dX5_narrow_32 : decode cX5_narrow 32 = .ok (.lload_n 1, 1) := by decide +kernel
theorem dX5_narrow_33 : decode cX5_narrow 33 = .ok (.lreturn, 1) := by decide +kernel
theorem dX5_sheet_0 : decode cX5_sheet 0 = .ok (.iload_n 1, 1) := by decide +kernel
theorem dX5_sheet_1 : decode cX5_sheet 1 = .ok (.invokestatic 263, 3) := by decide +kernel
theorem dX5_sheet_4 : decode cX5_sheet 4 = .ok (.ifCond .eq 25, 3) := by decide +kernel
theorem dX5_sheet_7 : decode cX5_sheet 7 = .ok (.iload_n 2, 1) := by decide +kernel
theorem dX5_sheet_8 : decode cX5_sheet 8 = .ok (.ifCond .eq 28, 3) := by decide +kernel
theorem dX5_sheet_11 : decode cX5_sheet 11 = .ok (.iload_n 2, 1) := by decide +kernel
theorem dX5_sheet_12 : decode cX5_sheet 12 = .ok (.bipush 8, 2) := by decide +kernel
theorem dX5_sheet_14 : decode cX5_sheet 14 = .ok (.if_icmp .eq 22, 3) := by decide +kernel
theorem dX5_sheet_17 : decode cX5_sheet 17 = .ok (.iload_n 2, 1) := by decide +kernel
theorem dX5_sheet_18 : decode cX5_sheet 18 = .ok (.bipush 16, 2) := by decide +kernel
theorem dX5_sheet_20 : decode cX5_sheet 20 = .ok (.if_icmp .eq 16, 3) := by decide +kernel
theorem dX5_sheet_23 : decode cX5_sheet 23 = .ok (.iload_n 2, 1) := by decide +kernel
theorem dX5_sheet_24 : decode cX5_sheet 24 = .ok (.bipush 64, 2) := by decide +kernel
theorem dX5_sheet_26 : decode cX5_sheet 26 = .ok (.if_icmp .eq 10, 3) := by decide +kernel
theorem dX5_sheet_29 : decode cX5_sheet 29 = .ok (.aload_n 0, 1) := by decide +kernel
theorem dX5_sheet_30 : decode cX5_sheet 30 = .ok (.ldc 44, 2) := by decide +kernel
theorem dX5_sheet_32 : decode cX5_sheet 32 = .ok (.invokevirtual 81, 3) := by decide +kernel
theorem dX5_sheet_35 : decode cX5_sheet 35 = .ok (.ireturn, 1) := by decide +kernel
theorem dX5_sheet_36 : decode cX5_sheet 36 = .ok (.iload_n 3, 1) := by decide +kernel
theorem dX5_sheet_37 : decode cX5_sheet 37 = .ok (.ifCond .ge 11, 3) := by decide +kernel
theorem dX5_sheet_40 : decode cX5_sheet 40 = .ok (.aload_n 0, 1) := by decide +kernel
theorem dX5_sheet_41 : decode cX5_sheet 41 = .ok (.ldc_w 266, 3) := by decide +kernel
theorem dX5_sheet_44 : decode cX5_sheet 44 = .ok (.invokevirtual 81, 3) := by decide +kernel
theorem dX5_sheet_47 : decode cX5_sheet 47 = .ok (.ireturn, 1) := by decide +kernel
theorem dX5_sheet_48 : decode cX5_sheet 48 = .ok (.iload_n 3, 1) := by decide +kernel
theorem dX5_sheet_49 : decode cX5_sheet 49 = .ok (.bipush 40, 2) := by decide +kernel
theorem dX5_sheet_51 : decode cX5_sheet 51 = .ok (.if_icmp .le 10, 3) := by decide +kernel
theorem dX5_sheet_54 : decode cX5_sheet 54 = .ok (.aload_n 0, 1) := by decide +kernel
theorem dX5_sheet_55 : decode cX5_sheet 55 = .ok (.ldc 44, 2) := by decide +kernel
theorem dX5_sheet_57 : decode cX5_sheet 57 = .ok (.invokevirtual 81, 3) := by decide +kernel
theorem dX5_sheet_60 : decode cX5_sheet 60 = .ok (.ireturn, 1) := by decide +kernel
theorem dX5_sheet_61 : decode cX5_sheet 61 = .ok (.aload_n 0, 1) := by decide +kernel
theorem dX5_sheet_62 : decode cX5_sheet 62 = .ok (.getfield 25, 3) := by decide +kernel
theorem dX5_sheet_65 : decode cX5_sheet 65 = .ok (.iload_n 1, 1) := by decide +kernel
theorem dX5_sheet_66 : decode cX5_sheet 66 = .ok (.iload_n 2, 1) := by decide +kernel
theorem dX5_sheet_67 : decode cX5_sheet 67 = .ok (.iastore, 1) := by decide +kernel
theorem dX5_sheet_68 : decode cX5_sheet 68 = .ok (.aload_n 0, 1) := by decide +kernel
theorem dX5_sheet_69 : decode cX5_sheet 69 = .ok (.getfield 28, 3) := by decide +kernel
theorem dX5_sheet_72 : decode cX5_sheet 72 = .ok (.iload_n 1, 1) := by decide +kernel
theorem dX5_sheet_73 : decode cX5_sheet 73 = .ok (.iload_n 2, 1) := by decide +kernel
theorem dX5_sheet_74 : decode cX5_sheet 74 = .ok (.ifCond .ne 7, 3) := by decide +kernel
theorem dX5_sheet_77 : decode cX5_sheet 77 = .ok (.iconst 0, 1) := by decide +kernel
theorem dX5_sheet_78 : decode cX5_sheet 78 = .ok (.goto 4, 3) := by decide +kernel
theorem dX5_sheet_81 : decode cX5_sheet 81 = .ok (.iload_n 3, 1) := by decide +kernel
theorem dX5_sheet_82 : decode cX5_sheet 82 = .ok (.iastore, 1) := by decide +kernel
theorem dX5_sheet_83 : decode cX5_sheet 83 = .ok (.iconst 0, 1) := by decide +kernel
theorem dX5_sheet_84 : decode cX5_sheet 84 = .ok (.istore 4, 2) := by decide +kernel
theorem dX5_sheet_86 : decode cX5_sheet 86 = .ok (.iload 4, 2) := by decide +kernel
theorem dX5_sheet_88 : decode cX5_sheet 88 = .ok (.bipush 40, 2) := by decide +kernel
theorem dX5_sheet_90 : decode cX5_sheet 90 = .ok (.if_icmp .ge 22, 3) := by decide +kernel
theorem dX5_sheet_93 : decode cX5_sheet 93 = .ok (.aload_n 0, 1) := by decide +kernel
theorem dX5_sheet_94 : decode cX5_sheet 94 = .ok (.getfield 31, 3) := by decide +kernel
theorem dX5_sheet_97 : decode cX5_sheet 97 = .ok (.bipush 40, 2) := by decide +kernel
theorem dX5_sheet_99 : decode cX5_sheet 99 = .ok (.iload_n 1, 1) := by decide +kernel
theorem dX5_sheet_100 : decode cX5_sheet 100 = .ok (.imul, 1) := by decide +kernel
theorem dX5_sheet_101 : decode cX5_sheet 101 = .ok (.iload 4, 2) := by decide +kernel
theorem dX5_sheet_103 : decode cX5_sheet 103 = .ok (.iadd, 1) := by decide +kernel
theorem dX5_sheet_104 : decode cX5_sheet 104 = .ok (.lconst 0, 1) := by decide +kernel
theorem dX5_sheet_105 : decode cX5_sheet 105 = .ok (.lastore, 1) := by decide +kernel
theorem dX5_sheet_106 : decode cX5_sheet 106 = .ok (.iinc 4 1, 3) := by decide +kernel
theorem dX5_sheet_109 : decode cX5_sheet 109 = .ok (.goto (-23), 3) := by decide +kernel
theorem dX5_sheet_112 : decode cX5_sheet 112 = .ok (.aload_n 0, 1) := by decide +kernel
theorem dX5_sheet_113 : decode cX5_sheet 113 = .ok (.getfield 28, 3) := by decide +kernel
theorem dX5_sheet_116 : decode cX5_sheet 116 = .ok (.iload_n 1, 1) := by decide +kernel
theorem dX5_sheet_117 : decode cX5_sheet 117 = .ok (.iaload, 1) := by decide +kernel
theorem dX5_sheet_118 : decode cX5_sheet 118 = .ok (.ireturn, 1) := by decide +kernel
theorem dX5_write_0 : decode cX5_write 0 = .ok (.iload_n 1, 1) := by decide +kernel
theorem dX5_write_1 : decode cX5_write 1 = .ok (.invokestatic 263, 3) := by decide +kernel
theorem dX5_write_4 : decode cX5_write 4 = .ok (.ifCond .ne 11, 3) := by decide +kernel
theorem dX5_write_7 : decode cX5_write 7 = .ok (.aload_n 0, 1) := by decide +kernel
theorem dX5_write_8 : decode cX5_write 8 = .ok (.ldc 44, 2) := by decide +kernel
theorem dX5_write_10 : decode cX5_write 10 = .ok (.invokevirtual 81, 3) := by decide +kernel
theorem dX5_write_13 : decode cX5_write 13 = .ok (.i2l, 1) := by decide +kernel
theorem dX5_write_14 : decode cX5_write 14 = .ok (.lreturn, 1) := by decide +kernel
theorem dX5_write_15 : decode cX5_write 15 = .ok (.aload_n 0, 1) := by decide +kernel
theorem dX5_write_16 : decode cX5_write 16 = .ok (.getfield 25, 3) := by decide +kernel
theorem dX5_write_19 : decode cX5_write 19 = .ok (.iload_n 1, 1) := by decide +kernel
theorem dX5_write_20 : decode cX5_write 20 = .ok (.iaload, 1) := by decide +kernel
theorem dX5_write_21 : decode cX5_write 21 = .ok (.ifCond .ne 12, 3) := by decide +kernel
theorem dX5_write_24 : decode cX5_write 24 = .ok (.aload_n 0, 1) := by decide +kernel
theorem dX5_write_25 : decode cX5_write 25 = .ok (.ldc_w 267, 3) := by decide +kernel
theorem dX5_write_28 : decode cX5_write 28 = .ok (.invokevirtual 81, 3) := by decide +kernel
theorem dX5_write_31 : decode cX5_write 31 = .ok (.i2l, 1) := by decide +kernel
theorem dX5_write_32 : decode cX5_write 32 = .ok (.lreturn, 1) := by decide +kernel
theorem dX5_write_33 : decode cX5_write 33 = .ok (.iload_n 2, 1) := by decide +kernel
theorem dX5_write_34 : decode cX5_write 34 = .ok (.iconst 0, 1) := by decide +kernel
theorem dX5_write_35 : decode cX5_write 35 = .ok (.aload_n 0, 1) := by decide +kernel
theorem dX5_write_36 : decode cX5_write 36 = .ok (.getfield 28, 3) := by decide +kernel
theorem dX5_write_39 : decode cX5_write 39 = .ok (.iload_n 1, 1) := by decide +kernel
theorem dX5_write_40 : decode cX5_write 40 = .ok (.iaload, 1) := by decide +kernel
theorem dX5_write_41 : decode cX5_write 41 = .ok (.iconst 1, 1) := by decide +kernel
theorem dX5_write_42 : decode cX5_write 42 = .ok (.isub, 1) := by decide +kernel
theorem dX5_write_43 : decode cX5_write 43 = .ok (.invokestatic 45, 3) := by decide +kernel
theorem dX5_write_46 : decode cX5_write 46 = .ok (.ifCond .ne 11, 3) := by decide +kernel
theorem dX5_write_49 : decode cX5_write 49 = .ok (.aload_n 0, 1) := by decide +kernel
theorem dX5_write_50 : decode cX5_write 50 = .ok (.ldc 44, 2) := by decide +kernel
theorem dX5_write_52 : decode cX5_write 52 = .ok (.invokevirtual 81, 3) := by decide +kernel
theorem dX5_write_55 : decode cX5_write 55 = .ok (.i2l, 1) := by decide +kernel
theorem dX5_write_56 : decode cX5_write 56 = .ok (.lreturn, 1) := by decide +kernel
theorem dX5_write_57 : decode cX5_write 57 = .ok (.aload_n 0, 1) := by decide +kernel
theorem dX5_write_58 : decode cX5_write 58 = .ok (.getfield 31, 3) := by decide +kernel
theorem dX5_write_61 : decode cX5_write 61 = .ok (.bipush 40, 2) := by decide +kernel
theorem dX5_write_63 : decode cX5_write 63 = .ok (.iload_n 1, 1) := by decide +kernel
theorem dX5_write_64 : decode cX5_write 64 = .ok (.imul, 1) := by decide +kernel
theorem dX5_write_65 : decode cX5_write 65 = .ok (.iload_n 2, 1) := by decide +kernel
theorem dX5_write_66 : decode cX5_write 66 = .ok (.iadd, 1) := by decide +kernel
theorem dX5_write_67 : decode cX5_write 67 = .ok (.laload, 1) := by decide +kernel
theorem dX5_write_68 : decode cX5_write 68 = .ok (.lstore 5, 2) := by decide +kernel
theorem dX5_write_70 : decode cX5_write 70 = .ok (.aload_n 0, 1) := by decide +kernel
theorem dX5_write_71 : decode cX5_write 71 = .ok (.getfield 31, 3) := by decide +kernel
theorem dX5_write_74 : decode cX5_write 74 = .ok (.bipush 40, 2) := by decide +kernel
theorem dX5_write_76 : decode cX5_write 76 = .ok (.iload_n 1, 1) := by decide +kernel
theorem dX5_write_77 : decode cX5_write 77 = .ok (.imul, 1) := by decide +kernel
theorem dX5_write_78 : decode cX5_write 78 = .ok (.iload_n 2, 1) := by decide +kernel
theorem dX5_write_79 : decode cX5_write 79 = .ok (.iadd, 1) := by decide +kernel
theorem dX5_write_80 : decode cX5_write 80 = .ok (.aload_n 0, 1) := by decide +kernel
theorem dX5_write_81 : decode cX5_write 81 = .ok (.getfield 25, 3) := by decide +kernel
theorem dX5_write_84 : decode cX5_write 84 = .ok (.iload_n 1, 1) := by decide +kernel
theorem dX5_write_85 : decode cX5_write 85 = .ok (.iaload, 1) := by decide +kernel
theorem dX5_write_86 : decode cX5_write 86 = .ok (.lload_n 3, 1) := by decide +kernel
theorem dX5_write_87 : decode cX5_write 87 = .ok (.invokestatic 268, 3) := by decide +kernel
theorem dX5_write_90 : decode cX5_write 90 = .ok (.lastore, 1) := by decide +kernel
theorem dX5_write_91 : decode cX5_write 91 = .ok (.lload 5, 2) := by decide +kernel
theorem dX5_write_93 : decode cX5_write 93 = .ok (.lreturn, 1) := by decide +kernel
theorem dX5_isPart__0 : decode cX5_isPart_ 0 = .ok (.iload_n 2, 1) := by decide +kernel
theorem dX5_isPart__1 : decode cX5_isPart_ 1 = .ok (.ifCond .lt 33, 3) := by decide +kernel
theorem dX5_isPart__4 : decode cX5_isPart_ 4 = .ok (.iload_n 3, 1) := by decide +kernel
theorem dX5_isPart__5 : decode cX5_isPart_ 5 = .ok (.ifCond .lt 29, 3) := by decide +kernel
theorem dX5_isPart__8 : decode cX5_isPart_ 8 = .ok (.iload_n 3, 1) := by decide +kernel
theorem dX5_isPart__9 : decode cX5_isPart_ 9 = .ok (.aload_n 0, 1) := by decide +kernel
theorem dX5_isPart__10 : decode cX5_isPart_ 10 = .ok (.getfield 28, 3) := by decide +kernel
theorem dX5_isPart__13 : decode cX5_isPart_ 13 = .ok (.iload_n 1, 1) := by decide +kernel
theorem dX5_isPart__14 : decode cX5_isPart_ 14 = .ok (.iaload, 1) := by decide +kernel
theorem dX5_isPart__15 : decode cX5_isPart_ 15 = .ok (.if_icmp .gt 19, 3) := by decide +kernel
theorem dX5_isPart__18 : decode cX5_isPart_ 18 = .ok (.iload_n 2, 1) := by decide +kernel
theorem dX5_isPart__19 : decode cX5_isPart_ 19 = .ok (.aload_n 0, 1) := by decide +kernel
theorem dX5_isPart__20 : decode cX5_isPart_ 20 = .ok (.getfield 28, 3) := by decide +kernel
theorem dX5_isPart__23 : decode cX5_isPart_ 23 = .ok (.iload_n 1, 1) := by decide +kernel
theorem dX5_isPart__24 : decode cX5_isPart_ 24 = .ok (.iaload, 1) := by decide +kernel
theorem dX5_isPart__25 : decode cX5_isPart_ 25 = .ok (.iload_n 3, 1) := by decide +kernel
theorem dX5_isPart__26 : decode cX5_isPart_ 26 = .ok (.isub, 1) := by decide +kernel
theorem dX5_isPart__27 : decode cX5_isPart_ 27 = .ok (.if_icmp .gt 7, 3) := by decide +kernel
theorem dX5_isPart__30 : decode cX5_isPart_ 30 = .ok (.iconst 1, 1) := by decide +kernel
theorem dX5_isPart__31 : decode cX5_isPart_ 31 = .ok (.goto 4, 3) := by decide +kernel
theorem dX5_isPart__34 : decode cX5_isPart_ 34 = .ok (.iconst 0, 1) := by decide +kernel
theorem dX5_isPart__35 : decode cX5_isPart_ 35 = .ok (.ireturn, 1) := by decide +kernel
theorem dX5_copy_0 : decode cX5_copy 0 = .ok (.iload_n 1, 1) := by decide +kernel
theorem dX5_copy_1 : decode cX5_copy 1 = .ok (.invokestatic 263, 3) := by decide +kernel
theorem dX5_copy_4 : decode cX5_copy 4 = .ok (.ifCond .eq 10, 3) := by decide +kernel
theorem dX5_copy_7 : decode cX5_copy 7 = .ok (.iload_n 3, 1) := by decide +kernel
theorem dX5_copy_8 : decode cX5_copy 8 = .ok (.invokestatic 263, 3) := by decide +kernel
theorem dX5_copy_11 : decode cX5_copy 11 = .ok (.ifCond .ne 10, 3) := by decide +kernel
theorem dX5_copy_14 : decode cX5_copy 14 = .ok (.aload_n 0, 1) := by decide +kernel
theorem dX5_copy_15 : decode cX5_copy 15 = .ok (.ldc 44, 2) := by decide +kernel
theorem dX5_copy_17 : decode cX5_copy 17 = .ok (.invokevirtual 81, 3) := by decide +kernel
theorem dX5_copy_20 : decode cX5_copy 20 = .ok (.ireturn, 1) := by decide +kernel
theorem dX5_copy_21 : decode cX5_copy 21 = .ok (.aload_n 0, 1) := by decide +kernel
theorem dX5_copy_22 : decode cX5_copy 22 = .ok (.getfield 25, 3) := by decide +kernel
theorem dX5_copy_25 : decode cX5_copy 25 = .ok (.iload_n 1, 1) := by decide +kernel
theorem dX5_copy_26 : decode cX5_copy 26 = .ok (.iaload, 1) := by decide +kernel
theorem dX5_copy_27 : decode cX5_copy 27 = .ok (.ifCond .eq 12, 3) := by decide +kernel
theorem dX5_copy_30 : decode cX5_copy 30 = .ok (.aload_n 0, 1) := by decide +kernel
theorem dX5_copy_31 : decode cX5_copy 31 = .ok (.getfield 25, 3) := by decide +kernel
theorem dX5_copy_34 : decode cX5_copy 34 = .ok (.iload_n 3, 1) := by decide +kernel
theorem dX5_copy_35 : decode cX5_copy 35 = .ok (.iaload, 1) := by decide +kernel
theorem dX5_copy_36 : decode cX5_copy 36 = .ok (.ifCond .ne 11, 3) := by decide +kernel
theorem dX5_copy_39 : decode cX5_copy 39 = .ok (.aload_n 0, 1) := by decide +kernel
theorem dX5_copy_40 : decode cX5_copy 40 = .ok (.ldc_w 267, 3) := by decide +kernel
theorem dX5_copy_43 : decode cX5_copy 43 = .ok (.invokevirtual 81, 3) := by decide +kernel
theorem dX5_copy_46 : decode cX5_copy 46 = .ok (.ireturn, 1) := by decide +kernel
theorem dX5_copy_47 : decode cX5_copy 47 = .ok (.aload_n 0, 1) := by decide +kernel
theorem dX5_copy_48 : decode cX5_copy 48 = .ok (.getfield 25, 3) := by decide +kernel
theorem dX5_copy_51 : decode cX5_copy 51 = .ok (.iload_n 1, 1) := by decide +kernel
theorem dX5_copy_52 : decode cX5_copy 52 = .ok (.iaload, 1) := by decide +kernel
theorem dX5_copy_53 : decode cX5_copy 53 = .ok (.aload_n 0, 1) := by decide +kernel
theorem dX5_copy_54 : decode cX5_copy 54 = .ok (.getfield 25, 3) := by decide +kernel
theorem dX5_copy_57 : decode cX5_copy 57 = .ok (.iload_n 3, 1) := by decide +kernel
theorem dX5_copy_58 : decode cX5_copy 58 = .ok (.iaload, 1) := by decide +kernel
theorem dX5_copy_59 : decode cX5_copy 59 = .ok (.if_icmp .eq 10, 3) := by decide +kernel
theorem dX5_copy_62 : decode cX5_copy 62 = .ok (.aload_n 0, 1) := by decide +kernel
theorem dX5_copy_63 : decode cX5_copy 63 = .ok (.ldc 127, 2) := by decide +kernel
theorem dX5_copy_65 : decode cX5_copy 65 = .ok (.invokevirtual 81, 3) := by decide +kernel
theorem dX5_copy_68 : decode cX5_copy 68 = .ok (.ireturn, 1) := by decide +kernel
theorem dX5_copy_69 : decode cX5_copy 69 = .ok (.aload_n 0, 1) := by decide +kernel
theorem dX5_copy_70 : decode cX5_copy 70 = .ok (.iload_n 1, 1) := by decide +kernel
theorem dX5_copy_71 : decode cX5_copy 71 = .ok (.iload_n 2, 1) := by decide +kernel
theorem dX5_copy_72 : decode cX5_copy 72 = .ok (.iload 5, 2) := by decide +kernel
theorem dX5_copy_74 : decode cX5_copy 74 = .ok (.invokevirtual 272, 3) := by decide +kernel
theorem dX5_copy_77 : decode cX5_copy 77 = .ok (.ifCond .eq 15, 3) := by decide +kernel
theorem dX5_copy_80 : decode cX5_copy 80 = .ok (.aload_n 0, 1) := by decide +kernel
theorem dX5_copy_81 : decode cX5_copy 81 = .ok (.iload_n 3, 1) := by decide +kernel
theorem dX5_copy_82 : decode cX5_copy 82 = .ok (.iload 4, 2) := by decide +kernel
theorem dX5_copy_84 : decode cX5_copy 84 = .ok (.iload 5, 2) := by decide +kernel
theorem dX5_copy_86 : decode cX5_copy 86 = .ok (.invokevirtual 272, 3) := by decide +kernel
theorem dX5_copy_89 : decode cX5_copy 89 = .ok (.ifCond .ne 10, 3) := by decide +kernel
theorem dX5_copy_92 : decode cX5_copy 92 = .ok (.aload_n 0, 1) := by decide +kernel
theorem dX5_copy_93 : decode cX5_copy 93 = .ok (.ldc 44, 2) := by decide +kernel
theorem dX5_copy_95 : decode cX5_copy 95 = .ok (.invokevirtual 81, 3) := by decide +kernel
theorem dX5_copy_98 : decode cX5_copy 98 = .ok (.ireturn, 1) := by decide +kernel
theorem dX5_copy_99 : decode cX5_copy 99 = .ok (.iconst 0, 1) := by decide +kernel
theorem dX5_copy_100 : decode cX5_copy 100 = .ok (.istore 6, 2) := by decide +kernel
theorem dX5_copy_102 : decode cX5_copy 102 = .ok (.iload 6, 2) := by decide +kernel
theorem dX5_copy_104 : decode cX5_copy 104 = .ok (.iload 5, 2) := by decide +kernel
theorem dX5_copy_106 : decode cX5_copy 106 = .ok (.if_icmp .ge 30, 3) := by decide +kernel
theorem dX5_copy_109 : decode cX5_copy 109 = .ok (.aload_n 0, 1) := by decide +kernel
theorem dX5_copy_110 : decode cX5_copy 110 = .ok (.getfield 35, 3) := by decide +kernel
theorem dX5_copy_113 : decode cX5_copy 113 = .ok (.iload 6, 2) := by decide +kernel
theorem dX5_copy_115 : decode cX5_copy 115 = .ok (.aload_n 0, 1) := by decide +kernel
theorem dX5_copy_116 : decode cX5_copy 116 = .ok (.getfield 31, 3) := by decide +kernel
theorem dX5_copy_119 : decode cX5_copy 119 = .ok (.bipush 40, 2) := by decide +kernel
theorem dX5_copy_121 : decode cX5_copy 121 = .ok (.iload_n 1, 1) := by decide +kernel
theorem dX5_copy_122 : decode cX5_copy 122 = .ok (.imul, 1) := by decide +kernel
theorem dX5_copy_123 : decode cX5_copy 123 = .ok (.iload_n 2, 1) := by decide +kernel
theorem dX5_copy_124 : decode cX5_copy 124 = .ok (.iadd, 1) := by decide +kernel
theorem dX5_copy_125 : decode cX5_copy 125 = .ok (.iload 6, 2) := by decide +kernel
theorem dX5_copy_127 : decode cX5_copy 127 = .ok (.iadd, 1) := by decide +kernel
theorem dX5_copy_128 : decode cX5_copy 128 = .ok (.laload, 1) := by decide +kernel
theorem dX5_copy_129 : decode cX5_copy 129 = .ok (.lastore, 1) := by decide +kernel
theorem dX5_copy_130 : decode cX5_copy 130 = .ok (.iinc 6 1, 3) := by decide +kernel
theorem dX5_copy_133 : decode cX5_copy 133 = .ok (.goto (-31), 3) := by decide +kernel
theorem dX5_copy_136 : decode cX5_copy 136 = .ok (.iconst 0, 1) := by decide +kernel
theorem dX5_copy_137 : decode cX5_copy 137 = .ok (.istore 6, 2) := by decide +kernel
theorem dX5_copy_139 : decode cX5_copy 139 = .ok (.iload 6, 2) := by decide +kernel
theorem dX5_copy_141 : decode cX5_copy 141 = .ok (.iload 5, 2) := by decide +kernel
theorem dX5_copy_143 : decode cX5_copy 143 = .ok (.if_icmp .ge 31, 3) := by decide +kernel
theorem dX5_copy_146 : decode cX5_copy 146 = .ok (.aload_n 0, 1) := by decide +kernel
theorem dX5_copy_147 : decode cX5_copy 147 = .ok (.getfield 31, 3) := by decide +kernel
theorem dX5_copy_150 : decode cX5_copy 150 = .ok (.bipush 40, 2) := by decide +kernel
theorem dX5_copy_152 : decode cX5_copy 152 = .ok (.iload_n 3, 1) := by decide +kernel
theorem dX5_copy_153 : decode cX5_copy 153 = .ok (.imul, 1) := by decide +kernel
theorem dX5_copy_154 : decode cX5_copy 154 = .ok (.iload 4, 2) := by decide +kernel
theorem dX5_copy_156 : decode cX5_copy 156 = .ok (.iadd, 1) := by decide +kernel
theorem dX5_copy_157 : decode cX5_copy 157 = .ok (.iload 6, 2) := by decide +kernel
theorem dX5_copy_159 : decode cX5_copy 159 = .ok (.iadd, 1) := by decide +kernel
theorem dX5_copy_160 : decode cX5_copy 160 = .ok (.aload_n 0, 1) := by decide +kernel
theorem dX5_copy_161 : decode cX5_copy 161 = .ok (.getfield 35, 3) := by decide +kernel
theorem dX5_copy_164 : decode cX5_copy 164 = .ok (.iload 6, 2) := by decide +kernel
theorem dX5_copy_166 : decode cX5_copy 166 = .ok (.laload, 1) := by decide +kernel
theorem dX5_copy_167 : decode cX5_copy 167 = .ok (.lastore, 1) := by decide +kernel
theorem dX5_copy_168 : decode cX5_copy 168 = .ok (.iinc 6 1, 3) := by decide +kernel
theorem dX5_copy_171 : decode cX5_copy 171 = .ok (.goto (-32), 3) := by decide +kernel
theorem dX5_copy_174 : decode cX5_copy 174 = .ok (.iload 5, 2) := by decide +kernel
theorem dX5_copy_176 : decode cX5_copy 176 = .ok (.ireturn, 1) := by decide +kernel
theorem dX5_badSheet_0 : decode cX5_badSheet 0 = .ok (.iload_n 1, 1) := by decide +kernel
theorem dX5_badSheet_1 : decode cX5_badSheet 1 = .ok (.invokestatic 263, 3) := by decide +kernel
theorem dX5_badSheet_4 : decode cX5_badSheet 4 = .ok (.ifCond .ne 8, 3) := by decide +kernel
theorem dX5_badSheet_7 : decode cX5_badSheet 7 = .ok (.ldc 44, 2) := by decide +kernel
theorem dX5_badSheet_9 : decode cX5_badSheet 9 = .ok (.goto 19, 3) := by decide +kernel
theorem dX5_badSheet_12 : decode cX5_badSheet 12 = .ok (.aload_n 0, 1) := by decide +kernel
theorem dX5_badSheet_13 : decode cX5_badSheet 13 = .ok (.getfield 25, 3) := by decide +kernel
theorem dX5_badSheet_16 : decode cX5_badSheet 16 = .ok (.iload_n 1, 1) := by decide +kernel
theorem dX5_badSheet_17 : decode cX5_badSheet 17 = .ok (.iaload, 1) := by decide +kernel
theorem dX5_badSheet_18 : decode cX5_badSheet 18 = .ok (.ifCond .ne 9, 3) := by decide +kernel
theorem dX5_badSheet_21 : decode cX5_badSheet 21 = .ok (.ldc_w 267, 3) := by decide +kernel
theorem dX5_badSheet_24 : decode cX5_badSheet 24 = .ok (.goto 4, 3) := by decide +kernel
theorem dX5_badSheet_27 : decode cX5_badSheet 27 = .ok (.iconst 0, 1) := by decide +kernel
theorem dX5_badSheet_28 : decode cX5_badSheet 28 = .ok (.ireturn, 1) := by decide +kernel
theorem dX5_lays_0 : decode cX5_lays 0 = .ok (.aload_n 0, 1) := by decide +kernel
theorem dX5_lays_1 : decode cX5_lays 1 = .ok (.iload_n 1, 1) := by decide +kernel
theorem dX5_lays_2 : decode cX5_lays 2 = .ok (.invokevirtual 274, 3) := by decide +kernel
theorem dX5_lays_5 : decode cX5_lays 5 = .ok (.istore_n 2, 1) := by decide +kernel
theorem dX5_lays_6 : decode cX5_lays 6 = .ok (.iload_n 2, 1) := by decide +kernel
theorem dX5_lays_7 : decode cX5_lays 7 = .ok (.ifCond .eq 9, 3) := by decide +kernel
theorem dX5_lays_10 : decode cX5_lays 10 = .ok (.aload_n 0, 1) := by decide +kernel
theorem dX5_lays_11 : decode cX5_lays 11 = .ok (.iload_n 2, 1) := by decide +kernel
theorem dX5_lays_12 : decode cX5_lays 12 = .ok (.invokevirtual 81, 3) := by decide +kernel
theorem dX5_lays_15 : decode cX5_lays 15 = .ok (.ireturn, 1) := by decide +kernel
theorem dX5_lays_16 : decode cX5_lays 16 = .ok (.iconst 0, 1) := by decide +kernel
theorem dX5_lays_17 : decode cX5_lays 17 = .ok (.istore_n 3, 1) := by decide +kernel
theorem dX5_lays_18 : decode cX5_lays 18 = .ok (.iconst 0, 1) := by decide +kernel
theorem dX5_lays_19 : decode cX5_lays 19 = .ok (.istore 4, 2) := by decide +kernel
theorem dX5_lays_21 : decode cX5_lays 21 = .ok (.iload 4, 2) := by decide +kernel
theorem dX5_lays_23 : decode cX5_lays 23 = .ok (.aload_n 0, 1) := by decide +kernel
theorem dX5_lays_24 : decode cX5_lays 24 = .ok (.getfield 28, 3) := by decide +kernel
theorem dX5_lays_27 : decode cX5_lays 27 = .ok (.iload_n 1, 1) := by decide +kernel
theorem dX5_lays_28 : decode cX5_lays 28 = .ok (.iaload, 1) := by decide +kernel
theorem dX5_lays_29 : decode cX5_lays 29 = .ok (.if_icmp .ge 63, 3) := by decide +kernel
theorem dX5_lays_32 : decode cX5_lays 32 = .ok (.iload 4, 2) := by decide +kernel
theorem dX5_lays_34 : decode cX5_lays 34 = .ok (.aload_n 0, 1) := by decide +kernel
theorem dX5_lays_35 : decode cX5_lays 35 = .ok (.getfield 7, 3) := by decide +kernel
theorem dX5_lays_38 : decode cX5_lays 38 = .ok (.iconst 2, 1) := by decide +kernel
theorem dX5_lays_39 : decode cX5_lays 39 = .ok (.iaload, 1) := by decide +kernel
theorem dX5_lays_40 : decode cX5_lays 40 = .ok (.if_icmp .ge 52, 3) := by decide +kernel
theorem dX5_lays_43 : decode cX5_lays 43 = .ok (.aload_n 0, 1) := by decide +kernel
theorem dX5_lays_44 : decode cX5_lays 44 = .ok (.getfield 31, 3) := by decide +kernel
theorem dX5_lays_47 : decode cX5_lays 47 = .ok (.bipush 40, 2) := by decide +kernel
theorem dX5_lays_49 : decode cX5_lays 49 = .ok (.iload_n 1, 1) := by decide +kernel
theorem dX5_lays_50 : decode cX5_lays 50 = .ok (.imul, 1) := by decide +kernel
theorem dX5_lays_51 : decode cX5_lays 51 = .ok (.iload 4, 2) := by decide +kernel
theorem dX5_lays_53 : decode cX5_lays 53 = .ok (.iadd, 1) := by decide +kernel
theorem dX5_lays_54 : decode cX5_lays 54 = .ok (.laload, 1) := by decide +kernel
theorem dX5_lays_55 : decode cX5_lays 55 = .ok (.lstore 5, 2) := by decide +kernel
theorem dX5_lays_57 : decode cX5_lays 57 = .ok (.lload 5, 2) := by decide +kernel
theorem dX5_lays_59 : decode cX5_lays 59 = .ok (.lconst 0, 1) := by decide +kernel
theorem dX5_lays_60 : decode cX5_lays 60 = .ok (.lcmp, 1) := by decide +kernel
theorem dX5_lays_61 : decode cX5_lays 61 = .ok (.ifCond .lt 25, 3) := by decide +kernel
theorem dX5_lays_64 : decode cX5_lays 64 = .ok (.lload 5, 2) := by decide +kernel
theorem dX5_lays_66 : decode cX5_lays 66 = .ok (.ldc2_w 277, 3) := by decide +kernel
theorem dX5_lays_69 : decode cX5_lays 69 = .ok (.lcmp, 1) := by decide +kernel
theorem dX5_lays_70 : decode cX5_lays 70 = .ok (.ifCond .gt 16, 3) := by decide +kernel
theorem dX5_lays_73 : decode cX5_lays 73 = .ok (.aload_n 0, 1) := by decide +kernel
theorem dX5_lays_74 : decode cX5_lays 74 = .ok (.iload 4, 2) := by decide +kernel
theorem dX5_lays_76 : decode cX5_lays 76 = .ok (.iconst 3, 1) := by decide +kernel
theorem dX5_lays_77 : decode cX5_lays 77 = .ok (.lload 5, 2) := by decide +kernel
theorem dX5_lays_79 : decode cX5_lays 79 = .ok (.l2i, 1) := by decide +kernel
theorem dX5_lays_80 : decode cX5_lays 80 = .ok (.invokevirtual 99, 3) := by decide +kernel
theorem dX5_lays_83 : decode cX5_lays 83 = .ok (.iinc 3 1, 3) := by decide +kernel
theorem dX5_lays_86 : decode cX5_lays 86 = .ok (.iinc 4 1, 3) := by decide +kernel
theorem dX5_lays_89 : decode cX5_lays 89 = .ok (.goto (-68), 3) := by decide +kernel
theorem dX5_lays_92 : decode cX5_lays 92 = .ok (.iload_n 3, 1) := by decide +kernel
theorem dX5_lays_93 : decode cX5_lays 93 = .ok (.ireturn, 1) := by decide +kernel
theorem dX5_book_0 : decode cX5_book 0 = .ok (.aload_n 0, 1) := by decide +kernel
theorem dX5_book_1 : decode cX5_book 1 = .ok (.iload_n 1, 1) := by decide +kernel
theorem dX5_book_2 : decode cX5_book 2 = .ok (.invokevirtual 274, 3) := by decide +kernel
theorem dX5_book_5 : decode cX5_book 5 = .ok (.istore_n 3, 1) := by decide +kernel
theorem dX5_book_6 : decode cX5_book 6 = .ok (.iload_n 3, 1) := by decide +kernel
theorem dX5_book_7 : decode cX5_book 7 = .ok (.ifCond .eq 9, 3) := by decide +kernel
theorem dX5_book_10 : decode cX5_book 10 = .ok (.aload_n 0, 1) := by decide +kernel
theorem dX5_book_11 : decode cX5_book 11 = .ok (.iload_n 3, 1) := by decide +kernel
theorem dX5_book_12 : decode cX5_book 12 = .ok (.invokevirtual 81, 3) := by decide +kernel
theorem dX5_book_15 : decode cX5_book 15 = .ok (.ireturn, 1) := by decide +kernel
theorem dX5_book_16 : decode cX5_book 16 = .ok (.aload_n 0, 1) := by decide +kernel
theorem dX5_book_17 : decode cX5_book 17 = .ok (.iload_n 2, 1) := by decide +kernel
theorem dX5_book_18 : decode cX5_book 18 = .ok (.invokevirtual 111, 3) := by decide +kernel
theorem dX5_book_21 : decode cX5_book 21 = .ok (.ifCond .ne 10, 3) := by decide +kernel
theorem dX5_book_24 : decode cX5_book 24 = .ok (.aload_n 0, 1) := by decide +kernel
theorem dX5_book_25 : decode cX5_book 25 = .ok (.ldc 44, 2) := by decide +kernel
theorem dX5_book_27 : decode cX5_book 27 = .ok (.invokevirtual 81, 3) := by decide +kernel
theorem dX5_book_30 : decode cX5_book 30 = .ok (.ireturn, 1) := by decide +kernel
theorem dX5_book_31 : decode cX5_book 31 = .ok (.aload_n 0, 1) := by decide +kernel
theorem dX5_book_32 : decode cX5_book 32 = .ok (.iconst 1, 1) := by decide +kernel
theorem dX5_book_33 : decode cX5_book 33 = .ok (.aload_n 0, 1) := by decide +kernel
theorem dX5_book_34 : decode cX5_book 34 = .ok (.getfield 16, 3) := by decide +kernel
theorem dX5_book_37 : decode cX5_book 37 = .ok (.invokevirtual 156, 3) := by decide +kernel
theorem dX5_book_40 : decode cX5_book 40 = .ok (.iconst 0, 1) := by decide +kernel
theorem dX5_book_41 : decode cX5_book 41 = .ok (.istore 4, 2) := by decide +kernel
theorem dX5_book_43 : decode cX5_book 43 = .ok (.iload 4, 2) := by decide +kernel
theorem dX5_book_45 : decode cX5_book 45 = .ok (.aload_n 0, 1) := by decide +kernel
theorem dX5_book_46 : decode cX5_book 46 = .ok (.getfield 28, 3) := by decide +kernel
theorem dX5_book_49 : decode cX5_book 49 = .ok (.iload_n 1, 1) := by decide +kernel
theorem dX5_book_50 : decode cX5_book 50 = .ok (.iaload, 1) := by decide +kernel
theorem dX5_book_51 : decode cX5_book 51 = .ok (.if_icmp .ge 32, 3) := by decide +kernel
theorem dX5_book_54 : decode cX5_book 54 = .ok (.aload_n 0, 1) := by decide +kernel
theorem dX5_book_55 : decode cX5_book 55 = .ok (.getfield 31, 3) := by decide +kernel
theorem dX5_book_58 : decode cX5_book 58 = .ok (.bipush 40, 2) := by decide +kernel
theorem dX5_book_60 : decode cX5_book 60 = .ok (.iload_n 1, 1) := by decide +kernel
theorem dX5_book_61 : decode cX5_book 61 = .ok (.imul, 1) := by decide +kernel
theorem dX5_book_62 : decode cX5_book 62 = .ok (.iload 4, 2) := by decide +kernel
theorem dX5_book_64 : decode cX5_book 64 = .ok (.iadd, 1) := by decide +kernel
theorem dX5_book_65 : decode cX5_book 65 = .ok (.aload_n 0, 1) := by decide +kernel
theorem dX5_book_66 : decode cX5_book 66 = .ok (.iload_n 2, 1) := by decide +kernel
theorem dX5_book_67 : decode cX5_book 67 = .ok (.iconst 4, 1) := by decide +kernel
theorem dX5_book_68 : decode cX5_book 68 = .ok (.invokevirtual 53, 3) := by decide +kernel
theorem dX5_book_71 : decode cX5_book 71 = .ok (.i2l, 1) := by decide +kernel
theorem dX5_book_72 : decode cX5_book 72 = .ok (.lastore, 1) := by decide +kernel
theorem dX5_book_73 : decode cX5_book 73 = .ok (.aload_n 0, 1) := by decide +kernel
theorem dX5_book_74 : decode cX5_book 74 = .ok (.invokevirtual 148, 3) := by decide +kernel
theorem dX5_book_77 : decode cX5_book 77 = .ok (.iinc 4 1, 3) := by decide +kernel
theorem dX5_book_80 : decode cX5_book 80 = .ok (.goto (-37), 3) := by decide +kernel
theorem dX5_book_83 : decode cX5_book 83 = .ok (.aload_n 0, 1) := by decide +kernel
theorem dX5_book_84 : decode cX5_book 84 = .ok (.iconst 0, 1) := by decide +kernel
theorem dX5_book_85 : decode cX5_book 85 = .ok (.aload_n 0, 1) := by decide +kernel
theorem dX5_book_86 : decode cX5_book 86 = .ok (.getfield 16, 3) := by decide +kernel
theorem dX5_book_89 : decode cX5_book 89 = .ok (.invokevirtual 156, 3) := by decide +kernel
theorem dX5_book_92 : decode cX5_book 92 = .ok (.aload_n 0, 1) := by decide +kernel
theorem dX5_book_93 : decode cX5_book 93 = .ok (.getfield 28, 3) := by decide +kernel
theorem dX5_book_96 : decode cX5_book 96 = .ok (.iload_n 1, 1) := by decide +kernel
theorem dX5_book_97 : decode cX5_book 97 = .ok (.iaload, 1) := by decide +kernel
theorem dX5_book_98 : decode cX5_book 98 = .ok (.ireturn, 1) := by decide +kernel
theorem dX5_isSo_0 : decode cX5_isSo 0 = .ok (.iconst 1, 1) := by decide +kernel
theorem dX5_isSo_1 : decode cX5_isSo 1 = .ok (.istore_n 3, 1) := by decide +kernel
theorem dX5_isSo_2 : decode cX5_isSo 2 = .ok (.iconst 0, 1) := by decide +kernel
theorem dX5_isSo_3 : decode cX5_isSo 3 = .ok (.istore 4, 2) := by decide +kernel
theorem dX5_isSo_5 : decode cX5_isSo 5 = .ok (.iload 4, 2) := by decide +kernel
theorem dX5_isSo_7 : decode cX5_isSo 7 = .ok (.aload_n 0, 1) := by decide +kernel
theorem dX5_isSo_8 : decode cX5_isSo 8 = .ok (.getfield 28, 3) := by decide +kernel
theorem dX5_isSo_11 : decode cX5_isSo 11 = .ok (.iload_n 1, 1) := by decide +kernel
theorem dX5_isSo_12 : decode cX5_isSo 12 = .ok (.iaload, 1) := by decide +kernel
theorem dX5_isSo_13 : decode cX5_isSo 13 = .ok (.if_icmp .ge 46, 3) := by decide +kernel
theorem dX5_isSo_16 : decode cX5_isSo 16 = .ok (.iload_n 3, 1) := by decide +kernel
theorem dX5_isSo_17 : decode cX5_isSo 17 = .ok (.ifCond .eq 42, 3) := by decide +kernel
theorem dX5_isSo_20 : decode cX5_isSo 20 = .ok (.aload_n 0, 1) := by decide +kernel
theorem dX5_isSo_21 : decode cX5_isSo 21 = .ok (.getfield 31, 3) := by decide +kernel
theorem dX5_isSo_24 : decode cX5_isSo 24 = .ok (.bipush 40, 2) := by decide +kernel
theorem dX5_isSo_26 : decode cX5_isSo 26 = .ok (.iload_n 1, 1) := by decide +kernel
theorem dX5_isSo_27 : decode cX5_isSo 27 = .ok (.imul, 1) := by decide +kernel
theorem dX5_isSo_28 : decode cX5_isSo 28 = .ok (.iload 4, 2) := by decide +kernel
theorem dX5_isSo_30 : decode cX5_isSo 30 = .ok (.iadd, 1) := by decide +kernel
theorem dX5_isSo_31 : decode cX5_isSo 31 = .ok (.laload, 1) := by decide +kernel
theorem dX5_isSo_32 : decode cX5_isSo 32 = .ok (.aload_n 0, 1) := by decide +kernel
theorem dX5_isSo_33 : decode cX5_isSo 33 = .ok (.iload_n 2, 1) := by decide +kernel
theorem dX5_isSo_34 : decode cX5_isSo 34 = .ok (.iconst 4, 1) := by decide +kernel
theorem dX5_isSo_35 : decode cX5_isSo 35 = .ok (.invokevirtual 53, 3) := by decide +kernel
theorem dX5_isSo_38 : decode cX5_isSo 38 = .ok (.i2l, 1) := by decide +kernel
theorem dX5_isSo_39 : decode cX5_isSo 39 = .ok (.lcmp, 1) := by decide +kernel
theorem dX5_isSo_40 : decode cX5_isSo 40 = .ok (.ifCond .ne 7, 3) := by decide +kernel
theorem dX5_isSo_43 : decode cX5_isSo 43 = .ok (.iconst 1, 1) := by decide +kernel
theorem dX5_isSo_44 : decode cX5_isSo 44 = .ok (.goto 4, 3) := by decide +kernel
theorem dX5_isSo_47 : decode cX5_isSo 47 = .ok (.iconst 0, 1) := by decide +kernel
theorem dX5_isSo_48 : decode cX5_isSo 48 = .ok (.istore_n 3, 1) := by decide +kernel
theorem dX5_isSo_49 : decode cX5_isSo 49 = .ok (.aload_n 0, 1) := by decide +kernel
theorem dX5_isSo_50 : decode cX5_isSo 50 = .ok (.invokevirtual 148, 3) := by decide +kernel
theorem dX5_isSo_53 : decode cX5_isSo 53 = .ok (.iinc 4 1, 3) := by decide +kernel
theorem dX5_isSo_56 : decode cX5_isSo 56 = .ok (.goto (-51), 3) := by decide +kernel
theorem dX5_isSo_59 : decode cX5_isSo 59 = .ok (.iload_n 3, 1) := by decide +kernel
theorem dX5_isSo_60 : decode cX5_isSo 60 = .ok (.ireturn, 1) := by decide +kernel
theorem dX5_read_0 : decode cX5_read 0 = .ok (.aload_n 0, 1) := by decide +kernel
theorem dX5_read_1 : decode cX5_read 1 = .ok (.iload_n 1, 1) := by decide +kernel
theorem dX5_read_2 : decode cX5_read 2 = .ok (.invokevirtual 274, 3) := by decide +kernel
theorem dX5_read_5 : decode cX5_read 5 = .ok (.istore_n 3, 1) := by decide +kernel
theorem dX5_read_6 : decode cX5_read 6 = .ok (.iload_n 3, 1) := by decide +kernel
theorem dX5_read_7 : decode cX5_read 7 = .ok (.ifCond .eq 9, 3) := by decide +kernel
theorem dX5_read_10 : decode cX5_read 10 = .ok (.aload_n 0, 1) := by decide +kernel
theorem dX5_read_11 : decode cX5_read 11 = .ok (.iload_n 3, 1) := by decide +kernel
theorem dX5_read_12 : decode cX5_read 12 = .ok (.invokevirtual 81, 3) := by decide +kernel
theorem dX5_read_15 : decode cX5_read 15 = .ok (.ireturn, 1) := by decide +kernel
theorem dX5_read_16 : decode cX5_read 16 = .ok (.aload_n 0, 1) := by decide +kernel
theorem dX5_read_17 : decode cX5_read 17 = .ok (.iload_n 2, 1) := by decide +kernel
theorem dX5_read_18 : decode cX5_read 18 = .ok (.invokevirtual 111, 3) := by decide +kernel
theorem dX5_read_21 : decode cX5_read 21 = .ok (.ifCond .ne 10, 3) := by decide +kernel
theorem dX5_read_24 : decode cX5_read 24 = .ok (.aload_n 0, 1) := by decide +kernel
theorem dX5_read_25 : decode cX5_read 25 = .ok (.ldc 44, 2) := by decide +kernel
theorem dX5_read_27 : decode cX5_read 27 = .ok (.invokevirtual 81, 3) := by decide +kernel
theorem dX5_read_30 : decode cX5_read 30 = .ok (.ireturn, 1) := by decide +kernel
theorem dX5_read_31 : decode cX5_read 31 = .ok (.iconst 0, 1) := by decide +kernel
theorem dX5_read_32 : decode cX5_read 32 = .ok (.istore 4, 2) := by decide +kernel
theorem dX5_read_34 : decode cX5_read 34 = .ok (.aload_n 0, 1) := by decide +kernel
theorem dX5_read_35 : decode cX5_read 35 = .ok (.iconst 1, 1) := by decide +kernel
theorem dX5_read_36 : decode cX5_read 36 = .ok (.aload_n 0, 1) := by decide +kernel
theorem dX5_read_37 : decode cX5_read 37 = .ok (.getfield 19, 3) := by decide +kernel
theorem dX5_read_40 : decode cX5_read 40 = .ok (.invokevirtual 156, 3) := by decide +kernel
theorem dX5_read_43 : decode cX5_read 43 = .ok (.iconst 0, 1) := by decide +kernel
theorem dX5_read_44 : decode cX5_read 44 = .ok (.istore 5, 2) := by decide +kernel
theorem dX5_read_46 : decode cX5_read 46 = .ok (.iload 5, 2) := by decide +kernel
theorem dX5_read_48 : decode cX5_read 48 = .ok (.sipush 600, 3) := by decide +kernel
theorem dX5_read_51 : decode cX5_read 51 = .ok (.if_icmp .ge 59, 3) := by decide +kernel
theorem dX5_read_54 : decode cX5_read 54 = .ok (.aload_n 0, 1) := by decide +kernel
theorem dX5_read_55 : decode cX5_read 55 = .ok (.iload_n 2, 1) := by decide +kernel
theorem dX5_read_56 : decode cX5_read 56 = .ok (.iconst 0, 1) := by decide +kernel
theorem dX5_read_57 : decode cX5_read 57 = .ok (.iload 5, 2) := by decide +kernel
theorem dX5_read_59 : decode cX5_read 59 = .ok (.bipush 100, 2) := by decide +kernel
theorem dX5_read_61 : decode cX5_read 61 = .ok (.idiv, 1) := by decide +kernel
theorem dX5_read_62 : decode cX5_read 62 = .ok (.invokevirtual 99, 3) := by decide +kernel
theorem dX5_read_65 : decode cX5_read 65 = .ok (.aload_n 0, 1) := by decide +kernel
theorem dX5_read_66 : decode cX5_read 66 = .ok (.iload_n 2, 1) := by decide +kernel
theorem dX5_read_67 : decode cX5_read 67 = .ok (.iconst 3, 1) := by decide +kernel
theorem dX5_read_68 : decode cX5_read 68 = .ok (.iload 5, 2) := by decide +kernel
theorem dX5_read_70 : decode cX5_read 70 = .ok (.bipush 100, 2) := by decide +kernel
theorem dX5_read_72 : decode cX5_read 72 = .ok (.irem, 1) := by decide +kernel
theorem dX5_read_73 : decode cX5_read 73 = .ok (.invokevirtual 99, 3) := by decide +kernel
theorem dX5_read_76 : decode cX5_read 76 = .ok (.iload 4, 2) := by decide +kernel
theorem dX5_read_78 : decode cX5_read 78 = .ok (.aload_n 0, 1) := by decide +kernel
theorem dX5_read_79 : decode cX5_read 79 = .ok (.iload_n 1, 1) := by decide +kernel
theorem dX5_read_80 : decode cX5_read 80 = .ok (.iload_n 2, 1) := by decide +kernel
theorem dX5_read_81 : decode cX5_read 81 = .ok (.invokevirtual 279, 3) := by decide +kernel
theorem dX5_read_84 : decode cX5_read 84 = .ok (.ifCond .eq 7, 3) := by decide +kernel
theorem dX5_read_87 : decode cX5_read 87 = .ok (.iconst 1, 1) := by decide +kernel
theorem dX5_read_88 : decode cX5_read 88 = .ok (.goto 4, 3) := by decide +kernel
theorem dX5_read_91 : decode cX5_read 91 = .ok (.iconst 0, 1) := by decide +kernel
theorem dX5_read_92 : decode cX5_read 92 = .ok (.iadd, 1) := by decide +kernel
theorem dX5_read_93 : decode cX5_read 93 = .ok (.istore 4, 2) := by decide +kernel
theorem dX5_read_95 : decode cX5_read 95 = .ok (.aload_n 0, 1) := by decide +kernel
theorem dX5_read_96 : decode cX5_read 96 = .ok (.iconst 0, 1) := by decide +kernel
theorem dX5_read_97 : decode cX5_read 97 = .ok (.aload_n 0, 1) := by decide +kernel
theorem dX5_read_98 : decode cX5_read 98 = .ok (.getfield 19, 3) := by decide +kernel
theorem dX5_read_101 : decode cX5_read 101 = .ok (.invokevirtual 156, 3) := by decide +kernel
theorem dX5_read_104 : decode cX5_read 104 = .ok (.iinc 5 1, 3) := by decide +kernel
theorem dX5_read_107 : decode cX5_read 107 = .ok (.goto (-61), 3) := by decide +kernel
theorem dX5_read_110 : decode cX5_read 110 = .ok (.iload 4, 2) := by decide +kernel
theorem dX5_read_112 : decode cX5_read 112 = .ok (.ireturn, 1) := by decide +kernel
theorem dX5_moveAll_0 : decode cX5_moveAll 0 = .ok (.iconst 0, 1) := by decide +kernel
theorem dX5_moveAll_1 : decode cX5_moveAll 1 = .ok (.istore_n 3, 1) := by decide +kernel
theorem dX5_moveAll_2 : decode cX5_moveAll 2 = .ok (.iload_n 3, 1) := by decide +kernel
theorem dX5_moveAll_3 : decode cX5_moveAll 3 = .ok (.bipush 87, 2) := by decide +kernel
theorem dX5_moveAll_5 : decode cX5_moveAll 5 = .ok (.if_icmp .ge 34, 3) := by decide +kernel
theorem dX5_moveAll_8 : decode cX5_moveAll 8 = .ok (.iload_n 1, 1) := by decide +kernel
theorem dX5_moveAll_9 : decode cX5_moveAll 9 = .ok (.ifCond .eq 15, 3) := by decide +kernel
theorem dX5_moveAll_12 : decode cX5_moveAll 12 = .ok (.aload_n 2, 1) := by decide +kernel
theorem dX5_moveAll_13 : decode cX5_moveAll 13 = .ok (.iload_n 3, 1) := by decide +kernel
theorem dX5_moveAll_14 : decode cX5_moveAll 14 = .ok (.aload_n 0, 1) := by decide +kernel
theorem dX5_moveAll_15 : decode cX5_moveAll 15 = .ok (.getfield 7, 3) := by decide +kernel
theorem dX5_moveAll_18 : decode cX5_moveAll 18 = .ok (.iload_n 3, 1) := by decide +kernel
theorem dX5_moveAll_19 : decode cX5_moveAll 19 = .ok (.iaload, 1) := by decide +kernel
theorem dX5_moveAll_20 : decode cX5_moveAll 20 = .ok (.iastore, 1) := by decide +kernel
theorem dX5_moveAll_21 : decode cX5_moveAll 21 = .ok (.goto 12, 3) := by decide +kernel
theorem dX5_moveAll_24 : decode cX5_moveAll 24 = .ok (.aload_n 0, 1) := by decide +kernel
theorem dX5_moveAll_25 : decode cX5_moveAll 25 = .ok (.getfield 7, 3) := by decide +kernel
theorem dX5_moveAll_28 : decode cX5_moveAll 28 = .ok (.iload_n 3, 1) := by decide +kernel
theorem dX5_moveAll_29 : decode cX5_moveAll 29 = .ok (.aload_n 2, 1) := by decide +kernel
theorem dX5_moveAll_30 : decode cX5_moveAll 30 = .ok (.iload_n 3, 1) := by decide +kernel
theorem dX5_moveAll_31 : decode cX5_moveAll 31 = .ok (.iaload, 1) := by decide +kernel
theorem dX5_moveAll_32 : decode cX5_moveAll 32 = .ok (.iastore, 1) := by decide +kernel
theorem dX5_moveAll_33 : decode cX5_moveAll 33 = .ok (.iinc 3 1, 3) := by decide +kernel
theorem dX5_moveAll_36 : decode cX5_moveAll 36 = .ok (.goto (-34), 3) := by decide +kernel
theorem dX5_moveAll_39 : decode cX5_moveAll 39 = .ok (.return_, 1) := by decide +kernel
theorem dX5_image_0 : decode cX5_image 0 = .ok (.aload_n 0, 1) := by decide +kernel
theorem dX5_image_1 : decode cX5_image 1 = .ok (.iconst 1, 1) := by decide +kernel
theorem dX5_image_2 : decode cX5_image 2 = .ok (.aload_n 0, 1) := by decide +kernel
theorem dX5_image_3 : decode cX5_image 3 = .ok (.getfield 38, 3) := by decide +kernel
theorem dX5_image_6 : decode cX5_image 6 = .ok (.invokevirtual 156, 3) := by decide +kernel
theorem dX5_image_9 : decode cX5_image 9 = .ok (.aload_n 0, 1) := by decide +kernel
theorem dX5_image_10 : decode cX5_image 10 = .ok (.iconst 1, 1) := by decide +kernel
theorem dX5_image_11 : decode cX5_image 11 = .ok (.putfield 282, 3) := by decide +kernel
theorem dX5_image_14 : decode cX5_image 14 = .ok (.iconst 1, 1) := by decide +kernel
theorem dX5_image_15 : decode cX5_image 15 = .ok (.ireturn, 1) := by decide +kernel
theorem dX5_undo_0 : decode cX5_undo 0 = .ok (.aload_n 0, 1) := by decide +kernel
theorem dX5_undo_1 : decode cX5_undo 1 = .ok (.getfield 282, 3) := by decide +kernel
theorem dX5_undo_4 : decode cX5_undo 4 = .ok (.ifCond .ne 10, 3) := by decide +kernel
theorem dX5_undo_7 : decode cX5_undo 7 = .ok (.aload_n 0, 1) := by decide +kernel
theorem dX5_undo_8 : decode cX5_undo 8 = .ok (.ldc 166, 2) := by decide +kernel
theorem dX5_undo_10 : decode cX5_undo 10 = .ok (.invokevirtual 81, 3) := by decide +kernel
theorem dX5_undo_13 : decode cX5_undo 13 = .ok (.ireturn, 1) := by decide +kernel
theorem dX5_undo_14 : decode cX5_undo 14 = .ok (.aload_n 0, 1) := by decide +kernel
theorem dX5_undo_15 : decode cX5_undo 15 = .ok (.iconst 0, 1) := by decide +kernel
theorem dX5_undo_16 : decode cX5_undo 16 = .ok (.aload_n 0, 1) := by decide +kernel
theorem dX5_undo_17 : decode cX5_undo 17 = .ok (.getfield 38, 3) := by decide +kernel
theorem dX5_undo_20 : decode cX5_undo 20 = .ok (.invokevirtual 156, 3) := by decide +kernel
theorem dX5_undo_23 : decode cX5_undo 23 = .ok (.aload_n 0, 1) := by decide +kernel
theorem dX5_undo_24 : decode cX5_undo 24 = .ok (.getfield 7, 3) := by decide +kernel
theorem dX5_undo_27 : decode cX5_undo 27 = .ok (.iconst 2, 1) := by decide +kernel
theorem dX5_undo_28 : decode cX5_undo 28 = .ok (.iaload, 1) := by decide +kernel
theorem dX5_undo_29 : decode cX5_undo 29 = .ok (.ireturn, 1) := by decide +kernel
theorem dX5_tear_0 : decode cX5_tear 0 = .ok (.aload_n 0, 1) := by decide +kernel
theorem dX5_tear_1 : decode cX5_tear 1 = .ok (.getfield 282, 3) := by decide +kernel
theorem dX5_tear_4 : decode cX5_tear 4 = .ok (.ifCond .eq 7, 3) := by decide +kernel
theorem dX5_tear_7 : decode cX5_tear 7 = .ok (.iconst 1, 1) := by decide +kernel
theorem dX5_tear_8 : decode cX5_tear 8 = .ok (.goto 4, 3) := by decide +kernel
theorem dX5_tear_11 : decode cX5_tear 11 = .ok (.iconst 0, 1) := by decide +kernel
theorem dX5_tear_12 : decode cX5_tear 12 = .ok (.istore_n 1, 1) := by decide +kernel
theorem dX5_tear_13 : decode cX5_tear 13 = .ok (.aload_n 0, 1) := by decide +kernel
theorem dX5_tear_14 : decode cX5_tear 14 = .ok (.iconst 0, 1) := by decide +kernel
theorem dX5_tear_15 : decode cX5_tear 15 = .ok (.putfield 282, 3) := by decide +kernel
theorem dX5_tear_18 : decode cX5_tear 18 = .ok (.iload_n 1, 1) := by decide +kernel
theorem dX5_tear_19 : decode cX5_tear 19 = .ok (.ireturn, 1) := by decide +kernel
theorem dX5_count_0 : decode cX5_count 0 = .ok (.iload_n 1, 1) := by decide +kernel
theorem dX5_count_1 : decode cX5_count 1 = .ok (.tableswitch 54 0 3 #[31, 38, 43, 48], 31) := by decide +kernel
theorem dX5_count_32 : decode cX5_count 32 = .ok (.aload_n 0, 1) := by decide +kernel
theorem dX5_count_33 : decode cX5_count 33 = .ok (.getfield 7, 3) := by decide +kernel
theorem dX5_count_36 : decode cX5_count 36 = .ok (.iconst 2, 1) := by decide +kernel
theorem dX5_count_37 : decode cX5_count 37 = .ok (.iaload, 1) := by decide +kernel
theorem dX5_count_38 : decode cX5_count 38 = .ok (.ireturn, 1) := by decide +kernel
theorem dX5_count_39 : decode cX5_count 39 = .ok (.aload_n 0, 1) := by decide +kernel
theorem dX5_count_40 : decode cX5_count 40 = .ok (.getfield 170, 3) := by decide +kernel
theorem dX5_count_43 : decode cX5_count 43 = .ok (.ireturn, 1) := by decide +kernel
theorem dX5_count_44 : decode cX5_count 44 = .ok (.aload_n 0, 1) := by decide +kernel
theorem dX5_count_45 : decode cX5_count 45 = .ok (.invokevirtual 60, 3) := by decide +kernel
theorem dX5_count_48 : decode cX5_count 48 = .ok (.ireturn, 1) := by decide +kernel
theorem dX5_count_49 : decode cX5_count 49 = .ok (.aload_n 0, 1) := by decide +kernel
theorem dX5_count_50 : decode cX5_count 50 = .ok (.iconst 5, 1) := by decide +kernel
theorem dX5_count_51 : decode cX5_count 51 = .ok (.invokevirtual 93, 3) := by decide +kernel
theorem dX5_count_54 : decode cX5_count 54 = .ok (.ireturn, 1) := by decide +kernel
theorem dX5_count_55 : decode cX5_count 55 = .ok (.aload_n 0, 1) := by decide +kernel
theorem dX5_count_56 : decode cX5_count 56 = .ok (.ldc 44, 2) := by decide +kernel
theorem dX5_count_58 : decode cX5_count 58 = .ok (.invokevirtual 81, 3) := by decide +kernel
theorem dX5_count_61 : decode cX5_count 61 = .ok (.ireturn, 1) := by decide +kernel
theorem dX5_status_0 : decode cX5_status 0 = .ok (.iload_n 1, 1) := by decide +kernel
theorem dX5_status_1 : decode cX5_status 1 = .ok (.iconst (-1), 1) := by decide +kernel
theorem dX5_status_2 : decode cX5_status 2 = .ok (.bipush 6, 2) := by decide +kernel
theorem dX5_status_4 : decode cX5_status 4 = .ok (.invokestatic 45, 3) := by decide +kernel
theorem dX5_status_7 : decode cX5_status 7 = .ok (.ifCond .ne 10, 3) := by decide +kernel
theorem dX5_status_10 : decode cX5_status 10 = .ok (.aload_n 0, 1) := by decide +kernel
theorem dX5_status_11 : decode cX5_status 11 = .ok (.ldc 44, 2) := by decide +kernel
theorem dX5_status_13 : decode cX5_status 13 = .ok (.invokevirtual 81, 3) := by decide +kernel
theorem dX5_status_16 : decode cX5_status 16 = .ok (.ireturn, 1) := by decide +kernel
theorem dX5_status_17 : decode cX5_status 17 = .ok (.iconst 0, 1) := by decide +kernel
theorem dX5_status_18 : decode cX5_status 18 = .ok (.istore_n 2, 1) := by decide +kernel
theorem dX5_status_19 : decode cX5_status 19 = .ok (.iconst 0, 1) := by decide +kernel
theorem dX5_status_20 : decode cX5_status 20 = .ok (.istore_n 3, 1) := by decide +kernel
theorem dX5_status_21 : decode cX5_status 21 = .ok (.iload_n 3, 1) := by decide +kernel
theorem dX5_status_22 : decode cX5_status 22 = .ok (.bipush 7, 2) := by decide +kernel
theorem dX5_status_24 : decode cX5_status 24 = .ok (.if_icmp .ge 18, 3) := by decide +kernel
theorem dX5_status_27 : decode cX5_status 27 = .ok (.iload_n 2, 1) := by decide +kernel
theorem dX5_status_28 : decode cX5_status 28 = .ok (.aload_n 0, 1) := by decide +kernel
theorem dX5_status_29 : decode cX5_status 29 = .ok (.getfield 13, 3) := by decide +kernel
theorem dX5_status_32 : decode cX5_status 32 = .ok (.iload_n 3, 1) := by decide +kernel
theorem dX5_status_33 : decode cX5_status 33 = .ok (.iaload, 1) := by decide +kernel
theorem dX5_status_34 : decode cX5_status 34 = .ok (.iadd, 1) := by decide +kernel
theorem dX5_status_35 : decode cX5_status 35 = .ok (.istore_n 2, 1) := by decide +kernel
theorem dX5_status_36 : decode cX5_status 36 = .ok (.iinc 3 1, 3) := by decide +kernel
theorem dX5_status_39 : decode cX5_status 39 = .ok (.goto (-18), 3) := by decide +kernel
theorem dX5_status_42 : decode cX5_status 42 = .ok (.iload_n 1, 1) := by decide +kernel
theorem dX5_status_43 : decode cX5_status 43 = .ok (.ifCond .ge 7, 3) := by decide +kernel
theorem dX5_status_46 : decode cX5_status 46 = .ok (.iload_n 2, 1) := by decide +kernel
theorem dX5_status_47 : decode cX5_status 47 = .ok (.goto 17, 3) := by decide +kernel
theorem dX5_status_50 : decode cX5_status 50 = .ok (.aload_n 0, 1) := by decide +kernel
theorem dX5_status_51 : decode cX5_status 51 = .ok (.getfield 13, 3) := by decide +kernel
theorem dX5_status_54 : decode cX5_status 54 = .ok (.iload_n 1, 1) := by decide +kernel
theorem dX5_status_55 : decode cX5_status 55 = .ok (.ifCond .ge 7, 3) := by decide +kernel
theorem dX5_status_58 : decode cX5_status 58 = .ok (.iconst 0, 1) := by decide +kernel
theorem dX5_status_59 : decode cX5_status 59 = .ok (.goto 4, 3) := by decide +kernel
theorem dX5_status_62 : decode cX5_status 62 = .ok (.iload_n 1, 1) := by decide +kernel
theorem dX5_status_63 : decode cX5_status 63 = .ok (.iaload, 1) := by decide +kernel
theorem dX5_status_64 : decode cX5_status 64 = .ok (.ireturn, 1) := by decide +kernel
theorem dJ9_abs_0f7a4_0 : decode cJ9_abs_0f7a4 0 = .ok (.iload_n 0, 1) := by decide +kernel
theorem dJ9_abs_0f7a4_1 : decode cJ9_abs_0f7a4 1 = .ok (.ifCond .ge 8, 3) := by decide +kernel
theorem dJ9_abs_0f7a4_4 : decode cJ9_abs_0f7a4 4 = .ok (.iload_n 0, 1) := by decide +kernel
theorem dJ9_abs_0f7a4_5 : decode cJ9_abs_0f7a4 5 = .ok (.ineg, 1) := by decide +kernel
theorem dJ9_abs_0f7a4_6 : decode cJ9_abs_0f7a4 6 = .ok (.goto 4, 3) := by decide +kernel
theorem dJ9_abs_0f7a4_9 : decode cJ9_abs_0f7a4 9 = .ok (.iload_n 0, 1) := by decide +kernel
theorem dJ9_abs_0f7a4_10 : decode cJ9_abs_0f7a4 10 = .ok (.ireturn, 1) := by decide +kernel
theorem dJ9_max_7cf53_0 : decode cJ9_max_7cf53 0 = .ok (.iload_n 0, 1) := by decide +kernel
theorem dJ9_max_7cf53_1 : decode cJ9_max_7cf53 1 = .ok (.iload_n 1, 1) := by decide +kernel
theorem dJ9_max_7cf53_2 : decode cJ9_max_7cf53 2 = .ok (.if_icmp .lt 7, 3) := by decide +kernel
theorem dJ9_max_7cf53_5 : decode cJ9_max_7cf53 5 = .ok (.iload_n 0, 1) := by decide +kernel
theorem dJ9_max_7cf53_6 : decode cJ9_max_7cf53 6 = .ok (.goto 4, 3) := by decide +kernel
theorem dJ9_max_7cf53_9 : decode cJ9_max_7cf53 9 = .ok (.iload_n 1, 1) := by decide +kernel
theorem dJ9_max_7cf53_10 : decode cJ9_max_7cf53 10 = .ok (.ireturn, 1) := by decide +kernel
theorem dJ9_min_7cf53_0 : decode cJ9_min_7cf53 0 = .ok (.iload_n 0, 1) := by decide +kernel
theorem dJ9_min_7cf53_1 : decode cJ9_min_7cf53 1 = .ok (.iload_n 1, 1) := by decide +kernel
theorem dJ9_min_7cf53_2 : decode cJ9_min_7cf53 2 = .ok (.if_icmp .gt 7, 3) := by decide +kernel
theorem dJ9_min_7cf53_5 : decode cJ9_min_7cf53 5 = .ok (.iload_n 0, 1) := by decide +kernel
theorem dJ9_min_7cf53_6 : decode cJ9_min_7cf53 6 = .ok (.goto 4, 3) := by decide +kernel
theorem dJ9_min_7cf53_9 : decode cJ9_min_7cf53 9 = .ok (.iload_n 1, 1) := by decide +kernel
theorem dJ9_min_7cf53_10 : decode cJ9_min_7cf53 10 = .ok (.ireturn, 1) := by decide +kernel
theorem dJ0_length_8abf5_0 : decode cJ0_length_8abf5 0 = .ok (.aload_n 0, 1) := by decide +kernel
theorem dJ0_length_8abf5_1 : decode cJ0_length_8abf5 1 = .ok (.getfield 9, 3) := by decide +kernel
theorem dJ0_length_8abf5_4 : decode cJ0_length_8abf5 4 = .ok (.arraylength, 1) := by decide +kernel
theorem dJ0_length_8abf5_5 : decode cJ0_length_8abf5 5 = .ok (.aload_n 0, 1) := by decide +kernel
theorem dJ0_length_8abf5_6 : decode cJ0_length_8abf5 6 = .ok (.invokevirtual 335, 3) := by decide +kernel
theorem dJ0_length_8abf5_9 : decode cJ0_length_8abf5 9 = .ok (.ishr, 1) := by decide +kernel
theorem dJ0_length_8abf5_10 : decode cJ0_length_8abf5 10 = .ok (.ireturn, 1) := by decide +kernel
theorem dJ0_charAt_5068e_0 : decode cJ0_charAt_5068e 0 = .ok (.aload_n 0, 1) := by decide +kernel
theorem dJ0_charAt_5068e_1 : decode cJ0_charAt_5068e 1 = .ok (.invokevirtual 492, 3) := by decide +kernel
theorem dJ0_charAt_5068e_4 : decode cJ0_charAt_5068e 4 = .ok (.ifCond .eq 12, 3) := by decide +kernel
theorem dJ0_charAt_5068e_7 : decode cJ0_charAt_5068e 7 = .ok (.aload_n 0, 1) := by decide +kernel
theorem dJ0_charAt_5068e_8 : decode cJ0_charAt_5068e 8 = .ok (.getfield 9, 3) := by decide +kernel
theorem dJ0_charAt_5068e_11 : decode cJ0_charAt_5068e 11 = .ok (.iload_n 1, 1) := by decide +kernel
theorem dJ0_charAt_5068e_12 : decode cJ0_charAt_5068e 12 = .ok (.invokestatic 495, 3) := by decide +kernel
theorem dJ0_charAt_5068e_15 : decode cJ0_charAt_5068e 15 = .ok (.ireturn, 1) := by decide +kernel
theorem dJ0_charAt_5068e_16 : decode cJ0_charAt_5068e 16 = .ok (.aload_n 0, 1) := by decide +kernel
theorem dJ0_charAt_5068e_17 : decode cJ0_charAt_5068e 17 = .ok (.getfield 9, 3) := by decide +kernel
theorem dJ0_charAt_5068e_20 : decode cJ0_charAt_5068e 20 = .ok (.iload_n 1, 1) := by decide +kernel
theorem dJ0_charAt_5068e_21 : decode cJ0_charAt_5068e 21 = .ok (.invokestatic 498, 3) := by decide +kernel
theorem dJ0_charAt_5068e_24 : decode cJ0_charAt_5068e 24 = .ok (.ireturn, 1) := by decide +kernel
theorem dJ0_coder_7d493_0 : decode cJ0_coder_7d493 0 = .ok (.getstatic 38, 3) := by decide +kernel
theorem dJ0_coder_7d493_3 : decode cJ0_coder_7d493 3 = .ok (.ifCond .eq 10, 3) := by decide +kernel
theorem dJ0_coder_7d493_6 : decode cJ0_coder_7d493 6 = .ok (.aload_n 0, 1) := by decide +kernel
theorem dJ0_coder_7d493_7 : decode cJ0_coder_7d493 7 = .ok (.getfield 15, 3) := by decide +kernel
theorem dJ0_coder_7d493_10 : decode cJ0_coder_7d493 10 = .ok (.goto 4, 3) := by decide +kernel
theorem dJ0_coder_7d493_13 : decode cJ0_coder_7d493 13 = .ok (.iconst 1, 1) := by decide +kernel
theorem dJ0_coder_7d493_14 : decode cJ0_coder_7d493 14 = .ok (.ireturn, 1) := by decide +kernel
theorem dJ0_isLatin1_aae02_0 : decode cJ0_isLatin1_aae02 0 = .ok (.getstatic 38, 3) := by decide +kernel
theorem dJ0_isLatin1_aae02_3 : decode cJ0_isLatin1_aae02 3 = .ok (.ifCond .eq 14, 3) := by decide +kernel
theorem dJ0_isLatin1_aae02_6 : decode cJ0_isLatin1_aae02 6 = .ok (.aload_n 0, 1) := by decide +kernel
theorem dJ0_isLatin1_aae02_7 : decode cJ0_isLatin1_aae02 7 = .ok (.getfield 15, 3) := by decide +kernel
theorem dJ0_isLatin1_aae02_10 : decode cJ0_isLatin1_aae02 10 = .ok (.ifCond .ne 7, 3) := by decide +kernel
theorem dJ0_isLatin1_aae02_13 : decode cJ0_isLatin1_aae02 13 = .ok (.iconst 1, 1) := by decide +kernel
theorem dJ0_isLatin1_aae02_14 : decode cJ0_isLatin1_aae02 14 = .ok (.goto 4, 3) := by decide +kernel
theorem dJ0_isLatin1_aae02_17 : decode cJ0_isLatin1_aae02 17 = .ok (.iconst 0, 1) := by decide +kernel
theorem dJ0_isLatin1_aae02_18 : decode cJ0_isLatin1_aae02 18 = .ok (.ireturn, 1) := by decide +kernel
theorem dJ0_checkIndex_df160_0 : decode cJ0_checkIndex_df160 0 = .ok (.iload_n 0, 1) := by decide +kernel
theorem dJ0_checkIndex_df160_1 : decode cJ0_checkIndex_df160 1 = .ok (.iload_n 1, 1) := by decide +kernel
theorem dJ0_checkIndex_df160_2 : decode cJ0_checkIndex_df160 2 = .ok (.getstatic 1053, 3) := by decide +kernel
theorem dJ0_checkIndex_df160_5 : decode cJ0_checkIndex_df160 5 = .ok (.invokestatic 1059, 3) := by decide +kernel
theorem dJ0_checkIndex_df160_8 : decode cJ0_checkIndex_df160 8 = .ok (.pop, 1) := by decide +kernel
theorem dJ0_checkIndex_df160_9 : decode cJ0_checkIndex_df160 9 = .ok (.return_, 1) := by decide +kernel
theorem dJ1_charAt_3b067_0 : decode cJ1_charAt_3b067 0 = .ok (.iload_n 1, 1) := by decide +kernel
theorem dJ1_charAt_3b067_1 : decode cJ1_charAt_3b067 1 = .ok (.aload_n 0, 1) := by decide +kernel
theorem dJ1_charAt_3b067_2 : decode cJ1_charAt_3b067 2 = .ok (.arraylength, 1) := by decide +kernel
theorem dJ1_charAt_3b067_3 : decode cJ1_charAt_3b067 3 = .ok (.invokestatic 9, 3) := by decide +kernel
theorem dJ1_charAt_3b067_6 : decode cJ1_charAt_3b067 6 = .ok (.aload_n 0, 1) := by decide +kernel
theorem dJ1_charAt_3b067_7 : decode cJ1_charAt_3b067 7 = .ok (.iload_n 1, 1) := by decide +kernel
theorem dJ1_charAt_3b067_8 : decode cJ1_charAt_3b067 8 = .ok (.baload, 1) := by decide +kernel
theorem dJ1_charAt_3b067_9 : decode cJ1_charAt_3b067 9 = .ok (.sipush 255, 3) := by decide +kernel
theorem dJ1_charAt_3b067_12 : decode cJ1_charAt_3b067 12 = .ok (.iand, 1) := by decide +kernel
theorem dJ1_charAt_3b067_13 : decode cJ1_charAt_3b067 13 = .ok (.i2c, 1) := by decide +kernel
theorem dJ1_charAt_3b067_14 : decode cJ1_charAt_3b067 14 = .ok (.ireturn, 1) := by decide +kernel
theorem dJ2_getChar_3b067_0 : decode cJ2_getChar_3b067 0 = .ok (.getstatic 44, 3) := by decide +kernel
theorem dJ2_getChar_3b067_3 : decode cJ2_getChar_3b067 3 = .ok (.ifCond .ne 25, 3) := by decide +kernel
theorem dJ2_getChar_3b067_6 : decode cJ2_getChar_3b067 6 = .ok (.iload_n 1, 1) := by decide +kernel
theorem dJ2_getChar_3b067_7 : decode cJ2_getChar_3b067 7 = .ok (.ifCond .lt 11, 3) := by decide +kernel
theorem dJ2_getChar_3b067_10 : decode cJ2_getChar_3b067 10 = .ok (.iload_n 1, 1) := by decide +kernel
theorem dJ2_getChar_3b067_11 : decode cJ2_getChar_3b067 11 = .ok (.aload_n 0, 1) := by decide +kernel
theorem dJ2_getChar_3b067_12 : decode cJ2_getChar_3b067 12 = .ok (.invokestatic 48, 3) := by decide +kernel
theorem dJ2_getChar_3b067_15 : decode cJ2_getChar_3b067 15 = .ok (.if_icmp .lt 13, 3) := by decide +kernel
theorem dJ2_getChar_3b067_18 : decode cJ2_getChar_3b067 18 = .ok (.new 52, 3) := by decide +kernel
theorem dJ2_getChar_3b067_21 : decode cJ2_getChar_3b067 21 = .ok (.dup, 1) := by decide +kernel
theorem dJ2_getChar_3b067_22 : decode cJ2_getChar_3b067 22 = .ok (.ldc 54, 2) := by decide +kernel
theorem dJ2_getChar_3b067_24 : decode cJ2_getChar_3b067 24 = .ok (.invokespecial 56, 3) := by decide +kernel
theorem dJ2_getChar_3b067_27 : decode cJ2_getChar_3b067 27 = .ok (.athrow, 1) := by decide +kernel
theorem dJ2_getChar_3b067_28 : decode cJ2_getChar_3b067 28 = .ok (.iload_n 1, 1) := by decide +kernel
theorem dJ2_getChar_3b067_29 : decode cJ2_getChar_3b067 29 = .ok (.iconst 1, 1) := by decide +kernel
theorem dJ2_getChar_3b067_30 : decode cJ2_getChar_3b067 30 = .ok (.ishl, 1) := by decide +kernel
theorem dJ2_getChar_3b067_31 : decode cJ2_getChar_3b067 31 = .ok (.istore_n 1, 1) := by decide +kernel
theorem dJ2_getChar_3b067_32 : decode cJ2_getChar_3b067 32 = .ok (.aload_n 0, 1) := by decide +kernel
theorem dJ2_getChar_3b067_33 : decode cJ2_getChar_3b067 33 = .ok (.iload_n 1, 1) := by decide +kernel
theorem dJ2_getChar_3b067_34 : decode cJ2_getChar_3b067 34 = .ok (.iinc 1 1, 3) := by decide +kernel
theorem dJ2_getChar_3b067_37 : decode cJ2_getChar_3b067 37 = .ok (.baload, 1) := by decide +kernel
theorem dJ2_getChar_3b067_38 : decode cJ2_getChar_3b067 38 = .ok (.sipush 255, 3) := by decide +kernel
theorem dJ2_getChar_3b067_41 : decode cJ2_getChar_3b067 41 = .ok (.iand, 1) := by decide +kernel
theorem dJ2_getChar_3b067_42 : decode cJ2_getChar_3b067 42 = .ok (.getstatic 59, 3) := by decide +kernel
theorem dJ2_getChar_3b067_45 : decode cJ2_getChar_3b067 45 = .ok (.ishl, 1) := by decide +kernel
theorem dJ2_getChar_3b067_46 : decode cJ2_getChar_3b067 46 = .ok (.aload_n 0, 1) := by decide +kernel
theorem dJ2_getChar_3b067_47 : decode cJ2_getChar_3b067 47 = .ok (.iload_n 1, 1) := by decide +kernel
theorem dJ2_getChar_3b067_48 : decode cJ2_getChar_3b067 48 = .ok (.baload, 1) := by decide +kernel
theorem dJ2_getChar_3b067_49 : decode cJ2_getChar_3b067 49 = .ok (.sipush 255, 3) := by decide +kernel
theorem dJ2_getChar_3b067_52 : decode cJ2_getChar_3b067 52 = .ok (.iand, 1) := by decide +kernel
theorem dJ2_getChar_3b067_53 : decode cJ2_getChar_3b067 53 = .ok (.getstatic 63, 3) := by decide +kernel
theorem dJ2_getChar_3b067_56 : decode cJ2_getChar_3b067 56 = .ok (.ishl, 1) := by decide +kernel
theorem dJ2_getChar_3b067_57 : decode cJ2_getChar_3b067 57 = .ok (.ior, 1) := by decide +kernel
theorem dJ2_getChar_3b067_58 : decode cJ2_getChar_3b067 58 = .ok (.i2c, 1) := by decide +kernel
theorem dJ2_getChar_3b067_59 : decode cJ2_getChar_3b067 59 = .ok (.ireturn, 1) := by decide +kernel
theorem dJ2_length_9d52b_0 : decode cJ2_length_9d52b 0 = .ok (.aload_n 0, 1) := by decide +kernel
theorem dJ2_length_9d52b_1 : decode cJ2_length_9d52b 1 = .ok (.arraylength, 1) := by decide +kernel
theorem dJ2_length_9d52b_2 : decode cJ2_length_9d52b 2 = .ok (.iconst 1, 1) := by decide +kernel
theorem dJ2_length_9d52b_3 : decode cJ2_length_9d52b 3 = .ok (.ishr, 1) := by decide +kernel
theorem dJ2_length_9d52b_4 : decode cJ2_length_9d52b 4 = .ok (.ireturn, 1) := by decide +kernel
theorem dJ2_charAt_3b067_0 : decode cJ2_charAt_3b067 0 = .ok (.iload_n 1, 1) := by decide +kernel
theorem dJ2_charAt_3b067_1 : decode cJ2_charAt_3b067 1 = .ok (.aload_n 0, 1) := by decide +kernel
theorem dJ2_charAt_3b067_2 : decode cJ2_charAt_3b067 2 = .ok (.invokestatic 67, 3) := by decide +kernel
theorem dJ2_charAt_3b067_5 : decode cJ2_charAt_3b067 5 = .ok (.aload_n 0, 1) := by decide +kernel
theorem dJ2_charAt_3b067_6 : decode cJ2_charAt_3b067 6 = .ok (.iload_n 1, 1) := by decide +kernel
theorem dJ2_charAt_3b067_7 : decode cJ2_charAt_3b067 7 = .ok (.invokestatic 71, 3) := by decide +kernel
theorem dJ2_charAt_3b067_10 : decode cJ2_charAt_3b067 10 = .ok (.ireturn, 1) := by decide +kernel
theorem dJ2_checkIndex_2214a_0 : decode cJ2_checkIndex_2214a 0 = .ok (.iload_n 0, 1) := by decide +kernel
theorem dJ2_checkIndex_2214a_1 : decode cJ2_checkIndex_2214a 1 = .ok (.aload_n 1, 1) := by decide +kernel
theorem dJ2_checkIndex_2214a_2 : decode cJ2_checkIndex_2214a 2 = .ok (.invokestatic 48, 3) := by decide +kernel
theorem dJ2_checkIndex_2214a_5 : decode cJ2_checkIndex_2214a 5 = .ok (.invokestatic 414, 3) := by decide +kernel
theorem dJ2_checkIndex_2214a_8 : decode cJ2_checkIndex_2214a 8 = .ok (.return_, 1) := by decide +kernel
theorem dJ3_checkIndex_8e157_0 : decode cJ3_checkIndex_8e157 0 = .ok (.iload_n 0, 1) := by decide +kernel
end
section
theorem dJ3_checkIndex_8e157_1 : decode cJ3_checkIndex_8e157 1 = .ok (.ifCond .lt 8, 3) := by decide +kernel
theorem dJ3_checkIndex_8e157_4 : decode cJ3_checkIndex_8e157 4 = .ok (.iload_n 0, 1) := by decide +kernel
theorem dJ3_checkIndex_8e157_5 : decode cJ3_checkIndex_8e157 5 = .ok (.iload_n 1, 1) := by decide +kernel
theorem dJ3_checkIndex_8e157_6 : decode cJ3_checkIndex_8e157 6 = .ok (.if_icmp .lt 10, 3) := by decide +kernel
theorem dJ3_checkIndex_8e157_9 : decode cJ3_checkIndex_8e157 9 = .ok (.aload_n 2, 1) := by decide +kernel
theorem dJ3_checkIndex_8e157_10 : decode cJ3_checkIndex_8e157 10 = .ok (.iload_n 0, 1) := by decide +kernel
theorem dJ3_checkIndex_8e157_11 : decode cJ3_checkIndex_8e157 11 = .ok (.iload_n 1, 1) := by decide +kernel
theorem dJ3_checkIndex_8e157_12 : decode cJ3_checkIndex_8e157 12 = .ok (.invokestatic 95, 3) := by decide +kernel
theorem dJ3_checkIndex_8e157_15 : decode cJ3_checkIndex_8e157 15 = .ok (.athrow, 1) := by decide +kernel
theorem dJ3_checkIndex_8e157_16 : decode cJ3_checkIndex_8e157 16 = .ok (.iload_n 0, 1) := by decide +kernel
theorem dJ3_checkIndex_8e157_17 : decode cJ3_checkIndex_8e157 17 = .ok (.ireturn, 1) := by decide +kernel
theorem dL_law_0 : decode cL_law 0 = .ok (.new 7, 3) := by decide +kernel
theorem dL_law_3 : decode cL_law 3 = .ok (.dup, 1) := by decide +kernel
theorem dL_law_4 : decode cL_law 4 = .ok (.invokespecial 9, 3) := by decide +kernel
theorem dL_law_7 : decode cL_law 7 = .ok (.astore_n 1, 1) := by decide +kernel
theorem dL_law_8 : decode cL_law 8 = .ok (.new 10, 3) := by decide +kernel
theorem dL_law_11 : decode cL_law 11 = .ok (.dup, 1) := by decide +kernel
theorem dL_law_12 : decode cL_law 12 = .ok (.invokespecial 12, 3) := by decide +kernel
theorem dL_law_15 : decode cL_law 15 = .ok (.astore_n 2, 1) := by decide +kernel
theorem dL_law_16 : decode cL_law 16 = .ok (.iconst 0, 1) := by decide +kernel
theorem dL_law_17 : decode cL_law 17 = .ok (.istore_n 3, 1) := by decide +kernel
theorem dL_law_18 : decode cL_law 18 = .ok (.iload_n 3, 1) := by decide +kernel
theorem dL_law_19 : decode cL_law 19 = .ok (.aload_n 0, 1) := by decide +kernel
theorem dL_law_20 : decode cL_law 20 = .ok (.arraylength, 1) := by decide +kernel
theorem dL_law_21 : decode cL_law 21 = .ok (.bipush 6, 2) := by decide +kernel
theorem dL_law_23 : decode cL_law 23 = .ok (.isub, 1) := by decide +kernel
theorem dL_law_24 : decode cL_law 24 = .ok (.if_icmp .gt 1273, 3) := by decide +kernel
theorem dL_law_27 : decode cL_law 27 = .ok (.aload_n 0, 1) := by decide +kernel
theorem dL_law_28 : decode cL_law 28 = .ok (.iload_n 3, 1) := by decide +kernel
theorem dL_law_29 : decode cL_law 29 = .ok (.iaload, 1) := by decide +kernel
theorem dL_law_30 : decode cL_law 30 = .ok (.bipush 63, 2) := by decide +kernel
theorem dL_law_32 : decode cL_law 32 = .ok (.iand, 1) := by decide +kernel
theorem dL_law_33 : decode cL_law 33 = .ok (.tableswitch 1258 0 35 #[159, 202, 235, 258, 281, 314, 347, 390, 423, 456, 479, 522, 565, 598, 621, 634, 657, 690, 723, 756, 799, 822, 845, 878, 891, 904, 947, 1021, 1084, 1107, 1140, 1173, 1186, 1199, 1212, 1235], 159) := by decide +kernel
theorem dL_law_192 : decode cL_law 192 = .ok (.aload_n 1, 1) := by decide +kernel
theorem dL_law_193 : decode cL_law 193 = .ok (.aload_n 0, 1) := by decide +kernel
theorem dL_law_194 : decode cL_law 194 = .ok (.iload_n 3, 1) := by decide +kernel
theorem dL_law_195 : decode cL_law 195 = .ok (.iconst 1, 1) := by decide +kernel
theorem dL_law_196 : decode cL_law 196 = .ok (.iadd, 1) := by decide +kernel
theorem dL_law_197 : decode cL_law 197 = .ok (.iaload, 1) := by decide +kernel
theorem dL_law_198 : decode cL_law 198 = .ok (.aload_n 0, 1) := by decide +kernel
theorem dL_law_199 : decode cL_law 199 = .ok (.iload_n 3, 1) := by decide +kernel
theorem dL_law_200 : decode cL_law 200 = .ok (.iconst 2, 1) := by decide +kernel
theorem dL_law_201 : decode cL_law 201 = .ok (.iadd, 1) := by decide +kernel
theorem dL_law_202 : decode cL_law 202 = .ok (.iaload, 1) := by decide +kernel
theorem dL_law_203 : decode cL_law 203 = .ok (.aload_n 0, 1) := by decide +kernel
theorem dL_law_204 : decode cL_law 204 = .ok (.iload_n 3, 1) := by decide +kernel
theorem dL_law_205 : decode cL_law 205 = .ok (.iconst 3, 1) := by decide +kernel
theorem dL_law_206 : decode cL_law 206 = .ok (.iadd, 1) := by decide +kernel
theorem dL_law_207 : decode cL_law 207 = .ok (.iaload, 1) := by decide +kernel
theorem dL_law_208 : decode cL_law 208 = .ok (.invokevirtual 13, 3) := by decide +kernel
theorem dL_law_211 : decode cL_law 211 = .ok (.aload_n 2, 1) := by decide +kernel
theorem dL_law_212 : decode cL_law 212 = .ok (.aload_n 0, 1) := by decide +kernel
theorem dL_law_213 : decode cL_law 213 = .ok (.iload_n 3, 1) := by decide +kernel
theorem dL_law_214 : decode cL_law 214 = .ok (.iconst 1, 1) := by decide +kernel
theorem dL_law_215 : decode cL_law 215 = .ok (.iadd, 1) := by decide +kernel
theorem dL_law_216 : decode cL_law 216 = .ok (.iaload, 1) := by decide +kernel
theorem dL_law_217 : decode cL_law 217 = .ok (.aload_n 0, 1) := by decide +kernel
theorem dL_law_218 : decode cL_law 218 = .ok (.iload_n 3, 1) := by decide +kernel
theorem dL_law_219 : decode cL_law 219 = .ok (.iconst 2, 1) := by decide +kernel
theorem dL_law_220 : decode cL_law 220 = .ok (.iadd, 1) := by decide +kernel
theorem dL_law_221 : decode cL_law 221 = .ok (.iaload, 1) := by decide +kernel
theorem dL_law_222 : decode cL_law 222 = .ok (.aload_n 0, 1) := by decide +kernel
theorem dL_law_223 : decode cL_law 223 = .ok (.iload_n 3, 1) := by decide +kernel
theorem dL_law_224 : decode cL_law 224 = .ok (.iconst 3, 1) := by decide +kernel
theorem dL_law_225 : decode cL_law 225 = .ok (.iadd, 1) := by decide +kernel
theorem dL_law_226 : decode cL_law 226 = .ok (.iaload, 1) := by decide +kernel
theorem dL_law_227 : decode cL_law 227 = .ok (.invokevirtual 17, 3) := by decide +kernel
theorem dL_law_230 : decode cL_law 230 = .ok (.if_icmp .eq 1061, 3) := by decide +kernel
theorem dL_law_233 : decode cL_law 233 = .ok (.iconst 0, 1) := by decide +kernel
theorem dL_law_234 : decode cL_law 234 = .ok (.ireturn, 1) := by decide +kernel
theorem dL_law_235 : decode cL_law 235 = .ok (.aload_n 1, 1) := by decide +kernel
theorem dL_law_236 : decode cL_law 236 = .ok (.aload_n 0, 1) := by decide +kernel
theorem dL_law_237 : decode cL_law 237 = .ok (.iload_n 3, 1) := by decide +kernel
theorem dL_law_238 : decode cL_law 238 = .ok (.iconst 1, 1) := by decide +kernel
theorem dL_law_239 : decode cL_law 239 = .ok (.iadd, 1) := by decide +kernel
theorem dL_law_240 : decode cL_law 240 = .ok (.iaload, 1) := by decide +kernel
theorem dL_law_241 : decode cL_law 241 = .ok (.aload_n 0, 1) := by decide +kernel
theorem dL_law_242 : decode cL_law 242 = .ok (.iload_n 3, 1) := by decide +kernel
theorem dL_law_243 : decode cL_law 243 = .ok (.iconst 2, 1) := by decide +kernel
theorem dL_law_244 : decode cL_law 244 = .ok (.iadd, 1) := by decide +kernel
theorem dL_law_245 : decode cL_law 245 = .ok (.iaload, 1) := by decide +kernel
theorem dL_law_246 : decode cL_law 246 = .ok (.invokevirtual 18, 3) := by decide +kernel
theorem dL_law_249 : decode cL_law 249 = .ok (.aload_n 2, 1) := by decide +kernel
theorem dL_law_250 : decode cL_law 250 = .ok (.aload_n 0, 1) := by decide +kernel
theorem dL_law_251 : decode cL_law 251 = .ok (.iload_n 3, 1) := by decide +kernel
theorem dL_law_252 : decode cL_law 252 = .ok (.iconst 1, 1) := by decide +kernel
theorem dL_law_253 : decode cL_law 253 = .ok (.iadd, 1) := by decide +kernel
theorem dL_law_254 : decode cL_law 254 = .ok (.iaload, 1) := by decide +kernel
theorem dL_law_255 : decode cL_law 255 = .ok (.aload_n 0, 1) := by decide +kernel
theorem dL_law_256 : decode cL_law 256 = .ok (.iload_n 3, 1) := by decide +kernel
theorem dL_law_257 : decode cL_law 257 = .ok (.iconst 2, 1) := by decide +kernel
theorem dL_law_258 : decode cL_law 258 = .ok (.iadd, 1) := by decide +kernel
theorem dL_law_259 : decode cL_law 259 = .ok (.iaload, 1) := by decide +kernel
theorem dL_law_260 : decode cL_law 260 = .ok (.invokevirtual 22, 3) := by decide +kernel
theorem dL_law_263 : decode cL_law 263 = .ok (.if_icmp .eq 1028, 3) := by decide +kernel
theorem dL_law_266 : decode cL_law 266 = .ok (.iconst 0, 1) := by decide +kernel
theorem dL_law_267 : decode cL_law 267 = .ok (.ireturn, 1) := by decide +kernel
theorem dL_law_268 : decode cL_law 268 = .ok (.aload_n 1, 1) := by decide +kernel
theorem dL_law_269 : decode cL_law 269 = .ok (.aload_n 0, 1) := by decide +kernel
theorem dL_law_270 : decode cL_law 270 = .ok (.iload_n 3, 1) := by decide +kernel
theorem dL_law_271 : decode cL_law 271 = .ok (.iconst 1, 1) := by decide +kernel
theorem dL_law_272 : decode cL_law 272 = .ok (.iadd, 1) := by decide +kernel
theorem dL_law_273 : decode cL_law 273 = .ok (.iaload, 1) := by decide +kernel
theorem dL_law_274 : decode cL_law 274 = .ok (.invokevirtual 23, 3) := by decide +kernel
theorem dL_law_277 : decode cL_law 277 = .ok (.aload_n 2, 1) := by decide +kernel
theorem dL_law_278 : decode cL_law 278 = .ok (.aload_n 0, 1) := by decide +kernel
theorem dL_law_279 : decode cL_law 279 = .ok (.iload_n 3, 1) := by decide +kernel
theorem dL_law_280 : decode cL_law 280 = .ok (.iconst 1, 1) := by decide +kernel
theorem dL_law_281 : decode cL_law 281 = .ok (.iadd, 1) := by decide +kernel
theorem dL_law_282 : decode cL_law 282 = .ok (.iaload, 1) := by decide +kernel
theorem dL_law_283 : decode cL_law 283 = .ok (.invokevirtual 27, 3) := by decide +kernel
theorem dL_law_286 : decode cL_law 286 = .ok (.if_icmp .eq 1005, 3) := by decide +kernel
theorem dL_law_289 : decode cL_law 289 = .ok (.iconst 0, 1) := by decide +kernel
theorem dL_law_290 : decode cL_law 290 = .ok (.ireturn, 1) := by decide +kernel
theorem dL_law_291 : decode cL_law 291 = .ok (.aload_n 1, 1) := by decide +kernel
theorem dL_law_292 : decode cL_law 292 = .ok (.aload_n 0, 1) := by decide +kernel
theorem dL_law_293 : decode cL_law 293 = .ok (.iload_n 3, 1) := by decide +kernel
theorem dL_law_294 : decode cL_law 294 = .ok (.iconst 1, 1) := by decide +kernel
theorem dL_law_295 : decode cL_law 295 = .ok (.iadd, 1) := by decide +kernel
theorem dL_law_296 : decode cL_law 296 = .ok (.iaload, 1) := by decide +kernel
theorem dL_law_297 : decode cL_law 297 = .ok (.invokevirtual 28, 3) := by decide +kernel
theorem dL_law_300 : decode cL_law 300 = .ok (.aload_n 2, 1) := by decide +kernel
theorem dL_law_301 : decode cL_law 301 = .ok (.aload_n 0, 1) := by decide +kernel
theorem dL_law_302 : decode cL_law 302 = .ok (.iload_n 3, 1) := by decide +kernel
theorem dL_law_303 : decode cL_law 303 = .ok (.iconst 1, 1) := by decide +kernel
theorem dL_law_304 : decode cL_law 304 = .ok (.iadd, 1) := by decide +kernel
theorem dL_law_305 : decode cL_law 305 = .ok (.iaload, 1) := by decide +kernel
theorem dL_law_306 : decode cL_law 306 = .ok (.invokevirtual 31, 3) := by decide +kernel
theorem dL_law_309 : decode cL_law 309 = .ok (.if_icmp .eq 982, 3) := by decide +kernel
theorem dL_law_312 : decode cL_law 312 = .ok (.iconst 0, 1) := by decide +kernel
theorem dL_law_313 : decode cL_law 313 = .ok (.ireturn, 1) := by decide +kernel
theorem dL_law_314 : decode cL_law 314 = .ok (.aload_n 1, 1) := by decide +kernel
theorem dL_law_315 : decode cL_law 315 = .ok (.aload_n 0, 1) := by decide +kernel
theorem dL_law_316 : decode cL_law 316 = .ok (.iload_n 3, 1) := by decide +kernel
theorem dL_law_317 : decode cL_law 317 = .ok (.iconst 1, 1) := by decide +kernel
theorem dL_law_318 : decode cL_law 318 = .ok (.iadd, 1) := by decide +kernel
theorem dL_law_319 : decode cL_law 319 = .ok (.iaload, 1) := by decide +kernel
theorem dL_law_320 : decode cL_law 320 = .ok (.aload_n 0, 1) := by decide +kernel
theorem dL_law_321 : decode cL_law 321 = .ok (.iload_n 3, 1) := by decide +kernel
theorem dL_law_322 : decode cL_law 322 = .ok (.iconst 2, 1) := by decide +kernel
theorem dL_law_323 : decode cL_law 323 = .ok (.iadd, 1) := by decide +kernel
theorem dL_law_324 : decode cL_law 324 = .ok (.iaload, 1) := by decide +kernel
theorem dL_law_325 : decode cL_law 325 = .ok (.invokevirtual 32, 3) := by decide +kernel
theorem dL_law_328 : decode cL_law 328 = .ok (.aload_n 2, 1) := by decide +kernel
theorem dL_law_329 : decode cL_law 329 = .ok (.aload_n 0, 1) := by decide +kernel
theorem dL_law_330 : decode cL_law 330 = .ok (.iload_n 3, 1) := by decide +kernel
theorem dL_law_331 : decode cL_law 331 = .ok (.iconst 1, 1) := by decide +kernel
theorem dL_law_332 : decode cL_law 332 = .ok (.iadd, 1) := by decide +kernel
theorem dL_law_333 : decode cL_law 333 = .ok (.iaload, 1) := by decide +kernel
theorem dL_law_334 : decode cL_law 334 = .ok (.aload_n 0, 1) := by decide +kernel
theorem dL_law_335 : decode cL_law 335 = .ok (.iload_n 3, 1) := by decide +kernel
theorem dL_law_336 : decode cL_law 336 = .ok (.iconst 2, 1) := by decide +kernel
theorem dL_law_337 : decode cL_law 337 = .ok (.iadd, 1) := by decide +kernel
theorem dL_law_338 : decode cL_law 338 = .ok (.iaload, 1) := by decide +kernel
theorem dL_law_339 : decode cL_law 339 = .ok (.invokevirtual 35, 3) := by decide +kernel
theorem dL_law_342 : decode cL_law 342 = .ok (.if_icmp .eq 949, 3) := by decide +kernel
theorem dL_law_345 : decode cL_law 345 = .ok (.iconst 0, 1) := by decide +kernel
theorem dL_law_346 : decode cL_law 346 = .ok (.ireturn, 1) := by decide +kernel
theorem dL_law_347 : decode cL_law 347 = .ok (.aload_n 1, 1) := by decide +kernel
theorem dL_law_348 : decode cL_law 348 = .ok (.aload_n 0, 1) := by decide +kernel
theorem dL_law_349 : decode cL_law 349 = .ok (.iload_n 3, 1) := by decide +kernel
theorem dL_law_350 : decode cL_law 350 = .ok (.iconst 1, 1) := by decide +kernel
theorem dL_law_351 : decode cL_law 351 = .ok (.iadd, 1) := by decide +kernel
theorem dL_law_352 : decode cL_law 352 = .ok (.iaload, 1) := by decide +kernel
theorem dL_law_353 : decode cL_law 353 = .ok (.aload_n 0, 1) := by decide +kernel
theorem dL_law_354 : decode cL_law 354 = .ok (.iload_n 3, 1) := by decide +kernel
theorem dL_law_355 : decode cL_law 355 = .ok (.iconst 2, 1) := by decide +kernel
theorem dL_law_356 : decode cL_law 356 = .ok (.iadd, 1) := by decide +kernel
theorem dL_law_357 : decode cL_law 357 = .ok (.iaload, 1) := by decide +kernel
theorem dL_law_358 : decode cL_law 358 = .ok (.invokevirtual 36, 3) := by decide +kernel
theorem dL_law_361 : decode cL_law 361 = .ok (.aload_n 2, 1) := by decide +kernel
theorem dL_law_362 : decode cL_law 362 = .ok (.aload_n 0, 1) := by decide +kernel
theorem dL_law_363 : decode cL_law 363 = .ok (.iload_n 3, 1) := by decide +kernel
theorem dL_law_364 : decode cL_law 364 = .ok (.iconst 1, 1) := by decide +kernel
theorem dL_law_365 : decode cL_law 365 = .ok (.iadd, 1) := by decide +kernel
theorem dL_law_366 : decode cL_law 366 = .ok (.iaload, 1) := by decide +kernel
theorem dL_law_367 : decode cL_law 367 = .ok (.aload_n 0, 1) := by decide +kernel
theorem dL_law_368 : decode cL_law 368 = .ok (.iload_n 3, 1) := by decide +kernel
theorem dL_law_369 : decode cL_law 369 = .ok (.iconst 2, 1) := by decide +kernel
theorem dL_law_370 : decode cL_law 370 = .ok (.iadd, 1) := by decide +kernel
theorem dL_law_371 : decode cL_law 371 = .ok (.iaload, 1) := by decide +kernel
theorem dL_law_372 : decode cL_law 372 = .ok (.invokevirtual 39, 3) := by decide +kernel
theorem dL_law_375 : decode cL_law 375 = .ok (.if_icmp .eq 916, 3) := by decide +kernel
theorem dL_law_378 : decode cL_law 378 = .ok (.iconst 0, 1) := by decide +kernel
theorem dL_law_379 : decode cL_law 379 = .ok (.ireturn, 1) := by decide +kernel
theorem dL_law_380 : decode cL_law 380 = .ok (.aload_n 1, 1) := by decide +kernel
theorem dL_law_381 : decode cL_law 381 = .ok (.aload_n 0, 1) := by decide +kernel
theorem dL_law_382 : decode cL_law 382 = .ok (.iload_n 3, 1) := by decide +kernel
theorem dL_law_383 : decode cL_law 383 = .ok (.iconst 1, 1) := by decide +kernel
theorem dL_law_384 : decode cL_law 384 = .ok (.iadd, 1) := by decide +kernel
theorem dL_law_385 : decode cL_law 385 = .ok (.iaload, 1) := by decide +kernel
theorem dL_law_386 : decode cL_law 386 = .ok (.aload_n 0, 1) := by decide +kernel
theorem dL_law_387 : decode cL_law 387 = .ok (.iload_n 3, 1) := by decide +kernel
theorem dL_law_388 : decode cL_law 388 = .ok (.iconst 2, 1) := by decide +kernel
theorem dL_law_389 : decode cL_law 389 = .ok (.iadd, 1) := by decide +kernel
theorem dL_law_390 : decode cL_law 390 = .ok (.iaload, 1) := by decide +kernel
theorem dL_law_391 : decode cL_law 391 = .ok (.aload_n 0, 1) := by decide +kernel
theorem dL_law_392 : decode cL_law 392 = .ok (.iload_n 3, 1) := by decide +kernel
theorem dL_law_393 : decode cL_law 393 = .ok (.iconst 3, 1) := by decide +kernel
theorem dL_law_394 : decode cL_law 394 = .ok (.iadd, 1) := by decide +kernel
theorem dL_law_395 : decode cL_law 395 = .ok (.iaload, 1) := by decide +kernel
theorem dL_law_396 : decode cL_law 396 = .ok (.invokevirtual 40, 3) := by decide +kernel
theorem dL_law_399 : decode cL_law 399 = .ok (.aload_n 2, 1) := by decide +kernel
theorem dL_law_400 : decode cL_law 400 = .ok (.aload_n 0, 1) := by decide +kernel
theorem dL_law_401 : decode cL_law 401 = .ok (.iload_n 3, 1) := by decide +kernel
theorem dL_law_402 : decode cL_law 402 = .ok (.iconst 1, 1) := by decide +kernel
theorem dL_law_403 : decode cL_law 403 = .ok (.iadd, 1) := by decide +kernel
theorem dL_law_404 : decode cL_law 404 = .ok (.iaload, 1) := by decide +kernel
theorem dL_law_405 : decode cL_law 405 = .ok (.aload_n 0, 1) := by decide +kernel
theorem dL_law_406 : decode cL_law 406 = .ok (.iload_n 3, 1) := by decide +kernel
theorem dL_law_407 : decode cL_law 407 = .ok (.iconst 2, 1) := by decide +kernel
theorem dL_law_408 : decode cL_law 408 = .ok (.iadd, 1) := by decide +kernel
theorem dL_law_409 : decode cL_law 409 = .ok (.iaload, 1) := by decide +kernel
theorem dL_law_410 : decode cL_law 410 = .ok (.aload_n 0, 1) := by decide +kernel
theorem dL_law_411 : decode cL_law 411 = .ok (.iload_n 3, 1) := by decide +kernel
theorem dL_law_412 : decode cL_law 412 = .ok (.iconst 3, 1) := by decide +kernel
theorem dL_law_413 : decode cL_law 413 = .ok (.iadd, 1) := by decide +kernel
theorem dL_law_414 : decode cL_law 414 = .ok (.iaload, 1) := by decide +kernel
theorem dL_law_415 : decode cL_law 415 = .ok (.invokevirtual 43, 3) := by decide +kernel
theorem dL_law_418 : decode cL_law 418 = .ok (.if_icmp .eq 873, 3) := by decide +kernel
theorem dL_law_421 : decode cL_law 421 = .ok (.iconst 0, 1) := by decide +kernel
theorem dL_law_422 : decode cL_law 422 = .ok (.ireturn, 1) := by decide +kernel
theorem dL_law_423 : decode cL_law 423 = .ok (.aload_n 1, 1) := by decide +kernel
theorem dL_law_424 : decode cL_law 424 = .ok (.aload_n 0, 1) := by decide +kernel
theorem dL_law_425 : decode cL_law 425 = .ok (.iload_n 3, 1) := by decide +kernel
theorem dL_law_426 : decode cL_law 426 = .ok (.iconst 1, 1) := by decide +kernel
theorem dL_law_427 : decode cL_law 427 = .ok (.iadd, 1) := by decide +kernel
theorem dL_law_428 : decode cL_law 428 = .ok (.iaload, 1) := by decide +kernel
theorem dL_law_429 : decode cL_law 429 = .ok (.aload_n 0, 1) := by decide +kernel
theorem dL_law_430 : decode cL_law 430 = .ok (.iload_n 3, 1) := by decide +kernel
theorem dL_law_431 : decode cL_law 431 = .ok (.iconst 2, 1) := by decide +kernel
theorem dL_law_432 : decode cL_law 432 = .ok (.iadd, 1) := by decide +kernel
theorem dL_law_433 : decode cL_law 433 = .ok (.iaload, 1) := by decide +kernel
theorem dL_law_434 : decode cL_law 434 = .ok (.invokevirtual 44, 3) := by decide +kernel
theorem dL_law_437 : decode cL_law 437 = .ok (.aload_n 2, 1) := by decide +kernel
theorem dL_law_438 : decode cL_law 438 = .ok (.aload_n 0, 1) := by decide +kernel
theorem dL_law_439 : decode cL_law 439 = .ok (.iload_n 3, 1) := by decide +kernel
theorem dL_law_440 : decode cL_law 440 = .ok (.iconst 1, 1) := by decide +kernel
theorem dL_law_441 : decode cL_law 441 = .ok (.iadd, 1) := by decide +kernel
theorem dL_law_442 : decode cL_law 442 = .ok (.iaload, 1) := by decide +kernel
theorem dL_law_443 : decode cL_law 443 = .ok (.aload_n 0, 1) := by decide +kernel
theorem dL_law_444 : decode cL_law 444 = .ok (.iload_n 3, 1) := by decide +kernel
theorem dL_law_445 : decode cL_law 445 = .ok (.iconst 2, 1) := by decide +kernel
theorem dL_law_446 : decode cL_law 446 = .ok (.iadd, 1) := by decide +kernel
theorem dL_law_447 : decode cL_law 447 = .ok (.iaload, 1) := by decide +kernel
theorem dL_law_448 : decode cL_law 448 = .ok (.invokevirtual 47, 3) := by decide +kernel
theorem dL_law_451 : decode cL_law 451 = .ok (.if_icmp .eq 840, 3) := by decide +kernel
theorem dL_law_454 : decode cL_law 454 = .ok (.iconst 0, 1) := by decide +kernel
theorem dL_law_455 : decode cL_law 455 = .ok (.ireturn, 1) := by decide +kernel
theorem dL_law_456 : decode cL_law 456 = .ok (.aload_n 1, 1) := by decide +kernel
theorem dL_law_457 : decode cL_law 457 = .ok (.aload_n 0, 1) := by decide +kernel
theorem dL_law_458 : decode cL_law 458 = .ok (.iload_n 3, 1) := by decide +kernel
theorem dL_law_459 : decode cL_law 459 = .ok (.iconst 1, 1) := by decide +kernel
theorem dL_law_460 : decode cL_law 460 = .ok (.iadd, 1) := by decide +kernel
theorem dL_law_461 : decode cL_law 461 = .ok (.iaload, 1) := by decide +kernel
theorem dL_law_462 : decode cL_law 462 = .ok (.aload_n 0, 1) := by decide +kernel
theorem dL_law_463 : decode cL_law 463 = .ok (.iload_n 3, 1) := by decide +kernel
theorem dL_law_464 : decode cL_law 464 = .ok (.iconst 2, 1) := by decide +kernel
theorem dL_law_465 : decode cL_law 465 = .ok (.iadd, 1) := by decide +kernel
theorem dL_law_466 : decode cL_law 466 = .ok (.iaload, 1) := by decide +kernel
theorem dL_law_467 : decode cL_law 467 = .ok (.invokevirtual 48, 3) := by decide +kernel
theorem dL_law_470 : decode cL_law 470 = .ok (.aload_n 2, 1) := by decide +kernel
theorem dL_law_471 : decode cL_law 471 = .ok (.aload_n 0, 1) := by decide +kernel
theorem dL_law_472 : decode cL_law 472 = .ok (.iload_n 3, 1) := by decide +kernel
theorem dL_law_473 : decode cL_law 473 = .ok (.iconst 1, 1) := by decide +kernel
theorem dL_law_474 : decode cL_law 474 = .ok (.iadd, 1) := by decide +kernel
theorem dL_law_475 : decode cL_law 475 = .ok (.iaload, 1) := by decide +kernel
theorem dL_law_476 : decode cL_law 476 = .ok (.aload_n 0, 1) := by decide +kernel
theorem dL_law_477 : decode cL_law 477 = .ok (.iload_n 3, 1) := by decide +kernel
theorem dL_law_478 : decode cL_law 478 = .ok (.iconst 2, 1) := by decide +kernel
theorem dL_law_479 : decode cL_law 479 = .ok (.iadd, 1) := by decide +kernel
theorem dL_law_480 : decode cL_law 480 = .ok (.iaload, 1) := by decide +kernel
theorem dL_law_481 : decode cL_law 481 = .ok (.invokevirtual 51, 3) := by decide +kernel
theorem dL_law_484 : decode cL_law 484 = .ok (.if_icmp .eq 807, 3) := by decide +kernel
theorem dL_law_487 : decode cL_law 487 = .ok (.iconst 0, 1) := by decide +kernel
theorem dL_law_488 : decode cL_law 488 = .ok (.ireturn, 1) := by decide +kernel
theorem dL_law_489 : decode cL_law 489 = .ok (.aload_n 1, 1) := by decide +kernel
theorem dL_law_490 : decode cL_law 490 = .ok (.aload_n 0, 1) := by decide +kernel
theorem dL_law_491 : decode cL_law 491 = .ok (.iload_n 3, 1) := by decide +kernel
theorem dL_law_492 : decode cL_law 492 = .ok (.iconst 1, 1) := by decide +kernel
theorem dL_law_493 : decode cL_law 493 = .ok (.iadd, 1) := by decide +kernel
theorem dL_law_494 : decode cL_law 494 = .ok (.iaload, 1) := by decide +kernel
theorem dL_law_495 : decode cL_law 495 = .ok (.invokevirtual 52, 3) := by decide +kernel
theorem dL_law_498 : decode cL_law 498 = .ok (.aload_n 2, 1) := by decide +kernel
theorem dL_law_499 : decode cL_law 499 = .ok (.aload_n 0, 1) := by decide +kernel
theorem dL_law_500 : decode cL_law 500 = .ok (.iload_n 3, 1) := by decide +kernel
theorem dL_law_501 : decode cL_law 501 = .ok (.iconst 1, 1) := by decide +kernel
theorem dL_law_502 : decode cL_law 502 = .ok (.iadd, 1) := by decide +kernel
theorem dL_law_503 : decode cL_law 503 = .ok (.iaload, 1) := by decide +kernel
theorem dL_law_504 : decode cL_law 504 = .ok (.invokevirtual 55, 3) := by decide +kernel
theorem dL_law_507 : decode cL_law 507 = .ok (.if_icmp .eq 784, 3) := by decide +kernel
theorem dL_law_510 : decode cL_law 510 = .ok (.iconst 0, 1) := by decide +kernel
theorem dL_law_511 : decode cL_law 511 = .ok (.ireturn, 1) := by decide +kernel
theorem dL_law_512 : decode cL_law 512 = .ok (.aload_n 1, 1) := by decide +kernel
theorem dL_law_513 : decode cL_law 513 = .ok (.aload_n 0, 1) := by decide +kernel
theorem dL_law_514 : decode cL_law 514 = .ok (.iload_n 3, 1) := by decide +kernel
theorem dL_law_515 : decode cL_law 515 = .ok (.iconst 1, 1) := by decide +kernel
theorem dL_law_516 : decode cL_law 516 = .ok (.iadd, 1) := by decide +kernel
theorem dL_law_517 : decode cL_law 517 = .ok (.iaload, 1) := by decide +kernel
theorem dL_law_518 : decode cL_law 518 = .ok (.aload_n 0, 1) := by decide +kernel
theorem dL_law_519 : decode cL_law 519 = .ok (.iload_n 3, 1) := by decide +kernel
theorem dL_law_520 : decode cL_law 520 = .ok (.iconst 2, 1) := by decide +kernel
theorem dL_law_521 : decode cL_law 521 = .ok (.iadd, 1) := by decide +kernel
theorem dL_law_522 : decode cL_law 522 = .ok (.iaload, 1) := by decide +kernel
theorem dL_law_523 : decode cL_law 523 = .ok (.aload_n 0, 1) := by decide +kernel
theorem dL_law_524 : decode cL_law 524 = .ok (.iload_n 3, 1) := by decide +kernel
theorem dL_law_525 : decode cL_law 525 = .ok (.iconst 3, 1) := by decide +kernel
theorem dL_law_526 : decode cL_law 526 = .ok (.iadd, 1) := by decide +kernel
theorem dL_law_527 : decode cL_law 527 = .ok (.iaload, 1) := by decide +kernel
theorem dL_law_528 : decode cL_law 528 = .ok (.invokevirtual 56, 3) := by decide +kernel
theorem dL_law_531 : decode cL_law 531 = .ok (.aload_n 2, 1) := by decide +kernel
theorem dL_law_532 : decode cL_law 532 = .ok (.aload_n 0, 1) := by decide +kernel
theorem dL_law_533 : decode cL_law 533 = .ok (.iload_n 3, 1) := by decide +kernel
theorem dL_law_534 : decode cL_law 534 = .ok (.iconst 1, 1) := by decide +kernel
theorem dL_law_535 : decode cL_law 535 = .ok (.iadd, 1) := by decide +kernel
theorem dL_law_536 : decode cL_law 536 = .ok (.iaload, 1) := by decide +kernel
theorem dL_law_537 : decode cL_law 537 = .ok (.aload_n 0, 1) := by decide +kernel
theorem dL_law_538 : decode cL_law 538 = .ok (.iload_n 3, 1) := by decide +kernel
theorem dL_law_539 : decode cL_law 539 = .ok (.iconst 2, 1) := by decide +kernel
theorem dL_law_540 : decode cL_law 540 = .ok (.iadd, 1) := by decide +kernel
theorem dL_law_541 : decode cL_law 541 = .ok (.iaload, 1) := by decide +kernel
theorem dL_law_542 : decode cL_law 542 = .ok (.aload_n 0, 1) := by decide +kernel
theorem dL_law_543 : decode cL_law 543 = .ok (.iload_n 3, 1) := by decide +kernel
theorem dL_law_544 : decode cL_law 544 = .ok (.iconst 3, 1) := by decide +kernel
theorem dL_law_545 : decode cL_law 545 = .ok (.iadd, 1) := by decide +kernel
theorem dL_law_546 : decode cL_law 546 = .ok (.iaload, 1) := by decide +kernel
theorem dL_law_547 : decode cL_law 547 = .ok (.invokevirtual 59, 3) := by decide +kernel
theorem dL_law_550 : decode cL_law 550 = .ok (.if_icmp .eq 741, 3) := by decide +kernel
theorem dL_law_553 : decode cL_law 553 = .ok (.iconst 0, 1) := by decide +kernel
theorem dL_law_554 : decode cL_law 554 = .ok (.ireturn, 1) := by decide +kernel
theorem dL_law_555 : decode cL_law 555 = .ok (.aload_n 1, 1) := by decide +kernel
theorem dL_law_556 : decode cL_law 556 = .ok (.aload_n 0, 1) := by decide +kernel
theorem dL_law_557 : decode cL_law 557 = .ok (.iload_n 3, 1) := by decide +kernel
theorem dL_law_558 : decode cL_law 558 = .ok (.iconst 1, 1) := by decide +kernel
theorem dL_law_559 : decode cL_law 559 = .ok (.iadd, 1) := by decide +kernel
theorem dL_law_560 : decode cL_law 560 = .ok (.iaload, 1) := by decide +kernel
theorem dL_law_561 : decode cL_law 561 = .ok (.aload_n 0, 1) := by decide +kernel
theorem dL_law_562 : decode cL_law 562 = .ok (.iload_n 3, 1) := by decide +kernel
theorem dL_law_563 : decode cL_law 563 = .ok (.iconst 2, 1) := by decide +kernel
theorem dL_law_564 : decode cL_law 564 = .ok (.iadd, 1) := by decide +kernel
theorem dL_law_565 : decode cL_law 565 = .ok (.iaload, 1) := by decide +kernel
theorem dL_law_566 : decode cL_law 566 = .ok (.aload_n 0, 1) := by decide +kernel
theorem dL_law_567 : decode cL_law 567 = .ok (.iload_n 3, 1) := by decide +kernel
theorem dL_law_568 : decode cL_law 568 = .ok (.iconst 3, 1) := by decide +kernel
theorem dL_law_569 : decode cL_law 569 = .ok (.iadd, 1) := by decide +kernel
theorem dL_law_570 : decode cL_law 570 = .ok (.iaload, 1) := by decide +kernel
theorem dL_law_571 : decode cL_law 571 = .ok (.invokevirtual 60, 3) := by decide +kernel
theorem dL_law_574 : decode cL_law 574 = .ok (.aload_n 2, 1) := by decide +kernel
theorem dL_law_575 : decode cL_law 575 = .ok (.aload_n 0, 1) := by decide +kernel
theorem dL_law_576 : decode cL_law 576 = .ok (.iload_n 3, 1) := by decide +kernel
theorem dL_law_577 : decode cL_law 577 = .ok (.iconst 1, 1) := by decide +kernel
theorem dL_law_578 : decode cL_law 578 = .ok (.iadd, 1) := by decide +kernel
theorem dL_law_579 : decode cL_law 579 = .ok (.iaload, 1) := by decide +kernel
theorem dL_law_580 : decode cL_law 580 = .ok (.aload_n 0, 1) := by decide +kernel
theorem dL_law_581 : decode cL_law 581 = .ok (.iload_n 3, 1) := by decide +kernel
theorem dL_law_582 : decode cL_law 582 = .ok (.iconst 2, 1) := by decide +kernel
theorem dL_law_583 : decode cL_law 583 = .ok (.iadd, 1) := by decide +kernel
theorem dL_law_584 : decode cL_law 584 = .ok (.iaload, 1) := by decide +kernel
theorem dL_law_585 : decode cL_law 585 = .ok (.aload_n 0, 1) := by decide +kernel
theorem dL_law_586 : decode cL_law 586 = .ok (.iload_n 3, 1) := by decide +kernel
theorem dL_law_587 : decode cL_law 587 = .ok (.iconst 3, 1) := by decide +kernel
theorem dL_law_588 : decode cL_law 588 = .ok (.iadd, 1) := by decide +kernel
theorem dL_law_589 : decode cL_law 589 = .ok (.iaload, 1) := by decide +kernel
theorem dL_law_590 : decode cL_law 590 = .ok (.invokevirtual 63, 3) := by decide +kernel
theorem dL_law_593 : decode cL_law 593 = .ok (.if_icmp .eq 698, 3) := by decide +kernel
theorem dL_law_596 : decode cL_law 596 = .ok (.iconst 0, 1) := by decide +kernel
theorem dL_law_597 : decode cL_law 597 = .ok (.ireturn, 1) := by decide +kernel
theorem dL_law_598 : decode cL_law 598 = .ok (.aload_n 1, 1) := by decide +kernel
theorem dL_law_599 : decode cL_law 599 = .ok (.aload_n 0, 1) := by decide +kernel
theorem dL_law_600 : decode cL_law 600 = .ok (.iload_n 3, 1) := by decide +kernel
theorem dL_law_601 : decode cL_law 601 = .ok (.iconst 1, 1) := by decide +kernel
theorem dL_law_602 : decode cL_law 602 = .ok (.iadd, 1) := by decide +kernel
theorem dL_law_603 : decode cL_law 603 = .ok (.iaload, 1) := by decide +kernel
theorem dL_law_604 : decode cL_law 604 = .ok (.aload_n 0, 1) := by decide +kernel
theorem dL_law_605 : decode cL_law 605 = .ok (.iload_n 3, 1) := by decide +kernel
theorem dL_law_606 : decode cL_law 606 = .ok (.iconst 2, 1) := by decide +kernel
theorem dL_law_607 : decode cL_law 607 = .ok (.iadd, 1) := by decide +kernel
theorem dL_law_608 : decode cL_law 608 = .ok (.iaload, 1) := by decide +kernel
theorem dL_law_609 : decode cL_law 609 = .ok (.invokevirtual 64, 3) := by decide +kernel
theorem dL_law_612 : decode cL_law 612 = .ok (.aload_n 2, 1) := by decide +kernel
theorem dL_law_613 : decode cL_law 613 = .ok (.aload_n 0, 1) := by decide +kernel
theorem dL_law_614 : decode cL_law 614 = .ok (.iload_n 3, 1) := by decide +kernel
theorem dL_law_615 : decode cL_law 615 = .ok (.iconst 1, 1) := by decide +kernel
theorem dL_law_616 : decode cL_law 616 = .ok (.iadd, 1) := by decide +kernel
theorem dL_law_617 : decode cL_law 617 = .ok (.iaload, 1) := by decide +kernel
theorem dL_law_618 : decode cL_law 618 = .ok (.aload_n 0, 1) := by decide +kernel
theorem dL_law_619 : decode cL_law 619 = .ok (.iload_n 3, 1) := by decide +kernel
theorem dL_law_620 : decode cL_law 620 = .ok (.iconst 2, 1) := by decide +kernel
theorem dL_law_621 : decode cL_law 621 = .ok (.iadd, 1) := by decide +kernel
theorem dL_law_622 : decode cL_law 622 = .ok (.iaload, 1) := by decide +kernel
theorem dL_law_623 : decode cL_law 623 = .ok (.invokevirtual 67, 3) := by decide +kernel
theorem dL_law_626 : decode cL_law 626 = .ok (.if_icmp .eq 665, 3) := by decide +kernel
theorem dL_law_629 : decode cL_law 629 = .ok (.iconst 0, 1) := by decide +kernel
theorem dL_law_630 : decode cL_law 630 = .ok (.ireturn, 1) := by decide +kernel
theorem dL_law_631 : decode cL_law 631 = .ok (.aload_n 1, 1) := by decide +kernel
theorem dL_law_632 : decode cL_law 632 = .ok (.aload_n 0, 1) := by decide +kernel
theorem dL_law_633 : decode cL_law 633 = .ok (.iload_n 3, 1) := by decide +kernel
theorem dL_law_634 : decode cL_law 634 = .ok (.iconst 1, 1) := by decide +kernel
theorem dL_law_635 : decode cL_law 635 = .ok (.iadd, 1) := by decide +kernel
theorem dL_law_636 : decode cL_law 636 = .ok (.iaload, 1) := by decide +kernel
theorem dL_law_637 : decode cL_law 637 = .ok (.invokevirtual 68, 3) := by decide +kernel
theorem dL_law_640 : decode cL_law 640 = .ok (.aload_n 2, 1) := by decide +kernel
theorem dL_law_641 : decode cL_law 641 = .ok (.aload_n 0, 1) := by decide +kernel
theorem dL_law_642 : decode cL_law 642 = .ok (.iload_n 3, 1) := by decide +kernel
theorem dL_law_643 : decode cL_law 643 = .ok (.iconst 1, 1) := by decide +kernel
theorem dL_law_644 : decode cL_law 644 = .ok (.iadd, 1) := by decide +kernel
theorem dL_law_645 : decode cL_law 645 = .ok (.iaload, 1) := by decide +kernel
theorem dL_law_646 : decode cL_law 646 = .ok (.invokevirtual 71, 3) := by decide +kernel
theorem dL_law_649 : decode cL_law 649 = .ok (.if_icmp .eq 642, 3) := by decide +kernel
theorem dL_law_652 : decode cL_law 652 = .ok (.iconst 0, 1) := by decide +kernel
theorem dL_law_653 : decode cL_law 653 = .ok (.ireturn, 1) := by decide +kernel
theorem dL_law_654 : decode cL_law 654 = .ok (.aload_n 1, 1) := by decide +kernel
theorem dL_law_655 : decode cL_law 655 = .ok (.invokevirtual 72, 3) := by decide +kernel
theorem dL_law_658 : decode cL_law 658 = .ok (.aload_n 2, 1) := by decide +kernel
theorem dL_law_659 : decode cL_law 659 = .ok (.invokevirtual 76, 3) := by decide +kernel
theorem dL_law_662 : decode cL_law 662 = .ok (.if_icmp .eq 629, 3) := by decide +kernel
theorem dL_law_665 : decode cL_law 665 = .ok (.iconst 0, 1) := by decide +kernel
theorem dL_law_666 : decode cL_law 666 = .ok (.ireturn, 1) := by decide +kernel
theorem dL_law_667 : decode cL_law 667 = .ok (.aload_n 1, 1) := by decide +kernel
theorem dL_law_668 : decode cL_law 668 = .ok (.aload_n 0, 1) := by decide +kernel
theorem dL_law_669 : decode cL_law 669 = .ok (.iload_n 3, 1) := by decide +kernel
theorem dL_law_670 : decode cL_law 670 = .ok (.iconst 1, 1) := by decide +kernel
theorem dL_law_671 : decode cL_law 671 = .ok (.iadd, 1) := by decide +kernel
theorem dL_law_672 : decode cL_law 672 = .ok (.iaload, 1) := by decide +kernel
theorem dL_law_673 : decode cL_law 673 = .ok (.invokevirtual 77, 3) := by decide +kernel
theorem dL_law_676 : decode cL_law 676 = .ok (.aload_n 2, 1) := by decide +kernel
theorem dL_law_677 : decode cL_law 677 = .ok (.aload_n 0, 1) := by decide +kernel
theorem dL_law_678 : decode cL_law 678 = .ok (.iload_n 3, 1) := by decide +kernel
theorem dL_law_679 : decode cL_law 679 = .ok (.iconst 1, 1) := by decide +kernel
theorem dL_law_680 : decode cL_law 680 = .ok (.iadd, 1) := by decide +kernel
theorem dL_law_681 : decode cL_law 681 = .ok (.iaload, 1) := by decide +kernel
theorem dL_law_682 : decode cL_law 682 = .ok (.invokevirtual 80, 3) := by decide +kernel
theorem dL_law_685 : decode cL_law 685 = .ok (.if_icmp .eq 606, 3) := by decide +kernel
theorem dL_law_688 : decode cL_law 688 = .ok (.iconst 0, 1) := by decide +kernel
theorem dL_law_689 : decode cL_law 689 = .ok (.ireturn, 1) := by decide +kernel
theorem dL_law_690 : decode cL_law 690 = .ok (.aload_n 1, 1) := by decide +kernel
theorem dL_law_691 : decode cL_law 691 = .ok (.aload_n 0, 1) := by decide +kernel
theorem dL_law_692 : decode cL_law 692 = .ok (.iload_n 3, 1) := by decide +kernel
theorem dL_law_693 : decode cL_law 693 = .ok (.iconst 1, 1) := by decide +kernel
theorem dL_law_694 : decode cL_law 694 = .ok (.iadd, 1) := by decide +kernel
theorem dL_law_695 : decode cL_law 695 = .ok (.iaload, 1) := by decide +kernel
theorem dL_law_696 : decode cL_law 696 = .ok (.aload_n 0, 1) := by decide +kernel
theorem dL_law_697 : decode cL_law 697 = .ok (.iload_n 3, 1) := by decide +kernel
theorem dL_law_698 : decode cL_law 698 = .ok (.iconst 2, 1) := by decide +kernel
theorem dL_law_699 : decode cL_law 699 = .ok (.iadd, 1) := by decide +kernel
theorem dL_law_700 : decode cL_law 700 = .ok (.iaload, 1) := by decide +kernel
theorem dL_law_701 : decode cL_law 701 = .ok (.invokevirtual 81, 3) := by decide +kernel
theorem dL_law_704 : decode cL_law 704 = .ok (.aload_n 2, 1) := by decide +kernel
theorem dL_law_705 : decode cL_law 705 = .ok (.aload_n 0, 1) := by decide +kernel
theorem dL_law_706 : decode cL_law 706 = .ok (.iload_n 3, 1) := by decide +kernel
theorem dL_law_707 : decode cL_law 707 = .ok (.iconst 1, 1) := by decide +kernel
theorem dL_law_708 : decode cL_law 708 = .ok (.iadd, 1) := by decide +kernel
theorem dL_law_709 : decode cL_law 709 = .ok (.iaload, 1) := by decide +kernel
theorem dL_law_710 : decode cL_law 710 = .ok (.aload_n 0, 1) := by decide +kernel
theorem dL_law_711 : decode cL_law 711 = .ok (.iload_n 3, 1) := by decide +kernel
theorem dL_law_712 : decode cL_law 712 = .ok (.iconst 2, 1) := by decide +kernel
theorem dL_law_713 : decode cL_law 713 = .ok (.iadd, 1) := by decide +kernel
theorem dL_law_714 : decode cL_law 714 = .ok (.iaload, 1) := by decide +kernel
theorem dL_law_715 : decode cL_law 715 = .ok (.invokevirtual 84, 3) := by decide +kernel
theorem dL_law_718 : decode cL_law 718 = .ok (.if_icmp .eq 573, 3) := by decide +kernel
theorem dL_law_721 : decode cL_law 721 = .ok (.iconst 0, 1) := by decide +kernel
theorem dL_law_722 : decode cL_law 722 = .ok (.ireturn, 1) := by decide +kernel
theorem dL_law_723 : decode cL_law 723 = .ok (.aload_n 1, 1) := by decide +kernel
theorem dL_law_724 : decode cL_law 724 = .ok (.aload_n 0, 1) := by decide +kernel
theorem dL_law_725 : decode cL_law 725 = .ok (.iload_n 3, 1) := by decide +kernel
theorem dL_law_726 : decode cL_law 726 = .ok (.iconst 1, 1) := by decide +kernel
theorem dL_law_727 : decode cL_law 727 = .ok (.iadd, 1) := by decide +kernel
theorem dL_law_728 : decode cL_law 728 = .ok (.iaload, 1) := by decide +kernel
theorem dL_law_729 : decode cL_law 729 = .ok (.aload_n 0, 1) := by decide +kernel
theorem dL_law_730 : decode cL_law 730 = .ok (.iload_n 3, 1) := by decide +kernel
theorem dL_law_731 : decode cL_law 731 = .ok (.iconst 2, 1) := by decide +kernel
theorem dL_law_732 : decode cL_law 732 = .ok (.iadd, 1) := by decide +kernel
theorem dL_law_733 : decode cL_law 733 = .ok (.iaload, 1) := by decide +kernel
theorem dL_law_734 : decode cL_law 734 = .ok (.invokevirtual 85, 3) := by decide +kernel
theorem dL_law_737 : decode cL_law 737 = .ok (.aload_n 2, 1) := by decide +kernel
theorem dL_law_738 : decode cL_law 738 = .ok (.aload_n 0, 1) := by decide +kernel
theorem dL_law_739 : decode cL_law 739 = .ok (.iload_n 3, 1) := by decide +kernel
theorem dL_law_740 : decode cL_law 740 = .ok (.iconst 1, 1) := by decide +kernel
theorem dL_law_741 : decode cL_law 741 = .ok (.iadd, 1) := by decide +kernel
theorem dL_law_742 : decode cL_law 742 = .ok (.iaload, 1) := by decide +kernel
theorem dL_law_743 : decode cL_law 743 = .ok (.aload_n 0, 1) := by decide +kernel
theorem dL_law_744 : decode cL_law 744 = .ok (.iload_n 3, 1) := by decide +kernel
theorem dL_law_745 : decode cL_law 745 = .ok (.iconst 2, 1) := by decide +kernel
theorem dL_law_746 : decode cL_law 746 = .ok (.iadd, 1) := by decide +kernel
theorem dL_law_747 : decode cL_law 747 = .ok (.iaload, 1) := by decide +kernel
theorem dL_law_748 : decode cL_law 748 = .ok (.invokevirtual 88, 3) := by decide +kernel
theorem dL_law_751 : decode cL_law 751 = .ok (.if_icmp .eq 540, 3) := by decide +kernel
theorem dL_law_754 : decode cL_law 754 = .ok (.iconst 0, 1) := by decide +kernel
theorem dL_law_755 : decode cL_law 755 = .ok (.ireturn, 1) := by decide +kernel
theorem dL_law_756 : decode cL_law 756 = .ok (.aload_n 1, 1) := by decide +kernel
theorem dL_law_757 : decode cL_law 757 = .ok (.aload_n 0, 1) := by decide +kernel
theorem dL_law_758 : decode cL_law 758 = .ok (.iload_n 3, 1) := by decide +kernel
theorem dL_law_759 : decode cL_law 759 = .ok (.iconst 1, 1) := by decide +kernel
theorem dL_law_760 : decode cL_law 760 = .ok (.iadd, 1) := by decide +kernel
theorem dL_law_761 : decode cL_law 761 = .ok (.iaload, 1) := by decide +kernel
theorem dL_law_762 : decode cL_law 762 = .ok (.aload_n 0, 1) := by decide +kernel
theorem dL_law_763 : decode cL_law 763 = .ok (.iload_n 3, 1) := by decide +kernel
theorem dL_law_764 : decode cL_law 764 = .ok (.iconst 2, 1) := by decide +kernel
theorem dL_law_765 : decode cL_law 765 = .ok (.iadd, 1) := by decide +kernel
theorem dL_law_766 : decode cL_law 766 = .ok (.iaload, 1) := by decide +kernel
theorem dL_law_767 : decode cL_law 767 = .ok (.invokevirtual 89, 3) := by decide +kernel
theorem dL_law_770 : decode cL_law 770 = .ok (.aload_n 2, 1) := by decide +kernel
theorem dL_law_771 : decode cL_law 771 = .ok (.aload_n 0, 1) := by decide +kernel
theorem dL_law_772 : decode cL_law 772 = .ok (.iload_n 3, 1) := by decide +kernel
theorem dL_law_773 : decode cL_law 773 = .ok (.iconst 1, 1) := by decide +kernel
theorem dL_law_774 : decode cL_law 774 = .ok (.iadd, 1) := by decide +kernel
theorem dL_law_775 : decode cL_law 775 = .ok (.iaload, 1) := by decide +kernel
theorem dL_law_776 : decode cL_law 776 = .ok (.aload_n 0, 1) := by decide +kernel
theorem dL_law_777 : decode cL_law 777 = .ok (.iload_n 3, 1) := by decide +kernel
theorem dL_law_778 : decode cL_law 778 = .ok (.iconst 2, 1) := by decide +kernel
theorem dL_law_779 : decode cL_law 779 = .ok (.iadd, 1) := by decide +kernel
theorem dL_law_780 : decode cL_law 780 = .ok (.iaload, 1) := by decide +kernel
theorem dL_law_781 : decode cL_law 781 = .ok (.invokevirtual 92, 3) := by decide +kernel
theorem dL_law_784 : decode cL_law 784 = .ok (.if_icmp .eq 507, 3) := by decide +kernel
theorem dL_law_787 : decode cL_law 787 = .ok (.iconst 0, 1) := by decide +kernel
theorem dL_law_788 : decode cL_law 788 = .ok (.ireturn, 1) := by decide +kernel
theorem dL_law_789 : decode cL_law 789 = .ok (.aload_n 1, 1) := by decide +kernel
theorem dL_law_790 : decode cL_law 790 = .ok (.aload_n 0, 1) := by decide +kernel
theorem dL_law_791 : decode cL_law 791 = .ok (.iload_n 3, 1) := by decide +kernel
theorem dL_law_792 : decode cL_law 792 = .ok (.iconst 1, 1) := by decide +kernel
theorem dL_law_793 : decode cL_law 793 = .ok (.iadd, 1) := by decide +kernel
theorem dL_law_794 : decode cL_law 794 = .ok (.iaload, 1) := by decide +kernel
theorem dL_law_795 : decode cL_law 795 = .ok (.aload_n 0, 1) := by decide +kernel
theorem dL_law_796 : decode cL_law 796 = .ok (.iload_n 3, 1) := by decide +kernel
theorem dL_law_797 : decode cL_law 797 = .ok (.iconst 2, 1) := by decide +kernel
theorem dL_law_798 : decode cL_law 798 = .ok (.iadd, 1) := by decide +kernel
theorem dL_law_799 : decode cL_law 799 = .ok (.iaload, 1) := by decide +kernel
theorem dL_law_800 : decode cL_law 800 = .ok (.aload_n 0, 1) := by decide +kernel
theorem dL_law_801 : decode cL_law 801 = .ok (.iload_n 3, 1) := by decide +kernel
theorem dL_law_802 : decode cL_law 802 = .ok (.iconst 3, 1) := by decide +kernel
theorem dL_law_803 : decode cL_law 803 = .ok (.iadd, 1) := by decide +kernel
theorem dL_law_804 : decode cL_law 804 = .ok (.iaload, 1) := by decide +kernel
theorem dL_law_805 : decode cL_law 805 = .ok (.invokevirtual 93, 3) := by decide +kernel
theorem dL_law_808 : decode cL_law 808 = .ok (.aload_n 2, 1) := by decide +kernel
theorem dL_law_809 : decode cL_law 809 = .ok (.aload_n 0, 1) := by decide +kernel
theorem dL_law_810 : decode cL_law 810 = .ok (.iload_n 3, 1) := by decide +kernel
theorem dL_law_811 : decode cL_law 811 = .ok (.iconst 1, 1) := by decide +kernel
theorem dL_law_812 : decode cL_law 812 = .ok (.iadd, 1) := by decide +kernel
theorem dL_law_813 : decode cL_law 813 = .ok (.iaload, 1) := by decide +kernel
theorem dL_law_814 : decode cL_law 814 = .ok (.aload_n 0, 1) := by decide +kernel
theorem dL_law_815 : decode cL_law 815 = .ok (.iload_n 3, 1) := by decide +kernel
theorem dL_law_816 : decode cL_law 816 = .ok (.iconst 2, 1) := by decide +kernel
theorem dL_law_817 : decode cL_law 817 = .ok (.iadd, 1) := by decide +kernel
theorem dL_law_818 : decode cL_law 818 = .ok (.iaload, 1) := by decide +kernel
theorem dL_law_819 : decode cL_law 819 = .ok (.aload_n 0, 1) := by decide +kernel
theorem dL_law_820 : decode cL_law 820 = .ok (.iload_n 3, 1) := by decide +kernel
theorem dL_law_821 : decode cL_law 821 = .ok (.iconst 3, 1) := by decide +kernel
theorem dL_law_822 : decode cL_law 822 = .ok (.iadd, 1) := by decide +kernel
theorem dL_law_823 : decode cL_law 823 = .ok (.iaload, 1) := by decide +kernel
theorem dL_law_824 : decode cL_law 824 = .ok (.invokevirtual 96, 3) := by decide +kernel
theorem dL_law_827 : decode cL_law 827 = .ok (.if_icmp .eq 464, 3) := by decide +kernel
theorem dL_law_830 : decode cL_law 830 = .ok (.iconst 0, 1) := by decide +kernel
theorem dL_law_831 : decode cL_law 831 = .ok (.ireturn, 1) := by decide +kernel
theorem dL_law_832 : decode cL_law 832 = .ok (.aload_n 1, 1) := by decide +kernel
theorem dL_law_833 : decode cL_law 833 = .ok (.aload_n 0, 1) := by decide +kernel
theorem dL_law_834 : decode cL_law 834 = .ok (.iload_n 3, 1) := by decide +kernel
theorem dL_law_835 : decode cL_law 835 = .ok (.iconst 1, 1) := by decide +kernel
theorem dL_law_836 : decode cL_law 836 = .ok (.iadd, 1) := by decide +kernel
theorem dL_law_837 : decode cL_law 837 = .ok (.iaload, 1) := by decide +kernel
theorem dL_law_838 : decode cL_law 838 = .ok (.invokevirtual 97, 3) := by decide +kernel
theorem dL_law_841 : decode cL_law 841 = .ok (.aload_n 2, 1) := by decide +kernel
theorem dL_law_842 : decode cL_law 842 = .ok (.aload_n 0, 1) := by decide +kernel
theorem dL_law_843 : decode cL_law 843 = .ok (.iload_n 3, 1) := by decide +kernel
theorem dL_law_844 : decode cL_law 844 = .ok (.iconst 1, 1) := by decide +kernel
theorem dL_law_845 : decode cL_law 845 = .ok (.iadd, 1) := by decide +kernel
theorem dL_law_846 : decode cL_law 846 = .ok (.iaload, 1) := by decide +kernel
theorem dL_law_847 : decode cL_law 847 = .ok (.invokevirtual 100, 3) := by decide +kernel
theorem dL_law_850 : decode cL_law 850 = .ok (.if_icmp .eq 441, 3) := by decide +kernel
theorem dL_law_853 : decode cL_law 853 = .ok (.iconst 0, 1) := by decide +kernel
theorem dL_law_854 : decode cL_law 854 = .ok (.ireturn, 1) := by decide +kernel
theorem dL_law_855 : decode cL_law 855 = .ok (.aload_n 1, 1) := by decide +kernel
theorem dL_law_856 : decode cL_law 856 = .ok (.aload_n 0, 1) := by decide +kernel
theorem dL_law_857 : decode cL_law 857 = .ok (.iload_n 3, 1) := by decide +kernel
theorem dL_law_858 : decode cL_law 858 = .ok (.iconst 1, 1) := by decide +kernel
theorem dL_law_859 : decode cL_law 859 = .ok (.iadd, 1) := by decide +kernel
theorem dL_law_860 : decode cL_law 860 = .ok (.iaload, 1) := by decide +kernel
theorem dL_law_861 : decode cL_law 861 = .ok (.invokevirtual 101, 3) := by decide +kernel
theorem dL_law_864 : decode cL_law 864 = .ok (.aload_n 2, 1) := by decide +kernel
theorem dL_law_865 : decode cL_law 865 = .ok (.aload_n 0, 1) := by decide +kernel
theorem dL_law_866 : decode cL_law 866 = .ok (.iload_n 3, 1) := by decide +kernel
theorem dL_law_867 : decode cL_law 867 = .ok (.iconst 1, 1) := by decide +kernel
theorem dL_law_868 : decode cL_law 868 = .ok (.iadd, 1) := by decide +kernel
theorem dL_law_869 : decode cL_law 869 = .ok (.iaload, 1) := by decide +kernel
theorem dL_law_870 : decode cL_law 870 = .ok (.invokevirtual 104, 3) := by decide +kernel
theorem dL_law_873 : decode cL_law 873 = .ok (.if_icmp .eq 418, 3) := by decide +kernel
theorem dL_law_876 : decode cL_law 876 = .ok (.iconst 0, 1) := by decide +kernel
theorem dL_law_877 : decode cL_law 877 = .ok (.ireturn, 1) := by decide +kernel
theorem dL_law_878 : decode cL_law 878 = .ok (.aload_n 1, 1) := by decide +kernel
theorem dL_law_879 : decode cL_law 879 = .ok (.aload_n 0, 1) := by decide +kernel
theorem dL_law_880 : decode cL_law 880 = .ok (.iload_n 3, 1) := by decide +kernel
theorem dL_law_881 : decode cL_law 881 = .ok (.iconst 1, 1) := by decide +kernel
theorem dL_law_882 : decode cL_law 882 = .ok (.iadd, 1) := by decide +kernel
theorem dL_law_883 : decode cL_law 883 = .ok (.iaload, 1) := by decide +kernel
theorem dL_law_884 : decode cL_law 884 = .ok (.aload_n 0, 1) := by decide +kernel
theorem dL_law_885 : decode cL_law 885 = .ok (.iload_n 3, 1) := by decide +kernel
theorem dL_law_886 : decode cL_law 886 = .ok (.iconst 2, 1) := by decide +kernel
theorem dL_law_887 : decode cL_law 887 = .ok (.iadd, 1) := by decide +kernel
theorem dL_law_888 : decode cL_law 888 = .ok (.iaload, 1) := by decide +kernel
theorem dL_law_889 : decode cL_law 889 = .ok (.invokevirtual 105, 3) := by decide +kernel
theorem dL_law_892 : decode cL_law 892 = .ok (.aload_n 2, 1) := by decide +kernel
theorem dL_law_893 : decode cL_law 893 = .ok (.aload_n 0, 1) := by decide +kernel
theorem dL_law_894 : decode cL_law 894 = .ok (.iload_n 3, 1) := by decide +kernel
theorem dL_law_895 : decode cL_law 895 = .ok (.iconst 1, 1) := by decide +kernel
theorem dL_law_896 : decode cL_law 896 = .ok (.iadd, 1) := by decide +kernel
theorem dL_law_897 : decode cL_law 897 = .ok (.iaload, 1) := by decide +kernel
theorem dL_law_898 : decode cL_law 898 = .ok (.aload_n 0, 1) := by decide +kernel
theorem dL_law_899 : decode cL_law 899 = .ok (.iload_n 3, 1) := by decide +kernel
theorem dL_law_900 : decode cL_law 900 = .ok (.iconst 2, 1) := by decide +kernel
theorem dL_law_901 : decode cL_law 901 = .ok (.iadd, 1) := by decide +kernel
theorem dL_law_902 : decode cL_law 902 = .ok (.iaload, 1) := by decide +kernel
theorem dL_law_903 : decode cL_law 903 = .ok (.invokevirtual 108, 3) := by decide +kernel
theorem dL_law_906 : decode cL_law 906 = .ok (.if_icmp .eq 385, 3) := by decide +kernel
theorem dL_law_909 : decode cL_law 909 = .ok (.iconst 0, 1) := by decide +kernel
theorem dL_law_910 : decode cL_law 910 = .ok (.ireturn, 1) := by decide +kernel
theorem dL_law_911 : decode cL_law 911 = .ok (.aload_n 1, 1) := by decide +kernel
theorem dL_law_912 : decode cL_law 912 = .ok (.invokevirtual 109, 3) := by decide +kernel
theorem dL_law_915 : decode cL_law 915 = .ok (.aload_n 2, 1) := by decide +kernel
theorem dL_law_916 : decode cL_law 916 = .ok (.invokevirtual 112, 3) := by decide +kernel
theorem dL_law_919 : decode cL_law 919 = .ok (.if_icmp .eq 372, 3) := by decide +kernel
theorem dL_law_922 : decode cL_law 922 = .ok (.iconst 0, 1) := by decide +kernel
theorem dL_law_923 : decode cL_law 923 = .ok (.ireturn, 1) := by decide +kernel
theorem dL_law_924 : decode cL_law 924 = .ok (.aload_n 1, 1) := by decide +kernel
theorem dL_law_925 : decode cL_law 925 = .ok (.invokevirtual 113, 3) := by decide +kernel
theorem dL_law_928 : decode cL_law 928 = .ok (.aload_n 2, 1) := by decide +kernel
theorem dL_law_929 : decode cL_law 929 = .ok (.invokevirtual 116, 3) := by decide +kernel
theorem dL_law_932 : decode cL_law 932 = .ok (.if_icmp .eq 359, 3) := by decide +kernel
theorem dL_law_935 : decode cL_law 935 = .ok (.iconst 0, 1) := by decide +kernel
theorem dL_law_936 : decode cL_law 936 = .ok (.ireturn, 1) := by decide +kernel
theorem dL_law_937 : decode cL_law 937 = .ok (.aload_n 1, 1) := by decide +kernel
theorem dL_law_938 : decode cL_law 938 = .ok (.aload_n 0, 1) := by decide +kernel
theorem dL_law_939 : decode cL_law 939 = .ok (.iload_n 3, 1) := by decide +kernel
theorem dL_law_940 : decode cL_law 940 = .ok (.iconst 1, 1) := by decide +kernel
theorem dL_law_941 : decode cL_law 941 = .ok (.iadd, 1) := by decide +kernel
theorem dL_law_942 : decode cL_law 942 = .ok (.iaload, 1) := by decide +kernel
theorem dL_law_943 : decode cL_law 943 = .ok (.aload_n 0, 1) := by decide +kernel
theorem dL_law_944 : decode cL_law 944 = .ok (.iload_n 3, 1) := by decide +kernel
theorem dL_law_945 : decode cL_law 945 = .ok (.iconst 2, 1) := by decide +kernel
theorem dL_law_946 : decode cL_law 946 = .ok (.iadd, 1) := by decide +kernel
theorem dL_law_947 : decode cL_law 947 = .ok (.iaload, 1) := by decide +kernel
theorem dL_law_948 : decode cL_law 948 = .ok (.aload_n 0, 1) := by decide +kernel
theorem dL_law_949 : decode cL_law 949 = .ok (.iload_n 3, 1) := by decide +kernel
theorem dL_law_950 : decode cL_law 950 = .ok (.iconst 3, 1) := by decide +kernel
theorem dL_law_951 : decode cL_law 951 = .ok (.iadd, 1) := by decide +kernel
theorem dL_law_952 : decode cL_law 952 = .ok (.iaload, 1) := by decide +kernel
theorem dL_law_953 : decode cL_law 953 = .ok (.invokevirtual 117, 3) := by decide +kernel
theorem dL_law_956 : decode cL_law 956 = .ok (.aload_n 2, 1) := by decide +kernel
theorem dL_law_957 : decode cL_law 957 = .ok (.aload_n 0, 1) := by decide +kernel
theorem dL_law_958 : decode cL_law 958 = .ok (.iload_n 3, 1) := by decide +kernel
theorem dL_law_959 : decode cL_law 959 = .ok (.iconst 1, 1) := by decide +kernel
theorem dL_law_960 : decode cL_law 960 = .ok (.iadd, 1) := by decide +kernel
theorem dL_law_961 : decode cL_law 961 = .ok (.iaload, 1) := by decide +kernel
theorem dL_law_962 : decode cL_law 962 = .ok (.aload_n 0, 1) := by decide +kernel
theorem dL_law_963 : decode cL_law 963 = .ok (.iload_n 3, 1) := by decide +kernel
theorem dL_law_964 : decode cL_law 964 = .ok (.iconst 2, 1) := by decide +kernel
theorem dL_law_965 : decode cL_law 965 = .ok (.iadd, 1) := by decide +kernel
theorem dL_law_966 : decode cL_law 966 = .ok (.iaload, 1) := by decide +kernel
theorem dL_law_967 : decode cL_law 967 = .ok (.aload_n 0, 1) := by decide +kernel
theorem dL_law_968 : decode cL_law 968 = .ok (.iload_n 3, 1) := by decide +kernel
theorem dL_law_969 : decode cL_law 969 = .ok (.iconst 3, 1) := by decide +kernel
theorem dL_law_970 : decode cL_law 970 = .ok (.iadd, 1) := by decide +kernel
theorem dL_law_971 : decode cL_law 971 = .ok (.iaload, 1) := by decide +kernel
theorem dL_law_972 : decode cL_law 972 = .ok (.invokevirtual 120, 3) := by decide +kernel
theorem dL_law_975 : decode cL_law 975 = .ok (.if_icmp .eq 316, 3) := by decide +kernel
theorem dL_law_978 : decode cL_law 978 = .ok (.iconst 0, 1) := by decide +kernel
theorem dL_law_979 : decode cL_law 979 = .ok (.ireturn, 1) := by decide +kernel
theorem dL_law_980 : decode cL_law 980 = .ok (.aload_n 1, 1) := by decide +kernel
theorem dL_law_981 : decode cL_law 981 = .ok (.aload_n 0, 1) := by decide +kernel
theorem dL_law_982 : decode cL_law 982 = .ok (.iload_n 3, 1) := by decide +kernel
theorem dL_law_983 : decode cL_law 983 = .ok (.iconst 1, 1) := by decide +kernel
theorem dL_law_984 : decode cL_law 984 = .ok (.iadd, 1) := by decide +kernel
theorem dL_law_985 : decode cL_law 985 = .ok (.iaload, 1) := by decide +kernel
theorem dL_law_986 : decode cL_law 986 = .ok (.aload_n 0, 1) := by decide +kernel
theorem dL_law_987 : decode cL_law 987 = .ok (.iload_n 3, 1) := by decide +kernel
theorem dL_law_988 : decode cL_law 988 = .ok (.iconst 2, 1) := by decide +kernel
theorem dL_law_989 : decode cL_law 989 = .ok (.iadd, 1) := by decide +kernel
theorem dL_law_990 : decode cL_law 990 = .ok (.iaload, 1) := by decide +kernel
theorem dL_law_991 : decode cL_law 991 = .ok (.aload_n 0, 1) := by decide +kernel
theorem dL_law_992 : decode cL_law 992 = .ok (.iload_n 3, 1) := by decide +kernel
theorem dL_law_993 : decode cL_law 993 = .ok (.iconst 3, 1) := by decide +kernel
theorem dL_law_994 : decode cL_law 994 = .ok (.iadd, 1) := by decide +kernel
theorem dL_law_995 : decode cL_law 995 = .ok (.iaload, 1) := by decide +kernel
theorem dL_law_996 : decode cL_law 996 = .ok (.i2l, 1) := by decide +kernel
theorem dL_law_997 : decode cL_law 997 = .ok (.bipush 32, 2) := by decide +kernel
theorem dL_law_999 : decode cL_law 999 = .ok (.lshl, 1) := by decide +kernel
theorem dL_law_1000 : decode cL_law 1000 = .ok (.aload_n 0, 1) := by decide +kernel
theorem dL_law_1001 : decode cL_law 1001 = .ok (.iload_n 3, 1) := by decide +kernel
theorem dL_law_1002 : decode cL_law 1002 = .ok (.iconst 4, 1) := by decide +kernel
theorem dL_law_1003 : decode cL_law 1003 = .ok (.iadd, 1) := by decide +kernel
theorem dL_law_1004 : decode cL_law 1004 = .ok (.iaload, 1) := by decide +kernel
theorem dL_law_1005 : decode cL_law 1005 = .ok (.i2l, 1) := by decide +kernel
theorem dL_law_1006 : decode cL_law 1006 = .ok (.ldc2_w 121, 3) := by decide +kernel
theorem dL_law_1009 : decode cL_law 1009 = .ok (.land, 1) := by decide +kernel
theorem dL_law_1010 : decode cL_law 1010 = .ok (.lor, 1) := by decide +kernel
theorem dL_law_1011 : decode cL_law 1011 = .ok (.invokevirtual 123, 3) := by decide +kernel
theorem dL_law_1014 : decode cL_law 1014 = .ok (.aload_n 2, 1) := by decide +kernel
theorem dL_law_1015 : decode cL_law 1015 = .ok (.aload_n 0, 1) := by decide +kernel
theorem dL_law_1016 : decode cL_law 1016 = .ok (.iload_n 3, 1) := by decide +kernel
theorem dL_law_1017 : decode cL_law 1017 = .ok (.iconst 1, 1) := by decide +kernel
theorem dL_law_1018 : decode cL_law 1018 = .ok (.iadd, 1) := by decide +kernel
theorem dL_law_1019 : decode cL_law 1019 = .ok (.iaload, 1) := by decide +kernel
theorem dL_law_1020 : decode cL_law 1020 = .ok (.aload_n 0, 1) := by decide +kernel
theorem dL_law_1021 : decode cL_law 1021 = .ok (.iload_n 3, 1) := by decide +kernel
theorem dL_law_1022 : decode cL_law 1022 = .ok (.iconst 2, 1) := by decide +kernel
theorem dL_law_1023 : decode cL_law 1023 = .ok (.iadd, 1) := by decide +kernel
theorem dL_law_1024 : decode cL_law 1024 = .ok (.iaload, 1) := by decide +kernel
theorem dL_law_1025 : decode cL_law 1025 = .ok (.aload_n 0, 1) := by decide +kernel
theorem dL_law_1026 : decode cL_law 1026 = .ok (.iload_n 3, 1) := by decide +kernel
theorem dL_law_1027 : decode cL_law 1027 = .ok (.iconst 3, 1) := by decide +kernel
theorem dL_law_1028 : decode cL_law 1028 = .ok (.iadd, 1) := by decide +kernel
theorem dL_law_1029 : decode cL_law 1029 = .ok (.iaload, 1) := by decide +kernel
theorem dL_law_1030 : decode cL_law 1030 = .ok (.i2l, 1) := by decide +kernel
theorem dL_law_1031 : decode cL_law 1031 = .ok (.bipush 32, 2) := by decide +kernel
theorem dL_law_1033 : decode cL_law 1033 = .ok (.lshl, 1) := by decide +kernel
theorem dL_law_1034 : decode cL_law 1034 = .ok (.aload_n 0, 1) := by decide +kernel
theorem dL_law_1035 : decode cL_law 1035 = .ok (.iload_n 3, 1) := by decide +kernel
theorem dL_law_1036 : decode cL_law 1036 = .ok (.iconst 4, 1) := by decide +kernel
theorem dL_law_1037 : decode cL_law 1037 = .ok (.iadd, 1) := by decide +kernel
theorem dL_law_1038 : decode cL_law 1038 = .ok (.iaload, 1) := by decide +kernel
theorem dL_law_1039 : decode cL_law 1039 = .ok (.i2l, 1) := by decide +kernel
theorem dL_law_1040 : decode cL_law 1040 = .ok (.ldc2_w 121, 3) := by decide +kernel
theorem dL_law_1043 : decode cL_law 1043 = .ok (.land, 1) := by decide +kernel
theorem dL_law_1044 : decode cL_law 1044 = .ok (.lor, 1) := by decide +kernel
theorem dL_law_1045 : decode cL_law 1045 = .ok (.invokevirtual 127, 3) := by decide +kernel
theorem dL_law_1048 : decode cL_law 1048 = .ok (.lcmp, 1) := by decide +kernel
theorem dL_law_1049 : decode cL_law 1049 = .ok (.ifCond .eq 242, 3) := by decide +kernel
theorem dL_law_1052 : decode cL_law 1052 = .ok (.iconst 0, 1) := by decide +kernel
theorem dL_law_1053 : decode cL_law 1053 = .ok (.ireturn, 1) := by decide +kernel
theorem dL_law_1054 : decode cL_law 1054 = .ok (.aload_n 1, 1) := by decide +kernel
theorem dL_law_1055 : decode cL_law 1055 = .ok (.aload_n 0, 1) := by decide +kernel
theorem dL_law_1056 : decode cL_law 1056 = .ok (.iload_n 3, 1) := by decide +kernel
theorem dL_law_1057 : decode cL_law 1057 = .ok (.iconst 1, 1) := by decide +kernel
theorem dL_law_1058 : decode cL_law 1058 = .ok (.iadd, 1) := by decide +kernel
theorem dL_law_1059 : decode cL_law 1059 = .ok (.iaload, 1) := by decide +kernel
theorem dL_law_1060 : decode cL_law 1060 = .ok (.aload_n 0, 1) := by decide +kernel
theorem dL_law_1061 : decode cL_law 1061 = .ok (.iload_n 3, 1) := by decide +kernel
theorem dL_law_1062 : decode cL_law 1062 = .ok (.iconst 2, 1) := by decide +kernel
theorem dL_law_1063 : decode cL_law 1063 = .ok (.iadd, 1) := by decide +kernel
theorem dL_law_1064 : decode cL_law 1064 = .ok (.iaload, 1) := by decide +kernel
theorem dL_law_1065 : decode cL_law 1065 = .ok (.aload_n 0, 1) := by decide +kernel
theorem dL_law_1066 : decode cL_law 1066 = .ok (.iload_n 3, 1) := by decide +kernel
theorem dL_law_1067 : decode cL_law 1067 = .ok (.iconst 3, 1) := by decide +kernel
theorem dL_law_1068 : decode cL_law 1068 = .ok (.iadd, 1) := by decide +kernel
theorem dL_law_1069 : decode cL_law 1069 = .ok (.iaload, 1) := by decide +kernel
theorem dL_law_1070 : decode cL_law 1070 = .ok (.aload_n 0, 1) := by decide +kernel
theorem dL_law_1071 : decode cL_law 1071 = .ok (.iload_n 3, 1) := by decide +kernel
theorem dL_law_1072 : decode cL_law 1072 = .ok (.iconst 4, 1) := by decide +kernel
theorem dL_law_1073 : decode cL_law 1073 = .ok (.iadd, 1) := by decide +kernel
theorem dL_law_1074 : decode cL_law 1074 = .ok (.iaload, 1) := by decide +kernel
theorem dL_law_1075 : decode cL_law 1075 = .ok (.aload_n 0, 1) := by decide +kernel
theorem dL_law_1076 : decode cL_law 1076 = .ok (.iload_n 3, 1) := by decide +kernel
theorem dL_law_1077 : decode cL_law 1077 = .ok (.iconst 5, 1) := by decide +kernel
theorem dL_law_1078 : decode cL_law 1078 = .ok (.iadd, 1) := by decide +kernel
theorem dL_law_1079 : decode cL_law 1079 = .ok (.iaload, 1) := by decide +kernel
theorem dL_law_1080 : decode cL_law 1080 = .ok (.invokevirtual 128, 3) := by decide +kernel
theorem dL_law_1083 : decode cL_law 1083 = .ok (.aload_n 2, 1) := by decide +kernel
theorem dL_law_1084 : decode cL_law 1084 = .ok (.aload_n 0, 1) := by decide +kernel
theorem dL_law_1085 : decode cL_law 1085 = .ok (.iload_n 3, 1) := by decide +kernel
theorem dL_law_1086 : decode cL_law 1086 = .ok (.iconst 1, 1) := by decide +kernel
theorem dL_law_1087 : decode cL_law 1087 = .ok (.iadd, 1) := by decide +kernel
theorem dL_law_1088 : decode cL_law 1088 = .ok (.iaload, 1) := by decide +kernel
theorem dL_law_1089 : decode cL_law 1089 = .ok (.aload_n 0, 1) := by decide +kernel
theorem dL_law_1090 : decode cL_law 1090 = .ok (.iload_n 3, 1) := by decide +kernel
theorem dL_law_1091 : decode cL_law 1091 = .ok (.iconst 2, 1) := by decide +kernel
theorem dL_law_1092 : decode cL_law 1092 = .ok (.iadd, 1) := by decide +kernel
theorem dL_law_1093 : decode cL_law 1093 = .ok (.iaload, 1) := by decide +kernel
theorem dL_law_1094 : decode cL_law 1094 = .ok (.aload_n 0, 1) := by decide +kernel
theorem dL_law_1095 : decode cL_law 1095 = .ok (.iload_n 3, 1) := by decide +kernel
theorem dL_law_1096 : decode cL_law 1096 = .ok (.iconst 3, 1) := by decide +kernel
theorem dL_law_1097 : decode cL_law 1097 = .ok (.iadd, 1) := by decide +kernel
theorem dL_law_1098 : decode cL_law 1098 = .ok (.iaload, 1) := by decide +kernel
theorem dL_law_1099 : decode cL_law 1099 = .ok (.aload_n 0, 1) := by decide +kernel
theorem dL_law_1100 : decode cL_law 1100 = .ok (.iload_n 3, 1) := by decide +kernel
theorem dL_law_1101 : decode cL_law 1101 = .ok (.iconst 4, 1) := by decide +kernel
theorem dL_law_1102 : decode cL_law 1102 = .ok (.iadd, 1) := by decide +kernel
theorem dL_law_1103 : decode cL_law 1103 = .ok (.iaload, 1) := by decide +kernel
theorem dL_law_1104 : decode cL_law 1104 = .ok (.aload_n 0, 1) := by decide +kernel
theorem dL_law_1105 : decode cL_law 1105 = .ok (.iload_n 3, 1) := by decide +kernel
theorem dL_law_1106 : decode cL_law 1106 = .ok (.iconst 5, 1) := by decide +kernel
theorem dL_law_1107 : decode cL_law 1107 = .ok (.iadd, 1) := by decide +kernel
theorem dL_law_1108 : decode cL_law 1108 = .ok (.iaload, 1) := by decide +kernel
theorem dL_law_1109 : decode cL_law 1109 = .ok (.invokevirtual 132, 3) := by decide +kernel
theorem dL_law_1112 : decode cL_law 1112 = .ok (.if_icmp .eq 179, 3) := by decide +kernel
theorem dL_law_1115 : decode cL_law 1115 = .ok (.iconst 0, 1) := by decide +kernel
theorem dL_law_1116 : decode cL_law 1116 = .ok (.ireturn, 1) := by decide +kernel
theorem dL_law_1117 : decode cL_law 1117 = .ok (.aload_n 1, 1) := by decide +kernel
theorem dL_law_1118 : decode cL_law 1118 = .ok (.aload_n 0, 1) := by decide +kernel
theorem dL_law_1119 : decode cL_law 1119 = .ok (.iload_n 3, 1) := by decide +kernel
theorem dL_law_1120 : decode cL_law 1120 = .ok (.iconst 1, 1) := by decide +kernel
theorem dL_law_1121 : decode cL_law 1121 = .ok (.iadd, 1) := by decide +kernel
theorem dL_law_1122 : decode cL_law 1122 = .ok (.iaload, 1) := by decide +kernel
theorem dL_law_1123 : decode cL_law 1123 = .ok (.invokevirtual 133, 3) := by decide +kernel
theorem dL_law_1126 : decode cL_law 1126 = .ok (.aload_n 2, 1) := by decide +kernel
theorem dL_law_1127 : decode cL_law 1127 = .ok (.aload_n 0, 1) := by decide +kernel
theorem dL_law_1128 : decode cL_law 1128 = .ok (.iload_n 3, 1) := by decide +kernel
theorem dL_law_1129 : decode cL_law 1129 = .ok (.iconst 1, 1) := by decide +kernel
theorem dL_law_1130 : decode cL_law 1130 = .ok (.iadd, 1) := by decide +kernel
theorem dL_law_1131 : decode cL_law 1131 = .ok (.iaload, 1) := by decide +kernel
theorem dL_law_1132 : decode cL_law 1132 = .ok (.invokevirtual 136, 3) := by decide +kernel
theorem dL_law_1135 : decode cL_law 1135 = .ok (.if_icmp .eq 156, 3) := by decide +kernel
theorem dL_law_1138 : decode cL_law 1138 = .ok (.iconst 0, 1) := by decide +kernel
theorem dL_law_1139 : decode cL_law 1139 = .ok (.ireturn, 1) := by decide +kernel
theorem dL_law_1140 : decode cL_law 1140 = .ok (.aload_n 1, 1) := by decide +kernel
theorem dL_law_1141 : decode cL_law 1141 = .ok (.aload_n 0, 1) := by decide +kernel
theorem dL_law_1142 : decode cL_law 1142 = .ok (.iload_n 3, 1) := by decide +kernel
theorem dL_law_1143 : decode cL_law 1143 = .ok (.iconst 1, 1) := by decide +kernel
theorem dL_law_1144 : decode cL_law 1144 = .ok (.iadd, 1) := by decide +kernel
theorem dL_law_1145 : decode cL_law 1145 = .ok (.iaload, 1) := by decide +kernel
theorem dL_law_1146 : decode cL_law 1146 = .ok (.aload_n 0, 1) := by decide +kernel
theorem dL_law_1147 : decode cL_law 1147 = .ok (.iload_n 3, 1) := by decide +kernel
theorem dL_law_1148 : decode cL_law 1148 = .ok (.iconst 2, 1) := by decide +kernel
theorem dL_law_1149 : decode cL_law 1149 = .ok (.iadd, 1) := by decide +kernel
theorem dL_law_1150 : decode cL_law 1150 = .ok (.iaload, 1) := by decide +kernel
theorem dL_law_1151 : decode cL_law 1151 = .ok (.invokevirtual 137, 3) := by decide +kernel
theorem dL_law_1154 : decode cL_law 1154 = .ok (.aload_n 2, 1) := by decide +kernel
theorem dL_law_1155 : decode cL_law 1155 = .ok (.aload_n 0, 1) := by decide +kernel
theorem dL_law_1156 : decode cL_law 1156 = .ok (.iload_n 3, 1) := by decide +kernel
theorem dL_law_1157 : decode cL_law 1157 = .ok (.iconst 1, 1) := by decide +kernel
theorem dL_law_1158 : decode cL_law 1158 = .ok (.iadd, 1) := by decide +kernel
theorem dL_law_1159 : decode cL_law 1159 = .ok (.iaload, 1) := by decide +kernel
theorem dL_law_1160 : decode cL_law 1160 = .ok (.aload_n 0, 1) := by decide +kernel
theorem dL_law_1161 : decode cL_law 1161 = .ok (.iload_n 3, 1) := by decide +kernel
theorem dL_law_1162 : decode cL_law 1162 = .ok (.iconst 2, 1) := by decide +kernel
theorem dL_law_1163 : decode cL_law 1163 = .ok (.iadd, 1) := by decide +kernel
theorem dL_law_1164 : decode cL_law 1164 = .ok (.iaload, 1) := by decide +kernel
theorem dL_law_1165 : decode cL_law 1165 = .ok (.invokevirtual 140, 3) := by decide +kernel
theorem dL_law_1168 : decode cL_law 1168 = .ok (.if_icmp .eq 123, 3) := by decide +kernel
theorem dL_law_1171 : decode cL_law 1171 = .ok (.iconst 0, 1) := by decide +kernel
theorem dL_law_1172 : decode cL_law 1172 = .ok (.ireturn, 1) := by decide +kernel
theorem dL_law_1173 : decode cL_law 1173 = .ok (.aload_n 1, 1) := by decide +kernel
theorem dL_law_1174 : decode cL_law 1174 = .ok (.aload_n 0, 1) := by decide +kernel
theorem dL_law_1175 : decode cL_law 1175 = .ok (.iload_n 3, 1) := by decide +kernel
theorem dL_law_1176 : decode cL_law 1176 = .ok (.iconst 1, 1) := by decide +kernel
theorem dL_law_1177 : decode cL_law 1177 = .ok (.iadd, 1) := by decide +kernel
theorem dL_law_1178 : decode cL_law 1178 = .ok (.iaload, 1) := by decide +kernel
theorem dL_law_1179 : decode cL_law 1179 = .ok (.aload_n 0, 1) := by decide +kernel
theorem dL_law_1180 : decode cL_law 1180 = .ok (.iload_n 3, 1) := by decide +kernel
theorem dL_law_1181 : decode cL_law 1181 = .ok (.iconst 2, 1) := by decide +kernel
theorem dL_law_1182 : decode cL_law 1182 = .ok (.iadd, 1) := by decide +kernel
theorem dL_law_1183 : decode cL_law 1183 = .ok (.iaload, 1) := by decide +kernel
theorem dL_law_1184 : decode cL_law 1184 = .ok (.invokevirtual 141, 3) := by decide +kernel
theorem dL_law_1187 : decode cL_law 1187 = .ok (.aload_n 2, 1) := by decide +kernel
theorem dL_law_1188 : decode cL_law 1188 = .ok (.aload_n 0, 1) := by decide +kernel
theorem dL_law_1189 : decode cL_law 1189 = .ok (.iload_n 3, 1) := by decide +kernel
theorem dL_law_1190 : decode cL_law 1190 = .ok (.iconst 1, 1) := by decide +kernel
theorem dL_law_1191 : decode cL_law 1191 = .ok (.iadd, 1) := by decide +kernel
theorem dL_law_1192 : decode cL_law 1192 = .ok (.iaload, 1) := by decide +kernel
theorem dL_law_1193 : decode cL_law 1193 = .ok (.aload_n 0, 1) := by decide +kernel
theorem dL_law_1194 : decode cL_law 1194 = .ok (.iload_n 3, 1) := by decide +kernel
theorem dL_law_1195 : decode cL_law 1195 = .ok (.iconst 2, 1) := by decide +kernel
theorem dL_law_1196 : decode cL_law 1196 = .ok (.iadd, 1) := by decide +kernel
theorem dL_law_1197 : decode cL_law 1197 = .ok (.iaload, 1) := by decide +kernel
theorem dL_law_1198 : decode cL_law 1198 = .ok (.invokevirtual 144, 3) := by decide +kernel
theorem dL_law_1201 : decode cL_law 1201 = .ok (.if_icmp .eq 90, 3) := by decide +kernel
theorem dL_law_1204 : decode cL_law 1204 = .ok (.iconst 0, 1) := by decide +kernel
theorem dL_law_1205 : decode cL_law 1205 = .ok (.ireturn, 1) := by decide +kernel
theorem dL_law_1206 : decode cL_law 1206 = .ok (.aload_n 1, 1) := by decide +kernel
theorem dL_law_1207 : decode cL_law 1207 = .ok (.invokevirtual 145, 3) := by decide +kernel
theorem dL_law_1210 : decode cL_law 1210 = .ok (.aload_n 2, 1) := by decide +kernel
theorem dL_law_1211 : decode cL_law 1211 = .ok (.invokevirtual 148, 3) := by decide +kernel
theorem dL_law_1214 : decode cL_law 1214 = .ok (.if_icmp .eq 77, 3) := by decide +kernel
theorem dL_law_1217 : decode cL_law 1217 = .ok (.iconst 0, 1) := by decide +kernel
theorem dL_law_1218 : decode cL_law 1218 = .ok (.ireturn, 1) := by decide +kernel
theorem dL_law_1219 : decode cL_law 1219 = .ok (.aload_n 1, 1) := by decide +kernel
theorem dL_law_1220 : decode cL_law 1220 = .ok (.invokevirtual 149, 3) := by decide +kernel
theorem dL_law_1223 : decode cL_law 1223 = .ok (.aload_n 2, 1) := by decide +kernel
theorem dL_law_1224 : decode cL_law 1224 = .ok (.invokevirtual 152, 3) := by decide +kernel
theorem dL_law_1227 : decode cL_law 1227 = .ok (.if_icmp .eq 64, 3) := by decide +kernel
theorem dL_law_1230 : decode cL_law 1230 = .ok (.iconst 0, 1) := by decide +kernel
theorem dL_law_1231 : decode cL_law 1231 = .ok (.ireturn, 1) := by decide +kernel
theorem dL_law_1232 : decode cL_law 1232 = .ok (.aload_n 1, 1) := by decide +kernel
theorem dL_law_1233 : decode cL_law 1233 = .ok (.invokevirtual 153, 3) := by decide +kernel
theorem dL_law_1236 : decode cL_law 1236 = .ok (.aload_n 2, 1) := by decide +kernel
theorem dL_law_1237 : decode cL_law 1237 = .ok (.invokevirtual 156, 3) := by decide +kernel
theorem dL_law_1240 : decode cL_law 1240 = .ok (.if_icmp .eq 51, 3) := by decide +kernel
theorem dL_law_1243 : decode cL_law 1243 = .ok (.iconst 0, 1) := by decide +kernel
theorem dL_law_1244 : decode cL_law 1244 = .ok (.ireturn, 1) := by decide +kernel
theorem dL_law_1245 : decode cL_law 1245 = .ok (.aload_n 1, 1) := by decide +kernel
theorem dL_law_1246 : decode cL_law 1246 = .ok (.aload_n 0, 1) := by decide +kernel
theorem dL_law_1247 : decode cL_law 1247 = .ok (.iload_n 3, 1) := by decide +kernel
theorem dL_law_1248 : decode cL_law 1248 = .ok (.iconst 1, 1) := by decide +kernel
theorem dL_law_1249 : decode cL_law 1249 = .ok (.iadd, 1) := by decide +kernel
theorem dL_law_1250 : decode cL_law 1250 = .ok (.iaload, 1) := by decide +kernel
theorem dL_law_1251 : decode cL_law 1251 = .ok (.invokevirtual 157, 3) := by decide +kernel
theorem dL_law_1254 : decode cL_law 1254 = .ok (.aload_n 2, 1) := by decide +kernel
theorem dL_law_1255 : decode cL_law 1255 = .ok (.aload_n 0, 1) := by decide +kernel
theorem dL_law_1256 : decode cL_law 1256 = .ok (.iload_n 3, 1) := by decide +kernel
theorem dL_law_1257 : decode cL_law 1257 = .ok (.iconst 1, 1) := by decide +kernel
theorem dL_law_1258 : decode cL_law 1258 = .ok (.iadd, 1) := by decide +kernel
theorem dL_law_1259 : decode cL_law 1259 = .ok (.iaload, 1) := by decide +kernel
theorem dL_law_1260 : decode cL_law 1260 = .ok (.invokevirtual 160, 3) := by decide +kernel
theorem dL_law_1263 : decode cL_law 1263 = .ok (.if_icmp .eq 28, 3) := by decide +kernel
theorem dL_law_1266 : decode cL_law 1266 = .ok (.iconst 0, 1) := by decide +kernel
theorem dL_law_1267 : decode cL_law 1267 = .ok (.ireturn, 1) := by decide +kernel
theorem dL_law_1268 : decode cL_law 1268 = .ok (.aload_n 1, 1) := by decide +kernel
theorem dL_law_1269 : decode cL_law 1269 = .ok (.aload_n 0, 1) := by decide +kernel
theorem dL_law_1270 : decode cL_law 1270 = .ok (.iload_n 3, 1) := by decide +kernel
theorem dL_law_1271 : decode cL_law 1271 = .ok (.iconst 1, 1) := by decide +kernel
theorem dL_law_1272 : decode cL_law 1272 = .ok (.iadd, 1) := by decide +kernel
theorem dL_law_1273 : decode cL_law 1273 = .ok (.iaload, 1) := by decide +kernel
theorem dL_law_1274 : decode cL_law 1274 = .ok (.invokevirtual 161, 3) := by decide +kernel
theorem dL_law_1277 : decode cL_law 1277 = .ok (.aload_n 2, 1) := by decide +kernel
theorem dL_law_1278 : decode cL_law 1278 = .ok (.aload_n 0, 1) := by decide +kernel
theorem dL_law_1279 : decode cL_law 1279 = .ok (.iload_n 3, 1) := by decide +kernel
theorem dL_law_1280 : decode cL_law 1280 = .ok (.iconst 1, 1) := by decide +kernel
theorem dL_law_1281 : decode cL_law 1281 = .ok (.iadd, 1) := by decide +kernel
theorem dL_law_1282 : decode cL_law 1282 = .ok (.iaload, 1) := by decide +kernel
theorem dL_law_1283 : decode cL_law 1283 = .ok (.invokevirtual 164, 3) := by decide +kernel
theorem dL_law_1286 : decode cL_law 1286 = .ok (.if_icmp .eq 5, 3) := by decide +kernel
theorem dL_law_1289 : decode cL_law 1289 = .ok (.iconst 0, 1) := by decide +kernel
theorem dL_law_1290 : decode cL_law 1290 = .ok (.ireturn, 1) := by decide +kernel
theorem dL_law_1291 : decode cL_law 1291 = .ok (.iinc 3 6, 3) := by decide +kernel
theorem dL_law_1294 : decode cL_law 1294 = .ok (.goto (-1276), 3) := by decide +kernel
theorem dL_law_1297 : decode cL_law 1297 = .ok (.iconst 1, 1) := by decide +kernel
theorem dL_law_1298 : decode cL_law 1298 = .ok (.ireturn, 1) := by decide +kernel
end
section
/-! ===== THE VIEW: a world by places, a frame by lists; refs are places (from 1000 on: String constants, from 2000 on: their bytes, 3000: the law's script) ===== -/
abbrev PE : Type := vp_A ⊕ (Nat × List Value)
abbrev PW : Type := List PE
def pg {α : Type} : List α → Nat → Option α
  | [], _ => none
  | a :: _, 0 => some a
  | _ :: l, n + 1 => pg l n
def ps {α : Type} : List α → Nat → α → List α
  | [], _, _ => []
  | _ :: l, 0, b => b :: l
  | a :: l, n + 1, b => a :: ps l n b
theorem pg_eq {α : Type} : ∀ (l : List α) (i : Nat), pg l i = l[i]?
  | [], i => by simp [pg]
  | a :: l, 0 => by simp [pg]
  | a :: l, n + 1 => by rw [pg, pg_eq l n, List.getElem?_cons_succ]
theorem ps_eq {α : Type} : ∀ (l : List α) (i : Nat) (b : α), ps l i b = l.set i b
  | [], i, b => by simp [ps]
  | a :: l, 0, b => by simp [ps]
  | a :: l, n + 1, b => by rw [ps, ps_eq l n b, List.set_cons_succ]
def cV (ad : Nat → Nat) (v : Value) : Value := match v with
  | .ref k => .ref (ad k)
  | v => v
def cA (cI cJ : ClassId) (a : vp_A) : ClassId := match a.2 with
  | .inr (.inl _) => cJ
  | _ => cI
def cE (cI cJ : ClassId) (ad : Nat → Nat) (x : PE) : va_E := match x with
  | .inl a => .inl (cA cI cJ a, a)
  | .inr o => .inr (o.1, o.2.map (cV ad))
def cWf (cI cJ : ClassId) (ad : Nat → Nat) : Nat → PW → va_W
  | _, [] => []
  | k, x :: w => (ad k, cE cI cJ ad x) :: cWf cI cJ ad (k + 1) w
theorem cWf_get (cI cJ : ClassId) (ad : Nat → Nat) : ∀ (w : PW) (k i : Nat), (cWf cI cJ ad k w)[i]? = (pg w i).map (fun x => (ad (k + i), cE cI cJ ad x))
  | [], k, i => by simp [cWf, pg]
  | x :: w, k, 0 => by simp [cWf, pg]
  | x :: w, k, i + 1 => by
    rw [cWf, List.getElem?_cons_succ, cWf_get cI cJ ad w (k + 1) i, pg, show k + 1 + i = k + (i + 1) by omega]
theorem cWf_set (cI cJ : ClassId) (ad : Nat → Nat) (x : PE) : ∀ (w : PW) (k i : Nat), cWf cI cJ ad k (ps w i x) = (cWf cI cJ ad k w).set i (ad (k + i), cE cI cJ ad x)
  | [], k, i => by simp [cWf, ps]
  | y :: w, k, 0 => by simp [cWf, ps]
  | y :: w, k, i + 1 => by
    rw [ps, cWf, cWf, List.set_cons_succ, cWf_set cI cJ ad x w (k + 1) i, show k + 1 + i = k + (i + 1) by omega]
theorem cW_at {cI cJ : ClassId} {ad : Nat → Nat} {w : PW} {i : Nat} {x : PE} (h : pg w i = some x) : (cWf cI cJ ad 0 w)[i]? = some (ad i, cE cI cJ ad x) := by
  rw [cWf_get, h]; simp
theorem ps_len {α : Type} (w : List α) (i : Nat) (x : α) : (ps w i x).length = w.length := by rw [ps_eq, List.length_set]
theorem pg_lt {α : Type} {l : List α} {i : Nat} {a : α} (h : pg l i = some a) : i < l.length := by
  rw [pg_eq] at h; exact (List.getElem?_eq_some_iff.mp h).1
theorem pg_some {α : Type} {l : List α} {i : Nat} (h : i < l.length) : ∃ a, pg l i = some a := ⟨l[i], by rw [pg_eq]; exact List.getElem?_eq_getElem h⟩
/-- the locals -/
def cLf (ad : Nat → Nat) : Nat → List (Option Value) → List (Nat × Value)
  | _, [] => []
  | k, none :: l => cLf ad (k + 1) l
  | k, some v :: l => (k, cV ad v) :: cLf ad (k + 1) l
theorem cLf_mem (ad : Nat → Nat) : ∀ (l : List (Option Value)) (k : Nat) (q : Nat × Value), q ∈ cLf ad k l ↔ ∃ (j : Nat) (v : Value), pg l j = some (some v) ∧ q = (k + j, cV ad v)
  | [], k, q => by simp [cLf, pg]
  | none :: l, k, q => by
    rw [cLf, cLf_mem ad l (k + 1) q]
    constructor
    · rintro ⟨j, v, h1, h2⟩
      exact ⟨j + 1, v, h1, by rw [h2]; congr 1; omega⟩
    · rintro ⟨j, v, h1, h2⟩
      cases j with
      | zero => simp [pg] at h1
      | succ j => exact ⟨j, v, h1, by rw [h2]; congr 1; omega⟩
  | some u :: l, k, q => by
    rw [cLf, List.mem_cons, cLf_mem ad l (k + 1) q]
    constructor
    · rintro (h | ⟨j, v, h1, h2⟩)
      · exact ⟨0, u, rfl, h⟩
      · exact ⟨j + 1, v, h1, by rw [h2]; congr 1; omega⟩
    · rintro ⟨j, v, h1, h2⟩
      cases j with
      | zero =>
        simp only [pg, Option.some.injEq] at h1
        subst h1
        exact Or.inl h2
      | succ j => exact Or.inr ⟨j, v, h1, by rw [h2]; congr 1; omega⟩
def kill2 (o : Option Value) : Option Value := match o with
  | some (.long _) => none
  | some (.double _) => none
  | o => o
def s1 : List (Option Value) → Nat → Value → List (Option Value)
  | [], _, _ => []
  | _ :: l, 0, v => some v :: l
  | o :: l, 1, v => kill2 o :: s1 l 0 v
  | o :: l, n + 2, v => o :: s1 l (n + 1) v
def tl0 : List (Option Value) → List (Option Value)
  | [] => []
  | _ :: l => none :: l
def s2 : List (Option Value) → Nat → Value → List (Option Value)
  | [], _, _ => []
  | _ :: l, 0, v => some v :: tl0 l
  | o :: l, 1, v => kill2 o :: s2 l 0 v
  | o :: l, n + 2, v => o :: s2 l (n + 1) v
theorem kill2_some {o : Option Value} {v : Value} (h : kill2 o = some v) : o = some v ∧ ¬ v.category = 2 := by
  cases o with
  | none => simp [kill2] at h
  | some u => cases u <;> simp_all [kill2, Value.category] <;> (subst h; simp [Value.category])
theorem s1_get : ∀ (l : List (Option Value)) (i : Nat) (v : Value) (j : Nat) (u : Value), pg (s1 l i v) j = some (some u) → (j = i ∧ u = v) ∨ (j ≠ i ∧ pg l j = some (some u) ∧ ¬ (j + 1 = i ∧ u.category = 2))
  | [], i, v, j, u, h => by simp [s1, pg] at h
  | o :: l, 0, v, j, u, h => by
    cases j with
    | zero => simp only [s1, pg, Option.some.injEq] at h; exact Or.inl ⟨rfl, h.symm⟩
    | succ j => exact Or.inr ⟨by omega, h, by omega⟩
  | o :: l, 1, v, j, u, h => by
    cases j with
    | zero =>
      simp only [s1, pg, Option.some.injEq] at h
      obtain ⟨h1, h2⟩ := kill2_some h
      exact Or.inr ⟨by omega, by rw [pg, h1], fun q => h2 q.2⟩
    | succ j =>
      rcases s1_get l 0 v j u h with ⟨h1, h2⟩ | ⟨h1, h2, h3⟩
      · exact Or.inl ⟨by omega, h2⟩
      · exact Or.inr ⟨by omega, h2, fun q => h3 ⟨by omega, q.2⟩⟩
  | o :: l, n + 2, v, j, u, h => by
    cases j with
    | zero => exact Or.inr ⟨by omega, h, by omega⟩
    | succ j =>
      rcases s1_get l (n + 1) v j u h with ⟨h1, h2⟩ | ⟨h1, h2, h3⟩
      · exact Or.inl ⟨by omega, h2⟩
      · exact Or.inr ⟨by omega, h2, fun q => h3 ⟨by omega, q.2⟩⟩
theorem s2_get : ∀ (l : List (Option Value)) (i : Nat) (v : Value) (j : Nat) (u : Value), pg (s2 l i v) j = some (some u) → (j = i ∧ u = v) ∨ (j ≠ i ∧ j ≠ i + 1 ∧ pg l j = some (some u) ∧ ¬ (j + 1 = i ∧ u.category = 2))
  | [], i, v, j, u, h => by simp [s2, pg] at h
  | o :: l, 0, v, j, u, h => by
    cases j with
    | zero => simp only [s2, pg, Option.some.injEq] at h; exact Or.inl ⟨rfl, h.symm⟩
    | succ j =>
      cases l with
      | nil => simp [s2, tl0, pg] at h
      | cons o2 l =>
        cases j with
        | zero => simp [s2, tl0, pg] at h
        | succ j => exact Or.inr ⟨by omega, by omega, h, by omega⟩
  | o :: l, 1, v, j, u, h => by
    cases j with
    | zero =>
      simp only [s2, pg, Option.some.injEq] at h
      obtain ⟨h1, h2⟩ := kill2_some h
      exact Or.inr ⟨by omega, by omega, by rw [pg, h1], fun q => h2 q.2⟩
    | succ j =>
      rcases s2_get l 0 v j u h with ⟨h1, h2⟩ | ⟨h1, h1', h2, h3⟩
      · exact Or.inl ⟨by omega, h2⟩
      · exact Or.inr ⟨by omega, by omega, h2, fun q => h3 ⟨by omega, q.2⟩⟩
  | o :: l, n + 2, v, j, u, h => by
    cases j with
    | zero => exact Or.inr ⟨by omega, by omega, h, by omega⟩
    | succ j =>
      rcases s2_get l (n + 1) v j u h with ⟨h1, h2⟩ | ⟨h1, h1', h2, h3⟩
      · exact Or.inl ⟨by omega, h2⟩
      · exact Or.inr ⟨by omega, by omega, h2, fun q => h3 ⟨by omega, q.2⟩⟩
theorem cV_cat (ad : Nat → Nat) (v : Value) : (cV ad v).category = v.category := by cases v <;> rfl
theorem cL_at {ad : Nat → Nat} {ls : Array Slot} {nL : Nat} {lo : List (Option Value)} (h : lv_has ls nL (cLf ad 0 lo)) {i : Nat} {v : Value} (hi : pg lo i = some (some v)) : ls[i]? = some (.val (cV ad v)) := h.2.2 (i, cV ad v) ((cLf_mem ad lo 0 (i, cV ad v)).mpr ⟨i, v, hi, by simp⟩)
theorem cL_s1 {ad : Nat → Nat} {ls : Array Slot} {nL : Nat} {lo : List (Option Value)} {i : Nat} {v : Value} (h : lv_has ls nL ((i, cV ad v) :: (cLf ad 0 lo).filter (fun q => !(q.1 == i) && !(q.1 + 1 == i && q.2.category == 2)))) : lv_has ls nL (cLf ad 0 (s1 lo i v)) := by
  refine ⟨h.1, h.2.1, fun q hq => ?_⟩
  obtain ⟨j, u, h1, rfl⟩ := (cLf_mem ad _ 0 q).mp hq
  refine h.2.2 _ ?_
  rcases s1_get lo i v j u h1 with ⟨rfl, rfl⟩ | ⟨h2, h3, h4⟩
  · simp
  · refine List.mem_cons_of_mem _ (List.mem_filter.mpr ⟨(cLf_mem ad lo 0 _).mpr ⟨j, u, h3, rfl⟩, ?_⟩)
    simp only [Nat.zero_add, cV_cat, Bool.and_eq_true, Bool.not_eq_true', beq_eq_false_iff_ne, Bool.and_eq_false_imp, beq_iff_eq]
    exact ⟨h2, fun q1 q2 => h4 ⟨q1, q2⟩⟩
theorem cL_s2 {ad : Nat → Nat} {ls : Array Slot} {nL : Nat} {lo : List (Option Value)} {i : Nat} {v : Value} (h : lv_has ls nL ((i, cV ad v) :: (cLf ad 0 lo).filter (fun q => !(q.1 == i) && (!(q.1 == i + 1) && !(q.1 + 1 == i && q.2.category == 2))))) : lv_has ls nL (cLf ad 0 (s2 lo i v)) := by
  refine ⟨h.1, h.2.1, fun q hq => ?_⟩
  obtain ⟨j, u, h1, rfl⟩ := (cLf_mem ad _ 0 q).mp hq
  refine h.2.2 _ ?_
  rcases s2_get lo i v j u h1 with ⟨rfl, rfl⟩ | ⟨h2, h2', h3, h4⟩
  · simp
  · refine List.mem_cons_of_mem _ (List.mem_filter.mpr ⟨(cLf_mem ad lo 0 _).mpr ⟨j, u, h3, rfl⟩, ?_⟩)
    simp only [Nat.zero_add, cV_cat, Bool.and_eq_true, Bool.not_eq_true', beq_eq_false_iff_ne, Bool.and_eq_false_imp, beq_iff_eq]
    exact ⟨h2, h2', fun q1 q2 => h4 ⟨q1, q2⟩⟩
/-- fewer locals -/
def lsub : List (Option Value) → List (Option Value) → Prop
  | [], _ => True
  | none :: l, [] => lsub l []
  | none :: l, _ :: r => lsub l r
  | some _ :: _, [] => False
  | some v :: l, o :: r => o = some v ∧ lsub l r
theorem lsub_get : ∀ (l r : List (Option Value)), lsub l r → ∀ (i : Nat) (v : Value), pg l i = some (some v) → pg r i = some (some v)
  | [], r, _, i, v, h => by simp [pg] at h
  | none :: l, [], hs, 0, v, h => by simp [pg] at h
  | none :: l, [], hs, i + 1, v, h => by
    have := lsub_get l [] hs i v h
    simp [pg] at this
  | none :: l, o :: r, hs, 0, v, h => by simp [pg] at h
  | none :: l, o :: r, hs, i + 1, v, h => lsub_get l r hs i v h
  | some u :: l, [], hs, i, v, h => hs.elim
  | some u :: l, o :: r, hs, 0, v, h => by
    simp only [pg, Option.some.injEq] at h ⊢
    rw [hs.1, h]
  | some u :: l, o :: r, hs, i + 1, v, h => lsub_get l r hs.2 i v h
theorem cL_sub {ad : Nat → Nat} {ls : Array Slot} {nL : Nat} {l r : List (Option Value)} (hs : lsub l r) (h : lv_has ls nL (cLf ad 0 r)) : lv_has ls nL (cLf ad 0 l) := by
  refine ⟨h.1, h.2.1, fun q hq => ?_⟩
  obtain ⟨j, u, h1, rfl⟩ := (cLf_mem ad _ 0 q).mp hq
  exact h.2.2 _ ((cLf_mem ad r 0 _).mpr ⟨j, u, lsub_get l r hs j u h1, rfl⟩)
/-- the locals with which a method begins -/
def eL : Nat → List Value → List (Option Value)
  | n, [] => List.replicate n none
  | n, .long x :: l => some (.long x) :: none :: eL (n - 2) l
  | n, .double x :: l => some (.double x) :: none :: eL (n - 2) l
  | n, v :: l => some v :: eL (n - 1) l
theorem eL_get (ad : Nat → Nat) : ∀ (l : List Value) (n k : Nat) (j : Nat) (u : Value), pg (eL n l) j = some (some u) → (k + j, cV ad u) ∈ lv_args k (l.map (cV ad))
  | [], n, k, j, u, h => by
    rw [eL, pg_eq, List.getElem?_replicate] at h
    split at h <;> simp at h
  | v :: l, n, k, j, u, h => by
    by_cases hc : v.category = 2
    · have e : eL n (v :: l) = some v :: none :: eL (n - 2) l := by cases v <;> first | rfl | simp [Value.category] at hc
      rw [e] at h
      rw [List.map_cons, lv_args, cV_cat, if_pos hc]
      cases j with
      | zero =>
        simp only [pg, Option.some.injEq] at h
        subst h
        exact List.mem_cons_self
      | succ j =>
        cases j with
        | zero => simp [pg] at h
        | succ j =>
          have := eL_get ad l (n - 2) (k + 2) j u h
          rw [show k + (j + 1 + 1) = k + 2 + j by omega]
          exact List.mem_cons_of_mem _ this
    · have e : eL n (v :: l) = some v :: eL (n - 1) l := by cases v <;> first | rfl | simp [Value.category] at hc
      rw [e] at h
      rw [List.map_cons, lv_args, cV_cat, if_neg hc]
      cases j with
      | zero =>
        simp only [pg, Option.some.injEq] at h
        subst h
        exact List.mem_cons_self
      | succ j =>
        have := eL_get ad l (n - 1) (k + 1) j u h
        rw [show k + (j + 1) = k + 1 + j by omega]
        exact List.mem_cons_of_mem _ this
end
section
/-! ===== the judgement V, contracts Runs ===== -/
def tbG : List Cond := lw_tbl.filter goodWord
theorem tbG_in {w : Cond} (h : w ∈ lw_tbl) (hg : goodWord w = true) : w ∈ tbG := List.mem_filter.mpr ⟨h, hg⟩
theorem tbG_good : GoodIn tbG tbG := fun w hw => ⟨hw, good_of_word (List.mem_filter.mp hw).2⟩
def nestT : List (String × Nat × MethodName × String) := [(RX4, 24, yX2_init, RX4), (RX4, 31, yX3_init, RX4), (RX4, 38, yX0_init, RX4), (RX1, 88, yX4_isIn, RX4), (RX1, 114, yX4_isHouse, RX4), (RX3, 117, yX4_within, RX4)]
def strT : List (Nat × String) := [(105, "baron"), (107, "child"), (109, "doctor"), (111, "bishop"), (113, "babe"), (115, "sneezer"), (77, "south"), (83, "cold"), (92, "tickle"), (47, "open"), (52, "shut"), (54, "dry"), (59, "lamp")]
def lenS : List Nat := [5, 5, 6, 6, 4, 7, 5, 4, 6, 4, 4, 3, 4]
def bytS : List (List Int32) := [[98, 97, 114, 111, 110], [99, 104, 105, 108, 100], [100, 111, 99, 116, 111, 114], [98, 105, 115, 104, 111, 112], [98, 97, 98, 101], [115, 110, 101, 101, 122, 101, 114], [115, 111, 117, 116, 104], [99, 111, 108, 100], [116, 105, 99, 107, 108, 101], [111, 112, 101, 110], [115, 104, 117, 116], [100, 114, 121], [108, 97, 109, 112]]
/-- what the tables, the statics and the String constants are -/
def KX (D : va_G) (cI cJ : ClassId) (ad : Nat → Nat) (A : Nat → Prop) (U : State) (H : Heap) : Prop :=
  va_K D vwCl [(cI, .int), (cJ, .long)] U ∧ (∀ q ∈ nestT, va_Nw (.methodLinkNest q.1 q.2.1 q.2.2.1 q.2.2.2) U) ∧ vk_S 13 lenS bytS (fun i => ad (1000 + i)) (fun i => ad (2000 + i)) A U H ∧ (∀ (i : Nat) (q : Nat × String), strT[i]? = some q → vk_R RX3 q.1 q.2 (ad (1000 + i)) U) ∧ va_Z "java/lang/String" "COMPACT_STRINGS" "Z" (.int 1) A U H ∧ (va_Z "jdk/internal/util/Preconditions" "SIOOBE_FORMATTER" "Ljava/util/function/BiFunction;" .null A U H ∨ va_Z "jdk/internal/util/Preconditions" "SIOOBE_FORMATTER" "Ljava/util/function/BiFunction;" (.ref (ad 3001)) A U H)
theorem KX.warm {D : va_G} {cI cJ : ClassId} {ad : Nat → Nat} {A : Nat → Prop} {s U : State} {H : Heap} (hW : s.WarmedH U.vm) (h : KX D cI cJ ad A s H) : KX D cI cJ ad A U H :=
  ⟨va_K.moved hW.alike h.1, fun q hq => va_Nw.warmM hW (h.2.1 q hq), vk_S.moved hW.alike h.2.2.1, fun i q hq => vk_R.warm hW (h.2.2.2.1 i q hq), va_Z.moved hW.alike h.2.2.2.2.1, h.2.2.2.2.2.imp (va_Z.moved hW.alike) (va_Z.moved hW.alike)⟩
theorem KX.same {D : va_G} {cI cJ : ClassId} {ad : Nat → Nat} {A : Nat → Prop} {s U : State} {H : Heap} (hv : s.vm = U.vm) (h : KX D cI cJ ad A s H) : KX D cI cJ ad A U H := by
  have hA : s.vm.Alike U.vm := by rw [hv]; exact Vm.Alike.refl _
  exact ⟨va_K.moved hA h.1, fun q hq => va_Nw.same rfl hv (h.2.1 q hq), vk_S.moved hA h.2.2.1, fun i q hq => vk_R.same hv.symm (h.2.2.2.1 i q hq), va_Z.moved hA h.2.2.2.2.1, h.2.2.2.2.2.imp (va_Z.moved hA) (va_Z.moved hA)⟩
theorem KX.kept {D : va_G} {cI cJ : ClassId} {ad : Nat → Nat} {A : Nat → Prop} {U : State} {H H1 : Heap} (h : KX D cI cJ ad A U H) (hq : ∀ a : Nat, a < H.size → ¬ A a → H1[a]? = H[a]?) : KX D cI cJ ad A U H1 :=
  ⟨h.1, h.2.1, h.2.2.1.kept hq, h.2.2.2.1, h.2.2.2.2.1.kept hq, h.2.2.2.2.2.imp (fun z => z.kept hq) (fun z => z.kept hq)⟩
theorem KX.narrow {D : va_G} {cI cJ : ClassId} {ad : Nat → Nat} {A B : Nat → Prop} {U : State} {H : Heap} (h : KX D cI cJ ad A U H) (hAB : ∀ q, B q → A q) : KX D cI cJ ad B U H :=
  ⟨h.1, h.2.1, h.2.2.1.narrow hAB, h.2.2.2.1, h.2.2.2.2.1.narrow hAB, h.2.2.2.2.2.imp (fun z => z.narrow hAB) (fun z => z.narrow hAB)⟩
/-- other names for the places -/
theorem KX.ren {D : va_G} {cI cJ : ClassId} {ad ad' : Nat → Nat} {A : Nat → Prop} {U : State} {H : Heap} (he : ∀ i, 1000 ≤ i → ad' i = ad i) (h : KX D cI cJ ad A U H) : KX D cI cJ ad' A U H := by
  have e1 : (fun i => ad' (1000 + i)) = (fun i => ad (1000 + i)) := funext fun i => he _ (by omega)
  have e2 : (fun i => ad' (2000 + i)) = (fun i => ad (2000 + i)) := funext fun i => he _ (by omega)
  refine ⟨h.1, h.2.1, by rw [e1, e2]; exact h.2.2.1, fun i q hq => by rw [he _ (by omega)]; exact h.2.2.2.1 i q hq, h.2.2.2.2.1, by rw [he _ (by omega)]; exact h.2.2.2.2.2⟩
def pA (ad : Nat → Nat) (N : Nat) : Nat → Prop := fun q => ∃ k : Nat, k < N ∧ q = ad k
def rmD (d : Nat) : Room := { frames := d, cells := 0, slots := 0, locals := 38 * d }
def PcV (D : va_G) (cI cJ : ClassId) (ad : Nat → Nat) (av : List Value) (w : PW) : Array Value → State → Prop := fun v U =>
  v = (av.map (cV ad)).toArray ∧ KX D cI cJ ad (pA ad w.length) U U.heap ∧ va_P D vwCl (cWf cI cJ ad 0 w) U.heap ∧ ∀ i j : Nat, i < w.length → j < w.length → ad i = ad j → i = j
def QcV (D : va_G) (cI cJ : ClassId) (ad : Nat → Nat) (N : Nat) (Q : Option Value → PW → Prop) : Array Value → State → Outcome → State → Prop := fun _ st o t =>
  (∃ (r : Option Value) (w : PW), o = .returned (r.map (cV ad)) ∧ Q r w ∧ w.length = N ∧ va_P D vwCl (cWf cI cJ ad 0 w) t.heap) ∧ va_F (pA ad N) st t
/-- THE CONTRACT: called with av in the world w, y returns, with Q of its answer and the world behind it; d levels of calls lie below -/
def Runs (d : Nat) (y : MethodName) (cc : ByteArray) (mL : Nat) (ret : Option FieldType) (av : List Value) (w : PW) (Q : Option Value → PW → Prop) : Prop :=
  ∀ (l : Launch) (D : va_G) (cI cJ : ClassId) (ad : Nat → Nat), Met l y (Cond.code y cc mL ret :: tbG) (rmD d) (PcV D cI cJ ad av w) (QcV D cI cJ ad w.length Q) 0 0 (pA ad w.length)
abbrev VX : Type := Program × Launch × Env × Room × State × MethodId × Array Value × List Frame × Method × Code × va_G × ClassId × ClassId × (Nat → Nat) × Nat × (State → Prop) × Nat × Nat × Nat
def V (X : VX) (pc : Nat) (lo : List (Option Value)) (st : List Value) (w : PW) : Prop := match X with
  | (p, l, e, R, s, m, args, below, meth, c, D, cI, cJ, ad, N, Z, nL, kc, ks) =>
    w.length = N → ∀ (H : Heap) (locs : List Loc) (ls : Array Slot), va_P D vwCl (cWf cI cJ ad 0 w) H → va_S (pA ad N) s.heap H locs → lv_has ls nL (cLf ad 0 lo) → W p l e R s m args below meth c H locs kc ks Z (F0 m pc ls (st.map (cV ad)))
def VG (X : VX) (cc : ByteArray) (own : String) (d : Nat) : Prop := match X with
  | (p, l, e, R, s, m, args, below, meth, c, D, cI, cJ, ad, N, Z, nL, kc, ks) =>
    p.tables.exec = Jvm.exec ∧ c.code = cc ∧ c.maxLocals = nL ∧ s.vm.findClass own = some m.cls ∧ (∀ w ∈ tbG, w.before args s = true) ∧ KX D cI cJ ad (pA ad N) s s.heap ∧ (∀ i j : Nat, i < N → j < N → ad i = ad j → i = j) ∧ (d ≤ R.frames ∧ 38 * d ≤ R.locals) ∧ (kc ≤ R.cells ∧ ks ≤ R.slots)
def VR (X : VX) (ret : Option FieldType) (Q : Option Value → PW → Prop) : Prop := match X with
  | (p, l, e, R, s, m, args, below, meth, c, D, cI, cJ, ad, N, Z, nL, kc, ks) =>
    meth.sig.returnType = ret ∧ meth.locks = false ∧ Z = MQ below (QcV D cI cJ ad N Q) args s kc ks (pA ad N)
def nLo (X : VX) : Nat := match X with
  | (_, _, _, _, _, _, _, _, _, _, _, _, _, _, _, _, nL, _, _) => nL
theorem PcV.blind {D : va_G} {cI cJ : ClassId} {ad : Nat → Nat} {av : List Value} {w : PW} : FrameBlind (PcV D cI cJ ad av w) := fun a U g mk h => ⟨h.1, KX.same (s := U) (U := U.calling g mk a) rfl h.2.1, h.2.2.1, h.2.2.2⟩
/-- a method, from its entry -/
theorem Runs.of {d : Nat} {y : MethodName} {cc : ByteArray} {mL : Nat} {ret : Option FieldType} {av : List Value} {w : PW} {Q : Option Value → PW → Prop} {lo : List (Option Value)} (hy : plainName y.cls = true) (hlen : (av.map Value.category).sum ≤ mL) (hlo : eL mL av = lo)
    (body : ∀ X : VX, VG X cc y.cls d → VR X ret Q → nLo X = mL → V X 0 lo [] w) : Runs d y cc mL ret av w Q := by
  intro l D cI cJ ad
  refine Met.ofW (cc := cc) (maxL := mL) (ret := ret) hy rfl ?_
  intro p e s m args below meth c s₁ B hml hv
  obtain ⟨rfl, hK, hP, hinj⟩ := hv
  have hts := atoms_spec (ws := Cond.code y cc mL ret :: tbG) B.pre
  have hown : s.vm.findClass y.cls = some m.cls := findClass_of_methodNamed B.named
  have hl1 : (lg_sl (av.map (cV ad))).length ≤ mL := by
    refine Nat.le_trans (Nat.le_of_eq ?_) hlen
    clear hts hown B hK hP body hlo hlen
    induction av with
    | nil => rfl
    | cons v l ih =>
      have h2 : ∀ (u : Value) (r : List Value), (lg_sl (u :: r)).length = u.category + (lg_sl r).length := by
        intro u r
        cases u <;> simp [lg_sl, Value.category] <;> omega
      rw [List.map_cons, h2, ih, List.map_cons, List.sum_cons, cV_cat]
  have hl := lv_entry (av.map (cV ad)) (n := mL) hl1
  have hl2 : lv_has ((lg_sl (av.map (cV ad)) ++ List.replicate (mL - (lg_sl (av.map (cV ad))).length) Slot.unset).toArray) mL (cLf ad 0 lo) := by
    refine ⟨hl.1, hl.2.1, fun q hq => ?_⟩
    obtain ⟨j, u, h1, rfl⟩ := (cLf_mem ad _ 0 q).mp hq
    rw [← hlo] at h1
    exact hl.2.2 _ (eL_get ad av mL 0 j u h1)
  have K := body (p, l, e, (headSpec (Cond.code y cc mL ret :: tbG) (rmD d)).room, s, m, (av.map (cV ad)).toArray, below, meth, c, D, cI, cJ, ad, w.length, MQ below (QcV D cI cJ ad w.length Q) (av.map (cV ad)).toArray s 0 0 (pA ad w.length), mL, 0, 0)
    ⟨B.exec, B.bytes, hml, hown, fun x hx => hts x (List.mem_cons_of_mem _ hx), hK, hinj, ⟨Nat.le_refl _, Nat.le_refl _⟩, ⟨Nat.zero_le _, Nat.zero_le _⟩⟩ ⟨B.returns, B.notSynchronized, rfl⟩ rfl rfl s.heap [] _ hP va_S.rf hl2
  rw [lg_entry_eq]
  exact K
end
section
/-! ===== the rows of V: an instruction each (written by wip/gen/mk_rows.py) ===== -/
def cK (v : Value) : Bool := match v with
  | .ref _ => false
  | _ => true
theorem cK_cV {ad : Nat → Nat} {v : Value} (h : cK v = true) : cV ad v = v := by cases v <;> first | rfl | simp [cK] at h
theorem cV_sum (ad : Nat → Nat) (st : List Value) : ((st.map (cV ad)).map fun v => v.category).sum = (st.map fun v => v.category).sum := by
  rw [List.map_map]; congr 1; exact List.map_congr_left fun v _ => cV_cat ad v
def CLok (ci : Nat) (C : String) (T : u_T) (N : Nat) (ty : Nat → FieldType) : Prop := vwCl[ci]? = some (C, T, N) ∧ (∀ w ∈ u_ws C T N, w ∈ tbG) ∧ (∀ k, k < N → parseFieldDescriptor (T k).2.2.1 = some (ty k)) ∧ ∀ a, a < N → ∀ b, b < N → a ≠ b → (T a).2.1 ≠ (T b).2.1
def FL (own : String) (idx ci j : Nat) : Prop := ∃ (C : String) (T : u_T) (N : Nat) (ty : Nat → FieldType), CLok ci C T N ty ∧ j < N ∧ (T j).1 = C ∧ Cond.fieldLink own idx C (T j).2.1 (T j).2.2.1 ∈ tbG
def FP (own : String) (idx ci j : Nat) (t : FieldType) : Prop := ∃ (C : String) (T : u_T) (N : Nat) (ty : Nat → FieldType), CLok ci C T N ty ∧ j < N ∧ (T j).1 = C ∧ Cond.fieldLink own idx C (T j).2.1 (T j).2.2.1 ∈ tbG ∧ (T j).2.2.2 = false ∧ parseFieldDescriptor (T j).2.2.1 = some t
theorem vD {cI cJ : ClassId} {ad : Nat → Nat} {N : Nat} {w : PW} (hinj : ∀ i j : Nat, i < N → j < N → ad i = ad j → i = j) (hN : w.length = N) : va_D (pA ad N) (cWf cI cJ ad 0 w) := by
  have key : ∀ (k : Nat) (q : Nat × va_E), (cWf cI cJ ad 0 w)[k]? = some q → k < N ∧ q.1 = ad k := by
    intro k q hk
    rw [cWf_get] at hk
    cases hw : pg w k with
    | none => rw [hw] at hk; cases hk
    | some x =>
      rw [hw] at hk
      cases hk
      exact ⟨by rw [← hN]; exact pg_lt hw, by rw [Nat.zero_add]⟩
  refine ⟨fun i j a b hi hj hab => ?_, fun k q hk => ⟨k, (key k q hk).1, (key k q hk).2⟩⟩
  obtain ⟨h1, h2⟩ := key i a hi
  obtain ⟨h3, h4⟩ := key j b hj
  exact hinj i j h1 h3 (by rw [← h2, ← h4, hab])
theorem v_w {X : VX} {pc : Nat} {lo : List (Option Value)} {st : List Value} {w : PW} (w2 : PW) (h : w = w2) (k : V X pc lo st w2) : V X pc lo st w := h ▸ k
theorem v_lo {X : VX} {pc : Nat} {lo : List (Option Value)} {st : List Value} {w : PW} (lo2 : List (Option Value)) (h : lsub lo2 lo) (k : V X pc lo2 st w) : V X pc lo st w := by
  obtain ⟨p, l, e, R, s, m, args, below, meth, c, D, cI, cJ, ad, N, Z, nL, kc, ks⟩ := X
  exact fun hN H locs ls hP hS hl => k hN H locs ls hP hS (cL_sub h hl)
theorem wm_ini : Cond.initialized "java/lang/Math" ∈ tbG := tbG_in (List.mem_of_getElem? (i := 70) (by decide +kernel)) (by decide +kernel)
theorem wm_max : Cond.static Lib.Math.max.name ∈ tbG ∧ Cond.code Lib.Math.max.name Lib.Math.max.code 2 (some .int) ∈ tbG := ⟨tbG_in (List.mem_of_getElem? (i := 329) (by decide +kernel)) (by decide +kernel), tbG_in (List.mem_of_getElem? (i := 330) (by decide +kernel)) (by decide +kernel)⟩
theorem wm_min : Cond.static Lib.Math.min.name ∈ tbG ∧ Cond.code Lib.Math.min.name Lib.Math.min.code 2 (some .int) ∈ tbG := ⟨tbG_in (List.mem_of_getElem? (i := 382) (by decide +kernel)) (by decide +kernel), tbG_in (List.mem_of_getElem? (i := 383) (by decide +kernel)) (by decide +kernel)⟩
theorem wm_abs : Cond.static Lib.Math.abs.name ∈ tbG ∧ Cond.code Lib.Math.abs.name Lib.Math.abs.code 1 (some .int) ∈ tbG := ⟨tbG_in (List.mem_of_getElem? (i := 408) (by decide +kernel)) (by decide +kernel), tbG_in (List.mem_of_getElem? (i := 409) (by decide +kernel)) (by decide +kernel)⟩
theorem v_iadd {X : VX} {cc : ByteArray} {own : String} {d pc : Nat} {lo : List (Option Value)} {st : List Value} {w : PW} {x y : Int32} (g : VG X cc own d) (hd : decode cc pc = .ok (.iadd, 1))  (k : V X (pc + 1) lo (.int (x + y) :: st) w) : V X pc lo (.int y :: .int x :: st) w := by
  obtain ⟨p, l, e, R, s, m, args, below, meth, c, D, cI, cJ, ad, N, Z, nL, kc, ks⟩ := X
  obtain ⟨hx, hb, hml, hown, hts, hK, hinj, hR, hC⟩ := g
  intro hN H locs ls hP hS hl
  exact lv_iadd hx hb hd (k hN H locs ls hP hS hl)
theorem v_isub {X : VX} {cc : ByteArray} {own : String} {d pc : Nat} {lo : List (Option Value)} {st : List Value} {w : PW} {x y : Int32} (g : VG X cc own d) (hd : decode cc pc = .ok (.isub, 1))  (k : V X (pc + 1) lo (.int (x - y) :: st) w) : V X pc lo (.int y :: .int x :: st) w := by
  obtain ⟨p, l, e, R, s, m, args, below, meth, c, D, cI, cJ, ad, N, Z, nL, kc, ks⟩ := X
  obtain ⟨hx, hb, hml, hown, hts, hK, hinj, hR, hC⟩ := g
  intro hN H locs ls hP hS hl
  exact lv_isub hx hb hd (k hN H locs ls hP hS hl)
theorem v_imul {X : VX} {cc : ByteArray} {own : String} {d pc : Nat} {lo : List (Option Value)} {st : List Value} {w : PW} {x y : Int32} (g : VG X cc own d) (hd : decode cc pc = .ok (.imul, 1))  (k : V X (pc + 1) lo (.int (x * y) :: st) w) : V X pc lo (.int y :: .int x :: st) w := by
  obtain ⟨p, l, e, R, s, m, args, below, meth, c, D, cI, cJ, ad, N, Z, nL, kc, ks⟩ := X
  obtain ⟨hx, hb, hml, hown, hts, hK, hinj, hR, hC⟩ := g
  intro hN H locs ls hP hS hl
  exact lv_imul hx hb hd (k hN H locs ls hP hS hl)
theorem v_iand {X : VX} {cc : ByteArray} {own : String} {d pc : Nat} {lo : List (Option Value)} {st : List Value} {w : PW} {x y : Int32} (g : VG X cc own d) (hd : decode cc pc = .ok (.iand, 1))  (k : V X (pc + 1) lo (.int (x &&& y) :: st) w) : V X pc lo (.int y :: .int x :: st) w := by
  obtain ⟨p, l, e, R, s, m, args, below, meth, c, D, cI, cJ, ad, N, Z, nL, kc, ks⟩ := X
  obtain ⟨hx, hb, hml, hown, hts, hK, hinj, hR, hC⟩ := g
  intro hN H locs ls hP hS hl
  exact lv_iand hx hb hd (k hN H locs ls hP hS hl)
theorem v_ior {X : VX} {cc : ByteArray} {own : String} {d pc : Nat} {lo : List (Option Value)} {st : List Value} {w : PW} {x y : Int32} (g : VG X cc own d) (hd : decode cc pc = .ok (.ior, 1))  (k : V X (pc + 1) lo (.int (x ||| y) :: st) w) : V X pc lo (.int y :: .int x :: st) w := by
  obtain ⟨p, l, e, R, s, m, args, below, meth, c, D, cI, cJ, ad, N, Z, nL, kc, ks⟩ := X
  obtain ⟨hx, hb, hml, hown, hts, hK, hinj, hR, hC⟩ := g
  intro hN H locs ls hP hS hl
  exact lv_ior hx hb hd (k hN H locs ls hP hS hl)
theorem v_ishl {X : VX} {cc : ByteArray} {own : String} {d pc : Nat} {lo : List (Option Value)} {st : List Value} {w : PW} {x y : Int32} (g : VG X cc own d) (hd : decode cc pc = .ok (.ishl, 1))  (k : V X (pc + 1) lo (.int (x <<< (y &&& 31)) :: st) w) : V X pc lo (.int y :: .int x :: st) w := by
  obtain ⟨p, l, e, R, s, m, args, below, meth, c, D, cI, cJ, ad, N, Z, nL, kc, ks⟩ := X
  obtain ⟨hx, hb, hml, hown, hts, hK, hinj, hR, hC⟩ := g
  intro hN H locs ls hP hS hl
  exact lv_ishl hx hb hd (k hN H locs ls hP hS hl)
theorem v_ishr {X : VX} {cc : ByteArray} {own : String} {d pc : Nat} {lo : List (Option Value)} {st : List Value} {w : PW} {x y : Int32} (g : VG X cc own d) (hd : decode cc pc = .ok (.ishr, 1))  (k : V X (pc + 1) lo (.int (x >>> (y &&& 31)) :: st) w) : V X pc lo (.int y :: .int x :: st) w := by
  obtain ⟨p, l, e, R, s, m, args, below, meth, c, D, cI, cJ, ad, N, Z, nL, kc, ks⟩ := X
  obtain ⟨hx, hb, hml, hown, hts, hK, hinj, hR, hC⟩ := g
  intro hN H locs ls hP hS hl
  exact lv_ishr hx hb hd (k hN H locs ls hP hS hl)
theorem v_idiv {X : VX} {cc : ByteArray} {own : String} {d pc : Nat} {lo : List (Option Value)} {st : List Value} {w : PW} {x y : Int32} (g : VG X cc own d) (hd : decode cc pc = .ok (.idiv, 1)) (hne : ¬ y = 0) (k : V X (pc + 1) lo (.int (x / y) :: st) w) : V X pc lo (.int y :: .int x :: st) w := by
  obtain ⟨p, l, e, R, s, m, args, below, meth, c, D, cI, cJ, ad, N, Z, nL, kc, ks⟩ := X
  obtain ⟨hx, hb, hml, hown, hts, hK, hinj, hR, hC⟩ := g
  intro hN H locs ls hP hS hl
  exact lv_idiv hx hb hd hne (k hN H locs ls hP hS hl)
theorem v_irem {X : VX} {cc : ByteArray} {own : String} {d pc : Nat} {lo : List (Option Value)} {st : List Value} {w : PW} {x y : Int32} (g : VG X cc own d) (hd : decode cc pc = .ok (.irem, 1)) (hne : ¬ y = 0) (k : V X (pc + 1) lo (.int (x - x / y * y) :: st) w) : V X pc lo (.int y :: .int x :: st) w := by
  obtain ⟨p, l, e, R, s, m, args, below, meth, c, D, cI, cJ, ad, N, Z, nL, kc, ks⟩ := X
  obtain ⟨hx, hb, hml, hown, hts, hK, hinj, hR, hC⟩ := g
  intro hN H locs ls hP hS hl
  exact lv_irem hx hb hd hne (k hN H locs ls hP hS hl)
theorem v_ineg {X : VX} {cc : ByteArray} {own : String} {d pc : Nat} {lo : List (Option Value)} {st : List Value} {w : PW} {x : Int32} (g : VG X cc own d) (hd : decode cc pc = .ok (.ineg, 1)) (k : V X (pc + 1) lo (.int (-x) :: st) w) : V X pc lo (.int x :: st) w := by
  obtain ⟨p, l, e, R, s, m, args, below, meth, c, D, cI, cJ, ad, N, Z, nL, kc, ks⟩ := X
  obtain ⟨hx, hb, hml, hown, hts, hK, hinj, hR, hC⟩ := g
  intro hN H locs ls hP hS hl
  exact lv_ineg hx hb hd (k hN H locs ls hP hS hl)
theorem v_ladd {X : VX} {cc : ByteArray} {own : String} {d pc : Nat} {lo : List (Option Value)} {st : List Value} {w : PW} {x y : Int64} (g : VG X cc own d) (hd : decode cc pc = .ok (.ladd, 1)) (k : V X (pc + 1) lo (.long (x + y) :: st) w) : V X pc lo (.long y :: .long x :: st) w := by
  obtain ⟨p, l, e, R, s, m, args, below, meth, c, D, cI, cJ, ad, N, Z, nL, kc, ks⟩ := X
  obtain ⟨hx, hb, hml, hown, hts, hK, hinj, hR, hC⟩ := g
  intro hN H locs ls hP hS hl
  exact lv_ladd hx hb hd (k hN H locs ls hP hS hl)
theorem v_lsub {X : VX} {cc : ByteArray} {own : String} {d pc : Nat} {lo : List (Option Value)} {st : List Value} {w : PW} {x y : Int64} (g : VG X cc own d) (hd : decode cc pc = .ok (.lsub, 1)) (k : V X (pc + 1) lo (.long (x - y) :: st) w) : V X pc lo (.long y :: .long x :: st) w := by
  obtain ⟨p, l, e, R, s, m, args, below, meth, c, D, cI, cJ, ad, N, Z, nL, kc, ks⟩ := X
  obtain ⟨hx, hb, hml, hown, hts, hK, hinj, hR, hC⟩ := g
  intro hN H locs ls hP hS hl
  exact lv_lsub hx hb hd (k hN H locs ls hP hS hl)
theorem v_lmul {X : VX} {cc : ByteArray} {own : String} {d pc : Nat} {lo : List (Option Value)} {st : List Value} {w : PW} {x y : Int64} (g : VG X cc own d) (hd : decode cc pc = .ok (.lmul, 1)) (k : V X (pc + 1) lo (.long (x * y) :: st) w) : V X pc lo (.long y :: .long x :: st) w := by
  obtain ⟨p, l, e, R, s, m, args, below, meth, c, D, cI, cJ, ad, N, Z, nL, kc, ks⟩ := X
  obtain ⟨hx, hb, hml, hown, hts, hK, hinj, hR, hC⟩ := g
  intro hN H locs ls hP hS hl
  exact lv_lmul hx hb hd (k hN H locs ls hP hS hl)
theorem v_land {X : VX} {cc : ByteArray} {own : String} {d pc : Nat} {lo : List (Option Value)} {st : List Value} {w : PW} {x y : Int64} (g : VG X cc own d) (hd : decode cc pc = .ok (.land, 1)) (k : V X (pc + 1) lo (.long (x &&& y) :: st) w) : V X pc lo (.long y :: .long x :: st) w := by
  obtain ⟨p, l, e, R, s, m, args, below, meth, c, D, cI, cJ, ad, N, Z, nL, kc, ks⟩ := X
  obtain ⟨hx, hb, hml, hown, hts, hK, hinj, hR, hC⟩ := g
  intro hN H locs ls hP hS hl
  exact lv_land hx hb hd (k hN H locs ls hP hS hl)
theorem v_lor {X : VX} {cc : ByteArray} {own : String} {d pc : Nat} {lo : List (Option Value)} {st : List Value} {w : PW} {x y : Int64} (g : VG X cc own d) (hd : decode cc pc = .ok (.lor, 1)) (k : V X (pc + 1) lo (.long (x ||| y) :: st) w) : V X pc lo (.long y :: .long x :: st) w := by
  obtain ⟨p, l, e, R, s, m, args, below, meth, c, D, cI, cJ, ad, N, Z, nL, kc, ks⟩ := X
  obtain ⟨hx, hb, hml, hown, hts, hK, hinj, hR, hC⟩ := g
  intro hN H locs ls hP hS hl
  exact lv_lor hx hb hd (k hN H locs ls hP hS hl)
theorem v_lshl {X : VX} {cc : ByteArray} {own : String} {d pc : Nat} {lo : List (Option Value)} {st : List Value} {w : PW} {x : Int64} {y : Int32} (g : VG X cc own d) (hd : decode cc pc = .ok (.lshl, 1)) (k : V X (pc + 1) lo (.long (x <<< (y.toInt64 &&& 63)) :: st) w) : V X pc lo (.int y :: .long x :: st) w := by
  obtain ⟨p, l, e, R, s, m, args, below, meth, c, D, cI, cJ, ad, N, Z, nL, kc, ks⟩ := X
  obtain ⟨hx, hb, hml, hown, hts, hK, hinj, hR, hC⟩ := g
  intro hN H locs ls hP hS hl
  exact lv_lshl hx hb hd rfl (k hN H locs ls hP hS hl)
theorem v_lshr {X : VX} {cc : ByteArray} {own : String} {d pc : Nat} {lo : List (Option Value)} {st : List Value} {w : PW} {x : Int64} {y : Int32} (g : VG X cc own d) (hd : decode cc pc = .ok (.lshr, 1)) (k : V X (pc + 1) lo (.long (x >>> (y.toInt64 &&& 63)) :: st) w) : V X pc lo (.int y :: .long x :: st) w := by
  obtain ⟨p, l, e, R, s, m, args, below, meth, c, D, cI, cJ, ad, N, Z, nL, kc, ks⟩ := X
  obtain ⟨hx, hb, hml, hown, hts, hK, hinj, hR, hC⟩ := g
  intro hN H locs ls hP hS hl
  exact lv_lshr hx hb hd rfl (k hN H locs ls hP hS hl)
theorem v_lcmp {X : VX} {cc : ByteArray} {own : String} {d pc : Nat} {lo : List (Option Value)} {st : List Value} {w : PW} {x y : Int64} (g : VG X cc own d) (hd : decode cc pc = .ok (.lcmp, 1)) (k : V X (pc + 1) lo (.int (lg_cmp x y) :: st) w) : V X pc lo (.long y :: .long x :: st) w := by
  obtain ⟨p, l, e, R, s, m, args, below, meth, c, D, cI, cJ, ad, N, Z, nL, kc, ks⟩ := X
  obtain ⟨hx, hb, hml, hown, hts, hK, hinj, hR, hC⟩ := g
  intro hN H locs ls hP hS hl
  exact W.lcmp hx hb hd (k hN H locs ls hP hS hl)
theorem v_i2l {X : VX} {cc : ByteArray} {own : String} {d pc : Nat} {lo : List (Option Value)} {st : List Value} {w : PW} {x : Int32} (g : VG X cc own d) (hd : decode cc pc = .ok (.i2l, 1)) (k : V X (pc + 1) lo (.long (x.toInt64) :: st) w) : V X pc lo (.int x :: st) w := by
  obtain ⟨p, l, e, R, s, m, args, below, meth, c, D, cI, cJ, ad, N, Z, nL, kc, ks⟩ := X
  obtain ⟨hx, hb, hml, hown, hts, hK, hinj, hR, hC⟩ := g
  intro hN H locs ls hP hS hl
  exact lv_i2l hx hb hd rfl (k hN H locs ls hP hS hl)
theorem v_i2b {X : VX} {cc : ByteArray} {own : String} {d pc : Nat} {lo : List (Option Value)} {st : List Value} {w : PW} {x : Int32} (g : VG X cc own d) (hd : decode cc pc = .ok (.i2b, 1)) (k : V X (pc + 1) lo (.int (x.toInt8.toInt32) :: st) w) : V X pc lo (.int x :: st) w := by
  obtain ⟨p, l, e, R, s, m, args, below, meth, c, D, cI, cJ, ad, N, Z, nL, kc, ks⟩ := X
  obtain ⟨hx, hb, hml, hown, hts, hK, hinj, hR, hC⟩ := g
  intro hN H locs ls hP hS hl
  exact lv_i2b hx hb hd rfl (k hN H locs ls hP hS hl)
theorem v_i2s {X : VX} {cc : ByteArray} {own : String} {d pc : Nat} {lo : List (Option Value)} {st : List Value} {w : PW} {x : Int32} (g : VG X cc own d) (hd : decode cc pc = .ok (.i2s, 1)) (k : V X (pc + 1) lo (.int (x.toInt16.toInt32) :: st) w) : V X pc lo (.int x :: st) w := by
  obtain ⟨p, l, e, R, s, m, args, below, meth, c, D, cI, cJ, ad, N, Z, nL, kc, ks⟩ := X
  obtain ⟨hx, hb, hml, hown, hts, hK, hinj, hR, hC⟩ := g
  intro hN H locs ls hP hS hl
  exact lv_i2s hx hb hd rfl (k hN H locs ls hP hS hl)
theorem v_i2c {X : VX} {cc : ByteArray} {own : String} {d pc : Nat} {lo : List (Option Value)} {st : List Value} {w : PW} {x : Int32} (g : VG X cc own d) (hd : decode cc pc = .ok (.i2c, 1)) (k : V X (pc + 1) lo (.int ((x.toUInt32 % 65536).toInt32) :: st) w) : V X pc lo (.int x :: st) w := by
  obtain ⟨p, l, e, R, s, m, args, below, meth, c, D, cI, cJ, ad, N, Z, nL, kc, ks⟩ := X
  obtain ⟨hx, hb, hml, hown, hts, hK, hinj, hR, hC⟩ := g
  intro hN H locs ls hP hS hl
  exact lv_i2c hx hb hd rfl (k hN H locs ls hP hS hl)
theorem v_l2i {X : VX} {cc : ByteArray} {own : String} {d pc : Nat} {lo : List (Option Value)} {st : List Value} {w : PW} {x : Int64} (g : VG X cc own d) (hd : decode cc pc = .ok (.l2i, 1)) (k : V X (pc + 1) lo (.int x.toInt32 :: st) w) : V X pc lo (.long x :: st) w := by
  obtain ⟨p, l, e, R, s, m, args, below, meth, c, D, cI, cJ, ad, N, Z, nL, kc, ks⟩ := X
  obtain ⟨hx, hb, hml, hown, hts, hK, hinj, hR, hC⟩ := g
  intro hN H locs ls hP hS hl
  exact lv_l2i hx hb hd rfl (k hN H locs ls hP hS hl)
theorem v_iconst {X : VX} {cc : ByteArray} {own : String} {d pc : Nat} {lo : List (Option Value)} {st : List Value} {w : PW} {n : Int} {v : Int32} (g : VG X cc own d) (hd : decode cc pc = .ok (.iconst n, 1)) (hv : Int32.ofInt n = v) (k : V X (pc + 1) lo (.int v :: st) w) : V X pc lo st w := by
  obtain ⟨p, l, e, R, s, m, args, below, meth, c, D, cI, cJ, ad, N, Z, nL, kc, ks⟩ := X
  obtain ⟨hx, hb, hml, hown, hts, hK, hinj, hR, hC⟩ := g
  intro hN H locs ls hP hS hl
  exact lv_iconst hx hb hd hv (k hN H locs ls hP hS hl)
theorem v_bipush {X : VX} {cc : ByteArray} {own : String} {d pc : Nat} {lo : List (Option Value)} {st : List Value} {w : PW} {n : Int} {v : Int32} (g : VG X cc own d) (hd : decode cc pc = .ok (.bipush n, 2)) (hv : (Int8.ofInt n).toInt32 = v) (k : V X (pc + 2) lo (.int v :: st) w) : V X pc lo st w := by
  obtain ⟨p, l, e, R, s, m, args, below, meth, c, D, cI, cJ, ad, N, Z, nL, kc, ks⟩ := X
  obtain ⟨hx, hb, hml, hown, hts, hK, hinj, hR, hC⟩ := g
  intro hN H locs ls hP hS hl
  exact lv_bipush hx hb hd hv (k hN H locs ls hP hS hl)
theorem v_sipush {X : VX} {cc : ByteArray} {own : String} {d pc : Nat} {lo : List (Option Value)} {st : List Value} {w : PW} {n : Int} {v : Int32} (g : VG X cc own d) (hd : decode cc pc = .ok (.sipush n, 3)) (hv : (Int16.ofInt n).toInt32 = v) (k : V X (pc + 3) lo (.int v :: st) w) : V X pc lo st w := by
  obtain ⟨p, l, e, R, s, m, args, below, meth, c, D, cI, cJ, ad, N, Z, nL, kc, ks⟩ := X
  obtain ⟨hx, hb, hml, hown, hts, hK, hinj, hR, hC⟩ := g
  intro hN H locs ls hP hS hl
  exact lv_sipush hx hb hd hv (k hN H locs ls hP hS hl)
theorem v_lconst {X : VX} {cc : ByteArray} {own : String} {d pc : Nat} {lo : List (Option Value)} {st : List Value} {w : PW} {n : Fin 2} {v : Int64} (g : VG X cc own d) (hd : decode cc pc = .ok (.lconst n, 1)) (hv : Int64.ofNat (n : Nat) = v) (k : V X (pc + 1) lo (.long v :: st) w) : V X pc lo st w := by
  obtain ⟨p, l, e, R, s, m, args, below, meth, c, D, cI, cJ, ad, N, Z, nL, kc, ks⟩ := X
  obtain ⟨hx, hb, hml, hown, hts, hK, hinj, hR, hC⟩ := g
  intro hN H locs ls hP hS hl
  exact lv_lconst hx hb hd hv (k hN H locs ls hP hS hl)
theorem v_ldc {X : VX} {cc : ByteArray} {own : String} {d pc : Nat} {lo : List (Option Value)} {st : List Value} {w : PW} {n : Nat} {v : Int32} (g : VG X cc own d) (hd : decode cc pc = .ok (.ldc n, 2)) (hv : Cond.constant own n v ∈ tbG) (k : V X (pc + 2) lo (.int v :: st) w) : V X pc lo st w := by
  obtain ⟨p, l, e, R, s, m, args, below, meth, c, D, cI, cJ, ad, N, Z, nL, kc, ks⟩ := X
  obtain ⟨hx, hb, hml, hown, hts, hK, hinj, hR, hC⟩ := g
  intro hN H locs ls hP hS hl
  exact lv_ldc hx hb hown (hts _ hv) hd (k hN H locs ls hP hS hl)
theorem v_ldcw {X : VX} {cc : ByteArray} {own : String} {d pc : Nat} {lo : List (Option Value)} {st : List Value} {w : PW} {n : Nat} {v : Int32} (g : VG X cc own d) (hd : decode cc pc = .ok (.ldc_w n, 3)) (hv : Cond.constant own n v ∈ tbG) (k : V X (pc + 3) lo (.int v :: st) w) : V X pc lo st w := by
  obtain ⟨p, l, e, R, s, m, args, below, meth, c, D, cI, cJ, ad, N, Z, nL, kc, ks⟩ := X
  obtain ⟨hx, hb, hml, hown, hts, hK, hinj, hR, hC⟩ := g
  intro hN H locs ls hP hS hl
  exact lv_ldcw hx hb hown (hts _ hv) hd (k hN H locs ls hP hS hl)
theorem v_ldc2 {X : VX} {cc : ByteArray} {own : String} {d pc : Nat} {lo : List (Option Value)} {st : List Value} {w : PW} {n : Nat} {v : Int64} (g : VG X cc own d) (hd : decode cc pc = .ok (.ldc2_w n, 3)) (hv : Cond.constantLong own n v ∈ tbG) (k : V X (pc + 3) lo (.long v :: st) w) : V X pc lo st w := by
  obtain ⟨p, l, e, R, s, m, args, below, meth, c, D, cI, cJ, ad, N, Z, nL, kc, ks⟩ := X
  obtain ⟨hx, hb, hml, hown, hts, hK, hinj, hR, hC⟩ := g
  intro hN H locs ls hP hS hl
  exact lv_ldc2 hx hb hown (hts _ hv) hd (k hN H locs ls hP hS hl)
theorem v_iload_n {X : VX} {cc : ByteArray} {own : String} {d pc : Nat} {lo : List (Option Value)} {st : List Value} {w : PW} {k0 : Fin 4} {x : Int32} (i : Nat) (g : VG X cc own d) (hd : decode cc pc = .ok (.iload_n k0, 1)) (hi : (k0 : Nat) = i) (hv : pg lo i = some (some (.int x))) (k : V X (pc + 1) lo (.int x :: st) w) : V X pc lo st w := by
  obtain ⟨p, l, e, R, s, m, args, below, meth, c, D, cI, cJ, ad, N, Z, nL, kc, ks⟩ := X
  obtain ⟨hx, hb, hml, hown, hts, hK, hinj, hR, hC⟩ := g
  intro hN H locs ls hP hS hl
  exact lv_iload_n hx hb hd hi (cL_at hl hv) (k hN H locs ls hP hS hl)
theorem v_iload {X : VX} {cc : ByteArray} {own : String} {d pc : Nat} {lo : List (Option Value)} {st : List Value} {w : PW} {i : Nat} {x : Int32} (g : VG X cc own d) (hd : decode cc pc = .ok (.iload i, 2)) (hv : pg lo i = some (some (.int x))) (k : V X (pc + 2) lo (.int x :: st) w) : V X pc lo st w := by
  obtain ⟨p, l, e, R, s, m, args, below, meth, c, D, cI, cJ, ad, N, Z, nL, kc, ks⟩ := X
  obtain ⟨hx, hb, hml, hown, hts, hK, hinj, hR, hC⟩ := g
  intro hN H locs ls hP hS hl
  exact lv_iload hx hb hd (cL_at hl hv) (k hN H locs ls hP hS hl)
theorem v_lload_n {X : VX} {cc : ByteArray} {own : String} {d pc : Nat} {lo : List (Option Value)} {st : List Value} {w : PW} {k0 : Fin 4} {x : Int64} (i : Nat) (g : VG X cc own d) (hd : decode cc pc = .ok (.lload_n k0, 1)) (hi : (k0 : Nat) = i) (hv : pg lo i = some (some (.long x))) (k : V X (pc + 1) lo (.long x :: st) w) : V X pc lo st w := by
  obtain ⟨p, l, e, R, s, m, args, below, meth, c, D, cI, cJ, ad, N, Z, nL, kc, ks⟩ := X
  obtain ⟨hx, hb, hml, hown, hts, hK, hinj, hR, hC⟩ := g
  intro hN H locs ls hP hS hl
  exact lv_lload_n hx hb hd hi (cL_at hl hv) (k hN H locs ls hP hS hl)
theorem v_lload {X : VX} {cc : ByteArray} {own : String} {d pc : Nat} {lo : List (Option Value)} {st : List Value} {w : PW} {i : Nat} {x : Int64} (g : VG X cc own d) (hd : decode cc pc = .ok (.lload i, 2)) (hv : pg lo i = some (some (.long x))) (k : V X (pc + 2) lo (.long x :: st) w) : V X pc lo st w := by
  obtain ⟨p, l, e, R, s, m, args, below, meth, c, D, cI, cJ, ad, N, Z, nL, kc, ks⟩ := X
  obtain ⟨hx, hb, hml, hown, hts, hK, hinj, hR, hC⟩ := g
  intro hN H locs ls hP hS hl
  exact lv_lload hx hb hd (cL_at hl hv) (k hN H locs ls hP hS hl)
theorem v_aload_n {X : VX} {cc : ByteArray} {own : String} {d pc : Nat} {lo : List (Option Value)} {st : List Value} {w : PW} {k0 : Fin 4} {x : Nat} (i : Nat) (g : VG X cc own d) (hd : decode cc pc = .ok (.aload_n k0, 1)) (hi : (k0 : Nat) = i) (hv : pg lo i = some (some (.ref x))) (k : V X (pc + 1) lo (.ref x :: st) w) : V X pc lo st w := by
  obtain ⟨p, l, e, R, s, m, args, below, meth, c, D, cI, cJ, ad, N, Z, nL, kc, ks⟩ := X
  obtain ⟨hx, hb, hml, hown, hts, hK, hinj, hR, hC⟩ := g
  intro hN H locs ls hP hS hl
  exact lv_aload_n hx hb hd hi (cL_at hl hv) (k hN H locs ls hP hS hl)
theorem v_aload {X : VX} {cc : ByteArray} {own : String} {d pc : Nat} {lo : List (Option Value)} {st : List Value} {w : PW} {i : Nat} {x : Nat} (g : VG X cc own d) (hd : decode cc pc = .ok (.aload i, 2)) (hv : pg lo i = some (some (.ref x))) (k : V X (pc + 2) lo (.ref x :: st) w) : V X pc lo st w := by
  obtain ⟨p, l, e, R, s, m, args, below, meth, c, D, cI, cJ, ad, N, Z, nL, kc, ks⟩ := X
  obtain ⟨hx, hb, hml, hown, hts, hK, hinj, hR, hC⟩ := g
  intro hN H locs ls hP hS hl
  exact lv_aload hx hb hd (cL_at hl hv) (k hN H locs ls hP hS hl)
theorem v_istore_n {X : VX} {cc : ByteArray} {own : String} {d pc : Nat} {lo : List (Option Value)} {st : List Value} {w : PW} {k0 : Fin 4} {x : Int32} (i : Nat) (lo2 : List (Option Value)) (g : VG X cc own d) (hd : decode cc pc = .ok (.istore_n k0, 1)) (hi : (k0 : Nat) = i) (hn : i < lo.length) (hL : lo.length = nLo X) (h2 : s1 lo i (.int x) = lo2) (k : V X (pc + 1) lo2 st w) : V X pc lo (.int x :: st) w := by
  obtain ⟨p, l, e, R, s, m, args, below, meth, c, D, cI, cJ, ad, N, Z, nL, kc, ks⟩ := X
  obtain ⟨hx, hb, hml, hown, hts, hK, hinj, hR, hC⟩ := g
  intro hN H locs ls hP hS hl
  subst h2
  exact lv_istore_n hx hb hd hi hl (by rw [hL] at hn; exact hn) rfl (fun ls2 hl2 => k hN H locs ls2 hP hS (cL_s1 (v := .int x) hl2))
theorem v_istore {X : VX} {cc : ByteArray} {own : String} {d pc : Nat} {lo : List (Option Value)} {st : List Value} {w : PW} {i : Nat} {x : Int32} (lo2 : List (Option Value)) (g : VG X cc own d) (hd : decode cc pc = .ok (.istore i, 2)) (hn : i < lo.length) (hL : lo.length = nLo X) (h2 : s1 lo i (.int x) = lo2) (k : V X (pc + 2) lo2 st w) : V X pc lo (.int x :: st) w := by
  obtain ⟨p, l, e, R, s, m, args, below, meth, c, D, cI, cJ, ad, N, Z, nL, kc, ks⟩ := X
  obtain ⟨hx, hb, hml, hown, hts, hK, hinj, hR, hC⟩ := g
  intro hN H locs ls hP hS hl
  subst h2
  exact lv_istore hx hb hd hl (by rw [hL] at hn; exact hn) rfl (fun ls2 hl2 => k hN H locs ls2 hP hS (cL_s1 (v := .int x) hl2))
theorem v_astore_n {X : VX} {cc : ByteArray} {own : String} {d pc : Nat} {lo : List (Option Value)} {st : List Value} {w : PW} {k0 : Fin 4} {x : Nat} (i : Nat) (lo2 : List (Option Value)) (g : VG X cc own d) (hd : decode cc pc = .ok (.astore_n k0, 1)) (hi : (k0 : Nat) = i) (hn : i < lo.length) (hL : lo.length = nLo X) (h2 : s1 lo i (.ref x) = lo2) (k : V X (pc + 1) lo2 st w) : V X pc lo (.ref x :: st) w := by
  obtain ⟨p, l, e, R, s, m, args, below, meth, c, D, cI, cJ, ad, N, Z, nL, kc, ks⟩ := X
  obtain ⟨hx, hb, hml, hown, hts, hK, hinj, hR, hC⟩ := g
  intro hN H locs ls hP hS hl
  subst h2
  exact lv_astore_n hx hb hd hi hl (by rw [hL] at hn; exact hn) rfl (fun ls2 hl2 => k hN H locs ls2 hP hS (cL_s1 (v := .ref x) hl2))
theorem v_astore {X : VX} {cc : ByteArray} {own : String} {d pc : Nat} {lo : List (Option Value)} {st : List Value} {w : PW} {i : Nat} {x : Nat} (lo2 : List (Option Value)) (g : VG X cc own d) (hd : decode cc pc = .ok (.astore i, 2)) (hn : i < lo.length) (hL : lo.length = nLo X) (h2 : s1 lo i (.ref x) = lo2) (k : V X (pc + 2) lo2 st w) : V X pc lo (.ref x :: st) w := by
  obtain ⟨p, l, e, R, s, m, args, below, meth, c, D, cI, cJ, ad, N, Z, nL, kc, ks⟩ := X
  obtain ⟨hx, hb, hml, hown, hts, hK, hinj, hR, hC⟩ := g
  intro hN H locs ls hP hS hl
  subst h2
  exact lv_astore hx hb hd hl (by rw [hL] at hn; exact hn) rfl (fun ls2 hl2 => k hN H locs ls2 hP hS (cL_s1 (v := .ref x) hl2))
theorem v_lstore {X : VX} {cc : ByteArray} {own : String} {d pc : Nat} {lo : List (Option Value)} {st : List Value} {w : PW} {i : Nat} {x : Int64} (lo2 : List (Option Value)) (g : VG X cc own d) (hd : decode cc pc = .ok (.lstore i, 2)) (hn : i + 1 < lo.length) (hL : lo.length = nLo X) (h2 : s2 lo i (.long x) = lo2) (k : V X (pc + 2) lo2 st w) : V X pc lo (.long x :: st) w := by
  obtain ⟨p, l, e, R, s, m, args, below, meth, c, D, cI, cJ, ad, N, Z, nL, kc, ks⟩ := X
  obtain ⟨hx, hb, hml, hown, hts, hK, hinj, hR, hC⟩ := g
  intro hN H locs ls hP hS hl
  subst h2
  exact lv_lstore hx hb hd hl (by rw [hL] at hn; exact hn) rfl (fun ls2 hl2 => k hN H locs ls2 hP hS (cL_s2 (v := .long x) hl2))
theorem v_iinc {X : VX} {cc : ByteArray} {own : String} {d pc : Nat} {lo : List (Option Value)} {st : List Value} {w : PW} {i : Nat} {n : Int} {x : Int32} (v : Int32) (lo2 : List (Option Value)) (g : VG X cc own d) (hd : decode cc pc = .ok (.iinc i n, 3)) (hv : pg lo i = some (some (.int x))) (he : x + Int32.ofInt n = v) (hL : lo.length = nLo X) (h2 : s1 lo i (.int v) = lo2) (k : V X (pc + 3) lo2 st w) : V X pc lo st w := by
  obtain ⟨p, l, e, R, s, m, args, below, meth, c, D, cI, cJ, ad, N, Z, nL, kc, ks⟩ := X
  obtain ⟨hx, hb, hml, hown, hts, hK, hinj, hR, hC⟩ := g
  intro hN H locs ls hP hS hl
  subst h2
  obtain ⟨k0, hk0⟩ := List.getElem?_of_mem ((cLf_mem ad lo 0 (i, .int x)).mpr ⟨i, .int x, hv, by rw [Nat.zero_add]; rfl⟩)
  exact lv_iinc hx hb hd hl hk0 he (by rw [← show lo.length = nL from hL]; exact pg_lt hv) rfl (fun ls2 hl2 => k hN H locs ls2 hP hS (cL_s1 (v := .int v) hl2))
theorem v_dup {X : VX} {cc : ByteArray} {own : String} {d pc : Nat} {lo : List (Option Value)} {st : List Value} {w : PW} {v : Value} (g : VG X cc own d) (hd : decode cc pc = .ok (.dup, 1)) (hc : v.category = 1) (k : V X (pc + 1) lo (v :: v :: st) w) : V X pc lo (v :: st) w := by
  obtain ⟨p, l, e, R, s, m, args, below, meth, c, D, cI, cJ, ad, N, Z, nL, kc, ks⟩ := X
  obtain ⟨hx, hb, hml, hown, hts, hK, hinj, hR, hC⟩ := g
  intro hN H locs ls hP hS hl
  exact lv_dup hx hb hd (by rw [cV_cat]; exact hc) (k hN H locs ls hP hS hl)
theorem v_dup2 {X : VX} {cc : ByteArray} {own : String} {d pc : Nat} {lo : List (Option Value)} {st : List Value} {w : PW} {v u : Value} (g : VG X cc own d) (hd : decode cc pc = .ok (.dup2, 1)) (hc : v.category = 1) (hc2 : u.category = 1) (k : V X (pc + 1) lo (v :: u :: v :: u :: st) w) : V X pc lo (v :: u :: st) w := by
  obtain ⟨p, l, e, R, s, m, args, below, meth, c, D, cI, cJ, ad, N, Z, nL, kc, ks⟩ := X
  obtain ⟨hx, hb, hml, hown, hts, hK, hinj, hR, hC⟩ := g
  intro hN H locs ls hP hS hl
  exact lv_dup2_11 hx hb hd (by rw [cV_cat]; exact hc) (by rw [cV_cat]; exact hc2) (k hN H locs ls hP hS hl)
theorem v_pop {X : VX} {cc : ByteArray} {own : String} {d pc : Nat} {lo : List (Option Value)} {st : List Value} {w : PW} {v : Value} (g : VG X cc own d) (hd : decode cc pc = .ok (.pop, 1)) (hc : v.category = 1) (k : V X (pc + 1) lo st w) : V X pc lo (v :: st) w := by
  obtain ⟨p, l, e, R, s, m, args, below, meth, c, D, cI, cJ, ad, N, Z, nL, kc, ks⟩ := X
  obtain ⟨hx, hb, hml, hown, hts, hK, hinj, hR, hC⟩ := g
  intro hN H locs ls hP hS hl
  exact lv_pop hx hb hd (by rw [cV_cat]; exact hc) (k hN H locs ls hP hS hl)
theorem v_goto {X : VX} {cc : ByteArray} {own : String} {d pc : Nat} {lo : List (Option Value)} {st : List Value} {w : PW} {off : Int} (tgt : Nat) (g : VG X cc own d) (hd : decode cc pc = .ok (.goto off, 3)) (ht : (pc : Int) + off = (tgt : Int)) (k : V X tgt lo st w) : V X pc lo st w := by
  obtain ⟨p, l, e, R, s, m, args, below, meth, c, D, cI, cJ, ad, N, Z, nL, kc, ks⟩ := X
  obtain ⟨hx, hb, hml, hown, hts, hK, hinj, hR, hC⟩ := g
  intro hN H locs ls hP hS hl
  exact lv_goto hx hb hd ht (k hN H locs ls hP hS hl)
theorem v_if_eq {X : VX} {cc : ByteArray} {own : String} {d pc : Nat} {lo : List (Option Value)} {st : List Value} {w : PW} {x : Int32} {off : Int} (tgt : Nat) (g : VG X cc own d) (hd : decode cc pc = .ok (.ifCond .eq off, 3)) (ht : (pc : Int) + off = (tgt : Int)) (kt : x = 0 → V X tgt lo st w) (kf : ¬ x = 0 → V X (pc + 3) lo st w) : V X pc lo (.int x :: st) w := by
  obtain ⟨p, l, e, R, s, m, args, below, meth, c, D, cI, cJ, ad, N, Z, nL, kc, ks⟩ := X
  obtain ⟨hx, hb, hml, hown, hts, hK, hinj, hR, hC⟩ := g
  intro hN H locs ls hP hS hl
  exact lv_if_eq hx hb hd ht (fun h => kt h hN H locs ls hP hS hl) (fun h => kf h hN H locs ls hP hS hl)
theorem v_icmp_eq {X : VX} {cc : ByteArray} {own : String} {d pc : Nat} {lo : List (Option Value)} {st : List Value} {w : PW} {x y : Int32} {off : Int} (tgt : Nat) (g : VG X cc own d) (hd : decode cc pc = .ok (.if_icmp .eq off, 3)) (ht : (pc : Int) + off = (tgt : Int)) (kt : x = y → V X tgt lo st w) (kf : ¬ x = y → V X (pc + 3) lo st w) : V X pc lo (.int y :: .int x :: st) w := by
  obtain ⟨p, l, e, R, s, m, args, below, meth, c, D, cI, cJ, ad, N, Z, nL, kc, ks⟩ := X
  obtain ⟨hx, hb, hml, hown, hts, hK, hinj, hR, hC⟩ := g
  intro hN H locs ls hP hS hl
  exact lv_icmp_eq hx hb hd ht (fun h => kt h hN H locs ls hP hS hl) (fun h => kf h hN H locs ls hP hS hl)
theorem v_if_ne {X : VX} {cc : ByteArray} {own : String} {d pc : Nat} {lo : List (Option Value)} {st : List Value} {w : PW} {x : Int32} {off : Int} (tgt : Nat) (g : VG X cc own d) (hd : decode cc pc = .ok (.ifCond .ne off, 3)) (ht : (pc : Int) + off = (tgt : Int)) (kt : ¬ x = 0 → V X tgt lo st w) (kf : x = 0 → V X (pc + 3) lo st w) : V X pc lo (.int x :: st) w := by
  obtain ⟨p, l, e, R, s, m, args, below, meth, c, D, cI, cJ, ad, N, Z, nL, kc, ks⟩ := X
  obtain ⟨hx, hb, hml, hown, hts, hK, hinj, hR, hC⟩ := g
  intro hN H locs ls hP hS hl
  exact lv_if_ne hx hb hd ht (fun h => kt h hN H locs ls hP hS hl) (fun h => kf h hN H locs ls hP hS hl)
theorem v_icmp_ne {X : VX} {cc : ByteArray} {own : String} {d pc : Nat} {lo : List (Option Value)} {st : List Value} {w : PW} {x y : Int32} {off : Int} (tgt : Nat) (g : VG X cc own d) (hd : decode cc pc = .ok (.if_icmp .ne off, 3)) (ht : (pc : Int) + off = (tgt : Int)) (kt : ¬ x = y → V X tgt lo st w) (kf : x = y → V X (pc + 3) lo st w) : V X pc lo (.int y :: .int x :: st) w := by
  obtain ⟨p, l, e, R, s, m, args, below, meth, c, D, cI, cJ, ad, N, Z, nL, kc, ks⟩ := X
  obtain ⟨hx, hb, hml, hown, hts, hK, hinj, hR, hC⟩ := g
  intro hN H locs ls hP hS hl
  exact lv_icmp_ne hx hb hd ht (fun h => kt h hN H locs ls hP hS hl) (fun h => kf h hN H locs ls hP hS hl)
theorem v_if_lt {X : VX} {cc : ByteArray} {own : String} {d pc : Nat} {lo : List (Option Value)} {st : List Value} {w : PW} {x : Int32} {off : Int} (tgt : Nat) (g : VG X cc own d) (hd : decode cc pc = .ok (.ifCond .lt off, 3)) (ht : (pc : Int) + off = (tgt : Int)) (kt : x < 0 → V X tgt lo st w) (kf : ¬ x < 0 → V X (pc + 3) lo st w) : V X pc lo (.int x :: st) w := by
  obtain ⟨p, l, e, R, s, m, args, below, meth, c, D, cI, cJ, ad, N, Z, nL, kc, ks⟩ := X
  obtain ⟨hx, hb, hml, hown, hts, hK, hinj, hR, hC⟩ := g
  intro hN H locs ls hP hS hl
  exact lv_if_lt hx hb hd ht (fun h => kt h hN H locs ls hP hS hl) (fun h => kf h hN H locs ls hP hS hl)
theorem v_icmp_lt {X : VX} {cc : ByteArray} {own : String} {d pc : Nat} {lo : List (Option Value)} {st : List Value} {w : PW} {x y : Int32} {off : Int} (tgt : Nat) (g : VG X cc own d) (hd : decode cc pc = .ok (.if_icmp .lt off, 3)) (ht : (pc : Int) + off = (tgt : Int)) (kt : x < y → V X tgt lo st w) (kf : ¬ x < y → V X (pc + 3) lo st w) : V X pc lo (.int y :: .int x :: st) w := by
  obtain ⟨p, l, e, R, s, m, args, below, meth, c, D, cI, cJ, ad, N, Z, nL, kc, ks⟩ := X
  obtain ⟨hx, hb, hml, hown, hts, hK, hinj, hR, hC⟩ := g
  intro hN H locs ls hP hS hl
  exact lv_icmp_lt hx hb hd ht (fun h => kt h hN H locs ls hP hS hl) (fun h => kf h hN H locs ls hP hS hl)
theorem v_if_ge {X : VX} {cc : ByteArray} {own : String} {d pc : Nat} {lo : List (Option Value)} {st : List Value} {w : PW} {x : Int32} {off : Int} (tgt : Nat) (g : VG X cc own d) (hd : decode cc pc = .ok (.ifCond .ge off, 3)) (ht : (pc : Int) + off = (tgt : Int)) (kt : 0 ≤ x → V X tgt lo st w) (kf : ¬ 0 ≤ x → V X (pc + 3) lo st w) : V X pc lo (.int x :: st) w := by
  obtain ⟨p, l, e, R, s, m, args, below, meth, c, D, cI, cJ, ad, N, Z, nL, kc, ks⟩ := X
  obtain ⟨hx, hb, hml, hown, hts, hK, hinj, hR, hC⟩ := g
  intro hN H locs ls hP hS hl
  exact lv_if_ge hx hb hd ht (fun h => kt h hN H locs ls hP hS hl) (fun h => kf h hN H locs ls hP hS hl)
theorem v_icmp_ge {X : VX} {cc : ByteArray} {own : String} {d pc : Nat} {lo : List (Option Value)} {st : List Value} {w : PW} {x y : Int32} {off : Int} (tgt : Nat) (g : VG X cc own d) (hd : decode cc pc = .ok (.if_icmp .ge off, 3)) (ht : (pc : Int) + off = (tgt : Int)) (kt : y ≤ x → V X tgt lo st w) (kf : ¬ y ≤ x → V X (pc + 3) lo st w) : V X pc lo (.int y :: .int x :: st) w := by
  obtain ⟨p, l, e, R, s, m, args, below, meth, c, D, cI, cJ, ad, N, Z, nL, kc, ks⟩ := X
  obtain ⟨hx, hb, hml, hown, hts, hK, hinj, hR, hC⟩ := g
  intro hN H locs ls hP hS hl
  exact lv_icmp_ge hx hb hd ht (fun h => kt h hN H locs ls hP hS hl) (fun h => kf h hN H locs ls hP hS hl)
theorem v_if_gt {X : VX} {cc : ByteArray} {own : String} {d pc : Nat} {lo : List (Option Value)} {st : List Value} {w : PW} {x : Int32} {off : Int} (tgt : Nat) (g : VG X cc own d) (hd : decode cc pc = .ok (.ifCond .gt off, 3)) (ht : (pc : Int) + off = (tgt : Int)) (kt : 0 < x → V X tgt lo st w) (kf : ¬ 0 < x → V X (pc + 3) lo st w) : V X pc lo (.int x :: st) w := by
  obtain ⟨p, l, e, R, s, m, args, below, meth, c, D, cI, cJ, ad, N, Z, nL, kc, ks⟩ := X
  obtain ⟨hx, hb, hml, hown, hts, hK, hinj, hR, hC⟩ := g
  intro hN H locs ls hP hS hl
  exact lv_if_gt hx hb hd ht (fun h => kt h hN H locs ls hP hS hl) (fun h => kf h hN H locs ls hP hS hl)
theorem v_icmp_gt {X : VX} {cc : ByteArray} {own : String} {d pc : Nat} {lo : List (Option Value)} {st : List Value} {w : PW} {x y : Int32} {off : Int} (tgt : Nat) (g : VG X cc own d) (hd : decode cc pc = .ok (.if_icmp .gt off, 3)) (ht : (pc : Int) + off = (tgt : Int)) (kt : y < x → V X tgt lo st w) (kf : ¬ y < x → V X (pc + 3) lo st w) : V X pc lo (.int y :: .int x :: st) w := by
  obtain ⟨p, l, e, R, s, m, args, below, meth, c, D, cI, cJ, ad, N, Z, nL, kc, ks⟩ := X
  obtain ⟨hx, hb, hml, hown, hts, hK, hinj, hR, hC⟩ := g
  intro hN H locs ls hP hS hl
  exact lv_icmp_gt hx hb hd ht (fun h => kt h hN H locs ls hP hS hl) (fun h => kf h hN H locs ls hP hS hl)
theorem v_if_le {X : VX} {cc : ByteArray} {own : String} {d pc : Nat} {lo : List (Option Value)} {st : List Value} {w : PW} {x : Int32} {off : Int} (tgt : Nat) (g : VG X cc own d) (hd : decode cc pc = .ok (.ifCond .le off, 3)) (ht : (pc : Int) + off = (tgt : Int)) (kt : x ≤ 0 → V X tgt lo st w) (kf : ¬ x ≤ 0 → V X (pc + 3) lo st w) : V X pc lo (.int x :: st) w := by
  obtain ⟨p, l, e, R, s, m, args, below, meth, c, D, cI, cJ, ad, N, Z, nL, kc, ks⟩ := X
  obtain ⟨hx, hb, hml, hown, hts, hK, hinj, hR, hC⟩ := g
  intro hN H locs ls hP hS hl
  exact lv_if_le hx hb hd ht (fun h => kt h hN H locs ls hP hS hl) (fun h => kf h hN H locs ls hP hS hl)
theorem v_icmp_le {X : VX} {cc : ByteArray} {own : String} {d pc : Nat} {lo : List (Option Value)} {st : List Value} {w : PW} {x y : Int32} {off : Int} (tgt : Nat) (g : VG X cc own d) (hd : decode cc pc = .ok (.if_icmp .le off, 3)) (ht : (pc : Int) + off = (tgt : Int)) (kt : x ≤ y → V X tgt lo st w) (kf : ¬ x ≤ y → V X (pc + 3) lo st w) : V X pc lo (.int y :: .int x :: st) w := by
  obtain ⟨p, l, e, R, s, m, args, below, meth, c, D, cI, cJ, ad, N, Z, nL, kc, ks⟩ := X
  obtain ⟨hx, hb, hml, hown, hts, hK, hinj, hR, hC⟩ := g
  intro hN H locs ls hP hS hl
  exact lv_icmp_le hx hb hd ht (fun h => kt h hN H locs ls hP hS hl) (fun h => kf h hN H locs ls hP hS hl)
theorem v_tin {X : VX} {cc : ByteArray} {own : String} {d pc : Nat} {lo : List (Option Value)} {st : List Value} {w : PW} {x : Int32} {dflt lw hi : Int} {offs : Array Int} {len : Nat} {off : Int} (z : Int) (tgt : Nat) (g : VG X cc own d) (hd : decode cc pc = .ok (.tableswitch dflt lw hi offs, len)) (hz : x.toInt = z) (h1 : lw ≤ z) (h2 : z ≤ hi) (ho : offs[(z - lw).toNat]? = some off) (ht : (pc : Int) + off = (tgt : Int)) (k : V X tgt lo st w) : V X pc lo (.int x :: st) w := by
  obtain ⟨p, l, e, R, s, m, args, below, meth, c, D, cI, cJ, ad, N, Z, nL, kc, ks⟩ := X
  obtain ⟨hx, hb, hml, hown, hts, hK, hinj, hR, hC⟩ := g
  intro hN H locs ls hP hS hl
  exact lv_tableIn hx hb hd (by omega) (by omega) (by rw [hz]; exact ho) ht (k hN H locs ls hP hS hl)
theorem v_tout {X : VX} {cc : ByteArray} {own : String} {d pc : Nat} {lo : List (Option Value)} {st : List Value} {w : PW} {x : Int32} {dflt lw hi : Int} {offs : Array Int} {len : Nat} (tgt : Nat) (g : VG X cc own d) (hd : decode cc pc = .ok (.tableswitch dflt lw hi offs, len)) (hz : x.toInt < lw ∨ hi < x.toInt) (ht : (pc : Int) + dflt = (tgt : Int)) (k : V X tgt lo st w) : V X pc lo (.int x :: st) w := by
  obtain ⟨p, l, e, R, s, m, args, below, meth, c, D, cI, cJ, ad, N, Z, nL, kc, ks⟩ := X
  obtain ⟨hx, hb, hml, hown, hts, hK, hinj, hR, hC⟩ := g
  intro hN H locs ls hP hS hl
  exact lv_tableOut hx hb hd hz ht (k hN H locs ls hP hS hl)
theorem v_lk {X : VX} {cc : ByteArray} {own : String} {d pc : Nat} {lo : List (Option Value)} {st : List Value} {w : PW} {x : Int32} {dflt : Int} {ps0 : Array (Int × Int)} {len : Nat} {off : Int} (tgt : Nat) (g : VG X cc own d) (hd : decode cc pc = .ok (.lookupswitch dflt ps0, len)) (hp : (ps0.toList.zip (ps0.toList.drop 1)).all (fun (a, next) => a.1 < next.1) = true) (ho : Op.lookupswitch.offset ps0.toList dflt x.toInt = off) (ht : (pc : Int) + off = (tgt : Int)) (k : V X tgt lo st w) : V X pc lo (.int x :: st) w := by
  obtain ⟨p, l, e, R, s, m, args, below, meth, c, D, cI, cJ, ad, N, Z, nL, kc, ks⟩ := X
  obtain ⟨hx, hb, hml, hown, hts, hK, hinj, hR, hC⟩ := g
  intro hN H locs ls hP hS hl
  exact lv_lookup hx hb hd hp ho ht (k hN H locs ls hP hS hl)
theorem v_iald {X : VX} {cc : ByteArray} {own : String} {d pc : Nat} {lo : List (Option Value)} {st : List Value} {w : PW} {n a : Nat} {f : Nat → Int32} {i : Int32} (g : VG X cc own d) (hd : decode cc pc = .ok (.iaload, 1)) (hw : pg w a = some (.inl (n, .inl f))) (hi : vp_in i n) (k : V X (pc + 1) lo (.int (f i.toNatClampNeg) :: st) w) : V X pc lo (.int i :: .ref a :: st) w := by
  obtain ⟨p, l, e, R, s, m, args, below, meth, c, D, cI, cJ, ad, N, Z, nL, kc, ks⟩ := X
  obtain ⟨hx, hb, hml, hown, hts, hK, hinj, hR, hC⟩ := g
  intro hN H locs ls hP hS hl
  exact va_iald hx hb hK.1 hP a 0 (cW_at hw) rfl hi hd (k hN H locs ls hP hS hl)
theorem v_lald {X : VX} {cc : ByteArray} {own : String} {d pc : Nat} {lo : List (Option Value)} {st : List Value} {w : PW} {n a : Nat} {f : Nat → Int64} {i : Int32} (g : VG X cc own d) (hd : decode cc pc = .ok (.laload, 1)) (hw : pg w a = some (.inl (n, .inr (.inl f)))) (hi : vp_in i n) (k : V X (pc + 1) lo (.long (f i.toNatClampNeg) :: st) w) : V X pc lo (.int i :: .ref a :: st) w := by
  obtain ⟨p, l, e, R, s, m, args, below, meth, c, D, cI, cJ, ad, N, Z, nL, kc, ks⟩ := X
  obtain ⟨hx, hb, hml, hown, hts, hK, hinj, hR, hC⟩ := g
  intro hN H locs ls hP hS hl
  exact va_lald hx hb hK.1 hP a 1 (cW_at hw) rfl hi hd (k hN H locs ls hP hS hl)
theorem v_iast {X : VX} {cc : ByteArray} {own : String} {d pc : Nat} {lo : List (Option Value)} {st : List Value} {w : PW} {n a : Nat} {f : Nat → Int32} {i x : Int32} (w2 : PW) (g : VG X cc own d) (hd : decode cc pc = .ok (.iastore, 1)) (hw : pg w a = some (.inl (n, .inl f))) (hi : vp_in i n) (h2 : ps w a (.inl (n, .inl (upd f i.toNatClampNeg x))) = w2) (k : V X (pc + 1) lo st w2) : V X pc lo (.int x :: .int i :: .ref a :: st) w := by
  obtain ⟨p, l, e, R, s, m, args, below, meth, c, D, cI, cJ, ad, N, Z, nL, kc, ks⟩ := X
  obtain ⟨hx, hb, hml, hown, hts, hK, hinj, hR, hC⟩ := g
  intro hN H locs ls hP hS hl
  subst h2
  refine va_iast hx hb hK.1 hP (vD hinj hN) hS a 0 (cW_at hw) rfl hi hd (fun H1 locs1 hP1 hD1 hS1 => k (by rw [ps_len]; exact hN) H1 locs1 ls ?_ hS1 hl)
  rw [cWf_set, Nat.zero_add]
  exact hP1
theorem v_last {X : VX} {cc : ByteArray} {own : String} {d pc : Nat} {lo : List (Option Value)} {st : List Value} {w : PW} {n a : Nat} {f : Nat → Int64} {i : Int32} {x : Int64} (w2 : PW) (g : VG X cc own d) (hd : decode cc pc = .ok (.lastore, 1)) (hw : pg w a = some (.inl (n, .inr (.inl f)))) (hi : vp_in i n) (h2 : ps w a (.inl (n, .inr (.inl (vp_updL f i.toNatClampNeg x)))) = w2) (k : V X (pc + 1) lo st w2) : V X pc lo (.long x :: .int i :: .ref a :: st) w := by
  obtain ⟨p, l, e, R, s, m, args, below, meth, c, D, cI, cJ, ad, N, Z, nL, kc, ks⟩ := X
  obtain ⟨hx, hb, hml, hown, hts, hK, hinj, hR, hC⟩ := g
  intro hN H locs ls hP hS hl
  subst h2
  refine va_last hx hb hK.1 hP (vD hinj hN) hS a 1 (cW_at hw) rfl hi hd (fun H1 locs1 hP1 hD1 hS1 => k (by rw [ps_len]; exact hN) H1 locs1 ls ?_ hS1 hl)
  rw [cWf_set, Nat.zero_add]
  exact hP1
theorem v_get {X : VX} {cc : ByteArray} {own : String} {d pc : Nat} {lo : List (Option Value)} {st : List Value} {w : PW} {idx ci j a : Nat} {fs : List Value} {v : Value} (g : VG X cc own d) (hd : decode cc pc = .ok (.getfield idx, 3)) (hF : FL own idx ci j) (hw : pg w a = some (.inr (ci, fs))) (hf : pg fs j = some v) (k : V X (pc + 3) lo (v :: st) w) : V X pc lo (.ref a :: st) w := by
  obtain ⟨p, l, e, R, s, m, args, below, meth, c, D, cI, cJ, ad, N, Z, nL, kc, ks⟩ := X
  obtain ⟨hx, hb, hml, hown, hts, hK, hinj, hR, hC⟩ := g
  intro hN H locs ls hP hS hl
  obtain ⟨C, T, N0, ty, ⟨c1, c2, c3, c4⟩, hj, hT, hlk⟩ := hF
  refine va_get (D := D) (ci := ci) (v := cV ad v) (C := C) (T := T) (N := N0) (ref := C) hx hb hts c2 hown hK.1 hP a (cW_at hw) c1 j hj (hts _ hlk) (by rw [hT]; exact fun _ h => h) ?_ hd (k hN H locs ls hP hS hl)
  rw [List.getElem?_map, ← pg_eq, hf]; rfl
theorem v_put {X : VX} {cc : ByteArray} {own : String} {d pc : Nat} {lo : List (Option Value)} {st : List Value} {w : PW} {idx ci j a : Nat} {fs : List Value} {v : Value} {ty : FieldType} (w2 : PW) (g : VG X cc own d) (hd : decode cc pc = .ok (.putfield idx, 3)) (hF : FP own idx ci j ty) (hw : pg w a = some (.inr (ci, fs))) (hf : j < fs.length) (hn : narrow ty v = v) (hfit : fits ty v = true) (hr : cK v = true) (h2 : ps w a (.inr (ci, ps fs j v)) = w2) (k : V X (pc + 3) lo st w2) : V X pc lo (v :: .ref a :: st) w := by
  obtain ⟨p, l, e, R, s, m, args, below, meth, c, D, cI, cJ, ad, N, Z, nL, kc, ks⟩ := X
  obtain ⟨hx, hb, hml, hown, hts, hK, hinj, hR, hC⟩ := g
  intro hN H locs ls hP hS hl
  subst h2
  obtain ⟨C, T, N0, ty0, ⟨c1, c2, c3, c4⟩, hj, hT, hlk, hfin, hty⟩ := hF
  have hvv : cV ad v = v := cK_cV hr
  refine va_put (D := D) (ci := ci) (v := cV ad v) (ty := ty) (C := C) (T := T) (N := N0) (ref := C) hx hb hts c2 ty0 c3 c4 hown hK.1 hP (vD hinj hN) hS a (cW_at hw) c1 j hj (hts _ hlk) (by rw [hT]; exact fun _ h => h) hfin hty (by rw [hvv]; exact hn) (by rw [hvv]; exact hfit) (by rw [List.length_map]; exact hf) hd (fun H1 locs1 hP1 hD1 hS1 => k (by rw [ps_len]; exact hN) H1 locs1 ls ?_ hS1 hl)
  rw [cWf_set, Nat.zero_add]
  show va_P D vwCl ((cWf cI cJ ad 0 w).set a (ad a, .inr (ci, (ps fs j v).map (cV ad)))) H1
  rw [ps_eq, List.map_set]
  exact hP1
theorem v_max {X : VX} {cc : ByteArray} {own : String} {d pc : Nat} {lo : List (Option Value)} {st : List Value} {w : PW} {x y : Int32} {idx : Nat} (g : VG X cc own d) (hd : decode cc pc = .ok (.invokestatic idx, 3)) (hM : Cond.methodLink own idx Lib.Math.max.name ∈ tbG) (h0 : 1 ≤ d) (hW : (st.map fun v => v.category).sum ≤ 8) (k : V X (pc + 3) lo (.int (if x < y then y else x) :: st) w) : V X pc lo (.int y :: .int x :: st) w := by
  obtain ⟨p, l, e, R, s, m, args, below, meth, c, D, cI, cJ, ad, N, Z, nL, kc, ks⟩ := X
  obtain ⟨hx, hb, hml, hown, hts, hK, hinj, hR, hC⟩ := g
  intro hN H locs ls hP hS hl
  have hR1 : 38 ≤ R.locals := by omega
  refine va_mmax hx hb (by rw [hml]; exact hl.1.symm) hown (hts _ hM) (hts _ wm_max.1) (hts _ wm_ini) (hts _ wm_max.2) (by omega) ?_ hC.1 hC.2 hd (k hN H locs ls hP hS hl)
  rw [cV_sum]; omega
theorem v_min {X : VX} {cc : ByteArray} {own : String} {d pc : Nat} {lo : List (Option Value)} {st : List Value} {w : PW} {x y : Int32} {idx : Nat} (g : VG X cc own d) (hd : decode cc pc = .ok (.invokestatic idx, 3)) (hM : Cond.methodLink own idx Lib.Math.min.name ∈ tbG) (h0 : 1 ≤ d) (hW : (st.map fun v => v.category).sum ≤ 8) (k : V X (pc + 3) lo (.int (if y < x then y else x) :: st) w) : V X pc lo (.int y :: .int x :: st) w := by
  obtain ⟨p, l, e, R, s, m, args, below, meth, c, D, cI, cJ, ad, N, Z, nL, kc, ks⟩ := X
  obtain ⟨hx, hb, hml, hown, hts, hK, hinj, hR, hC⟩ := g
  intro hN H locs ls hP hS hl
  have hR1 : 38 ≤ R.locals := by omega
  refine va_mmin hx hb (by rw [hml]; exact hl.1.symm) hown (hts _ hM) (hts _ wm_min.1) (hts _ wm_ini) (hts _ wm_min.2) (by omega) ?_ hC.1 hC.2 hd (k hN H locs ls hP hS hl)
  rw [cV_sum]; omega
theorem v_abs {X : VX} {cc : ByteArray} {own : String} {d pc : Nat} {lo : List (Option Value)} {st : List Value} {w : PW} {x : Int32} {idx : Nat} (g : VG X cc own d) (hd : decode cc pc = .ok (.invokestatic idx, 3)) (hM : Cond.methodLink own idx Lib.Math.abs.name ∈ tbG) (h0 : 1 ≤ d) (hW : (st.map fun v => v.category).sum ≤ 8) (k : V X (pc + 3) lo (.int (if 0 ≤ x then x else 0 - x) :: st) w) : V X pc lo (.int x :: st) w := by
  obtain ⟨p, l, e, R, s, m, args, below, meth, c, D, cI, cJ, ad, N, Z, nL, kc, ks⟩ := X
  obtain ⟨hx, hb, hml, hown, hts, hK, hinj, hR, hC⟩ := g
  intro hN H locs ls hP hS hl
  have hR1 : 38 ≤ R.locals := by omega
  refine va_mabs hx hb (by rw [hml]; exact hl.1.symm) hown (hts _ hM) (hts _ wm_abs.1) (hts _ wm_ini) (hts _ wm_abs.2) (by omega) ?_ hC.1 hC.2 hd (k hN H locs ls hP hS hl)
  rw [cV_sum]; omega
theorem v_iret {X : VX} {cc : ByteArray} {own : String} {d pc : Nat} {lo : List (Option Value)} {w : PW} {Q : Option Value → PW → Prop} {v : Int32} (g : VG X cc own d) (r : VR X (some .int) Q) (hd : decode cc pc = .ok (.ireturn, 1)) (hq : Q (some (.int v)) w) : V X pc lo [.int v] w := by
  obtain ⟨p, l, e, R, s, m, args, below, meth, c, D, cI, cJ, ad, N, Z, nL, kc, ks⟩ := X
  obtain ⟨hx, hb, hml, hown, hts, hK, hinj, hR, hC⟩ := g
  obtain ⟨hr, hlocks, rfl⟩ := r
  intro hN H locs ls hP hS hl
  exact W.iret (v := v) hx hb hr (fun t ht hW => ⟨⟨some (.int v), w, rfl, hq, hN, by rw [ht]; exact hP⟩, hS.F ht⟩) hS.2.2 hd hlocks
theorem v_zret {X : VX} {cc : ByteArray} {own : String} {d pc : Nat} {lo : List (Option Value)} {w : PW} {Q : Option Value → PW → Prop} {v : Int32} {ty : FieldType} (g : VG X cc own d) (r : VR X (some ty) Q) (hd : decode cc pc = .ok (.ireturn, 1)) (hn : narrow ty (.int v) = .int v) (hq : Q (some (.int v)) w) : V X pc lo [.int v] w := by
  obtain ⟨p, l, e, R, s, m, args, below, meth, c, D, cI, cJ, ad, N, Z, nL, kc, ks⟩ := X
  obtain ⟨hx, hb, hml, hown, hts, hK, hinj, hR, hC⟩ := g
  obtain ⟨hr, hlocks, rfl⟩ := r
  intro hN H locs ls hP hS hl
  exact W.zret (v := v) hx hb hr hn (fun t ht hW => ⟨⟨some (.int v), w, rfl, hq, hN, by rw [ht]; exact hP⟩, hS.F ht⟩) hS.2.2 hd hlocks
theorem v_lret {X : VX} {cc : ByteArray} {own : String} {d pc : Nat} {lo : List (Option Value)} {w : PW} {Q : Option Value → PW → Prop} {v : Int64} (g : VG X cc own d) (r : VR X (some .long) Q) (hd : decode cc pc = .ok (.lreturn, 1)) (hq : Q (some (.long v)) w) : V X pc lo [.long v] w := by
  obtain ⟨p, l, e, R, s, m, args, below, meth, c, D, cI, cJ, ad, N, Z, nL, kc, ks⟩ := X
  obtain ⟨hx, hb, hml, hown, hts, hK, hinj, hR, hC⟩ := g
  obtain ⟨hr, hlocks, rfl⟩ := r
  intro hN H locs ls hP hS hl
  exact W.lret (v := v) hx hb hr (fun t ht hW => ⟨⟨some (.long v), w, rfl, hq, hN, by rw [ht]; exact hP⟩, hS.F ht⟩) hS.2.2 hd hlocks
theorem v_vret {X : VX} {cc : ByteArray} {own : String} {d pc : Nat} {lo : List (Option Value)} {w : PW} {Q : Option Value → PW → Prop}  (g : VG X cc own d) (r : VR X none Q) (hd : decode cc pc = .ok (.return_, 1)) (hq : Q none w) : V X pc lo [] w := by
  obtain ⟨p, l, e, R, s, m, args, below, meth, c, D, cI, cJ, ad, N, Z, nL, kc, ks⟩ := X
  obtain ⟨hx, hb, hml, hown, hts, hK, hinj, hR, hC⟩ := g
  obtain ⟨hr, hlocks, rfl⟩ := r
  intro hN H locs ls hP hS hl
  exact W.vret hx hb hr (fun t ht hW => ⟨⟨none, w, rfl, hq, hN, by rw [ht]; exact hP⟩, hS.F ht⟩) hS.2.2 hd hlocks
theorem v_aret {X : VX} {cc : ByteArray} {own : String} {d pc : Nat} {lo : List (Option Value)} {w : PW} {Q : Option Value → PW → Prop} {a : Nat} {rt : FieldType} (g : VG X cc own d) (r : VR X (some rt) Q) (hd : decode cc pc = .ok (.areturn, 1)) (hrt : (∃ n, rt = .object n) ∨ ∃ t, rt = .array t) (hq : Q (some (.ref a)) w) : V X pc lo [.ref a] w := by
  obtain ⟨p, l, e, R, s, m, args, below, meth, c, D, cI, cJ, ad, N, Z, nL, kc, ks⟩ := X
  obtain ⟨hx, hb, hml, hown, hts, hK, hinj, hR, hC⟩ := g
  obtain ⟨hr, hlocks, rfl⟩ := r
  intro hN H locs ls hP hS hl
  exact W.aret (v := .ref (ad a)) hx hb hr hrt (Or.inr ⟨_, rfl⟩) (fun t ht hW => ⟨⟨some (.ref a), w, rfl, hq, hN, by rw [ht]; exact hP⟩, hS.F ht⟩) hS.2.2 hd hlocks
end
section
/-! ===== calls ===== -/
def stk : List Value → List Value → List Value
  | [], st => st
  | a :: l, st => stk l (a :: st)
def pushO : Option Value → List Value → List Value
  | none, st => st
  | some v, st => v :: st
theorem stk_eq : ∀ (l st : List Value), stk l st = l.reverse ++ st
  | [], st => rfl
  | a :: l, st => by rw [stk, stk_eq l (a :: st), List.reverse_cons, List.append_assoc]; rfl
theorem pushO_map (ad : Nat → Nat) (r : Option Value) (st : List Value) : (r.map (cV ad)).toList ++ st.map (cV ad) = (pushO r st).map (cV ad) := by cases r <;> rfl
def LC (y : MethodName) (cy : ByteArray) (mL : Nat) (ret : Option FieldType) (n : Nat) : Prop := Cond.initialized y.cls ∈ tbG ∧ Cond.code y cy mL ret ∈ tbG ∧ y.cls ≠ "java/lang/invoke/MethodHandle" ∧ y.cls ≠ "java/lang/invoke/VarHandle" ∧ (parseMethodDescriptor y.desc).map (fun d => d.parameters.length) = some n ∧ mL ≤ 19
def LV (own : String) (idx : Nat) (y : MethodName) (cy : ByteArray) (mL : Nat) (ret : Option FieldType) (n : Nat) : Prop := LC y cy mL ret n ∧ Cond.methodLink own idx y ∈ tbG ∧ Cond.instanceMethod y ∈ tbG ∧ Cond.selects y.cls y y ∈ tbG
def LSt (own : String) (idx : Nat) (y : MethodName) (cy : ByteArray) (mL : Nat) (ret : Option FieldType) (n : Nat) : Prop := LC y cy mL ret n ∧ Cond.methodLink own idx y ∈ tbG ∧ Cond.static y ∈ tbG
def LN (own : String) (idx : Nat) (y : MethodName) (cy : ByteArray) (mL : Nat) (ret : Option FieldType) (n : Nat) : Prop := LC y cy mL ret n ∧ (own, idx, y, RX4) ∈ nestT ∧ Cond.static y ∈ tbG
theorem tbG_code {y : MethodName} {cy : ByteArray} {mL : Nat} {ret : Option FieldType} (h : Cond.code y cy mL ret ∈ tbG) : GoodIn tbG (Cond.code y cy mL ret :: tbG) := fun w hw => by
  rcases List.mem_cons.mp hw with rfl | h1
  · exact tbG_good _ h
  · exact tbG_good _ h1
theorem v_core {p : Program} {l : Launch} {e : Env} {R : Room} {s : State} {m : MethodId} {args : Array Value} {below : List Frame} {meth : Method} {c : Code} {H : Heap} {locs : List Loc} {kc ks N pc : Nat} {Z : State → Prop} {D : va_G} {cI cJ : ClassId} {ad : Nat → Nat} {ls : Array Slot} {st0 rest : List Value} {Q' : Option Value → PW → Prop} {a : Array Value}
    (hr : va_Run p l e R s m args below meth c H locs kc ks 0 0 (F0 m pc ls st0) (rest.map (cV ad)) (QcV D cI cJ ad N Q' a) (pA ad N)) (hS : va_S (pA ad N) s.heap H locs)
    (kk : ∀ (r : Option Value) (w' : PW), Q' r w' → w'.length = N → ∀ (H1 : Heap) (locs1 : List Loc), va_P D vwCl (cWf cI cJ ad 0 w') H1 → va_S (pA ad N) s.heap H1 locs1 → W p l e R s m args below meth c H1 locs1 kc ks Z (F0 m (pc + 3) ls ((pushO r rest).map (cV ad)))) : W p l e R s m args below meth c H locs kc ks Z (F0 m pc ls st0) := by
  intro T hT X
  obtain ⟨v, st₀, t, T', L, h0, X', hL, e1, e2, ⟨⟨r, w', hv, hq, hlen, hP1⟩, hz, hk⟩, st⟩ := hr T hT X
  have hv1 : v = r.map (cV ad) := by cases hv; rfl
  subst hv1
  rw [h0] at hz hk
  obtain ⟨t2, a1, b1⟩ := kk r w' hq hlen T'.heap (locs ++ L) (by rw [e1]; exact hP1)
    ⟨Nat.le_trans hS.1 (by rw [e1]; exact hz), fun q h1 h2 => by rw [e1, hk q (Nat.lt_of_lt_of_le h1 hS.1) h2]; exact hS.2.1 q h1 h2, fun q hq => by
      rcases List.mem_append.mp hq with h | h
      · exact hS.2.2 q h
      · exact hL q h⟩ T' rfl X'
  refine ⟨t2, st t2 ?_, b1⟩
  rw [pushO_map]
  exact a1
theorem vPc {D : va_G} {cI cJ : ClassId} {ad : Nat → Nat} {s U : State} {H : Heap} {locs : List Loc} {w : PW} {av : List Value} (hK : KX D cI cJ ad (pA ad w.length) s s.heap) (hP : va_P D vwCl (cWf cI cJ ad 0 w) H) (hS : va_S (pA ad w.length) s.heap H locs) (hinj : ∀ i j : Nat, i < w.length → j < w.length → ad i = ad j → i = j) (hU : U.heap = H) (hW : s.WarmedH U.vm) : PcV D cI cJ ad av w (av.map (cV ad)).toArray U := by
  refine ⟨rfl, ?_, by rw [hU]; exact hP, hinj⟩
  rw [hU]
  exact (hK.warm hW).kept hS.2.1
theorem v_cV {X : VX} {cc : ByteArray} {own : String} {d d' pc : Nat} {lo : List (Option Value)} {rest st : List Value} {w : PW} {idx : Nat} {y : MethodName} {cy : ByteArray} {mL : Nat} {ret : Option FieldType} {b ci : Nat} {As fs : List Value} {Q' : Option Value → PW → Prop} (g : VG X cc own d) (hd : decode cc pc = .ok (.invokevirtual idx, 3)) {n0 : Nat} (hL : LV own idx y cy mL ret n0) (hdd : d' + 1 ≤ d)
    (hM : Runs d' y cy mL ret (.ref b :: As) w Q') (hn0 : As.length = n0) (hst : st = stk (.ref b :: As) rest) (hw : pg w b = some (.inr (ci, fs))) (hci : (pg vwCl ci).map (fun q => q.1) = some y.cls) (hW : (rest.map fun v => v.category).sum ≤ 8) (k : ∀ (r : Option Value) (w' : PW), Q' r w' → V X (pc + 3) lo (pushO r rest) w') : V X pc lo st w := by
  obtain ⟨p, l, e, R, s, m, args, below, meth, c, D, cI, cJ, ad, N, Z, nL, kc, ks⟩ := X
  obtain ⟨hx, hb, hml, hown, hts, hK, hinj, hR, hC⟩ := g
  obtain ⟨⟨l1, l2, l3, l4, l5, l6⟩, l7, l8, l9⟩ := hL
  intro hN H locs ls hP hS hl
  subst hN
  subst hn0
  rw [stk_eq, List.reverse_cons, List.append_assoc] at hst
  subst hst
  cases hq : pg vwCl ci with
  | none => rw [hq] at hci; cases hci
  | some q =>
  rw [hq] at hci
  have hq1 : q.1 = y.cls := Option.some.inj hci
  have hgood : GoodIn tbG (wsV own idx y.cls y (Cond.code y cy mL ret :: tbG)) := fun x hx => by
    simp only [wsV, List.cons_append, List.nil_append, List.mem_cons] at hx
    rcases hx with rfl | rfl | rfl | rfl | rfl | hx
    · exact tbG_good _ l7
    · exact tbG_good _ l8
    · exact tbG_good _ l9
    · exact tbG_good _ l1
    · exact tbG_good _ l2
    · exact tbG_good _ hx
  have hrecv := va_recv (D := D) (cl := vwCl) (q := q) hK.1 hP (by rw [← pg_eq]; exact hq) (cW_at hw)
  rw [hq1] at hrecv
  refine v_core (D := D) (cI := cI) (cJ := cJ) (ad := ad) (N := w.length) (rest := rest) (Q' := Q') (va_runV (As := As.map (cV ad)) (b := ad b) (rest := rest.map (cV ad)) ⟨hx, hb, hml, hown, hts⟩ (hM l D cI cJ ad) (cwV As.length hts hgood rfl rfl rfl ⟨rfl, l3, l4, l5⟩ ⟨by have := hR.1; show d' + 1 ≤ _; omega, by have := hR.2; show 8 + (mL + 11) + 38 * d' ≤ _; omega⟩) ⟨PcV.blind, hrecv, fun U hU hW => vPc hK hP hS hinj hU hW⟩ rfl (by rw [List.length_map]) hl.1 (by rw [List.map_append, List.map_reverse]; rfl) ?_ hd ⟨hC.1, hC.2⟩) hS (fun r w' hq hlen H1 locs1 hP1 hS1 => k r w' hq hlen H1 locs1 ls hP1 hS1 hl)
  exact lv_room (by rw [cV_sum]; exact hW)
theorem v_cS {X : VX} {cc : ByteArray} {own : String} {d d' pc : Nat} {lo : List (Option Value)} {rest st : List Value} {w : PW} {idx : Nat} {y : MethodName} {cy : ByteArray} {mL : Nat} {ret : Option FieldType} {As : List Value} {Q' : Option Value → PW → Prop} (g : VG X cc own d) (hd : decode cc pc = .ok (.invokestatic idx, 3)) {n0 : Nat} (hL : LSt own idx y cy mL ret n0) (hdd : d' + 1 ≤ d)
    (hM : Runs d' y cy mL ret As w Q') (hn0 : As.length = n0) (hst : st = stk As rest) (hW : (rest.map fun v => v.category).sum ≤ 8) (k : ∀ (r : Option Value) (w' : PW), Q' r w' → V X (pc + 3) lo (pushO r rest) w') : V X pc lo st w := by
  obtain ⟨p, l, e, R, s, m, args, below, meth, c, D, cI, cJ, ad, N, Z, nL, kc, ks⟩ := X
  obtain ⟨hx, hb, hml, hown, hts, hK, hinj, hR, hC⟩ := g
  obtain ⟨⟨l1, l2, l3, l4, l5, l6⟩, l7, l8⟩ := hL
  intro hN H locs ls hP hS hl
  subst hN
  subst hn0
  rw [stk_eq] at hst
  subst hst
  have hgood : GoodIn tbG (va_wsS own idx y (Cond.code y cy mL ret :: tbG)) := fun x hx => by
    simp only [va_wsS, List.cons_append, List.nil_append, List.mem_cons] at hx
    rcases hx with rfl | rfl | rfl | rfl | hx
    · exact tbG_good _ l7
    · exact tbG_good _ l8
    · exact tbG_good _ l1
    · exact tbG_good _ l2
    · exact tbG_good _ hx
  refine v_core (D := D) (cI := cI) (cJ := cJ) (ad := ad) (N := w.length) (rest := rest) (Q' := Q') (va_runS (As := As.map (cV ad)) (rest := rest.map (cV ad)) ⟨hx, hb, hml, hown, hts⟩ (hM l D cI cJ ad) (va_cwS As.length hts hgood rfl rfl rfl ⟨l3, l4, l5⟩ ⟨by have := hR.1; show d' + 1 ≤ _; omega, by have := hR.2; show 8 + (mL + 11) + 38 * d' ≤ _; omega⟩) ⟨PcV.blind, fun U hU hW => vPc hK hP hS hinj hU hW⟩ rfl (by rw [List.length_map]) hl.1 (by rw [List.map_append, List.map_reverse]) ?_ hd ⟨hC.1, hC.2⟩) hS (fun r w' hq hlen H1 locs1 hP1 hS1 => k r w' hq hlen H1 locs1 ls hP1 hS1 hl)
  exact lv_room (by rw [cV_sum]; exact hW)
theorem v_cN {X : VX} {cc : ByteArray} {own : String} {d d' pc : Nat} {lo : List (Option Value)} {rest st : List Value} {w : PW} {idx : Nat} {y : MethodName} {cy : ByteArray} {mL : Nat} {ret : Option FieldType} {As : List Value} {Q' : Option Value → PW → Prop} (g : VG X cc own d) (hd : decode cc pc = .ok (.invokestatic idx, 3)) {n0 : Nat} (hL : LN own idx y cy mL ret n0) (hdd : d' + 1 ≤ d)
    (hM : Runs d' y cy mL ret As w Q') (hn0 : As.length = n0) (hst : st = stk As rest) (hW : (rest.map fun v => v.category).sum ≤ 8) (k : ∀ (r : Option Value) (w' : PW), Q' r w' → V X (pc + 3) lo (pushO r rest) w') : V X pc lo st w := by
  obtain ⟨p, l, e, R, s, m, args, below, meth, c, D, cI, cJ, ad, N, Z, nL, kc, ks⟩ := X
  obtain ⟨hx, hb, hml, hown, hts, hK, hinj, hR, hC⟩ := g
  obtain ⟨⟨l1, l2, l3, l4, l5, l6⟩, l7, l8⟩ := hL
  intro hN H locs ls hP hS hl
  subst hN
  subst hn0
  rw [stk_eq] at hst
  subst hst
  refine v_core (D := D) (cI := cI) (cJ := cJ) (ad := ad) (N := w.length) (rest := rest) (Q' := Q') (va_runSN (host := RX4) (As := As.map (cV ad)) (rest := rest.map (cV ad)) ⟨hx, hb, hml, hown, hts⟩ (hM l D cI cJ ad) ⟨va_cnB As.length hts (tbG_code l2) rfl rfl rfl (hK.2.1 _ l7) (hts _ l1) ⟨l3, l4, l5⟩ ⟨by have := hR.1; show d' + 1 ≤ _; omega, by have := hR.2; show 8 + (mL + 11) + 38 * d' ≤ _; omega⟩, hts _ l8, trivial⟩ ⟨PcV.blind, fun U hU hW => vPc hK hP hS hinj hU hW⟩ rfl (by rw [List.length_map]) hl.1 (by rw [List.map_append, List.map_reverse]) ?_ hd ⟨hC.1, hC.2⟩) hS (fun r w' hq hlen H1 locs1 hP1 hS1 => k r w' hq hlen H1 locs1 ls hP1 hS1 hl)
  exact lv_room (by rw [cV_sum]; exact hW)
/-! ===== a contract over a part of the world ===== -/
def rho (pl : List Nat) (i : Nat) : Nat := if i < 1000 then (pg pl i).getD 0 else i
def rV (f : Nat → Nat) (v : Value) : Value := match v with
  | .ref k => .ref (f k)
  | v => v
def rE (f : Nat → Nat) (x : PE) : PE := match x with
  | .inl a => .inl a
  | .inr o => .inr (o.1, o.2.map (rV f))
def upW : PW → List Nat → PW → PW
  | w, p :: pl, x :: xs => upW (ps w p x) pl xs
  | w, _, _ => w
theorem cV_rV (ad f : Nat → Nat) (v : Value) : cV (fun i => ad (f i)) v = cV ad (rV f v) := by cases v <;> rfl
theorem cE_rE (cI cJ : ClassId) (ad f : Nat → Nat) (x : PE) : cE cI cJ (fun i => ad (f i)) x = cE cI cJ ad (rE f x) := by
  cases x with
  | inl a => rfl
  | inr o =>
    show Sum.inr (o.1, o.2.map (cV _)) = Sum.inr (o.1, (o.2.map (rV f)).map (cV ad))
    rw [List.map_map]
    congr 2
    exact List.map_congr_left fun v _ => cV_rV ad f v
theorem upW_len : ∀ (pl : List Nat) (xs w : PW), (upW w pl xs).length = w.length
  | [], xs, w => by cases xs <;> rfl
  | p :: pl, [], w => rfl
  | p :: pl, x :: xs, w => by rw [upW, upW_len pl xs, ps_len]
theorem pg_ps_ne {α : Type} (l : List α) {i j : Nat} (h : j ≠ i) (x : α) : pg (ps l i x) j = pg l j := by rw [pg_eq, pg_eq, ps_eq, List.getElem?_set_ne (Ne.symm h)]
theorem pg_ps_eq {α : Type} (l : List α) {i : Nat} (h : i < l.length) (x : α) : pg (ps l i x) i = some x := by rw [pg_eq, ps_eq, List.getElem?_set_self h]
theorem upW_out : ∀ (pl : List Nat) (xs w : PW) (k : Nat), k ∉ pl → pg (upW w pl xs) k = pg w k
  | [], xs, w, k, _ => by cases xs <;> rfl
  | p :: pl, [], w, k, _ => rfl
  | p :: pl, x :: xs, w, k, h => by
    rw [upW, upW_out pl xs _ k (fun z => h (List.mem_cons_of_mem _ z)), pg_ps_ne _ (fun z => h (by rw [z]; exact List.mem_cons_self))]
theorem upW_in : ∀ (pl : List Nat) (xs w : PW) (i k : Nat) (x : PE), va_nd pl = true → (∀ q ∈ pl, q < w.length) → pg pl i = some k → pg xs i = some x → pg (upW w pl xs) k = some x
  | [], xs, w, i, k, x, _, _, h, _ => by simp [pg] at h
  | p :: pl, [], w, i, k, x, _, _, _, h => by simp [pg] at h
  | p :: pl, y :: xs, w, 0, k, x, hn, hl, h1, h2 => by
    simp only [pg, Option.some.injEq] at h1 h2
    subst h1; subst h2
    simp only [va_nd, Bool.and_eq_true, decide_eq_true_eq] at hn
    rw [upW, upW_out pl xs _ _ hn.1, pg_ps_eq _ (hl _ List.mem_cons_self)]
  | p :: pl, y :: xs, w, i + 1, k, x, hn, hl, h1, h2 => by
    simp only [va_nd, Bool.and_eq_true, decide_eq_true_eq] at hn
    exact upW_in pl xs (ps w p y) i k x hn.2 (fun q hq => by rw [ps_len]; exact hl q (List.mem_cons_of_mem _ hq)) h1 h2
theorem Met.weak {l : Launch} {y : MethodName} {ws : List Cond} {rm : Room} {Pc Pc' : Array Value → State → Prop} {Qc Qc' : Array Value → State → Outcome → State → Prop} {mc ms : Nat} {fr fr' : Addr → Prop} (h : Met l y ws rm Pc Qc mc ms fr) (hp : ∀ a s, Pc' a s → Pc a s) (hq : ∀ a s o t, Pc' a s → Qc a s o t → Qc' a s o t) (hf : ∀ q, fr q → fr' q) : Met l y ws rm Pc' Qc' mc ms fr' := by
  intro p e h1 h2 h3 s m args below h4 h5 h6 h7
  obtain ⟨n, o, g1, g2, g3, g4, L, g5, g6⟩ := h p e h1 h2 h3 s m args below h4 h5 (hp _ _ h6) h7
  exact ⟨n, o, g1, g2, g3, hq _ _ _ _ h6 g4, L, g5, fun q hq => hf _ (g6 q hq)⟩
def pickOk (w : PW) (pl : List Nat) (wc : PW) : Prop := pl.map (pg w) = wc.map (fun x => some (rE (rho pl) x))
/-- THE FRAME: what y does in the part wc of the world it does in the world -/
theorem Runs.lift {d : Nat} {y : MethodName} {cc : ByteArray} {mL : Nat} {ret : Option FieldType} {av : List Value} {wc : PW} {Q : Option Value → PW → Prop} (pl : List Nat) {w : PW} {av' : List Value} (h : Runs d y cc mL ret av wc Q) (hav : av.map (rV (rho pl)) = av') (hn : va_nd pl = true) (hb : pl.length ≤ 1000) (hp : pickOk w pl wc) : Runs d y cc mL ret av' w (fun r w' => ∃ r1 w1, Q r1 w1 ∧ w1.length = wc.length ∧ r = r1.map (rV (rho pl)) ∧ w' = upW w pl (w1.map (rE (rho pl)))) := by
  intro l D cI cJ ad
  subst hav
  have hlen : pl.length = wc.length := by have := congrArg List.length hp; simpa using this
  have hrho : ∀ (i k : Nat), pg pl i = some k → rho pl i = k := fun i k hk => by
    have : i < 1000 := Nat.lt_of_lt_of_le (pg_lt hk) hb
    simp [rho, this, hk]
  have hpl : ∀ (i k : Nat), pg pl i = some k → ∃ x, pg wc i = some x ∧ pg w k = some (rE (rho pl) x) := by
    intro i k hk
    obtain ⟨x, hx⟩ := pg_some (l := wc) (i := i) (by rw [← hlen]; exact pg_lt hk)
    refine ⟨x, hx, ?_⟩
    have h1 : (pl.map (pg w))[i]? = (wc.map (fun x => some (rE (rho pl) x)))[i]? := by rw [hp]
    rw [List.getElem?_map, List.getElem?_map, ← pg_eq, ← pg_eq, hk, hx] at h1
    exact Option.some.inj h1
  have hwl : ∀ q ∈ pl, q < w.length := by
    intro q hq
    obtain ⟨i, hi⟩ := List.getElem?_of_mem hq
    rw [← pg_eq] at hi
    obtain ⟨x, -, h2⟩ := hpl i q hi
    exact pg_lt h2
  have hsub : ∀ q, pA (fun i => ad (rho pl i)) wc.length q → pA ad w.length q := by
    rintro q ⟨k, hk, rfl⟩
    obtain ⟨z, hz⟩ := pg_some (l := pl) (i := k) (by rw [hlen]; exact hk)
    exact ⟨z, hwl z (by rw [pg_eq] at hz; exact List.mem_of_getElem? hz), by show ad (rho pl k) = ad z; rw [hrho k z hz]⟩
  refine Met.weak (h l D cI cJ (fun i => ad (rho pl i))) ?_ ?_ hsub
  · rintro a s ⟨rfl, hK, hP, hinj⟩
    refine ⟨?_, ?_, ?_, ?_⟩
    · rw [List.map_map]
      congr 1
      exact List.map_congr_left fun v _ => (cV_rV ad (rho pl) v).symm
    · refine (KX.ren (fun i hi => ?_) hK).narrow hsub
      show ad (rho pl i) = ad i
      rw [rho, if_neg (by omega)]
    · intro k q hk
      rw [cWf_get] at hk
      cases hx : pg wc k with
      | none => rw [hx] at hk; cases hk
      | some x =>
        rw [hx] at hk
        cases hk
        obtain ⟨z, hz⟩ := pg_some (l := pl) (i := k) (by rw [hlen]; exact pg_lt hx)
        obtain ⟨x2, h1, h2⟩ := hpl k z hz
        rw [hx] at h1
        cases h1
        have := hP z _ (cW_at h2)
        show va_at D vwCl (ad (rho pl (0 + k)), cE cI cJ (fun i => ad (rho pl i)) x) s.heap
        rw [cE_rE, Nat.zero_add, hrho k z hz]
        exact this
    · intro i j hi hj he
      obtain ⟨a, ha⟩ := pg_some (l := pl) (i := i) (by rw [hlen]; exact hi)
      obtain ⟨b, hb'⟩ := pg_some (l := pl) (i := j) (by rw [hlen]; exact hj)
      have h1 : ad (rho pl i) = ad (rho pl j) := he
      rw [hrho i a ha, hrho j b hb'] at h1
      rw [pg_eq] at ha hb'
      have hab := hinj a b (hwl a (List.mem_of_getElem? ha)) (hwl b (List.mem_of_getElem? hb')) h1
      subst hab
      exact va_nd_inj pl hn i j a ha hb'
  · rintro a s o t ⟨rfl, hK, hP, hinj⟩ ⟨⟨r, w1, ho, hq, hl1, hP1⟩, hz, hk⟩
    refine ⟨⟨r.map (rV (rho pl)), upW w pl (w1.map (rE (rho pl))), ?_, ⟨r, w1, hq, hl1, rfl, rfl⟩, upW_len _ _ _, ?_⟩, hz, fun q h1 h2 => hk q h1 (fun z => h2 (hsub q z))⟩
    · rw [ho]
      congr 1
      cases r with
      | none => rfl
      | some v => show some (cV _ v) = some (cV ad (rV (rho pl) v)); rw [cV_rV]
    · intro k q hkq
      rw [cWf_get] at hkq
      cases hx : pg (upW w pl (w1.map (rE (rho pl)))) k with
      | none => rw [hx] at hkq; cases hkq
      | some x =>
        rw [hx] at hkq
        cases hkq
        rw [Nat.zero_add]
        have hkl : k < w.length := by rw [← upW_len pl (w1.map (rE (rho pl))) w]; exact pg_lt hx
        by_cases hkp : k ∈ pl
        · obtain ⟨i, hi⟩ := List.getElem?_of_mem hkp
          rw [← pg_eq] at hi
          obtain ⟨x1, hx1⟩ := pg_some (l := w1) (i := i) (by rw [hl1, ← hlen]; exact pg_lt hi)
          have h3 := upW_in pl (w1.map (rE (rho pl))) w i k (rE (rho pl) x1) hn hwl hi (by rw [pg_eq, List.getElem?_map, ← pg_eq, hx1]; rfl)
          rw [hx] at h3
          cases h3
          have h4 := hP1 i _ (cW_at hx1)
          rw [cE_rE] at h4
          rw [hrho i k hi] at h4
          exact h4
        · rw [upW_out pl _ w k hkp] at hx
          have h4 := hP k _ (cW_at hx)
          refine h4.kept (hk _ h4.lt ?_)
          rintro ⟨i, hi, he⟩
          obtain ⟨z, hz⟩ := pg_some (l := pl) (i := i) (by rw [hlen]; exact hi)
          have he2 : ad k = ad (rho pl i) := he
          rw [hrho i z hz] at he2
          rw [pg_eq] at hz
          have := hinj k z hkl (hwl z (List.mem_of_getElem? hz)) he2
          subst this
          exact hkp (List.mem_of_getElem? hz)
theorem Runs.post {d : Nat} {y : MethodName} {cc : ByteArray} {mL : Nat} {ret : Option FieldType} {av : List Value} {w : PW} {Q Q2 : Option Value → PW → Prop} (h : Runs d y cc mL ret av w Q) (hq : ∀ r w', Q r w' → Q2 r w') : Runs d y cc mL ret av w Q2 := fun l D cI cJ ad => Met.weak (h l D cI cJ ad) (fun _ _ h => h) (fun _ _ _ _ _ ⟨⟨r, w1, h1, h2, h3⟩, h4⟩ => ⟨⟨r, w1, h1, hq r w1 h2, h3⟩, h4⟩) (fun _ h => h)
/-- a contract with one answer and one world behind it -/
abbrev RunD (d : Nat) (y : MethodName) (cc : ByteArray) (mL : Nat) (ret : Option FieldType) (av : List Value) (w : PW) (r : Option Value) (w' : PW) : Prop := Runs d y cc mL ret av w (fun r0 w0 => r0 = r ∧ w0 = w')
theorem RunD.lift {d : Nat} {y : MethodName} {cc : ByteArray} {mL : Nat} {ret : Option FieldType} {av : List Value} {wc wc' : PW} {r : Option Value} (pl : List Nat) {w : PW} {av' : List Value} (r' : Option Value) (w' : PW) (h : RunD d y cc mL ret av wc r wc') (hav : av.map (rV (rho pl)) = av') (hn : va_nd pl = true) (hb : pl.length ≤ 1000) (hp : pickOk w pl wc) (hr : r.map (rV (rho pl)) = r') (hw' : upW w pl (wc'.map (rE (rho pl))) = w') : RunD d y cc mL ret av' w r' w' := by
  refine (Runs.lift pl h hav hn hb hp).post ?_
  rintro r0 w0 ⟨r1, w1, ⟨rfl, rfl⟩, -, rfl, rfl⟩
  exact ⟨hr, hw'⟩
/-- a method without a world -/
theorem RunD.any {d : Nat} {y : MethodName} {cc : ByteArray} {mL : Nat} {ret : Option FieldType} {av : List Value} {v : Value} (h : RunD d y cc mL ret av [] (some v) []) (hk : av.all cK = true) (hv : cK v = true) (w : PW) : RunD d y cc mL ret av w (some v) w := by
  refine RunD.lift [] (some v) w h ?_ rfl (Nat.zero_le _) rfl ?_ rfl
  · refine (List.map_congr_left fun u hu => ?_).trans (List.map_id _)
    have := List.all_eq_true.mp hk u hu
    cases u <;> first | rfl | simp [cK] at this
  · cases v <;> first | rfl | simp [cK] at hv
/-- a call with one answer -/
theorem v_cVd {X : VX} {cc : ByteArray} {own : String} {d d' pc : Nat} {lo : List (Option Value)} {rest st : List Value} {w w' : PW} {idx : Nat} {y : MethodName} {cy : ByteArray} {mL : Nat} {ret : Option FieldType} {b ci : Nat} {As fs : List Value} {r : Option Value} (g : VG X cc own d) (hd : decode cc pc = .ok (.invokevirtual idx, 3)) {n0 : Nat} (hL : LV own idx y cy mL ret n0) (hM : RunD d' y cy mL ret (.ref b :: As) w r w') (hdd : d' + 1 ≤ d) (hn0 : As.length = n0) (hst : st = stk (.ref b :: As) rest) (hw : pg w b = some (.inr (ci, fs))) (hci : (pg vwCl ci).map (fun q => q.1) = some y.cls) (hW : (rest.map fun v => v.category).sum ≤ 8) (k : V X (pc + 3) lo (pushO r rest) w') : V X pc lo st w :=
  v_cV g hd hL hdd hM hn0 hst hw hci hW (fun r0 w0 h => by obtain ⟨rfl, rfl⟩ := h; exact k)
theorem v_cSd {X : VX} {cc : ByteArray} {own : String} {d d' pc : Nat} {lo : List (Option Value)} {rest st : List Value} {w w' : PW} {idx : Nat} {y : MethodName} {cy : ByteArray} {mL : Nat} {ret : Option FieldType} {As : List Value} {r : Option Value} (g : VG X cc own d) (hd : decode cc pc = .ok (.invokestatic idx, 3)) {n0 : Nat} (hL : LSt own idx y cy mL ret n0) (hM : RunD d' y cy mL ret As w r w') (hdd : d' + 1 ≤ d) (hn0 : As.length = n0) (hst : st = stk As rest) (hW : (rest.map fun v => v.category).sum ≤ 8) (k : V X (pc + 3) lo (pushO r rest) w') : V X pc lo st w :=
  v_cS g hd hL hdd hM hn0 hst hW (fun r0 w0 h => by obtain ⟨rfl, rfl⟩ := h; exact k)
theorem v_cNd {X : VX} {cc : ByteArray} {own : String} {d d' pc : Nat} {lo : List (Option Value)} {rest st : List Value} {w w' : PW} {idx : Nat} {y : MethodName} {cy : ByteArray} {mL : Nat} {ret : Option FieldType} {As : List Value} {r : Option Value} (g : VG X cc own d) (hd : decode cc pc = .ok (.invokestatic idx, 3)) {n0 : Nat} (hL : LN own idx y cy mL ret n0) (hM : RunD d' y cy mL ret As w r w') (hdd : d' + 1 ≤ d) (hn0 : As.length = n0) (hst : st = stk As rest) (hW : (rest.map fun v => v.category).sum ≤ 8) (k : V X (pc + 3) lo (pushO r rest) w') : V X pc lo st w :=
  v_cN g hd hL hdd hM hn0 hst hW (fun r0 w0 h => by obtain ⟨rfl, rfl⟩ := h; exact k)
end
section
/-! ===== facts of the tables (written by wip/gen/links.py) ===== -/
theorem lay_X0_0 : u_lay RX0 TX0 0 ∈ tbG := tbG_in (List.mem_of_getElem? (i := 201) (by decide +kernel)) (by decide +kernel)
theorem lay_X0_1 : u_lay RX0 TX0 1 ∈ tbG := tbG_in (List.mem_of_getElem? (i := 203) (by decide +kernel)) (by decide +kernel)
theorem lay_X0_2 : u_lay RX0 TX0 2 ∈ tbG := tbG_in (List.mem_of_getElem? (i := 205) (by decide +kernel)) (by decide +kernel)
theorem cl_X0 : CLok 0 RX0 TX0 3 tyX0 := ⟨rfl, fun w hw => by
  obtain ⟨j, hj, rfl⟩ := List.mem_map.mp hw
  have hj := List.mem_range.mp hj
  match j, hj with
  | 0, _ => exact lay_X0_0
  | 1, _ => exact lay_X0_1
  | 2, _ => exact lay_X0_2
  | j + 3, hj => exact absurd hj (by omega), tyX0_ok, nmX0⟩
theorem lay_X1_0 : u_lay RX1 TX1 0 ∈ tbG := tbG_in (List.mem_of_getElem? (i := 123) (by decide +kernel)) (by decide +kernel)
theorem lay_X1_1 : u_lay RX1 TX1 1 ∈ tbG := tbG_in (List.mem_of_getElem? (i := 125) (by decide +kernel)) (by decide +kernel)
theorem lay_X1_2 : u_lay RX1 TX1 2 ∈ tbG := tbG_in (List.mem_of_getElem? (i := 127) (by decide +kernel)) (by decide +kernel)
theorem lay_X1_3 : u_lay RX1 TX1 3 ∈ tbG := tbG_in (List.mem_of_getElem? (i := 129) (by decide +kernel)) (by decide +kernel)
theorem lay_X1_4 : u_lay RX1 TX1 4 ∈ tbG := tbG_in (List.mem_of_getElem? (i := 131) (by decide +kernel)) (by decide +kernel)
theorem lay_X1_5 : u_lay RX1 TX1 5 ∈ tbG := tbG_in (List.mem_of_getElem? (i := 133) (by decide +kernel)) (by decide +kernel)
theorem lay_X1_6 : u_lay RX1 TX1 6 ∈ tbG := tbG_in (List.mem_of_getElem? (i := 135) (by decide +kernel)) (by decide +kernel)
theorem lay_X1_7 : u_lay RX1 TX1 7 ∈ tbG := tbG_in (List.mem_of_getElem? (i := 137) (by decide +kernel)) (by decide +kernel)
theorem lay_X1_8 : u_lay RX1 TX1 8 ∈ tbG := tbG_in (List.mem_of_getElem? (i := 139) (by decide +kernel)) (by decide +kernel)
theorem lay_X1_9 : u_lay RX1 TX1 9 ∈ tbG := tbG_in (List.mem_of_getElem? (i := 141) (by decide +kernel)) (by decide +kernel)
theorem lay_X1_10 : u_lay RX1 TX1 10 ∈ tbG := tbG_in (List.mem_of_getElem? (i := 143) (by decide +kernel)) (by decide +kernel)
theorem lay_X1_11 : u_lay RX1 TX1 11 ∈ tbG := tbG_in (List.mem_of_getElem? (i := 145) (by decide +kernel)) (by decide +kernel)
theorem lay_X1_12 : u_lay RX1 TX1 12 ∈ tbG := tbG_in (List.mem_of_getElem? (i := 147) (by decide +kernel)) (by decide +kernel)
theorem cl_X1 : CLok 1 RX1 TX1 13 tyX1 := ⟨rfl, fun w hw => by
  obtain ⟨j, hj, rfl⟩ := List.mem_map.mp hw
  have hj := List.mem_range.mp hj
  match j, hj with
  | 0, _ => exact lay_X1_0
  | 1, _ => exact lay_X1_1
  | 2, _ => exact lay_X1_2
  | 3, _ => exact lay_X1_3
  | 4, _ => exact lay_X1_4
  | 5, _ => exact lay_X1_5
  | 6, _ => exact lay_X1_6
  | 7, _ => exact lay_X1_7
  | 8, _ => exact lay_X1_8
  | 9, _ => exact lay_X1_9
  | 10, _ => exact lay_X1_10
  | 11, _ => exact lay_X1_11
  | 12, _ => exact lay_X1_12
  | j + 13, hj => exact absurd hj (by omega), tyX1_ok, nmX1⟩
theorem lay_X2_0 : u_lay RX2 TX2 0 ∈ tbG := tbG_in (List.mem_of_getElem? (i := 161) (by decide +kernel)) (by decide +kernel)
theorem lay_X2_1 : u_lay RX2 TX2 1 ∈ tbG := tbG_in (List.mem_of_getElem? (i := 163) (by decide +kernel)) (by decide +kernel)
theorem cl_X2 : CLok 2 RX2 TX2 2 tyX2 := ⟨rfl, fun w hw => by
  obtain ⟨j, hj, rfl⟩ := List.mem_map.mp hw
  have hj := List.mem_range.mp hj
  match j, hj with
  | 0, _ => exact lay_X2_0
  | 1, _ => exact lay_X2_1
  | j + 2, hj => exact absurd hj (by omega), tyX2_ok, nmX2⟩
theorem lay_X3_0 : u_lay RX3 TX3 0 ∈ tbG := tbG_in (List.mem_of_getElem? (i := 179) (by decide +kernel)) (by decide +kernel)
theorem lay_X3_1 : u_lay RX3 TX3 1 ∈ tbG := tbG_in (List.mem_of_getElem? (i := 181) (by decide +kernel)) (by decide +kernel)
theorem lay_X3_2 : u_lay RX3 TX3 2 ∈ tbG := tbG_in (List.mem_of_getElem? (i := 183) (by decide +kernel)) (by decide +kernel)
theorem lay_X3_3 : u_lay RX3 TX3 3 ∈ tbG := tbG_in (List.mem_of_getElem? (i := 185) (by decide +kernel)) (by decide +kernel)
theorem lay_X3_4 : u_lay RX3 TX3 4 ∈ tbG := tbG_in (List.mem_of_getElem? (i := 187) (by decide +kernel)) (by decide +kernel)
theorem cl_X3 : CLok 3 RX3 TX3 5 tyX3 := ⟨rfl, fun w hw => by
  obtain ⟨j, hj, rfl⟩ := List.mem_map.mp hw
  have hj := List.mem_range.mp hj
  match j, hj with
  | 0, _ => exact lay_X3_0
  | 1, _ => exact lay_X3_1
  | 2, _ => exact lay_X3_2
  | 3, _ => exact lay_X3_3
  | 4, _ => exact lay_X3_4
  | j + 5, hj => exact absurd hj (by omega), tyX3_ok, nmX3⟩
theorem lay_X4_0 : u_lay RX4 TX4 0 ∈ tbG := tbG_in (List.mem_of_getElem? (i := 217) (by decide +kernel)) (by decide +kernel)
theorem lay_X4_1 : u_lay RX4 TX4 1 ∈ tbG := tbG_in (List.mem_of_getElem? (i := 219) (by decide +kernel)) (by decide +kernel)
theorem lay_X4_2 : u_lay RX4 TX4 2 ∈ tbG := tbG_in (List.mem_of_getElem? (i := 221) (by decide +kernel)) (by decide +kernel)
theorem lay_X4_3 : u_lay RX4 TX4 3 ∈ tbG := tbG_in (List.mem_of_getElem? (i := 223) (by decide +kernel)) (by decide +kernel)
theorem lay_X4_4 : u_lay RX4 TX4 4 ∈ tbG := tbG_in (List.mem_of_getElem? (i := 225) (by decide +kernel)) (by decide +kernel)
theorem lay_X4_5 : u_lay RX4 TX4 5 ∈ tbG := tbG_in (List.mem_of_getElem? (i := 227) (by decide +kernel)) (by decide +kernel)
theorem lay_X4_6 : u_lay RX4 TX4 6 ∈ tbG := tbG_in (List.mem_of_getElem? (i := 229) (by decide +kernel)) (by decide +kernel)
theorem lay_X4_7 : u_lay RX4 TX4 7 ∈ tbG := tbG_in (List.mem_of_getElem? (i := 231) (by decide +kernel)) (by decide +kernel)
theorem cl_X4 : CLok 4 RX4 TX4 8 tyX4 := ⟨rfl, fun w hw => by
  obtain ⟨j, hj, rfl⟩ := List.mem_map.mp hw
  have hj := List.mem_range.mp hj
  match j, hj with
  | 0, _ => exact lay_X4_0
  | 1, _ => exact lay_X4_1
  | 2, _ => exact lay_X4_2
  | 3, _ => exact lay_X4_3
  | 4, _ => exact lay_X4_4
  | 5, _ => exact lay_X4_5
  | 6, _ => exact lay_X4_6
  | 7, _ => exact lay_X4_7
  | j + 8, hj => exact absurd hj (by omega), tyX4_ok, nmX4⟩
theorem lay_X5_0 : u_lay RX5 TX5 0 ∈ tbG := tbG_in (List.mem_of_getElem? (i := 738) (by decide +kernel)) (by decide +kernel)
theorem lay_X5_1 : u_lay RX5 TX5 1 ∈ tbG := tbG_in (List.mem_of_getElem? (i := 740) (by decide +kernel)) (by decide +kernel)
theorem lay_X5_2 : u_lay RX5 TX5 2 ∈ tbG := tbG_in (List.mem_of_getElem? (i := 742) (by decide +kernel)) (by decide +kernel)
theorem lay_X5_3 : u_lay RX5 TX5 3 ∈ tbG := tbG_in (List.mem_of_getElem? (i := 744) (by decide +kernel)) (by decide +kernel)
theorem lay_X5_4 : u_lay RX5 TX5 4 ∈ tbG := tbG_in (List.mem_of_getElem? (i := 746) (by decide +kernel)) (by decide +kernel)
theorem lay_X5_5 : u_lay RX5 TX5 5 ∈ tbG := tbG_in (List.mem_of_getElem? (i := 748) (by decide +kernel)) (by decide +kernel)
theorem lay_X5_6 : u_lay RX5 TX5 6 ∈ tbG := tbG_in (List.mem_of_getElem? (i := 750) (by decide +kernel)) (by decide +kernel)
theorem lay_X5_7 : u_lay RX5 TX5 7 ∈ tbG := tbG_in (List.mem_of_getElem? (i := 752) (by decide +kernel)) (by decide +kernel)
theorem lay_X5_8 : u_lay RX5 TX5 8 ∈ tbG := tbG_in (List.mem_of_getElem? (i := 754) (by decide +kernel)) (by decide +kernel)
theorem lay_X5_9 : u_lay RX5 TX5 9 ∈ tbG := tbG_in (List.mem_of_getElem? (i := 756) (by decide +kernel)) (by decide +kernel)
theorem lay_X5_10 : u_lay RX5 TX5 10 ∈ tbG := tbG_in (List.mem_of_getElem? (i := 758) (by decide +kernel)) (by decide +kernel)
theorem lay_X5_11 : u_lay RX5 TX5 11 ∈ tbG := tbG_in (List.mem_of_getElem? (i := 760) (by decide +kernel)) (by decide +kernel)
theorem lay_X5_12 : u_lay RX5 TX5 12 ∈ tbG := tbG_in (List.mem_of_getElem? (i := 762) (by decide +kernel)) (by decide +kernel)
theorem lay_X5_13 : u_lay RX5 TX5 13 ∈ tbG := tbG_in (List.mem_of_getElem? (i := 764) (by decide +kernel)) (by decide +kernel)
theorem lay_X5_14 : u_lay RX5 TX5 14 ∈ tbG := tbG_in (List.mem_of_getElem? (i := 766) (by decide +kernel)) (by decide +kernel)
theorem lay_X5_15 : u_lay RX5 TX5 15 ∈ tbG := tbG_in (List.mem_of_getElem? (i := 768) (by decide +kernel)) (by decide +kernel)
theorem lay_X5_16 : u_lay RX5 TX5 16 ∈ tbG := tbG_in (List.mem_of_getElem? (i := 770) (by decide +kernel)) (by decide +kernel)
theorem lay_X5_17 : u_lay RX5 TX5 17 ∈ tbG := tbG_in (List.mem_of_getElem? (i := 772) (by decide +kernel)) (by decide +kernel)
theorem lay_X5_18 : u_lay RX5 TX5 18 ∈ tbG := tbG_in (List.mem_of_getElem? (i := 774) (by decide +kernel)) (by decide +kernel)
theorem lay_X5_19 : u_lay RX5 TX5 19 ∈ tbG := tbG_in (List.mem_of_getElem? (i := 776) (by decide +kernel)) (by decide +kernel)
theorem cl_X5 : CLok 5 RX5 TX5 20 tyX5 := ⟨rfl, fun w hw => by
  obtain ⟨j, hj, rfl⟩ := List.mem_map.mp hw
  have hj := List.mem_range.mp hj
  match j, hj with
  | 0, _ => exact lay_X5_0
  | 1, _ => exact lay_X5_1
  | 2, _ => exact lay_X5_2
  | 3, _ => exact lay_X5_3
  | 4, _ => exact lay_X5_4
  | 5, _ => exact lay_X5_5
  | 6, _ => exact lay_X5_6
  | 7, _ => exact lay_X5_7
  | 8, _ => exact lay_X5_8
  | 9, _ => exact lay_X5_9
  | 10, _ => exact lay_X5_10
  | 11, _ => exact lay_X5_11
  | 12, _ => exact lay_X5_12
  | 13, _ => exact lay_X5_13
  | 14, _ => exact lay_X5_14
  | 15, _ => exact lay_X5_15
  | 16, _ => exact lay_X5_16
  | 17, _ => exact lay_X5_17
  | 18, _ => exact lay_X5_18
  | 19, _ => exact lay_X5_19
  | j + 20, hj => exact absurd hj (by omega), tyX5_ok, nmX5⟩
theorem fw_X0_9 : Cond.fieldLink RX0 9 RX0 (TX0 0).2.1 (TX0 0).2.2.1 ∈ tbG := tbG_in (List.mem_of_getElem? (i := 196) (by decide +kernel)) (by decide +kernel)
theorem fl_X0_9 : FL RX0 9 0 0 := ⟨RX0, TX0, 3, tyX0, cl_X0, by decide, rfl, fw_X0_9⟩
theorem fw_X0_15 : Cond.fieldLink RX0 15 RX0 (TX0 1).2.1 (TX0 1).2.2.1 ∈ tbG := tbG_in (List.mem_of_getElem? (i := 198) (by decide +kernel)) (by decide +kernel)
theorem fl_X0_15 : FL RX0 15 0 1 := ⟨RX0, TX0, 3, tyX0, cl_X0, by decide, rfl, fw_X0_15⟩
theorem fw_X0_18 : Cond.fieldLink RX0 18 RX0 (TX0 2).2.1 (TX0 2).2.2.1 ∈ tbG := tbG_in (List.mem_of_getElem? (i := 200) (by decide +kernel)) (by decide +kernel)
theorem fl_X0_18 : FL RX0 18 0 2 := ⟨RX0, TX0, 3, tyX0, cl_X0, by decide, rfl, fw_X0_18⟩
theorem fw_X1_9 : Cond.fieldLink RX1 9 RX1 (TX1 0).2.1 (TX1 0).2.2.1 ∈ tbG := tbG_in (List.mem_of_getElem? (i := 90) (by decide +kernel)) (by decide +kernel)
theorem fl_X1_9 : FL RX1 9 1 0 := ⟨RX1, TX1, 13, tyX1, cl_X1, by decide, rfl, fw_X1_9⟩
theorem fp_X1_9 : FP RX1 9 1 0 .int := ⟨RX1, TX1, 13, tyX1, cl_X1, by decide, rfl, fw_X1_9, rfl, by decide +kernel⟩
theorem fw_X1_15 : Cond.fieldLink RX1 15 RX1 (TX1 1).2.1 (TX1 1).2.2.1 ∈ tbG := tbG_in (List.mem_of_getElem? (i := 92) (by decide +kernel)) (by decide +kernel)
theorem fl_X1_15 : FL RX1 15 1 1 := ⟨RX1, TX1, 13, tyX1, cl_X1, by decide, rfl, fw_X1_15⟩
theorem fp_X1_15 : FP RX1 15 1 1 .int := ⟨RX1, TX1, 13, tyX1, cl_X1, by decide, rfl, fw_X1_15, rfl, by decide +kernel⟩
theorem fw_X1_18 : Cond.fieldLink RX1 18 RX1 (TX1 2).2.1 (TX1 2).2.2.1 ∈ tbG := tbG_in (List.mem_of_getElem? (i := 95) (by decide +kernel)) (by decide +kernel)
theorem fl_X1_18 : FL RX1 18 1 2 := ⟨RX1, TX1, 13, tyX1, cl_X1, by decide, rfl, fw_X1_18⟩
theorem fw_X1_22 : Cond.fieldLink RX1 22 RX1 (TX1 3).2.1 (TX1 3).2.2.1 ∈ tbG := tbG_in (List.mem_of_getElem? (i := 98) (by decide +kernel)) (by decide +kernel)
theorem fl_X1_22 : FL RX1 22 1 3 := ⟨RX1, TX1, 13, tyX1, cl_X1, by decide, rfl, fw_X1_22⟩
theorem fw_X1_25 : Cond.fieldLink RX1 25 RX1 (TX1 4).2.1 (TX1 4).2.2.1 ∈ tbG := tbG_in (List.mem_of_getElem? (i := 101) (by decide +kernel)) (by decide +kernel)
theorem fl_X1_25 : FL RX1 25 1 4 := ⟨RX1, TX1, 13, tyX1, cl_X1, by decide, rfl, fw_X1_25⟩
theorem fw_X1_28 : Cond.fieldLink RX1 28 RX1 (TX1 5).2.1 (TX1 5).2.2.1 ∈ tbG := tbG_in (List.mem_of_getElem? (i := 103) (by decide +kernel)) (by decide +kernel)
theorem fl_X1_28 : FL RX1 28 1 5 := ⟨RX1, TX1, 13, tyX1, cl_X1, by decide, rfl, fw_X1_28⟩
theorem fp_X1_28 : FP RX1 28 1 5 .int := ⟨RX1, TX1, 13, tyX1, cl_X1, by decide, rfl, fw_X1_28, rfl, by decide +kernel⟩
theorem fw_X1_31 : Cond.fieldLink RX1 31 RX1 (TX1 6).2.1 (TX1 6).2.2.1 ∈ tbG := tbG_in (List.mem_of_getElem? (i := 106) (by decide +kernel)) (by decide +kernel)
theorem fl_X1_31 : FL RX1 31 1 6 := ⟨RX1, TX1, 13, tyX1, cl_X1, by decide, rfl, fw_X1_31⟩
theorem fw_X1_34 : Cond.fieldLink RX1 34 RX1 (TX1 7).2.1 (TX1 7).2.2.1 ∈ tbG := tbG_in (List.mem_of_getElem? (i := 108) (by decide +kernel)) (by decide +kernel)
theorem fl_X1_34 : FL RX1 34 1 7 := ⟨RX1, TX1, 13, tyX1, cl_X1, by decide, rfl, fw_X1_34⟩
theorem fw_X1_37 : Cond.fieldLink RX1 37 RX1 (TX1 8).2.1 (TX1 8).2.2.1 ∈ tbG := tbG_in (List.mem_of_getElem? (i := 110) (by decide +kernel)) (by decide +kernel)
theorem fl_X1_37 : FL RX1 37 1 8 := ⟨RX1, TX1, 13, tyX1, cl_X1, by decide, rfl, fw_X1_37⟩
theorem fw_X1_40 : Cond.fieldLink RX1 40 RX1 (TX1 9).2.1 (TX1 9).2.2.1 ∈ tbG := tbG_in (List.mem_of_getElem? (i := 113) (by decide +kernel)) (by decide +kernel)
theorem fl_X1_40 : FL RX1 40 1 9 := ⟨RX1, TX1, 13, tyX1, cl_X1, by decide, rfl, fw_X1_40⟩
theorem fw_X1_43 : Cond.fieldLink RX1 43 RX1 (TX1 10).2.1 (TX1 10).2.2.1 ∈ tbG := tbG_in (List.mem_of_getElem? (i := 116) (by decide +kernel)) (by decide +kernel)
theorem fl_X1_43 : FL RX1 43 1 10 := ⟨RX1, TX1, 13, tyX1, cl_X1, by decide, rfl, fw_X1_43⟩
theorem fw_X1_46 : Cond.fieldLink RX1 46 RX1 (TX1 11).2.1 (TX1 11).2.2.1 ∈ tbG := tbG_in (List.mem_of_getElem? (i := 119) (by decide +kernel)) (by decide +kernel)
theorem fl_X1_46 : FL RX1 46 1 11 := ⟨RX1, TX1, 13, tyX1, cl_X1, by decide, rfl, fw_X1_46⟩
theorem fw_X1_49 : Cond.fieldLink RX1 49 RX1 (TX1 12).2.1 (TX1 12).2.2.1 ∈ tbG := tbG_in (List.mem_of_getElem? (i := 121) (by decide +kernel)) (by decide +kernel)
theorem fl_X1_49 : FL RX1 49 1 12 := ⟨RX1, TX1, 13, tyX1, cl_X1, by decide, rfl, fw_X1_49⟩
theorem fp_X1_49 : FP RX1 49 1 12 .int := ⟨RX1, TX1, 13, tyX1, cl_X1, by decide, rfl, fw_X1_49, rfl, by decide +kernel⟩
theorem fw_X2_9 : Cond.fieldLink RX2 9 RX2 (TX2 0).2.1 (TX2 0).2.2.1 ∈ tbG := tbG_in (List.mem_of_getElem? (i := 157) (by decide +kernel)) (by decide +kernel)
theorem fl_X2_9 : FL RX2 9 2 0 := ⟨RX2, TX2, 2, tyX2, cl_X2, by decide, rfl, fw_X2_9⟩
theorem fw_X2_15 : Cond.fieldLink RX2 15 RX2 (TX2 1).2.1 (TX2 1).2.2.1 ∈ tbG := tbG_in (List.mem_of_getElem? (i := 158) (by decide +kernel)) (by decide +kernel)
theorem fl_X2_15 : FL RX2 15 2 1 := ⟨RX2, TX2, 2, tyX2, cl_X2, by decide, rfl, fw_X2_15⟩
theorem fp_X2_15 : FP RX2 15 2 1 .int := ⟨RX2, TX2, 2, tyX2, cl_X2, by decide, rfl, fw_X2_15, rfl, by decide +kernel⟩
theorem fw_X3_9 : Cond.fieldLink RX3 9 RX3 (TX3 0).2.1 (TX3 0).2.2.1 ∈ tbG := tbG_in (List.mem_of_getElem? (i := 172) (by decide +kernel)) (by decide +kernel)
theorem fl_X3_9 : FL RX3 9 3 0 := ⟨RX3, TX3, 5, tyX3, cl_X3, by decide, rfl, fw_X3_9⟩
theorem fp_X3_9 : FP RX3 9 3 0 .int := ⟨RX3, TX3, 5, tyX3, cl_X3, by decide, rfl, fw_X3_9, rfl, by decide +kernel⟩
theorem fw_X3_15 : Cond.fieldLink RX3 15 RX3 (TX3 1).2.1 (TX3 1).2.2.1 ∈ tbG := tbG_in (List.mem_of_getElem? (i := 174) (by decide +kernel)) (by decide +kernel)
theorem fl_X3_15 : FL RX3 15 3 1 := ⟨RX3, TX3, 5, tyX3, cl_X3, by decide, rfl, fw_X3_15⟩
theorem fp_X3_15 : FP RX3 15 3 1 .int := ⟨RX3, TX3, 5, tyX3, cl_X3, by decide, rfl, fw_X3_15, rfl, by decide +kernel⟩
theorem fw_X3_18 : Cond.fieldLink RX3 18 RX3 (TX3 2).2.1 (TX3 2).2.2.1 ∈ tbG := tbG_in (List.mem_of_getElem? (i := 176) (by decide +kernel)) (by decide +kernel)
theorem fl_X3_18 : FL RX3 18 3 2 := ⟨RX3, TX3, 5, tyX3, cl_X3, by decide, rfl, fw_X3_18⟩
theorem fp_X3_18 : FP RX3 18 3 2 .int := ⟨RX3, TX3, 5, tyX3, cl_X3, by decide, rfl, fw_X3_18, rfl, by decide +kernel⟩
theorem fw_X3_21 : Cond.fieldLink RX3 21 RX3 (TX3 3).2.1 (TX3 3).2.2.1 ∈ tbG := tbG_in (List.mem_of_getElem? (i := 177) (by decide +kernel)) (by decide +kernel)
theorem fl_X3_21 : FL RX3 21 3 3 := ⟨RX3, TX3, 5, tyX3, cl_X3, by decide, rfl, fw_X3_21⟩
theorem fp_X3_21 : FP RX3 21 3 3 .int := ⟨RX3, TX3, 5, tyX3, cl_X3, by decide, rfl, fw_X3_21, rfl, by decide +kernel⟩
theorem fw_X3_24 : Cond.fieldLink RX3 24 RX3 (TX3 4).2.1 (TX3 4).2.2.1 ∈ tbG := tbG_in (List.mem_of_getElem? (i := 178) (by decide +kernel)) (by decide +kernel)
theorem fl_X3_24 : FL RX3 24 3 4 := ⟨RX3, TX3, 5, tyX3, cl_X3, by decide, rfl, fw_X3_24⟩
theorem fp_X3_24 : FP RX3 24 3 4 .int := ⟨RX3, TX3, 5, tyX3, cl_X3, by decide, rfl, fw_X3_24, rfl, by decide +kernel⟩
theorem fw_X3_64 : Cond.fieldLink RX3 64 RX1 (TX1 5).2.1 (TX1 5).2.2.1 ∈ tbG := tbG_in (List.mem_of_getElem? (i := 104) (by decide +kernel)) (by decide +kernel)
theorem fl_X3_64 : FL RX3 64 1 5 := ⟨RX1, TX1, 13, tyX1, cl_X1, by decide, rfl, fw_X3_64⟩
theorem fw_X3_79 : Cond.fieldLink RX3 79 RX1 (TX1 8).2.1 (TX1 8).2.2.1 ∈ tbG := tbG_in (List.mem_of_getElem? (i := 111) (by decide +kernel)) (by decide +kernel)
theorem fl_X3_79 : FL RX3 79 1 8 := ⟨RX1, TX1, 13, tyX1, cl_X1, by decide, rfl, fw_X3_79⟩
theorem fw_X3_85 : Cond.fieldLink RX3 85 RX1 (TX1 9).2.1 (TX1 9).2.2.1 ∈ tbG := tbG_in (List.mem_of_getElem? (i := 114) (by decide +kernel)) (by decide +kernel)
theorem fl_X3_85 : FL RX3 85 1 9 := ⟨RX1, TX1, 13, tyX1, cl_X1, by decide, rfl, fw_X3_85⟩
theorem fw_X3_94 : Cond.fieldLink RX3 94 RX1 (TX1 10).2.1 (TX1 10).2.2.1 ∈ tbG := tbG_in (List.mem_of_getElem? (i := 117) (by decide +kernel)) (by decide +kernel)
theorem fl_X3_94 : FL RX3 94 1 10 := ⟨RX1, TX1, 13, tyX1, cl_X1, by decide, rfl, fw_X3_94⟩
theorem fw_X3_96 : Cond.fieldLink RX3 96 RX1 (TX1 3).2.1 (TX1 3).2.2.1 ∈ tbG := tbG_in (List.mem_of_getElem? (i := 99) (by decide +kernel)) (by decide +kernel)
theorem fl_X3_96 : FL RX3 96 1 3 := ⟨RX1, TX1, 13, tyX1, cl_X1, by decide, rfl, fw_X3_96⟩
theorem fw_X3_99 : Cond.fieldLink RX3 99 RX1 (TX1 1).2.1 (TX1 1).2.2.1 ∈ tbG := tbG_in (List.mem_of_getElem? (i := 94) (by decide +kernel)) (by decide +kernel)
theorem fp_X3_99 : FP RX3 99 1 1 .int := ⟨RX1, TX1, 13, tyX1, cl_X1, by decide, rfl, fw_X3_99, rfl, by decide +kernel⟩
theorem fw_X3_102 : Cond.fieldLink RX3 102 RX1 (TX1 2).2.1 (TX1 2).2.2.1 ∈ tbG := tbG_in (List.mem_of_getElem? (i := 96) (by decide +kernel)) (by decide +kernel)
theorem fl_X3_102 : FL RX3 102 1 2 := ⟨RX1, TX1, 13, tyX1, cl_X1, by decide, rfl, fw_X3_102⟩
theorem fw_X3_137 : Cond.fieldLink RX3 137 RX2 (TX2 1).2.1 (TX2 1).2.2.1 ∈ tbG := tbG_in (List.mem_of_getElem? (i := 159) (by decide +kernel)) (by decide +kernel)
theorem fl_X3_137 : FL RX3 137 2 1 := ⟨RX2, TX2, 2, tyX2, cl_X2, by decide, rfl, fw_X3_137⟩
theorem fw_X4_10 : Cond.fieldLink RX4 10 RX4 (TX4 0).2.1 (TX4 0).2.2.1 ∈ tbG := tbG_in (List.mem_of_getElem? (i := 209) (by decide +kernel)) (by decide +kernel)
theorem fl_X4_10 : FL RX4 10 4 0 := ⟨RX4, TX4, 8, tyX4, cl_X4, by decide, rfl, fw_X4_10⟩
theorem fw_X4_16 : Cond.fieldLink RX4 16 RX4 (TX4 1).2.1 (TX4 1).2.2.1 ∈ tbG := tbG_in (List.mem_of_getElem? (i := 210) (by decide +kernel)) (by decide +kernel)
theorem fl_X4_16 : FL RX4 16 4 1 := ⟨RX4, TX4, 8, tyX4, cl_X4, by decide, rfl, fw_X4_16⟩
theorem fw_X4_19 : Cond.fieldLink RX4 19 RX4 (TX4 2).2.1 (TX4 2).2.2.1 ∈ tbG := tbG_in (List.mem_of_getElem? (i := 211) (by decide +kernel)) (by decide +kernel)
theorem fl_X4_19 : FL RX4 19 4 2 := ⟨RX4, TX4, 8, tyX4, cl_X4, by decide, rfl, fw_X4_19⟩
theorem fw_X4_25 : Cond.fieldLink RX4 25 RX4 (TX4 3).2.1 (TX4 3).2.2.1 ∈ tbG := tbG_in (List.mem_of_getElem? (i := 212) (by decide +kernel)) (by decide +kernel)
theorem fl_X4_25 : FL RX4 25 4 3 := ⟨RX4, TX4, 8, tyX4, cl_X4, by decide, rfl, fw_X4_25⟩
theorem fw_X4_32 : Cond.fieldLink RX4 32 RX4 (TX4 4).2.1 (TX4 4).2.2.1 ∈ tbG := tbG_in (List.mem_of_getElem? (i := 213) (by decide +kernel)) (by decide +kernel)
theorem fl_X4_32 : FL RX4 32 4 4 := ⟨RX4, TX4, 8, tyX4, cl_X4, by decide, rfl, fw_X4_32⟩
theorem fw_X4_39 : Cond.fieldLink RX4 39 RX4 (TX4 5).2.1 (TX4 5).2.2.1 ∈ tbG := tbG_in (List.mem_of_getElem? (i := 214) (by decide +kernel)) (by decide +kernel)
theorem fl_X4_39 : FL RX4 39 4 5 := ⟨RX4, TX4, 8, tyX4, cl_X4, by decide, rfl, fw_X4_39⟩
theorem fw_X4_43 : Cond.fieldLink RX4 43 RX4 (TX4 6).2.1 (TX4 6).2.2.1 ∈ tbG := tbG_in (List.mem_of_getElem? (i := 215) (by decide +kernel)) (by decide +kernel)
theorem fl_X4_43 : FL RX4 43 4 6 := ⟨RX4, TX4, 8, tyX4, cl_X4, by decide, rfl, fw_X4_43⟩
theorem fw_X4_47 : Cond.fieldLink RX4 47 RX4 (TX4 7).2.1 (TX4 7).2.2.1 ∈ tbG := tbG_in (List.mem_of_getElem? (i := 216) (by decide +kernel)) (by decide +kernel)
theorem fl_X4_47 : FL RX4 47 4 7 := ⟨RX4, TX4, 8, tyX4, cl_X4, by decide, rfl, fw_X4_47⟩
theorem fp_X4_47 : FP RX4 47 4 7 .boolean := ⟨RX4, TX4, 8, tyX4, cl_X4, by decide, rfl, fw_X4_47, rfl, by decide +kernel⟩
theorem fw_X4_74 : Cond.fieldLink RX4 74 RX1 (TX1 1).2.1 (TX1 1).2.2.1 ∈ tbG := tbG_in (List.mem_of_getElem? (i := 93) (by decide +kernel)) (by decide +kernel)
theorem fl_X4_74 : FL RX4 74 1 1 := ⟨RX1, TX1, 13, tyX1, cl_X1, by decide, rfl, fw_X4_74⟩
theorem fp_X4_74 : FP RX4 74 1 1 .int := ⟨RX1, TX1, 13, tyX1, cl_X1, by decide, rfl, fw_X4_74, rfl, by decide +kernel⟩
theorem fw_X4_78 : Cond.fieldLink RX4 78 RX1 (TX1 0).2.1 (TX1 0).2.2.1 ∈ tbG := tbG_in (List.mem_of_getElem? (i := 91) (by decide +kernel)) (by decide +kernel)
theorem fl_X4_78 : FL RX4 78 1 0 := ⟨RX1, TX1, 13, tyX1, cl_X1, by decide, rfl, fw_X4_78⟩
theorem fw_X4_100 : Cond.fieldLink RX4 100 RX1 (TX1 5).2.1 (TX1 5).2.2.1 ∈ tbG := tbG_in (List.mem_of_getElem? (i := 105) (by decide +kernel)) (by decide +kernel)
theorem fl_X4_100 : FL RX4 100 1 5 := ⟨RX1, TX1, 13, tyX1, cl_X1, by decide, rfl, fw_X4_100⟩
theorem fw_X4_111 : Cond.fieldLink RX4 111 RX1 (TX1 6).2.1 (TX1 6).2.2.1 ∈ tbG := tbG_in (List.mem_of_getElem? (i := 107) (by decide +kernel)) (by decide +kernel)
theorem fl_X4_111 : FL RX4 111 1 6 := ⟨RX1, TX1, 13, tyX1, cl_X1, by decide, rfl, fw_X4_111⟩
theorem fw_X4_114 : Cond.fieldLink RX4 114 RX1 (TX1 7).2.1 (TX1 7).2.2.1 ∈ tbG := tbG_in (List.mem_of_getElem? (i := 109) (by decide +kernel)) (by decide +kernel)
theorem fl_X4_114 : FL RX4 114 1 7 := ⟨RX1, TX1, 13, tyX1, cl_X1, by decide, rfl, fw_X4_114⟩
theorem fw_X4_117 : Cond.fieldLink RX4 117 RX1 (TX1 8).2.1 (TX1 8).2.2.1 ∈ tbG := tbG_in (List.mem_of_getElem? (i := 112) (by decide +kernel)) (by decide +kernel)
theorem fl_X4_117 : FL RX4 117 1 8 := ⟨RX1, TX1, 13, tyX1, cl_X1, by decide, rfl, fw_X4_117⟩
theorem fw_X4_120 : Cond.fieldLink RX4 120 RX1 (TX1 9).2.1 (TX1 9).2.2.1 ∈ tbG := tbG_in (List.mem_of_getElem? (i := 115) (by decide +kernel)) (by decide +kernel)
theorem fl_X4_120 : FL RX4 120 1 9 := ⟨RX1, TX1, 13, tyX1, cl_X1, by decide, rfl, fw_X4_120⟩
theorem fw_X4_123 : Cond.fieldLink RX4 123 RX1 (TX1 10).2.1 (TX1 10).2.2.1 ∈ tbG := tbG_in (List.mem_of_getElem? (i := 118) (by decide +kernel)) (by decide +kernel)
theorem fl_X4_123 : FL RX4 123 1 10 := ⟨RX1, TX1, 13, tyX1, cl_X1, by decide, rfl, fw_X4_123⟩
theorem fw_X4_126 : Cond.fieldLink RX4 126 RX1 (TX1 11).2.1 (TX1 11).2.2.1 ∈ tbG := tbG_in (List.mem_of_getElem? (i := 120) (by decide +kernel)) (by decide +kernel)
theorem fl_X4_126 : FL RX4 126 1 11 := ⟨RX1, TX1, 13, tyX1, cl_X1, by decide, rfl, fw_X4_126⟩
theorem fw_X4_161 : Cond.fieldLink RX4 161 RX1 (TX1 2).2.1 (TX1 2).2.2.1 ∈ tbG := tbG_in (List.mem_of_getElem? (i := 97) (by decide +kernel)) (by decide +kernel)
theorem fl_X4_161 : FL RX4 161 1 2 := ⟨RX1, TX1, 13, tyX1, cl_X1, by decide, rfl, fw_X4_161⟩
theorem fw_X4_164 : Cond.fieldLink RX4 164 RX1 (TX1 4).2.1 (TX1 4).2.2.1 ∈ tbG := tbG_in (List.mem_of_getElem? (i := 102) (by decide +kernel)) (by decide +kernel)
theorem fl_X4_164 : FL RX4 164 1 4 := ⟨RX1, TX1, 13, tyX1, cl_X1, by decide, rfl, fw_X4_164⟩
theorem fw_X4_174 : Cond.fieldLink RX4 174 RX1 (TX1 12).2.1 (TX1 12).2.2.1 ∈ tbG := tbG_in (List.mem_of_getElem? (i := 122) (by decide +kernel)) (by decide +kernel)
theorem fl_X4_174 : FL RX4 174 1 12 := ⟨RX1, TX1, 13, tyX1, cl_X1, by decide, rfl, fw_X4_174⟩
theorem fw_X4_187 : Cond.fieldLink RX4 187 RX2 (TX2 1).2.1 (TX2 1).2.2.1 ∈ tbG := tbG_in (List.mem_of_getElem? (i := 160) (by decide +kernel)) (by decide +kernel)
theorem fl_X4_187 : FL RX4 187 2 1 := ⟨RX2, TX2, 2, tyX2, cl_X2, by decide, rfl, fw_X4_187⟩
theorem fp_X4_187 : FP RX4 187 2 1 .int := ⟨RX2, TX2, 2, tyX2, cl_X2, by decide, rfl, fw_X4_187, rfl, by decide +kernel⟩
theorem fw_X4_197 : Cond.fieldLink RX4 197 RX3 (TX3 1).2.1 (TX3 1).2.2.1 ∈ tbG := tbG_in (List.mem_of_getElem? (i := 175) (by decide +kernel)) (by decide +kernel)
theorem fl_X4_197 : FL RX4 197 3 1 := ⟨RX3, TX3, 5, tyX3, cl_X3, by decide, rfl, fw_X4_197⟩
theorem fw_X4_204 : Cond.fieldLink RX4 204 RX3 (TX3 0).2.1 (TX3 0).2.2.1 ∈ tbG := tbG_in (List.mem_of_getElem? (i := 173) (by decide +kernel)) (by decide +kernel)
theorem fl_X4_204 : FL RX4 204 3 0 := ⟨RX3, TX3, 5, tyX3, cl_X3, by decide, rfl, fw_X4_204⟩
theorem fw_X4_222 : Cond.fieldLink RX4 222 RX0 (TX0 1).2.1 (TX0 1).2.2.1 ∈ tbG := tbG_in (List.mem_of_getElem? (i := 199) (by decide +kernel)) (by decide +kernel)
theorem fl_X4_222 : FL RX4 222 0 1 := ⟨RX0, TX0, 3, tyX0, cl_X0, by decide, rfl, fw_X4_222⟩
theorem fw_X4_233 : Cond.fieldLink RX4 233 RX0 (TX0 0).2.1 (TX0 0).2.2.1 ∈ tbG := tbG_in (List.mem_of_getElem? (i := 197) (by decide +kernel)) (by decide +kernel)
theorem fl_X4_233 : FL RX4 233 0 0 := ⟨RX0, TX0, 3, tyX0, cl_X0, by decide, rfl, fw_X4_233⟩
theorem fw_X4_263 : Cond.fieldLink RX4 263 RX1 (TX1 3).2.1 (TX1 3).2.2.1 ∈ tbG := tbG_in (List.mem_of_getElem? (i := 100) (by decide +kernel)) (by decide +kernel)
theorem fl_X4_263 : FL RX4 263 1 3 := ⟨RX1, TX1, 13, tyX1, cl_X1, by decide, rfl, fw_X4_263⟩
theorem fw_X5_7 : Cond.fieldLink RX5 7 RX5 (TX5 0).2.1 (TX5 0).2.2.1 ∈ tbG := tbG_in (List.mem_of_getElem? (i := 718) (by decide +kernel)) (by decide +kernel)
theorem fl_X5_7 : FL RX5 7 5 0 := ⟨RX5, TX5, 20, tyX5, cl_X5, by decide, rfl, fw_X5_7⟩
theorem fw_X5_13 : Cond.fieldLink RX5 13 RX5 (TX5 1).2.1 (TX5 1).2.2.1 ∈ tbG := tbG_in (List.mem_of_getElem? (i := 719) (by decide +kernel)) (by decide +kernel)
theorem fl_X5_13 : FL RX5 13 5 1 := ⟨RX5, TX5, 20, tyX5, cl_X5, by decide, rfl, fw_X5_13⟩
theorem fw_X5_16 : Cond.fieldLink RX5 16 RX5 (TX5 3).2.1 (TX5 3).2.2.1 ∈ tbG := tbG_in (List.mem_of_getElem? (i := 721) (by decide +kernel)) (by decide +kernel)
theorem fl_X5_16 : FL RX5 16 5 3 := ⟨RX5, TX5, 20, tyX5, cl_X5, by decide, rfl, fw_X5_16⟩
theorem fw_X5_19 : Cond.fieldLink RX5 19 RX5 (TX5 4).2.1 (TX5 4).2.2.1 ∈ tbG := tbG_in (List.mem_of_getElem? (i := 722) (by decide +kernel)) (by decide +kernel)
theorem fl_X5_19 : FL RX5 19 5 4 := ⟨RX5, TX5, 20, tyX5, cl_X5, by decide, rfl, fw_X5_19⟩
theorem fw_X5_22 : Cond.fieldLink RX5 22 RX5 (TX5 5).2.1 (TX5 5).2.2.1 ∈ tbG := tbG_in (List.mem_of_getElem? (i := 723) (by decide +kernel)) (by decide +kernel)
theorem fl_X5_22 : FL RX5 22 5 5 := ⟨RX5, TX5, 20, tyX5, cl_X5, by decide, rfl, fw_X5_22⟩
theorem fw_X5_25 : Cond.fieldLink RX5 25 RX5 (TX5 13).2.1 (TX5 13).2.2.1 ∈ tbG := tbG_in (List.mem_of_getElem? (i := 731) (by decide +kernel)) (by decide +kernel)
theorem fl_X5_25 : FL RX5 25 5 13 := ⟨RX5, TX5, 20, tyX5, cl_X5, by decide, rfl, fw_X5_25⟩
theorem fw_X5_28 : Cond.fieldLink RX5 28 RX5 (TX5 14).2.1 (TX5 14).2.2.1 ∈ tbG := tbG_in (List.mem_of_getElem? (i := 732) (by decide +kernel)) (by decide +kernel)
theorem fl_X5_28 : FL RX5 28 5 14 := ⟨RX5, TX5, 20, tyX5, cl_X5, by decide, rfl, fw_X5_28⟩
theorem fw_X5_31 : Cond.fieldLink RX5 31 RX5 (TX5 15).2.1 (TX5 15).2.2.1 ∈ tbG := tbG_in (List.mem_of_getElem? (i := 733) (by decide +kernel)) (by decide +kernel)
theorem fl_X5_31 : FL RX5 31 5 15 := ⟨RX5, TX5, 20, tyX5, cl_X5, by decide, rfl, fw_X5_31⟩
theorem fw_X5_35 : Cond.fieldLink RX5 35 RX5 (TX5 16).2.1 (TX5 16).2.2.1 ∈ tbG := tbG_in (List.mem_of_getElem? (i := 734) (by decide +kernel)) (by decide +kernel)
theorem fl_X5_35 : FL RX5 35 5 16 := ⟨RX5, TX5, 20, tyX5, cl_X5, by decide, rfl, fw_X5_35⟩
theorem fw_X5_38 : Cond.fieldLink RX5 38 RX5 (TX5 17).2.1 (TX5 17).2.2.1 ∈ tbG := tbG_in (List.mem_of_getElem? (i := 735) (by decide +kernel)) (by decide +kernel)
theorem fl_X5_38 : FL RX5 38 5 17 := ⟨RX5, TX5, 20, tyX5, cl_X5, by decide, rfl, fw_X5_38⟩
theorem fw_X5_41 : Cond.fieldLink RX5 41 RX5 (TX5 18).2.1 (TX5 18).2.2.1 ∈ tbG := tbG_in (List.mem_of_getElem? (i := 736) (by decide +kernel)) (by decide +kernel)
theorem fl_X5_41 : FL RX5 41 5 18 := ⟨RX5, TX5, 20, tyX5, cl_X5, by decide, rfl, fw_X5_41⟩
theorem fw_X5_141 : Cond.fieldLink RX5 141 RX5 (TX5 2).2.1 (TX5 2).2.2.1 ∈ tbG := tbG_in (List.mem_of_getElem? (i := 720) (by decide +kernel)) (by decide +kernel)
theorem fl_X5_141 : FL RX5 141 5 2 := ⟨RX5, TX5, 20, tyX5, cl_X5, by decide, rfl, fw_X5_141⟩
theorem fp_X5_141 : FP RX5 141 5 2 .int := ⟨RX5, TX5, 20, tyX5, cl_X5, by decide, rfl, fw_X5_141, rfl, by decide +kernel⟩
theorem fw_X5_170 : Cond.fieldLink RX5 170 RX5 (TX5 6).2.1 (TX5 6).2.2.1 ∈ tbG := tbG_in (List.mem_of_getElem? (i := 724) (by decide +kernel)) (by decide +kernel)
theorem fl_X5_170 : FL RX5 170 5 6 := ⟨RX5, TX5, 20, tyX5, cl_X5, by decide, rfl, fw_X5_170⟩
theorem fp_X5_170 : FP RX5 170 5 6 .int := ⟨RX5, TX5, 20, tyX5, cl_X5, by decide, rfl, fw_X5_170, rfl, by decide +kernel⟩
theorem fw_X5_173 : Cond.fieldLink RX5 173 RX5 (TX5 9).2.1 (TX5 9).2.2.1 ∈ tbG := tbG_in (List.mem_of_getElem? (i := 727) (by decide +kernel)) (by decide +kernel)
theorem fl_X5_173 : FL RX5 173 5 9 := ⟨RX5, TX5, 20, tyX5, cl_X5, by decide, rfl, fw_X5_173⟩
theorem fp_X5_173 : FP RX5 173 5 9 .int := ⟨RX5, TX5, 20, tyX5, cl_X5, by decide, rfl, fw_X5_173, rfl, by decide +kernel⟩
theorem fw_X5_176 : Cond.fieldLink RX5 176 RX5 (TX5 8).2.1 (TX5 8).2.2.1 ∈ tbG := tbG_in (List.mem_of_getElem? (i := 726) (by decide +kernel)) (by decide +kernel)
theorem fl_X5_176 : FL RX5 176 5 8 := ⟨RX5, TX5, 20, tyX5, cl_X5, by decide, rfl, fw_X5_176⟩
theorem fp_X5_176 : FP RX5 176 5 8 .int := ⟨RX5, TX5, 20, tyX5, cl_X5, by decide, rfl, fw_X5_176, rfl, by decide +kernel⟩
theorem fw_X5_188 : Cond.fieldLink RX5 188 RX5 (TX5 7).2.1 (TX5 7).2.2.1 ∈ tbG := tbG_in (List.mem_of_getElem? (i := 725) (by decide +kernel)) (by decide +kernel)
theorem fl_X5_188 : FL RX5 188 5 7 := ⟨RX5, TX5, 20, tyX5, cl_X5, by decide, rfl, fw_X5_188⟩
theorem fp_X5_188 : FP RX5 188 5 7 .int := ⟨RX5, TX5, 20, tyX5, cl_X5, by decide, rfl, fw_X5_188, rfl, by decide +kernel⟩
theorem fw_X5_191 : Cond.fieldLink RX5 191 RX5 (TX5 10).2.1 (TX5 10).2.2.1 ∈ tbG := tbG_in (List.mem_of_getElem? (i := 728) (by decide +kernel)) (by decide +kernel)
theorem fl_X5_191 : FL RX5 191 5 10 := ⟨RX5, TX5, 20, tyX5, cl_X5, by decide, rfl, fw_X5_191⟩
theorem fp_X5_191 : FP RX5 191 5 10 .long := ⟨RX5, TX5, 20, tyX5, cl_X5, by decide, rfl, fw_X5_191, rfl, by decide +kernel⟩
theorem fw_X5_195 : Cond.fieldLink RX5 195 RX5 (TX5 11).2.1 (TX5 11).2.2.1 ∈ tbG := tbG_in (List.mem_of_getElem? (i := 729) (by decide +kernel)) (by decide +kernel)
theorem fl_X5_195 : FL RX5 195 5 11 := ⟨RX5, TX5, 20, tyX5, cl_X5, by decide, rfl, fw_X5_195⟩
theorem fp_X5_195 : FP RX5 195 5 11 .int := ⟨RX5, TX5, 20, tyX5, cl_X5, by decide, rfl, fw_X5_195, rfl, by decide +kernel⟩
theorem fw_X5_220 : Cond.fieldLink RX5 220 RX5 (TX5 12).2.1 (TX5 12).2.2.1 ∈ tbG := tbG_in (List.mem_of_getElem? (i := 730) (by decide +kernel)) (by decide +kernel)
theorem fl_X5_220 : FL RX5 220 5 12 := ⟨RX5, TX5, 20, tyX5, cl_X5, by decide, rfl, fw_X5_220⟩
theorem fp_X5_220 : FP RX5 220 5 12 .boolean := ⟨RX5, TX5, 20, tyX5, cl_X5, by decide, rfl, fw_X5_220, rfl, by decide +kernel⟩
theorem fw_X5_282 : Cond.fieldLink RX5 282 RX5 (TX5 19).2.1 (TX5 19).2.2.1 ∈ tbG := tbG_in (List.mem_of_getElem? (i := 737) (by decide +kernel)) (by decide +kernel)
theorem fl_X5_282 : FL RX5 282 5 19 := ⟨RX5, TX5, 20, tyX5, cl_X5, by decide, rfl, fw_X5_282⟩
theorem fp_X5_282 : FP RX5 282 5 19 .boolean := ⟨RX5, TX5, 20, tyX5, cl_X5, by decide, rfl, fw_X5_282, rfl, by decide +kernel⟩
theorem lc_X0_init : LC yX0_init cX0_init 1 none 0 := ⟨tbG_in (List.mem_of_getElem? (i := 68) (by decide +kernel)) (by decide +kernel), tbG_in (List.mem_of_getElem? (i := 194) (by decide +kernel)) (by decide +kernel), by decide, by decide, by decide +kernel, by decide⟩
theorem lc_X0_lay : LC yX0_lay cX0_lay 5 none 3 := ⟨tbG_in (List.mem_of_getElem? (i := 68) (by decide +kernel)) (by decide +kernel), tbG_in (List.mem_of_getElem? (i := 635) (by decide +kernel)) (by decide +kernel), by decide, by decide, by decide +kernel, by decide⟩
theorem lc_X0_isMissing : LC yX0_isMissing cX0_isMissing 2 (some .boolean) 1 := ⟨tbG_in (List.mem_of_getElem? (i := 68) (by decide +kernel)) (by decide +kernel), tbG_in (List.mem_of_getElem? (i := 643) (by decide +kernel)) (by decide +kernel), by decide, by decide, by decide +kernel, by decide⟩
theorem lc_X0_number : LC yX0_number cX0_number 3 (some .long) 2 := ⟨tbG_in (List.mem_of_getElem? (i := 68) (by decide +kernel)) (by decide +kernel), tbG_in (List.mem_of_getElem? (i := 648) (by decide +kernel)) (by decide +kernel), by decide, by decide, by decide +kernel, by decide⟩
theorem lc_X0_put : LC yX0_put cX0_put 5 none 3 := ⟨tbG_in (List.mem_of_getElem? (i := 68) (by decide +kernel)) (by decide +kernel), tbG_in (List.mem_of_getElem? (i := 652) (by decide +kernel)) (by decide +kernel), by decide, by decide, by decide +kernel, by decide⟩
theorem lc_X0_cut : LC yX0_cut cX0_cut 3 (some .long) 2 := ⟨tbG_in (List.mem_of_getElem? (i := 68) (by decide +kernel)) (by decide +kernel), tbG_in (List.mem_of_getElem? (i := 655) (by decide +kernel)) (by decide +kernel), by decide, by decide, by decide +kernel, by decide⟩
theorem lc_X0_hasRun : LC yX0_hasRun cX0_hasRun 4 (some .boolean) 3 := ⟨tbG_in (List.mem_of_getElem? (i := 68) (by decide +kernel)) (by decide +kernel), tbG_in (List.mem_of_getElem? (i := 663) (by decide +kernel)) (by decide +kernel), by decide, by decide, by decide +kernel, by decide⟩
theorem lc_X0_move : LC yX0_move cX0_move 6 none 5 := ⟨tbG_in (List.mem_of_getElem? (i := 68) (by decide +kernel)) (by decide +kernel), tbG_in (List.mem_of_getElem? (i := 667) (by decide +kernel)) (by decide +kernel), by decide, by decide, by decide +kernel, by decide⟩
theorem lc_X1_init : LC yX1_init cX1_init 2 none 0 := ⟨tbG_in (List.mem_of_getElem? (i := 65) (by decide +kernel)) (by decide +kernel), tbG_in (List.mem_of_getElem? (i := 88) (by decide +kernel)) (by decide +kernel), by decide, by decide, by decide +kernel, by decide⟩
theorem lc_X1_become : LC yX1_become cX1_become 2 none 1 := ⟨tbG_in (List.mem_of_getElem? (i := 65) (by decide +kernel)) (by decide +kernel), tbG_in (List.mem_of_getElem? (i := 426) (by decide +kernel)) (by decide +kernel), by decide, by decide, by decide +kernel, by decide⟩
theorem lc_X1_addOne : LC yX1_addOne cX1_addOne 4 (some .int) 2 := ⟨tbG_in (List.mem_of_getElem? (i := 65) (by decide +kernel)) (by decide +kernel), tbG_in (List.mem_of_getElem? (i := 315) (by decide +kernel)) (by decide +kernel), by decide, by decide, by decide +kernel, by decide⟩
theorem lc_X1_houseRow : LC yX1_houseRow cX1_houseRow 2 (some (.array .int)) 1 := ⟨tbG_in (List.mem_of_getElem? (i := 65) (by decide +kernel)) (by decide +kernel), tbG_in (List.mem_of_getElem? (i := 255) (by decide +kernel)) (by decide +kernel), by decide, by decide, by decide +kernel, by decide⟩
theorem lc_X1_sneezerRow : LC yX1_sneezerRow cX1_sneezerRow 2 (some (.array .int)) 1 := ⟨tbG_in (List.mem_of_getElem? (i := 65) (by decide +kernel)) (by decide +kernel), tbG_in (List.mem_of_getElem? (i := 350) (by decide +kernel)) (by decide +kernel), by decide, by decide, by decide +kernel, by decide⟩
theorem lc_X1_burns : LC yX1_burns cX1_burns 2 (some .boolean) 1 := ⟨tbG_in (List.mem_of_getElem? (i := 65) (by decide +kernel)) (by decide +kernel), tbG_in (List.mem_of_getElem? (i := 279) (by decide +kernel)) (by decide +kernel), by decide, by decide, by decide +kernel, by decide⟩
theorem lc_X1_burning : LC yX1_burning cX1_burning 3 (some .int) 0 := ⟨tbG_in (List.mem_of_getElem? (i := 65) (by decide +kernel)) (by decide +kernel), tbG_in (List.mem_of_getElem? (i := 275) (by decide +kernel)) (by decide +kernel), by decide, by decide, by decide +kernel, by decide⟩
theorem lc_X1_lampsBurning : LC yX1_lampsBurning cX1_lampsBurning 3 (some .int) 0 := ⟨tbG_in (List.mem_of_getElem? (i := 65) (by decide +kernel)) (by decide +kernel), tbG_in (List.mem_of_getElem? (i := 295) (by decide +kernel)) (by decide +kernel), by decide, by decide, by decide +kernel, by decide⟩
theorem lc_X1_openBooks : LC yX1_openBooks cX1_openBooks 3 (some .int) 0 := ⟨tbG_in (List.mem_of_getElem? (i := 65) (by decide +kernel)) (by decide +kernel), tbG_in (List.mem_of_getElem? (i := 283) (by decide +kernel)) (by decide +kernel), by decide, by decide, by decide +kernel, by decide⟩
theorem lc_X1_whoIsAt : LC yX1_whoIsAt cX1_whoIsAt 4 (some .int) 1 := ⟨tbG_in (List.mem_of_getElem? (i := 65) (by decide +kernel)) (by decide +kernel), tbG_in (List.mem_of_getElem? (i := 263) (by decide +kernel)) (by decide +kernel), by decide, by decide, by decide +kernel, by decide⟩
theorem lc_X1_readOfAll : LC yX1_readOfAll cX1_readOfAll 3 (some .int) 0 := ⟨tbG_in (List.mem_of_getElem? (i := 65) (by decide +kernel)) (by decide +kernel), tbG_in (List.mem_of_getElem? (i := 303) (by decide +kernel)) (by decide +kernel), by decide, by decide, by decide +kernel, by decide⟩
theorem lc_X1_coldOfAll : LC yX1_coldOfAll cX1_coldOfAll 3 (some .int) 0 := ⟨tbG_in (List.mem_of_getElem? (i := 65) (by decide +kernel)) (by decide +kernel), tbG_in (List.mem_of_getElem? (i := 299) (by decide +kernel)) (by decide +kernel), by decide, by decide, by decide +kernel, by decide⟩
theorem lc_X1_goneOffOfAll : LC yX1_goneOffOfAll cX1_goneOffOfAll 3 (some .int) 0 := ⟨tbG_in (List.mem_of_getElem? (i := 65) (by decide +kernel)) (by decide +kernel), tbG_in (List.mem_of_getElem? (i := 707) (by decide +kernel)) (by decide +kernel), by decide, by decide, by decide +kernel, by decide⟩
theorem lc_X1_ticklesOf : LC yX1_ticklesOf cX1_ticklesOf 5 (some .int) 1 := ⟨tbG_in (List.mem_of_getElem? (i := 65) (by decide +kernel)) (by decide +kernel), tbG_in (List.mem_of_getElem? (i := 327) (by decide +kernel)) (by decide +kernel), by decide, by decide, by decide +kernel, by decide⟩
theorem lc_X1_holdsOf : LC yX1_holdsOf cX1_holdsOf 5 (some .int) 1 := ⟨tbG_in (List.mem_of_getElem? (i := 65) (by decide +kernel)) (by decide +kernel), tbG_in (List.mem_of_getElem? (i := 291) (by decide +kernel)) (by decide +kernel), by decide, by decide, by decide +kernel, by decide⟩
theorem lc_X1_blowsOf : LC yX1_blowsOf cX1_blowsOf 5 (some .int) 1 := ⟨tbG_in (List.mem_of_getElem? (i := 65) (by decide +kernel)) (by decide +kernel), tbG_in (List.mem_of_getElem? (i := 335) (by decide +kernel)) (by decide +kernel), by decide, by decide, by decide +kernel, by decide⟩
theorem lc_X1_healsOf : LC yX1_healsOf cX1_healsOf 5 (some .int) 1 := ⟨tbG_in (List.mem_of_getElem? (i := 65) (by decide +kernel)) (by decide +kernel), tbG_in (List.mem_of_getElem? (i := 339) (by decide +kernel)) (by decide +kernel), by decide, by decide, by decide +kernel, by decide⟩
theorem lc_X1_ready : LC yX1_ready cX1_ready 3 (some .int) 0 := ⟨tbG_in (List.mem_of_getElem? (i := 65) (by decide +kernel)) (by decide +kernel), tbG_in (List.mem_of_getElem? (i := 287) (by decide +kernel)) (by decide +kernel), by decide, by decide, by decide +kernel, by decide⟩
theorem lc_X1_goMinutes : LC yX1_goMinutes cX1_goMinutes 3 none 1 := ⟨tbG_in (List.mem_of_getElem? (i := 65) (by decide +kernel)) (by decide +kernel), tbG_in (List.mem_of_getElem? (i := 372) (by decide +kernel)) (by decide +kernel), by decide, by decide, by decide +kernel, by decide⟩
theorem lc_X1_goMinute : LC yX1_goMinute cX1_goMinute 2 none 0 := ⟨tbG_in (List.mem_of_getElem? (i := 65) (by decide +kernel)) (by decide +kernel), tbG_in (List.mem_of_getElem? (i := 376) (by decide +kernel)) (by decide +kernel), by decide, by decide, by decide +kernel, by decide⟩
theorem lc_X1_burnLamps : LC yX1_burnLamps cX1_burnLamps 2 none 0 := ⟨tbG_in (List.mem_of_getElem? (i := 65) (by decide +kernel)) (by decide +kernel), tbG_in (List.mem_of_getElem? (i := 380) (by decide +kernel)) (by decide +kernel), by decide, by decide, by decide +kernel, by decide⟩
theorem lc_X1_tickleAll : LC yX1_tickleAll cX1_tickleAll 2 none 0 := ⟨tbG_in (List.mem_of_getElem? (i := 65) (by decide +kernel)) (by decide +kernel), tbG_in (List.mem_of_getElem? (i := 387) (by decide +kernel)) (by decide +kernel), by decide, by decide, by decide +kernel, by decide⟩
theorem lc_X1_goOff : LC yX1_goOff cX1_goOff 2 none 1 := ⟨tbG_in (List.mem_of_getElem? (i := 65) (by decide +kernel)) (by decide +kernel), tbG_in (List.mem_of_getElem? (i := 396) (by decide +kernel)) (by decide +kernel), by decide, by decide, by decide +kernel, by decide⟩
theorem lc_X1_lightBefore : LC yX1_lightBefore cX1_lightBefore 7 none 1 := ⟨tbG_in (List.mem_of_getElem? (i := 65) (by decide +kernel)) (by decide +kernel), tbG_in (List.mem_of_getElem? (i := 400) (by decide +kernel)) (by decide +kernel), by decide, by decide, by decide +kernel, by decide⟩
theorem lc_X1_giveCold : LC yX1_giveCold cX1_giveCold 3 none 1 := ⟨tbG_in (List.mem_of_getElem? (i := 65) (by decide +kernel)) (by decide +kernel), tbG_in (List.mem_of_getElem? (i := 406) (by decide +kernel)) (by decide +kernel), by decide, by decide, by decide +kernel, by decide⟩
theorem lc_X1_healAll : LC yX1_healAll cX1_healAll 2 none 0 := ⟨tbG_in (List.mem_of_getElem? (i := 65) (by decide +kernel)) (by decide +kernel), tbG_in (List.mem_of_getElem? (i := 413) (by decide +kernel)) (by decide +kernel), by decide, by decide, by decide +kernel, by decide⟩
theorem lc_X2_init : LC yX2_init cX2_init 1 none 0 := ⟨tbG_in (List.mem_of_getElem? (i := 66) (by decide +kernel)) (by decide +kernel), tbG_in (List.mem_of_getElem? (i := 155) (by decide +kernel)) (by decide +kernel), by decide, by decide, by decide +kernel, by decide⟩
theorem lc_X2_addByte : LC yX2_addByte cX2_addByte 2 none 1 := ⟨tbG_in (List.mem_of_getElem? (i := 66) (by decide +kernel)) (by decide +kernel), tbG_in (List.mem_of_getElem? (i := 494) (by decide +kernel)) (by decide +kernel), by decide, by decide, by decide +kernel, by decide⟩
theorem lc_X2_byteAt : LC yX2_byteAt cX2_byteAt 2 (some .int) 1 := ⟨tbG_in (List.mem_of_getElem? (i := 66) (by decide +kernel)) (by decide +kernel), tbG_in (List.mem_of_getElem? (i := 514) (by decide +kernel)) (by decide +kernel), by decide, by decide, by decide +kernel, by decide⟩
theorem lc_X3_init : LC yX3_init cX3_init 1 none 0 := ⟨tbG_in (List.mem_of_getElem? (i := 67) (by decide +kernel)) (by decide +kernel), tbG_in (List.mem_of_getElem? (i := 170) (by decide +kernel)) (by decide +kernel), by decide, by decide, by decide +kernel, by decide⟩
theorem lc_X3_tellAll : LC yX3_tellAll cX3_tellAll 4 (some .boolean) 2 := ⟨tbG_in (List.mem_of_getElem? (i := 67) (by decide +kernel)) (by decide +kernel), tbG_in (List.mem_of_getElem? (i := 506) (by decide +kernel)) (by decide +kernel), by decide, by decide, by decide +kernel, by decide⟩
theorem lc_X3_tellItem : LC yX3_tellItem cX3_tellItem 4 (some .boolean) 2 := ⟨tbG_in (List.mem_of_getElem? (i := 67) (by decide +kernel)) (by decide +kernel), tbG_in (List.mem_of_getElem? (i := 525) (by decide +kernel)) (by decide +kernel), by decide, by decide, by decide +kernel, by decide⟩
theorem lc_X3_tellSneezer : LC yX3_tellSneezer cX3_tellSneezer 5 (some .boolean) 3 := ⟨tbG_in (List.mem_of_getElem? (i := 67) (by decide +kernel)) (by decide +kernel), tbG_in (List.mem_of_getElem? (i := 590) (by decide +kernel)) (by decide +kernel), by decide, by decide, by decide +kernel, by decide⟩
theorem lc_X3_tellPart : LC yX3_tellPart cX3_tellPart 5 (some .boolean) 4 := ⟨tbG_in (List.mem_of_getElem? (i := 67) (by decide +kernel)) (by decide +kernel), tbG_in (List.mem_of_getElem? (i := 602) (by decide +kernel)) (by decide +kernel), by decide, by decide, by decide +kernel, by decide⟩
theorem lc_X3_tellBook : LC yX3_tellBook cX3_tellBook 4 (some .boolean) 3 := ⟨tbG_in (List.mem_of_getElem? (i := 67) (by decide +kernel)) (by decide +kernel), tbG_in (List.mem_of_getElem? (i := 608) (by decide +kernel)) (by decide +kernel), by decide, by decide, by decide +kernel, by decide⟩
theorem lc_X3_tellDry : LC yX3_tellDry cX3_tellDry 3 (some .boolean) 2 := ⟨tbG_in (List.mem_of_getElem? (i := 67) (by decide +kernel)) (by decide +kernel), tbG_in (List.mem_of_getElem? (i := 614) (by decide +kernel)) (by decide +kernel), by decide, by decide, by decide +kernel, by decide⟩
theorem lc_X3_tellLamp : LC yX3_tellLamp cX3_tellLamp 4 (some .boolean) 2 := ⟨tbG_in (List.mem_of_getElem? (i := 67) (by decide +kernel)) (by decide +kernel), tbG_in (List.mem_of_getElem? (i := 619) (by decide +kernel)) (by decide +kernel), by decide, by decide, by decide +kernel, by decide⟩
theorem lc_X3_nameOfKind : LC yX3_nameOfKind cX3_nameOfKind 1 (some (.object "java/lang/String")) 1 := ⟨tbG_in (List.mem_of_getElem? (i := 67) (by decide +kernel)) (by decide +kernel), tbG_in (List.mem_of_getElem? (i := 528) (by decide +kernel)) (by decide +kernel), by decide, by decide, by decide +kernel, by decide⟩
theorem lc_X3_isNumber : LC yX3_isNumber cX3_isNumber 2 (some .boolean) 1 := ⟨tbG_in (List.mem_of_getElem? (i := 67) (by decide +kernel)) (by decide +kernel), tbG_in (List.mem_of_getElem? (i := 594) (by decide +kernel)) (by decide +kernel), by decide, by decide, by decide +kernel, by decide⟩
theorem lc_X3_isWord : LC yX3_isWord cX3_isWord 4 (some .boolean) 2 := ⟨tbG_in (List.mem_of_getElem? (i := 67) (by decide +kernel)) (by decide +kernel), tbG_in (List.mem_of_getElem? (i := 538) (by decide +kernel)) (by decide +kernel), by decide, by decide, by decide +kernel, by decide⟩
theorem lc_X3_step : LC yX3_step cX3_step 3 none 1 := ⟨tbG_in (List.mem_of_getElem? (i := 67) (by decide +kernel)) (by decide +kernel), tbG_in (List.mem_of_getElem? (i := 510) (by decide +kernel)) (by decide +kernel), by decide, by decide, by decide +kernel, by decide⟩
theorem lc_X3_isLetter : LC yX3_isLetter cX3_isLetter 1 (some .boolean) 1 := ⟨tbG_in (List.mem_of_getElem? (i := 67) (by decide +kernel)) (by decide +kernel), tbG_in (List.mem_of_getElem? (i := 517) (by decide +kernel)) (by decide +kernel), by decide, by decide, by decide +kernel, by decide⟩
theorem lc_X3_isDigit : LC yX3_isDigit cX3_isDigit 1 (some .boolean) 1 := ⟨tbG_in (List.mem_of_getElem? (i := 67) (by decide +kernel)) (by decide +kernel), tbG_in (List.mem_of_getElem? (i := 520) (by decide +kernel)) (by decide +kernel), by decide, by decide, by decide +kernel, by decide⟩
theorem lc_X4_init : LC yX4_init cX4_init 1 none 0 := ⟨tbG_in (List.mem_of_getElem? (i := 64) (by decide +kernel)) (by decide +kernel), tbG_in (List.mem_of_getElem? (i := 80) (by decide +kernel)) (by decide +kernel), by decide, by decide, by decide +kernel, by decide⟩
theorem lc_X4_house : LC yX4_house cX4_house 6 (some .int) 3 := ⟨tbG_in (List.mem_of_getElem? (i := 64) (by decide +kernel)) (by decide +kernel), tbG_in (List.mem_of_getElem? (i := 237) (by decide +kernel)) (by decide +kernel), by decide, by decide, by decide +kernel, by decide⟩
theorem lc_X4_houseOf : LC yX4_houseOf cX4_houseOf 3 (some .int) 2 := ⟨tbG_in (List.mem_of_getElem? (i := 64) (by decide +kernel)) (by decide +kernel), tbG_in (List.mem_of_getElem? (i := 259) (by decide +kernel)) (by decide +kernel), by decide, by decide, by decide +kernel, by decide⟩
theorem lc_X4_dry : LC yX4_dry cX4_dry 3 (some .int) 1 := ⟨tbG_in (List.mem_of_getElem? (i := 64) (by decide +kernel)) (by decide +kernel), tbG_in (List.mem_of_getElem? (i := 267) (by decide +kernel)) (by decide +kernel), by decide, by decide, by decide +kernel, by decide⟩
theorem lc_X4_now : LC yX4_now cX4_now 2 (some .int) 1 := ⟨tbG_in (List.mem_of_getElem? (i := 64) (by decide +kernel)) (by decide +kernel), tbG_in (List.mem_of_getElem? (i := 271) (by decide +kernel)) (by decide +kernel), by decide, by decide, by decide +kernel, by decide⟩
theorem lc_X4_sneezer : LC yX4_sneezer cX4_sneezer 3 (some .int) 2 := ⟨tbG_in (List.mem_of_getElem? (i := 64) (by decide +kernel)) (by decide +kernel), tbG_in (List.mem_of_getElem? (i := 307) (by decide +kernel)) (by decide +kernel), by decide, by decide, by decide +kernel, by decide⟩
theorem lc_X4_of : LC yX4_of cX4_of 3 (some .int) 2 := ⟨tbG_in (List.mem_of_getElem? (i := 64) (by decide +kernel)) (by decide +kernel), tbG_in (List.mem_of_getElem? (i := 319) (by decide +kernel)) (by decide +kernel), by decide, by decide, by decide +kernel, by decide⟩
theorem lc_X4_set : LC yX4_set cX4_set 6 (some .int) 3 := ⟨tbG_in (List.mem_of_getElem? (i := 64) (by decide +kernel)) (by decide +kernel), tbG_in (List.mem_of_getElem? (i := 343) (by decide +kernel)) (by decide +kernel), by decide, by decide, by decide +kernel, by decide⟩
theorem lc_X4_turn : LC yX4_turn cX4_turn 4 (some .int) 2 := ⟨tbG_in (List.mem_of_getElem? (i := 64) (by decide +kernel)) (by decide +kernel), tbG_in (List.mem_of_getElem? (i := 354) (by decide +kernel)) (by decide +kernel), by decide, by decide, by decide +kernel, by decide⟩
theorem lc_X4_as : LC yX4_as cX4_as 3 (some .int) 2 := ⟨tbG_in (List.mem_of_getElem? (i := 64) (by decide +kernel)) (by decide +kernel), tbG_in (List.mem_of_getElem? (i := 358) (by decide +kernel)) (by decide +kernel), by decide, by decide, by decide +kernel, by decide⟩
theorem lc_X4_minutes : LC yX4_minutes cX4_minutes 2 (some .int) 1 := ⟨tbG_in (List.mem_of_getElem? (i := 64) (by decide +kernel)) (by decide +kernel), tbG_in (List.mem_of_getElem? (i := 366) (by decide +kernel)) (by decide +kernel), by decide, by decide, by decide +kernel, by decide⟩
theorem lc_X4_on : LC yX4_on cX4_on 4 (some .int) 3 := ⟨tbG_in (List.mem_of_getElem? (i := 64) (by decide +kernel)) (by decide +kernel), tbG_in (List.mem_of_getElem? (i := 418) (by decide +kernel)) (by decide +kernel), by decide, by decide, by decide +kernel, by decide⟩
theorem lc_X4_then : LC yX4_then cX4_then 4 (some .int) 3 := ⟨tbG_in (List.mem_of_getElem? (i := 64) (by decide +kernel)) (by decide +kernel), tbG_in (List.mem_of_getElem? (i := 433) (by decide +kernel)) (by decide +kernel), by decide, by decide, by decide +kernel, by decide⟩
theorem lc_X4_lit : LC yX4_lit cX4_lit 4 (some .int) 2 := ⟨tbG_in (List.mem_of_getElem? (i := 64) (by decide +kernel)) (by decide +kernel), tbG_in (List.mem_of_getElem? (i := 437) (by decide +kernel)) (by decide +kernel), by decide, by decide, by decide +kernel, by decide⟩
theorem lc_X4_goes : LC yX4_goes cX4_goes 3 (some .int) 1 := ⟨tbG_in (List.mem_of_getElem? (i := 64) (by decide +kernel)) (by decide +kernel), tbG_in (List.mem_of_getElem? (i := 444) (by decide +kernel)) (by decide +kernel), by decide, by decide, by decide +kernel, by decide⟩
theorem lc_X4_well : LC yX4_well cX4_well 2 (some .int) 0 := ⟨tbG_in (List.mem_of_getElem? (i := 64) (by decide +kernel)) (by decide +kernel), tbG_in (List.mem_of_getElem? (i := 449) (by decide +kernel)) (by decide +kernel), by decide, by decide, by decide +kernel, by decide⟩
theorem lc_X4_feather : LC yX4_feather cX4_feather 2 (some .int) 1 := ⟨tbG_in (List.mem_of_getElem? (i := 64) (by decide +kernel)) (by decide +kernel), tbG_in (List.mem_of_getElem? (i := 453) (by decide +kernel)) (by decide +kernel), by decide, by decide, by decide +kernel, by decide⟩
theorem lc_X4_seat : LC yX4_seat cX4_seat 3 (some .int) 2 := ⟨tbG_in (List.mem_of_getElem? (i := 64) (by decide +kernel)) (by decide +kernel), tbG_in (List.mem_of_getElem? (i := 465) (by decide +kernel)) (by decide +kernel), by decide, by decide, by decide +kernel, by decide⟩
theorem lc_X4_kind : LC yX4_kind cX4_kind 3 (some .int) 2 := ⟨tbG_in (List.mem_of_getElem? (i := 64) (by decide +kernel)) (by decide +kernel), tbG_in (List.mem_of_getElem? (i := 469) (by decide +kernel)) (by decide +kernel), by decide, by decide, by decide +kernel, by decide⟩
theorem lc_X4_driest : LC yX4_driest cX4_driest 4 (some .int) 2 := ⟨tbG_in (List.mem_of_getElem? (i := 64) (by decide +kernel)) (by decide +kernel), tbG_in (List.mem_of_getElem? (i := 473) (by decide +kernel)) (by decide +kernel), by decide, by decide, by decide +kernel, by decide⟩
theorem lc_X4_needs : LC yX4_needs cX4_needs 5 (some .int) 3 := ⟨tbG_in (List.mem_of_getElem? (i := 64) (by decide +kernel)) (by decide +kernel), tbG_in (List.mem_of_getElem? (i := 477) (by decide +kernel)) (by decide +kernel), by decide, by decide, by decide +kernel, by decide⟩
theorem lc_X4_dear : LC yX4_dear cX4_dear 6 (some .int) 1 := ⟨tbG_in (List.mem_of_getElem? (i := 64) (by decide +kernel)) (by decide +kernel), tbG_in (List.mem_of_getElem? (i := 481) (by decide +kernel)) (by decide +kernel), by decide, by decide, by decide +kernel, by decide⟩
theorem lc_X4_open : LC yX4_open cX4_open 2 (some .int) 1 := ⟨tbG_in (List.mem_of_getElem? (i := 64) (by decide +kernel)) (by decide +kernel), tbG_in (List.mem_of_getElem? (i := 486) (by decide +kernel)) (by decide +kernel), by decide, by decide, by decide +kernel, by decide⟩
theorem lc_X4_feed : LC yX4_feed cX4_feed 4 (some .int) 2 := ⟨tbG_in (List.mem_of_getElem? (i := 64) (by decide +kernel)) (by decide +kernel), tbG_in (List.mem_of_getElem? (i := 490) (by decide +kernel)) (by decide +kernel), by decide, by decide, by decide +kernel, by decide⟩
theorem lc_X4_wipe : LC yX4_wipe cX4_wipe 2 (some .int) 0 := ⟨tbG_in (List.mem_of_getElem? (i := 64) (by decide +kernel)) (by decide +kernel), tbG_in (List.mem_of_getElem? (i := 498) (by decide +kernel)) (by decide +kernel), by decide, by decide, by decide +kernel, by decide⟩
theorem lc_X4_winter : LC yX4_winter cX4_winter 2 (some .int) 0 := ⟨tbG_in (List.mem_of_getElem? (i := 64) (by decide +kernel)) (by decide +kernel), tbG_in (List.mem_of_getElem? (i := 502) (by decide +kernel)) (by decide +kernel), by decide, by decide, by decide +kernel, by decide⟩
theorem lc_X4_sheet : LC yX4_sheet cX4_sheet 5 (some .int) 3 := ⟨tbG_in (List.mem_of_getElem? (i := 64) (by decide +kernel)) (by decide +kernel), tbG_in (List.mem_of_getElem? (i := 624) (by decide +kernel)) (by decide +kernel), by decide, by decide, by decide +kernel, by decide⟩
theorem lc_X4_write : LC yX4_write cX4_write 7 (some .long) 3 := ⟨tbG_in (List.mem_of_getElem? (i := 64) (by decide +kernel)) (by decide +kernel), tbG_in (List.mem_of_getElem? (i := 639) (by decide +kernel)) (by decide +kernel), by decide, by decide, by decide +kernel, by decide⟩
theorem lc_X4_copy : LC yX4_copy cX4_copy 6 (some .int) 5 := ⟨tbG_in (List.mem_of_getElem? (i := 64) (by decide +kernel)) (by decide +kernel), tbG_in (List.mem_of_getElem? (i := 659) (by decide +kernel)) (by decide +kernel), by decide, by decide, by decide +kernel, by decide⟩
theorem lc_X4_lays : LC yX4_lays cX4_lays 7 (some .int) 1 := ⟨tbG_in (List.mem_of_getElem? (i := 64) (by decide +kernel)) (by decide +kernel), tbG_in (List.mem_of_getElem? (i := 672) (by decide +kernel)) (by decide +kernel), by decide, by decide, by decide +kernel, by decide⟩
theorem lc_X4_book : LC yX4_book cX4_book 4 (some .int) 2 := ⟨tbG_in (List.mem_of_getElem? (i := 64) (by decide +kernel)) (by decide +kernel), tbG_in (List.mem_of_getElem? (i := 678) (by decide +kernel)) (by decide +kernel), by decide, by decide, by decide +kernel, by decide⟩
theorem lc_X4_read : LC yX4_read cX4_read 6 (some .int) 2 := ⟨tbG_in (List.mem_of_getElem? (i := 64) (by decide +kernel)) (by decide +kernel), tbG_in (List.mem_of_getElem? (i := 682) (by decide +kernel)) (by decide +kernel), by decide, by decide, by decide +kernel, by decide⟩
theorem lc_X4_image : LC yX4_image cX4_image 1 (some .int) 0 := ⟨tbG_in (List.mem_of_getElem? (i := 64) (by decide +kernel)) (by decide +kernel), tbG_in (List.mem_of_getElem? (i := 690) (by decide +kernel)) (by decide +kernel), by decide, by decide, by decide +kernel, by decide⟩
theorem lc_X4_undo : LC yX4_undo cX4_undo 1 (some .int) 0 := ⟨tbG_in (List.mem_of_getElem? (i := 64) (by decide +kernel)) (by decide +kernel), tbG_in (List.mem_of_getElem? (i := 694) (by decide +kernel)) (by decide +kernel), by decide, by decide, by decide +kernel, by decide⟩
theorem lc_X4_tear : LC yX4_tear cX4_tear 2 (some .int) 0 := ⟨tbG_in (List.mem_of_getElem? (i := 64) (by decide +kernel)) (by decide +kernel), tbG_in (List.mem_of_getElem? (i := 698) (by decide +kernel)) (by decide +kernel), by decide, by decide, by decide +kernel, by decide⟩
theorem lc_X4_count : LC yX4_count cX4_count 2 (some .int) 1 := ⟨tbG_in (List.mem_of_getElem? (i := 64) (by decide +kernel)) (by decide +kernel), tbG_in (List.mem_of_getElem? (i := 702) (by decide +kernel)) (by decide +kernel), by decide, by decide, by decide +kernel, by decide⟩
theorem lc_X4_status : LC yX4_status cX4_status 4 (some .int) 1 := ⟨tbG_in (List.mem_of_getElem? (i := 64) (by decide +kernel)) (by decide +kernel), tbG_in (List.mem_of_getElem? (i := 711) (by decide +kernel)) (by decide +kernel), by decide, by decide, by decide +kernel, by decide⟩
theorem lc_X4_tell : LC yX4_tell cX4_tell 3 (some .int) 1 := ⟨tbG_in (List.mem_of_getElem? (i := 64) (by decide +kernel)) (by decide +kernel), tbG_in (List.mem_of_getElem? (i := 251) (by decide +kernel)) (by decide +kernel), by decide, by decide, by decide +kernel, by decide⟩
theorem lc_X4_startTrial : LC yX4_startTrial cX4_startTrial 1 none 0 := ⟨tbG_in (List.mem_of_getElem? (i := 64) (by decide +kernel)) (by decide +kernel), tbG_in (List.mem_of_getElem? (i := 422) (by decide +kernel)) (by decide +kernel), by decide, by decide, by decide +kernel, by decide⟩
theorem lc_X4_brightest : LC yX4_brightest cX4_brightest 9 (some .int) 4 := ⟨tbG_in (List.mem_of_getElem? (i := 64) (by decide +kernel)) (by decide +kernel), tbG_in (List.mem_of_getElem? (i := 457) (by decide +kernel)) (by decide +kernel), by decide, by decide, by decide +kernel, by decide⟩
theorem lc_X4_choose : LC yX4_choose cX4_choose 4 none 3 := ⟨tbG_in (List.mem_of_getElem? (i := 64) (by decide +kernel)) (by decide +kernel), tbG_in (List.mem_of_getElem? (i := 461) (by decide +kernel)) (by decide +kernel), by decide, by decide, by decide +kernel, by decide⟩
theorem lc_X4_ticklesJustSo : LC yX4_ticklesJustSo cX4_ticklesJustSo 6 (some .boolean) 4 := ⟨tbG_in (List.mem_of_getElem? (i := 64) (by decide +kernel)) (by decide +kernel), tbG_in (List.mem_of_getElem? (i := 686) (by decide +kernel)) (by decide +kernel), by decide, by decide, by decide +kernel, by decide⟩
theorem lc_X4_isThere : LC yX4_isThere cX4_isThere 2 (some .boolean) 1 := ⟨tbG_in (List.mem_of_getElem? (i := 64) (by decide +kernel)) (by decide +kernel), tbG_in (List.mem_of_getElem? (i := 323) (by decide +kernel)) (by decide +kernel), by decide, by decide, by decide +kernel, by decide⟩
theorem lc_X4_within : LC yX4_within cX4_within 3 (some .boolean) 3 := ⟨tbG_in (List.mem_of_getElem? (i := 64) (by decide +kernel)) (by decide +kernel), tbG_in (List.mem_of_getElem? (i := 243) (by decide +kernel)) (by decide +kernel), by decide, by decide, by decide +kernel, by decide⟩
theorem lc_X4_isHouse : LC yX4_isHouse cX4_isHouse 1 (some .boolean) 1 := ⟨tbG_in (List.mem_of_getElem? (i := 64) (by decide +kernel)) (by decide +kernel), tbG_in (List.mem_of_getElem? (i := 240) (by decide +kernel)) (by decide +kernel), by decide, by decide, by decide +kernel, by decide⟩
theorem lc_X4_isKind : LC yX4_isKind cX4_isKind 1 (some .boolean) 1 := ⟨tbG_in (List.mem_of_getElem? (i := 64) (by decide +kernel)) (by decide +kernel), tbG_in (List.mem_of_getElem? (i := 310) (by decide +kernel)) (by decide +kernel), by decide, by decide, by decide +kernel, by decide⟩
theorem lc_X4_isSheet : LC yX4_isSheet cX4_isSheet 1 (some .boolean) 1 := ⟨tbG_in (List.mem_of_getElem? (i := 64) (by decide +kernel)) (by decide +kernel), tbG_in (List.mem_of_getElem? (i := 627) (by decide +kernel)) (by decide +kernel), by decide, by decide, by decide +kernel, by decide⟩
theorem lc_X4_isWidth : LC yX4_isWidth cX4_isWidth 1 (some .boolean) 1 := ⟨tbG_in (List.mem_of_getElem? (i := 64) (by decide +kernel)) (by decide +kernel), tbG_in (List.mem_of_getElem? (i := 630) (by decide +kernel)) (by decide +kernel), by decide, by decide, by decide +kernel, by decide⟩
theorem lc_X4_isIn : LC yX4_isIn cX4_isIn 2 (some .boolean) 2 := ⟨tbG_in (List.mem_of_getElem? (i := 64) (by decide +kernel)) (by decide +kernel), tbG_in (List.mem_of_getElem? (i := 392) (by decide +kernel)) (by decide +kernel), by decide, by decide, by decide +kernel, by decide⟩
theorem lc_X4_isUnder : LC yX4_isUnder cX4_isUnder 2 (some .boolean) 2 := ⟨tbG_in (List.mem_of_getElem? (i := 64) (by decide +kernel)) (by decide +kernel), tbG_in (List.mem_of_getElem? (i := 361) (by decide +kernel)) (by decide +kernel), by decide, by decide, by decide +kernel, by decide⟩
theorem lc_X4_mostOfHouse : LC yX4_mostOfHouse cX4_mostOfHouse 1 (some .int) 1 := ⟨tbG_in (List.mem_of_getElem? (i := 64) (by decide +kernel)) (by decide +kernel), tbG_in (List.mem_of_getElem? (i := 246) (by decide +kernel)) (by decide +kernel), by decide, by decide, by decide +kernel, by decide⟩
theorem lc_X4_mostOfSneezer : LC yX4_mostOfSneezer cX4_mostOfSneezer 1 (some .int) 1 := ⟨tbG_in (List.mem_of_getElem? (i := 64) (by decide +kernel)) (by decide +kernel), tbG_in (List.mem_of_getElem? (i := 346) (by decide +kernel)) (by decide +kernel), by decide, by decide, by decide +kernel, by decide⟩
theorem lc_X5_init : LC yX5_init cX5_init 2 none 0 := ⟨tbG_in (List.mem_of_getElem? (i := 69) (by decide +kernel)) (by decide +kernel), tbG_in (List.mem_of_getElem? (i := 716) (by decide +kernel)) (by decide +kernel), by decide, by decide, by decide +kernel, by decide⟩
theorem lc_X5_in : LC yX5_in cX5_in 3 (some .boolean) 3 := ⟨tbG_in (List.mem_of_getElem? (i := 69) (by decide +kernel)) (by decide +kernel), tbG_in (List.mem_of_getElem? (i := 788) (by decide +kernel)) (by decide +kernel), by decide, by decide, by decide +kernel, by decide⟩
theorem lc_X5_finds : LC yX5_finds cX5_finds 2 (some .int) 1 := ⟨tbG_in (List.mem_of_getElem? (i := 69) (by decide +kernel)) (by decide +kernel), tbG_in (List.mem_of_getElem? (i := 800) (by decide +kernel)) (by decide +kernel), by decide, by decide, by decide +kernel, by decide⟩
theorem lc_X5_held : LC yX5_held cX5_held 3 (some .int) 3 := ⟨tbG_in (List.mem_of_getElem? (i := 69) (by decide +kernel)) (by decide +kernel), tbG_in (List.mem_of_getElem? (i := 883) (by decide +kernel)) (by decide +kernel), by decide, by decide, by decide +kernel, by decide⟩
theorem lc_X5_its : LC yX5_its cX5_its 3 (some .int) 2 := ⟨tbG_in (List.mem_of_getElem? (i := 69) (by decide +kernel)) (by decide +kernel), tbG_in (List.mem_of_getElem? (i := 816) (by decide +kernel)) (by decide +kernel), by decide, by decide, by decide +kernel, by decide⟩
theorem lc_X5_puts : LC yX5_puts cX5_puts 4 none 3 := ⟨tbG_in (List.mem_of_getElem? (i := 69) (by decide +kernel)) (by decide +kernel), tbG_in (List.mem_of_getElem? (i := 868) (by decide +kernel)) (by decide +kernel), by decide, by decide, by decide +kernel, by decide⟩
theorem lc_X5_stands : LC yX5_stands cX5_stands 3 (some .int) 2 := ⟨tbG_in (List.mem_of_getElem? (i := 69) (by decide +kernel)) (by decide +kernel), tbG_in (List.mem_of_getElem? (i := 808) (by decide +kernel)) (by decide +kernel), by decide, by decide, by decide +kernel, by decide⟩
theorem lc_X5_rests : LC yX5_rests cX5_rests 4 none 3 := ⟨tbG_in (List.mem_of_getElem? (i := 69) (by decide +kernel)) (by decide +kernel), tbG_in (List.mem_of_getElem? (i := 929) (by decide +kernel)) (by decide +kernel), by decide, by decide, by decide +kernel, by decide⟩
theorem lc_X5_becomes : LC yX5_becomes cX5_becomes 4 (some .int) 2 := ⟨tbG_in (List.mem_of_getElem? (i := 69) (by decide +kernel)) (by decide +kernel), tbG_in (List.mem_of_getElem? (i := 795) (by decide +kernel)) (by decide +kernel), by decide, by decide, by decide +kernel, by decide⟩
theorem lc_X5_isOne : LC yX5_isOne cX5_isOne 2 (some .boolean) 1 := ⟨tbG_in (List.mem_of_getElem? (i := 69) (by decide +kernel)) (by decide +kernel), tbG_in (List.mem_of_getElem? (i := 876) (by decide +kernel)) (by decide +kernel), by decide, by decide, by decide +kernel, by decide⟩
theorem lc_X5_isHouse : LC yX5_isHouse cX5_isHouse 1 (some .boolean) 1 := ⟨tbG_in (List.mem_of_getElem? (i := 69) (by decide +kernel)) (by decide +kernel), tbG_in (List.mem_of_getElem? (i := 785) (by decide +kernel)) (by decide +kernel), by decide, by decide, by decide +kernel, by decide⟩
theorem lc_X5_isKind : LC yX5_isKind cX5_isKind 1 (some .boolean) 1 := ⟨tbG_in (List.mem_of_getElem? (i := 69) (by decide +kernel)) (by decide +kernel), tbG_in (List.mem_of_getElem? (i := 859) (by decide +kernel)) (by decide +kernel), by decide, by decide, by decide +kernel, by decide⟩
theorem lc_X5_setOf : LC yX5_setOf cX5_setOf 4 (some .int) 1 := ⟨tbG_in (List.mem_of_getElem? (i := 69) (by decide +kernel)) (by decide +kernel), tbG_in (List.mem_of_getElem? (i := 828) (by decide +kernel)) (by decide +kernel), by decide, by decide, by decide +kernel, by decide⟩
theorem lc_X5_lampsMany : LC yX5_lampsMany cX5_lampsMany 3 (some .int) 0 := ⟨tbG_in (List.mem_of_getElem? (i := 69) (by decide +kernel)) (by decide +kernel), tbG_in (List.mem_of_getElem? (i := 844) (by decide +kernel)) (by decide +kernel), by decide, by decide, by decide +kernel, by decide⟩
theorem lc_X5_readOfAll : LC yX5_readOfAll cX5_readOfAll 3 (some .int) 0 := ⟨tbG_in (List.mem_of_getElem? (i := 69) (by decide +kernel)) (by decide +kernel), tbG_in (List.mem_of_getElem? (i := 852) (by decide +kernel)) (by decide +kernel), by decide, by decide, by decide +kernel, by decide⟩
theorem lc_X5_tickles : LC yX5_tickles cX5_tickles 3 (some .int) 1 := ⟨tbG_in (List.mem_of_getElem? (i := 69) (by decide +kernel)) (by decide +kernel), tbG_in (List.mem_of_getElem? (i := 880) (by decide +kernel)) (by decide +kernel), by decide, by decide, by decide +kernel, by decide⟩
theorem lc_X5_holds : LC yX5_holds cX5_holds 2 (some .int) 1 := ⟨tbG_in (List.mem_of_getElem? (i := 69) (by decide +kernel)) (by decide +kernel), tbG_in (List.mem_of_getElem? (i := 840) (by decide +kernel)) (by decide +kernel), by decide, by decide, by decide +kernel, by decide⟩
theorem lc_X5_blows : LC yX5_blows cX5_blows 3 (some .int) 1 := ⟨tbG_in (List.mem_of_getElem? (i := 69) (by decide +kernel)) (by decide +kernel), tbG_in (List.mem_of_getElem? (i := 887) (by decide +kernel)) (by decide +kernel), by decide, by decide, by decide +kernel, by decide⟩
theorem lc_X5_heals : LC yX5_heals cX5_heals 2 (some .int) 1 := ⟨tbG_in (List.mem_of_getElem? (i := 69) (by decide +kernel)) (by decide +kernel), tbG_in (List.mem_of_getElem? (i := 891) (by decide +kernel)) (by decide +kernel), by decide, by decide, by decide +kernel, by decide⟩
theorem lc_X5_isDue : LC yX5_isDue cX5_isDue 2 (some .boolean) 1 := ⟨tbG_in (List.mem_of_getElem? (i := 69) (by decide +kernel)) (by decide +kernel), tbG_in (List.mem_of_getElem? (i := 836) (by decide +kernel)) (by decide +kernel), by decide, by decide, by decide +kernel, by decide⟩
theorem lc_X5_dueSet : LC yX5_dueSet cX5_dueSet 3 (some .int) 0 := ⟨tbG_in (List.mem_of_getElem? (i := 69) (by decide +kernel)) (by decide +kernel), tbG_in (List.mem_of_getElem? (i := 832) (by decide +kernel)) (by decide +kernel), by decide, by decide, by decide +kernel, by decide⟩
theorem lc_X5_sumOf : LC yX5_sumOf cX5_sumOf 4 (some .int) 1 := ⟨tbG_in (List.mem_of_getElem? (i := 69) (by decide +kernel)) (by decide +kernel), tbG_in (List.mem_of_getElem? (i := 848) (by decide +kernel)) (by decide +kernel), by decide, by decide, by decide +kernel, by decide⟩
theorem lc_X5_mostOf : LC yX5_mostOf cX5_mostOf 1 (some .int) 1 := ⟨tbG_in (List.mem_of_getElem? (i := 69) (by decide +kernel)) (by decide +kernel), tbG_in (List.mem_of_getElem? (i := 791) (by decide +kernel)) (by decide +kernel), by decide, by decide, by decide +kernel, by decide⟩
theorem lc_X5_house : LC yX5_house cX5_house 4 (some .int) 3 := ⟨tbG_in (List.mem_of_getElem? (i := 69) (by decide +kernel)) (by decide +kernel), tbG_in (List.mem_of_getElem? (i := 782) (by decide +kernel)) (by decide +kernel), by decide, by decide, by decide +kernel, by decide⟩
theorem lc_X5_peopleAt : LC yX5_peopleAt cX5_peopleAt 4 (some .int) 1 := ⟨tbG_in (List.mem_of_getElem? (i := 69) (by decide +kernel)) (by decide +kernel), tbG_in (List.mem_of_getElem? (i := 812) (by decide +kernel)) (by decide +kernel), by decide, by decide, by decide +kernel, by decide⟩
theorem lc_X5_houseOf : LC yX5_houseOf cX5_houseOf 3 (some .int) 2 := ⟨tbG_in (List.mem_of_getElem? (i := 69) (by decide +kernel)) (by decide +kernel), tbG_in (List.mem_of_getElem? (i := 804) (by decide +kernel)) (by decide +kernel), by decide, by decide, by decide +kernel, by decide⟩
theorem lc_X5_dry : LC yX5_dry cX5_dry 2 (some .int) 1 := ⟨tbG_in (List.mem_of_getElem? (i := 69) (by decide +kernel)) (by decide +kernel), tbG_in (List.mem_of_getElem? (i := 820) (by decide +kernel)) (by decide +kernel), by decide, by decide, by decide +kernel, by decide⟩
theorem lc_X5_now : LC yX5_now cX5_now 2 (some .int) 1 := ⟨tbG_in (List.mem_of_getElem? (i := 69) (by decide +kernel)) (by decide +kernel), tbG_in (List.mem_of_getElem? (i := 824) (by decide +kernel)) (by decide +kernel), by decide, by decide, by decide +kernel, by decide⟩
theorem lc_X5_adds : LC yX5_adds cX5_adds 7 none 5 := ⟨tbG_in (List.mem_of_getElem? (i := 69) (by decide +kernel)) (by decide +kernel), tbG_in (List.mem_of_getElem? (i := 864) (by decide +kernel)) (by decide +kernel), by decide, by decide, by decide +kernel, by decide⟩
theorem lc_X5_sneezer : LC yX5_sneezer cX5_sneezer 3 (some .int) 2 := ⟨tbG_in (List.mem_of_getElem? (i := 69) (by decide +kernel)) (by decide +kernel), tbG_in (List.mem_of_getElem? (i := 856) (by decide +kernel)) (by decide +kernel), by decide, by decide, by decide +kernel, by decide⟩
theorem lc_X5_of : LC yX5_of cX5_of 3 (some .int) 2 := ⟨tbG_in (List.mem_of_getElem? (i := 69) (by decide +kernel)) (by decide +kernel), tbG_in (List.mem_of_getElem? (i := 872) (by decide +kernel)) (by decide +kernel), by decide, by decide, by decide +kernel, by decide⟩
theorem lc_X5_isPart : LC yX5_isPart cX5_isPart 2 (some .boolean) 2 := ⟨tbG_in (List.mem_of_getElem? (i := 69) (by decide +kernel)) (by decide +kernel), tbG_in (List.mem_of_getElem? (i := 898) (by decide +kernel)) (by decide +kernel), by decide, by decide, by decide +kernel, by decide⟩
theorem lc_X5_set : LC yX5_set cX5_set 4 (some .int) 3 := ⟨tbG_in (List.mem_of_getElem? (i := 69) (by decide +kernel)) (by decide +kernel), tbG_in (List.mem_of_getElem? (i := 895) (by decide +kernel)) (by decide +kernel), by decide, by decide, by decide +kernel, by decide⟩
theorem lc_X5_turn : LC yX5_turn cX5_turn 3 (some .int) 2 := ⟨tbG_in (List.mem_of_getElem? (i := 69) (by decide +kernel)) (by decide +kernel), tbG_in (List.mem_of_getElem? (i := 902) (by decide +kernel)) (by decide +kernel), by decide, by decide, by decide +kernel, by decide⟩
theorem lc_X5_as : LC yX5_as cX5_as 5 (some .int) 2 := ⟨tbG_in (List.mem_of_getElem? (i := 69) (by decide +kernel)) (by decide +kernel), tbG_in (List.mem_of_getElem? (i := 906) (by decide +kernel)) (by decide +kernel), by decide, by decide, by decide +kernel, by decide⟩
theorem lc_X5_burns : LC yX5_burns cX5_burns 2 none 1 := ⟨tbG_in (List.mem_of_getElem? (i := 69) (by decide +kernel)) (by decide +kernel), tbG_in (List.mem_of_getElem? (i := 925) (by decide +kernel)) (by decide +kernel), by decide, by decide, by decide +kernel, by decide⟩
theorem lc_X5_lights : LC yX5_lights cX5_lights 6 none 1 := ⟨tbG_in (List.mem_of_getElem? (i := 69) (by decide +kernel)) (by decide +kernel), tbG_in (List.mem_of_getElem? (i := 937) (by decide +kernel)) (by decide +kernel), by decide, by decide, by decide +kernel, by decide⟩
theorem lc_X5_catches : LC yX5_catches cX5_catches 4 none 1 := ⟨tbG_in (List.mem_of_getElem? (i := 69) (by decide +kernel)) (by decide +kernel), tbG_in (List.mem_of_getElem? (i := 941) (by decide +kernel)) (by decide +kernel), by decide, by decide, by decide +kernel, by decide⟩
theorem lc_X5_goesOff : LC yX5_goesOff cX5_goesOff 2 none 1 := ⟨tbG_in (List.mem_of_getElem? (i := 69) (by decide +kernel)) (by decide +kernel), tbG_in (List.mem_of_getElem? (i := 933) (by decide +kernel)) (by decide +kernel), by decide, by decide, by decide +kernel, by decide⟩
theorem lc_X5_oneMinute : LC yX5_oneMinute cX5_oneMinute 3 none 0 := ⟨tbG_in (List.mem_of_getElem? (i := 69) (by decide +kernel)) (by decide +kernel), tbG_in (List.mem_of_getElem? (i := 921) (by decide +kernel)) (by decide +kernel), by decide, by decide, by decide +kernel, by decide⟩
theorem lc_X5_passes : LC yX5_passes cX5_passes 3 none 1 := ⟨tbG_in (List.mem_of_getElem? (i := 69) (by decide +kernel)) (by decide +kernel), tbG_in (List.mem_of_getElem? (i := 917) (by decide +kernel)) (by decide +kernel), by decide, by decide, by decide +kernel, by decide⟩
theorem lc_X5_minutes : LC yX5_minutes cX5_minutes 2 (some .int) 1 := ⟨tbG_in (List.mem_of_getElem? (i := 69) (by decide +kernel)) (by decide +kernel), tbG_in (List.mem_of_getElem? (i := 911) (by decide +kernel)) (by decide +kernel), by decide, by decide, by decide +kernel, by decide⟩
theorem lc_X5_behind : LC yX5_behind cX5_behind 4 (some .int) 2 := ⟨tbG_in (List.mem_of_getElem? (i := 69) (by decide +kernel)) (by decide +kernel), tbG_in (List.mem_of_getElem? (i := 953) (by decide +kernel)) (by decide +kernel), by decide, by decide, by decide +kernel, by decide⟩
theorem lc_X5_on : LC yX5_on cX5_on 4 (some .int) 3 := ⟨tbG_in (List.mem_of_getElem? (i := 69) (by decide +kernel)) (by decide +kernel), tbG_in (List.mem_of_getElem? (i := 945) (by decide +kernel)) (by decide +kernel), by decide, by decide, by decide +kernel, by decide⟩
theorem lc_X5_then : LC yX5_then cX5_then 4 (some .int) 3 := ⟨tbG_in (List.mem_of_getElem? (i := 69) (by decide +kernel)) (by decide +kernel), tbG_in (List.mem_of_getElem? (i := 957) (by decide +kernel)) (by decide +kernel), by decide, by decide, by decide +kernel, by decide⟩
theorem lc_X5_isLit : LC yX5_isLit cX5_isLit 2 (some .boolean) 1 := ⟨tbG_in (List.mem_of_getElem? (i := 69) (by decide +kernel)) (by decide +kernel), tbG_in (List.mem_of_getElem? (i := 965) (by decide +kernel)) (by decide +kernel), by decide, by decide, by decide +kernel, by decide⟩
theorem lc_X5_lit : LC yX5_lit cX5_lit 4 (some .int) 2 := ⟨tbG_in (List.mem_of_getElem? (i := 69) (by decide +kernel)) (by decide +kernel), tbG_in (List.mem_of_getElem? (i := 961) (by decide +kernel)) (by decide +kernel), by decide, by decide, by decide +kernel, by decide⟩
theorem lc_X5_goes : LC yX5_goes cX5_goes 4 (some .int) 1 := ⟨tbG_in (List.mem_of_getElem? (i := 69) (by decide +kernel)) (by decide +kernel), tbG_in (List.mem_of_getElem? (i := 970) (by decide +kernel)) (by decide +kernel), by decide, by decide, by decide +kernel, by decide⟩
theorem lc_X5_well : LC yX5_well cX5_well 2 (some .int) 0 := ⟨tbG_in (List.mem_of_getElem? (i := 69) (by decide +kernel)) (by decide +kernel), tbG_in (List.mem_of_getElem? (i := 974) (by decide +kernel)) (by decide +kernel), by decide, by decide, by decide +kernel, by decide⟩
theorem lc_X5_readBehind : LC yX5_readBehind cX5_readBehind 3 (some .int) 1 := ⟨tbG_in (List.mem_of_getElem? (i := 69) (by decide +kernel)) (by decide +kernel), tbG_in (List.mem_of_getElem? (i := 982) (by decide +kernel)) (by decide +kernel), by decide, by decide, by decide +kernel, by decide⟩
theorem lc_X5_feather : LC yX5_feather cX5_feather 6 (some .int) 1 := ⟨tbG_in (List.mem_of_getElem? (i := 69) (by decide +kernel)) (by decide +kernel), tbG_in (List.mem_of_getElem? (i := 978) (by decide +kernel)) (by decide +kernel), by decide, by decide, by decide +kernel, by decide⟩
theorem lc_X5_seat : LC yX5_seat cX5_seat 7 (some .int) 2 := ⟨tbG_in (List.mem_of_getElem? (i := 69) (by decide +kernel)) (by decide +kernel), tbG_in (List.mem_of_getElem? (i := 986) (by decide +kernel)) (by decide +kernel), by decide, by decide, by decide +kernel, by decide⟩
theorem lc_X5_kind : LC yX5_kind cX5_kind 7 (some .int) 2 := ⟨tbG_in (List.mem_of_getElem? (i := 69) (by decide +kernel)) (by decide +kernel), tbG_in (List.mem_of_getElem? (i := 990) (by decide +kernel)) (by decide +kernel), by decide, by decide, by decide +kernel, by decide⟩
theorem lc_X5_driest : LC yX5_driest cX5_driest 5 (some .int) 2 := ⟨tbG_in (List.mem_of_getElem? (i := 69) (by decide +kernel)) (by decide +kernel), tbG_in (List.mem_of_getElem? (i := 994) (by decide +kernel)) (by decide +kernel), by decide, by decide, by decide +kernel, by decide⟩
theorem lc_X5_needs : LC yX5_needs cX5_needs 6 (some .int) 3 := ⟨tbG_in (List.mem_of_getElem? (i := 69) (by decide +kernel)) (by decide +kernel), tbG_in (List.mem_of_getElem? (i := 998) (by decide +kernel)) (by decide +kernel), by decide, by decide, by decide +kernel, by decide⟩
theorem lc_X5_dear : LC yX5_dear cX5_dear 7 (some .int) 1 := ⟨tbG_in (List.mem_of_getElem? (i := 69) (by decide +kernel)) (by decide +kernel), tbG_in (List.mem_of_getElem? (i := 1002) (by decide +kernel)) (by decide +kernel), by decide, by decide, by decide +kernel, by decide⟩
theorem lc_X5_open : LC yX5_open cX5_open 6 (some .int) 1 := ⟨tbG_in (List.mem_of_getElem? (i := 69) (by decide +kernel)) (by decide +kernel), tbG_in (List.mem_of_getElem? (i := 1006) (by decide +kernel)) (by decide +kernel), by decide, by decide, by decide +kernel, by decide⟩
theorem lc_X5_feed : LC yX5_feed cX5_feed 4 (some .int) 2 := ⟨tbG_in (List.mem_of_getElem? (i := 69) (by decide +kernel)) (by decide +kernel), tbG_in (List.mem_of_getElem? (i := 1010) (by decide +kernel)) (by decide +kernel), by decide, by decide, by decide +kernel, by decide⟩
theorem lc_X5_wipe : LC yX5_wipe cX5_wipe 2 (some .int) 0 := ⟨tbG_in (List.mem_of_getElem? (i := 69) (by decide +kernel)) (by decide +kernel), tbG_in (List.mem_of_getElem? (i := 1014) (by decide +kernel)) (by decide +kernel), by decide, by decide, by decide +kernel, by decide⟩
theorem lc_X5_byteAt : LC yX5_byteAt cX5_byteAt 2 (some .int) 1 := ⟨tbG_in (List.mem_of_getElem? (i := 69) (by decide +kernel)) (by decide +kernel), tbG_in (List.mem_of_getElem? (i := 1026) (by decide +kernel)) (by decide +kernel), by decide, by decide, by decide +kernel, by decide⟩
theorem lc_X5_isLetter : LC yX5_isLetter cX5_isLetter 1 (some .boolean) 1 := ⟨tbG_in (List.mem_of_getElem? (i := 69) (by decide +kernel)) (by decide +kernel), tbG_in (List.mem_of_getElem? (i := 1029) (by decide +kernel)) (by decide +kernel), by decide, by decide, by decide +kernel, by decide⟩
theorem lc_X5_isDigit : LC yX5_isDigit cX5_isDigit 1 (some .boolean) 1 := ⟨tbG_in (List.mem_of_getElem? (i := 69) (by decide +kernel)) (by decide +kernel), tbG_in (List.mem_of_getElem? (i := 1032) (by decide +kernel)) (by decide +kernel), by decide, by decide, by decide +kernel, by decide⟩
theorem lc_X5_advance : LC yX5_advance cX5_advance 2 none 0 := ⟨tbG_in (List.mem_of_getElem? (i := 69) (by decide +kernel)) (by decide +kernel), tbG_in (List.mem_of_getElem? (i := 1022) (by decide +kernel)) (by decide +kernel), by decide, by decide, by decide +kernel, by decide⟩
theorem lc_X5_isWord : LC yX5_isWord cX5_isWord 3 (some .boolean) 1 := ⟨tbG_in (List.mem_of_getElem? (i := 69) (by decide +kernel)) (by decide +kernel), tbG_in (List.mem_of_getElem? (i := 1048) (by decide +kernel)) (by decide +kernel), by decide, by decide, by decide +kernel, by decide⟩
theorem lc_X5_kindHere : LC yX5_kindHere cX5_kindHere 1 (some .int) 0 := ⟨tbG_in (List.mem_of_getElem? (i := 69) (by decide +kernel)) (by decide +kernel), tbG_in (List.mem_of_getElem? (i := 1043) (by decide +kernel)) (by decide +kernel), by decide, by decide, by decide +kernel, by decide⟩
theorem lc_X5_wantNumber : LC yX5_wantNumber cX5_wantNumber 4 (some .int) 2 := ⟨tbG_in (List.mem_of_getElem? (i := 69) (by decide +kernel)) (by decide +kernel), tbG_in (List.mem_of_getElem? (i := 1061) (by decide +kernel)) (by decide +kernel), by decide, by decide, by decide +kernel, by decide⟩
theorem lc_X5_mayWant : LC yX5_mayWant cX5_mayWant 6 (some .int) 4 := ⟨tbG_in (List.mem_of_getElem? (i := 69) (by decide +kernel)) (by decide +kernel), tbG_in (List.mem_of_getElem? (i := 1067) (by decide +kernel)) (by decide +kernel), by decide, by decide, by decide +kernel, by decide⟩
theorem lc_X5_wantOne : LC yX5_wantOne cX5_wantOne 6 none 1 := ⟨tbG_in (List.mem_of_getElem? (i := 69) (by decide +kernel)) (by decide +kernel), tbG_in (List.mem_of_getElem? (i := 1057) (by decide +kernel)) (by decide +kernel), by decide, by decide, by decide +kernel, by decide⟩
theorem lc_X5_wantBook : LC yX5_wantBook cX5_wantBook 3 none 1 := ⟨tbG_in (List.mem_of_getElem? (i := 69) (by decide +kernel)) (by decide +kernel), tbG_in (List.mem_of_getElem? (i := 1073) (by decide +kernel)) (by decide +kernel), by decide, by decide, by decide +kernel, by decide⟩
theorem lc_X5_wantLamp : LC yX5_wantLamp cX5_wantLamp 3 none 0 := ⟨tbG_in (List.mem_of_getElem? (i := 69) (by decide +kernel)) (by decide +kernel), tbG_in (List.mem_of_getElem? (i := 1079) (by decide +kernel)) (by decide +kernel), by decide, by decide, by decide +kernel, by decide⟩
theorem lc_X5_wantItem : LC yX5_wantItem cX5_wantItem 2 none 0 := ⟨tbG_in (List.mem_of_getElem? (i := 69) (by decide +kernel)) (by decide +kernel), tbG_in (List.mem_of_getElem? (i := 1039) (by decide +kernel)) (by decide +kernel), by decide, by decide, by decide +kernel, by decide⟩
theorem lc_X5_winter : LC yX5_winter cX5_winter 3 (some .int) 0 := ⟨tbG_in (List.mem_of_getElem? (i := 69) (by decide +kernel)) (by decide +kernel), tbG_in (List.mem_of_getElem? (i := 1018) (by decide +kernel)) (by decide +kernel), by decide, by decide, by decide +kernel, by decide⟩
theorem lc_X5_isSheet : LC yX5_isSheet cX5_isSheet 1 (some .boolean) 1 := ⟨tbG_in (List.mem_of_getElem? (i := 69) (by decide +kernel)) (by decide +kernel), tbG_in (List.mem_of_getElem? (i := 1087) (by decide +kernel)) (by decide +kernel), by decide, by decide, by decide +kernel, by decide⟩
theorem lc_X5_narrow : LC yX5_narrow cX5_narrow 3 (some .long) 2 := ⟨tbG_in (List.mem_of_getElem? (i := 69) (by decide +kernel)) (by decide +kernel), tbG_in (List.mem_of_getElem? (i := 1096) (by decide +kernel)) (by decide +kernel), by decide, by decide, by decide +kernel, by decide⟩
theorem lc_X5_sheet : LC yX5_sheet cX5_sheet 5 (some .int) 3 := ⟨tbG_in (List.mem_of_getElem? (i := 69) (by decide +kernel)) (by decide +kernel), tbG_in (List.mem_of_getElem? (i := 1084) (by decide +kernel)) (by decide +kernel), by decide, by decide, by decide +kernel, by decide⟩
theorem lc_X5_write : LC yX5_write cX5_write 7 (some .long) 3 := ⟨tbG_in (List.mem_of_getElem? (i := 69) (by decide +kernel)) (by decide +kernel), tbG_in (List.mem_of_getElem? (i := 1092) (by decide +kernel)) (by decide +kernel), by decide, by decide, by decide +kernel, by decide⟩
theorem lc_X5_isPart_ : LC yX5_isPart_ cX5_isPart_ 4 (some .boolean) 3 := ⟨tbG_in (List.mem_of_getElem? (i := 69) (by decide +kernel)) (by decide +kernel), tbG_in (List.mem_of_getElem? (i := 1104) (by decide +kernel)) (by decide +kernel), by decide, by decide, by decide +kernel, by decide⟩
theorem lc_X5_copy : LC yX5_copy cX5_copy 7 (some .int) 5 := ⟨tbG_in (List.mem_of_getElem? (i := 69) (by decide +kernel)) (by decide +kernel), tbG_in (List.mem_of_getElem? (i := 1100) (by decide +kernel)) (by decide +kernel), by decide, by decide, by decide +kernel, by decide⟩
theorem lc_X5_badSheet : LC yX5_badSheet cX5_badSheet 2 (some .int) 1 := ⟨tbG_in (List.mem_of_getElem? (i := 69) (by decide +kernel)) (by decide +kernel), tbG_in (List.mem_of_getElem? (i := 1112) (by decide +kernel)) (by decide +kernel), by decide, by decide, by decide +kernel, by decide⟩
theorem lc_X5_lays : LC yX5_lays cX5_lays 7 (some .int) 1 := ⟨tbG_in (List.mem_of_getElem? (i := 69) (by decide +kernel)) (by decide +kernel), tbG_in (List.mem_of_getElem? (i := 1108) (by decide +kernel)) (by decide +kernel), by decide, by decide, by decide +kernel, by decide⟩
theorem lc_X5_book : LC yX5_book cX5_book 5 (some .int) 2 := ⟨tbG_in (List.mem_of_getElem? (i := 69) (by decide +kernel)) (by decide +kernel), tbG_in (List.mem_of_getElem? (i := 1117) (by decide +kernel)) (by decide +kernel), by decide, by decide, by decide +kernel, by decide⟩
theorem lc_X5_isSo : LC yX5_isSo cX5_isSo 5 (some .boolean) 2 := ⟨tbG_in (List.mem_of_getElem? (i := 69) (by decide +kernel)) (by decide +kernel), tbG_in (List.mem_of_getElem? (i := 1125) (by decide +kernel)) (by decide +kernel), by decide, by decide, by decide +kernel, by decide⟩
theorem lc_X5_read : LC yX5_read cX5_read 6 (some .int) 2 := ⟨tbG_in (List.mem_of_getElem? (i := 69) (by decide +kernel)) (by decide +kernel), tbG_in (List.mem_of_getElem? (i := 1121) (by decide +kernel)) (by decide +kernel), by decide, by decide, by decide +kernel, by decide⟩
theorem lc_X5_moveAll : LC yX5_moveAll cX5_moveAll 4 none 2 := ⟨tbG_in (List.mem_of_getElem? (i := 69) (by decide +kernel)) (by decide +kernel), tbG_in (List.mem_of_getElem? (i := 949) (by decide +kernel)) (by decide +kernel), by decide, by decide, by decide +kernel, by decide⟩
theorem lc_X5_image : LC yX5_image cX5_image 1 (some .int) 0 := ⟨tbG_in (List.mem_of_getElem? (i := 69) (by decide +kernel)) (by decide +kernel), tbG_in (List.mem_of_getElem? (i := 1129) (by decide +kernel)) (by decide +kernel), by decide, by decide, by decide +kernel, by decide⟩
theorem lc_X5_undo : LC yX5_undo cX5_undo 1 (some .int) 0 := ⟨tbG_in (List.mem_of_getElem? (i := 69) (by decide +kernel)) (by decide +kernel), tbG_in (List.mem_of_getElem? (i := 1133) (by decide +kernel)) (by decide +kernel), by decide, by decide, by decide +kernel, by decide⟩
theorem lc_X5_tear : LC yX5_tear cX5_tear 2 (some .int) 0 := ⟨tbG_in (List.mem_of_getElem? (i := 69) (by decide +kernel)) (by decide +kernel), tbG_in (List.mem_of_getElem? (i := 1137) (by decide +kernel)) (by decide +kernel), by decide, by decide, by decide +kernel, by decide⟩
theorem lc_X5_count : LC yX5_count cX5_count 2 (some .int) 1 := ⟨tbG_in (List.mem_of_getElem? (i := 69) (by decide +kernel)) (by decide +kernel), tbG_in (List.mem_of_getElem? (i := 1141) (by decide +kernel)) (by decide +kernel), by decide, by decide, by decide +kernel, by decide⟩
theorem lc_X5_status : LC yX5_status cX5_status 4 (some .int) 1 := ⟨tbG_in (List.mem_of_getElem? (i := 69) (by decide +kernel)) (by decide +kernel), tbG_in (List.mem_of_getElem? (i := 1145) (by decide +kernel)) (by decide +kernel), by decide, by decide, by decide +kernel, by decide⟩
theorem lc_J0_length_8abf5 : LC yJ0_length_8abf5 cJ0_length_8abf5 1 (some .int) 0 := ⟨tbG_in (List.mem_of_getElem? (i := 72) (by decide +kernel)) (by decide +kernel), tbG_in (List.mem_of_getElem? (i := 542) (by decide +kernel)) (by decide +kernel), by decide, by decide, by decide +kernel, by decide⟩
theorem lc_J0_charAt_5068e : LC yJ0_charAt_5068e cJ0_charAt_5068e 2 (some .char) 1 := ⟨tbG_in (List.mem_of_getElem? (i := 72) (by decide +kernel)) (by decide +kernel), tbG_in (List.mem_of_getElem? (i := 552) (by decide +kernel)) (by decide +kernel), by decide, by decide, by decide +kernel, by decide⟩
theorem lc_J0_coder_7d493 : LC yJ0_coder_7d493 cJ0_coder_7d493 1 (some .byte) 0 := ⟨tbG_in (List.mem_of_getElem? (i := 72) (by decide +kernel)) (by decide +kernel), tbG_in (List.mem_of_getElem? (i := 546) (by decide +kernel)) (by decide +kernel), by decide, by decide, by decide +kernel, by decide⟩
theorem lc_J0_isLatin1_aae02 : LC yJ0_isLatin1_aae02 cJ0_isLatin1_aae02 1 (some .boolean) 0 := ⟨tbG_in (List.mem_of_getElem? (i := 72) (by decide +kernel)) (by decide +kernel), tbG_in (List.mem_of_getElem? (i := 556) (by decide +kernel)) (by decide +kernel), by decide, by decide, by decide +kernel, by decide⟩
theorem lc_J0_checkIndex_df160 : LC yJ0_checkIndex_df160 cJ0_checkIndex_df160 2 none 2 := ⟨tbG_in (List.mem_of_getElem? (i := 72) (by decide +kernel)) (by decide +kernel), tbG_in (List.mem_of_getElem? (i := 562) (by decide +kernel)) (by decide +kernel), by decide, by decide, by decide +kernel, by decide⟩
theorem lc_J1_charAt_3b067 : LC yJ1_charAt_3b067 cJ1_charAt_3b067 2 (some .char) 2 := ⟨tbG_in (List.mem_of_getElem? (i := 73) (by decide +kernel)) (by decide +kernel), tbG_in (List.mem_of_getElem? (i := 559) (by decide +kernel)) (by decide +kernel), by decide, by decide, by decide +kernel, by decide⟩
theorem lc_J3_checkIndex_8e157 : LC yJ3_checkIndex_8e157 cJ3_checkIndex_8e157 3 (some .int) 3 := ⟨tbG_in (List.mem_of_getElem? (i := 74) (by decide +kernel)) (by decide +kernel), tbG_in (List.mem_of_getElem? (i := 567) (by decide +kernel)) (by decide +kernel), by decide, by decide, by decide +kernel, by decide⟩
theorem lk_J0_495 : LSt RJ0 495 yJ1_charAt_3b067 cJ1_charAt_3b067 2 (some .char) 2 := ⟨lc_J1_charAt_3b067, tbG_in (List.mem_of_getElem? (i := 557) (by decide +kernel)) (by decide +kernel), tbG_in (List.mem_of_getElem? (i := 558) (by decide +kernel)) (by decide +kernel)⟩
theorem lk_J0_1059 : LSt RJ0 1059 yJ3_checkIndex_8e157 cJ3_checkIndex_8e157 3 (some .int) 3 := ⟨lc_J3_checkIndex_8e157, tbG_in (List.mem_of_getElem? (i := 565) (by decide +kernel)) (by decide +kernel), tbG_in (List.mem_of_getElem? (i := 566) (by decide +kernel)) (by decide +kernel)⟩
theorem lk_J0_335 : LV RJ0 335 yJ0_coder_7d493 cJ0_coder_7d493 1 (some .byte) 0 := ⟨lc_J0_coder_7d493, tbG_in (List.mem_of_getElem? (i := 543) (by decide +kernel)) (by decide +kernel), tbG_in (List.mem_of_getElem? (i := 544) (by decide +kernel)) (by decide +kernel), tbG_in (List.mem_of_getElem? (i := 545) (by decide +kernel)) (by decide +kernel)⟩
theorem lk_J0_492 : LV RJ0 492 yJ0_isLatin1_aae02 cJ0_isLatin1_aae02 1 (some .boolean) 0 := ⟨lc_J0_isLatin1_aae02, tbG_in (List.mem_of_getElem? (i := 553) (by decide +kernel)) (by decide +kernel), tbG_in (List.mem_of_getElem? (i := 554) (by decide +kernel)) (by decide +kernel), tbG_in (List.mem_of_getElem? (i := 555) (by decide +kernel)) (by decide +kernel)⟩
theorem lk_J1_9 : LSt RJ1 9 yJ0_checkIndex_df160 cJ0_checkIndex_df160 2 none 2 := ⟨lc_J0_checkIndex_df160, tbG_in (List.mem_of_getElem? (i := 560) (by decide +kernel)) (by decide +kernel), tbG_in (List.mem_of_getElem? (i := 561) (by decide +kernel)) (by decide +kernel)⟩
theorem lk_J2_414 : LSt RJ2 414 yJ0_checkIndex_df160 cJ0_checkIndex_df160 2 none 2 := ⟨lc_J0_checkIndex_df160, tbG_in (List.mem_of_getElem? (i := 577) (by decide +kernel)) (by decide +kernel), tbG_in (List.mem_of_getElem? (i := 561) (by decide +kernel)) (by decide +kernel)⟩
theorem lk_L_13 : LV RL 13 yX4_house cX4_house 6 (some .int) 3 := ⟨lc_X4_house, tbG_in (List.mem_of_getElem? (i := 234) (by decide +kernel)) (by decide +kernel), tbG_in (List.mem_of_getElem? (i := 235) (by decide +kernel)) (by decide +kernel), tbG_in (List.mem_of_getElem? (i := 236) (by decide +kernel)) (by decide +kernel)⟩
theorem lk_L_17 : LV RL 17 yX5_house cX5_house 4 (some .int) 3 := ⟨lc_X5_house, tbG_in (List.mem_of_getElem? (i := 779) (by decide +kernel)) (by decide +kernel), tbG_in (List.mem_of_getElem? (i := 780) (by decide +kernel)) (by decide +kernel), tbG_in (List.mem_of_getElem? (i := 781) (by decide +kernel)) (by decide +kernel)⟩
theorem lk_L_18 : LV RL 18 yX4_houseOf cX4_houseOf 3 (some .int) 2 := ⟨lc_X4_houseOf, tbG_in (List.mem_of_getElem? (i := 256) (by decide +kernel)) (by decide +kernel), tbG_in (List.mem_of_getElem? (i := 257) (by decide +kernel)) (by decide +kernel), tbG_in (List.mem_of_getElem? (i := 258) (by decide +kernel)) (by decide +kernel)⟩
theorem lk_L_22 : LV RL 22 yX5_houseOf cX5_houseOf 3 (some .int) 2 := ⟨lc_X5_houseOf, tbG_in (List.mem_of_getElem? (i := 801) (by decide +kernel)) (by decide +kernel), tbG_in (List.mem_of_getElem? (i := 802) (by decide +kernel)) (by decide +kernel), tbG_in (List.mem_of_getElem? (i := 803) (by decide +kernel)) (by decide +kernel)⟩
theorem lk_L_23 : LV RL 23 yX4_dry cX4_dry 3 (some .int) 1 := ⟨lc_X4_dry, tbG_in (List.mem_of_getElem? (i := 264) (by decide +kernel)) (by decide +kernel), tbG_in (List.mem_of_getElem? (i := 265) (by decide +kernel)) (by decide +kernel), tbG_in (List.mem_of_getElem? (i := 266) (by decide +kernel)) (by decide +kernel)⟩
theorem lk_L_27 : LV RL 27 yX5_dry cX5_dry 2 (some .int) 1 := ⟨lc_X5_dry, tbG_in (List.mem_of_getElem? (i := 817) (by decide +kernel)) (by decide +kernel), tbG_in (List.mem_of_getElem? (i := 818) (by decide +kernel)) (by decide +kernel), tbG_in (List.mem_of_getElem? (i := 819) (by decide +kernel)) (by decide +kernel)⟩
theorem lk_L_28 : LV RL 28 yX4_now cX4_now 2 (some .int) 1 := ⟨lc_X4_now, tbG_in (List.mem_of_getElem? (i := 268) (by decide +kernel)) (by decide +kernel), tbG_in (List.mem_of_getElem? (i := 269) (by decide +kernel)) (by decide +kernel), tbG_in (List.mem_of_getElem? (i := 270) (by decide +kernel)) (by decide +kernel)⟩
theorem lk_L_31 : LV RL 31 yX5_now cX5_now 2 (some .int) 1 := ⟨lc_X5_now, tbG_in (List.mem_of_getElem? (i := 821) (by decide +kernel)) (by decide +kernel), tbG_in (List.mem_of_getElem? (i := 822) (by decide +kernel)) (by decide +kernel), tbG_in (List.mem_of_getElem? (i := 823) (by decide +kernel)) (by decide +kernel)⟩
theorem lk_L_32 : LV RL 32 yX4_sneezer cX4_sneezer 3 (some .int) 2 := ⟨lc_X4_sneezer, tbG_in (List.mem_of_getElem? (i := 304) (by decide +kernel)) (by decide +kernel), tbG_in (List.mem_of_getElem? (i := 305) (by decide +kernel)) (by decide +kernel), tbG_in (List.mem_of_getElem? (i := 306) (by decide +kernel)) (by decide +kernel)⟩
theorem lk_L_35 : LV RL 35 yX5_sneezer cX5_sneezer 3 (some .int) 2 := ⟨lc_X5_sneezer, tbG_in (List.mem_of_getElem? (i := 853) (by decide +kernel)) (by decide +kernel), tbG_in (List.mem_of_getElem? (i := 854) (by decide +kernel)) (by decide +kernel), tbG_in (List.mem_of_getElem? (i := 855) (by decide +kernel)) (by decide +kernel)⟩
theorem lk_L_36 : LV RL 36 yX4_of cX4_of 3 (some .int) 2 := ⟨lc_X4_of, tbG_in (List.mem_of_getElem? (i := 316) (by decide +kernel)) (by decide +kernel), tbG_in (List.mem_of_getElem? (i := 317) (by decide +kernel)) (by decide +kernel), tbG_in (List.mem_of_getElem? (i := 318) (by decide +kernel)) (by decide +kernel)⟩
theorem lk_L_39 : LV RL 39 yX5_of cX5_of 3 (some .int) 2 := ⟨lc_X5_of, tbG_in (List.mem_of_getElem? (i := 869) (by decide +kernel)) (by decide +kernel), tbG_in (List.mem_of_getElem? (i := 870) (by decide +kernel)) (by decide +kernel), tbG_in (List.mem_of_getElem? (i := 871) (by decide +kernel)) (by decide +kernel)⟩
theorem lk_L_40 : LV RL 40 yX4_set cX4_set 6 (some .int) 3 := ⟨lc_X4_set, tbG_in (List.mem_of_getElem? (i := 340) (by decide +kernel)) (by decide +kernel), tbG_in (List.mem_of_getElem? (i := 341) (by decide +kernel)) (by decide +kernel), tbG_in (List.mem_of_getElem? (i := 342) (by decide +kernel)) (by decide +kernel)⟩
theorem lk_L_43 : LV RL 43 yX5_set cX5_set 4 (some .int) 3 := ⟨lc_X5_set, tbG_in (List.mem_of_getElem? (i := 892) (by decide +kernel)) (by decide +kernel), tbG_in (List.mem_of_getElem? (i := 893) (by decide +kernel)) (by decide +kernel), tbG_in (List.mem_of_getElem? (i := 894) (by decide +kernel)) (by decide +kernel)⟩
theorem lk_L_44 : LV RL 44 yX4_turn cX4_turn 4 (some .int) 2 := ⟨lc_X4_turn, tbG_in (List.mem_of_getElem? (i := 351) (by decide +kernel)) (by decide +kernel), tbG_in (List.mem_of_getElem? (i := 352) (by decide +kernel)) (by decide +kernel), tbG_in (List.mem_of_getElem? (i := 353) (by decide +kernel)) (by decide +kernel)⟩
theorem lk_L_47 : LV RL 47 yX5_turn cX5_turn 3 (some .int) 2 := ⟨lc_X5_turn, tbG_in (List.mem_of_getElem? (i := 899) (by decide +kernel)) (by decide +kernel), tbG_in (List.mem_of_getElem? (i := 900) (by decide +kernel)) (by decide +kernel), tbG_in (List.mem_of_getElem? (i := 901) (by decide +kernel)) (by decide +kernel)⟩
theorem lk_L_48 : LV RL 48 yX4_as cX4_as 3 (some .int) 2 := ⟨lc_X4_as, tbG_in (List.mem_of_getElem? (i := 355) (by decide +kernel)) (by decide +kernel), tbG_in (List.mem_of_getElem? (i := 356) (by decide +kernel)) (by decide +kernel), tbG_in (List.mem_of_getElem? (i := 357) (by decide +kernel)) (by decide +kernel)⟩
theorem lk_L_51 : LV RL 51 yX5_as cX5_as 5 (some .int) 2 := ⟨lc_X5_as, tbG_in (List.mem_of_getElem? (i := 903) (by decide +kernel)) (by decide +kernel), tbG_in (List.mem_of_getElem? (i := 904) (by decide +kernel)) (by decide +kernel), tbG_in (List.mem_of_getElem? (i := 905) (by decide +kernel)) (by decide +kernel)⟩
theorem lk_L_52 : LV RL 52 yX4_minutes cX4_minutes 2 (some .int) 1 := ⟨lc_X4_minutes, tbG_in (List.mem_of_getElem? (i := 363) (by decide +kernel)) (by decide +kernel), tbG_in (List.mem_of_getElem? (i := 364) (by decide +kernel)) (by decide +kernel), tbG_in (List.mem_of_getElem? (i := 365) (by decide +kernel)) (by decide +kernel)⟩
theorem lk_L_55 : LV RL 55 yX5_minutes cX5_minutes 2 (some .int) 1 := ⟨lc_X5_minutes, tbG_in (List.mem_of_getElem? (i := 908) (by decide +kernel)) (by decide +kernel), tbG_in (List.mem_of_getElem? (i := 909) (by decide +kernel)) (by decide +kernel), tbG_in (List.mem_of_getElem? (i := 910) (by decide +kernel)) (by decide +kernel)⟩
theorem lk_L_56 : LV RL 56 yX4_on cX4_on 4 (some .int) 3 := ⟨lc_X4_on, tbG_in (List.mem_of_getElem? (i := 415) (by decide +kernel)) (by decide +kernel), tbG_in (List.mem_of_getElem? (i := 416) (by decide +kernel)) (by decide +kernel), tbG_in (List.mem_of_getElem? (i := 417) (by decide +kernel)) (by decide +kernel)⟩
theorem lk_L_59 : LV RL 59 yX5_on cX5_on 4 (some .int) 3 := ⟨lc_X5_on, tbG_in (List.mem_of_getElem? (i := 942) (by decide +kernel)) (by decide +kernel), tbG_in (List.mem_of_getElem? (i := 943) (by decide +kernel)) (by decide +kernel), tbG_in (List.mem_of_getElem? (i := 944) (by decide +kernel)) (by decide +kernel)⟩
theorem lk_L_60 : LV RL 60 yX4_then cX4_then 4 (some .int) 3 := ⟨lc_X4_then, tbG_in (List.mem_of_getElem? (i := 430) (by decide +kernel)) (by decide +kernel), tbG_in (List.mem_of_getElem? (i := 431) (by decide +kernel)) (by decide +kernel), tbG_in (List.mem_of_getElem? (i := 432) (by decide +kernel)) (by decide +kernel)⟩
theorem lk_L_63 : LV RL 63 yX5_then cX5_then 4 (some .int) 3 := ⟨lc_X5_then, tbG_in (List.mem_of_getElem? (i := 954) (by decide +kernel)) (by decide +kernel), tbG_in (List.mem_of_getElem? (i := 955) (by decide +kernel)) (by decide +kernel), tbG_in (List.mem_of_getElem? (i := 956) (by decide +kernel)) (by decide +kernel)⟩
theorem lk_L_64 : LV RL 64 yX4_lit cX4_lit 4 (some .int) 2 := ⟨lc_X4_lit, tbG_in (List.mem_of_getElem? (i := 434) (by decide +kernel)) (by decide +kernel), tbG_in (List.mem_of_getElem? (i := 435) (by decide +kernel)) (by decide +kernel), tbG_in (List.mem_of_getElem? (i := 436) (by decide +kernel)) (by decide +kernel)⟩
theorem lk_L_67 : LV RL 67 yX5_lit cX5_lit 4 (some .int) 2 := ⟨lc_X5_lit, tbG_in (List.mem_of_getElem? (i := 958) (by decide +kernel)) (by decide +kernel), tbG_in (List.mem_of_getElem? (i := 959) (by decide +kernel)) (by decide +kernel), tbG_in (List.mem_of_getElem? (i := 960) (by decide +kernel)) (by decide +kernel)⟩
theorem lk_L_68 : LV RL 68 yX4_goes cX4_goes 3 (some .int) 1 := ⟨lc_X4_goes, tbG_in (List.mem_of_getElem? (i := 441) (by decide +kernel)) (by decide +kernel), tbG_in (List.mem_of_getElem? (i := 442) (by decide +kernel)) (by decide +kernel), tbG_in (List.mem_of_getElem? (i := 443) (by decide +kernel)) (by decide +kernel)⟩
theorem lk_L_71 : LV RL 71 yX5_goes cX5_goes 4 (some .int) 1 := ⟨lc_X5_goes, tbG_in (List.mem_of_getElem? (i := 967) (by decide +kernel)) (by decide +kernel), tbG_in (List.mem_of_getElem? (i := 968) (by decide +kernel)) (by decide +kernel), tbG_in (List.mem_of_getElem? (i := 969) (by decide +kernel)) (by decide +kernel)⟩
theorem lk_L_72 : LV RL 72 yX4_well cX4_well 2 (some .int) 0 := ⟨lc_X4_well, tbG_in (List.mem_of_getElem? (i := 446) (by decide +kernel)) (by decide +kernel), tbG_in (List.mem_of_getElem? (i := 447) (by decide +kernel)) (by decide +kernel), tbG_in (List.mem_of_getElem? (i := 448) (by decide +kernel)) (by decide +kernel)⟩
theorem lk_L_76 : LV RL 76 yX5_well cX5_well 2 (some .int) 0 := ⟨lc_X5_well, tbG_in (List.mem_of_getElem? (i := 971) (by decide +kernel)) (by decide +kernel), tbG_in (List.mem_of_getElem? (i := 972) (by decide +kernel)) (by decide +kernel), tbG_in (List.mem_of_getElem? (i := 973) (by decide +kernel)) (by decide +kernel)⟩
theorem lk_L_77 : LV RL 77 yX4_feather cX4_feather 2 (some .int) 1 := ⟨lc_X4_feather, tbG_in (List.mem_of_getElem? (i := 450) (by decide +kernel)) (by decide +kernel), tbG_in (List.mem_of_getElem? (i := 451) (by decide +kernel)) (by decide +kernel), tbG_in (List.mem_of_getElem? (i := 452) (by decide +kernel)) (by decide +kernel)⟩
theorem lk_L_80 : LV RL 80 yX5_feather cX5_feather 6 (some .int) 1 := ⟨lc_X5_feather, tbG_in (List.mem_of_getElem? (i := 975) (by decide +kernel)) (by decide +kernel), tbG_in (List.mem_of_getElem? (i := 976) (by decide +kernel)) (by decide +kernel), tbG_in (List.mem_of_getElem? (i := 977) (by decide +kernel)) (by decide +kernel)⟩
theorem lk_L_81 : LV RL 81 yX4_seat cX4_seat 3 (some .int) 2 := ⟨lc_X4_seat, tbG_in (List.mem_of_getElem? (i := 462) (by decide +kernel)) (by decide +kernel), tbG_in (List.mem_of_getElem? (i := 463) (by decide +kernel)) (by decide +kernel), tbG_in (List.mem_of_getElem? (i := 464) (by decide +kernel)) (by decide +kernel)⟩
theorem lk_L_84 : LV RL 84 yX5_seat cX5_seat 7 (some .int) 2 := ⟨lc_X5_seat, tbG_in (List.mem_of_getElem? (i := 983) (by decide +kernel)) (by decide +kernel), tbG_in (List.mem_of_getElem? (i := 984) (by decide +kernel)) (by decide +kernel), tbG_in (List.mem_of_getElem? (i := 985) (by decide +kernel)) (by decide +kernel)⟩
theorem lk_L_85 : LV RL 85 yX4_kind cX4_kind 3 (some .int) 2 := ⟨lc_X4_kind, tbG_in (List.mem_of_getElem? (i := 466) (by decide +kernel)) (by decide +kernel), tbG_in (List.mem_of_getElem? (i := 467) (by decide +kernel)) (by decide +kernel), tbG_in (List.mem_of_getElem? (i := 468) (by decide +kernel)) (by decide +kernel)⟩
theorem lk_L_88 : LV RL 88 yX5_kind cX5_kind 7 (some .int) 2 := ⟨lc_X5_kind, tbG_in (List.mem_of_getElem? (i := 987) (by decide +kernel)) (by decide +kernel), tbG_in (List.mem_of_getElem? (i := 988) (by decide +kernel)) (by decide +kernel), tbG_in (List.mem_of_getElem? (i := 989) (by decide +kernel)) (by decide +kernel)⟩
theorem lk_L_89 : LV RL 89 yX4_driest cX4_driest 4 (some .int) 2 := ⟨lc_X4_driest, tbG_in (List.mem_of_getElem? (i := 470) (by decide +kernel)) (by decide +kernel), tbG_in (List.mem_of_getElem? (i := 471) (by decide +kernel)) (by decide +kernel), tbG_in (List.mem_of_getElem? (i := 472) (by decide +kernel)) (by decide +kernel)⟩
theorem lk_L_92 : LV RL 92 yX5_driest cX5_driest 5 (some .int) 2 := ⟨lc_X5_driest, tbG_in (List.mem_of_getElem? (i := 991) (by decide +kernel)) (by decide +kernel), tbG_in (List.mem_of_getElem? (i := 992) (by decide +kernel)) (by decide +kernel), tbG_in (List.mem_of_getElem? (i := 993) (by decide +kernel)) (by decide +kernel)⟩
theorem lk_L_93 : LV RL 93 yX4_needs cX4_needs 5 (some .int) 3 := ⟨lc_X4_needs, tbG_in (List.mem_of_getElem? (i := 474) (by decide +kernel)) (by decide +kernel), tbG_in (List.mem_of_getElem? (i := 475) (by decide +kernel)) (by decide +kernel), tbG_in (List.mem_of_getElem? (i := 476) (by decide +kernel)) (by decide +kernel)⟩
theorem lk_L_96 : LV RL 96 yX5_needs cX5_needs 6 (some .int) 3 := ⟨lc_X5_needs, tbG_in (List.mem_of_getElem? (i := 995) (by decide +kernel)) (by decide +kernel), tbG_in (List.mem_of_getElem? (i := 996) (by decide +kernel)) (by decide +kernel), tbG_in (List.mem_of_getElem? (i := 997) (by decide +kernel)) (by decide +kernel)⟩
theorem lk_L_97 : LV RL 97 yX4_dear cX4_dear 6 (some .int) 1 := ⟨lc_X4_dear, tbG_in (List.mem_of_getElem? (i := 478) (by decide +kernel)) (by decide +kernel), tbG_in (List.mem_of_getElem? (i := 479) (by decide +kernel)) (by decide +kernel), tbG_in (List.mem_of_getElem? (i := 480) (by decide +kernel)) (by decide +kernel)⟩
theorem lk_L_100 : LV RL 100 yX5_dear cX5_dear 7 (some .int) 1 := ⟨lc_X5_dear, tbG_in (List.mem_of_getElem? (i := 999) (by decide +kernel)) (by decide +kernel), tbG_in (List.mem_of_getElem? (i := 1000) (by decide +kernel)) (by decide +kernel), tbG_in (List.mem_of_getElem? (i := 1001) (by decide +kernel)) (by decide +kernel)⟩
theorem lk_L_101 : LV RL 101 yX4_open cX4_open 2 (some .int) 1 := ⟨lc_X4_open, tbG_in (List.mem_of_getElem? (i := 483) (by decide +kernel)) (by decide +kernel), tbG_in (List.mem_of_getElem? (i := 484) (by decide +kernel)) (by decide +kernel), tbG_in (List.mem_of_getElem? (i := 485) (by decide +kernel)) (by decide +kernel)⟩
theorem lk_L_104 : LV RL 104 yX5_open cX5_open 6 (some .int) 1 := ⟨lc_X5_open, tbG_in (List.mem_of_getElem? (i := 1003) (by decide +kernel)) (by decide +kernel), tbG_in (List.mem_of_getElem? (i := 1004) (by decide +kernel)) (by decide +kernel), tbG_in (List.mem_of_getElem? (i := 1005) (by decide +kernel)) (by decide +kernel)⟩
theorem lk_L_105 : LV RL 105 yX4_feed cX4_feed 4 (some .int) 2 := ⟨lc_X4_feed, tbG_in (List.mem_of_getElem? (i := 487) (by decide +kernel)) (by decide +kernel), tbG_in (List.mem_of_getElem? (i := 488) (by decide +kernel)) (by decide +kernel), tbG_in (List.mem_of_getElem? (i := 489) (by decide +kernel)) (by decide +kernel)⟩
theorem lk_L_108 : LV RL 108 yX5_feed cX5_feed 4 (some .int) 2 := ⟨lc_X5_feed, tbG_in (List.mem_of_getElem? (i := 1007) (by decide +kernel)) (by decide +kernel), tbG_in (List.mem_of_getElem? (i := 1008) (by decide +kernel)) (by decide +kernel), tbG_in (List.mem_of_getElem? (i := 1009) (by decide +kernel)) (by decide +kernel)⟩
theorem lk_L_109 : LV RL 109 yX4_wipe cX4_wipe 2 (some .int) 0 := ⟨lc_X4_wipe, tbG_in (List.mem_of_getElem? (i := 495) (by decide +kernel)) (by decide +kernel), tbG_in (List.mem_of_getElem? (i := 496) (by decide +kernel)) (by decide +kernel), tbG_in (List.mem_of_getElem? (i := 497) (by decide +kernel)) (by decide +kernel)⟩
theorem lk_L_112 : LV RL 112 yX5_wipe cX5_wipe 2 (some .int) 0 := ⟨lc_X5_wipe, tbG_in (List.mem_of_getElem? (i := 1011) (by decide +kernel)) (by decide +kernel), tbG_in (List.mem_of_getElem? (i := 1012) (by decide +kernel)) (by decide +kernel), tbG_in (List.mem_of_getElem? (i := 1013) (by decide +kernel)) (by decide +kernel)⟩
theorem lk_L_113 : LV RL 113 yX4_winter cX4_winter 2 (some .int) 0 := ⟨lc_X4_winter, tbG_in (List.mem_of_getElem? (i := 499) (by decide +kernel)) (by decide +kernel), tbG_in (List.mem_of_getElem? (i := 500) (by decide +kernel)) (by decide +kernel), tbG_in (List.mem_of_getElem? (i := 501) (by decide +kernel)) (by decide +kernel)⟩
theorem lk_L_116 : LV RL 116 yX5_winter cX5_winter 3 (some .int) 0 := ⟨lc_X5_winter, tbG_in (List.mem_of_getElem? (i := 1015) (by decide +kernel)) (by decide +kernel), tbG_in (List.mem_of_getElem? (i := 1016) (by decide +kernel)) (by decide +kernel), tbG_in (List.mem_of_getElem? (i := 1017) (by decide +kernel)) (by decide +kernel)⟩
theorem lk_L_117 : LV RL 117 yX4_sheet cX4_sheet 5 (some .int) 3 := ⟨lc_X4_sheet, tbG_in (List.mem_of_getElem? (i := 621) (by decide +kernel)) (by decide +kernel), tbG_in (List.mem_of_getElem? (i := 622) (by decide +kernel)) (by decide +kernel), tbG_in (List.mem_of_getElem? (i := 623) (by decide +kernel)) (by decide +kernel)⟩
theorem lk_L_120 : LV RL 120 yX5_sheet cX5_sheet 5 (some .int) 3 := ⟨lc_X5_sheet, tbG_in (List.mem_of_getElem? (i := 1081) (by decide +kernel)) (by decide +kernel), tbG_in (List.mem_of_getElem? (i := 1082) (by decide +kernel)) (by decide +kernel), tbG_in (List.mem_of_getElem? (i := 1083) (by decide +kernel)) (by decide +kernel)⟩
theorem lk_L_123 : LV RL 123 yX4_write cX4_write 7 (some .long) 3 := ⟨lc_X4_write, tbG_in (List.mem_of_getElem? (i := 636) (by decide +kernel)) (by decide +kernel), tbG_in (List.mem_of_getElem? (i := 637) (by decide +kernel)) (by decide +kernel), tbG_in (List.mem_of_getElem? (i := 638) (by decide +kernel)) (by decide +kernel)⟩
theorem lk_L_127 : LV RL 127 yX5_write cX5_write 7 (some .long) 3 := ⟨lc_X5_write, tbG_in (List.mem_of_getElem? (i := 1089) (by decide +kernel)) (by decide +kernel), tbG_in (List.mem_of_getElem? (i := 1090) (by decide +kernel)) (by decide +kernel), tbG_in (List.mem_of_getElem? (i := 1091) (by decide +kernel)) (by decide +kernel)⟩
theorem lk_L_128 : LV RL 128 yX4_copy cX4_copy 6 (some .int) 5 := ⟨lc_X4_copy, tbG_in (List.mem_of_getElem? (i := 656) (by decide +kernel)) (by decide +kernel), tbG_in (List.mem_of_getElem? (i := 657) (by decide +kernel)) (by decide +kernel), tbG_in (List.mem_of_getElem? (i := 658) (by decide +kernel)) (by decide +kernel)⟩
theorem lk_L_132 : LV RL 132 yX5_copy cX5_copy 7 (some .int) 5 := ⟨lc_X5_copy, tbG_in (List.mem_of_getElem? (i := 1097) (by decide +kernel)) (by decide +kernel), tbG_in (List.mem_of_getElem? (i := 1098) (by decide +kernel)) (by decide +kernel), tbG_in (List.mem_of_getElem? (i := 1099) (by decide +kernel)) (by decide +kernel)⟩
theorem lk_L_133 : LV RL 133 yX4_lays cX4_lays 7 (some .int) 1 := ⟨lc_X4_lays, tbG_in (List.mem_of_getElem? (i := 669) (by decide +kernel)) (by decide +kernel), tbG_in (List.mem_of_getElem? (i := 670) (by decide +kernel)) (by decide +kernel), tbG_in (List.mem_of_getElem? (i := 671) (by decide +kernel)) (by decide +kernel)⟩
theorem lk_L_136 : LV RL 136 yX5_lays cX5_lays 7 (some .int) 1 := ⟨lc_X5_lays, tbG_in (List.mem_of_getElem? (i := 1105) (by decide +kernel)) (by decide +kernel), tbG_in (List.mem_of_getElem? (i := 1106) (by decide +kernel)) (by decide +kernel), tbG_in (List.mem_of_getElem? (i := 1107) (by decide +kernel)) (by decide +kernel)⟩
theorem lk_L_137 : LV RL 137 yX4_book cX4_book 4 (some .int) 2 := ⟨lc_X4_book, tbG_in (List.mem_of_getElem? (i := 675) (by decide +kernel)) (by decide +kernel), tbG_in (List.mem_of_getElem? (i := 676) (by decide +kernel)) (by decide +kernel), tbG_in (List.mem_of_getElem? (i := 677) (by decide +kernel)) (by decide +kernel)⟩
theorem lk_L_140 : LV RL 140 yX5_book cX5_book 5 (some .int) 2 := ⟨lc_X5_book, tbG_in (List.mem_of_getElem? (i := 1114) (by decide +kernel)) (by decide +kernel), tbG_in (List.mem_of_getElem? (i := 1115) (by decide +kernel)) (by decide +kernel), tbG_in (List.mem_of_getElem? (i := 1116) (by decide +kernel)) (by decide +kernel)⟩
theorem lk_L_141 : LV RL 141 yX4_read cX4_read 6 (some .int) 2 := ⟨lc_X4_read, tbG_in (List.mem_of_getElem? (i := 679) (by decide +kernel)) (by decide +kernel), tbG_in (List.mem_of_getElem? (i := 680) (by decide +kernel)) (by decide +kernel), tbG_in (List.mem_of_getElem? (i := 681) (by decide +kernel)) (by decide +kernel)⟩
theorem lk_L_144 : LV RL 144 yX5_read cX5_read 6 (some .int) 2 := ⟨lc_X5_read, tbG_in (List.mem_of_getElem? (i := 1118) (by decide +kernel)) (by decide +kernel), tbG_in (List.mem_of_getElem? (i := 1119) (by decide +kernel)) (by decide +kernel), tbG_in (List.mem_of_getElem? (i := 1120) (by decide +kernel)) (by decide +kernel)⟩
theorem lk_L_145 : LV RL 145 yX4_image cX4_image 1 (some .int) 0 := ⟨lc_X4_image, tbG_in (List.mem_of_getElem? (i := 687) (by decide +kernel)) (by decide +kernel), tbG_in (List.mem_of_getElem? (i := 688) (by decide +kernel)) (by decide +kernel), tbG_in (List.mem_of_getElem? (i := 689) (by decide +kernel)) (by decide +kernel)⟩
theorem lk_L_148 : LV RL 148 yX5_image cX5_image 1 (some .int) 0 := ⟨lc_X5_image, tbG_in (List.mem_of_getElem? (i := 1126) (by decide +kernel)) (by decide +kernel), tbG_in (List.mem_of_getElem? (i := 1127) (by decide +kernel)) (by decide +kernel), tbG_in (List.mem_of_getElem? (i := 1128) (by decide +kernel)) (by decide +kernel)⟩
theorem lk_L_149 : LV RL 149 yX4_undo cX4_undo 1 (some .int) 0 := ⟨lc_X4_undo, tbG_in (List.mem_of_getElem? (i := 691) (by decide +kernel)) (by decide +kernel), tbG_in (List.mem_of_getElem? (i := 692) (by decide +kernel)) (by decide +kernel), tbG_in (List.mem_of_getElem? (i := 693) (by decide +kernel)) (by decide +kernel)⟩
theorem lk_L_152 : LV RL 152 yX5_undo cX5_undo 1 (some .int) 0 := ⟨lc_X5_undo, tbG_in (List.mem_of_getElem? (i := 1130) (by decide +kernel)) (by decide +kernel), tbG_in (List.mem_of_getElem? (i := 1131) (by decide +kernel)) (by decide +kernel), tbG_in (List.mem_of_getElem? (i := 1132) (by decide +kernel)) (by decide +kernel)⟩
theorem lk_L_153 : LV RL 153 yX4_tear cX4_tear 2 (some .int) 0 := ⟨lc_X4_tear, tbG_in (List.mem_of_getElem? (i := 695) (by decide +kernel)) (by decide +kernel), tbG_in (List.mem_of_getElem? (i := 696) (by decide +kernel)) (by decide +kernel), tbG_in (List.mem_of_getElem? (i := 697) (by decide +kernel)) (by decide +kernel)⟩
theorem lk_L_156 : LV RL 156 yX5_tear cX5_tear 2 (some .int) 0 := ⟨lc_X5_tear, tbG_in (List.mem_of_getElem? (i := 1134) (by decide +kernel)) (by decide +kernel), tbG_in (List.mem_of_getElem? (i := 1135) (by decide +kernel)) (by decide +kernel), tbG_in (List.mem_of_getElem? (i := 1136) (by decide +kernel)) (by decide +kernel)⟩
theorem lk_L_157 : LV RL 157 yX4_count cX4_count 2 (some .int) 1 := ⟨lc_X4_count, tbG_in (List.mem_of_getElem? (i := 699) (by decide +kernel)) (by decide +kernel), tbG_in (List.mem_of_getElem? (i := 700) (by decide +kernel)) (by decide +kernel), tbG_in (List.mem_of_getElem? (i := 701) (by decide +kernel)) (by decide +kernel)⟩
theorem lk_L_160 : LV RL 160 yX5_count cX5_count 2 (some .int) 1 := ⟨lc_X5_count, tbG_in (List.mem_of_getElem? (i := 1138) (by decide +kernel)) (by decide +kernel), tbG_in (List.mem_of_getElem? (i := 1139) (by decide +kernel)) (by decide +kernel), tbG_in (List.mem_of_getElem? (i := 1140) (by decide +kernel)) (by decide +kernel)⟩
theorem lk_L_161 : LV RL 161 yX4_status cX4_status 4 (some .int) 1 := ⟨lc_X4_status, tbG_in (List.mem_of_getElem? (i := 708) (by decide +kernel)) (by decide +kernel), tbG_in (List.mem_of_getElem? (i := 709) (by decide +kernel)) (by decide +kernel), tbG_in (List.mem_of_getElem? (i := 710) (by decide +kernel)) (by decide +kernel)⟩
theorem lk_L_164 : LV RL 164 yX5_status cX5_status 4 (some .int) 1 := ⟨lc_X5_status, tbG_in (List.mem_of_getElem? (i := 1142) (by decide +kernel)) (by decide +kernel), tbG_in (List.mem_of_getElem? (i := 1143) (by decide +kernel)) (by decide +kernel), tbG_in (List.mem_of_getElem? (i := 1144) (by decide +kernel)) (by decide +kernel)⟩
theorem lk_X0_22 : LSt RX0 22 yX0_cut cX0_cut 3 (some .long) 2 := ⟨lc_X0_cut, tbG_in (List.mem_of_getElem? (i := 653) (by decide +kernel)) (by decide +kernel), tbG_in (List.mem_of_getElem? (i := 654) (by decide +kernel)) (by decide +kernel)⟩
theorem lk_X0_26 : Cond.methodLink RX0 26 arraycopyName ∈ tbG := tbG_in (List.mem_of_getElem? (i := 668) (by decide +kernel)) (by decide +kernel)
theorem lk_X1_52 : Cond.methodLink RX1 52 arraycopyName ∈ tbG := tbG_in (List.mem_of_getElem? (i := 427) (by decide +kernel)) (by decide +kernel)
theorem lk_X1_62 : Cond.methodLink RX1 62 Lib.Math.max.name ∈ tbG := tbG_in (List.mem_of_getElem? (i := 328) (by decide +kernel)) (by decide +kernel)
theorem lk_X1_88 : LN RX1 88 yX4_isIn cX4_isIn 2 (some .boolean) 2 := ⟨lc_X4_isIn, by decide +kernel, tbG_in (List.mem_of_getElem? (i := 391) (by decide +kernel)) (by decide +kernel)⟩
theorem lk_X1_99 : Cond.methodLink RX1 99 Lib.Math.min.name ∈ tbG := tbG_in (List.mem_of_getElem? (i := 381) (by decide +kernel)) (by decide +kernel)
theorem lk_X1_114 : LN RX1 114 yX4_isHouse cX4_isHouse 1 (some .boolean) 1 := ⟨lc_X4_isHouse, by decide +kernel, tbG_in (List.mem_of_getElem? (i := 239) (by decide +kernel)) (by decide +kernel)⟩
theorem lk_X1_117 : Cond.methodLink RX1 117 Lib.Math.abs.name ∈ tbG := tbG_in (List.mem_of_getElem? (i := 407) (by decide +kernel)) (by decide +kernel)
theorem lk_X1_58 : LV RX1 58 yX1_burns cX1_burns 2 (some .boolean) 1 := ⟨lc_X1_burns, tbG_in (List.mem_of_getElem? (i := 276) (by decide +kernel)) (by decide +kernel), tbG_in (List.mem_of_getElem? (i := 277) (by decide +kernel)) (by decide +kernel), tbG_in (List.mem_of_getElem? (i := 278) (by decide +kernel)) (by decide +kernel)⟩
theorem lk_X1_68 : LV RX1 68 yX1_lampsBurning cX1_lampsBurning 3 (some .int) 0 := ⟨lc_X1_lampsBurning, tbG_in (List.mem_of_getElem? (i := 292) (by decide +kernel)) (by decide +kernel), tbG_in (List.mem_of_getElem? (i := 293) (by decide +kernel)) (by decide +kernel), tbG_in (List.mem_of_getElem? (i := 294) (by decide +kernel)) (by decide +kernel)⟩
theorem lk_X1_72 : LV RX1 72 yX1_holdsOf cX1_holdsOf 5 (some .int) 1 := ⟨lc_X1_holdsOf, tbG_in (List.mem_of_getElem? (i := 288) (by decide +kernel)) (by decide +kernel), tbG_in (List.mem_of_getElem? (i := 289) (by decide +kernel)) (by decide +kernel), tbG_in (List.mem_of_getElem? (i := 290) (by decide +kernel)) (by decide +kernel)⟩
theorem lk_X1_76 : LV RX1 76 yX1_goMinute cX1_goMinute 2 none 0 := ⟨lc_X1_goMinute, tbG_in (List.mem_of_getElem? (i := 373) (by decide +kernel)) (by decide +kernel), tbG_in (List.mem_of_getElem? (i := 374) (by decide +kernel)) (by decide +kernel), tbG_in (List.mem_of_getElem? (i := 375) (by decide +kernel)) (by decide +kernel)⟩
theorem lk_X1_79 : LV RX1 79 yX1_burnLamps cX1_burnLamps 2 none 0 := ⟨lc_X1_burnLamps, tbG_in (List.mem_of_getElem? (i := 377) (by decide +kernel)) (by decide +kernel), tbG_in (List.mem_of_getElem? (i := 379) (by decide +kernel)) (by decide +kernel), tbG_in (List.mem_of_getElem? (i := 2) (by decide +kernel)) (by decide +kernel)⟩
theorem lk_X1_82 : LV RX1 82 yX1_tickleAll cX1_tickleAll 2 none 0 := ⟨lc_X1_tickleAll, tbG_in (List.mem_of_getElem? (i := 384) (by decide +kernel)) (by decide +kernel), tbG_in (List.mem_of_getElem? (i := 386) (by decide +kernel)) (by decide +kernel), tbG_in (List.mem_of_getElem? (i := 3) (by decide +kernel)) (by decide +kernel)⟩
theorem lk_X1_85 : LV RX1 85 yX1_ready cX1_ready 3 (some .int) 0 := ⟨lc_X1_ready, tbG_in (List.mem_of_getElem? (i := 389) (by decide +kernel)) (by decide +kernel), tbG_in (List.mem_of_getElem? (i := 285) (by decide +kernel)) (by decide +kernel), tbG_in (List.mem_of_getElem? (i := 286) (by decide +kernel)) (by decide +kernel)⟩
theorem lk_X1_92 : LV RX1 92 yX1_goOff cX1_goOff 2 none 1 := ⟨lc_X1_goOff, tbG_in (List.mem_of_getElem? (i := 393) (by decide +kernel)) (by decide +kernel), tbG_in (List.mem_of_getElem? (i := 395) (by decide +kernel)) (by decide +kernel), tbG_in (List.mem_of_getElem? (i := 4) (by decide +kernel)) (by decide +kernel)⟩
theorem lk_X1_96 : LV RX1 96 yX1_healAll cX1_healAll 2 none 0 := ⟨lc_X1_healAll, tbG_in (List.mem_of_getElem? (i := 410) (by decide +kernel)) (by decide +kernel), tbG_in (List.mem_of_getElem? (i := 412) (by decide +kernel)) (by decide +kernel), tbG_in (List.mem_of_getElem? (i := 7) (by decide +kernel)) (by decide +kernel)⟩
theorem lk_X1_102 : LV RX1 102 yX1_ticklesOf cX1_ticklesOf 5 (some .int) 1 := ⟨lc_X1_ticklesOf, tbG_in (List.mem_of_getElem? (i := 388) (by decide +kernel)) (by decide +kernel), tbG_in (List.mem_of_getElem? (i := 325) (by decide +kernel)) (by decide +kernel), tbG_in (List.mem_of_getElem? (i := 326) (by decide +kernel)) (by decide +kernel)⟩
theorem lk_X1_105 : LV RX1 105 yX1_lightBefore cX1_lightBefore 7 none 1 := ⟨lc_X1_lightBefore, tbG_in (List.mem_of_getElem? (i := 397) (by decide +kernel)) (by decide +kernel), tbG_in (List.mem_of_getElem? (i := 399) (by decide +kernel)) (by decide +kernel), tbG_in (List.mem_of_getElem? (i := 5) (by decide +kernel)) (by decide +kernel)⟩
theorem lk_X1_108 : LV RX1 108 yX1_giveCold cX1_giveCold 3 none 1 := ⟨lc_X1_giveCold, tbG_in (List.mem_of_getElem? (i := 403) (by decide +kernel)) (by decide +kernel), tbG_in (List.mem_of_getElem? (i := 405) (by decide +kernel)) (by decide +kernel), tbG_in (List.mem_of_getElem? (i := 6) (by decide +kernel)) (by decide +kernel)⟩
theorem lk_X1_111 : LV RX1 111 yX1_blowsOf cX1_blowsOf 5 (some .int) 1 := ⟨lc_X1_blowsOf, tbG_in (List.mem_of_getElem? (i := 401) (by decide +kernel)) (by decide +kernel), tbG_in (List.mem_of_getElem? (i := 333) (by decide +kernel)) (by decide +kernel), tbG_in (List.mem_of_getElem? (i := 334) (by decide +kernel)) (by decide +kernel)⟩
theorem lk_X1_120 : LV RX1 120 yX1_healsOf cX1_healsOf 5 (some .int) 1 := ⟨lc_X1_healsOf, tbG_in (List.mem_of_getElem? (i := 414) (by decide +kernel)) (by decide +kernel), tbG_in (List.mem_of_getElem? (i := 337) (by decide +kernel)) (by decide +kernel), tbG_in (List.mem_of_getElem? (i := 338) (by decide +kernel)) (by decide +kernel)⟩
theorem lk_X3_35 : LSt RX3 35 yX3_nameOfKind cX3_nameOfKind 1 (some (.object "java/lang/String")) 1 := ⟨lc_X3_nameOfKind, tbG_in (List.mem_of_getElem? (i := 526) (by decide +kernel)) (by decide +kernel), tbG_in (List.mem_of_getElem? (i := 527) (by decide +kernel)) (by decide +kernel)⟩
theorem lk_X3_117 : LN RX3 117 yX4_within cX4_within 3 (some .boolean) 3 := ⟨lc_X4_within, by decide +kernel, tbG_in (List.mem_of_getElem? (i := 242) (by decide +kernel)) (by decide +kernel)⟩
theorem lk_X3_139 : LSt RX3 139 yX3_isLetter cX3_isLetter 1 (some .boolean) 1 := ⟨lc_X3_isLetter, tbG_in (List.mem_of_getElem? (i := 515) (by decide +kernel)) (by decide +kernel), tbG_in (List.mem_of_getElem? (i := 516) (by decide +kernel)) (by decide +kernel)⟩
theorem lk_X3_142 : LSt RX3 142 yX3_isDigit cX3_isDigit 1 (some .boolean) 1 := ⟨lc_X3_isDigit, tbG_in (List.mem_of_getElem? (i := 518) (by decide +kernel)) (by decide +kernel), tbG_in (List.mem_of_getElem? (i := 519) (by decide +kernel)) (by decide +kernel)⟩
theorem lk_X3_145 : Cond.methodLink RX3 145 Lib.Math.min.name ∈ tbG := tbG_in (List.mem_of_getElem? (i := 521) (by decide +kernel)) (by decide +kernel)
theorem lk_X3_27 : LV RX3 27 yX3_step cX3_step 3 none 1 := ⟨lc_X3_step, tbG_in (List.mem_of_getElem? (i := 507) (by decide +kernel)) (by decide +kernel), tbG_in (List.mem_of_getElem? (i := 509) (by decide +kernel)) (by decide +kernel), tbG_in (List.mem_of_getElem? (i := 11) (by decide +kernel)) (by decide +kernel)⟩
theorem lk_X3_31 : LV RX3 31 yX3_tellItem cX3_tellItem 4 (some .boolean) 2 := ⟨lc_X3_tellItem, tbG_in (List.mem_of_getElem? (i := 522) (by decide +kernel)) (by decide +kernel), tbG_in (List.mem_of_getElem? (i := 524) (by decide +kernel)) (by decide +kernel), tbG_in (List.mem_of_getElem? (i := 12) (by decide +kernel)) (by decide +kernel)⟩
theorem lk_X3_39 : LV RX3 39 yX3_isWord cX3_isWord 4 (some .boolean) 2 := ⟨lc_X3_isWord, tbG_in (List.mem_of_getElem? (i := 535) (by decide +kernel)) (by decide +kernel), tbG_in (List.mem_of_getElem? (i := 537) (by decide +kernel)) (by decide +kernel), tbG_in (List.mem_of_getElem? (i := 13) (by decide +kernel)) (by decide +kernel)⟩
theorem lk_X3_43 : LV RX3 43 yX3_tellSneezer cX3_tellSneezer 5 (some .boolean) 3 := ⟨lc_X3_tellSneezer, tbG_in (List.mem_of_getElem? (i := 587) (by decide +kernel)) (by decide +kernel), tbG_in (List.mem_of_getElem? (i := 589) (by decide +kernel)) (by decide +kernel), tbG_in (List.mem_of_getElem? (i := 14) (by decide +kernel)) (by decide +kernel)⟩
theorem lk_X3_49 : LV RX3 49 yX3_tellBook cX3_tellBook 4 (some .boolean) 3 := ⟨lc_X3_tellBook, tbG_in (List.mem_of_getElem? (i := 605) (by decide +kernel)) (by decide +kernel), tbG_in (List.mem_of_getElem? (i := 607) (by decide +kernel)) (by decide +kernel), tbG_in (List.mem_of_getElem? (i := 17) (by decide +kernel)) (by decide +kernel)⟩
theorem lk_X3_56 : LV RX3 56 yX3_tellDry cX3_tellDry 3 (some .boolean) 2 := ⟨lc_X3_tellDry, tbG_in (List.mem_of_getElem? (i := 611) (by decide +kernel)) (by decide +kernel), tbG_in (List.mem_of_getElem? (i := 613) (by decide +kernel)) (by decide +kernel), tbG_in (List.mem_of_getElem? (i := 18) (by decide +kernel)) (by decide +kernel)⟩
theorem lk_X3_61 : LV RX3 61 yX3_tellLamp cX3_tellLamp 4 (some .boolean) 2 := ⟨lc_X3_tellLamp, tbG_in (List.mem_of_getElem? (i := 616) (by decide +kernel)) (by decide +kernel), tbG_in (List.mem_of_getElem? (i := 618) (by decide +kernel)) (by decide +kernel), tbG_in (List.mem_of_getElem? (i := 19) (by decide +kernel)) (by decide +kernel)⟩
theorem lk_X3_69 : LV RX3 69 yX3_isNumber cX3_isNumber 2 (some .boolean) 1 := ⟨lc_X3_isNumber, tbG_in (List.mem_of_getElem? (i := 591) (by decide +kernel)) (by decide +kernel), tbG_in (List.mem_of_getElem? (i := 593) (by decide +kernel)) (by decide +kernel), tbG_in (List.mem_of_getElem? (i := 15) (by decide +kernel)) (by decide +kernel)⟩
theorem lk_X3_73 : LV RX3 73 yX1_addOne cX1_addOne 4 (some .int) 2 := ⟨lc_X1_addOne, tbG_in (List.mem_of_getElem? (i := 596) (by decide +kernel)) (by decide +kernel), tbG_in (List.mem_of_getElem? (i := 313) (by decide +kernel)) (by decide +kernel), tbG_in (List.mem_of_getElem? (i := 314) (by decide +kernel)) (by decide +kernel)⟩
theorem lk_X3_88 : LV RX3 88 yX3_tellPart cX3_tellPart 5 (some .boolean) 4 := ⟨lc_X3_tellPart, tbG_in (List.mem_of_getElem? (i := 599) (by decide +kernel)) (by decide +kernel), tbG_in (List.mem_of_getElem? (i := 601) (by decide +kernel)) (by decide +kernel), tbG_in (List.mem_of_getElem? (i := 16) (by decide +kernel)) (by decide +kernel)⟩
theorem lk_X3_121 : LV RX3 121 yJ0_length_8abf5 cJ0_length_8abf5 1 (some .int) 0 := ⟨lc_J0_length_8abf5, tbG_in (List.mem_of_getElem? (i := 539) (by decide +kernel)) (by decide +kernel), tbG_in (List.mem_of_getElem? (i := 540) (by decide +kernel)) (by decide +kernel), tbG_in (List.mem_of_getElem? (i := 541) (by decide +kernel)) (by decide +kernel)⟩
theorem lk_X3_127 : LV RX3 127 yX2_byteAt cX2_byteAt 2 (some .int) 1 := ⟨lc_X2_byteAt, tbG_in (List.mem_of_getElem? (i := 511) (by decide +kernel)) (by decide +kernel), tbG_in (List.mem_of_getElem? (i := 512) (by decide +kernel)) (by decide +kernel), tbG_in (List.mem_of_getElem? (i := 513) (by decide +kernel)) (by decide +kernel)⟩
theorem lk_X3_133 : LV RX3 133 yJ0_charAt_5068e cJ0_charAt_5068e 2 (some .char) 1 := ⟨lc_J0_charAt_5068e, tbG_in (List.mem_of_getElem? (i := 549) (by decide +kernel)) (by decide +kernel), tbG_in (List.mem_of_getElem? (i := 550) (by decide +kernel)) (by decide +kernel), tbG_in (List.mem_of_getElem? (i := 551) (by decide +kernel)) (by decide +kernel)⟩
theorem lk_X4_51 : LSt RX4 51 yX4_isHouse cX4_isHouse 1 (some .boolean) 1 := ⟨lc_X4_isHouse, tbG_in (List.mem_of_getElem? (i := 238) (by decide +kernel)) (by decide +kernel), tbG_in (List.mem_of_getElem? (i := 239) (by decide +kernel)) (by decide +kernel)⟩
theorem lk_X4_55 : LSt RX4 55 yX4_within cX4_within 3 (some .boolean) 3 := ⟨lc_X4_within, tbG_in (List.mem_of_getElem? (i := 241) (by decide +kernel)) (by decide +kernel), tbG_in (List.mem_of_getElem? (i := 242) (by decide +kernel)) (by decide +kernel)⟩
theorem lk_X4_59 : LSt RX4 59 yX4_mostOfHouse cX4_mostOfHouse 1 (some .int) 1 := ⟨lc_X4_mostOfHouse, tbG_in (List.mem_of_getElem? (i := 244) (by decide +kernel)) (by decide +kernel), tbG_in (List.mem_of_getElem? (i := 245) (by decide +kernel)) (by decide +kernel)⟩
theorem lk_X4_97 : LSt RX4 97 yX4_isKind cX4_isKind 1 (some .boolean) 1 := ⟨lc_X4_isKind, tbG_in (List.mem_of_getElem? (i := 308) (by decide +kernel)) (by decide +kernel), tbG_in (List.mem_of_getElem? (i := 309) (by decide +kernel)) (by decide +kernel)⟩
theorem lk_X4_141 : LSt RX4 141 yX4_mostOfSneezer cX4_mostOfSneezer 1 (some .int) 1 := ⟨lc_X4_mostOfSneezer, tbG_in (List.mem_of_getElem? (i := 344) (by decide +kernel)) (by decide +kernel), tbG_in (List.mem_of_getElem? (i := 345) (by decide +kernel)) (by decide +kernel)⟩
theorem lk_X4_147 : LSt RX4 147 yX4_isUnder cX4_isUnder 2 (some .boolean) 2 := ⟨lc_X4_isUnder, tbG_in (List.mem_of_getElem? (i := 359) (by decide +kernel)) (by decide +kernel), tbG_in (List.mem_of_getElem? (i := 360) (by decide +kernel)) (by decide +kernel)⟩
theorem lk_X4_177 : LSt RX4 177 yX4_isIn cX4_isIn 2 (some .boolean) 2 := ⟨lc_X4_isIn, tbG_in (List.mem_of_getElem? (i := 445) (by decide +kernel)) (by decide +kernel), tbG_in (List.mem_of_getElem? (i := 391) (by decide +kernel)) (by decide +kernel)⟩
theorem lk_X4_207 : LSt RX4 207 yX4_isSheet cX4_isSheet 1 (some .boolean) 1 := ⟨lc_X4_isSheet, tbG_in (List.mem_of_getElem? (i := 625) (by decide +kernel)) (by decide +kernel), tbG_in (List.mem_of_getElem? (i := 626) (by decide +kernel)) (by decide +kernel)⟩
theorem lk_X4_210 : LSt RX4 210 yX4_isWidth cX4_isWidth 1 (some .boolean) 1 := ⟨lc_X4_isWidth, tbG_in (List.mem_of_getElem? (i := 628) (by decide +kernel)) (by decide +kernel), tbG_in (List.mem_of_getElem? (i := 629) (by decide +kernel)) (by decide +kernel)⟩
theorem lk_X4_243 : Cond.methodLink RX4 243 Lib.Math.min.name ∈ tbG := tbG_in (List.mem_of_getElem? (i := 673) (by decide +kernel)) (by decide +kernel)
theorem lk_X4_64 : LV RX4 64 yX4_tell cX4_tell 3 (some .int) 1 := ⟨lc_X4_tell, tbG_in (List.mem_of_getElem? (i := 248) (by decide +kernel)) (by decide +kernel), tbG_in (List.mem_of_getElem? (i := 250) (by decide +kernel)) (by decide +kernel), tbG_in (List.mem_of_getElem? (i := 0) (by decide +kernel)) (by decide +kernel)⟩
theorem lk_X4_67 : LV RX4 67 yX1_houseRow cX1_houseRow 2 (some (.array .int)) 1 := ⟨lc_X1_houseRow, tbG_in (List.mem_of_getElem? (i := 252) (by decide +kernel)) (by decide +kernel), tbG_in (List.mem_of_getElem? (i := 253) (by decide +kernel)) (by decide +kernel), tbG_in (List.mem_of_getElem? (i := 254) (by decide +kernel)) (by decide +kernel)⟩
theorem lk_X4_71 : LV RX4 71 yX1_whoIsAt cX1_whoIsAt 4 (some .int) 1 := ⟨lc_X1_whoIsAt, tbG_in (List.mem_of_getElem? (i := 260) (by decide +kernel)) (by decide +kernel), tbG_in (List.mem_of_getElem? (i := 261) (by decide +kernel)) (by decide +kernel), tbG_in (List.mem_of_getElem? (i := 262) (by decide +kernel)) (by decide +kernel)⟩
theorem lk_X4_81 : LV RX4 81 yX1_burning cX1_burning 3 (some .int) 0 := ⟨lc_X1_burning, tbG_in (List.mem_of_getElem? (i := 272) (by decide +kernel)) (by decide +kernel), tbG_in (List.mem_of_getElem? (i := 273) (by decide +kernel)) (by decide +kernel), tbG_in (List.mem_of_getElem? (i := 274) (by decide +kernel)) (by decide +kernel)⟩
theorem lk_X4_85 : LV RX4 85 yX1_openBooks cX1_openBooks 3 (some .int) 0 := ⟨lc_X1_openBooks, tbG_in (List.mem_of_getElem? (i := 280) (by decide +kernel)) (by decide +kernel), tbG_in (List.mem_of_getElem? (i := 281) (by decide +kernel)) (by decide +kernel), tbG_in (List.mem_of_getElem? (i := 282) (by decide +kernel)) (by decide +kernel)⟩
theorem lk_X4_88 : LV RX4 88 yX1_ready cX1_ready 3 (some .int) 0 := ⟨lc_X1_ready, tbG_in (List.mem_of_getElem? (i := 284) (by decide +kernel)) (by decide +kernel), tbG_in (List.mem_of_getElem? (i := 285) (by decide +kernel)) (by decide +kernel), tbG_in (List.mem_of_getElem? (i := 286) (by decide +kernel)) (by decide +kernel)⟩
theorem lk_X4_91 : LV RX4 91 yX1_coldOfAll cX1_coldOfAll 3 (some .int) 0 := ⟨lc_X1_coldOfAll, tbG_in (List.mem_of_getElem? (i := 296) (by decide +kernel)) (by decide +kernel), tbG_in (List.mem_of_getElem? (i := 297) (by decide +kernel)) (by decide +kernel), tbG_in (List.mem_of_getElem? (i := 298) (by decide +kernel)) (by decide +kernel)⟩
theorem lk_X4_94 : LV RX4 94 yX1_readOfAll cX1_readOfAll 3 (some .int) 0 := ⟨lc_X1_readOfAll, tbG_in (List.mem_of_getElem? (i := 300) (by decide +kernel)) (by decide +kernel), tbG_in (List.mem_of_getElem? (i := 301) (by decide +kernel)) (by decide +kernel), tbG_in (List.mem_of_getElem? (i := 302) (by decide +kernel)) (by decide +kernel)⟩
theorem lk_X4_104 : LV RX4 104 yX1_addOne cX1_addOne 4 (some .int) 2 := ⟨lc_X1_addOne, tbG_in (List.mem_of_getElem? (i := 312) (by decide +kernel)) (by decide +kernel), tbG_in (List.mem_of_getElem? (i := 313) (by decide +kernel)) (by decide +kernel), tbG_in (List.mem_of_getElem? (i := 314) (by decide +kernel)) (by decide +kernel)⟩
theorem lk_X4_108 : LV RX4 108 yX4_isThere cX4_isThere 2 (some .boolean) 1 := ⟨lc_X4_isThere, tbG_in (List.mem_of_getElem? (i := 320) (by decide +kernel)) (by decide +kernel), tbG_in (List.mem_of_getElem? (i := 322) (by decide +kernel)) (by decide +kernel), tbG_in (List.mem_of_getElem? (i := 1) (by decide +kernel)) (by decide +kernel)⟩
theorem lk_X4_129 : LV RX4 129 yX1_ticklesOf cX1_ticklesOf 5 (some .int) 1 := ⟨lc_X1_ticklesOf, tbG_in (List.mem_of_getElem? (i := 324) (by decide +kernel)) (by decide +kernel), tbG_in (List.mem_of_getElem? (i := 325) (by decide +kernel)) (by decide +kernel), tbG_in (List.mem_of_getElem? (i := 326) (by decide +kernel)) (by decide +kernel)⟩
theorem lk_X4_132 : LV RX4 132 yX1_holdsOf cX1_holdsOf 5 (some .int) 1 := ⟨lc_X1_holdsOf, tbG_in (List.mem_of_getElem? (i := 331) (by decide +kernel)) (by decide +kernel), tbG_in (List.mem_of_getElem? (i := 289) (by decide +kernel)) (by decide +kernel), tbG_in (List.mem_of_getElem? (i := 290) (by decide +kernel)) (by decide +kernel)⟩
theorem lk_X4_135 : LV RX4 135 yX1_blowsOf cX1_blowsOf 5 (some .int) 1 := ⟨lc_X1_blowsOf, tbG_in (List.mem_of_getElem? (i := 332) (by decide +kernel)) (by decide +kernel), tbG_in (List.mem_of_getElem? (i := 333) (by decide +kernel)) (by decide +kernel), tbG_in (List.mem_of_getElem? (i := 334) (by decide +kernel)) (by decide +kernel)⟩
theorem lk_X4_138 : LV RX4 138 yX1_healsOf cX1_healsOf 5 (some .int) 1 := ⟨lc_X1_healsOf, tbG_in (List.mem_of_getElem? (i := 336) (by decide +kernel)) (by decide +kernel), tbG_in (List.mem_of_getElem? (i := 337) (by decide +kernel)) (by decide +kernel), tbG_in (List.mem_of_getElem? (i := 338) (by decide +kernel)) (by decide +kernel)⟩
theorem lk_X4_144 : LV RX4 144 yX1_sneezerRow cX1_sneezerRow 2 (some (.array .int)) 1 := ⟨lc_X1_sneezerRow, tbG_in (List.mem_of_getElem? (i := 347) (by decide +kernel)) (by decide +kernel), tbG_in (List.mem_of_getElem? (i := 348) (by decide +kernel)) (by decide +kernel), tbG_in (List.mem_of_getElem? (i := 349) (by decide +kernel)) (by decide +kernel)⟩
theorem lk_X4_154 : LV RX4 154 yX1_goMinutes cX1_goMinutes 3 none 1 := ⟨lc_X1_goMinutes, tbG_in (List.mem_of_getElem? (i := 369) (by decide +kernel)) (by decide +kernel), tbG_in (List.mem_of_getElem? (i := 370) (by decide +kernel)) (by decide +kernel), tbG_in (List.mem_of_getElem? (i := 371) (by decide +kernel)) (by decide +kernel)⟩
theorem lk_X4_158 : LV RX4 158 yX4_startTrial cX4_startTrial 1 none 0 := ⟨lc_X4_startTrial, tbG_in (List.mem_of_getElem? (i := 419) (by decide +kernel)) (by decide +kernel), tbG_in (List.mem_of_getElem? (i := 421) (by decide +kernel)) (by decide +kernel), tbG_in (List.mem_of_getElem? (i := 8) (by decide +kernel)) (by decide +kernel)⟩
theorem lk_X4_167 : LV RX4 167 yX1_burns cX1_burns 2 (some .boolean) 1 := ⟨lc_X1_burns, tbG_in (List.mem_of_getElem? (i := 438) (by decide +kernel)) (by decide +kernel), tbG_in (List.mem_of_getElem? (i := 277) (by decide +kernel)) (by decide +kernel), tbG_in (List.mem_of_getElem? (i := 278) (by decide +kernel)) (by decide +kernel)⟩
theorem lk_X4_170 : LV RX4 170 yX1_goMinute cX1_goMinute 2 none 0 := ⟨lc_X1_goMinute, tbG_in (List.mem_of_getElem? (i := 439) (by decide +kernel)) (by decide +kernel), tbG_in (List.mem_of_getElem? (i := 374) (by decide +kernel)) (by decide +kernel), tbG_in (List.mem_of_getElem? (i := 375) (by decide +kernel)) (by decide +kernel)⟩
theorem lk_X4_180 : LV RX4 180 yX4_brightest cX4_brightest 9 (some .int) 4 := ⟨lc_X4_brightest, tbG_in (List.mem_of_getElem? (i := 454) (by decide +kernel)) (by decide +kernel), tbG_in (List.mem_of_getElem? (i := 456) (by decide +kernel)) (by decide +kernel), tbG_in (List.mem_of_getElem? (i := 9) (by decide +kernel)) (by decide +kernel)⟩
theorem lk_X4_190 : LV RX4 190 yX2_addByte cX2_addByte 2 none 1 := ⟨lc_X2_addByte, tbG_in (List.mem_of_getElem? (i := 491) (by decide +kernel)) (by decide +kernel), tbG_in (List.mem_of_getElem? (i := 492) (by decide +kernel)) (by decide +kernel), tbG_in (List.mem_of_getElem? (i := 493) (by decide +kernel)) (by decide +kernel)⟩
theorem lk_X4_193 : LV RX4 193 yX3_tellAll cX3_tellAll 4 (some .boolean) 2 := ⟨lc_X3_tellAll, tbG_in (List.mem_of_getElem? (i := 503) (by decide +kernel)) (by decide +kernel), tbG_in (List.mem_of_getElem? (i := 504) (by decide +kernel)) (by decide +kernel), tbG_in (List.mem_of_getElem? (i := 505) (by decide +kernel)) (by decide +kernel)⟩
theorem lk_X4_200 : LV RX4 200 yX1_become cX1_become 2 none 1 := ⟨lc_X1_become, tbG_in (List.mem_of_getElem? (i := 423) (by decide +kernel)) (by decide +kernel), tbG_in (List.mem_of_getElem? (i := 424) (by decide +kernel)) (by decide +kernel), tbG_in (List.mem_of_getElem? (i := 425) (by decide +kernel)) (by decide +kernel)⟩
theorem lk_X4_214 : LV RX4 214 yX0_lay cX0_lay 5 none 3 := ⟨lc_X0_lay, tbG_in (List.mem_of_getElem? (i := 632) (by decide +kernel)) (by decide +kernel), tbG_in (List.mem_of_getElem? (i := 633) (by decide +kernel)) (by decide +kernel), tbG_in (List.mem_of_getElem? (i := 634) (by decide +kernel)) (by decide +kernel)⟩
theorem lk_X4_218 : LV RX4 218 yX0_isMissing cX0_isMissing 2 (some .boolean) 1 := ⟨lc_X0_isMissing, tbG_in (List.mem_of_getElem? (i := 640) (by decide +kernel)) (by decide +kernel), tbG_in (List.mem_of_getElem? (i := 641) (by decide +kernel)) (by decide +kernel), tbG_in (List.mem_of_getElem? (i := 642) (by decide +kernel)) (by decide +kernel)⟩
theorem lk_X4_225 : LV RX4 225 yX0_number cX0_number 3 (some .long) 2 := ⟨lc_X0_number, tbG_in (List.mem_of_getElem? (i := 645) (by decide +kernel)) (by decide +kernel), tbG_in (List.mem_of_getElem? (i := 646) (by decide +kernel)) (by decide +kernel), tbG_in (List.mem_of_getElem? (i := 647) (by decide +kernel)) (by decide +kernel)⟩
theorem lk_X4_229 : LV RX4 229 yX0_put cX0_put 5 none 3 := ⟨lc_X0_put, tbG_in (List.mem_of_getElem? (i := 649) (by decide +kernel)) (by decide +kernel), tbG_in (List.mem_of_getElem? (i := 650) (by decide +kernel)) (by decide +kernel), tbG_in (List.mem_of_getElem? (i := 651) (by decide +kernel)) (by decide +kernel)⟩
theorem lk_X4_236 : LV RX4 236 yX0_hasRun cX0_hasRun 4 (some .boolean) 3 := ⟨lc_X0_hasRun, tbG_in (List.mem_of_getElem? (i := 660) (by decide +kernel)) (by decide +kernel), tbG_in (List.mem_of_getElem? (i := 661) (by decide +kernel)) (by decide +kernel), tbG_in (List.mem_of_getElem? (i := 662) (by decide +kernel)) (by decide +kernel)⟩
theorem lk_X4_239 : LV RX4 239 yX0_move cX0_move 6 none 5 := ⟨lc_X0_move, tbG_in (List.mem_of_getElem? (i := 664) (by decide +kernel)) (by decide +kernel), tbG_in (List.mem_of_getElem? (i := 665) (by decide +kernel)) (by decide +kernel), tbG_in (List.mem_of_getElem? (i := 666) (by decide +kernel)) (by decide +kernel)⟩
theorem lk_X4_250 : LV RX4 250 yX4_ticklesJustSo cX4_ticklesJustSo 6 (some .boolean) 4 := ⟨lc_X4_ticklesJustSo, tbG_in (List.mem_of_getElem? (i := 683) (by decide +kernel)) (by decide +kernel), tbG_in (List.mem_of_getElem? (i := 685) (by decide +kernel)) (by decide +kernel), tbG_in (List.mem_of_getElem? (i := 20) (by decide +kernel)) (by decide +kernel)⟩
theorem lk_X4_254 : LV RX4 254 yX1_lampsBurning cX1_lampsBurning 3 (some .int) 0 := ⟨lc_X1_lampsBurning, tbG_in (List.mem_of_getElem? (i := 703) (by decide +kernel)) (by decide +kernel), tbG_in (List.mem_of_getElem? (i := 293) (by decide +kernel)) (by decide +kernel), tbG_in (List.mem_of_getElem? (i := 294) (by decide +kernel)) (by decide +kernel)⟩
theorem lk_X4_257 : LV RX4 257 yX1_goneOffOfAll cX1_goneOffOfAll 3 (some .int) 0 := ⟨lc_X1_goneOffOfAll, tbG_in (List.mem_of_getElem? (i := 704) (by decide +kernel)) (by decide +kernel), tbG_in (List.mem_of_getElem? (i := 705) (by decide +kernel)) (by decide +kernel), tbG_in (List.mem_of_getElem? (i := 706) (by decide +kernel)) (by decide +kernel)⟩
theorem lk_X4_260 : LV RX4 260 yX4_choose cX4_choose 4 none 3 := ⟨lc_X4_choose, tbG_in (List.mem_of_getElem? (i := 458) (by decide +kernel)) (by decide +kernel), tbG_in (List.mem_of_getElem? (i := 460) (by decide +kernel)) (by decide +kernel), tbG_in (List.mem_of_getElem? (i := 10) (by decide +kernel)) (by decide +kernel)⟩
theorem lk_X5_45 : LSt RX5 45 yX5_in cX5_in 3 (some .boolean) 3 := ⟨lc_X5_in, tbG_in (List.mem_of_getElem? (i := 786) (by decide +kernel)) (by decide +kernel), tbG_in (List.mem_of_getElem? (i := 787) (by decide +kernel)) (by decide +kernel)⟩
theorem lk_X5_56 : LSt RX5 56 yX5_held cX5_held 3 (some .int) 3 := ⟨lc_X5_held, tbG_in (List.mem_of_getElem? (i := 881) (by decide +kernel)) (by decide +kernel), tbG_in (List.mem_of_getElem? (i := 882) (by decide +kernel)) (by decide +kernel)⟩
theorem lk_X5_72 : LSt RX5 72 yX5_isHouse cX5_isHouse 1 (some .boolean) 1 := ⟨lc_X5_isHouse, tbG_in (List.mem_of_getElem? (i := 783) (by decide +kernel)) (by decide +kernel), tbG_in (List.mem_of_getElem? (i := 784) (by decide +kernel)) (by decide +kernel)⟩
theorem lk_X5_75 : LSt RX5 75 yX5_mostOf cX5_mostOf 1 (some .int) 1 := ⟨lc_X5_mostOf, tbG_in (List.mem_of_getElem? (i := 789) (by decide +kernel)) (by decide +kernel), tbG_in (List.mem_of_getElem? (i := 790) (by decide +kernel)) (by decide +kernel)⟩
theorem lk_X5_103 : LSt RX5 103 yX5_isKind cX5_isKind 1 (some .boolean) 1 := ⟨lc_X5_isKind, tbG_in (List.mem_of_getElem? (i := 857) (by decide +kernel)) (by decide +kernel), tbG_in (List.mem_of_getElem? (i := 858) (by decide +kernel)) (by decide +kernel)⟩
theorem lk_X5_123 : LSt RX5 123 yX5_isPart cX5_isPart 2 (some .boolean) 2 := ⟨lc_X5_isPart, tbG_in (List.mem_of_getElem? (i := 896) (by decide +kernel)) (by decide +kernel), tbG_in (List.mem_of_getElem? (i := 897) (by decide +kernel)) (by decide +kernel)⟩
theorem lk_X5_182 : LSt RX5 182 yX5_isLetter cX5_isLetter 1 (some .boolean) 1 := ⟨lc_X5_isLetter, tbG_in (List.mem_of_getElem? (i := 1027) (by decide +kernel)) (by decide +kernel), tbG_in (List.mem_of_getElem? (i := 1028) (by decide +kernel)) (by decide +kernel)⟩
theorem lk_X5_185 : LSt RX5 185 yX5_isDigit cX5_isDigit 1 (some .boolean) 1 := ⟨lc_X5_isDigit, tbG_in (List.mem_of_getElem? (i := 1030) (by decide +kernel)) (by decide +kernel), tbG_in (List.mem_of_getElem? (i := 1031) (by decide +kernel)) (by decide +kernel)⟩
theorem lk_X5_263 : LSt RX5 263 yX5_isSheet cX5_isSheet 1 (some .boolean) 1 := ⟨lc_X5_isSheet, tbG_in (List.mem_of_getElem? (i := 1085) (by decide +kernel)) (by decide +kernel), tbG_in (List.mem_of_getElem? (i := 1086) (by decide +kernel)) (by decide +kernel)⟩
theorem lk_X5_268 : LSt RX5 268 yX5_narrow cX5_narrow 3 (some .long) 2 := ⟨lc_X5_narrow, tbG_in (List.mem_of_getElem? (i := 1094) (by decide +kernel)) (by decide +kernel), tbG_in (List.mem_of_getElem? (i := 1095) (by decide +kernel)) (by decide +kernel)⟩
theorem lk_X5_49 : LV RX5 49 yX5_stands cX5_stands 3 (some .int) 2 := ⟨lc_X5_stands, tbG_in (List.mem_of_getElem? (i := 805) (by decide +kernel)) (by decide +kernel), tbG_in (List.mem_of_getElem? (i := 807) (by decide +kernel)) (by decide +kernel), tbG_in (List.mem_of_getElem? (i := 23) (by decide +kernel)) (by decide +kernel)⟩
theorem lk_X5_53 : LV RX5 53 yX5_its cX5_its 3 (some .int) 2 := ⟨lc_X5_its, tbG_in (List.mem_of_getElem? (i := 813) (by decide +kernel)) (by decide +kernel), tbG_in (List.mem_of_getElem? (i := 815) (by decide +kernel)) (by decide +kernel), tbG_in (List.mem_of_getElem? (i := 25) (by decide +kernel)) (by decide +kernel)⟩
theorem lk_X5_60 : LV RX5 60 yX5_lampsMany cX5_lampsMany 3 (some .int) 0 := ⟨lc_X5_lampsMany, tbG_in (List.mem_of_getElem? (i := 841) (by decide +kernel)) (by decide +kernel), tbG_in (List.mem_of_getElem? (i := 843) (by decide +kernel)) (by decide +kernel), tbG_in (List.mem_of_getElem? (i := 30) (by decide +kernel)) (by decide +kernel)⟩
theorem lk_X5_64 : LV RX5 64 yX5_holds cX5_holds 2 (some .int) 1 := ⟨lc_X5_holds, tbG_in (List.mem_of_getElem? (i := 837) (by decide +kernel)) (by decide +kernel), tbG_in (List.mem_of_getElem? (i := 839) (by decide +kernel)) (by decide +kernel), tbG_in (List.mem_of_getElem? (i := 29) (by decide +kernel)) (by decide +kernel)⟩
theorem lk_X5_68 : LV RX5 68 yX5_isDue cX5_isDue 2 (some .boolean) 1 := ⟨lc_X5_isDue, tbG_in (List.mem_of_getElem? (i := 833) (by decide +kernel)) (by decide +kernel), tbG_in (List.mem_of_getElem? (i := 835) (by decide +kernel)) (by decide +kernel), tbG_in (List.mem_of_getElem? (i := 28) (by decide +kernel)) (by decide +kernel)⟩
theorem lk_X5_78 : LV RX5 78 yX5_becomes cX5_becomes 4 (some .int) 2 := ⟨lc_X5_becomes, tbG_in (List.mem_of_getElem? (i := 792) (by decide +kernel)) (by decide +kernel), tbG_in (List.mem_of_getElem? (i := 794) (by decide +kernel)) (by decide +kernel), tbG_in (List.mem_of_getElem? (i := 21) (by decide +kernel)) (by decide +kernel)⟩
theorem lk_X5_81 : LV RX5 81 yX5_finds cX5_finds 2 (some .int) 1 := ⟨lc_X5_finds, tbG_in (List.mem_of_getElem? (i := 797) (by decide +kernel)) (by decide +kernel), tbG_in (List.mem_of_getElem? (i := 799) (by decide +kernel)) (by decide +kernel), tbG_in (List.mem_of_getElem? (i := 22) (by decide +kernel)) (by decide +kernel)⟩
theorem lk_X5_84 : LV RX5 84 yX5_peopleAt cX5_peopleAt 4 (some .int) 1 := ⟨lc_X5_peopleAt, tbG_in (List.mem_of_getElem? (i := 809) (by decide +kernel)) (by decide +kernel), tbG_in (List.mem_of_getElem? (i := 811) (by decide +kernel)) (by decide +kernel), tbG_in (List.mem_of_getElem? (i := 24) (by decide +kernel)) (by decide +kernel)⟩
theorem lk_X5_87 : LV RX5 87 yX5_setOf cX5_setOf 4 (some .int) 1 := ⟨lc_X5_setOf, tbG_in (List.mem_of_getElem? (i := 825) (by decide +kernel)) (by decide +kernel), tbG_in (List.mem_of_getElem? (i := 827) (by decide +kernel)) (by decide +kernel), tbG_in (List.mem_of_getElem? (i := 26) (by decide +kernel)) (by decide +kernel)⟩
theorem lk_X5_90 : LV RX5 90 yX5_dueSet cX5_dueSet 3 (some .int) 0 := ⟨lc_X5_dueSet, tbG_in (List.mem_of_getElem? (i := 829) (by decide +kernel)) (by decide +kernel), tbG_in (List.mem_of_getElem? (i := 831) (by decide +kernel)) (by decide +kernel), tbG_in (List.mem_of_getElem? (i := 27) (by decide +kernel)) (by decide +kernel)⟩
theorem lk_X5_93 : LV RX5 93 yX5_sumOf cX5_sumOf 4 (some .int) 1 := ⟨lc_X5_sumOf, tbG_in (List.mem_of_getElem? (i := 845) (by decide +kernel)) (by decide +kernel), tbG_in (List.mem_of_getElem? (i := 847) (by decide +kernel)) (by decide +kernel), tbG_in (List.mem_of_getElem? (i := 31) (by decide +kernel)) (by decide +kernel)⟩
theorem lk_X5_96 : LV RX5 96 yX5_readOfAll cX5_readOfAll 3 (some .int) 0 := ⟨lc_X5_readOfAll, tbG_in (List.mem_of_getElem? (i := 849) (by decide +kernel)) (by decide +kernel), tbG_in (List.mem_of_getElem? (i := 851) (by decide +kernel)) (by decide +kernel), tbG_in (List.mem_of_getElem? (i := 32) (by decide +kernel)) (by decide +kernel)⟩
theorem lk_X5_99 : LV RX5 99 yX5_puts cX5_puts 4 none 3 := ⟨lc_X5_puts, tbG_in (List.mem_of_getElem? (i := 865) (by decide +kernel)) (by decide +kernel), tbG_in (List.mem_of_getElem? (i := 867) (by decide +kernel)) (by decide +kernel), tbG_in (List.mem_of_getElem? (i := 34) (by decide +kernel)) (by decide +kernel)⟩
theorem lk_X5_107 : LV RX5 107 yX5_adds cX5_adds 7 none 5 := ⟨lc_X5_adds, tbG_in (List.mem_of_getElem? (i := 861) (by decide +kernel)) (by decide +kernel), tbG_in (List.mem_of_getElem? (i := 863) (by decide +kernel)) (by decide +kernel), tbG_in (List.mem_of_getElem? (i := 33) (by decide +kernel)) (by decide +kernel)⟩
theorem lk_X5_111 : LV RX5 111 yX5_isOne cX5_isOne 2 (some .boolean) 1 := ⟨lc_X5_isOne, tbG_in (List.mem_of_getElem? (i := 873) (by decide +kernel)) (by decide +kernel), tbG_in (List.mem_of_getElem? (i := 875) (by decide +kernel)) (by decide +kernel), tbG_in (List.mem_of_getElem? (i := 35) (by decide +kernel)) (by decide +kernel)⟩
theorem lk_X5_114 : LV RX5 114 yX5_tickles cX5_tickles 3 (some .int) 1 := ⟨lc_X5_tickles, tbG_in (List.mem_of_getElem? (i := 877) (by decide +kernel)) (by decide +kernel), tbG_in (List.mem_of_getElem? (i := 879) (by decide +kernel)) (by decide +kernel), tbG_in (List.mem_of_getElem? (i := 36) (by decide +kernel)) (by decide +kernel)⟩
theorem lk_X5_117 : LV RX5 117 yX5_blows cX5_blows 3 (some .int) 1 := ⟨lc_X5_blows, tbG_in (List.mem_of_getElem? (i := 884) (by decide +kernel)) (by decide +kernel), tbG_in (List.mem_of_getElem? (i := 886) (by decide +kernel)) (by decide +kernel), tbG_in (List.mem_of_getElem? (i := 37) (by decide +kernel)) (by decide +kernel)⟩
theorem lk_X5_120 : LV RX5 120 yX5_heals cX5_heals 2 (some .int) 1 := ⟨lc_X5_heals, tbG_in (List.mem_of_getElem? (i := 888) (by decide +kernel)) (by decide +kernel), tbG_in (List.mem_of_getElem? (i := 890) (by decide +kernel)) (by decide +kernel), tbG_in (List.mem_of_getElem? (i := 38) (by decide +kernel)) (by decide +kernel)⟩
theorem lk_X5_128 : LV RX5 128 yX5_rests cX5_rests 4 none 3 := ⟨lc_X5_rests, tbG_in (List.mem_of_getElem? (i := 926) (by decide +kernel)) (by decide +kernel), tbG_in (List.mem_of_getElem? (i := 928) (by decide +kernel)) (by decide +kernel), tbG_in (List.mem_of_getElem? (i := 42) (by decide +kernel)) (by decide +kernel)⟩
theorem lk_X5_131 : LV RX5 131 yX5_lights cX5_lights 6 none 1 := ⟨lc_X5_lights, tbG_in (List.mem_of_getElem? (i := 934) (by decide +kernel)) (by decide +kernel), tbG_in (List.mem_of_getElem? (i := 936) (by decide +kernel)) (by decide +kernel), tbG_in (List.mem_of_getElem? (i := 44) (by decide +kernel)) (by decide +kernel)⟩
theorem lk_X5_135 : LV RX5 135 yX5_catches cX5_catches 4 none 1 := ⟨lc_X5_catches, tbG_in (List.mem_of_getElem? (i := 938) (by decide +kernel)) (by decide +kernel), tbG_in (List.mem_of_getElem? (i := 940) (by decide +kernel)) (by decide +kernel), tbG_in (List.mem_of_getElem? (i := 45) (by decide +kernel)) (by decide +kernel)⟩
theorem lk_X5_138 : LV RX5 138 yX5_burns cX5_burns 2 none 1 := ⟨lc_X5_burns, tbG_in (List.mem_of_getElem? (i := 922) (by decide +kernel)) (by decide +kernel), tbG_in (List.mem_of_getElem? (i := 924) (by decide +kernel)) (by decide +kernel), tbG_in (List.mem_of_getElem? (i := 41) (by decide +kernel)) (by decide +kernel)⟩
theorem lk_X5_145 : LV RX5 145 yX5_goesOff cX5_goesOff 2 none 1 := ⟨lc_X5_goesOff, tbG_in (List.mem_of_getElem? (i := 930) (by decide +kernel)) (by decide +kernel), tbG_in (List.mem_of_getElem? (i := 932) (by decide +kernel)) (by decide +kernel), tbG_in (List.mem_of_getElem? (i := 43) (by decide +kernel)) (by decide +kernel)⟩
theorem lk_X5_148 : LV RX5 148 yX5_oneMinute cX5_oneMinute 3 none 0 := ⟨lc_X5_oneMinute, tbG_in (List.mem_of_getElem? (i := 918) (by decide +kernel)) (by decide +kernel), tbG_in (List.mem_of_getElem? (i := 920) (by decide +kernel)) (by decide +kernel), tbG_in (List.mem_of_getElem? (i := 40) (by decide +kernel)) (by decide +kernel)⟩
theorem lk_X5_153 : LV RX5 153 yX5_passes cX5_passes 3 none 1 := ⟨lc_X5_passes, tbG_in (List.mem_of_getElem? (i := 914) (by decide +kernel)) (by decide +kernel), tbG_in (List.mem_of_getElem? (i := 916) (by decide +kernel)) (by decide +kernel), tbG_in (List.mem_of_getElem? (i := 39) (by decide +kernel)) (by decide +kernel)⟩
theorem lk_X5_156 : LV RX5 156 yX5_moveAll cX5_moveAll 4 none 2 := ⟨lc_X5_moveAll, tbG_in (List.mem_of_getElem? (i := 946) (by decide +kernel)) (by decide +kernel), tbG_in (List.mem_of_getElem? (i := 948) (by decide +kernel)) (by decide +kernel), tbG_in (List.mem_of_getElem? (i := 46) (by decide +kernel)) (by decide +kernel)⟩
theorem lk_X5_160 : LV RX5 160 yX5_behind cX5_behind 4 (some .int) 2 := ⟨lc_X5_behind, tbG_in (List.mem_of_getElem? (i := 950) (by decide +kernel)) (by decide +kernel), tbG_in (List.mem_of_getElem? (i := 952) (by decide +kernel)) (by decide +kernel), tbG_in (List.mem_of_getElem? (i := 47) (by decide +kernel)) (by decide +kernel)⟩
theorem lk_X5_163 : LV RX5 163 yX5_isLit cX5_isLit 2 (some .boolean) 1 := ⟨lc_X5_isLit, tbG_in (List.mem_of_getElem? (i := 962) (by decide +kernel)) (by decide +kernel), tbG_in (List.mem_of_getElem? (i := 964) (by decide +kernel)) (by decide +kernel), tbG_in (List.mem_of_getElem? (i := 48) (by decide +kernel)) (by decide +kernel)⟩
theorem lk_X5_167 : LV RX5 167 yX5_readBehind cX5_readBehind 3 (some .int) 1 := ⟨lc_X5_readBehind, tbG_in (List.mem_of_getElem? (i := 979) (by decide +kernel)) (by decide +kernel), tbG_in (List.mem_of_getElem? (i := 981) (by decide +kernel)) (by decide +kernel), tbG_in (List.mem_of_getElem? (i := 49) (by decide +kernel)) (by decide +kernel)⟩
theorem lk_X5_179 : LV RX5 179 yX5_byteAt cX5_byteAt 2 (some .int) 1 := ⟨lc_X5_byteAt, tbG_in (List.mem_of_getElem? (i := 1023) (by decide +kernel)) (by decide +kernel), tbG_in (List.mem_of_getElem? (i := 1025) (by decide +kernel)) (by decide +kernel), tbG_in (List.mem_of_getElem? (i := 51) (by decide +kernel)) (by decide +kernel)⟩
theorem lk_X5_206 : LV RX5 206 yX5_isWord cX5_isWord 3 (some .boolean) 1 := ⟨lc_X5_isWord, tbG_in (List.mem_of_getElem? (i := 1045) (by decide +kernel)) (by decide +kernel), tbG_in (List.mem_of_getElem? (i := 1047) (by decide +kernel)) (by decide +kernel), tbG_in (List.mem_of_getElem? (i := 54) (by decide +kernel)) (by decide +kernel)⟩
theorem lk_X5_224 : LV RX5 224 yX5_advance cX5_advance 2 none 0 := ⟨lc_X5_advance, tbG_in (List.mem_of_getElem? (i := 1019) (by decide +kernel)) (by decide +kernel), tbG_in (List.mem_of_getElem? (i := 1021) (by decide +kernel)) (by decide +kernel), tbG_in (List.mem_of_getElem? (i := 50) (by decide +kernel)) (by decide +kernel)⟩
theorem lk_X5_227 : LV RX5 227 yX5_wantNumber cX5_wantNumber 4 (some .int) 2 := ⟨lc_X5_wantNumber, tbG_in (List.mem_of_getElem? (i := 1058) (by decide +kernel)) (by decide +kernel), tbG_in (List.mem_of_getElem? (i := 1060) (by decide +kernel)) (by decide +kernel), tbG_in (List.mem_of_getElem? (i := 56) (by decide +kernel)) (by decide +kernel)⟩
theorem lk_X5_234 : LV RX5 234 yX5_mayWant cX5_mayWant 6 (some .int) 4 := ⟨lc_X5_mayWant, tbG_in (List.mem_of_getElem? (i := 1064) (by decide +kernel)) (by decide +kernel), tbG_in (List.mem_of_getElem? (i := 1066) (by decide +kernel)) (by decide +kernel), tbG_in (List.mem_of_getElem? (i := 57) (by decide +kernel)) (by decide +kernel)⟩
theorem lk_X5_240 : LV RX5 240 yX5_kindHere cX5_kindHere 1 (some .int) 0 := ⟨lc_X5_kindHere, tbG_in (List.mem_of_getElem? (i := 1040) (by decide +kernel)) (by decide +kernel), tbG_in (List.mem_of_getElem? (i := 1042) (by decide +kernel)) (by decide +kernel), tbG_in (List.mem_of_getElem? (i := 53) (by decide +kernel)) (by decide +kernel)⟩
theorem lk_X5_243 : LV RX5 243 yX5_wantOne cX5_wantOne 6 none 1 := ⟨lc_X5_wantOne, tbG_in (List.mem_of_getElem? (i := 1054) (by decide +kernel)) (by decide +kernel), tbG_in (List.mem_of_getElem? (i := 1056) (by decide +kernel)) (by decide +kernel), tbG_in (List.mem_of_getElem? (i := 55) (by decide +kernel)) (by decide +kernel)⟩
theorem lk_X5_248 : LV RX5 248 yX5_wantBook cX5_wantBook 3 none 1 := ⟨lc_X5_wantBook, tbG_in (List.mem_of_getElem? (i := 1070) (by decide +kernel)) (by decide +kernel), tbG_in (List.mem_of_getElem? (i := 1072) (by decide +kernel)) (by decide +kernel), tbG_in (List.mem_of_getElem? (i := 58) (by decide +kernel)) (by decide +kernel)⟩
theorem lk_X5_255 : LV RX5 255 yX5_wantLamp cX5_wantLamp 3 none 0 := ⟨lc_X5_wantLamp, tbG_in (List.mem_of_getElem? (i := 1076) (by decide +kernel)) (by decide +kernel), tbG_in (List.mem_of_getElem? (i := 1078) (by decide +kernel)) (by decide +kernel), tbG_in (List.mem_of_getElem? (i := 59) (by decide +kernel)) (by decide +kernel)⟩
theorem lk_X5_260 : LV RX5 260 yX5_wantItem cX5_wantItem 2 none 0 := ⟨lc_X5_wantItem, tbG_in (List.mem_of_getElem? (i := 1036) (by decide +kernel)) (by decide +kernel), tbG_in (List.mem_of_getElem? (i := 1038) (by decide +kernel)) (by decide +kernel), tbG_in (List.mem_of_getElem? (i := 52) (by decide +kernel)) (by decide +kernel)⟩
theorem lk_X5_272 : LV RX5 272 yX5_isPart_ cX5_isPart_ 4 (some .boolean) 3 := ⟨lc_X5_isPart_, tbG_in (List.mem_of_getElem? (i := 1101) (by decide +kernel)) (by decide +kernel), tbG_in (List.mem_of_getElem? (i := 1103) (by decide +kernel)) (by decide +kernel), tbG_in (List.mem_of_getElem? (i := 60) (by decide +kernel)) (by decide +kernel)⟩
theorem lk_X5_274 : LV RX5 274 yX5_badSheet cX5_badSheet 2 (some .int) 1 := ⟨lc_X5_badSheet, tbG_in (List.mem_of_getElem? (i := 1109) (by decide +kernel)) (by decide +kernel), tbG_in (List.mem_of_getElem? (i := 1111) (by decide +kernel)) (by decide +kernel), tbG_in (List.mem_of_getElem? (i := 61) (by decide +kernel)) (by decide +kernel)⟩
theorem lk_X5_279 : LV RX5 279 yX5_isSo cX5_isSo 5 (some .boolean) 2 := ⟨lc_X5_isSo, tbG_in (List.mem_of_getElem? (i := 1122) (by decide +kernel)) (by decide +kernel), tbG_in (List.mem_of_getElem? (i := 1124) (by decide +kernel)) (by decide +kernel), tbG_in (List.mem_of_getElem? (i := 62) (by decide +kernel)) (by decide +kernel)⟩
theorem co_X4_63 : Cond.constant RX4 63 (-1000000001) ∈ tbG := tbG_in (List.mem_of_getElem? (i := 247) (by decide +kernel)) (by decide +kernel)
theorem co_X4_103 : Cond.constant RX4 103 (-1000000002) ∈ tbG := tbG_in (List.mem_of_getElem? (i := 311) (by decide +kernel)) (by decide +kernel)
theorem co_X4_151 : Cond.constant RX4 151 (-1000000003) ∈ tbG := tbG_in (List.mem_of_getElem? (i := 362) (by decide +kernel)) (by decide +kernel)
theorem co_X4_152 : Cond.constant RX4 152 (99999) ∈ tbG := tbG_in (List.mem_of_getElem? (i := 367) (by decide +kernel)) (by decide +kernel)
theorem co_X4_153 : Cond.constant RX4 153 (-1000000005) ∈ tbG := tbG_in (List.mem_of_getElem? (i := 368) (by decide +kernel)) (by decide +kernel)
theorem co_X4_173 : Cond.constant RX4 173 (-1000000004) ∈ tbG := tbG_in (List.mem_of_getElem? (i := 440) (by decide +kernel)) (by decide +kernel)
theorem co_X4_186 : Cond.constant RX4 186 (2147483647) ∈ tbG := tbG_in (List.mem_of_getElem? (i := 482) (by decide +kernel)) (by decide +kernel)
theorem co_X4_213 : Cond.constant RX4 213 (-1000000007) ∈ tbG := tbG_in (List.mem_of_getElem? (i := 631) (by decide +kernel)) (by decide +kernel)
theorem co_X4_221 : Cond.constant RX4 221 (-1000000006) ∈ tbG := tbG_in (List.mem_of_getElem? (i := 644) (by decide +kernel)) (by decide +kernel)
theorem co_X5_44 : Cond.constant RX5 44 (-1000000001) ∈ tbG := tbG_in (List.mem_of_getElem? (i := 796) (by decide +kernel)) (by decide +kernel)
theorem co_X5_106 : Cond.constant RX5 106 (-1000000002) ∈ tbG := tbG_in (List.mem_of_getElem? (i := 860) (by decide +kernel)) (by decide +kernel)
theorem co_X5_127 : Cond.constant RX5 127 (-1000000003) ∈ tbG := tbG_in (List.mem_of_getElem? (i := 907) (by decide +kernel)) (by decide +kernel)
theorem co_X5_151 : Cond.constant RX5 151 (99999) ∈ tbG := tbG_in (List.mem_of_getElem? (i := 912) (by decide +kernel)) (by decide +kernel)
theorem co_X5_152 : Cond.constant RX5 152 (-1000000005) ∈ tbG := tbG_in (List.mem_of_getElem? (i := 913) (by decide +kernel)) (by decide +kernel)
theorem co_X5_166 : Cond.constant RX5 166 (-1000000004) ∈ tbG := tbG_in (List.mem_of_getElem? (i := 966) (by decide +kernel)) (by decide +kernel)
theorem co_X5_266 : Cond.constant RX5 266 (-1000000007) ∈ tbG := tbG_in (List.mem_of_getElem? (i := 1088) (by decide +kernel)) (by decide +kernel)
theorem co_X5_267 : Cond.constant RX5 267 (-1000000006) ∈ tbG := tbG_in (List.mem_of_getElem? (i := 1093) (by decide +kernel)) (by decide +kernel)
theorem co_L_121 : Cond.constantLong RL 121 (4294967295) ∈ tbG := tbG_in (List.mem_of_getElem? (i := 1146) (by decide +kernel)) (by decide +kernel)
theorem co_X4_248 : Cond.constantLong RX4 248 (99) ∈ tbG := tbG_in (List.mem_of_getElem? (i := 674) (by decide +kernel)) (by decide +kernel)
theorem co_X5_198 : Cond.constantLong RX5 198 (27) ∈ tbG := tbG_in (List.mem_of_getElem? (i := 1033) (by decide +kernel)) (by decide +kernel)
theorem co_X5_200 : Cond.constantLong RX5 200 (96) ∈ tbG := tbG_in (List.mem_of_getElem? (i := 1034) (by decide +kernel)) (by decide +kernel)
theorem co_X5_202 : Cond.constantLong RX5 202 (-1) ∈ tbG := tbG_in (List.mem_of_getElem? (i := 1035) (by decide +kernel)) (by decide +kernel)
theorem co_X5_204 : Cond.constantLong RX5 204 (7564648716) ∈ tbG := tbG_in (List.mem_of_getElem? (i := 1044) (by decide +kernel)) (by decide +kernel)
theorem co_X5_210 : Cond.constantLong RX5 210 (1096106) ∈ tbG := tbG_in (List.mem_of_getElem? (i := 1049) (by decide +kernel)) (by decide +kernel)
theorem co_X5_212 : Cond.constantLong RX5 212 (1758676) ∈ tbG := tbG_in (List.mem_of_getElem? (i := 1050) (by decide +kernel)) (by decide +kernel)
theorem co_X5_214 : Cond.constantLong RX5 214 (65441295) ∈ tbG := tbG_in (List.mem_of_getElem? (i := 1051) (by decide +kernel)) (by decide +kernel)
theorem co_X5_216 : Cond.constantLong RX5 216 (33861013) ∈ tbG := tbG_in (List.mem_of_getElem? (i := 1052) (by decide +kernel)) (by decide +kernel)
theorem co_X5_218 : Cond.constantLong RX5 218 (40154) ∈ tbG := tbG_in (List.mem_of_getElem? (i := 1053) (by decide +kernel)) (by decide +kernel)
theorem co_X5_230 : Cond.constantLong RX5 230 (10408481) ∈ tbG := tbG_in (List.mem_of_getElem? (i := 1062) (by decide +kernel)) (by decide +kernel)
theorem co_X5_232 : Cond.constantLong RX5 232 (70312) ∈ tbG := tbG_in (List.mem_of_getElem? (i := 1063) (by decide +kernel)) (by decide +kernel)
theorem co_X5_238 : Cond.constantLong RX5 238 (291828506) ∈ tbG := tbG_in (List.mem_of_getElem? (i := 1068) (by decide +kernel)) (by decide +kernel)
theorem co_X5_246 : Cond.constantLong RX5 246 (307058) ∈ tbG := tbG_in (List.mem_of_getElem? (i := 1069) (by decide +kernel)) (by decide +kernel)
theorem co_X5_251 : Cond.constantLong RX5 251 (380396) ∈ tbG := tbG_in (List.mem_of_getElem? (i := 1074) (by decide +kernel)) (by decide +kernel)
theorem co_X5_253 : Cond.constantLong RX5 253 (237292) ∈ tbG := tbG_in (List.mem_of_getElem? (i := 1075) (by decide +kernel)) (by decide +kernel)
theorem co_X5_258 : Cond.constantLong RX5 258 (3427) ∈ tbG := tbG_in (List.mem_of_getElem? (i := 1080) (by decide +kernel)) (by decide +kernel)
theorem co_X5_277 : Cond.constantLong RX5 277 (99) ∈ tbG := tbG_in (List.mem_of_getElem? (i := 1113) (by decide +kernel)) (by decide +kernel)
theorem wa_nat : Cond.native arraycopyName ∈ tbG := tbG_in (List.mem_of_getElem? (i := 429) (by decide +kernel)) (by decide +kernel)
theorem wa_sta : Cond.static arraycopyName ∈ tbG := tbG_in (List.mem_of_getElem? (i := 428) (by decide +kernel)) (by decide +kernel)
theorem wa_ini : Cond.initialized "java/lang/System" ∈ tbG := tbG_in (List.mem_of_getElem? (i := 71) (by decide +kernel)) (by decide +kernel)
end
section
/-! ===== more rows ===== -/
theorem v_top {X : VX} {pc : Nat} {lo : List (Option Value)} {st : List Value} {w : PW} {x : Int32} (k : ∀ y : Int32, y = x → V X pc lo (.int y :: st) w) : V X pc lo (.int x :: st) w := k x rfl
def mask : List Bool → List (Option Value) → List (Option Value)
  | true :: b, o :: l => o :: mask b l
  | false :: b, _ :: l => none :: mask b l
  | _, _ => []
theorem mask_sub : ∀ (b : List Bool) (l : List (Option Value)), lsub (mask b l) l
  | [], l => by cases l <;> trivial
  | true :: b, [] => trivial
  | false :: b, [] => trivial
  | true :: b, none :: l => mask_sub b l
  | true :: b, some v :: l => ⟨rfl, mask_sub b l⟩
  | false :: b, o :: l => mask_sub b l
theorem v_fg {X : VX} {pc : Nat} {lo : List (Option Value)} {st : List Value} {w : PW} (b : List Bool) (k : V X pc (mask b lo) st w) : V X pc lo st w := v_lo _ (mask_sub b lo) k
/-- a truth as a number -/
def bI (P : Prop) [Decidable P] : Int32 := if P then 1 else 0
theorem bI_1 {P : Prop} [Decidable P] (h : P) : bI P = 1 := if_pos h
theorem bI_0 {P : Prop} [Decidable P] (h : ¬ P) : bI P = 0 := if_neg h
theorem bI_eq0 {P : Prop} [Decidable P] : bI P = 0 ↔ ¬ P := by
  by_cases h : P
  · rw [bI_1 h]; exact ⟨fun z => absurd z (by decide), fun z => absurd h z⟩
  · rw [bI_0 h]; exact ⟨fun _ => h, fun _ => rfl⟩
theorem bI_ne0 {P : Prop} [Decidable P] : ¬ bI P = 0 ↔ P := by rw [bI_eq0]; exact Decidable.not_not
theorem bI_cong {P Q : Prop} [Decidable P] [Decidable Q] (h : P ↔ Q) : bI P = bI Q := by
  by_cases hp : P
  · rw [bI_1 hp, bI_1 (h.mp hp)]
  · rw [bI_0 hp, bI_0 (fun z => hp (h.mpr z))]
theorem v_ifb_eq {X : VX} {cc : ByteArray} {own : String} {d pc : Nat} {lo : List (Option Value)} {st : List Value} {w : PW} {P : Prop} [Decidable P] {off : Int} (tgt : Nat) (g : VG X cc own d) (hd : decode cc pc = .ok (.ifCond .eq off, 3)) (ht : (pc : Int) + off = (tgt : Int)) (kt : ¬ P → V X tgt lo st w) (kf : P → V X (pc + 3) lo st w) : V X pc lo (.int (bI P) :: st) w :=
  v_if_eq tgt g hd ht (fun h => kt (bI_eq0.mp h)) (fun h => kf (bI_ne0.mp h))
theorem v_ifb_ne {X : VX} {cc : ByteArray} {own : String} {d pc : Nat} {lo : List (Option Value)} {st : List Value} {w : PW} {P : Prop} [Decidable P] {off : Int} (tgt : Nat) (g : VG X cc own d) (hd : decode cc pc = .ok (.ifCond .ne off, 3)) (ht : (pc : Int) + off = (tgt : Int)) (kt : P → V X tgt lo st w) (kf : ¬ P → V X (pc + 3) lo st w) : V X pc lo (.int (bI P) :: st) w :=
  v_if_ne tgt g hd ht (fun h => kt (bI_ne0.mp h)) (fun h => kf (bI_eq0.mp h))
theorem v_ialdN {X : VX} {cc : ByteArray} {own : String} {d pc : Nat} {lo : List (Option Value)} {st : List Value} {w : PW} {n a : Nat} {f : Nat → Int32} {i : Int32} (j : Nat) (g : VG X cc own d) (hd : decode cc pc = .ok (.iaload, 1)) (hw : pg w a = some (.inl (n, .inl f))) (hi : i = nI j) (hj : j < n) (hn : n < 1000) (k : V X (pc + 1) lo (.int (f j) :: st) w) : V X pc lo (.int i :: .ref a :: st) w := by
  subst hi
  refine v_iald g hd hw (vp_in_nI hj (by omega)) ?_
  rw [nI_clamp (by omega)]
  exact k
theorem v_laldN {X : VX} {cc : ByteArray} {own : String} {d pc : Nat} {lo : List (Option Value)} {st : List Value} {w : PW} {n a : Nat} {f : Nat → Int64} {i : Int32} (j : Nat) (g : VG X cc own d) (hd : decode cc pc = .ok (.laload, 1)) (hw : pg w a = some (.inl (n, .inr (.inl f)))) (hi : i = nI j) (hj : j < n) (hn : n < 1000) (k : V X (pc + 1) lo (.long (f j) :: st) w) : V X pc lo (.int i :: .ref a :: st) w := by
  subst hi
  refine v_lald g hd hw (vp_in_nI hj (by omega)) ?_
  rw [nI_clamp (by omega)]
  exact k
theorem v_iastN {X : VX} {cc : ByteArray} {own : String} {d pc : Nat} {lo : List (Option Value)} {st : List Value} {w : PW} {n a : Nat} {f : Nat → Int32} {i x : Int32} (j : Nat) (w2 : PW) (g : VG X cc own d) (hd : decode cc pc = .ok (.iastore, 1)) (hw : pg w a = some (.inl (n, .inl f))) (hi : i = nI j) (hj : j < n) (hn : n < 1000) (h2 : ps w a (.inl (n, .inl (upd f j x))) = w2) (k : V X (pc + 1) lo st w2) : V X pc lo (.int x :: .int i :: .ref a :: st) w := by
  subst hi
  exact v_iast w2 g hd hw (vp_in_nI hj (by omega)) (by rw [nI_clamp (by omega)]; exact h2) k
theorem v_lastN {X : VX} {cc : ByteArray} {own : String} {d pc : Nat} {lo : List (Option Value)} {st : List Value} {w : PW} {n a : Nat} {f : Nat → Int64} {i : Int32} {x : Int64} (j : Nat) (w2 : PW) (g : VG X cc own d) (hd : decode cc pc = .ok (.lastore, 1)) (hw : pg w a = some (.inl (n, .inr (.inl f)))) (hi : i = nI j) (hj : j < n) (hn : n < 1000) (h2 : ps w a (.inl (n, .inr (.inl (vp_updL f j x)))) = w2) (k : V X (pc + 1) lo st w2) : V X pc lo (.long x :: .int i :: .ref a :: st) w := by
  subst hi
  exact v_last w2 g hd hw (vp_in_nI hj (by omega)) (by rw [nI_clamp (by omega)]; exact h2) k
theorem v_iincN {X : VX} {cc : ByteArray} {own : String} {d pc : Nat} {lo : List (Option Value)} {st : List Value} {w : PW} {i j : Nat} (g : VG X cc own d) (hd : decode cc pc = .ok (.iinc i 1, 3)) (hv : pg lo i = some (some (.int (nI j)))) (hL : lo.length = nLo X) (k : V X (pc + 3) (s1 lo i (.int (nI (j + 1)))) st w) : V X pc lo st w :=
  v_iinc (nI (j + 1)) _ g hd hv (by rw [nI_succ]; rfl) hL rfl k
theorem v_iincD {X : VX} {cc : ByteArray} {own : String} {d pc : Nat} {lo : List (Option Value)} {st : List Value} {w : PW} {i j : Nat} (g : VG X cc own d) (hd : decode cc pc = .ok (.iinc i (-1), 3)) (hv : pg lo i = some (some (.int (nI (j + 1))))) (hL : lo.length = nLo X) (k : V X (pc + 3) (s1 lo i (.int (nI j))) st w) : V X pc lo st w :=
  v_iinc (nI j) _ g hd hv (pk_m1 j) hL rfl k
/-- worlds whose cells are the same -/
def eqE : PE → PE → Prop
  | .inl (n, .inl f), .inl (m, .inl h) => n = m ∧ ∀ j, j < n → f j = h j
  | .inl (n, .inr (.inl f)), .inl (m, .inr (.inl h)) => n = m ∧ ∀ j, j < n → f j = h j
  | x, y => x = y
theorem eqE_cell {cI cJ : ClassId} {ad : Nat → Nat} {x y : PE} (h : eqE x y) {D : va_G} {q : Nat} {H : Heap} (hx : va_at D vwCl (q, cE cI cJ ad x) H) : va_at D vwCl (q, cE cI cJ ad y) H := by
  match x, y, h with
  | .inl (n, .inl f), .inl (m, .inl g), h =>
    obtain ⟨rfl, h⟩ := h
    have e : vp_cell cI (n, .inl f) = vp_cell cI (n, .inl g) := by
      rw [vp_cell_i, vp_cell_i]
      unfold arrV
      congr 1
      apply Array.ext
      · simp
      · intro i h1 h2
        simp at h1
        simp [h i h1]
    show H[q]? = some (vp_cell cI (n, .inl g))
    rw [← e]
    exact hx
  | .inl (n, .inr (.inl f)), .inl (m, .inr (.inl g)), h =>
    obtain ⟨rfl, h⟩ := h
    have e : vp_cell cJ (n, .inr (.inl f)) = vp_cell cJ (n, .inr (.inl g)) := by
      rw [vp_cell_l, vp_cell_l]
      unfold arrV
      congr 1
      apply Array.ext
      · simp
      · intro i h1 h2
        simp at h1
        simp [h i h1]
    show H[q]? = some (vp_cell cJ (n, .inr (.inl g)))
    rw [← e]
    exact hx
  | .inl (n, .inl f), .inl (m, .inr g), h => cases h
  | .inl (n, .inr (.inl f)), .inl (m, .inl g), h => cases h
  | .inl (n, .inr (.inl f)), .inl (m, .inr (.inr g)), h => cases h
  | .inl (n, .inr (.inr f)), y, h => simp only [eqE] at h; subst h; exact hx
  | .inl (n, .inl f), .inr y, h => cases h
  | .inl (n, .inr (.inl f)), .inr y, h => cases h
  | .inr o, y, h => simp only [eqE] at h; subst h; exact hx
theorem eqE_refl (x : PE) : eqE x x := by
  match x with
  | .inl (n, .inl f) => exact ⟨rfl, fun _ _ => rfl⟩
  | .inl (n, .inr (.inl f)) => exact ⟨rfl, fun _ _ => rfl⟩
  | .inl (n, .inr (.inr f)) => exact rfl
  | .inr o => exact rfl
/-- one cell said otherwise -/
theorem v_eqc {X : VX} {pc : Nat} {lo : List (Option Value)} {st : List Value} {w : PW} (a : Nat) (y : PE) {x : PE} (w2 : PW) (hx : pg w a = some x) (he : eqE x y) (h2 : ps w a y = w2) (k : V X pc lo st w2) : V X pc lo st w := by
  subst h2
  obtain ⟨p, l, e, R, s, m, args, below, meth, c, D, cI, cJ, ad, N, Z, nL, kc, ks⟩ := X
  intro hN H locs ls hP hS hl
  refine k (by rw [ps_len]; exact hN) H locs ls ?_ hS hl
  intro i q hi
  rw [cWf_get] at hi
  by_cases hia : i = a
  · subst hia
    rw [pg_ps_eq _ (pg_lt hx)] at hi
    cases hi
    have := hP i _ (cW_at hx)
    rw [Nat.zero_add]
    exact eqE_cell he this
  · rw [pg_ps_ne _ hia] at hi
    exact hP i q (by rw [cWf_get]; exact hi)
end
section
/-! ===== no world: static methods; helpers ===== -/
theorem nb1 : narrow .boolean (.int 1) = .int 1 := rfl
theorem nb0 : narrow .boolean (.int 0) = .int 0 := rfl
theorem nbI {P : Prop} [Decidable P] : narrow .boolean (.int (bI P)) = .int (bI P) := by
  by_cases h : P
  · rw [bI_1 h]; rfl
  · rw [bI_0 h]; rfl
theorem so1 {P : Prop} [Decidable P] (h : P) : some (Value.int 1) = some (Value.int (bI P)) := by rw [bI_1 h]
theorem so0 {P : Prop} [Decidable P] (h : ¬ P) : some (Value.int 0) = some (Value.int (bI P)) := by rw [bI_0 h]
theorem so_i {a b : Int32} (h : a = b) : some (Value.int a) = some (Value.int b) := by rw [h]
theorem i_lt {a b : Int32} : a < b ↔ a.toInt < b.toInt := Int32.lt_iff_toInt_lt
theorem i_le {a b : Int32} : a ≤ b ↔ a.toInt ≤ b.toInt := Int32.le_iff_toInt_le
theorem i_eq {a b : Int32} : a = b ↔ a.toInt = b.toInt := Int32.toInt_inj.symm
/-- in a range -/
abbrev inR (v : Int32) (x y : Int) : Prop := x ≤ v.toInt ∧ v.toInt ≤ y
def moH (w : Int32) : Int32 := if w.toInt = 0 then 99 else if w.toInt = 1 then 1 else 9999
def moS (w : Int32) : Int32 := if w.toInt = 1 then 11 else if w.toInt = 2 then 1 else if w.toInt = 5 then 9999 else 99
def heldI (v a b : Int32) : Int32 := if v < a then a else if b < v then b else v
abbrev undK (k a : Int32) : Prop := k.toInt = a.toInt ∨ a.toInt = 0 ∨ (k.toInt = 4 ∧ a.toInt = 1) ∨ (k.toInt = 5 ∧ a.toInt = 2)
abbrev widK (b : Int32) : Prop := b.toInt = 0 ∨ b.toInt = 8 ∨ b.toInt = 16 ∨ b.toInt = 64
abbrev bitK (m i : Int32) : Prop := (m >>> (i &&& 31)) &&& 1 = 1
set_option maxRecDepth 20000 in
set_option maxHeartbeats 2000000 in
theorem c_X4_within (v a b : Int32) (x y : Int) (ha : a.toInt = x) (hb : b.toInt = y) : RunD 0 yX4_within cX4_within 3 (some .boolean) [.int v, .int a, .int b] ([]) (some (.int (bI (inR v x y)))) ([]) := by
  refine Runs.of (by decide) (Nat.le_of_ble_eq_true rfl) rfl ?_
  intro X g r hnL
  refine v_iload_n (pc := 0) 0 g dX4_within_0 rfl rfl ?_
  refine v_iload_n (pc := 1) 1 g dX4_within_1 rfl rfl ?_
  refine v_icmp_lt (pc := 2) 14 g dX4_within_2 rfl (fun c2 => ?_) (fun c2 => ?_)
  · refine v_iconst (pc := 14) (v := 0) g dX4_within_14 (by decide) ?_
    exact v_zret (pc := 15) g r dX4_within_15 (by first | exact nb1 | exact nb0 | exact nbI) (by first | (refine ⟨so1 ?_, rfl⟩; simp only [i_lt, i_le, i_eq, Int32.reduceToInt] at *; omega) | (refine ⟨so0 ?_, rfl⟩; simp only [i_lt, i_le, i_eq, Int32.reduceToInt] at *; omega))
  · refine v_iload_n (pc := 5) 0 g dX4_within_5 rfl rfl ?_
    refine v_iload_n (pc := 6) 2 g dX4_within_6 rfl rfl ?_
    refine v_icmp_gt (pc := 7) 14 g dX4_within_7 rfl (fun c7 => ?_) (fun c7 => ?_)
    · refine v_iconst (pc := 14) (v := 0) g dX4_within_14 (by decide) ?_
      exact v_zret (pc := 15) g r dX4_within_15 (by first | exact nb1 | exact nb0 | exact nbI) (by first | (refine ⟨so1 ?_, rfl⟩; simp only [i_lt, i_le, i_eq, Int32.reduceToInt] at *; omega) | (refine ⟨so0 ?_, rfl⟩; simp only [i_lt, i_le, i_eq, Int32.reduceToInt] at *; omega))
    · refine v_iconst (pc := 10) (v := 1) g dX4_within_10 (by decide) ?_
      refine v_goto (pc := 11) 15 g dX4_within_11 rfl ?_
      exact v_zret (pc := 15) g r dX4_within_15 (by first | exact nb1 | exact nb0 | exact nbI) (by first | (refine ⟨so1 ?_, rfl⟩; simp only [i_lt, i_le, i_eq, Int32.reduceToInt] at *; omega) | (refine ⟨so0 ?_, rfl⟩; simp only [i_lt, i_le, i_eq, Int32.reduceToInt] at *; omega))
set_option maxRecDepth 20000 in
set_option maxHeartbeats 2000000 in
theorem c_X5_in (v a b : Int32) (x y : Int) (ha : a.toInt = x) (hb : b.toInt = y) : RunD 0 yX5_in cX5_in 3 (some .boolean) [.int v, .int a, .int b] ([]) (some (.int (bI (inR v x y)))) ([]) := by
  refine Runs.of (by decide) (Nat.le_of_ble_eq_true rfl) rfl ?_
  intro X g r hnL
  refine v_iload_n (pc := 0) 0 g dX5_in_0 rfl rfl ?_
  refine v_iload_n (pc := 1) 1 g dX5_in_1 rfl rfl ?_
  refine v_icmp_lt (pc := 2) 14 g dX5_in_2 rfl (fun c2 => ?_) (fun c2 => ?_)
  · refine v_iconst (pc := 14) (v := 0) g dX5_in_14 (by decide) ?_
    exact v_zret (pc := 15) g r dX5_in_15 (by first | exact nb1 | exact nb0 | exact nbI) (by first | (refine ⟨so1 ?_, rfl⟩; simp only [i_lt, i_le, i_eq, Int32.reduceToInt] at *; omega) | (refine ⟨so0 ?_, rfl⟩; simp only [i_lt, i_le, i_eq, Int32.reduceToInt] at *; omega))
  · refine v_iload_n (pc := 5) 0 g dX5_in_5 rfl rfl ?_
    refine v_iload_n (pc := 6) 2 g dX5_in_6 rfl rfl ?_
    refine v_icmp_gt (pc := 7) 14 g dX5_in_7 rfl (fun c7 => ?_) (fun c7 => ?_)
    · refine v_iconst (pc := 14) (v := 0) g dX5_in_14 (by decide) ?_
      exact v_zret (pc := 15) g r dX5_in_15 (by first | exact nb1 | exact nb0 | exact nbI) (by first | (refine ⟨so1 ?_, rfl⟩; simp only [i_lt, i_le, i_eq, Int32.reduceToInt] at *; omega) | (refine ⟨so0 ?_, rfl⟩; simp only [i_lt, i_le, i_eq, Int32.reduceToInt] at *; omega))
    · refine v_iconst (pc := 10) (v := 1) g dX5_in_10 (by decide) ?_
      refine v_goto (pc := 11) 15 g dX5_in_11 rfl ?_
      exact v_zret (pc := 15) g r dX5_in_15 (by first | exact nb1 | exact nb0 | exact nbI) (by first | (refine ⟨so1 ?_, rfl⟩; simp only [i_lt, i_le, i_eq, Int32.reduceToInt] at *; omega) | (refine ⟨so0 ?_, rfl⟩; simp only [i_lt, i_le, i_eq, Int32.reduceToInt] at *; omega))
set_option maxRecDepth 20000 in
set_option maxHeartbeats 2000000 in
theorem c_X4_isHouse (v : Int32) : RunD 0 yX4_isHouse cX4_isHouse 1 (some .boolean) [.int v] ([]) (some (.int (bI (inR v 0 11)))) ([]) := by
  refine Runs.of (by decide) (Nat.le_of_ble_eq_true rfl) rfl ?_
  intro X g r hnL
  refine v_iload_n (pc := 0) 0 g dX4_isHouse_0 rfl rfl ?_
  refine v_if_lt (pc := 1) 14 g dX4_isHouse_1 rfl (fun c1 => ?_) (fun c1 => ?_)
  · refine v_iconst (pc := 14) (v := 0) g dX4_isHouse_14 (by decide) ?_
    exact v_zret (pc := 15) g r dX4_isHouse_15 (by first | exact nb1 | exact nb0 | exact nbI) (by first | (refine ⟨so1 ?_, rfl⟩; simp only [i_lt, i_le, i_eq, Int32.reduceToInt] at *; omega) | (refine ⟨so0 ?_, rfl⟩; simp only [i_lt, i_le, i_eq, Int32.reduceToInt] at *; omega))
  · refine v_iload_n (pc := 4) 0 g dX4_isHouse_4 rfl rfl ?_
    refine v_bipush (pc := 5) (v := 12) g dX4_isHouse_5 (by decide) ?_
    refine v_icmp_ge (pc := 7) 14 g dX4_isHouse_7 rfl (fun c7 => ?_) (fun c7 => ?_)
    · refine v_iconst (pc := 14) (v := 0) g dX4_isHouse_14 (by decide) ?_
      exact v_zret (pc := 15) g r dX4_isHouse_15 (by first | exact nb1 | exact nb0 | exact nbI) (by first | (refine ⟨so1 ?_, rfl⟩; simp only [i_lt, i_le, i_eq, Int32.reduceToInt] at *; omega) | (refine ⟨so0 ?_, rfl⟩; simp only [i_lt, i_le, i_eq, Int32.reduceToInt] at *; omega))
    · refine v_iconst (pc := 10) (v := 1) g dX4_isHouse_10 (by decide) ?_
      refine v_goto (pc := 11) 15 g dX4_isHouse_11 rfl ?_
      exact v_zret (pc := 15) g r dX4_isHouse_15 (by first | exact nb1 | exact nb0 | exact nbI) (by first | (refine ⟨so1 ?_, rfl⟩; simp only [i_lt, i_le, i_eq, Int32.reduceToInt] at *; omega) | (refine ⟨so0 ?_, rfl⟩; simp only [i_lt, i_le, i_eq, Int32.reduceToInt] at *; omega))
set_option maxRecDepth 20000 in
set_option maxHeartbeats 2000000 in
theorem c_X4_isKind (v : Int32) : RunD 1 yX4_isKind cX4_isKind 1 (some .boolean) [.int v] ([]) (some (.int (bI (inR v 0 5)))) ([]) := by
  refine Runs.of (by decide) (Nat.le_of_ble_eq_true rfl) rfl ?_
  intro X g r hnL
  refine v_iload_n (pc := 0) 0 g dX4_isKind_0 rfl rfl ?_
  refine v_iconst (pc := 1) (v := 0) g dX4_isKind_1 (by decide) ?_
  refine v_iconst (pc := 2) (v := 5) g dX4_isKind_2 (by decide) ?_
  refine v_cSd (pc := 3) g dX4_isKind_3 lk_X4_55 ((c_X4_within _ _ _ 0 5 rfl rfl).any rfl rfl _) (Nat.le_of_ble_eq_true rfl) rfl rfl (Nat.le_of_ble_eq_true rfl) ?_
  exact v_zret (pc := 6) g r dX4_isKind_6 (by first | exact nb1 | exact nb0 | exact nbI) (⟨rfl, rfl⟩)
set_option maxRecDepth 20000 in
set_option maxHeartbeats 2000000 in
theorem c_X4_isSheet (v : Int32) : RunD 1 yX4_isSheet cX4_isSheet 1 (some .boolean) [.int v] ([]) (some (.int (bI (inR v 0 3)))) ([]) := by
  refine Runs.of (by decide) (Nat.le_of_ble_eq_true rfl) rfl ?_
  intro X g r hnL
  refine v_iload_n (pc := 0) 0 g dX4_isSheet_0 rfl rfl ?_
  refine v_iconst (pc := 1) (v := 0) g dX4_isSheet_1 (by decide) ?_
  refine v_iconst (pc := 2) (v := 3) g dX4_isSheet_2 (by decide) ?_
  refine v_cSd (pc := 3) g dX4_isSheet_3 lk_X4_55 ((c_X4_within _ _ _ 0 3 rfl rfl).any rfl rfl _) (Nat.le_of_ble_eq_true rfl) rfl rfl (Nat.le_of_ble_eq_true rfl) ?_
  exact v_zret (pc := 6) g r dX4_isSheet_6 (by first | exact nb1 | exact nb0 | exact nbI) (⟨rfl, rfl⟩)
set_option maxRecDepth 20000 in
set_option maxHeartbeats 2000000 in
theorem c_X5_isHouse (v : Int32) : RunD 1 yX5_isHouse cX5_isHouse 1 (some .boolean) [.int v] ([]) (some (.int (bI (inR v 0 11)))) ([]) := by
  refine Runs.of (by decide) (Nat.le_of_ble_eq_true rfl) rfl ?_
  intro X g r hnL
  refine v_iload_n (pc := 0) 0 g dX5_isHouse_0 rfl rfl ?_
  refine v_iconst (pc := 1) (v := 0) g dX5_isHouse_1 (by decide) ?_
  refine v_bipush (pc := 2) (v := 11) g dX5_isHouse_2 (by decide) ?_
  refine v_cSd (pc := 4) g dX5_isHouse_4 lk_X5_45 ((c_X5_in _ _ _ 0 11 rfl rfl).any rfl rfl _) (Nat.le_of_ble_eq_true rfl) rfl rfl (Nat.le_of_ble_eq_true rfl) ?_
  exact v_zret (pc := 7) g r dX5_isHouse_7 (by first | exact nb1 | exact nb0 | exact nbI) (⟨rfl, rfl⟩)
set_option maxRecDepth 20000 in
set_option maxHeartbeats 2000000 in
theorem c_X5_isKind (v : Int32) : RunD 1 yX5_isKind cX5_isKind 1 (some .boolean) [.int v] ([]) (some (.int (bI (inR v 0 5)))) ([]) := by
  refine Runs.of (by decide) (Nat.le_of_ble_eq_true rfl) rfl ?_
  intro X g r hnL
  refine v_iload_n (pc := 0) 0 g dX5_isKind_0 rfl rfl ?_
  refine v_iconst (pc := 1) (v := 0) g dX5_isKind_1 (by decide) ?_
  refine v_iconst (pc := 2) (v := 5) g dX5_isKind_2 (by decide) ?_
  refine v_cSd (pc := 3) g dX5_isKind_3 lk_X5_45 ((c_X5_in _ _ _ 0 5 rfl rfl).any rfl rfl _) (Nat.le_of_ble_eq_true rfl) rfl rfl (Nat.le_of_ble_eq_true rfl) ?_
  exact v_zret (pc := 6) g r dX5_isKind_6 (by first | exact nb1 | exact nb0 | exact nbI) (⟨rfl, rfl⟩)
set_option maxRecDepth 20000 in
set_option maxHeartbeats 2000000 in
theorem c_X5_isSheet (v : Int32) : RunD 1 yX5_isSheet cX5_isSheet 1 (some .boolean) [.int v] ([]) (some (.int (bI (inR v 0 3)))) ([]) := by
  refine Runs.of (by decide) (Nat.le_of_ble_eq_true rfl) rfl ?_
  intro X g r hnL
  refine v_iload_n (pc := 0) 0 g dX5_isSheet_0 rfl rfl ?_
  refine v_iconst (pc := 1) (v := 0) g dX5_isSheet_1 (by decide) ?_
  refine v_iconst (pc := 2) (v := 3) g dX5_isSheet_2 (by decide) ?_
  refine v_cSd (pc := 3) g dX5_isSheet_3 lk_X5_45 ((c_X5_in _ _ _ 0 3 rfl rfl).any rfl rfl _) (Nat.le_of_ble_eq_true rfl) rfl rfl (Nat.le_of_ble_eq_true rfl) ?_
  exact v_zret (pc := 6) g r dX5_isSheet_6 (by first | exact nb1 | exact nb0 | exact nbI) (⟨rfl, rfl⟩)
set_option maxRecDepth 20000 in
set_option maxHeartbeats 2000000 in
theorem c_X5_isLetter (v : Int32) : RunD 1 yX5_isLetter cX5_isLetter 1 (some .boolean) [.int v] ([]) (some (.int (bI (inR v 97 122)))) ([]) := by
  refine Runs.of (by decide) (Nat.le_of_ble_eq_true rfl) rfl ?_
  intro X g r hnL
  refine v_iload_n (pc := 0) 0 g dX5_isLetter_0 rfl rfl ?_
  refine v_bipush (pc := 1) (v := 97) g dX5_isLetter_1 (by decide) ?_
  refine v_bipush (pc := 3) (v := 122) g dX5_isLetter_3 (by decide) ?_
  refine v_cSd (pc := 5) g dX5_isLetter_5 lk_X5_45 ((c_X5_in _ _ _ 97 122 rfl rfl).any rfl rfl _) (Nat.le_of_ble_eq_true rfl) rfl rfl (Nat.le_of_ble_eq_true rfl) ?_
  exact v_zret (pc := 8) g r dX5_isLetter_8 (by first | exact nb1 | exact nb0 | exact nbI) (⟨rfl, rfl⟩)
set_option maxRecDepth 20000 in
set_option maxHeartbeats 2000000 in
theorem c_X5_isDigit (v : Int32) : RunD 1 yX5_isDigit cX5_isDigit 1 (some .boolean) [.int v] ([]) (some (.int (bI (inR v 48 57)))) ([]) := by
  refine Runs.of (by decide) (Nat.le_of_ble_eq_true rfl) rfl ?_
  intro X g r hnL
  refine v_iload_n (pc := 0) 0 g dX5_isDigit_0 rfl rfl ?_
  refine v_bipush (pc := 1) (v := 48) g dX5_isDigit_1 (by decide) ?_
  refine v_bipush (pc := 3) (v := 57) g dX5_isDigit_3 (by decide) ?_
  refine v_cSd (pc := 5) g dX5_isDigit_5 lk_X5_45 ((c_X5_in _ _ _ 48 57 rfl rfl).any rfl rfl _) (Nat.le_of_ble_eq_true rfl) rfl rfl (Nat.le_of_ble_eq_true rfl) ?_
  exact v_zret (pc := 8) g r dX5_isDigit_8 (by first | exact nb1 | exact nb0 | exact nbI) (⟨rfl, rfl⟩)
set_option maxRecDepth 20000 in
set_option maxHeartbeats 2000000 in
theorem c_X3_isLetter (v : Int32) : RunD 0 yX3_isLetter cX3_isLetter 1 (some .boolean) [.int v] ([]) (some (.int (bI (inR v 97 122)))) ([]) := by
  refine Runs.of (by decide) (Nat.le_of_ble_eq_true rfl) rfl ?_
  intro X g r hnL
  refine v_iload_n (pc := 0) 0 g dX3_isLetter_0 rfl rfl ?_
  refine v_bipush (pc := 1) (v := 97) g dX3_isLetter_1 (by decide) ?_
  refine v_icmp_lt (pc := 3) 16 g dX3_isLetter_3 rfl (fun c3 => ?_) (fun c3 => ?_)
  · refine v_iconst (pc := 16) (v := 0) g dX3_isLetter_16 (by decide) ?_
    exact v_zret (pc := 17) g r dX3_isLetter_17 (by first | exact nb1 | exact nb0 | exact nbI) (by first | (refine ⟨so1 ?_, rfl⟩; simp only [i_lt, i_le, i_eq, Int32.reduceToInt] at *; omega) | (refine ⟨so0 ?_, rfl⟩; simp only [i_lt, i_le, i_eq, Int32.reduceToInt] at *; omega))
  · refine v_iload_n (pc := 6) 0 g dX3_isLetter_6 rfl rfl ?_
    refine v_bipush (pc := 7) (v := 122) g dX3_isLetter_7 (by decide) ?_
    refine v_icmp_gt (pc := 9) 16 g dX3_isLetter_9 rfl (fun c9 => ?_) (fun c9 => ?_)
    · refine v_iconst (pc := 16) (v := 0) g dX3_isLetter_16 (by decide) ?_
      exact v_zret (pc := 17) g r dX3_isLetter_17 (by first | exact nb1 | exact nb0 | exact nbI) (by first | (refine ⟨so1 ?_, rfl⟩; simp only [i_lt, i_le, i_eq, Int32.reduceToInt] at *; omega) | (refine ⟨so0 ?_, rfl⟩; simp only [i_lt, i_le, i_eq, Int32.reduceToInt] at *; omega))
    · refine v_iconst (pc := 12) (v := 1) g dX3_isLetter_12 (by decide) ?_
      refine v_goto (pc := 13) 17 g dX3_isLetter_13 rfl ?_
      exact v_zret (pc := 17) g r dX3_isLetter_17 (by first | exact nb1 | exact nb0 | exact nbI) (by first | (refine ⟨so1 ?_, rfl⟩; simp only [i_lt, i_le, i_eq, Int32.reduceToInt] at *; omega) | (refine ⟨so0 ?_, rfl⟩; simp only [i_lt, i_le, i_eq, Int32.reduceToInt] at *; omega))
set_option maxRecDepth 20000 in
set_option maxHeartbeats 2000000 in
theorem c_X3_isDigit (v : Int32) : RunD 0 yX3_isDigit cX3_isDigit 1 (some .boolean) [.int v] ([]) (some (.int (bI (inR v 48 57)))) ([]) := by
  refine Runs.of (by decide) (Nat.le_of_ble_eq_true rfl) rfl ?_
  intro X g r hnL
  refine v_iload_n (pc := 0) 0 g dX3_isDigit_0 rfl rfl ?_
  refine v_bipush (pc := 1) (v := 48) g dX3_isDigit_1 (by decide) ?_
  refine v_icmp_lt (pc := 3) 16 g dX3_isDigit_3 rfl (fun c3 => ?_) (fun c3 => ?_)
  · refine v_iconst (pc := 16) (v := 0) g dX3_isDigit_16 (by decide) ?_
    exact v_zret (pc := 17) g r dX3_isDigit_17 (by first | exact nb1 | exact nb0 | exact nbI) (by first | (refine ⟨so1 ?_, rfl⟩; simp only [i_lt, i_le, i_eq, Int32.reduceToInt] at *; omega) | (refine ⟨so0 ?_, rfl⟩; simp only [i_lt, i_le, i_eq, Int32.reduceToInt] at *; omega))
  · refine v_iload_n (pc := 6) 0 g dX3_isDigit_6 rfl rfl ?_
    refine v_bipush (pc := 7) (v := 57) g dX3_isDigit_7 (by decide) ?_
    refine v_icmp_gt (pc := 9) 16 g dX3_isDigit_9 rfl (fun c9 => ?_) (fun c9 => ?_)
    · refine v_iconst (pc := 16) (v := 0) g dX3_isDigit_16 (by decide) ?_
      exact v_zret (pc := 17) g r dX3_isDigit_17 (by first | exact nb1 | exact nb0 | exact nbI) (by first | (refine ⟨so1 ?_, rfl⟩; simp only [i_lt, i_le, i_eq, Int32.reduceToInt] at *; omega) | (refine ⟨so0 ?_, rfl⟩; simp only [i_lt, i_le, i_eq, Int32.reduceToInt] at *; omega))
    · refine v_iconst (pc := 12) (v := 1) g dX3_isDigit_12 (by decide) ?_
      refine v_goto (pc := 13) 17 g dX3_isDigit_13 rfl ?_
      exact v_zret (pc := 17) g r dX3_isDigit_17 (by first | exact nb1 | exact nb0 | exact nbI) (by first | (refine ⟨so1 ?_, rfl⟩; simp only [i_lt, i_le, i_eq, Int32.reduceToInt] at *; omega) | (refine ⟨so0 ?_, rfl⟩; simp only [i_lt, i_le, i_eq, Int32.reduceToInt] at *; omega))
set_option maxRecDepth 20000 in
set_option maxHeartbeats 2000000 in
theorem c_X4_isWidth (v : Int32) : RunD 0 yX4_isWidth cX4_isWidth 1 (some .boolean) [.int v] ([]) (some (.int (bI (widK v)))) ([]) := by
  refine Runs.of (by decide) (Nat.le_of_ble_eq_true rfl) rfl ?_
  intro X g r hnL
  refine v_iload_n (pc := 0) 0 g dX4_isWidth_0 rfl rfl ?_
  refine v_if_eq (pc := 1) 22 g dX4_isWidth_1 rfl (fun c1 => ?_) (fun c1 => ?_)
  · refine v_iconst (pc := 22) (v := 1) g dX4_isWidth_22 (by decide) ?_
    refine v_goto (pc := 23) 27 g dX4_isWidth_23 rfl ?_
    exact v_zret (pc := 27) g r dX4_isWidth_27 (by first | exact nb1 | exact nb0 | exact nbI) (by first | (refine ⟨so1 ?_, rfl⟩; simp only [i_lt, i_le, i_eq, Int32.reduceToInt] at *; omega) | (refine ⟨so0 ?_, rfl⟩; simp only [i_lt, i_le, i_eq, Int32.reduceToInt] at *; omega))
  · refine v_iload_n (pc := 4) 0 g dX4_isWidth_4 rfl rfl ?_
    refine v_bipush (pc := 5) (v := 8) g dX4_isWidth_5 (by decide) ?_
    refine v_icmp_eq (pc := 7) 22 g dX4_isWidth_7 rfl (fun c7 => ?_) (fun c7 => ?_)
    · refine v_iconst (pc := 22) (v := 1) g dX4_isWidth_22 (by decide) ?_
      refine v_goto (pc := 23) 27 g dX4_isWidth_23 rfl ?_
      exact v_zret (pc := 27) g r dX4_isWidth_27 (by first | exact nb1 | exact nb0 | exact nbI) (by first | (refine ⟨so1 ?_, rfl⟩; simp only [i_lt, i_le, i_eq, Int32.reduceToInt] at *; omega) | (refine ⟨so0 ?_, rfl⟩; simp only [i_lt, i_le, i_eq, Int32.reduceToInt] at *; omega))
    · refine v_iload_n (pc := 10) 0 g dX4_isWidth_10 rfl rfl ?_
      refine v_bipush (pc := 11) (v := 16) g dX4_isWidth_11 (by decide) ?_
      refine v_icmp_eq (pc := 13) 22 g dX4_isWidth_13 rfl (fun c13 => ?_) (fun c13 => ?_)
      · refine v_iconst (pc := 22) (v := 1) g dX4_isWidth_22 (by decide) ?_
        refine v_goto (pc := 23) 27 g dX4_isWidth_23 rfl ?_
        exact v_zret (pc := 27) g r dX4_isWidth_27 (by first | exact nb1 | exact nb0 | exact nbI) (by first | (refine ⟨so1 ?_, rfl⟩; simp only [i_lt, i_le, i_eq, Int32.reduceToInt] at *; omega) | (refine ⟨so0 ?_, rfl⟩; simp only [i_lt, i_le, i_eq, Int32.reduceToInt] at *; omega))
      · refine v_iload_n (pc := 16) 0 g dX4_isWidth_16 rfl rfl ?_
        refine v_bipush (pc := 17) (v := 64) g dX4_isWidth_17 (by decide) ?_
        refine v_icmp_ne (pc := 19) 26 g dX4_isWidth_19 rfl (fun c19 => ?_) (fun c19 => ?_)
        · refine v_iconst (pc := 26) (v := 0) g dX4_isWidth_26 (by decide) ?_
          exact v_zret (pc := 27) g r dX4_isWidth_27 (by first | exact nb1 | exact nb0 | exact nbI) (by first | (refine ⟨so1 ?_, rfl⟩; simp only [i_lt, i_le, i_eq, Int32.reduceToInt] at *; omega) | (refine ⟨so0 ?_, rfl⟩; simp only [i_lt, i_le, i_eq, Int32.reduceToInt] at *; omega))
        · refine v_iconst (pc := 22) (v := 1) g dX4_isWidth_22 (by decide) ?_
          refine v_goto (pc := 23) 27 g dX4_isWidth_23 rfl ?_
          exact v_zret (pc := 27) g r dX4_isWidth_27 (by first | exact nb1 | exact nb0 | exact nbI) (by first | (refine ⟨so1 ?_, rfl⟩; simp only [i_lt, i_le, i_eq, Int32.reduceToInt] at *; omega) | (refine ⟨so0 ?_, rfl⟩; simp only [i_lt, i_le, i_eq, Int32.reduceToInt] at *; omega))
set_option maxRecDepth 20000 in
set_option maxHeartbeats 2000000 in
theorem c_X4_isUnder (k v : Int32) : RunD 0 yX4_isUnder cX4_isUnder 2 (some .boolean) [.int k, .int v] ([]) (some (.int (bI (undK k v)))) ([]) := by
  refine Runs.of (by decide) (Nat.le_of_ble_eq_true rfl) rfl ?_
  intro X g r hnL
  refine v_iload_n (pc := 0) 0 g dX4_isUnder_0 rfl rfl ?_
  refine v_iload_n (pc := 1) 1 g dX4_isUnder_1 rfl rfl ?_
  refine v_icmp_eq (pc := 2) 29 g dX4_isUnder_2 rfl (fun c2 => ?_) (fun c2 => ?_)
  · refine v_iconst (pc := 29) (v := 1) g dX4_isUnder_29 (by decide) ?_
    refine v_goto (pc := 30) 34 g dX4_isUnder_30 rfl ?_
    exact v_zret (pc := 34) g r dX4_isUnder_34 (by first | exact nb1 | exact nb0 | exact nbI) (by first | (refine ⟨so1 ?_, rfl⟩; simp only [i_lt, i_le, i_eq, Int32.reduceToInt] at *; omega) | (refine ⟨so0 ?_, rfl⟩; simp only [i_lt, i_le, i_eq, Int32.reduceToInt] at *; omega))
  · refine v_iload_n (pc := 5) 1 g dX4_isUnder_5 rfl rfl ?_
    refine v_if_eq (pc := 6) 29 g dX4_isUnder_6 rfl (fun c6 => ?_) (fun c6 => ?_)
    · refine v_iconst (pc := 29) (v := 1) g dX4_isUnder_29 (by decide) ?_
      refine v_goto (pc := 30) 34 g dX4_isUnder_30 rfl ?_
      exact v_zret (pc := 34) g r dX4_isUnder_34 (by first | exact nb1 | exact nb0 | exact nbI) (by first | (refine ⟨so1 ?_, rfl⟩; simp only [i_lt, i_le, i_eq, Int32.reduceToInt] at *; omega) | (refine ⟨so0 ?_, rfl⟩; simp only [i_lt, i_le, i_eq, Int32.reduceToInt] at *; omega))
    · refine v_iload_n (pc := 9) 0 g dX4_isUnder_9 rfl rfl ?_
      refine v_iconst (pc := 10) (v := 4) g dX4_isUnder_10 (by decide) ?_
      refine v_icmp_ne (pc := 11) 19 g dX4_isUnder_11 rfl (fun c11 => ?_) (fun c11 => ?_)
      · refine v_iload_n (pc := 19) 0 g dX4_isUnder_19 rfl rfl ?_
        refine v_iconst (pc := 20) (v := 5) g dX4_isUnder_20 (by decide) ?_
        refine v_icmp_ne (pc := 21) 33 g dX4_isUnder_21 rfl (fun c21 => ?_) (fun c21 => ?_)
        · refine v_iconst (pc := 33) (v := 0) g dX4_isUnder_33 (by decide) ?_
          exact v_zret (pc := 34) g r dX4_isUnder_34 (by first | exact nb1 | exact nb0 | exact nbI) (by first | (refine ⟨so1 ?_, rfl⟩; simp only [i_lt, i_le, i_eq, Int32.reduceToInt] at *; omega) | (refine ⟨so0 ?_, rfl⟩; simp only [i_lt, i_le, i_eq, Int32.reduceToInt] at *; omega))
        · refine v_iload_n (pc := 24) 1 g dX4_isUnder_24 rfl rfl ?_
          refine v_iconst (pc := 25) (v := 2) g dX4_isUnder_25 (by decide) ?_
          refine v_icmp_ne (pc := 26) 33 g dX4_isUnder_26 rfl (fun c26 => ?_) (fun c26 => ?_)
          · refine v_iconst (pc := 33) (v := 0) g dX4_isUnder_33 (by decide) ?_
            exact v_zret (pc := 34) g r dX4_isUnder_34 (by first | exact nb1 | exact nb0 | exact nbI) (by first | (refine ⟨so1 ?_, rfl⟩; simp only [i_lt, i_le, i_eq, Int32.reduceToInt] at *; omega) | (refine ⟨so0 ?_, rfl⟩; simp only [i_lt, i_le, i_eq, Int32.reduceToInt] at *; omega))
          · refine v_iconst (pc := 29) (v := 1) g dX4_isUnder_29 (by decide) ?_
            refine v_goto (pc := 30) 34 g dX4_isUnder_30 rfl ?_
            exact v_zret (pc := 34) g r dX4_isUnder_34 (by first | exact nb1 | exact nb0 | exact nbI) (by first | (refine ⟨so1 ?_, rfl⟩; simp only [i_lt, i_le, i_eq, Int32.reduceToInt] at *; omega) | (refine ⟨so0 ?_, rfl⟩; simp only [i_lt, i_le, i_eq, Int32.reduceToInt] at *; omega))
      · refine v_iload_n (pc := 14) 1 g dX4_isUnder_14 rfl rfl ?_
        refine v_iconst (pc := 15) (v := 1) g dX4_isUnder_15 (by decide) ?_
        refine v_icmp_eq (pc := 16) 29 g dX4_isUnder_16 rfl (fun c16 => ?_) (fun c16 => ?_)
        · refine v_iconst (pc := 29) (v := 1) g dX4_isUnder_29 (by decide) ?_
          refine v_goto (pc := 30) 34 g dX4_isUnder_30 rfl ?_
          exact v_zret (pc := 34) g r dX4_isUnder_34 (by first | exact nb1 | exact nb0 | exact nbI) (by first | (refine ⟨so1 ?_, rfl⟩; simp only [i_lt, i_le, i_eq, Int32.reduceToInt] at *; omega) | (refine ⟨so0 ?_, rfl⟩; simp only [i_lt, i_le, i_eq, Int32.reduceToInt] at *; omega))
        · refine v_iload_n (pc := 19) 0 g dX4_isUnder_19 rfl rfl ?_
          refine v_iconst (pc := 20) (v := 5) g dX4_isUnder_20 (by decide) ?_
          refine v_icmp_ne (pc := 21) 33 g dX4_isUnder_21 rfl (fun c21 => ?_) (fun c21 => ?_)
          · refine v_iconst (pc := 33) (v := 0) g dX4_isUnder_33 (by decide) ?_
            exact v_zret (pc := 34) g r dX4_isUnder_34 (by first | exact nb1 | exact nb0 | exact nbI) (by first | (refine ⟨so1 ?_, rfl⟩; simp only [i_lt, i_le, i_eq, Int32.reduceToInt] at *; omega) | (refine ⟨so0 ?_, rfl⟩; simp only [i_lt, i_le, i_eq, Int32.reduceToInt] at *; omega))
          · refine v_iload_n (pc := 24) 1 g dX4_isUnder_24 rfl rfl ?_
            refine v_iconst (pc := 25) (v := 2) g dX4_isUnder_25 (by decide) ?_
            refine v_icmp_ne (pc := 26) 33 g dX4_isUnder_26 rfl (fun c26 => ?_) (fun c26 => ?_)
            · refine v_iconst (pc := 33) (v := 0) g dX4_isUnder_33 (by decide) ?_
              exact v_zret (pc := 34) g r dX4_isUnder_34 (by first | exact nb1 | exact nb0 | exact nbI) (by first | (refine ⟨so1 ?_, rfl⟩; simp only [i_lt, i_le, i_eq, Int32.reduceToInt] at *; omega) | (refine ⟨so0 ?_, rfl⟩; simp only [i_lt, i_le, i_eq, Int32.reduceToInt] at *; omega))
            · refine v_iconst (pc := 29) (v := 1) g dX4_isUnder_29 (by decide) ?_
              refine v_goto (pc := 30) 34 g dX4_isUnder_30 rfl ?_
              exact v_zret (pc := 34) g r dX4_isUnder_34 (by first | exact nb1 | exact nb0 | exact nbI) (by first | (refine ⟨so1 ?_, rfl⟩; simp only [i_lt, i_le, i_eq, Int32.reduceToInt] at *; omega) | (refine ⟨so0 ?_, rfl⟩; simp only [i_lt, i_le, i_eq, Int32.reduceToInt] at *; omega))
set_option maxRecDepth 20000 in
set_option maxHeartbeats 2000000 in
theorem c_X4_isIn (k v : Int32) : RunD 0 yX4_isIn cX4_isIn 2 (some .boolean) [.int k, .int v] ([]) (some (.int (bI (bitK k v)))) ([]) := by
  refine Runs.of (by decide) (Nat.le_of_ble_eq_true rfl) rfl ?_
  intro X g r hnL
  refine v_iload_n (pc := 0) 0 g dX4_isIn_0 rfl rfl ?_
  refine v_iload_n (pc := 1) 1 g dX4_isIn_1 rfl rfl ?_
  refine v_ishr (pc := 2) g dX4_isIn_2 ?_
  refine v_iconst (pc := 3) (v := 1) g dX4_isIn_3 (by decide) ?_
  refine v_iand (pc := 4) g dX4_isIn_4 ?_
  refine v_iconst (pc := 5) (v := 1) g dX4_isIn_5 (by decide) ?_
  refine v_icmp_ne (pc := 6) 13 g dX4_isIn_6 rfl (fun c6 => ?_) (fun c6 => ?_)
  · refine v_iconst (pc := 13) (v := 0) g dX4_isIn_13 (by decide) ?_
    exact v_zret (pc := 14) g r dX4_isIn_14 (by first | exact nb1 | exact nb0 | exact nbI) (by first | exact ⟨so1 c6, rfl⟩ | exact ⟨so0 c6, rfl⟩)
  · refine v_iconst (pc := 9) (v := 1) g dX4_isIn_9 (by decide) ?_
    refine v_goto (pc := 10) 14 g dX4_isIn_10 rfl ?_
    exact v_zret (pc := 14) g r dX4_isIn_14 (by first | exact nb1 | exact nb0 | exact nbI) (by first | exact ⟨so1 c6, rfl⟩ | exact ⟨so0 c6, rfl⟩)
set_option maxRecDepth 20000 in
set_option maxHeartbeats 2000000 in
theorem c_X4_mostOfHouse (v : Int32) : RunD 0 yX4_mostOfHouse cX4_mostOfHouse 1 (some .int) [.int v] ([]) (some (.int (moH v))) ([]) := by
  refine Runs.of (by decide) (Nat.le_of_ble_eq_true rfl) rfl ?_
  intro X g r hnL
  refine v_iload_n (pc := 0) 0 g dX4_mostOfHouse_0 rfl rfl ?_
  refine v_top (fun x1 e1 => ?_)
  by_cases t1_0 : x1.toInt = 0
  · refine v_lk (pc := 1) 28 g dX4_mostOfHouse_1 rfl (by rw [t1_0]) rfl ?_
    rw [e1] at t1_0
    refine v_bipush (pc := 28) (v := 99) g dX4_mostOfHouse_28 (by decide) ?_
    exact v_iret (pc := 30) g r dX4_mostOfHouse_30 (by simp [moH, *])
  by_cases t1_1 : x1.toInt = 1
  · refine v_lk (pc := 1) 31 g dX4_mostOfHouse_1 rfl (by rw [t1_1]) rfl ?_
    rw [e1] at t1_1
    refine v_iconst (pc := 31) (v := 1) g dX4_mostOfHouse_31 (by decide) ?_
    exact v_iret (pc := 32) g r dX4_mostOfHouse_32 (by simp [moH, *])
  refine v_lk (pc := 1) (off := 32) 33 g dX4_mostOfHouse_1 rfl (by show Op.lookupswitch.offset [(0, 27), (1, 30)] 32 _ = 32; rw [Op.lookupswitch.offset_cons, if_neg (fun h => t1_0 h.symm), Op.lookupswitch.offset_cons, if_neg (fun h => t1_1 h.symm), Op.lookupswitch.offset_nil]) rfl ?_
  rw [e1] at t1_0
  rw [e1] at t1_1
  refine v_sipush (pc := 33) (v := 9999) g dX4_mostOfHouse_33 (by decide) ?_
  exact v_iret (pc := 36) g r dX4_mostOfHouse_36 (by simp [moH, *])
set_option maxRecDepth 20000 in
set_option maxHeartbeats 2000000 in
theorem c_X4_mostOfSneezer (v : Int32) : RunD 0 yX4_mostOfSneezer cX4_mostOfSneezer 1 (some .int) [.int v] ([]) (some (.int (moS v))) ([]) := by
  refine Runs.of (by decide) (Nat.le_of_ble_eq_true rfl) rfl ?_
  intro X g r hnL
  refine v_iload_n (pc := 0) 0 g dX4_mostOfSneezer_0 rfl rfl ?_
  refine v_top (fun x1 e1 => ?_)
  by_cases t1_1 : x1.toInt = 1
  · refine v_tin (pc := 1) 1 36 g dX4_mostOfSneezer_1 t1_1 (by decide) (by decide) rfl rfl ?_
    rw [e1] at t1_1
    refine v_bipush (pc := 36) (v := 11) g dX4_mostOfSneezer_36 (by decide) ?_
    exact v_iret (pc := 38) g r dX4_mostOfSneezer_38 (by simp [moS, *])
  by_cases t1_2 : x1.toInt = 2
  · refine v_tin (pc := 1) 2 39 g dX4_mostOfSneezer_1 t1_2 (by decide) (by decide) rfl rfl ?_
    rw [e1] at t1_2
    refine v_iconst (pc := 39) (v := 1) g dX4_mostOfSneezer_39 (by decide) ?_
    exact v_iret (pc := 40) g r dX4_mostOfSneezer_40 (by simp [moS, *])
  by_cases t1_5 : x1.toInt = 5
  · refine v_tin (pc := 1) 5 41 g dX4_mostOfSneezer_1 t1_5 (by decide) (by decide) rfl rfl ?_
    rw [e1] at t1_5
    refine v_sipush (pc := 41) (v := 9999) g dX4_mostOfSneezer_41 (by decide) ?_
    exact v_iret (pc := 44) g r dX4_mostOfSneezer_44 (by simp [moS, *])
  by_cases t1_3 : x1.toInt = 3
  · refine v_tin (pc := 1) 3 45 g dX4_mostOfSneezer_1 t1_3 (by decide) (by decide) rfl rfl ?_
    rw [e1] at t1_3
    refine v_bipush (pc := 45) (v := 99) g dX4_mostOfSneezer_45 (by decide) ?_
    exact v_iret (pc := 47) g r dX4_mostOfSneezer_47 (by simp [moS, *])
  by_cases t1_4 : x1.toInt = 4
  · refine v_tin (pc := 1) 4 45 g dX4_mostOfSneezer_1 t1_4 (by decide) (by decide) rfl rfl ?_
    rw [e1] at t1_4
    refine v_bipush (pc := 45) (v := 99) g dX4_mostOfSneezer_45 (by decide) ?_
    exact v_iret (pc := 47) g r dX4_mostOfSneezer_47 (by simp [moS, *])
  refine v_tout (pc := 1) 45 g dX4_mostOfSneezer_1 (by omega) rfl ?_
  rw [e1] at t1_1
  rw [e1] at t1_2
  rw [e1] at t1_5
  rw [e1] at t1_3
  rw [e1] at t1_4
  refine v_bipush (pc := 45) (v := 99) g dX4_mostOfSneezer_45 (by decide) ?_
  exact v_iret (pc := 47) g r dX4_mostOfSneezer_47 (by simp [moS, *])
set_option maxRecDepth 20000 in
set_option maxHeartbeats 2000000 in
theorem c_X5_held (v a b : Int32) : RunD 0 yX5_held cX5_held 3 (some .int) [.int v, .int a, .int b] ([]) (some (.int (heldI v a b))) ([]) := by
  refine Runs.of (by decide) (Nat.le_of_ble_eq_true rfl) rfl ?_
  intro X g r hnL
  refine v_iload_n (pc := 0) 0 g dX5_held_0 rfl rfl ?_
  refine v_iload_n (pc := 1) 1 g dX5_held_1 rfl rfl ?_
  refine v_icmp_ge (pc := 2) 9 g dX5_held_2 rfl (fun c2 => ?_) (fun c2 => ?_)
  · refine v_iload_n (pc := 9) 0 g dX5_held_9 rfl rfl ?_
    refine v_iload_n (pc := 10) 2 g dX5_held_10 rfl rfl ?_
    refine v_icmp_le (pc := 11) 18 g dX5_held_11 rfl (fun c11 => ?_) (fun c11 => ?_)
    · refine v_iload_n (pc := 18) 0 g dX5_held_18 rfl rfl ?_
      exact v_iret (pc := 19) g r dX5_held_19 (⟨so_i (by unfold heldI; simp only [i_lt, i_le] at *; (repeat' split) <;> first | rfl | omega), rfl⟩)
    · refine v_iload_n (pc := 14) 2 g dX5_held_14 rfl rfl ?_
      refine v_goto (pc := 15) 19 g dX5_held_15 rfl ?_
      exact v_iret (pc := 19) g r dX5_held_19 (⟨so_i (by unfold heldI; simp only [i_lt, i_le] at *; (repeat' split) <;> first | rfl | omega), rfl⟩)
  · refine v_iload_n (pc := 5) 1 g dX5_held_5 rfl rfl ?_
    refine v_goto (pc := 6) 19 g dX5_held_6 rfl ?_
    exact v_iret (pc := 19) g r dX5_held_19 (⟨so_i (by unfold heldI; simp only [i_lt, i_le] at *; (repeat' split) <;> first | rfl | omega), rfl⟩)
set_option maxRecDepth 20000 in
set_option maxHeartbeats 2000000 in
theorem c_X5_mostOf (v : Int32) : RunD 0 yX5_mostOf cX5_mostOf 1 (some .int) [.int v] ([]) (some (.int (moH v))) ([]) := by
  refine Runs.of (by decide) (Nat.le_of_ble_eq_true rfl) rfl ?_
  intro X g r hnL
  refine v_iload_n (pc := 0) 0 g dX5_mostOf_0 rfl rfl ?_
  refine v_if_ne (pc := 1) 9 g dX5_mostOf_1 rfl (fun c1 => ?_) (fun c1 => ?_)
  · refine v_iload_n (pc := 9) 0 g dX5_mostOf_9 rfl rfl ?_
    refine v_iconst (pc := 10) (v := 1) g dX5_mostOf_10 (by decide) ?_
    refine v_icmp_ne (pc := 11) 18 g dX5_mostOf_11 rfl (fun c11 => ?_) (fun c11 => ?_)
    · refine v_sipush (pc := 18) (v := 9999) g dX5_mostOf_18 (by decide) ?_
      exact v_iret (pc := 21) g r dX5_mostOf_21 (by simp only [i_eq, Int32.reduceToInt] at *; simp [moH, *])
    · refine v_iconst (pc := 14) (v := 1) g dX5_mostOf_14 (by decide) ?_
      refine v_goto (pc := 15) 21 g dX5_mostOf_15 rfl ?_
      exact v_iret (pc := 21) g r dX5_mostOf_21 (by simp only [i_eq, Int32.reduceToInt] at *; simp [moH, *])
  · refine v_bipush (pc := 4) (v := 99) g dX5_mostOf_4 (by decide) ?_
    refine v_goto (pc := 6) 21 g dX5_mostOf_6 rfl ?_
    exact v_iret (pc := 21) g r dX5_mostOf_21 (by simp only [i_eq, Int32.reduceToInt] at *; simp [moH, *])
end
section
/-! ===== THE STATE in numbers: a street ===== -/
abbrev St : Type := Int32 × Int32 × (Nat → Int32) × (Nat → Int32) × (Nat → Int32) × Nat × (Nat → Int32) × (Nat → Int32) × (Nat → Int32) × (Nat → Int32) × (Nat → Int32) × (Nat → Int32)
def sMi (s : St) : Int32 := s.1
def sDr (s : St) : Int32 := s.2.1
def sLa (s : St) : Nat → Int32 := s.2.2.1
def sBo (s : St) : Nat → Int32 := s.2.2.2.1
def sRe (s : St) : Nat → Int32 := s.2.2.2.2.1
def sN (s : St) : Nat := s.2.2.2.2.2.1
def sKi (s : St) : Nat → Int32 := s.2.2.2.2.2.2.1
def sAt (s : St) : Nat → Int32 := s.2.2.2.2.2.2.2.1
def sFa (s : St) : Nat → Int32 := s.2.2.2.2.2.2.2.2.1
def sCo (s : St) : Nat → Int32 := s.2.2.2.2.2.2.2.2.2.1
def sTi (s : St) : Nat → Int32 := s.2.2.2.2.2.2.2.2.2.2.1
def sGo (s : St) : Nat → Int32 := s.2.2.2.2.2.2.2.2.2.2.2
def mkS (mi dr : Int32) (la bo re : Nat → Int32) (n : Nat) (ki hh fa co ti go : Nat → Int32) : St := (mi, dr, la, bo, re, n, ki, hh, fa, co, ti, go)
def pMi (s : St) (v : Int32) : St := mkS v (sDr s) (sLa s) (sBo s) (sRe s) (sN s) (sKi s) (sAt s) (sFa s) (sCo s) (sTi s) (sGo s)
def pDr (s : St) (v : Int32) : St := mkS (sMi s) v (sLa s) (sBo s) (sRe s) (sN s) (sKi s) (sAt s) (sFa s) (sCo s) (sTi s) (sGo s)
def pLa (s : St) (v : Nat → Int32) : St := mkS (sMi s) (sDr s) v (sBo s) (sRe s) (sN s) (sKi s) (sAt s) (sFa s) (sCo s) (sTi s) (sGo s)
def pBo (s : St) (v : Nat → Int32) : St := mkS (sMi s) (sDr s) (sLa s) v (sRe s) (sN s) (sKi s) (sAt s) (sFa s) (sCo s) (sTi s) (sGo s)
def pRe (s : St) (v : Nat → Int32) : St := mkS (sMi s) (sDr s) (sLa s) (sBo s) v (sN s) (sKi s) (sAt s) (sFa s) (sCo s) (sTi s) (sGo s)
def pN (s : St) (v : Nat) : St := mkS (sMi s) (sDr s) (sLa s) (sBo s) (sRe s) v (sKi s) (sAt s) (sFa s) (sCo s) (sTi s) (sGo s)
def pKi (s : St) (v : Nat → Int32) : St := mkS (sMi s) (sDr s) (sLa s) (sBo s) (sRe s) (sN s) v (sAt s) (sFa s) (sCo s) (sTi s) (sGo s)
def pAt (s : St) (v : Nat → Int32) : St := mkS (sMi s) (sDr s) (sLa s) (sBo s) (sRe s) (sN s) (sKi s) v (sFa s) (sCo s) (sTi s) (sGo s)
def pFa (s : St) (v : Nat → Int32) : St := mkS (sMi s) (sDr s) (sLa s) (sBo s) (sRe s) (sN s) (sKi s) (sAt s) v (sCo s) (sTi s) (sGo s)
def pCo (s : St) (v : Nat → Int32) : St := mkS (sMi s) (sDr s) (sLa s) (sBo s) (sRe s) (sN s) (sKi s) (sAt s) (sFa s) v (sTi s) (sGo s)
def pTi (s : St) (v : Nat → Int32) : St := mkS (sMi s) (sDr s) (sLa s) (sBo s) (sRe s) (sN s) (sKi s) (sAt s) (sFa s) (sCo s) v (sGo s)
def pGo (s : St) (v : Nat → Int32) : St := mkS (sMi s) (sDr s) (sLa s) (sBo s) (sRe s) (sN s) (sKi s) (sAt s) (sFa s) (sCo s) (sTi s) v
/-- the cells of a Street -/
def stW (s : St) (we : Int32) : PW := [.inr (1, [.int (sMi s), .int (sDr s), .ref 1, .ref 2, .ref 3, .int (nI (sN s)), .ref 4, .ref 5, .ref 6, .ref 7, .ref 8, .ref 9, .int we]), .inl (12, .inl (sLa s)), .inl (12, .inl (sBo s)), .inl (12, .inl (sRe s)), .inl (8, .inl (sKi s)), .inl (8, .inl (sAt s)), .inl (8, .inl (sFa s)), .inl (8, .inl (sCo s)), .inl (8, .inl (sTi s)), .inl (8, .inl (sGo s))]
/-! what the promises compute -/
def bitsN (p : Nat → Bool) : Nat → Int32
  | 0 => 0
  | n + 1 => if p n = true then bitsN p n ||| ((1 : Int32) <<< (nI n &&& 31)) else bitsN p n
def cntN (p : Nat → Bool) : Nat → Int32
  | 0 => 0
  | n + 1 => if p n = true then cntN p n + 1 else cntN p n
def sumN (f : Nat → Int32) : Nat → Int32
  | 0 => 0
  | n + 1 => sumN f n + f n
def mx (x y : Int32) : Int32 := if x < y then y else x
def mn (x y : Int32) : Int32 := if y < x then y else x
def kSel (k s b c d bi ba : Int32) : Int32 := if k.toInt = 1 then b else if k.toInt = 2 then c else if k.toInt = 3 then d else if k.toInt = 4 then bi else if k.toInt = 5 then ba else s
def fBur (s : St) (h : Nat) : Bool := decide (0 < sLa s h)
def fOpn (s : St) (h : Nat) : Bool := decide (sBo s h = 1)
def lampsN (s : St) : Int32 := cntN (fBur s) 12
def burning (s : St) : Int32 := bitsN (fBur s) 12
def openB (s : St) : Int32 := bitsN (fOpn s) 12
def whoAt (s : St) (h : Int32) : Int32 := bitsN (fun i => decide (sAt s i = h)) (sN s)
def readAll (s : St) : Int32 := sumN (sRe s) 12
def coldAll (s : St) : Int32 := sumN (sCo s) (sN s)
def goneAll (s : St) : Int32 := sumN (sGo s) (sN s)
def plainT (s : St) (i : Nat) : Int32 := mx 0 (sCo s i / 4 - sDr s)
def tkl (s : St) (i : Nat) : Int32 := kSel (sKi s i) (plainT s i) (plainT s i / 2) (plainT s i + 3) 0 (plainT s i / 2 + 1) (if 0 < sLa s (sAt s i).toNatClampNeg then 2 * (plainT s i + 3) else plainT s i + 3)
def hld (s : St) (i : Nat) : Int32 := kSel (sKi s i) 30 90 20 99 (90 - 5 * lampsN s) 20
def blw (s : St) (i : Nat) : Int32 := kSel (sKi s i) (1 + sCo s i / 25) (2 * (1 + sCo s i / 25)) 1 0 (2 * (1 + sCo s i / 25) + 1) (1 + sCo s i / 50)
def hea (s : St) (i : Nat) : Int32 := kSel (sKi s i) 1 0 2 9 (sDr s / 3) 1
def fDue (s : St) (i : Nat) : Bool := decide (hld s i ≤ sTi s i)
def dueN (s : St) : Int32 := bitsN (fDue s) (sN s)
def burn1 (s : St) (h : Nat) : St := if 0 < sLa s h then pLa (pRe s (upd (sRe s) h (mn 9999 (sRe s h + 1)))) (upd (sLa s) h (sLa s h - 1)) else s
def burnN (s : St) : Nat → St
  | 0 => s
  | k + 1 => burn1 (burnN s k) k
def tick1 (s : St) (i : Nat) : St := pTi s (upd (sTi s) i (mn 99 (sTi s i + tkl s i)))
def tickN (s : St) : Nat → St
  | 0 => s
  | k + 1 => tick1 (tickN s k) k
def lgt1 (s : St) (h light : Int32) : St := if inR h 0 11 ∧ sBo s h.toNatClampNeg = 1 then pLa s (upd (sLa s) h.toNatClampNeg (mx (sLa s h.toNatClampNeg) light)) else s
def lgtN (s : St) (a st light : Int32) : Nat → St
  | 0 => s
  | b + 1 => lgt1 (lgtN s a st light b) (a + nI (b + 1) * st) light
def stepF (s : St) (i : Nat) : Int32 := if sFa s i = 1 then 1 else -1
def lights (s : St) (i : Nat) : St := lgtN s (sAt s i) (stepF s i) (5 + sCo s i / 10) (blw s i).toNatClampNeg
abbrev near (s : St) (i j : Nat) : Prop := ¬ j = i ∧ ¬ (sKi s j).toInt = 3 ∧ -1 ≤ (sAt s j).toInt - (sAt s i).toInt ∧ (sAt s j).toInt - (sAt s i).toInt ≤ 1
def giv1 (s : St) (i j : Nat) : St := if near s i j then pCo s (upd (sCo s) j (mn 99 (sCo s j + 6))) else s
def givN (s : St) (i : Nat) : Nat → St
  | 0 => s
  | j + 1 => giv1 (givN s i j) i j
def off1 (s : St) (i : Nat) : St := pGo (pTi s (upd (sTi s) i 0)) (upd (sGo s) i (mn 9999 (sGo s i + 1)))
def goesOff (s : St) (i : Nat) : St := givN (lights (off1 s i) i) i (sN s)
def offN (s : St) (due : Int32) : Nat → St
  | 0 => s
  | i + 1 => if bitK due (nI i) then goesOff (offN s due i) i else offN s due i
def heal1 (s : St) (i : Nat) : St := pCo s (upd (sCo s) i (mx 0 (sCo s i - hea s i)))
def healN (s : St) : Nat → St
  | 0 => s
  | k + 1 => heal1 (healN s k) k
def ticked (s : St) : St := tickN (burnN s 12) (sN s)
def mdue (s : St) : Int32 := dueN (ticked s)
def minute (s : St) : St := pMi (healN (offN (ticked s) (mdue s) (sN s)) (sN s)) (sMi s + 1)
def minN (s : St) : Nat → St
  | 0 => s
  | k + 1 => minute (minN s k)
def Inv (s : St) : Prop := sN s ≤ 8 ∧ inR (sDr s) 0 9 ∧ (∀ h, inR (sLa s h) 0 99 ∧ inR (sBo s h) 0 1 ∧ inR (sRe s h) 0 9999) ∧ ∀ i, inR (sKi s i) 0 5 ∧ inR (sAt s i) 0 11 ∧ inR (sFa s i) 0 1 ∧ inR (sCo s i) 0 99 ∧ inR (sTi s i) 0 99 ∧ inR (sGo s i) 0 9999
theorem Inv.n {s : St} (h : Inv s) : sN s ≤ 8 := h.1
theorem Inv.dr {s : St} (h : Inv s) : inR (sDr s) 0 9 := h.2.1
theorem Inv.la {s : St} (h : Inv s) (k : Nat) : inR (sLa s k) 0 99 := (h.2.2.1 k).1
theorem Inv.bo {s : St} (h : Inv s) (k : Nat) : inR (sBo s k) 0 1 := (h.2.2.1 k).2.1
theorem Inv.re {s : St} (h : Inv s) (k : Nat) : inR (sRe s k) 0 9999 := (h.2.2.1 k).2.2
theorem Inv.ki {s : St} (h : Inv s) (k : Nat) : inR (sKi s k) 0 5 := (h.2.2.2 k).1
theorem Inv.at {s : St} (h : Inv s) (k : Nat) : inR (sAt s k) 0 11 := (h.2.2.2 k).2.1
theorem Inv.fa {s : St} (h : Inv s) (k : Nat) : inR (sFa s k) 0 1 := (h.2.2.2 k).2.2.1
theorem Inv.co {s : St} (h : Inv s) (k : Nat) : inR (sCo s k) 0 99 := (h.2.2.2 k).2.2.2.1
theorem Inv.ti {s : St} (h : Inv s) (k : Nat) : inR (sTi s k) 0 99 := (h.2.2.2 k).2.2.2.2.1
theorem Inv.go {s : St} (h : Inv s) (k : Nat) : inR (sGo s k) 0 9999 := (h.2.2.2 k).2.2.2.2.2
/-- a number in a range is a small one -/
theorem inR.nat {v : Int32} {m : Nat} (h : inR v 0 m) (hm : m < 2147483647) : ∃ j : Nat, j ≤ m ∧ v = nI j := by
  refine ⟨v.toInt.toNat, by have := h.2; omega, ?_⟩
  rw [i_eq, nI_toInt (by have := h.2; omega)]
  have := h.1
  omega
theorem inR_nI {j m : Nat} (h : j ≤ m) (hm : m < 2147483647) : inR (nI j) 0 m := by
  unfold inR
  rw [nI_toInt (by omega)]
  omega
theorem upd_all {P : Int32 → Prop} {f : Nat → Int32} {k : Nat} {x : Int32} (hf : ∀ j, P (f j)) (hx : P x) : ∀ j, P (upd f k x j) := by
  intro j
  unfold upd
  split
  · exact hx
  · exact hf j
end
section
/-! ===== the ranges stay ===== -/
theorem updR {f : Nat → Int32} {k : Nat} {x : Int32} {a b : Int} (hf : ∀ j, inR (f j) a b) (hx : inR x a b) : ∀ j, inR (upd f k x j) a b := by
  intro j
  unfold upd
  split
  · exact hx
  · exact hf j
theorem Inv.pMi {s : St} (h : Inv s) (v : Int32) : Inv (pMi s v) := h
theorem Inv.pDr {s : St} (h : Inv s) {v : Int32} (hv : inR v 0 9) : Inv (pDr s v) := ⟨h.1, hv, h.2.2⟩
theorem Inv.pLa {s : St} (h : Inv s) {f : Nat → Int32} (hf : ∀ k, inR (f k) 0 99) : Inv (pLa s f) := ⟨h.1, h.2.1, fun k => ⟨hf k, (h.2.2.1 k).2⟩, h.2.2.2⟩
theorem Inv.pBo {s : St} (h : Inv s) {f : Nat → Int32} (hf : ∀ k, inR (f k) 0 1) : Inv (pBo s f) := ⟨h.1, h.2.1, fun k => ⟨h.la k, hf k, h.re k⟩, h.2.2.2⟩
theorem Inv.pRe {s : St} (h : Inv s) {f : Nat → Int32} (hf : ∀ k, inR (f k) 0 9999) : Inv (pRe s f) := ⟨h.1, h.2.1, fun k => ⟨h.la k, h.bo k, hf k⟩, h.2.2.2⟩
theorem Inv.pN {s : St} (h : Inv s) {n : Nat} (hn : n ≤ 8) : Inv (pN s n) := ⟨hn, h.2⟩
theorem Inv.pKi {s : St} (h : Inv s) {f : Nat → Int32} (hf : ∀ k, inR (f k) 0 5) : Inv (pKi s f) := ⟨h.1, h.2.1, h.2.2.1, fun k => ⟨hf k, (h.2.2.2 k).2⟩⟩
theorem Inv.pAt {s : St} (h : Inv s) {f : Nat → Int32} (hf : ∀ k, inR (f k) 0 11) : Inv (pAt s f) := ⟨h.1, h.2.1, h.2.2.1, fun k => ⟨h.ki k, hf k, (h.2.2.2 k).2.2⟩⟩
theorem Inv.pFa {s : St} (h : Inv s) {f : Nat → Int32} (hf : ∀ k, inR (f k) 0 1) : Inv (pFa s f) := ⟨h.1, h.2.1, h.2.2.1, fun k => ⟨h.ki k, h.at k, hf k, (h.2.2.2 k).2.2.2⟩⟩
theorem Inv.pCo {s : St} (h : Inv s) {f : Nat → Int32} (hf : ∀ k, inR (f k) 0 99) : Inv (pCo s f) := ⟨h.1, h.2.1, h.2.2.1, fun k => ⟨h.ki k, h.at k, h.fa k, hf k, (h.2.2.2 k).2.2.2.2⟩⟩
theorem Inv.pTi {s : St} (h : Inv s) {f : Nat → Int32} (hf : ∀ k, inR (f k) 0 99) : Inv (pTi s f) := ⟨h.1, h.2.1, h.2.2.1, fun k => ⟨h.ki k, h.at k, h.fa k, h.co k, hf k, h.go k⟩⟩
theorem Inv.pGo {s : St} (h : Inv s) {f : Nat → Int32} (hf : ∀ k, inR (f k) 0 9999) : Inv (pGo s f) := ⟨h.1, h.2.1, h.2.2.1, fun k => ⟨h.ki k, h.at k, h.fa k, h.co k, h.ti k, hf k⟩⟩
theorem mn_nI {a b : Nat} (ha : a < 2 ^ 31) (hb : b < 2 ^ 31) : mn (nI a) (nI b) = nI (if b < a then b else a) := by
  unfold mn
  by_cases h : b < a
  · rw [if_pos ((nI_ltI hb ha).mpr h), if_pos h]
  · rw [if_neg (fun z => h ((nI_ltI hb ha).mp z)), if_neg h]
theorem mx_nI {a b : Nat} (ha : a < 2 ^ 31) (hb : b < 2 ^ 31) : mx (nI a) (nI b) = nI (if a < b then b else a) := by
  unfold mx
  by_cases h : a < b
  · rw [if_pos ((nI_ltI ha hb).mpr h), if_pos h]
  · rw [if_neg (fun z => h ((nI_ltI ha hb).mp z)), if_neg h]
theorem mx_sub {a b : Nat} (ha : a < 2 ^ 30) (hb : b < 2 ^ 30) : mx 0 (nI a - nI b) = nI (a - b) := by
  unfold mx
  by_cases h : b < a
  · rw [pk_sub (by omega), if_pos]
    exact (nI_ltI (a := 0) (b := a - b) (by omega) (by omega)).mpr (by omega)
  · rw [if_neg, show a - b = 0 by omega]
    · rfl
    · rw [i_lt, pk_sub_toInt ha hb]
      have : (0 : Int32).toInt = 0 := rfl
      omega
theorem cntN_nat (p : Nat → Bool) : ∀ n, n < 1000 → ∃ k, k ≤ n ∧ cntN p n = nI k
  | 0, _ => ⟨0, Nat.le_refl _, rfl⟩
  | n + 1, hn => by
    obtain ⟨k, h1, h2⟩ := cntN_nat p n (by omega)
    rw [cntN, h2]
    split
    · exact ⟨k + 1, by omega, (nI_succ k).symm⟩
    · exact ⟨k, by omega, rfl⟩
theorem plainT_nat {s : St} (h : Inv s) (i : Nat) : ∃ t, t ≤ 24 ∧ plainT s i = nI t := by
  obtain ⟨c, hc, ec⟩ := (h.co i).nat (m := 99) (by omega)
  obtain ⟨d, hd, ed⟩ := h.dr.nat (m := 9) (by omega)
  refine ⟨c / 4 - d, by omega, ?_⟩
  unfold plainT
  rw [ec, ed, show (4 : Int32) = nI 4 from rfl, pk_div (by omega) (by omega) (by omega), mx_sub (by omega) (by omega)]
theorem kSel_P {P : Int32 → Prop} {k s b c d bi ba : Int32} (h0 : P s) (h1 : P b) (h2 : P c) (h3 : P d) (h4 : P bi) (h5 : P ba) : P (kSel k s b c d bi ba) := by
  unfold kSel
  (repeat' split) <;> assumption
theorem tkl_nat {s : St} (h : Inv s) (i : Nat) : ∃ t, t ≤ 54 ∧ tkl s i = nI t := by
  obtain ⟨a, ha, ea⟩ := plainT_nat h i
  unfold tkl
  rw [ea]
  have e3 : nI a + 3 = nI (a + 3) := nI_add a 3
  have e2 : nI a / 2 = nI (a / 2) := pk_div (d := 2) (by omega) (by omega) (by omega)
  have e4 : nI (a / 2) + 1 = nI (a / 2 + 1) := nI_1 _
  have e5 : 2 * nI (a + 3) = nI (2 * (a + 3)) := pk_mul 2 (a + 3)
  rw [e2, e3, e4, e5]
  refine kSel_P (P := fun v => ∃ t, t ≤ 54 ∧ v = nI t) ⟨_, by omega, rfl⟩ ⟨_, by omega, rfl⟩ ⟨_, by omega, rfl⟩ ⟨0, by omega, rfl⟩ ⟨_, by omega, rfl⟩ ?_
  split
  · exact ⟨_, by omega, rfl⟩
  · exact ⟨_, by omega, rfl⟩
theorem blw_nat {s : St} (h : Inv s) (i : Nat) : ∃ t, t ≤ 9 ∧ blw s i = nI t := by
  obtain ⟨c, hc, ec⟩ := (h.co i).nat (m := 99) (by omega)
  unfold blw
  rw [ec]
  have e1 : nI c / 25 = nI (c / 25) := pk_div (d := 25) (by omega) (by omega) (by omega)
  have e2 : nI c / 50 = nI (c / 50) := pk_div (d := 50) (by omega) (by omega) (by omega)
  have e3 : ∀ z, 1 + nI z = nI (1 + z) := fun z => nI_add 1 z
  have e4 : ∀ z, 2 * nI z = nI (2 * z) := fun z => pk_mul 2 z
  have e5 : ∀ z, nI z + 1 = nI (z + 1) := fun z => nI_1 z
  rw [e1, e2, e3, e3, e4, e5]
  exact kSel_P (P := fun v => ∃ t, t ≤ 9 ∧ v = nI t) ⟨_, by omega, rfl⟩ ⟨_, by omega, rfl⟩ ⟨1, by omega, rfl⟩ ⟨0, by omega, rfl⟩ ⟨_, by omega, rfl⟩ ⟨_, by omega, rfl⟩
theorem hea_nat {s : St} (h : Inv s) (i : Nat) : ∃ t, t ≤ 9 ∧ hea s i = nI t := by
  obtain ⟨d, hd, ed⟩ := h.dr.nat (m := 9) (by omega)
  unfold hea
  have e1 : nI d / 3 = nI (d / 3) := pk_div (d := 3) (by omega) (by omega) (by omega)
  rw [ed, e1]
  exact kSel_P (P := fun v => ∃ t, t ≤ 9 ∧ v = nI t) ⟨1, by omega, rfl⟩ ⟨0, by omega, rfl⟩ ⟨2, by omega, rfl⟩ ⟨9, by omega, rfl⟩ ⟨_, by omega, rfl⟩ ⟨1, by omega, rfl⟩
theorem sN_burn1 (s : St) (k : Nat) : sN (burn1 s k) = sN s := by unfold burn1; split <;> rfl
theorem sN_burnN (s : St) : ∀ k, sN (burnN s k) = sN s
  | 0 => rfl
  | k + 1 => by rw [burnN, sN_burn1, sN_burnN s k]
theorem sN_tickN (s : St) : ∀ k, sN (tickN s k) = sN s
  | 0 => rfl
  | k + 1 => by rw [tickN]; exact sN_tickN s k
theorem sN_lgt1 (s : St) (h l : Int32) : sN (lgt1 s h l) = sN s := by unfold lgt1; split <;> rfl
theorem sN_lgtN (s : St) (a st l : Int32) : ∀ k, sN (lgtN s a st l k) = sN s
  | 0 => rfl
  | k + 1 => by rw [lgtN, sN_lgt1, sN_lgtN s a st l k]
theorem sN_lights (s : St) (i : Nat) : sN (lights s i) = sN s := sN_lgtN _ _ _ _ _
theorem sN_giv1 (s : St) (i j : Nat) : sN (giv1 s i j) = sN s := by unfold giv1; split <;> rfl
theorem sN_givN (s : St) (i : Nat) : ∀ k, sN (givN s i k) = sN s
  | 0 => rfl
  | k + 1 => by rw [givN, sN_giv1, sN_givN s i k]
theorem sN_goesOff (s : St) (i : Nat) : sN (goesOff s i) = sN s := by unfold goesOff; rw [sN_givN, sN_lights]; rfl
theorem sN_offN (s : St) (d : Int32) : ∀ k, sN (offN s d k) = sN s
  | 0 => rfl
  | k + 1 => by
    rw [offN]
    split
    · rw [sN_goesOff, sN_offN s d k]
    · exact sN_offN s d k
theorem sN_healN (s : St) : ∀ k, sN (healN s k) = sN s
  | 0 => rfl
  | k + 1 => by rw [healN]; exact sN_healN s k
theorem sN_ticked (s : St) : sN (ticked s) = sN s := by unfold ticked; rw [sN_tickN, sN_burnN]
theorem sN_minute (s : St) : sN (minute s) = sN s := by
  show sN (healN (offN (ticked s) (mdue s) (sN s)) (sN s)) = sN s
  rw [sN_healN, sN_offN, sN_ticked]
theorem sN_minN (s : St) : ∀ k, sN (minN s k) = sN s
  | 0 => rfl
  | k + 1 => by rw [minN, sN_minute, sN_minN s k]
theorem Inv.burn1 {s : St} (h : Inv s) (k : Nat) : Inv (burn1 s k) := by
  unfold Jvm.Pilot.@@N@@.burn1
  split
  · next hl =>
    obtain ⟨a, ha, ea⟩ := (h.la k).nat (m := 99) (by omega)
    obtain ⟨b, hb, eb⟩ := (h.re k).nat (m := 9999) (by omega)
    have ha0 : 0 < a := by
      rw [ea] at hl
      exact (nI_ltI (a := 0) (b := a) (by omega) (by omega)).mp hl
    refine Inv.pLa (Inv.pRe h (updR h.re ?_)) (updR h.la ?_)
    · have e : nI b + 1 = nI (b + 1) := nI_1 b
      rw [eb, e, show (9999 : Int32) = nI 9999 from rfl, mn_nI (by omega) (by omega)]
      refine inR_nI (m := 9999) ?_ (by omega)
      split <;> omega
    · rw [ea, show (1 : Int32) = nI 1 from rfl, pk_sub (by omega)]
      exact inR_nI (m := 99) (by omega) (by omega)
  · exact h
theorem Inv.burnN {s : St} (h : Inv s) : ∀ k, Inv (burnN s k)
  | 0 => h
  | k + 1 => (h.burnN k).burn1 k
theorem Inv.tick1 {s : St} (h : Inv s) (i : Nat) : Inv (tick1 s i) := by
  obtain ⟨a, ha, ea⟩ := (h.ti i).nat (m := 99) (by omega)
  obtain ⟨t, ht, et⟩ := tkl_nat h i
  refine Inv.pTi h (updR h.ti ?_)
  rw [ea, et, nI_add, show (99 : Int32) = nI 99 from rfl, mn_nI (by omega) (by omega)]
  refine inR_nI (m := 99) ?_ (by omega)
  split <;> omega
theorem Inv.tickN {s : St} (h : Inv s) : ∀ k, Inv (tickN s k)
  | 0 => h
  | k + 1 => (h.tickN k).tick1 k
theorem Inv.lgt1 {s : St} (h : Inv s) (a : Int32) {l : Int32} (hl : inR l 0 99) : Inv (lgt1 s a l) := by
  unfold Jvm.Pilot.@@N@@.lgt1
  split
  · refine Inv.pLa h (updR h.la ?_)
    unfold mx
    split
    · exact hl
    · exact h.la _
  · exact h
theorem Inv.lgtN {s : St} (h : Inv s) (a st : Int32) {l : Int32} (hl : inR l 0 99) : ∀ k, Inv (lgtN s a st l k)
  | 0 => h
  | k + 1 => (h.lgtN a st hl k).lgt1 _ hl
theorem light_in {s : St} (h : Inv s) (i : Nat) : inR (5 + sCo s i / 10) 0 99 := by
  obtain ⟨c, hc, ec⟩ := (h.co i).nat (m := 99) (by omega)
  have e1 : nI c / 10 = nI (c / 10) := pk_div (d := 10) (by omega) (by omega) (by omega)
  have e3 : 5 + nI (c / 10) = nI (5 + c / 10) := nI_add 5 _
  rw [ec, e1, e3]
  exact inR_nI (m := 99) (by omega) (by omega)
theorem Inv.lights {s : St} (h : Inv s) (i : Nat) : Inv (lights s i) := h.lgtN _ _ (light_in h i) _
theorem Inv.giv1 {s : St} (h : Inv s) (i j : Nat) : Inv (giv1 s i j) := by
  unfold Jvm.Pilot.@@N@@.giv1
  split
  · obtain ⟨c, hc, ec⟩ := (h.co j).nat (m := 99) (by omega)
    have e3 : nI c + 6 = nI (c + 6) := nI_add c 6
    refine Inv.pCo h (updR h.co ?_)
    rw [ec, e3, show (99 : Int32) = nI 99 from rfl, mn_nI (by omega) (by omega)]
    refine inR_nI (m := 99) ?_ (by omega)
    split <;> omega
  · exact h
theorem Inv.givN {s : St} (h : Inv s) (i : Nat) : ∀ k, Inv (givN s i k)
  | 0 => h
  | k + 1 => (h.givN i k).giv1 i k
theorem Inv.off1 {s : St} (h : Inv s) (i : Nat) : Inv (off1 s i) := by
  obtain ⟨b, hb, eb⟩ := (h.go i).nat (m := 9999) (by omega)
  refine Inv.pGo (Inv.pTi h (updR h.ti (by show inR 0 0 99; decide))) (updR h.go ?_)
  have e : nI b + 1 = nI (b + 1) := nI_1 b
  rw [eb, e, show (9999 : Int32) = nI 9999 from rfl, mn_nI (by omega) (by omega)]
  refine inR_nI (m := 9999) ?_ (by omega)
  split <;> omega
theorem Inv.goesOff {s : St} (h : Inv s) (i : Nat) : Inv (goesOff s i) := ((h.off1 i).lights i).givN i _
theorem Inv.offN {s : St} (h : Inv s) (d : Int32) : ∀ k, Inv (offN s d k)
  | 0 => h
  | k + 1 => by
    rw [Jvm.Pilot.@@N@@.offN]
    split
    · exact (h.offN d k).goesOff k
    · exact h.offN d k
theorem Inv.heal1 {s : St} (h : Inv s) (i : Nat) : Inv (heal1 s i) := by
  obtain ⟨c, hc, ec⟩ := (h.co i).nat (m := 99) (by omega)
  obtain ⟨t, ht, et⟩ := hea_nat h i
  refine Inv.pCo h (updR h.co ?_)
  rw [ec, et, mx_sub (by omega) (by omega)]
  exact inR_nI (m := 99) (by omega) (by omega)
theorem Inv.healN {s : St} (h : Inv s) : ∀ k, Inv (healN s k)
  | 0 => h
  | k + 1 => (h.healN k).heal1 k
theorem Inv.ticked {s : St} (h : Inv s) : Inv (ticked s) := (h.burnN 12).tickN _
theorem Inv.minute {s : St} (h : Inv s) : Inv (minute s) := ((h.ticked.offN _ _).healN _).pMi _
theorem Inv.minN {s : St} (h : Inv s) : ∀ k, Inv (minN s k)
  | 0 => h
  | k + 1 => (h.minN k).minute
end
