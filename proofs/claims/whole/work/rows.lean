section
-- ===== PART A: goes FIRST, ahead of the names: the tables' words, and 'selects' of the private methods out of them =====
/-- a private method of a class that the tables say can be made, by its rows of tables_1 -/
def lw_okq (q : MethodName × Nat) : Prop := (q.1.cls ≠ "java/lang/invoke/MethodHandle" ∧ q.1.cls ≠ "java/lang/invoke/VarHandle") ∧ Cond.instantiable q.1.cls q.2 ∈ tables_1 ∧ Cond.privateMethod q.1 ∈ tables_1 ∧ Cond.instanceMethod q.1 ∈ tables_1
theorem lw_p0 : lw_okq (⟨"NamedFountains", "found", "(I)I"⟩, 8) := ⟨⟨by decide +kernel, by decide +kernel⟩, List.mem_of_getElem? (i := 17) (by decide +kernel), List.mem_of_getElem? (i := 197) (by decide +kernel), List.mem_of_getElem? (i := 198) (by decide +kernel)⟩
theorem lw_p1 : lw_okq (⟨"NamedFountains$Fountain", "isStill", "()Z"⟩, 5) := ⟨⟨by decide +kernel, by decide +kernel⟩, List.mem_of_getElem? (i := 32) (by decide +kernel), List.mem_of_getElem? (i := 228) (by decide +kernel), List.mem_of_getElem? (i := 229) (by decide +kernel)⟩
theorem lw_p2 : lw_okq (⟨"NamedFountains$Fountain", "heardGoing", "()I"⟩, 5) := ⟨⟨by decide +kernel, by decide +kernel⟩, List.mem_of_getElem? (i := 32) (by decide +kernel), List.mem_of_getElem? (i := 232) (by decide +kernel), List.mem_of_getElem? (i := 233) (by decide +kernel)⟩
theorem lw_p3 : lw_okq (⟨"NamedFountains$Fountain", "usesGoing", "()I"⟩, 5) := ⟨⟨by decide +kernel, by decide +kernel⟩, List.mem_of_getElem? (i := 32) (by decide +kernel), List.mem_of_getElem? (i := 249) (by decide +kernel), List.mem_of_getElem? (i := 250) (by decide +kernel)⟩
theorem lw_p4 : lw_okq (⟨"NamedFountains$Town", "sendCommittee", "()V"⟩, 8) := ⟨⟨by decide +kernel, by decide +kernel⟩, List.mem_of_getElem? (i := 25) (by decide +kernel), List.mem_of_getElem? (i := 343) (by decide +kernel), List.mem_of_getElem? (i := 344) (by decide +kernel)⟩
theorem lw_p5 : lw_okq (⟨"NamedFountains$Town", "givesWayLeast", "()I"⟩, 8) := ⟨⟨by decide +kernel, by decide +kernel⟩, List.mem_of_getElem? (i := 25) (by decide +kernel), List.mem_of_getElem? (i := 353) (by decide +kernel), List.mem_of_getElem? (i := 354) (by decide +kernel)⟩
theorem lw_p6 : lw_okq (⟨"NamedFountains$Town", "letRun", "(LNamedFountains$Fountain;Z)V"⟩, 8) := ⟨⟨by decide +kernel, by decide +kernel⟩, List.mem_of_getElem? (i := 25) (by decide +kernel), List.mem_of_getElem? (i := 358) (by decide +kernel), List.mem_of_getElem? (i := 359) (by decide +kernel)⟩
theorem lw_p7 : lw_okq (⟨"NamedFountains$TextReader", "step", "()V"⟩, 6) := ⟨⟨by decide +kernel, by decide +kernel⟩, List.mem_of_getElem? (i := 119) (by decide +kernel), List.mem_of_getElem? (i := 470) (by decide +kernel), List.mem_of_getElem? (i := 471) (by decide +kernel)⟩
theorem lw_p8 : lw_okq (⟨"NamedFountains$TextReader", "byteAt", "(I)I"⟩, 6) := ⟨⟨by decide +kernel, by decide +kernel⟩, List.mem_of_getElem? (i := 119) (by decide +kernel), List.mem_of_getElem? (i := 474) (by decide +kernel), List.mem_of_getElem? (i := 475) (by decide +kernel)⟩
theorem lw_p9 : lw_okq (⟨"NamedFountains$TextReader", "takeItem", "(LNamedFountains$Town;)Z"⟩, 6) := ⟨⟨by decide +kernel, by decide +kernel⟩, List.mem_of_getElem? (i := 119) (by decide +kernel), List.mem_of_getElem? (i := 485) (by decide +kernel), List.mem_of_getElem? (i := 486) (by decide +kernel)⟩
theorem lw_p10 : lw_okq (⟨"NamedFountains$TextReader", "kindNamed", "()I"⟩, 6) := ⟨⟨by decide +kernel, by decide +kernel⟩, List.mem_of_getElem? (i := 119) (by decide +kernel), List.mem_of_getElem? (i := 489) (by decide +kernel), List.mem_of_getElem? (i := 490) (by decide +kernel)⟩
theorem lw_p11 : lw_okq (⟨"NamedFountains$TextReader", "isWord", "(Ljava/lang/String;)Z"⟩, 6) := ⟨⟨by decide +kernel, by decide +kernel⟩, List.mem_of_getElem? (i := 119) (by decide +kernel), List.mem_of_getElem? (i := 494) (by decide +kernel), List.mem_of_getElem? (i := 495) (by decide +kernel)⟩
theorem lw_p12 : lw_okq (⟨"NamedFountains$TextReader", "takeFountain", "(LNamedFountains$Town;I)Z"⟩, 6) := ⟨⟨by decide +kernel, by decide +kernel⟩, List.mem_of_getElem? (i := 119) (by decide +kernel), List.mem_of_getElem? (i := 551) (by decide +kernel), List.mem_of_getElem? (i := 552) (by decide +kernel)⟩
theorem lw_p13 : lw_okq (⟨"NamedFountains$TextReader", "takeWord", "(Ljava/lang/String;)Z"⟩, 6) := ⟨⟨by decide +kernel, by decide +kernel⟩, List.mem_of_getElem? (i := 119) (by decide +kernel), List.mem_of_getElem? (i := 558) (by decide +kernel), List.mem_of_getElem? (i := 559) (by decide +kernel)⟩
theorem lw_p14 : lw_okq (⟨"NamedFountains$TextReader", "takeNumber", "(II)Z"⟩, 6) := ⟨⟨by decide +kernel, by decide +kernel⟩, List.mem_of_getElem? (i := 119) (by decide +kernel), List.mem_of_getElem? (i := 562) (by decide +kernel), List.mem_of_getElem? (i := 563) (by decide +kernel)⟩
theorem lw_p15 : lw_okq (⟨"NamedFountains$TextReader", "takeRain", "(LNamedFountains$Town;)Z"⟩, 6) := ⟨⟨by decide +kernel, by decide +kernel⟩, List.mem_of_getElem? (i := 119) (by decide +kernel), List.mem_of_getElem? (i := 569) (by decide +kernel), List.mem_of_getElem? (i := 570) (by decide +kernel)⟩
def lw_privs_1 : List (MethodName × Nat) := [(⟨"NamedFountains", "found", "(I)I"⟩, 8), (⟨"NamedFountains$Fountain", "isStill", "()Z"⟩, 5), (⟨"NamedFountains$Fountain", "heardGoing", "()I"⟩, 5), (⟨"NamedFountains$Fountain", "usesGoing", "()I"⟩, 5), (⟨"NamedFountains$Town", "sendCommittee", "()V"⟩, 8), (⟨"NamedFountains$Town", "givesWayLeast", "()I"⟩, 8), (⟨"NamedFountains$Town", "letRun", "(LNamedFountains$Fountain;Z)V"⟩, 8), (⟨"NamedFountains$TextReader", "step", "()V"⟩, 6), (⟨"NamedFountains$TextReader", "byteAt", "(I)I"⟩, 6), (⟨"NamedFountains$TextReader", "takeItem", "(LNamedFountains$Town;)Z"⟩, 6), (⟨"NamedFountains$TextReader", "kindNamed", "()I"⟩, 6), (⟨"NamedFountains$TextReader", "isWord", "(Ljava/lang/String;)Z"⟩, 6), (⟨"NamedFountains$TextReader", "takeFountain", "(LNamedFountains$Town;I)Z"⟩, 6), (⟨"NamedFountains$TextReader", "takeWord", "(Ljava/lang/String;)Z"⟩, 6), (⟨"NamedFountains$TextReader", "takeNumber", "(II)Z"⟩, 6), (⟨"NamedFountains$TextReader", "takeRain", "(LNamedFountains$Town;)Z"⟩, 6)]
theorem lw_r1 : ∀ q ∈ lw_privs_1, lw_okq q := List.forall_mem_cons.mpr ⟨lw_p0, List.forall_mem_cons.mpr ⟨lw_p1, List.forall_mem_cons.mpr ⟨lw_p2, List.forall_mem_cons.mpr ⟨lw_p3, List.forall_mem_cons.mpr ⟨lw_p4, List.forall_mem_cons.mpr ⟨lw_p5, List.forall_mem_cons.mpr ⟨lw_p6, List.forall_mem_cons.mpr ⟨lw_p7, List.forall_mem_cons.mpr ⟨lw_p8, List.forall_mem_cons.mpr ⟨lw_p9, List.forall_mem_cons.mpr ⟨lw_p10, List.forall_mem_cons.mpr ⟨lw_p11, List.forall_mem_cons.mpr ⟨lw_p12, List.forall_mem_cons.mpr ⟨lw_p13, List.forall_mem_cons.mpr ⟨lw_p14, List.forall_mem_cons.mpr ⟨lw_p15, fun _ h => absurd h List.not_mem_nil⟩⟩⟩⟩⟩⟩⟩⟩⟩⟩⟩⟩⟩⟩⟩⟩
theorem lw_p16 : lw_okq (⟨"NamedFountains$TextReader", "takeFrost", "(LNamedFountains$Town;I)Z"⟩, 6) := ⟨⟨by decide +kernel, by decide +kernel⟩, List.mem_of_getElem? (i := 119) (by decide +kernel), List.mem_of_getElem? (i := 574) (by decide +kernel), List.mem_of_getElem? (i := 575) (by decide +kernel)⟩
theorem lw_p17 : lw_okq (⟨"NamedFountains", "askSheet", "(I)I"⟩, 8) := ⟨⟨by decide +kernel, by decide +kernel⟩, List.mem_of_getElem? (i := 17) (by decide +kernel), List.mem_of_getElem? (i := 602) (by decide +kernel), List.mem_of_getElem? (i := 603) (by decide +kernel)⟩
theorem lw_p18 : lw_okq (⟨"NamedFountainsModel", "becomes", "(II)I"⟩, 15) := ⟨⟨by decide +kernel, by decide +kernel⟩, List.mem_of_getElem? (i := 667) (by decide +kernel), List.mem_of_getElem? (i := 726) (by decide +kernel), List.mem_of_getElem? (i := 727) (by decide +kernel)⟩
theorem lw_p19 : lw_okq (⟨"NamedFountainsModel", "finds", "(I)I"⟩, 15) := ⟨⟨by decide +kernel, by decide +kernel⟩, List.mem_of_getElem? (i := 667) (by decide +kernel), List.mem_of_getElem? (i := 731) (by decide +kernel), List.mem_of_getElem? (i := 732) (by decide +kernel)⟩
theorem lw_p20 : lw_okq (⟨"NamedFountainsModel", "weekNow", "()I"⟩, 15) := ⟨⟨by decide +kernel, by decide +kernel⟩, List.mem_of_getElem? (i := 667) (by decide +kernel), List.mem_of_getElem? (i := 743) (by decide +kernel), List.mem_of_getElem? (i := 744) (by decide +kernel)⟩
theorem lw_p21 : lw_okq (⟨"NamedFountainsModel", "offOnes", "()I"⟩, 15) := ⟨⟨by decide +kernel, by decide +kernel⟩, List.mem_of_getElem? (i := 667) (by decide +kernel), List.mem_of_getElem? (i := 747) (by decide +kernel), List.mem_of_getElem? (i := 748) (by decide +kernel)⟩
theorem lw_p22 : lw_okq (⟨"NamedFountainsModel", "it", "(II)I"⟩, 15) := ⟨⟨by decide +kernel, by decide +kernel⟩, List.mem_of_getElem? (i := 667) (by decide +kernel), List.mem_of_getElem? (i := 751) (by decide +kernel), List.mem_of_getElem? (i := 752) (by decide +kernel)⟩
theorem lw_p23 : lw_okq (⟨"NamedFountainsModel", "noise", "()I"⟩, 15) := ⟨⟨by decide +kernel, by decide +kernel⟩, List.mem_of_getElem? (i := 667) (by decide +kernel), List.mem_of_getElem? (i := 755) (by decide +kernel), List.mem_of_getElem? (i := 756) (by decide +kernel)⟩
theorem lw_p24 : lw_okq (⟨"NamedFountainsModel", "heard", "(I)I"⟩, 15) := ⟨⟨by decide +kernel, by decide +kernel⟩, List.mem_of_getElem? (i := 667) (by decide +kernel), List.mem_of_getElem? (i := 759) (by decide +kernel), List.mem_of_getElem? (i := 760) (by decide +kernel)⟩
theorem lw_p25 : lw_okq (⟨"NamedFountainsModel", "isOff", "(I)Z"⟩, 15) := ⟨⟨by decide +kernel, by decide +kernel⟩, List.mem_of_getElem? (i := 667) (by decide +kernel), List.mem_of_getElem? (i := 763) (by decide +kernel), List.mem_of_getElem? (i := 764) (by decide +kernel)⟩
theorem lw_p26 : lw_okq (⟨"NamedFountainsModel", "allUses", "()I"⟩, 15) := ⟨⟨by decide +kernel, by decide +kernel⟩, List.mem_of_getElem? (i := 667) (by decide +kernel), List.mem_of_getElem? (i := 767) (by decide +kernel), List.mem_of_getElem? (i := 768) (by decide +kernel)⟩
theorem lw_p27 : lw_okq (⟨"NamedFountainsModel", "uses", "(I)I"⟩, 15) := ⟨⟨by decide +kernel, by decide +kernel⟩, List.mem_of_getElem? (i := 667) (by decide +kernel), List.mem_of_getElem? (i := 771) (by decide +kernel), List.mem_of_getElem? (i := 772) (by decide +kernel)⟩
theorem lw_p28 : lw_okq (⟨"NamedFountainsModel", "isCold", "()Z"⟩, 15) := ⟨⟨by decide +kernel, by decide +kernel⟩, List.mem_of_getElem? (i := 667) (by decide +kernel), List.mem_of_getElem? (i := 778) (by decide +kernel), List.mem_of_getElem? (i := 779) (by decide +kernel)⟩
theorem lw_p29 : lw_okq (⟨"NamedFountainsModel", "comesAs", "(IIII)I"⟩, 15) := ⟨⟨by decide +kernel, by decide +kernel⟩, List.mem_of_getElem? (i := 667) (by decide +kernel), List.mem_of_getElem? (i := 787) (by decide +kernel), List.mem_of_getElem? (i := 788) (by decide +kernel)⟩
theorem lw_p30 : lw_okq (⟨"NamedFountainsModel", "put", "(III)V"⟩, 15) := ⟨⟨by decide +kernel, by decide +kernel⟩, List.mem_of_getElem? (i := 667) (by decide +kernel), List.mem_of_getElem? (i := 791) (by decide +kernel), List.mem_of_getElem? (i := 792) (by decide +kernel)⟩
theorem lw_p31 : lw_okq (⟨"NamedFountainsModel", "isFountain", "(I)Z"⟩, 15) := ⟨⟨by decide +kernel, by decide +kernel⟩, List.mem_of_getElem? (i := 667) (by decide +kernel), List.mem_of_getElem? (i := 799) (by decide +kernel), List.mem_of_getElem? (i := 800) (by decide +kernel)⟩
def lw_privs_2 : List (MethodName × Nat) := [(⟨"NamedFountains$TextReader", "takeFrost", "(LNamedFountains$Town;I)Z"⟩, 6), (⟨"NamedFountains", "askSheet", "(I)I"⟩, 8), (⟨"NamedFountainsModel", "becomes", "(II)I"⟩, 15), (⟨"NamedFountainsModel", "finds", "(I)I"⟩, 15), (⟨"NamedFountainsModel", "weekNow", "()I"⟩, 15), (⟨"NamedFountainsModel", "offOnes", "()I"⟩, 15), (⟨"NamedFountainsModel", "it", "(II)I"⟩, 15), (⟨"NamedFountainsModel", "noise", "()I"⟩, 15), (⟨"NamedFountainsModel", "heard", "(I)I"⟩, 15), (⟨"NamedFountainsModel", "isOff", "(I)Z"⟩, 15), (⟨"NamedFountainsModel", "allUses", "()I"⟩, 15), (⟨"NamedFountainsModel", "uses", "(I)I"⟩, 15), (⟨"NamedFountainsModel", "isCold", "()Z"⟩, 15), (⟨"NamedFountainsModel", "comesAs", "(IIII)I"⟩, 15), (⟨"NamedFountainsModel", "put", "(III)V"⟩, 15), (⟨"NamedFountainsModel", "isFountain", "(I)Z"⟩, 15)]
theorem lw_r2 : ∀ q ∈ lw_privs_2, lw_okq q := List.forall_mem_cons.mpr ⟨lw_p16, List.forall_mem_cons.mpr ⟨lw_p17, List.forall_mem_cons.mpr ⟨lw_p18, List.forall_mem_cons.mpr ⟨lw_p19, List.forall_mem_cons.mpr ⟨lw_p20, List.forall_mem_cons.mpr ⟨lw_p21, List.forall_mem_cons.mpr ⟨lw_p22, List.forall_mem_cons.mpr ⟨lw_p23, List.forall_mem_cons.mpr ⟨lw_p24, List.forall_mem_cons.mpr ⟨lw_p25, List.forall_mem_cons.mpr ⟨lw_p26, List.forall_mem_cons.mpr ⟨lw_p27, List.forall_mem_cons.mpr ⟨lw_p28, List.forall_mem_cons.mpr ⟨lw_p29, List.forall_mem_cons.mpr ⟨lw_p30, List.forall_mem_cons.mpr ⟨lw_p31, fun _ h => absurd h List.not_mem_nil⟩⟩⟩⟩⟩⟩⟩⟩⟩⟩⟩⟩⟩⟩⟩⟩
theorem lw_p32 : lw_okq (⟨"NamedFountainsModel", "gains", "(I)I"⟩, 15) := ⟨⟨by decide +kernel, by decide +kernel⟩, List.mem_of_getElem? (i := 667) (by decide +kernel), List.mem_of_getElem? (i := 803) (by decide +kernel), List.mem_of_getElem? (i := 804) (by decide +kernel)⟩
theorem lw_p33 : lw_okq (⟨"NamedFountainsModel", "givesWay", "(I)I"⟩, 15) := ⟨⟨by decide +kernel, by decide +kernel⟩, List.mem_of_getElem? (i := 667) (by decide +kernel), List.mem_of_getElem? (i := 807) (by decide +kernel), List.mem_of_getElem? (i := 808) (by decide +kernel)⟩
theorem lw_p34 : lw_okq (⟨"NamedFountainsModel", "first", "(IZ)I"⟩, 15) := ⟨⟨by decide +kernel, by decide +kernel⟩, List.mem_of_getElem? (i := 667) (by decide +kernel), List.mem_of_getElem? (i := 831) (by decide +kernel), List.mem_of_getElem? (i := 832) (by decide +kernel)⟩
theorem lw_p35 : lw_okq (⟨"NamedFountainsModel", "orNone", "(I)I"⟩, 15) := ⟨⟨by decide +kernel, by decide +kernel⟩, List.mem_of_getElem? (i := 667) (by decide +kernel), List.mem_of_getElem? (i := 835) (by decide +kernel), List.mem_of_getElem? (i := 836) (by decide +kernel)⟩
theorem lw_p36 : lw_okq (⟨"NamedFountainsModel", "goesFor", "(I)V"⟩, 15) := ⟨⟨by decide +kernel, by decide +kernel⟩, List.mem_of_getElem? (i := 667) (by decide +kernel), List.mem_of_getElem? (i := 846) (by decide +kernel), List.mem_of_getElem? (i := 847) (by decide +kernel)⟩
theorem lw_p37 : lw_okq (⟨"NamedFountainsModel", "goes", "()V"⟩, 15) := ⟨⟨by decide +kernel, by decide +kernel⟩, List.mem_of_getElem? (i := 667) (by decide +kernel), List.mem_of_getElem? (i := 850) (by decide +kernel), List.mem_of_getElem? (i := 851) (by decide +kernel)⟩
theorem lw_p38 : lw_okq (⟨"NamedFountainsModel", "committee", "()V"⟩, 15) := ⟨⟨by decide +kernel, by decide +kernel⟩, List.mem_of_getElem? (i := 667) (by decide +kernel), List.mem_of_getElem? (i := 854) (by decide +kernel), List.mem_of_getElem? (i := 855) (by decide +kernel)⟩
theorem lw_p39 : lw_okq (⟨"NamedFountainsModel", "turnsOff", "(I)V"⟩, 15) := ⟨⟨by decide +kernel, by decide +kernel⟩, List.mem_of_getElem? (i := 667) (by decide +kernel), List.mem_of_getElem? (i := 858) (by decide +kernel), List.mem_of_getElem? (i := 859) (by decide +kernel)⟩
theorem lw_p40 : lw_okq (⟨"NamedFountainsModel", "flows", "(I)V"⟩, 15) := ⟨⟨by decide +kernel, by decide +kernel⟩, List.mem_of_getElem? (i := 667) (by decide +kernel), List.mem_of_getElem? (i := 862) (by decide +kernel), List.mem_of_getElem? (i := 863) (by decide +kernel)⟩
theorem lw_p41 : lw_okq (⟨"NamedFountainsModel", "thinks", "()V"⟩, 15) := ⟨⟨by decide +kernel, by decide +kernel⟩, List.mem_of_getElem? (i := 667) (by decide +kernel), List.mem_of_getElem? (i := 870) (by decide +kernel), List.mem_of_getElem? (i := 871) (by decide +kernel)⟩
theorem lw_p42 : lw_okq (⟨"NamedFountainsModel", "putsBack", "()V"⟩, 15) := ⟨⟨by decide +kernel, by decide +kernel⟩, List.mem_of_getElem? (i := 667) (by decide +kernel), List.mem_of_getElem? (i := 877) (by decide +kernel), List.mem_of_getElem? (i := 878) (by decide +kernel)⟩
theorem lw_p43 : lw_okq (⟨"NamedFountainsModel", "offIn", "(I)I"⟩, 15) := ⟨⟨by decide +kernel, by decide +kernel⟩, List.mem_of_getElem? (i := 667) (by decide +kernel), List.mem_of_getElem? (i := 893) (by decide +kernel), List.mem_of_getElem? (i := 894) (by decide +kernel)⟩
theorem lw_p44 : lw_okq (⟨"NamedFountainsModel", "staysUp", "(II)Z"⟩, 15) := ⟨⟨by decide +kernel, by decide +kernel⟩, List.mem_of_getElem? (i := 667) (by decide +kernel), List.mem_of_getElem? (i := 909) (by decide +kernel), List.mem_of_getElem? (i := 910) (by decide +kernel)⟩
theorem lw_p45 : lw_okq (⟨"NamedFountainsModel", "allStooped", "()I"⟩, 15) := ⟨⟨by decide +kernel, by decide +kernel⟩, List.mem_of_getElem? (i := 667) (by decide +kernel), List.mem_of_getElem? (i := 929) (by decide +kernel), List.mem_of_getElem? (i := 930) (by decide +kernel)⟩
theorem lw_p46 : lw_okq (⟨"NamedFountainsModel", "stoopedOn", "(I)I"⟩, 15) := ⟨⟨by decide +kernel, by decide +kernel⟩, List.mem_of_getElem? (i := 667) (by decide +kernel), List.mem_of_getElem? (i := 933) (by decide +kernel), List.mem_of_getElem? (i := 934) (by decide +kernel)⟩
theorem lw_p47 : lw_okq (⟨"NamedFountainsModel", "reads", "()V"⟩, 15) := ⟨⟨by decide +kernel, by decide +kernel⟩, List.mem_of_getElem? (i := 667) (by decide +kernel), List.mem_of_getElem? (i := 953) (by decide +kernel), List.mem_of_getElem? (i := 954) (by decide +kernel)⟩
def lw_privs_3 : List (MethodName × Nat) := [(⟨"NamedFountainsModel", "gains", "(I)I"⟩, 15), (⟨"NamedFountainsModel", "givesWay", "(I)I"⟩, 15), (⟨"NamedFountainsModel", "first", "(IZ)I"⟩, 15), (⟨"NamedFountainsModel", "orNone", "(I)I"⟩, 15), (⟨"NamedFountainsModel", "goesFor", "(I)V"⟩, 15), (⟨"NamedFountainsModel", "goes", "()V"⟩, 15), (⟨"NamedFountainsModel", "committee", "()V"⟩, 15), (⟨"NamedFountainsModel", "turnsOff", "(I)V"⟩, 15), (⟨"NamedFountainsModel", "flows", "(I)V"⟩, 15), (⟨"NamedFountainsModel", "thinks", "()V"⟩, 15), (⟨"NamedFountainsModel", "putsBack", "()V"⟩, 15), (⟨"NamedFountainsModel", "offIn", "(I)I"⟩, 15), (⟨"NamedFountainsModel", "staysUp", "(II)Z"⟩, 15), (⟨"NamedFountainsModel", "allStooped", "()I"⟩, 15), (⟨"NamedFountainsModel", "stoopedOn", "(I)I"⟩, 15), (⟨"NamedFountainsModel", "reads", "()V"⟩, 15)]
theorem lw_r3 : ∀ q ∈ lw_privs_3, lw_okq q := List.forall_mem_cons.mpr ⟨lw_p32, List.forall_mem_cons.mpr ⟨lw_p33, List.forall_mem_cons.mpr ⟨lw_p34, List.forall_mem_cons.mpr ⟨lw_p35, List.forall_mem_cons.mpr ⟨lw_p36, List.forall_mem_cons.mpr ⟨lw_p37, List.forall_mem_cons.mpr ⟨lw_p38, List.forall_mem_cons.mpr ⟨lw_p39, List.forall_mem_cons.mpr ⟨lw_p40, List.forall_mem_cons.mpr ⟨lw_p41, List.forall_mem_cons.mpr ⟨lw_p42, List.forall_mem_cons.mpr ⟨lw_p43, List.forall_mem_cons.mpr ⟨lw_p44, List.forall_mem_cons.mpr ⟨lw_p45, List.forall_mem_cons.mpr ⟨lw_p46, List.forall_mem_cons.mpr ⟨lw_p47, fun _ h => absurd h List.not_mem_nil⟩⟩⟩⟩⟩⟩⟩⟩⟩⟩⟩⟩⟩⟩⟩⟩
theorem lw_p48 : lw_okq (⟨"NamedFountainsModel", "isByte", "(III)Z"⟩, 15) := ⟨⟨by decide +kernel, by decide +kernel⟩, List.mem_of_getElem? (i := 667) (by decide +kernel), List.mem_of_getElem? (i := 957) (by decide +kernel), List.mem_of_getElem? (i := 958) (by decide +kernel)⟩
theorem lw_p49 : lw_okq (⟨"NamedFountainsModel", "wordHere", "()I"⟩, 15) := ⟨⟨by decide +kernel, by decide +kernel⟩, List.mem_of_getElem? (i := 667) (by decide +kernel), List.mem_of_getElem? (i := 961) (by decide +kernel), List.mem_of_getElem? (i := 962) (by decide +kernel)⟩
theorem lw_p50 : lw_okq (⟨"NamedFountainsModel", "isName", "(II)Z"⟩, 15) := ⟨⟨by decide +kernel, by decide +kernel⟩, List.mem_of_getElem? (i := 667) (by decide +kernel), List.mem_of_getElem? (i := 965) (by decide +kernel), List.mem_of_getElem? (i := 966) (by decide +kernel)⟩
theorem lw_p51 : lw_okq (⟨"NamedFountainsModel", "item", "()V"⟩, 15) := ⟨⟨by decide +kernel, by decide +kernel⟩, List.mem_of_getElem? (i := 667) (by decide +kernel), List.mem_of_getElem? (i := 971) (by decide +kernel), List.mem_of_getElem? (i := 972) (by decide +kernel)⟩
theorem lw_p52 : lw_okq (⟨"NamedFountainsModel", "fountainItem", "()V"⟩, 15) := ⟨⟨by decide +kernel, by decide +kernel⟩, List.mem_of_getElem? (i := 667) (by decide +kernel), List.mem_of_getElem? (i := 975) (by decide +kernel), List.mem_of_getElem? (i := 976) (by decide +kernel)⟩
theorem lw_p53 : lw_okq (⟨"NamedFountainsModel", "perhaps", "(IIII)I"⟩, 15) := ⟨⟨by decide +kernel, by decide +kernel⟩, List.mem_of_getElem? (i := 667) (by decide +kernel), List.mem_of_getElem? (i := 979) (by decide +kernel), List.mem_of_getElem? (i := 980) (by decide +kernel)⟩
theorem lw_p54 : lw_okq (⟨"NamedFountainsModel", "passes", "(I)Z"⟩, 15) := ⟨⟨by decide +kernel, by decide +kernel⟩, List.mem_of_getElem? (i := 667) (by decide +kernel), List.mem_of_getElem? (i := 983) (by decide +kernel), List.mem_of_getElem? (i := 984) (by decide +kernel)⟩
theorem lw_p55 : lw_okq (⟨"NamedFountainsModel", "number", "(II)I"⟩, 15) := ⟨⟨by decide +kernel, by decide +kernel⟩, List.mem_of_getElem? (i := 667) (by decide +kernel), List.mem_of_getElem? (i := 987) (by decide +kernel), List.mem_of_getElem? (i := 988) (by decide +kernel)⟩
theorem lw_p56 : lw_okq (⟨"NamedFountainsModel", "rainItem", "()V"⟩, 15) := ⟨⟨by decide +kernel, by decide +kernel⟩, List.mem_of_getElem? (i := 667) (by decide +kernel), List.mem_of_getElem? (i := 991) (by decide +kernel), List.mem_of_getElem? (i := 992) (by decide +kernel)⟩
theorem lw_p57 : lw_okq (⟨"NamedFountainsModel", "coldItem", "()V"⟩, 15) := ⟨⟨by decide +kernel, by decide +kernel⟩, List.mem_of_getElem? (i := 667) (by decide +kernel), List.mem_of_getElem? (i := 995) (by decide +kernel), List.mem_of_getElem? (i := 996) (by decide +kernel)⟩
theorem lw_p58 : lw_okq (⟨"NamedFountainsModel", "notThere", "(I)I"⟩, 15) := ⟨⟨by decide +kernel, by decide +kernel⟩, List.mem_of_getElem? (i := 667) (by decide +kernel), List.mem_of_getElem? (i := 1011) (by decide +kernel), List.mem_of_getElem? (i := 1012) (by decide +kernel)⟩
theorem lw_p59 : lw_okq (⟨"NamedFountainsModel", "notCopied", "(IIIII)I"⟩, 15) := ⟨⟨by decide +kernel, by decide +kernel⟩, List.mem_of_getElem? (i := 667) (by decide +kernel), List.mem_of_getElem? (i := 1023) (by decide +kernel), List.mem_of_getElem? (i := 1024) (by decide +kernel)⟩
theorem lw_p60 : lw_okq (⟨"NamedFountainsModel", "isBook", "(I)Z"⟩, 15) := ⟨⟨by decide +kernel, by decide +kernel⟩, List.mem_of_getElem? (i := 667) (by decide +kernel), List.mem_of_getElem? (i := 1039) (by decide +kernel), List.mem_of_getElem? (i := 1040) (by decide +kernel)⟩
def lw_privs_4 : List (MethodName × Nat) := [(⟨"NamedFountainsModel", "isByte", "(III)Z"⟩, 15), (⟨"NamedFountainsModel", "wordHere", "()I"⟩, 15), (⟨"NamedFountainsModel", "isName", "(II)Z"⟩, 15), (⟨"NamedFountainsModel", "item", "()V"⟩, 15), (⟨"NamedFountainsModel", "fountainItem", "()V"⟩, 15), (⟨"NamedFountainsModel", "perhaps", "(IIII)I"⟩, 15), (⟨"NamedFountainsModel", "passes", "(I)Z"⟩, 15), (⟨"NamedFountainsModel", "number", "(II)I"⟩, 15), (⟨"NamedFountainsModel", "rainItem", "()V"⟩, 15), (⟨"NamedFountainsModel", "coldItem", "()V"⟩, 15), (⟨"NamedFountainsModel", "notThere", "(I)I"⟩, 15), (⟨"NamedFountainsModel", "notCopied", "(IIIII)I"⟩, 15), (⟨"NamedFountainsModel", "isBook", "(I)Z"⟩, 15)]
theorem lw_r4 : ∀ q ∈ lw_privs_4, lw_okq q := List.forall_mem_cons.mpr ⟨lw_p48, List.forall_mem_cons.mpr ⟨lw_p49, List.forall_mem_cons.mpr ⟨lw_p50, List.forall_mem_cons.mpr ⟨lw_p51, List.forall_mem_cons.mpr ⟨lw_p52, List.forall_mem_cons.mpr ⟨lw_p53, List.forall_mem_cons.mpr ⟨lw_p54, List.forall_mem_cons.mpr ⟨lw_p55, List.forall_mem_cons.mpr ⟨lw_p56, List.forall_mem_cons.mpr ⟨lw_p57, List.forall_mem_cons.mpr ⟨lw_p58, List.forall_mem_cons.mpr ⟨lw_p59, List.forall_mem_cons.mpr ⟨lw_p60, fun _ h => absurd h List.not_mem_nil⟩⟩⟩⟩⟩⟩⟩⟩⟩⟩⟩⟩⟩
def lw_privs : List (MethodName × Nat) := lw_privs_1 ++ (lw_privs_2 ++ (lw_privs_3 ++ (lw_privs_4)))
def lw_tbl : List Cond := k2_sels lw_privs ++ tables_1
theorem lw_privs_ok : ∀ q ∈ lw_privs, lw_okq q := by
  show ∀ q ∈ lw_privs_1 ++ (lw_privs_2 ++ (lw_privs_3 ++ (lw_privs_4))), lw_okq q
  exact List.forall_mem_append.mpr ⟨lw_r1, List.forall_mem_append.mpr ⟨lw_r2, List.forall_mem_append.mpr ⟨lw_r3, lw_r4⟩⟩⟩
end
section
def RX0 : String := "NamedFountains$Fountain"
def TX0 : u_T := fun k => match k with
  | 0 => ("NamedFountains$Fountain", "kind", "I", false)
  | 1 => ("NamedFountains$Fountain", "high", "I", false)
  | 2 => ("NamedFountains$Fountain", "off", "I", false)
  | 3 => ("NamedFountains$Fountain", "loved", "I", false)
  | _ => ("NamedFountains$Fountain", "stooped", "I", false)
def tyX0 : Nat → FieldType := fun k => match k with
  | 0 => .int
  | 1 => .int
  | 2 => .int
  | 3 => .int
  | _ => .int
theorem nmX0 : ∀ a, a < 5 → ∀ b, b < 5 → a ≠ b → (TX0 a).2.1 ≠ (TX0 b).2.1 := by decide +kernel
theorem tyX0_ok : ∀ k, k < 5 → parseFieldDescriptor (TX0 k).2.2.1 = some (tyX0 k) := by decide +kernel
abbrev cX0_init : ByteArray := prog_2_method_1_code
def yX0_init : MethodName := ⟨RX0, "<init>", "()V"⟩
abbrev cX0_begin : ByteArray := prog_2_method_2_code
def yX0_begin : MethodName := ⟨RX0, "begin", "(I)V"⟩
abbrev cX0_become : ByteArray := prog_2_method_3_code
def yX0_become : MethodName := ⟨RX0, "become", "(LNamedFountains$Fountain;)V"⟩
abbrev cX0_isStill : ByteArray := prog_2_method_4_code
def yX0_isStill : MethodName := ⟨RX0, "isStill", "()Z"⟩
abbrev cX0_uses : ByteArray := prog_2_method_5_code
def yX0_uses : MethodName := ⟨RX0, "uses", "(Z)I"⟩
abbrev cX0_usesGoing : ByteArray := prog_2_method_6_code
def yX0_usesGoing : MethodName := ⟨RX0, "usesGoing", "()I"⟩
abbrev cX0_heard : ByteArray := prog_2_method_7_code
def yX0_heard : MethodName := ⟨RX0, "heard", "()I"⟩
abbrev cX0_heardGoing : ByteArray := prog_2_method_8_code
def yX0_heardGoing : MethodName := ⟨RX0, "heardGoing", "()I"⟩
abbrev cX0_gains : ByteArray := prog_2_method_9_code
def yX0_gains : MethodName := ⟨RX0, "gains", "(Z)I"⟩
abbrev cX0_givesWay : ByteArray := prog_2_method_10_code
def yX0_givesWay : MethodName := ⟨RX0, "givesWay", "()I"⟩
abbrev cX0_stoop : ByteArray := prog_2_method_11_code
def yX0_stoop : MethodName := ⟨RX0, "stoop", "()V"⟩
abbrev cX0_endDay : ByteArray := prog_2_method_12_code
def yX0_endDay : MethodName := ⟨RX0, "endDay", "(Z)V"⟩
def RX1 : String := "NamedFountains$Sheet"
def TX1 : u_T := fun k => match k with
  | 0 => ("NamedFountains$Sheet", "bits", "I", false)
  | 1 => ("NamedFountains$Sheet", "length", "I", false)
  | _ => ("NamedFountains$Sheet", "numbers", "[J", true)
def tyX1 : Nat → FieldType := fun k => match k with
  | 0 => .int
  | 1 => .int
  | _ => .array .long
theorem nmX1 : ∀ a, a < 3 → ∀ b, b < 3 → a ≠ b → (TX1 a).2.1 ≠ (TX1 b).2.1 := by decide +kernel
theorem tyX1_ok : ∀ k, k < 3 → parseFieldDescriptor (TX1 k).2.2.1 = some (tyX1 k) := by decide +kernel
abbrev cX1_init : ByteArray := prog_3_method_1_code
def yX1_init : MethodName := ⟨RX1, "<init>", "()V"⟩
abbrev cX1_isMissing : ByteArray := prog_3_method_2_code
def yX1_isMissing : MethodName := ⟨RX1, "isMissing", "()Z"⟩
abbrev cX1_lay : ByteArray := prog_3_method_3_code
def yX1_lay : MethodName := ⟨RX1, "lay", "(II)V"⟩
abbrev cX1_hasFrom : ByteArray := prog_3_method_4_code
def yX1_hasFrom : MethodName := ⟨RX1, "hasFrom", "(II)Z"⟩
abbrev cX1_put : ByteArray := prog_3_method_5_code
def yX1_put : MethodName := ⟨RX1, "put", "(IJ)V"⟩
def RX2 : String := "NamedFountains$Tape"
def TX2 : u_T := fun k => match k with
  | 0 => ("NamedFountains$Tape", "bytes", "[I", true)
  | _ => ("NamedFountains$Tape", "length", "I", false)
def tyX2 : Nat → FieldType := fun k => match k with
  | 0 => .array .int
  | _ => .int
theorem nmX2 : ∀ a, a < 2 → ∀ b, b < 2 → a ≠ b → (TX2 a).2.1 ≠ (TX2 b).2.1 := by decide +kernel
theorem tyX2_ok : ∀ k, k < 2 → parseFieldDescriptor (TX2 k).2.2.1 = some (tyX2 k) := by decide +kernel
abbrev cX2_init : ByteArray := prog_4_method_1_code
def yX2_init : MethodName := ⟨RX2, "<init>", "()V"⟩
abbrev cX2_add : ByteArray := prog_4_method_2_code
def yX2_add : MethodName := ⟨RX2, "add", "(I)V"⟩
def RX3 : String := "NamedFountains$TextReader"
def TX3 : u_T := fun k => match k with
  | 0 => ("NamedFountains$TextReader", "tape", "LNamedFountains$Tape;", true)
  | 1 => ("NamedFountains$TextReader", "sort", "I", false)
  | 2 => ("NamedFountains$TextReader", "start", "I", false)
  | 3 => ("NamedFountains$TextReader", "end", "I", false)
  | 4 => ("NamedFountains$TextReader", "number", "I", false)
  | _ => ("NamedFountains$TextReader", "taken", "I", false)
def tyX3 : Nat → FieldType := fun k => match k with
  | 0 => .object "NamedFountains$Tape"
  | 1 => .int
  | 2 => .int
  | 3 => .int
  | 4 => .int
  | _ => .int
theorem nmX3 : ∀ a, a < 6 → ∀ b, b < 6 → a ≠ b → (TX3 a).2.1 ≠ (TX3 b).2.1 := by decide +kernel
theorem tyX3_ok : ∀ k, k < 6 → parseFieldDescriptor (TX3 k).2.2.1 = some (tyX3 k) := by decide +kernel
abbrev cX3_init : ByteArray := prog_5_method_1_code
def yX3_init : MethodName := ⟨RX3, "<init>", "(LNamedFountains$Tape;)V"⟩
abbrev cX3_readInto : ByteArray := prog_5_method_2_code
def yX3_readInto : MethodName := ⟨RX3, "readInto", "(LNamedFountains$Town;)I"⟩
abbrev cX3_takeItem : ByteArray := prog_5_method_3_code
def yX3_takeItem : MethodName := ⟨RX3, "takeItem", "(LNamedFountains$Town;)Z"⟩
abbrev cX3_kindNamed : ByteArray := prog_5_method_4_code
def yX3_kindNamed : MethodName := ⟨RX3, "kindNamed", "()I"⟩
abbrev cX3_takeFountain : ByteArray := prog_5_method_5_code
def yX3_takeFountain : MethodName := ⟨RX3, "takeFountain", "(LNamedFountains$Town;I)Z"⟩
abbrev cX3_takeRain : ByteArray := prog_5_method_6_code
def yX3_takeRain : MethodName := ⟨RX3, "takeRain", "(LNamedFountains$Town;)Z"⟩
abbrev cX3_takeFrost : ByteArray := prog_5_method_7_code
def yX3_takeFrost : MethodName := ⟨RX3, "takeFrost", "(LNamedFountains$Town;I)Z"⟩
abbrev cX3_takeWord : ByteArray := prog_5_method_8_code
def yX3_takeWord : MethodName := ⟨RX3, "takeWord", "(Ljava/lang/String;)Z"⟩
abbrev cX3_takeNumber : ByteArray := prog_5_method_9_code
def yX3_takeNumber : MethodName := ⟨RX3, "takeNumber", "(II)Z"⟩
abbrev cX3_isWord : ByteArray := prog_5_method_10_code
def yX3_isWord : MethodName := ⟨RX3, "isWord", "(Ljava/lang/String;)Z"⟩
abbrev cX3_step : ByteArray := prog_5_method_11_code
def yX3_step : MethodName := ⟨RX3, "step", "()V"⟩
abbrev cX3_byteAt : ByteArray := prog_5_method_12_code
def yX3_byteAt : MethodName := ⟨RX3, "byteAt", "(I)I"⟩
abbrev cX3_isLetter : ByteArray := prog_5_method_13_code
def yX3_isLetter : MethodName := ⟨RX3, "isLetter", "(I)Z"⟩
abbrev cX3_isDigit : ByteArray := prog_5_method_14_code
def yX3_isDigit : MethodName := ⟨RX3, "isDigit", "(I)Z"⟩
def RX4 : String := "NamedFountains$Town"
def TX4 : u_T := fun k => match k with
  | 0 => ("NamedFountains$Town", "day", "I", false)
  | 1 => ("NamedFountains$Town", "tank", "I", false)
  | 2 => ("NamedFountains$Town", "drought", "I", false)
  | 3 => ("NamedFountains$Town", "plenty", "I", false)
  | 4 => ("NamedFountains$Town", "rains", "[I", true)
  | 5 => ("NamedFountains$Town", "colds", "[I", true)
  | 6 => ("NamedFountains$Town", "row", "[LNamedFountains$Fountain;", true)
  | _ => ("NamedFountains$Town", "size", "I", false)
def tyX4 : Nat → FieldType := fun k => match k with
  | 0 => .int
  | 1 => .int
  | 2 => .int
  | 3 => .int
  | 4 => .array .int
  | 5 => .array .int
  | 6 => .array (.object "NamedFountains$Fountain")
  | _ => .int
theorem nmX4 : ∀ a, a < 8 → ∀ b, b < 8 → a ≠ b → (TX4 a).2.1 ≠ (TX4 b).2.1 := by decide +kernel
theorem tyX4_ok : ∀ k, k < 8 → parseFieldDescriptor (TX4 k).2.2.1 = some (tyX4 k) := by decide +kernel
abbrev cX4_init : ByteArray := prog_6_method_1_code
def yX4_init : MethodName := ⟨RX4, "<init>", "()V"⟩
abbrev cX4_become : ByteArray := prog_6_method_2_code
def yX4_become : MethodName := ⟨RX4, "become", "(LNamedFountains$Town;)V"⟩
abbrev cX4_has : ByteArray := prog_6_method_3_code
def yX4_has : MethodName := ⟨RX4, "has", "(I)Z"⟩
abbrev cX4_addOne : ByteArray := prog_6_method_4_code
def yX4_addOne : MethodName := ⟨RX4, "addOne", "(I)I"⟩
abbrev cX4_weekOfDay : ByteArray := prog_6_method_5_code
def yX4_weekOfDay : MethodName := ⟨RX4, "weekOfDay", "()I"⟩
abbrev cX4_isCold : ByteArray := prog_6_method_6_code
def yX4_isCold : MethodName := ⟨RX4, "isCold", "()Z"⟩
abbrev cX4_setOfOff : ByteArray := prog_6_method_7_code
def yX4_setOfOff : MethodName := ⟨RX4, "setOfOff", "()I"⟩
abbrev cX4_noise : ByteArray := prog_6_method_8_code
def yX4_noise : MethodName := ⟨RX4, "noise", "()I"⟩
abbrev cX4_usesTogether : ByteArray := prog_6_method_9_code
def yX4_usesTogether : MethodName := ⟨RX4, "usesTogether", "()I"⟩
abbrev cX4_stoopedTogether : ByteArray := prog_6_method_10_code
def yX4_stoopedTogether : MethodName := ⟨RX4, "stoopedTogether", "()I"⟩
abbrev cX4_givesWayMost : ByteArray := prog_6_method_11_code
def yX4_givesWayMost : MethodName := ⟨RX4, "givesWayMost", "()I"⟩
abbrev cX4_givesWayLeast : ByteArray := prog_6_method_12_code
def yX4_givesWayLeast : MethodName := ⟨RX4, "givesWayLeast", "()I"⟩
abbrev cX4_passDays : ByteArray := prog_6_method_13_code
def yX4_passDays : MethodName := ⟨RX4, "passDays", "(I)V"⟩
abbrev cX4_passDay : ByteArray := prog_6_method_14_code
def yX4_passDay : MethodName := ⟨RX4, "passDay", "()V"⟩
abbrev cX4_sendCommittee : ByteArray := prog_6_method_15_code
def yX4_sendCommittee : MethodName := ⟨RX4, "sendCommittee", "()V"⟩
abbrev cX4_letRun : ByteArray := prog_6_method_16_code
def yX4_letRun : MethodName := ⟨RX4, "letRun", "(LNamedFountains$Fountain;Z)V"⟩
abbrev cX4_daysTillOff : ByteArray := prog_6_method_17_code
def yX4_daysTillOff : MethodName := ⟨RX4, "daysTillOff", "(I)I"⟩
abbrev cX4_letsGo : ByteArray := prog_6_method_18_code
def yX4_letsGo : MethodName := ⟨RX4, "letsGo", "(II)Z"⟩
abbrev cX4_letsAllGo : ByteArray := prog_6_method_19_code
def yX4_letsAllGo : MethodName := ⟨RX4, "letsAllGo", "(I)Z"⟩
abbrev cX4_goesBy : ByteArray := prog_6_method_20_code
def yX4_goesBy : MethodName := ⟨RX4, "goesBy", "(LNamedFountains$Sheet;)Z"⟩
def RX5 : String := "NamedFountains"
def TX5 : u_T := fun k => match k with
  | 0 => ("NamedFountains", "here", "LNamedFountains$Town;", true)
  | 1 => ("NamedFountains", "trial", "LNamedFountains$Town;", true)
  | 2 => ("NamedFountains", "kept", "LNamedFountains$Town;", true)
  | 3 => ("NamedFountains", "keeps", "Z", false)
  | 4 => ("NamedFountains", "tape", "LNamedFountains$Tape;", true)
  | 5 => ("NamedFountains", "reader", "LNamedFountains$TextReader;", true)
  | 6 => ("NamedFountains", "sheets", "[LNamedFountains$Sheet;", true)
  | _ => ("NamedFountains", "tally", "[I", true)
def tyX5 : Nat → FieldType := fun k => match k with
  | 0 => .object "NamedFountains$Town"
  | 1 => .object "NamedFountains$Town"
  | 2 => .object "NamedFountains$Town"
  | 3 => .boolean
  | 4 => .object "NamedFountains$Tape"
  | 5 => .object "NamedFountains$TextReader"
  | 6 => .array (.object "NamedFountains$Sheet")
  | _ => .array .int
theorem nmX5 : ∀ a, a < 8 → ∀ b, b < 8 → a ≠ b → (TX5 a).2.1 ≠ (TX5 b).2.1 := by decide +kernel
theorem tyX5_ok : ∀ k, k < 8 → parseFieldDescriptor (TX5 k).2.2.1 = some (tyX5 k) := by decide +kernel
abbrev cX5_init : ByteArray := prog_1_method_1_code
def yX5_init : MethodName := ⟨RX5, "<init>", "()V"⟩
abbrev cX5_water : ByteArray := prog_1_method_2_code
def yX5_water : MethodName := ⟨RX5, "water", "(II)I"⟩
abbrev cX5_week : ByteArray := prog_1_method_3_code
def yX5_week : MethodName := ⟨RX5, "week", "(III)I"⟩
abbrev cX5_now : ByteArray := prog_1_method_4_code
def yX5_now : MethodName := ⟨RX5, "now", "(I)I"⟩
abbrev cX5_fountain : ByteArray := prog_1_method_5_code
def yX5_fountain : MethodName := ⟨RX5, "fountain", "(I)I"⟩
abbrev cX5_of : ByteArray := prog_1_method_6_code
def yX5_of : MethodName := ⟨RX5, "of", "(II)I"⟩
abbrev cX5_set : ByteArray := prog_1_method_7_code
def yX5_set : MethodName := ⟨RX5, "set", "(III)I"⟩
abbrev cX5_turn : ByteArray := prog_1_method_8_code
def yX5_turn : MethodName := ⟨RX5, "turn", "(II)I"⟩
abbrev cX5_as : ByteArray := prog_1_method_9_code
def yX5_as : MethodName := ⟨RX5, "as", "(II)I"⟩
abbrev cX5_next : ByteArray := prog_1_method_10_code
def yX5_next : MethodName := ⟨RX5, "next", "()I"⟩
abbrev cX5_days : ByteArray := prog_1_method_11_code
def yX5_days : MethodName := ⟨RX5, "days", "(I)I"⟩
abbrev cX5_on : ByteArray := prog_1_method_12_code
def yX5_on : MethodName := ⟨RX5, "on", "(II)I"⟩
abbrev cX5_then : ByteArray := prog_1_method_13_code
def yX5_then : MethodName := ⟨RX5, "then", "(III)I"⟩
abbrev cX5_falls : ByteArray := prog_1_method_14_code
def yX5_falls : MethodName := ⟨RX5, "falls", "(I)I"⟩
abbrev cX5_off : ByteArray := prog_1_method_15_code
def yX5_off : MethodName := ⟨RX5, "off", "(I)I"⟩
abbrev cX5_quiet : ByteArray := prog_1_method_16_code
def yX5_quiet : MethodName := ⟨RX5, "quiet", "()I"⟩
abbrev cX5_best : ByteArray := prog_1_method_17_code
def yX5_best : MethodName := ⟨RX5, "best", "(I)I"⟩
abbrev cX5_high : ByteArray := prog_1_method_18_code
def yX5_high : MethodName := ⟨RX5, "high", "(II)I"⟩
abbrev cX5_loved : ByteArray := prog_1_method_19_code
def yX5_loved : MethodName := ⟨RX5, "loved", "(II)I"⟩
abbrev cX5_kind : ByteArray := prog_1_method_20_code
def yX5_kind : MethodName := ⟨RX5, "kind", "(I)I"⟩
abbrev cX5_rain : ByteArray := prog_1_method_21_code
def yX5_rain : MethodName := ⟨RX5, "rain", "(I)I"⟩
abbrev cX5_enough : ByteArray := prog_1_method_22_code
def yX5_enough : MethodName := ⟨RX5, "enough", "(I)I"⟩
abbrev cX5_rule : ByteArray := prog_1_method_23_code
def yX5_rule : MethodName := ⟨RX5, "rule", "(I)I"⟩
abbrev cX5_feed : ByteArray := prog_1_method_24_code
def yX5_feed : MethodName := ⟨RX5, "feed", "(II)I"⟩
abbrev cX5_wipe : ByteArray := prog_1_method_25_code
def yX5_wipe : MethodName := ⟨RX5, "wipe", "()I"⟩
abbrev cX5_town : ByteArray := prog_1_method_26_code
def yX5_town : MethodName := ⟨RX5, "town", "()I"⟩
abbrev cX5_sheet : ByteArray := prog_1_method_27_code
def yX5_sheet : MethodName := ⟨RX5, "sheet", "(III)I"⟩
abbrev cX5_write : ByteArray := prog_1_method_28_code
def yX5_write : MethodName := ⟨RX5, "write", "(IIJ)J"⟩
abbrev cX5_copy : ByteArray := prog_1_method_29_code
def yX5_copy : MethodName := ⟨RX5, "copy", "(IIIII)I"⟩
abbrev cX5_lays : ByteArray := prog_1_method_30_code
def yX5_lays : MethodName := ⟨RX5, "lays", "(I)I"⟩
abbrev cX5_book : ByteArray := prog_1_method_31_code
def yX5_book : MethodName := ⟨RX5, "book", "(I)I"⟩
abbrev cX5_read : ByteArray := prog_1_method_32_code
def yX5_read : MethodName := ⟨RX5, "read", "(II)I"⟩
abbrev cX5_image : ByteArray := prog_1_method_33_code
def yX5_image : MethodName := ⟨RX5, "image", "()I"⟩
abbrev cX5_undo : ByteArray := prog_1_method_34_code
def yX5_undo : MethodName := ⟨RX5, "undo", "()I"⟩
abbrev cX5_tear : ByteArray := prog_1_method_35_code
def yX5_tear : MethodName := ⟨RX5, "tear", "()I"⟩
abbrev cX5_count : ByteArray := prog_1_method_36_code
def yX5_count : MethodName := ⟨RX5, "count", "(I)I"⟩
abbrev cX5_status : ByteArray := prog_1_method_37_code
def yX5_status : MethodName := ⟨RX5, "status", "(I)I"⟩
abbrev cX5_found : ByteArray := prog_1_method_38_code
def yX5_found : MethodName := ⟨RX5, "found", "(I)I"⟩
abbrev cX5_isKind : ByteArray := prog_1_method_39_code
def yX5_isKind : MethodName := ⟨RX5, "isKind", "(I)Z"⟩
abbrev cX5_isUnder : ByteArray := prog_1_method_40_code
def yX5_isUnder : MethodName := ⟨RX5, "isUnder", "(II)Z"⟩
abbrev cX5_maySet : ByteArray := prog_1_method_41_code
def yX5_maySet : MethodName := ⟨RX5, "maySet", "(II)Z"⟩
abbrev cX5_isTried : ByteArray := prog_1_method_42_code
def yX5_isTried : MethodName := ⟨RX5, "isTried", "(I)Z"⟩
abbrev cX5_isAhead : ByteArray := prog_1_method_43_code
def yX5_isAhead : MethodName := ⟨RX5, "isAhead", "(I)Z"⟩
abbrev cX5_isSheet : ByteArray := prog_1_method_44_code
def yX5_isSheet : MethodName := ⟨RX5, "isSheet", "(I)Z"⟩
abbrev cX5_askSheet : ByteArray := prog_1_method_45_code
def yX5_askSheet : MethodName := ⟨RX5, "askSheet", "(I)I"⟩
def RX6 : String := "NamedFountainsModel"
def TX6 : u_T := fun k => match k with
  | 0 => ("NamedFountainsModel", "m", "[I", true)
  | 1 => ("NamedFountainsModel", "kept", "[I", true)
  | 2 => ("NamedFountainsModel", "was", "[I", true)
  | 3 => ("NamedFountainsModel", "isKept", "Z", false)
  | 4 => ("NamedFountainsModel", "found", "[I", true)
  | 5 => ("NamedFountainsModel", "tape", "[I", true)
  | 6 => ("NamedFountainsModel", "taped", "I", false)
  | 7 => ("NamedFountainsModel", "token", "I", false)
  | 8 => ("NamedFountainsModel", "begin", "I", false)
  | 9 => ("NamedFountainsModel", "at", "I", false)
  | 10 => ("NamedFountainsModel", "value", "I", false)
  | 11 => ("NamedFountainsModel", "bad", "Z", false)
  | 12 => ("NamedFountainsModel", "bitsOf", "[I", true)
  | 13 => ("NamedFountainsModel", "sizeOf", "[I", true)
  | _ => ("NamedFountainsModel", "cells", "[J", true)
def tyX6 : Nat → FieldType := fun k => match k with
  | 0 => .array .int
  | 1 => .array .int
  | 2 => .array .int
  | 3 => .boolean
  | 4 => .array .int
  | 5 => .array .int
  | 6 => .int
  | 7 => .int
  | 8 => .int
  | 9 => .int
  | 10 => .int
  | 11 => .boolean
  | 12 => .array .int
  | 13 => .array .int
  | _ => .array .long
theorem nmX6 : ∀ a, a < 15 → ∀ b, b < 15 → a ≠ b → (TX6 a).2.1 ≠ (TX6 b).2.1 := by decide +kernel
theorem tyX6_ok : ∀ k, k < 15 → parseFieldDescriptor (TX6 k).2.2.1 = some (tyX6 k) := by decide +kernel
abbrev cX6_init : ByteArray := prog_8_method_1_code
def yX6_init : MethodName := ⟨RX6, "<init>", "()V"⟩
abbrev cX6_finds : ByteArray := prog_8_method_2_code
def yX6_finds : MethodName := ⟨RX6, "finds", "(I)I"⟩
abbrev cX6_orNone : ByteArray := prog_8_method_3_code
def yX6_orNone : MethodName := ⟨RX6, "orNone", "(I)I"⟩
abbrev cX6_in : ByteArray := prog_8_method_4_code
def yX6_in : MethodName := ⟨RX6, "in", "(JII)Z"⟩
abbrev cX6_held : ByteArray := prog_8_method_5_code
def yX6_held : MethodName := ⟨RX6, "held", "(III)I"⟩
abbrev cX6_copyAll : ByteArray := prog_8_method_6_code
def yX6_copyAll : MethodName := ⟨RX6, "copyAll", "([I[I)V"⟩
abbrev cX6_bits : ByteArray := prog_8_method_7_code
def yX6_bits : MethodName := ⟨RX6, "bits", "(I)I"⟩
abbrev cX6_becomes : ByteArray := prog_8_method_8_code
def yX6_becomes : MethodName := ⟨RX6, "becomes", "(II)I"⟩
abbrev cX6_isFountain : ByteArray := prog_8_method_9_code
def yX6_isFountain : MethodName := ⟨RX6, "isFountain", "(I)Z"⟩
abbrev cX6_it : ByteArray := prog_8_method_10_code
def yX6_it : MethodName := ⟨RX6, "it", "(II)I"⟩
abbrev cX6_put : ByteArray := prog_8_method_11_code
def yX6_put : MethodName := ⟨RX6, "put", "(III)V"⟩
abbrev cX6_weekNow : ByteArray := prog_8_method_12_code
def yX6_weekNow : MethodName := ⟨RX6, "weekNow", "()I"⟩
abbrev cX6_isCold : ByteArray := prog_8_method_13_code
def yX6_isCold : MethodName := ⟨RX6, "isCold", "()Z"⟩
abbrev cX6_isOff : ByteArray := prog_8_method_14_code
def yX6_isOff : MethodName := ⟨RX6, "isOff", "(I)Z"⟩
abbrev cX6_uses : ByteArray := prog_8_method_15_code
def yX6_uses : MethodName := ⟨RX6, "uses", "(I)I"⟩
abbrev cX6_heard : ByteArray := prog_8_method_16_code
def yX6_heard : MethodName := ⟨RX6, "heard", "(I)I"⟩
abbrev cX6_gains : ByteArray := prog_8_method_17_code
def yX6_gains : MethodName := ⟨RX6, "gains", "(I)I"⟩
abbrev cX6_givesWay : ByteArray := prog_8_method_18_code
def yX6_givesWay : MethodName := ⟨RX6, "givesWay", "(I)I"⟩
abbrev cX6_first : ByteArray := prog_8_method_19_code
def yX6_first : MethodName := ⟨RX6, "first", "(IZ)I"⟩
abbrev cX6_water : ByteArray := prog_8_method_20_code
def yX6_water : MethodName := ⟨RX6, "water", "(II)I"⟩
abbrev cX6_week : ByteArray := prog_8_method_21_code
def yX6_week : MethodName := ⟨RX6, "week", "(III)I"⟩
abbrev cX6_offOnes : ByteArray := prog_8_method_22_code
def yX6_offOnes : MethodName := ⟨RX6, "offOnes", "()I"⟩
abbrev cX6_noise : ByteArray := prog_8_method_23_code
def yX6_noise : MethodName := ⟨RX6, "noise", "()I"⟩
abbrev cX6_allUses : ByteArray := prog_8_method_24_code
def yX6_allUses : MethodName := ⟨RX6, "allUses", "()I"⟩
abbrev cX6_now : ByteArray := prog_8_method_25_code
def yX6_now : MethodName := ⟨RX6, "now", "(I)I"⟩
abbrev cX6_comesAs : ByteArray := prog_8_method_26_code
def yX6_comesAs : MethodName := ⟨RX6, "comesAs", "(IIII)I"⟩
abbrev cX6_fountain : ByteArray := prog_8_method_27_code
def yX6_fountain : MethodName := ⟨RX6, "fountain", "(I)I"⟩
abbrev cX6_of : ByteArray := prog_8_method_28_code
def yX6_of : MethodName := ⟨RX6, "of", "(II)I"⟩
abbrev cX6_mostOf : ByteArray := prog_8_method_29_code
def yX6_mostOf : MethodName := ⟨RX6, "mostOf", "(I)I"⟩
abbrev cX6_set : ByteArray := prog_8_method_30_code
def yX6_set : MethodName := ⟨RX6, "set", "(III)I"⟩
abbrev cX6_turn : ByteArray := prog_8_method_31_code
def yX6_turn : MethodName := ⟨RX6, "turn", "(II)I"⟩
abbrev cX6_as : ByteArray := prog_8_method_32_code
def yX6_as : MethodName := ⟨RX6, "as", "(II)I"⟩
abbrev cX6_next : ByteArray := prog_8_method_33_code
def yX6_next : MethodName := ⟨RX6, "next", "()I"⟩
abbrev cX6_turnsOff : ByteArray := prog_8_method_34_code
def yX6_turnsOff : MethodName := ⟨RX6, "turnsOff", "(I)V"⟩
abbrev cX6_committee : ByteArray := prog_8_method_35_code
def yX6_committee : MethodName := ⟨RX6, "committee", "()V"⟩
abbrev cX6_flows : ByteArray := prog_8_method_36_code
def yX6_flows : MethodName := ⟨RX6, "flows", "(I)V"⟩
abbrev cX6_goes : ByteArray := prog_8_method_37_code
def yX6_goes : MethodName := ⟨RX6, "goes", "()V"⟩
abbrev cX6_goesFor : ByteArray := prog_8_method_38_code
def yX6_goesFor : MethodName := ⟨RX6, "goesFor", "(I)V"⟩
abbrev cX6_days : ByteArray := prog_8_method_39_code
def yX6_days : MethodName := ⟨RX6, "days", "(I)I"⟩
abbrev cX6_thinks : ByteArray := prog_8_method_40_code
def yX6_thinks : MethodName := ⟨RX6, "thinks", "()V"⟩
abbrev cX6_putsBack : ByteArray := prog_8_method_41_code
def yX6_putsBack : MethodName := ⟨RX6, "putsBack", "()V"⟩
abbrev cX6_on : ByteArray := prog_8_method_42_code
def yX6_on : MethodName := ⟨RX6, "on", "(II)I"⟩
abbrev cX6_then : ByteArray := prog_8_method_43_code
def yX6_then : MethodName := ⟨RX6, "then", "(III)I"⟩
abbrev cX6_falls : ByteArray := prog_8_method_44_code
def yX6_falls : MethodName := ⟨RX6, "falls", "(I)I"⟩
abbrev cX6_offIn : ByteArray := prog_8_method_45_code
def yX6_offIn : MethodName := ⟨RX6, "offIn", "(I)I"⟩
abbrev cX6_off : ByteArray := prog_8_method_46_code
def yX6_off : MethodName := ⟨RX6, "off", "(I)I"⟩
abbrev cX6_quiet : ByteArray := prog_8_method_47_code
def yX6_quiet : MethodName := ⟨RX6, "quiet", "()I"⟩
abbrev cX6_allStooped : ByteArray := prog_8_method_48_code
def yX6_allStooped : MethodName := ⟨RX6, "allStooped", "()I"⟩
abbrev cX6_stoopedOn : ByteArray := prog_8_method_49_code
def yX6_stoopedOn : MethodName := ⟨RX6, "stoopedOn", "(I)I"⟩
abbrev cX6_staysUp : ByteArray := prog_8_method_50_code
def yX6_staysUp : MethodName := ⟨RX6, "staysUp", "(II)Z"⟩
abbrev cX6_best : ByteArray := prog_8_method_51_code
def yX6_best : MethodName := ⟨RX6, "best", "(I)I"⟩
abbrev cX6_high : ByteArray := prog_8_method_52_code
def yX6_high : MethodName := ⟨RX6, "high", "(II)I"⟩
abbrev cX6_loved : ByteArray := prog_8_method_53_code
def yX6_loved : MethodName := ⟨RX6, "loved", "(II)I"⟩
abbrev cX6_kind : ByteArray := prog_8_method_54_code
def yX6_kind : MethodName := ⟨RX6, "kind", "(I)I"⟩
abbrev cX6_rain : ByteArray := prog_8_method_55_code
def yX6_rain : MethodName := ⟨RX6, "rain", "(I)I"⟩
abbrev cX6_enough : ByteArray := prog_8_method_56_code
def yX6_enough : MethodName := ⟨RX6, "enough", "(I)I"⟩
abbrev cX6_rule : ByteArray := prog_8_method_57_code
def yX6_rule : MethodName := ⟨RX6, "rule", "(I)I"⟩
abbrev cX6_feed : ByteArray := prog_8_method_58_code
def yX6_feed : MethodName := ⟨RX6, "feed", "(II)I"⟩
abbrev cX6_wipe : ByteArray := prog_8_method_59_code
def yX6_wipe : MethodName := ⟨RX6, "wipe", "()I"⟩
abbrev cX6_isByte : ByteArray := prog_8_method_60_code
def yX6_isByte : MethodName := ⟨RX6, "isByte", "(III)Z"⟩
abbrev cX6_isName : ByteArray := prog_8_method_61_code
def yX6_isName : MethodName := ⟨RX6, "isName", "(II)Z"⟩
abbrev cX6_wordHere : ByteArray := prog_8_method_62_code
def yX6_wordHere : MethodName := ⟨RX6, "wordHere", "()I"⟩
abbrev cX6_reads : ByteArray := prog_8_method_63_code
def yX6_reads : MethodName := ⟨RX6, "reads", "()V"⟩
abbrev cX6_passes : ByteArray := prog_8_method_64_code
def yX6_passes : MethodName := ⟨RX6, "passes", "(I)Z"⟩
abbrev cX6_number : ByteArray := prog_8_method_65_code
def yX6_number : MethodName := ⟨RX6, "number", "(II)I"⟩
abbrev cX6_perhaps : ByteArray := prog_8_method_66_code
def yX6_perhaps : MethodName := ⟨RX6, "perhaps", "(IIII)I"⟩
abbrev cX6_fountainItem : ByteArray := prog_8_method_67_code
def yX6_fountainItem : MethodName := ⟨RX6, "fountainItem", "()V"⟩
abbrev cX6_rainItem : ByteArray := prog_8_method_68_code
def yX6_rainItem : MethodName := ⟨RX6, "rainItem", "()V"⟩
abbrev cX6_coldItem : ByteArray := prog_8_method_69_code
def yX6_coldItem : MethodName := ⟨RX6, "coldItem", "()V"⟩
abbrev cX6_item : ByteArray := prog_8_method_70_code
def yX6_item : MethodName := ⟨RX6, "item", "()V"⟩
abbrev cX6_town : ByteArray := prog_8_method_71_code
def yX6_town : MethodName := ⟨RX6, "town", "()I"⟩
abbrev cX6_isSheet : ByteArray := prog_8_method_72_code
def yX6_isSheet : MethodName := ⟨RX6, "isSheet", "(I)Z"⟩
abbrev cX6_sheet : ByteArray := prog_8_method_73_code
def yX6_sheet : MethodName := ⟨RX6, "sheet", "(III)I"⟩
abbrev cX6_notThere : ByteArray := prog_8_method_74_code
def yX6_notThere : MethodName := ⟨RX6, "notThere", "(I)I"⟩
abbrev cX6_cutTo : ByteArray := prog_8_method_75_code
def yX6_cutTo : MethodName := ⟨RX6, "cutTo", "(IJ)J"⟩
abbrev cX6_write : ByteArray := prog_8_method_76_code
def yX6_write : MethodName := ⟨RX6, "write", "(IIJ)J"⟩
abbrev cX6_notCopied : ByteArray := prog_8_method_77_code
def yX6_notCopied : MethodName := ⟨RX6, "notCopied", "(IIIII)I"⟩
abbrev cX6_copy : ByteArray := prog_8_method_78_code
def yX6_copy : MethodName := ⟨RX6, "copy", "(IIIII)I"⟩
abbrev cX6_lays : ByteArray := prog_8_method_79_code
def yX6_lays : MethodName := ⟨RX6, "lays", "(I)I"⟩
abbrev cX6_book : ByteArray := prog_8_method_80_code
def yX6_book : MethodName := ⟨RX6, "book", "(I)I"⟩
abbrev cX6_isBook : ByteArray := prog_8_method_81_code
def yX6_isBook : MethodName := ⟨RX6, "isBook", "(I)Z"⟩
abbrev cX6_read : ByteArray := prog_8_method_82_code
def yX6_read : MethodName := ⟨RX6, "read", "(II)I"⟩
abbrev cX6_image : ByteArray := prog_8_method_83_code
def yX6_image : MethodName := ⟨RX6, "image", "()I"⟩
abbrev cX6_undo : ByteArray := prog_8_method_84_code
def yX6_undo : MethodName := ⟨RX6, "undo", "()I"⟩
abbrev cX6_tear : ByteArray := prog_8_method_85_code
def yX6_tear : MethodName := ⟨RX6, "tear", "()I"⟩
abbrev cX6_count : ByteArray := prog_8_method_86_code
def yX6_count : MethodName := ⟨RX6, "count", "(I)I"⟩
abbrev cX6_status : ByteArray := prog_8_method_87_code
def yX6_status : MethodName := ⟨RX6, "status", "(I)I"⟩
def RJx145de : String := "java/io/Serializable"
def TJx145de : u_T := fun k => match k with
  | _ => ("", "", "", false)
def tyJx145de : Nat → FieldType := fun k => match k with
  | _ => .int
theorem nmJx145de : ∀ a, a < 0 → ∀ b, b < 0 → a ≠ b → (TJx145de a).2.1 ≠ (TJx145de b).2.1 := by decide +kernel
theorem tyJx145de_ok : ∀ k, k < 0 → parseFieldDescriptor (TJx145de k).2.2.1 = some (tyJx145de k) := by decide +kernel
def RJx9f9b0 : String := "java/lang/CharSequence"
def TJx9f9b0 : u_T := fun k => match k with
  | _ => ("", "", "", false)
def tyJx9f9b0 : Nat → FieldType := fun k => match k with
  | _ => .int
theorem nmJx9f9b0 : ∀ a, a < 0 → ∀ b, b < 0 → a ≠ b → (TJx9f9b0 a).2.1 ≠ (TJx9f9b0 b).2.1 := by decide +kernel
theorem tyJx9f9b0_ok : ∀ k, k < 0 → parseFieldDescriptor (TJx9f9b0 k).2.2.1 = some (tyJx9f9b0 k) := by decide +kernel
def RJxb160c : String := "java/lang/Comparable"
def TJxb160c : u_T := fun k => match k with
  | _ => ("", "", "", false)
def tyJxb160c : Nat → FieldType := fun k => match k with
  | _ => .int
theorem nmJxb160c : ∀ a, a < 0 → ∀ b, b < 0 → a ≠ b → (TJxb160c a).2.1 ≠ (TJxb160c b).2.1 := by decide +kernel
theorem tyJxb160c_ok : ∀ k, k < 0 → parseFieldDescriptor (TJxb160c k).2.2.1 = some (tyJxb160c k) := by decide +kernel
def RJ6 : String := "java/lang/Integer"
def TJ6 : u_T := fun k => match k with
  | _ => ("", "", "", false)
def tyJ6 : Nat → FieldType := fun k => match k with
  | _ => .int
theorem nmJ6 : ∀ a, a < 0 → ∀ b, b < 0 → a ≠ b → (TJ6 a).2.1 ≠ (TJ6 b).2.1 := by decide +kernel
theorem tyJ6_ok : ∀ k, k < 0 → parseFieldDescriptor (TJ6 k).2.2.1 = some (tyJ6 k) := by decide +kernel
abbrev cJ6_bitCount_0f7a4 : ByteArray := prog_9_method_49_code
def yJ6_bitCount_0f7a4 : MethodName := ⟨RJ6, "bitCount", "(I)I"⟩
def RJ9 : String := "java/lang/Math"
def TJ9 : u_T := fun k => match k with
  | _ => ("", "", "", false)
def tyJ9 : Nat → FieldType := fun k => match k with
  | _ => .int
theorem nmJ9 : ∀ a, a < 0 → ∀ b, b < 0 → a ≠ b → (TJ9 a).2.1 ≠ (TJ9 b).2.1 := by decide +kernel
theorem tyJ9_ok : ∀ k, k < 0 → parseFieldDescriptor (TJ9 k).2.2.1 = some (tyJ9 k) := by decide +kernel
abbrev cJ9_floorMod_7cf53 : ByteArray := prog_10_method_50_code
def yJ9_floorMod_7cf53 : MethodName := ⟨RJ9, "floorMod", "(II)I"⟩
abbrev cJ9_max_7cf53 : ByteArray := prog_10_method_65_code
def yJ9_max_7cf53 : MethodName := ⟨RJ9, "max", "(II)I"⟩
abbrev cJ9_min_7cf53 : ByteArray := prog_10_method_69_code
def yJ9_min_7cf53 : MethodName := ⟨RJ9, "min", "(II)I"⟩
def RJ0 : String := "java/lang/String"
def TJ0 : u_T := fun k => match k with
  | _ => ("", "", "", false)
def tyJ0 : Nat → FieldType := fun k => match k with
  | _ => .int
theorem nmJ0 : ∀ a, a < 0 → ∀ b, b < 0 → a ≠ b → (TJ0 a).2.1 ≠ (TJ0 b).2.1 := by decide +kernel
theorem tyJ0_ok : ∀ k, k < 0 → parseFieldDescriptor (TJ0 k).2.2.1 = some (tyJ0 k) := by decide +kernel
abbrev cJ0_length_8abf5 : ByteArray := prog_11_method_54_code
def yJ0_length_8abf5 : MethodName := ⟨RJ0, "length", "()I"⟩
abbrev cJ0_charAt_5068e : ByteArray := prog_11_method_56_code
def yJ0_charAt_5068e : MethodName := ⟨RJ0, "charAt", "(I)C"⟩
abbrev cJ0_coder_7d493 : ByteArray := prog_11_method_152_code
def yJ0_coder_7d493 : MethodName := ⟨RJ0, "coder", "()B"⟩
abbrev cJ0_isLatin1_aae02 : ByteArray := prog_11_method_154_code
def yJ0_isLatin1_aae02 : MethodName := ⟨RJ0, "isLatin1", "()Z"⟩
abbrev cJ0_checkIndex_df160 : ByteArray := prog_11_method_155_code
def yJ0_checkIndex_df160 : MethodName := ⟨RJ0, "checkIndex", "(II)V"⟩
def RJ1 : String := "java/lang/StringLatin1"
def TJ1 : u_T := fun k => match k with
  | _ => ("", "", "", false)
def tyJ1 : Nat → FieldType := fun k => match k with
  | _ => .int
theorem nmJ1 : ∀ a, a < 0 → ∀ b, b < 0 → a ≠ b → (TJ1 a).2.1 ≠ (TJ1 b).2.1 := by decide +kernel
theorem tyJ1_ok : ∀ k, k < 0 → parseFieldDescriptor (TJ1 k).2.2.1 = some (tyJ1 k) := by decide +kernel
abbrev cJ1_charAt_3b067 : ByteArray := prog_12_method_2_code
def yJ1_charAt_3b067 : MethodName := ⟨RJ1, "charAt", "([BI)C"⟩
def RJ2 : String := "java/lang/StringUTF16"
def TJ2 : u_T := fun k => match k with
  | _ => ("", "", "", false)
def tyJ2 : Nat → FieldType := fun k => match k with
  | _ => .int
theorem nmJ2 : ∀ a, a < 0 → ∀ b, b < 0 → a ≠ b → (TJ2 a).2.1 ≠ (TJ2 b).2.1 := by decide +kernel
theorem tyJ2_ok : ∀ k, k < 0 → parseFieldDescriptor (TJ2 k).2.2.1 = some (tyJ2 k) := by decide +kernel
abbrev cJ2_getChar_3b067 : ByteArray := prog_13_method_5_code
def yJ2_getChar_3b067 : MethodName := ⟨RJ2, "getChar", "([BI)C"⟩
abbrev cJ2_length_9d52b : ByteArray := prog_13_method_6_code
def yJ2_length_9d52b : MethodName := ⟨RJ2, "length", "([B)I"⟩
abbrev cJ2_charAt_3b067 : ByteArray := prog_13_method_83_code
def yJ2_charAt_3b067 : MethodName := ⟨RJ2, "charAt", "([BI)C"⟩
abbrev cJ2_checkIndex_2214a : ByteArray := prog_13_method_91_code
def yJ2_checkIndex_2214a : MethodName := ⟨RJ2, "checkIndex", "(I[B)V"⟩
def RJ10 : String := "java/lang/System"
def TJ10 : u_T := fun k => match k with
  | _ => ("", "", "", false)
def tyJ10 : Nat → FieldType := fun k => match k with
  | _ => .int
theorem nmJ10 : ∀ a, a < 0 → ∀ b, b < 0 → a ≠ b → (TJ10 a).2.1 ≠ (TJ10 b).2.1 := by decide +kernel
theorem tyJ10_ok : ∀ k, k < 0 → parseFieldDescriptor (TJ10 k).2.2.1 = some (tyJ10 k) := by decide +kernel
def RJxfd54e : String := "java/lang/constant/Constable"
def TJxfd54e : u_T := fun k => match k with
  | _ => ("", "", "", false)
def tyJxfd54e : Nat → FieldType := fun k => match k with
  | _ => .int
theorem nmJxfd54e : ∀ a, a < 0 → ∀ b, b < 0 → a ≠ b → (TJxfd54e a).2.1 ≠ (TJxfd54e b).2.1 := by decide +kernel
theorem tyJxfd54e_ok : ∀ k, k < 0 → parseFieldDescriptor (TJxfd54e k).2.2.1 = some (tyJxfd54e k) := by decide +kernel
def RJx3cf43 : String := "java/lang/constant/ConstantDesc"
def TJx3cf43 : u_T := fun k => match k with
  | _ => ("", "", "", false)
def tyJx3cf43 : Nat → FieldType := fun k => match k with
  | _ => .int
theorem nmJx3cf43 : ∀ a, a < 0 → ∀ b, b < 0 → a ≠ b → (TJx3cf43 a).2.1 ≠ (TJx3cf43 b).2.1 := by decide +kernel
theorem tyJx3cf43_ok : ∀ k, k < 0 → parseFieldDescriptor (TJx3cf43 k).2.2.1 = some (tyJx3cf43 k) := by decide +kernel
def RJ7 : String := "java/util/Arrays"
def TJ7 : u_T := fun k => match k with
  | _ => ("", "", "", false)
def tyJ7 : Nat → FieldType := fun k => match k with
  | _ => .int
theorem nmJ7 : ∀ a, a < 0 → ∀ b, b < 0 → a ≠ b → (TJ7 a).2.1 ≠ (TJ7 b).2.1 := by decide +kernel
theorem tyJ7_ok : ∀ k, k < 0 → parseFieldDescriptor (TJ7 k).2.2.1 = some (tyJ7 k) := by decide +kernel
abbrev cJ7_fill_d0a16 : ByteArray := prog_15_method_101_code
def yJ7_fill_d0a16 : MethodName := ⟨RJ7, "fill", "([JJ)V"⟩
def RJ3 : String := "jdk/internal/util/Preconditions"
def TJ3 : u_T := fun k => match k with
  | _ => ("", "", "", false)
def tyJ3 : Nat → FieldType := fun k => match k with
  | _ => .int
theorem nmJ3 : ∀ a, a < 0 → ∀ b, b < 0 → a ≠ b → (TJ3 a).2.1 ≠ (TJ3 b).2.1 := by decide +kernel
theorem tyJ3_ok : ∀ k, k < 0 → parseFieldDescriptor (TJ3 k).2.2.1 = some (tyJ3 k) := by decide +kernel
abbrev cJ3_checkIndex_8e157 : ByteArray := prog_16_method_11_code
def yJ3_checkIndex_8e157 : MethodName := ⟨RJ3, "checkIndex", "(IILjava/util/function/BiFunction;)I"⟩
def RL : String := "NamedFountainsLaw"
abbrev cL_law : ByteArray := code
def yL_law : MethodName := ⟨RL, "law", "([I)Z"⟩
abbrev vwCl : List vw_C := [(RX0, TX0, 5), (RX1, TX1, 3), (RX2, TX2, 2), (RX3, TX3, 6), (RX4, TX4, 8), (RX5, TX5, 8), (RX6, TX6, 15)]
end
section
theorem dJ0_length_8abf5_0 : decode cJ0_length_8abf5 0 = .ok (.aload_n 0, 1) := by decide +kernel
theorem dJ0_length_8abf5_1 : decode cJ0_length_8abf5 1 = .ok (.getfield 9, 3) := by decide +kernel
theorem dJ0_length_8abf5_4 : decode cJ0_length_8abf5 4 = .ok (.arraylength, 1) := by decide +kernel
theorem dJ0_length_8abf5_5 : decode cJ0_length_8abf5 5 = .ok (.aload_n 0, 1) := by decide +kernel
theorem dJ0_length_8abf5_6 : decode cJ0_length_8abf5 6 = .ok (.invokevirtual 335, 3) := by decide +kernel
theorem dJ0_length_8abf5_9 : decode cJ0_length_8abf5 9 = .ok (.ishr, 1) := by decide +kernel
theorem dJ0_length_8abf5_10 : decode cJ0_length_8abf5 10 = .ok (.ireturn, 1) := by decide +kernel
theorem dJ0_charAt_5068e_0 : decode cJ0_charAt_5068e 0 = .ok (.aload_n 0, 1) := by decide +kernel
theorem dJ0_charAt_5068e_1 : decode cJ0_charAt_5068e 1 = .ok (.invokevirtual 492, 3) := by decide +kernel
theorem dJ0_charAt_5068e_4 : decode cJ0_charAt_5068e 4 = .ok (.ifCond .eq 12, 3) := by decide +kernel
theorem dJ0_charAt_5068e_7 : decode cJ0_charAt_5068e 7 = .ok (.aload_n 0, 1) := by decide +kernel
theorem dJ0_charAt_5068e_8 : decode cJ0_charAt_5068e 8 = .ok (.getfield 9, 3) := by decide +kernel
theorem dJ0_charAt_5068e_11 : decode cJ0_charAt_5068e 11 = .ok (.iload_n 1, 1) := by decide +kernel
theorem dJ0_charAt_5068e_12 : decode cJ0_charAt_5068e 12 = .ok (.invokestatic 495, 3) := by decide +kernel
theorem dJ0_charAt_5068e_15 : decode cJ0_charAt_5068e 15 = .ok (.ireturn, 1) := by decide +kernel
theorem dJ0_charAt_5068e_16 : decode cJ0_charAt_5068e 16 = .ok (.aload_n 0, 1) := by decide +kernel
theorem dJ0_charAt_5068e_17 : decode cJ0_charAt_5068e 17 = .ok (.getfield 9, 3) := by decide +kernel
theorem dJ0_charAt_5068e_20 : decode cJ0_charAt_5068e 20 = .ok (.iload_n 1, 1) := by decide +kernel
theorem dJ0_charAt_5068e_21 : decode cJ0_charAt_5068e 21 = .ok (.invokestatic 498, 3) := by decide +kernel
theorem dJ0_charAt_5068e_24 : decode cJ0_charAt_5068e 24 = .ok (.ireturn, 1) := by decide +kernel
theorem dJ0_coder_7d493_0 : decode cJ0_coder_7d493 0 = .ok (.getstatic 38, 3) := by decide +kernel
theorem dJ0_coder_7d493_3 : decode cJ0_coder_7d493 3 = .ok (.ifCond .eq 10, 3) := by decide +kernel
theorem dJ0_coder_7d493_6 : decode cJ0_coder_7d493 6 = .ok (.aload_n 0, 1) := by decide +kernel
theorem dJ0_coder_7d493_7 : decode cJ0_coder_7d493 7 = .ok (.getfield 15, 3) := by decide +kernel
theorem dJ0_coder_7d493_10 : decode cJ0_coder_7d493 10 = .ok (.goto 4, 3) := by decide +kernel
theorem dJ0_coder_7d493_13 : decode cJ0_coder_7d493 13 = .ok (.iconst 1, 1) := by decide +kernel
theorem dJ0_coder_7d493_14 : decode cJ0_coder_7d493 14 = .ok (.ireturn, 1) := by decide +kernel
theorem dJ0_isLatin1_aae02_0 : decode cJ0_isLatin1_aae02 0 = .ok (.getstatic 38, 3) := by decide +kernel
theorem dJ0_isLatin1_aae02_3 : decode cJ0_isLatin1_aae02 3 = .ok (.ifCond .eq 14, 3) := by decide +kernel
theorem dJ0_isLatin1_aae02_6 : decode cJ0_isLatin1_aae02 6 = .ok (.aload_n 0, 1) := by decide +kernel
theorem dJ0_isLatin1_aae02_7 : decode cJ0_isLatin1_aae02 7 = .ok (.getfield 15, 3) := by decide +kernel
theorem dJ0_isLatin1_aae02_10 : decode cJ0_isLatin1_aae02 10 = .ok (.ifCond .ne 7, 3) := by decide +kernel
theorem dJ0_isLatin1_aae02_13 : decode cJ0_isLatin1_aae02 13 = .ok (.iconst 1, 1) := by decide +kernel
theorem dJ0_isLatin1_aae02_14 : decode cJ0_isLatin1_aae02 14 = .ok (.goto 4, 3) := by decide +kernel
theorem dJ0_isLatin1_aae02_17 : decode cJ0_isLatin1_aae02 17 = .ok (.iconst 0, 1) := by decide +kernel
theorem dJ0_isLatin1_aae02_18 : decode cJ0_isLatin1_aae02 18 = .ok (.ireturn, 1) := by decide +kernel
theorem dJ0_checkIndex_df160_0 : decode cJ0_checkIndex_df160 0 = .ok (.iload_n 0, 1) := by decide +kernel
theorem dJ0_checkIndex_df160_1 : decode cJ0_checkIndex_df160 1 = .ok (.iload_n 1, 1) := by decide +kernel
theorem dJ0_checkIndex_df160_2 : decode cJ0_checkIndex_df160 2 = .ok (.getstatic 1053, 3) := by decide +kernel
theorem dJ0_checkIndex_df160_5 : decode cJ0_checkIndex_df160 5 = .ok (.invokestatic 1059, 3) := by decide +kernel
theorem dJ0_checkIndex_df160_8 : decode cJ0_checkIndex_df160 8 = .ok (.pop, 1) := by decide +kernel
theorem dJ0_checkIndex_df160_9 : decode cJ0_checkIndex_df160 9 = .ok (.return_, 1) := by decide +kernel
theorem dJ1_charAt_3b067_0 : decode cJ1_charAt_3b067 0 = .ok (.iload_n 1, 1) := by decide +kernel
theorem dJ1_charAt_3b067_1 : decode cJ1_charAt_3b067 1 = .ok (.aload_n 0, 1) := by decide +kernel
theorem dJ1_charAt_3b067_2 : decode cJ1_charAt_3b067 2 = .ok (.arraylength, 1) := by decide +kernel
theorem dJ1_charAt_3b067_3 : decode cJ1_charAt_3b067 3 = .ok (.invokestatic 9, 3) := by decide +kernel
theorem dJ1_charAt_3b067_6 : decode cJ1_charAt_3b067 6 = .ok (.aload_n 0, 1) := by decide +kernel
theorem dJ1_charAt_3b067_7 : decode cJ1_charAt_3b067 7 = .ok (.iload_n 1, 1) := by decide +kernel
theorem dJ1_charAt_3b067_8 : decode cJ1_charAt_3b067 8 = .ok (.baload, 1) := by decide +kernel
theorem dJ1_charAt_3b067_9 : decode cJ1_charAt_3b067 9 = .ok (.sipush 255, 3) := by decide +kernel
theorem dJ1_charAt_3b067_12 : decode cJ1_charAt_3b067 12 = .ok (.iand, 1) := by decide +kernel
theorem dJ1_charAt_3b067_13 : decode cJ1_charAt_3b067 13 = .ok (.i2c, 1) := by decide +kernel
theorem dJ1_charAt_3b067_14 : decode cJ1_charAt_3b067 14 = .ok (.ireturn, 1) := by decide +kernel
theorem dJ2_getChar_3b067_0 : decode cJ2_getChar_3b067 0 = .ok (.getstatic 44, 3) := by decide +kernel
theorem dJ2_getChar_3b067_3 : decode cJ2_getChar_3b067 3 = .ok (.ifCond .ne 25, 3) := by decide +kernel
theorem dJ2_getChar_3b067_6 : decode cJ2_getChar_3b067 6 = .ok (.iload_n 1, 1) := by decide +kernel
theorem dJ2_getChar_3b067_7 : decode cJ2_getChar_3b067 7 = .ok (.ifCond .lt 11, 3) := by decide +kernel
theorem dJ2_getChar_3b067_10 : decode cJ2_getChar_3b067 10 = .ok (.iload_n 1, 1) := by decide +kernel
theorem dJ2_getChar_3b067_11 : decode cJ2_getChar_3b067 11 = .ok (.aload_n 0, 1) := by decide +kernel
theorem dJ2_getChar_3b067_12 : decode cJ2_getChar_3b067 12 = .ok (.invokestatic 48, 3) := by decide +kernel
theorem dJ2_getChar_3b067_15 : decode cJ2_getChar_3b067 15 = .ok (.if_icmp .lt 13, 3) := by decide +kernel
theorem dJ2_getChar_3b067_18 : decode cJ2_getChar_3b067 18 = .ok (.new 52, 3) := by decide +kernel
theorem dJ2_getChar_3b067_21 : decode cJ2_getChar_3b067 21 = .ok (.dup, 1) := by decide +kernel
theorem dJ2_getChar_3b067_22 : decode cJ2_getChar_3b067 22 = .ok (.ldc 54, 2) := by decide +kernel
theorem dJ2_getChar_3b067_24 : decode cJ2_getChar_3b067 24 = .ok (.invokespecial 56, 3) := by decide +kernel
theorem dJ2_getChar_3b067_27 : decode cJ2_getChar_3b067 27 = .ok (.athrow, 1) := by decide +kernel
theorem dJ2_getChar_3b067_28 : decode cJ2_getChar_3b067 28 = .ok (.iload_n 1, 1) := by decide +kernel
theorem dJ2_getChar_3b067_29 : decode cJ2_getChar_3b067 29 = .ok (.iconst 1, 1) := by decide +kernel
theorem dJ2_getChar_3b067_30 : decode cJ2_getChar_3b067 30 = .ok (.ishl, 1) := by decide +kernel
theorem dJ2_getChar_3b067_31 : decode cJ2_getChar_3b067 31 = .ok (.istore_n 1, 1) := by decide +kernel
theorem dJ2_getChar_3b067_32 : decode cJ2_getChar_3b067 32 = .ok (.aload_n 0, 1) := by decide +kernel
theorem dJ2_getChar_3b067_33 : decode cJ2_getChar_3b067 33 = .ok (.iload_n 1, 1) := by decide +kernel
theorem dJ2_getChar_3b067_34 : decode cJ2_getChar_3b067 34 = .ok (.iinc 1 1, 3) := by decide +kernel
theorem dJ2_getChar_3b067_37 : decode cJ2_getChar_3b067 37 = .ok (.baload, 1) := by decide +kernel
theorem dJ2_getChar_3b067_38 : decode cJ2_getChar_3b067 38 = .ok (.sipush 255, 3) := by decide +kernel
theorem dJ2_getChar_3b067_41 : decode cJ2_getChar_3b067 41 = .ok (.iand, 1) := by decide +kernel
theorem dJ2_getChar_3b067_42 : decode cJ2_getChar_3b067 42 = .ok (.getstatic 59, 3) := by decide +kernel
theorem dJ2_getChar_3b067_45 : decode cJ2_getChar_3b067 45 = .ok (.ishl, 1) := by decide +kernel
theorem dJ2_getChar_3b067_46 : decode cJ2_getChar_3b067 46 = .ok (.aload_n 0, 1) := by decide +kernel
theorem dJ2_getChar_3b067_47 : decode cJ2_getChar_3b067 47 = .ok (.iload_n 1, 1) := by decide +kernel
theorem dJ2_getChar_3b067_48 : decode cJ2_getChar_3b067 48 = .ok (.baload, 1) := by decide +kernel
theorem dJ2_getChar_3b067_49 : decode cJ2_getChar_3b067 49 = .ok (.sipush 255, 3) := by decide +kernel
theorem dJ2_getChar_3b067_52 : decode cJ2_getChar_3b067 52 = .ok (.iand, 1) := by decide +kernel
theorem dJ2_getChar_3b067_53 : decode cJ2_getChar_3b067 53 = .ok (.getstatic 63, 3) := by decide +kernel
theorem dJ2_getChar_3b067_56 : decode cJ2_getChar_3b067 56 = .ok (.ishl, 1) := by decide +kernel
theorem dJ2_getChar_3b067_57 : decode cJ2_getChar_3b067 57 = .ok (.ior, 1) := by decide +kernel
theorem dJ2_getChar_3b067_58 : decode cJ2_getChar_3b067 58 = .ok (.i2c, 1) := by decide +kernel
theorem dJ2_getChar_3b067_59 : decode cJ2_getChar_3b067 59 = .ok (.ireturn, 1) := by decide +kernel
theorem dJ2_length_9d52b_0 : decode cJ2_length_9d52b 0 = .ok (.aload_n 0, 1) := by decide +kernel
theorem dJ2_length_9d52b_1 : decode cJ2_length_9d52b 1 = .ok (.arraylength, 1) := by decide +kernel
theorem dJ2_length_9d52b_2 : decode cJ2_length_9d52b 2 = .ok (.iconst 1, 1) := by decide +kernel
theorem dJ2_length_9d52b_3 : decode cJ2_length_9d52b 3 = .ok (.ishr, 1) := by decide +kernel
theorem dJ2_length_9d52b_4 : decode cJ2_length_9d52b 4 = .ok (.ireturn, 1) := by decide +kernel
theorem dJ2_charAt_3b067_0 : decode cJ2_charAt_3b067 0 = .ok (.iload_n 1, 1) := by decide +kernel
theorem dJ2_charAt_3b067_1 : decode cJ2_charAt_3b067 1 = .ok (.aload_n 0, 1) := by decide +kernel
theorem dJ2_charAt_3b067_2 : decode cJ2_charAt_3b067 2 = .ok (.invokestatic 67, 3) := by decide +kernel
theorem dJ2_charAt_3b067_5 : decode cJ2_charAt_3b067 5 = .ok (.aload_n 0, 1) := by decide +kernel
theorem dJ2_charAt_3b067_6 : decode cJ2_charAt_3b067 6 = .ok (.iload_n 1, 1) := by decide +kernel
theorem dJ2_charAt_3b067_7 : decode cJ2_charAt_3b067 7 = .ok (.invokestatic 71, 3) := by decide +kernel
theorem dJ2_charAt_3b067_10 : decode cJ2_charAt_3b067 10 = .ok (.ireturn, 1) := by decide +kernel
theorem dJ2_checkIndex_2214a_0 : decode cJ2_checkIndex_2214a 0 = .ok (.iload_n 0, 1) := by decide +kernel
theorem dJ2_checkIndex_2214a_1 : decode cJ2_checkIndex_2214a 1 = .ok (.aload_n 1, 1) := by decide +kernel
theorem dJ2_checkIndex_2214a_2 : decode cJ2_checkIndex_2214a 2 = .ok (.invokestatic 48, 3) := by decide +kernel
theorem dJ2_checkIndex_2214a_5 : decode cJ2_checkIndex_2214a 5 = .ok (.invokestatic 414, 3) := by decide +kernel
theorem dJ2_checkIndex_2214a_8 : decode cJ2_checkIndex_2214a 8 = .ok (.return_, 1) := by decide +kernel
theorem dJ3_checkIndex_8e157_0 : decode cJ3_checkIndex_8e157 0 = .ok (.iload_n 0, 1) := by decide +kernel
theorem dJ3_checkIndex_8e157_1 : decode cJ3_checkIndex_8e157 1 = .ok (.ifCond .lt 8, 3) := by decide +kernel
theorem dJ3_checkIndex_8e157_4 : decode cJ3_checkIndex_8e157 4 = .ok (.iload_n 0, 1) := by decide +kernel
theorem dJ3_checkIndex_8e157_5 : decode cJ3_checkIndex_8e157 5 = .ok (.iload_n 1, 1) := by decide +kernel
theorem dJ3_checkIndex_8e157_6 : decode cJ3_checkIndex_8e157 6 = .ok (.if_icmp .lt 10, 3) := by decide +kernel
theorem dJ3_checkIndex_8e157_9 : decode cJ3_checkIndex_8e157 9 = .ok (.aload_n 2, 1) := by decide +kernel
theorem dJ3_checkIndex_8e157_10 : decode cJ3_checkIndex_8e157 10 = .ok (.iload_n 0, 1) := by decide +kernel
theorem dJ3_checkIndex_8e157_11 : decode cJ3_checkIndex_8e157 11 = .ok (.iload_n 1, 1) := by decide +kernel
theorem dJ3_checkIndex_8e157_12 : decode cJ3_checkIndex_8e157 12 = .ok (.invokestatic 95, 3) := by decide +kernel
theorem dJ3_checkIndex_8e157_15 : decode cJ3_checkIndex_8e157 15 = .ok (.athrow, 1) := by decide +kernel
theorem dJ3_checkIndex_8e157_16 : decode cJ3_checkIndex_8e157 16 = .ok (.iload_n 0, 1) := by decide +kernel
theorem dJ3_checkIndex_8e157_17 : decode cJ3_checkIndex_8e157 17 = .ok (.ireturn, 1) := by decide +kernel
theorem dJ6_bitCount_0f7a4_0 : decode cJ6_bitCount_0f7a4 0 = .ok (.iload_n 0, 1) := by decide +kernel
theorem dJ6_bitCount_0f7a4_1 : decode cJ6_bitCount_0f7a4 1 = .ok (.iload_n 0, 1) := by decide +kernel
theorem dJ6_bitCount_0f7a4_2 : decode cJ6_bitCount_0f7a4 2 = .ok (.iconst 1, 1) := by decide +kernel
theorem dJ6_bitCount_0f7a4_3 : decode cJ6_bitCount_0f7a4 3 = .ok (.iushr, 1) := by decide +kernel
theorem dJ6_bitCount_0f7a4_4 : decode cJ6_bitCount_0f7a4 4 = .ok (.ldc_w 265, 3) := by decide +kernel
theorem dJ6_bitCount_0f7a4_7 : decode cJ6_bitCount_0f7a4 7 = .ok (.iand, 1) := by decide +kernel
theorem dJ6_bitCount_0f7a4_8 : decode cJ6_bitCount_0f7a4 8 = .ok (.isub, 1) := by decide +kernel
theorem dJ6_bitCount_0f7a4_9 : decode cJ6_bitCount_0f7a4 9 = .ok (.istore_n 0, 1) := by decide +kernel
theorem dJ6_bitCount_0f7a4_10 : decode cJ6_bitCount_0f7a4 10 = .ok (.iload_n 0, 1) := by decide +kernel
theorem dJ6_bitCount_0f7a4_11 : decode cJ6_bitCount_0f7a4 11 = .ok (.ldc_w 266, 3) := by decide +kernel
theorem dJ6_bitCount_0f7a4_14 : decode cJ6_bitCount_0f7a4 14 = .ok (.iand, 1) := by decide +kernel
theorem dJ6_bitCount_0f7a4_15 : decode cJ6_bitCount_0f7a4 15 = .ok (.iload_n 0, 1) := by decide +kernel
theorem dJ6_bitCount_0f7a4_16 : decode cJ6_bitCount_0f7a4 16 = .ok (.iconst 2, 1) := by decide +kernel
theorem dJ6_bitCount_0f7a4_17 : decode cJ6_bitCount_0f7a4 17 = .ok (.iushr, 1) := by decide +kernel
theorem dJ6_bitCount_0f7a4_18 : decode cJ6_bitCount_0f7a4 18 = .ok (.ldc_w 266, 3) := by decide +kernel
theorem dJ6_bitCount_0f7a4_21 : decode cJ6_bitCount_0f7a4 21 = .ok (.iand, 1) := by decide +kernel
theorem dJ6_bitCount_0f7a4_22 : decode cJ6_bitCount_0f7a4 22 = .ok (.iadd, 1) := by decide +kernel
theorem dJ6_bitCount_0f7a4_23 : decode cJ6_bitCount_0f7a4 23 = .ok (.istore_n 0, 1) := by decide +kernel
theorem dJ6_bitCount_0f7a4_24 : decode cJ6_bitCount_0f7a4 24 = .ok (.iload_n 0, 1) := by decide +kernel
theorem dJ6_bitCount_0f7a4_25 : decode cJ6_bitCount_0f7a4 25 = .ok (.iload_n 0, 1) := by decide +kernel
theorem dJ6_bitCount_0f7a4_26 : decode cJ6_bitCount_0f7a4 26 = .ok (.iconst 4, 1) := by decide +kernel
theorem dJ6_bitCount_0f7a4_27 : decode cJ6_bitCount_0f7a4 27 = .ok (.iushr, 1) := by decide +kernel
theorem dJ6_bitCount_0f7a4_28 : decode cJ6_bitCount_0f7a4 28 = .ok (.iadd, 1) := by decide +kernel
theorem dJ6_bitCount_0f7a4_29 : decode cJ6_bitCount_0f7a4 29 = .ok (.ldc_w 267, 3) := by decide +kernel
theorem dJ6_bitCount_0f7a4_32 : decode cJ6_bitCount_0f7a4 32 = .ok (.iand, 1) := by decide +kernel
theorem dJ6_bitCount_0f7a4_33 : decode cJ6_bitCount_0f7a4 33 = .ok (.istore_n 0, 1) := by decide +kernel
theorem dJ6_bitCount_0f7a4_34 : decode cJ6_bitCount_0f7a4 34 = .ok (.iload_n 0, 1) := by decide +kernel
theorem dJ6_bitCount_0f7a4_35 : decode cJ6_bitCount_0f7a4 35 = .ok (.iload_n 0, 1) := by decide +kernel
theorem dJ6_bitCount_0f7a4_36 : decode cJ6_bitCount_0f7a4 36 = .ok (.bipush 8, 2) := by decide +kernel
theorem dJ6_bitCount_0f7a4_38 : decode cJ6_bitCount_0f7a4 38 = .ok (.iushr, 1) := by decide +kernel
theorem dJ6_bitCount_0f7a4_39 : decode cJ6_bitCount_0f7a4 39 = .ok (.iadd, 1) := by decide +kernel
theorem dJ6_bitCount_0f7a4_40 : decode cJ6_bitCount_0f7a4 40 = .ok (.istore_n 0, 1) := by decide +kernel
theorem dJ6_bitCount_0f7a4_41 : decode cJ6_bitCount_0f7a4 41 = .ok (.iload_n 0, 1) := by decide +kernel
theorem dJ6_bitCount_0f7a4_42 : decode cJ6_bitCount_0f7a4 42 = .ok (.iload_n 0, 1) := by decide +kernel
theorem dJ6_bitCount_0f7a4_43 : decode cJ6_bitCount_0f7a4 43 = .ok (.bipush 16, 2) := by decide +kernel
theorem dJ6_bitCount_0f7a4_45 : decode cJ6_bitCount_0f7a4 45 = .ok (.iushr, 1) := by decide +kernel
theorem dJ6_bitCount_0f7a4_46 : decode cJ6_bitCount_0f7a4 46 = .ok (.iadd, 1) := by decide +kernel
theorem dJ6_bitCount_0f7a4_47 : decode cJ6_bitCount_0f7a4 47 = .ok (.istore_n 0, 1) := by decide +kernel
theorem dJ6_bitCount_0f7a4_48 : decode cJ6_bitCount_0f7a4 48 = .ok (.iload_n 0, 1) := by decide +kernel
theorem dJ6_bitCount_0f7a4_49 : decode cJ6_bitCount_0f7a4 49 = .ok (.bipush 63, 2) := by decide +kernel
theorem dJ6_bitCount_0f7a4_51 : decode cJ6_bitCount_0f7a4 51 = .ok (.iand, 1) := by decide +kernel
theorem dJ6_bitCount_0f7a4_52 : decode cJ6_bitCount_0f7a4 52 = .ok (.ireturn, 1) := by decide +kernel
theorem dJ7_fill_d0a16_0 : decode cJ7_fill_d0a16 0 = .ok (.iconst 0, 1) := by decide +kernel
theorem dJ7_fill_d0a16_1 : decode cJ7_fill_d0a16 1 = .ok (.istore_n 3, 1) := by decide +kernel
theorem dJ7_fill_d0a16_2 : decode cJ7_fill_d0a16 2 = .ok (.aload_n 0, 1) := by decide +kernel
theorem dJ7_fill_d0a16_3 : decode cJ7_fill_d0a16 3 = .ok (.arraylength, 1) := by decide +kernel
theorem dJ7_fill_d0a16_4 : decode cJ7_fill_d0a16 4 = .ok (.istore 4, 2) := by decide +kernel
theorem dJ7_fill_d0a16_6 : decode cJ7_fill_d0a16 6 = .ok (.iload_n 3, 1) := by decide +kernel
theorem dJ7_fill_d0a16_7 : decode cJ7_fill_d0a16 7 = .ok (.iload 4, 2) := by decide +kernel
theorem dJ7_fill_d0a16_9 : decode cJ7_fill_d0a16 9 = .ok (.if_icmp .ge 13, 3) := by decide +kernel
theorem dJ7_fill_d0a16_12 : decode cJ7_fill_d0a16 12 = .ok (.aload_n 0, 1) := by decide +kernel
theorem dJ7_fill_d0a16_13 : decode cJ7_fill_d0a16 13 = .ok (.iload_n 3, 1) := by decide +kernel
theorem dJ7_fill_d0a16_14 : decode cJ7_fill_d0a16 14 = .ok (.lload_n 1, 1) := by decide +kernel
theorem dJ7_fill_d0a16_15 : decode cJ7_fill_d0a16 15 = .ok (.lastore, 1) := by decide +kernel
theorem dJ7_fill_d0a16_16 : decode cJ7_fill_d0a16 16 = .ok (.iinc 3 1, 3) := by decide +kernel
theorem dJ7_fill_d0a16_19 : decode cJ7_fill_d0a16 19 = .ok (.goto (-13), 3) := by decide +kernel
theorem dJ7_fill_d0a16_22 : decode cJ7_fill_d0a16 22 = .ok (.return_, 1) := by decide +kernel
theorem dJ9_floorMod_7cf53_0 : decode cJ9_floorMod_7cf53 0 = .ok (.iload_n 0, 1) := by decide +kernel
theorem dJ9_floorMod_7cf53_1 : decode cJ9_floorMod_7cf53 1 = .ok (.iload_n 1, 1) := by decide +kernel
theorem dJ9_floorMod_7cf53_2 : decode cJ9_floorMod_7cf53 2 = .ok (.irem, 1) := by decide +kernel
theorem dJ9_floorMod_7cf53_3 : decode cJ9_floorMod_7cf53 3 = .ok (.istore_n 2, 1) := by decide +kernel
theorem dJ9_floorMod_7cf53_4 : decode cJ9_floorMod_7cf53 4 = .ok (.iload_n 0, 1) := by decide +kernel
theorem dJ9_floorMod_7cf53_5 : decode cJ9_floorMod_7cf53 5 = .ok (.iload_n 1, 1) := by decide +kernel
theorem dJ9_floorMod_7cf53_6 : decode cJ9_floorMod_7cf53 6 = .ok (.ixor, 1) := by decide +kernel
theorem dJ9_floorMod_7cf53_7 : decode cJ9_floorMod_7cf53 7 = .ok (.ifCond .ge 11, 3) := by decide +kernel
theorem dJ9_floorMod_7cf53_10 : decode cJ9_floorMod_7cf53 10 = .ok (.iload_n 2, 1) := by decide +kernel
theorem dJ9_floorMod_7cf53_11 : decode cJ9_floorMod_7cf53 11 = .ok (.ifCond .eq 7, 3) := by decide +kernel
theorem dJ9_floorMod_7cf53_14 : decode cJ9_floorMod_7cf53 14 = .ok (.iload_n 2, 1) := by decide +kernel
theorem dJ9_floorMod_7cf53_15 : decode cJ9_floorMod_7cf53 15 = .ok (.iload_n 1, 1) := by decide +kernel
theorem dJ9_floorMod_7cf53_16 : decode cJ9_floorMod_7cf53 16 = .ok (.iadd, 1) := by decide +kernel
theorem dJ9_floorMod_7cf53_17 : decode cJ9_floorMod_7cf53 17 = .ok (.ireturn, 1) := by decide +kernel
theorem dJ9_floorMod_7cf53_18 : decode cJ9_floorMod_7cf53 18 = .ok (.iload_n 2, 1) := by decide +kernel
theorem dJ9_floorMod_7cf53_19 : decode cJ9_floorMod_7cf53 19 = .ok (.ireturn, 1) := by decide +kernel
theorem dJ9_max_7cf53_0 : decode cJ9_max_7cf53 0 = .ok (.iload_n 0, 1) := by decide +kernel
theorem dJ9_max_7cf53_1 : decode cJ9_max_7cf53 1 = .ok (.iload_n 1, 1) := by decide +kernel
theorem dJ9_max_7cf53_2 : decode cJ9_max_7cf53 2 = .ok (.if_icmp .lt 7, 3) := by decide +kernel
theorem dJ9_max_7cf53_5 : decode cJ9_max_7cf53 5 = .ok (.iload_n 0, 1) := by decide +kernel
theorem dJ9_max_7cf53_6 : decode cJ9_max_7cf53 6 = .ok (.goto 4, 3) := by decide +kernel
theorem dJ9_max_7cf53_9 : decode cJ9_max_7cf53 9 = .ok (.iload_n 1, 1) := by decide +kernel
theorem dJ9_max_7cf53_10 : decode cJ9_max_7cf53 10 = .ok (.ireturn, 1) := by decide +kernel
theorem dJ9_min_7cf53_0 : decode cJ9_min_7cf53 0 = .ok (.iload_n 0, 1) := by decide +kernel
theorem dJ9_min_7cf53_1 : decode cJ9_min_7cf53 1 = .ok (.iload_n 1, 1) := by decide +kernel
theorem dJ9_min_7cf53_2 : decode cJ9_min_7cf53 2 = .ok (.if_icmp .gt 7, 3) := by decide +kernel
theorem dJ9_min_7cf53_5 : decode cJ9_min_7cf53 5 = .ok (.iload_n 0, 1) := by decide +kernel
theorem dJ9_min_7cf53_6 : decode cJ9_min_7cf53 6 = .ok (.goto 4, 3) := by decide +kernel
theorem dJ9_min_7cf53_9 : decode cJ9_min_7cf53 9 = .ok (.iload_n 1, 1) := by decide +kernel
theorem dJ9_min_7cf53_10 : decode cJ9_min_7cf53 10 = .ok (.ireturn, 1) := by decide +kernel
theorem dL_law_0 : decode cL_law 0 = .ok (.new 7, 3) := by decide +kernel
theorem dL_law_3 : decode cL_law 3 = .ok (.dup, 1) := by decide +kernel
theorem dL_law_4 : decode cL_law 4 = .ok (.invokespecial 9, 3) := by decide +kernel
theorem dL_law_7 : decode cL_law 7 = .ok (.astore_n 1, 1) := by decide +kernel
theorem dL_law_8 : decode cL_law 8 = .ok (.new 10, 3) := by decide +kernel
theorem dL_law_11 : decode cL_law 11 = .ok (.dup, 1) := by decide +kernel
theorem dL_law_12 : decode cL_law 12 = .ok (.invokespecial 12, 3) := by decide +kernel
theorem dL_law_15 : decode cL_law 15 = .ok (.astore_n 2, 1) := by decide +kernel
theorem dL_law_16 : decode cL_law 16 = .ok (.iconst 0, 1) := by decide +kernel
theorem dL_law_17 : decode cL_law 17 = .ok (.istore_n 3, 1) := by decide +kernel
theorem dL_law_18 : decode cL_law 18 = .ok (.iload_n 3, 1) := by decide +kernel
theorem dL_law_19 : decode cL_law 19 = .ok (.aload_n 0, 1) := by decide +kernel
theorem dL_law_20 : decode cL_law 20 = .ok (.arraylength, 1) := by decide +kernel
theorem dL_law_21 : decode cL_law 21 = .ok (.bipush 6, 2) := by decide +kernel
theorem dL_law_23 : decode cL_law 23 = .ok (.isub, 1) := by decide +kernel
theorem dL_law_24 : decode cL_law 24 = .ok (.if_icmp .gt 1193, 3) := by decide +kernel
theorem dL_law_27 : decode cL_law 27 = .ok (.aload_n 0, 1) := by decide +kernel
theorem dL_law_28 : decode cL_law 28 = .ok (.iload_n 3, 1) := by decide +kernel
theorem dL_law_29 : decode cL_law 29 = .ok (.iaload, 1) := by decide +kernel
theorem dL_law_30 : decode cL_law 30 = .ok (.bipush 63, 2) := by decide +kernel
theorem dL_law_32 : decode cL_law 32 = .ok (.iand, 1) := by decide +kernel
theorem dL_law_33 : decode cL_law 33 = .ok (.tableswitch 1178 0 35 #[159, 192, 235, 258, 281, 314, 357, 390, 423, 436, 459, 492, 535, 558, 581, 594, 617, 650, 683, 706, 729, 752, 775, 808, 821, 834, 877, 951, 1014, 1037, 1060, 1093, 1106, 1119, 1132, 1155], 159) := by decide +kernel
theorem dL_law_192 : decode cL_law 192 = .ok (.aload_n 1, 1) := by decide +kernel
theorem dL_law_193 : decode cL_law 193 = .ok (.aload_n 0, 1) := by decide +kernel
theorem dL_law_194 : decode cL_law 194 = .ok (.iload_n 3, 1) := by decide +kernel
theorem dL_law_195 : decode cL_law 195 = .ok (.iconst 1, 1) := by decide +kernel
theorem dL_law_196 : decode cL_law 196 = .ok (.iadd, 1) := by decide +kernel
theorem dL_law_197 : decode cL_law 197 = .ok (.iaload, 1) := by decide +kernel
theorem dL_law_198 : decode cL_law 198 = .ok (.aload_n 0, 1) := by decide +kernel
theorem dL_law_199 : decode cL_law 199 = .ok (.iload_n 3, 1) := by decide +kernel
theorem dL_law_200 : decode cL_law 200 = .ok (.iconst 2, 1) := by decide +kernel
theorem dL_law_201 : decode cL_law 201 = .ok (.iadd, 1) := by decide +kernel
theorem dL_law_202 : decode cL_law 202 = .ok (.iaload, 1) := by decide +kernel
theorem dL_law_203 : decode cL_law 203 = .ok (.invokevirtual 13, 3) := by decide +kernel
theorem dL_law_206 : decode cL_law 206 = .ok (.aload_n 2, 1) := by decide +kernel
theorem dL_law_207 : decode cL_law 207 = .ok (.aload_n 0, 1) := by decide +kernel
theorem dL_law_208 : decode cL_law 208 = .ok (.iload_n 3, 1) := by decide +kernel
theorem dL_law_209 : decode cL_law 209 = .ok (.iconst 1, 1) := by decide +kernel
theorem dL_law_210 : decode cL_law 210 = .ok (.iadd, 1) := by decide +kernel
theorem dL_law_211 : decode cL_law 211 = .ok (.iaload, 1) := by decide +kernel
theorem dL_law_212 : decode cL_law 212 = .ok (.aload_n 0, 1) := by decide +kernel
theorem dL_law_213 : decode cL_law 213 = .ok (.iload_n 3, 1) := by decide +kernel
theorem dL_law_214 : decode cL_law 214 = .ok (.iconst 2, 1) := by decide +kernel
theorem dL_law_215 : decode cL_law 215 = .ok (.iadd, 1) := by decide +kernel
theorem dL_law_216 : decode cL_law 216 = .ok (.iaload, 1) := by decide +kernel
theorem dL_law_217 : decode cL_law 217 = .ok (.invokevirtual 17, 3) := by decide +kernel
theorem dL_law_220 : decode cL_law 220 = .ok (.if_icmp .eq 991, 3) := by decide +kernel
theorem dL_law_223 : decode cL_law 223 = .ok (.iconst 0, 1) := by decide +kernel
theorem dL_law_224 : decode cL_law 224 = .ok (.ireturn, 1) := by decide +kernel
theorem dL_law_225 : decode cL_law 225 = .ok (.aload_n 1, 1) := by decide +kernel
theorem dL_law_226 : decode cL_law 226 = .ok (.aload_n 0, 1) := by decide +kernel
theorem dL_law_227 : decode cL_law 227 = .ok (.iload_n 3, 1) := by decide +kernel
theorem dL_law_228 : decode cL_law 228 = .ok (.iconst 1, 1) := by decide +kernel
theorem dL_law_229 : decode cL_law 229 = .ok (.iadd, 1) := by decide +kernel
theorem dL_law_230 : decode cL_law 230 = .ok (.iaload, 1) := by decide +kernel
theorem dL_law_231 : decode cL_law 231 = .ok (.aload_n 0, 1) := by decide +kernel
theorem dL_law_232 : decode cL_law 232 = .ok (.iload_n 3, 1) := by decide +kernel
theorem dL_law_233 : decode cL_law 233 = .ok (.iconst 2, 1) := by decide +kernel
theorem dL_law_234 : decode cL_law 234 = .ok (.iadd, 1) := by decide +kernel
theorem dL_law_235 : decode cL_law 235 = .ok (.iaload, 1) := by decide +kernel
theorem dL_law_236 : decode cL_law 236 = .ok (.aload_n 0, 1) := by decide +kernel
theorem dL_law_237 : decode cL_law 237 = .ok (.iload_n 3, 1) := by decide +kernel
theorem dL_law_238 : decode cL_law 238 = .ok (.iconst 3, 1) := by decide +kernel
theorem dL_law_239 : decode cL_law 239 = .ok (.iadd, 1) := by decide +kernel
theorem dL_law_240 : decode cL_law 240 = .ok (.iaload, 1) := by decide +kernel
theorem dL_law_241 : decode cL_law 241 = .ok (.invokevirtual 18, 3) := by decide +kernel
theorem dL_law_244 : decode cL_law 244 = .ok (.aload_n 2, 1) := by decide +kernel
theorem dL_law_245 : decode cL_law 245 = .ok (.aload_n 0, 1) := by decide +kernel
theorem dL_law_246 : decode cL_law 246 = .ok (.iload_n 3, 1) := by decide +kernel
theorem dL_law_247 : decode cL_law 247 = .ok (.iconst 1, 1) := by decide +kernel
theorem dL_law_248 : decode cL_law 248 = .ok (.iadd, 1) := by decide +kernel
theorem dL_law_249 : decode cL_law 249 = .ok (.iaload, 1) := by decide +kernel
theorem dL_law_250 : decode cL_law 250 = .ok (.aload_n 0, 1) := by decide +kernel
theorem dL_law_251 : decode cL_law 251 = .ok (.iload_n 3, 1) := by decide +kernel
theorem dL_law_252 : decode cL_law 252 = .ok (.iconst 2, 1) := by decide +kernel
theorem dL_law_253 : decode cL_law 253 = .ok (.iadd, 1) := by decide +kernel
theorem dL_law_254 : decode cL_law 254 = .ok (.iaload, 1) := by decide +kernel
theorem dL_law_255 : decode cL_law 255 = .ok (.aload_n 0, 1) := by decide +kernel
theorem dL_law_256 : decode cL_law 256 = .ok (.iload_n 3, 1) := by decide +kernel
theorem dL_law_257 : decode cL_law 257 = .ok (.iconst 3, 1) := by decide +kernel
theorem dL_law_258 : decode cL_law 258 = .ok (.iadd, 1) := by decide +kernel
theorem dL_law_259 : decode cL_law 259 = .ok (.iaload, 1) := by decide +kernel
theorem dL_law_260 : decode cL_law 260 = .ok (.invokevirtual 22, 3) := by decide +kernel
theorem dL_law_263 : decode cL_law 263 = .ok (.if_icmp .eq 948, 3) := by decide +kernel
theorem dL_law_266 : decode cL_law 266 = .ok (.iconst 0, 1) := by decide +kernel
theorem dL_law_267 : decode cL_law 267 = .ok (.ireturn, 1) := by decide +kernel
theorem dL_law_268 : decode cL_law 268 = .ok (.aload_n 1, 1) := by decide +kernel
theorem dL_law_269 : decode cL_law 269 = .ok (.aload_n 0, 1) := by decide +kernel
theorem dL_law_270 : decode cL_law 270 = .ok (.iload_n 3, 1) := by decide +kernel
theorem dL_law_271 : decode cL_law 271 = .ok (.iconst 1, 1) := by decide +kernel
theorem dL_law_272 : decode cL_law 272 = .ok (.iadd, 1) := by decide +kernel
theorem dL_law_273 : decode cL_law 273 = .ok (.iaload, 1) := by decide +kernel
theorem dL_law_274 : decode cL_law 274 = .ok (.invokevirtual 23, 3) := by decide +kernel
theorem dL_law_277 : decode cL_law 277 = .ok (.aload_n 2, 1) := by decide +kernel
theorem dL_law_278 : decode cL_law 278 = .ok (.aload_n 0, 1) := by decide +kernel
theorem dL_law_279 : decode cL_law 279 = .ok (.iload_n 3, 1) := by decide +kernel
theorem dL_law_280 : decode cL_law 280 = .ok (.iconst 1, 1) := by decide +kernel
theorem dL_law_281 : decode cL_law 281 = .ok (.iadd, 1) := by decide +kernel
theorem dL_law_282 : decode cL_law 282 = .ok (.iaload, 1) := by decide +kernel
theorem dL_law_283 : decode cL_law 283 = .ok (.invokevirtual 27, 3) := by decide +kernel
theorem dL_law_286 : decode cL_law 286 = .ok (.if_icmp .eq 925, 3) := by decide +kernel
theorem dL_law_289 : decode cL_law 289 = .ok (.iconst 0, 1) := by decide +kernel
theorem dL_law_290 : decode cL_law 290 = .ok (.ireturn, 1) := by decide +kernel
theorem dL_law_291 : decode cL_law 291 = .ok (.aload_n 1, 1) := by decide +kernel
theorem dL_law_292 : decode cL_law 292 = .ok (.aload_n 0, 1) := by decide +kernel
theorem dL_law_293 : decode cL_law 293 = .ok (.iload_n 3, 1) := by decide +kernel
theorem dL_law_294 : decode cL_law 294 = .ok (.iconst 1, 1) := by decide +kernel
theorem dL_law_295 : decode cL_law 295 = .ok (.iadd, 1) := by decide +kernel
theorem dL_law_296 : decode cL_law 296 = .ok (.iaload, 1) := by decide +kernel
theorem dL_law_297 : decode cL_law 297 = .ok (.invokevirtual 28, 3) := by decide +kernel
theorem dL_law_300 : decode cL_law 300 = .ok (.aload_n 2, 1) := by decide +kernel
theorem dL_law_301 : decode cL_law 301 = .ok (.aload_n 0, 1) := by decide +kernel
theorem dL_law_302 : decode cL_law 302 = .ok (.iload_n 3, 1) := by decide +kernel
theorem dL_law_303 : decode cL_law 303 = .ok (.iconst 1, 1) := by decide +kernel
theorem dL_law_304 : decode cL_law 304 = .ok (.iadd, 1) := by decide +kernel
theorem dL_law_305 : decode cL_law 305 = .ok (.iaload, 1) := by decide +kernel
theorem dL_law_306 : decode cL_law 306 = .ok (.invokevirtual 31, 3) := by decide +kernel
theorem dL_law_309 : decode cL_law 309 = .ok (.if_icmp .eq 902, 3) := by decide +kernel
theorem dL_law_312 : decode cL_law 312 = .ok (.iconst 0, 1) := by decide +kernel
theorem dL_law_313 : decode cL_law 313 = .ok (.ireturn, 1) := by decide +kernel
theorem dL_law_314 : decode cL_law 314 = .ok (.aload_n 1, 1) := by decide +kernel
theorem dL_law_315 : decode cL_law 315 = .ok (.aload_n 0, 1) := by decide +kernel
theorem dL_law_316 : decode cL_law 316 = .ok (.iload_n 3, 1) := by decide +kernel
theorem dL_law_317 : decode cL_law 317 = .ok (.iconst 1, 1) := by decide +kernel
theorem dL_law_318 : decode cL_law 318 = .ok (.iadd, 1) := by decide +kernel
theorem dL_law_319 : decode cL_law 319 = .ok (.iaload, 1) := by decide +kernel
theorem dL_law_320 : decode cL_law 320 = .ok (.aload_n 0, 1) := by decide +kernel
theorem dL_law_321 : decode cL_law 321 = .ok (.iload_n 3, 1) := by decide +kernel
theorem dL_law_322 : decode cL_law 322 = .ok (.iconst 2, 1) := by decide +kernel
theorem dL_law_323 : decode cL_law 323 = .ok (.iadd, 1) := by decide +kernel
theorem dL_law_324 : decode cL_law 324 = .ok (.iaload, 1) := by decide +kernel
theorem dL_law_325 : decode cL_law 325 = .ok (.invokevirtual 32, 3) := by decide +kernel
theorem dL_law_328 : decode cL_law 328 = .ok (.aload_n 2, 1) := by decide +kernel
theorem dL_law_329 : decode cL_law 329 = .ok (.aload_n 0, 1) := by decide +kernel
theorem dL_law_330 : decode cL_law 330 = .ok (.iload_n 3, 1) := by decide +kernel
theorem dL_law_331 : decode cL_law 331 = .ok (.iconst 1, 1) := by decide +kernel
theorem dL_law_332 : decode cL_law 332 = .ok (.iadd, 1) := by decide +kernel
theorem dL_law_333 : decode cL_law 333 = .ok (.iaload, 1) := by decide +kernel
theorem dL_law_334 : decode cL_law 334 = .ok (.aload_n 0, 1) := by decide +kernel
theorem dL_law_335 : decode cL_law 335 = .ok (.iload_n 3, 1) := by decide +kernel
theorem dL_law_336 : decode cL_law 336 = .ok (.iconst 2, 1) := by decide +kernel
theorem dL_law_337 : decode cL_law 337 = .ok (.iadd, 1) := by decide +kernel
theorem dL_law_338 : decode cL_law 338 = .ok (.iaload, 1) := by decide +kernel
theorem dL_law_339 : decode cL_law 339 = .ok (.invokevirtual 35, 3) := by decide +kernel
theorem dL_law_342 : decode cL_law 342 = .ok (.if_icmp .eq 869, 3) := by decide +kernel
theorem dL_law_345 : decode cL_law 345 = .ok (.iconst 0, 1) := by decide +kernel
theorem dL_law_346 : decode cL_law 346 = .ok (.ireturn, 1) := by decide +kernel
theorem dL_law_347 : decode cL_law 347 = .ok (.aload_n 1, 1) := by decide +kernel
theorem dL_law_348 : decode cL_law 348 = .ok (.aload_n 0, 1) := by decide +kernel
theorem dL_law_349 : decode cL_law 349 = .ok (.iload_n 3, 1) := by decide +kernel
theorem dL_law_350 : decode cL_law 350 = .ok (.iconst 1, 1) := by decide +kernel
theorem dL_law_351 : decode cL_law 351 = .ok (.iadd, 1) := by decide +kernel
theorem dL_law_352 : decode cL_law 352 = .ok (.iaload, 1) := by decide +kernel
theorem dL_law_353 : decode cL_law 353 = .ok (.aload_n 0, 1) := by decide +kernel
theorem dL_law_354 : decode cL_law 354 = .ok (.iload_n 3, 1) := by decide +kernel
theorem dL_law_355 : decode cL_law 355 = .ok (.iconst 2, 1) := by decide +kernel
theorem dL_law_356 : decode cL_law 356 = .ok (.iadd, 1) := by decide +kernel
theorem dL_law_357 : decode cL_law 357 = .ok (.iaload, 1) := by decide +kernel
theorem dL_law_358 : decode cL_law 358 = .ok (.aload_n 0, 1) := by decide +kernel
theorem dL_law_359 : decode cL_law 359 = .ok (.iload_n 3, 1) := by decide +kernel
theorem dL_law_360 : decode cL_law 360 = .ok (.iconst 3, 1) := by decide +kernel
theorem dL_law_361 : decode cL_law 361 = .ok (.iadd, 1) := by decide +kernel
theorem dL_law_362 : decode cL_law 362 = .ok (.iaload, 1) := by decide +kernel
theorem dL_law_363 : decode cL_law 363 = .ok (.invokevirtual 36, 3) := by decide +kernel
theorem dL_law_366 : decode cL_law 366 = .ok (.aload_n 2, 1) := by decide +kernel
theorem dL_law_367 : decode cL_law 367 = .ok (.aload_n 0, 1) := by decide +kernel
theorem dL_law_368 : decode cL_law 368 = .ok (.iload_n 3, 1) := by decide +kernel
theorem dL_law_369 : decode cL_law 369 = .ok (.iconst 1, 1) := by decide +kernel
theorem dL_law_370 : decode cL_law 370 = .ok (.iadd, 1) := by decide +kernel
theorem dL_law_371 : decode cL_law 371 = .ok (.iaload, 1) := by decide +kernel
theorem dL_law_372 : decode cL_law 372 = .ok (.aload_n 0, 1) := by decide +kernel
theorem dL_law_373 : decode cL_law 373 = .ok (.iload_n 3, 1) := by decide +kernel
theorem dL_law_374 : decode cL_law 374 = .ok (.iconst 2, 1) := by decide +kernel
theorem dL_law_375 : decode cL_law 375 = .ok (.iadd, 1) := by decide +kernel
theorem dL_law_376 : decode cL_law 376 = .ok (.iaload, 1) := by decide +kernel
theorem dL_law_377 : decode cL_law 377 = .ok (.aload_n 0, 1) := by decide +kernel
theorem dL_law_378 : decode cL_law 378 = .ok (.iload_n 3, 1) := by decide +kernel
theorem dL_law_379 : decode cL_law 379 = .ok (.iconst 3, 1) := by decide +kernel
theorem dL_law_380 : decode cL_law 380 = .ok (.iadd, 1) := by decide +kernel
theorem dL_law_381 : decode cL_law 381 = .ok (.iaload, 1) := by decide +kernel
theorem dL_law_382 : decode cL_law 382 = .ok (.invokevirtual 39, 3) := by decide +kernel
theorem dL_law_385 : decode cL_law 385 = .ok (.if_icmp .eq 826, 3) := by decide +kernel
theorem dL_law_388 : decode cL_law 388 = .ok (.iconst 0, 1) := by decide +kernel
theorem dL_law_389 : decode cL_law 389 = .ok (.ireturn, 1) := by decide +kernel
theorem dL_law_390 : decode cL_law 390 = .ok (.aload_n 1, 1) := by decide +kernel
theorem dL_law_391 : decode cL_law 391 = .ok (.aload_n 0, 1) := by decide +kernel
theorem dL_law_392 : decode cL_law 392 = .ok (.iload_n 3, 1) := by decide +kernel
theorem dL_law_393 : decode cL_law 393 = .ok (.iconst 1, 1) := by decide +kernel
theorem dL_law_394 : decode cL_law 394 = .ok (.iadd, 1) := by decide +kernel
theorem dL_law_395 : decode cL_law 395 = .ok (.iaload, 1) := by decide +kernel
theorem dL_law_396 : decode cL_law 396 = .ok (.aload_n 0, 1) := by decide +kernel
theorem dL_law_397 : decode cL_law 397 = .ok (.iload_n 3, 1) := by decide +kernel
theorem dL_law_398 : decode cL_law 398 = .ok (.iconst 2, 1) := by decide +kernel
theorem dL_law_399 : decode cL_law 399 = .ok (.iadd, 1) := by decide +kernel
theorem dL_law_400 : decode cL_law 400 = .ok (.iaload, 1) := by decide +kernel
theorem dL_law_401 : decode cL_law 401 = .ok (.invokevirtual 40, 3) := by decide +kernel
theorem dL_law_404 : decode cL_law 404 = .ok (.aload_n 2, 1) := by decide +kernel
theorem dL_law_405 : decode cL_law 405 = .ok (.aload_n 0, 1) := by decide +kernel
theorem dL_law_406 : decode cL_law 406 = .ok (.iload_n 3, 1) := by decide +kernel
theorem dL_law_407 : decode cL_law 407 = .ok (.iconst 1, 1) := by decide +kernel
theorem dL_law_408 : decode cL_law 408 = .ok (.iadd, 1) := by decide +kernel
theorem dL_law_409 : decode cL_law 409 = .ok (.iaload, 1) := by decide +kernel
theorem dL_law_410 : decode cL_law 410 = .ok (.aload_n 0, 1) := by decide +kernel
theorem dL_law_411 : decode cL_law 411 = .ok (.iload_n 3, 1) := by decide +kernel
theorem dL_law_412 : decode cL_law 412 = .ok (.iconst 2, 1) := by decide +kernel
theorem dL_law_413 : decode cL_law 413 = .ok (.iadd, 1) := by decide +kernel
theorem dL_law_414 : decode cL_law 414 = .ok (.iaload, 1) := by decide +kernel
theorem dL_law_415 : decode cL_law 415 = .ok (.invokevirtual 43, 3) := by decide +kernel
theorem dL_law_418 : decode cL_law 418 = .ok (.if_icmp .eq 793, 3) := by decide +kernel
theorem dL_law_421 : decode cL_law 421 = .ok (.iconst 0, 1) := by decide +kernel
theorem dL_law_422 : decode cL_law 422 = .ok (.ireturn, 1) := by decide +kernel
theorem dL_law_423 : decode cL_law 423 = .ok (.aload_n 1, 1) := by decide +kernel
theorem dL_law_424 : decode cL_law 424 = .ok (.aload_n 0, 1) := by decide +kernel
theorem dL_law_425 : decode cL_law 425 = .ok (.iload_n 3, 1) := by decide +kernel
theorem dL_law_426 : decode cL_law 426 = .ok (.iconst 1, 1) := by decide +kernel
theorem dL_law_427 : decode cL_law 427 = .ok (.iadd, 1) := by decide +kernel
theorem dL_law_428 : decode cL_law 428 = .ok (.iaload, 1) := by decide +kernel
theorem dL_law_429 : decode cL_law 429 = .ok (.aload_n 0, 1) := by decide +kernel
theorem dL_law_430 : decode cL_law 430 = .ok (.iload_n 3, 1) := by decide +kernel
theorem dL_law_431 : decode cL_law 431 = .ok (.iconst 2, 1) := by decide +kernel
theorem dL_law_432 : decode cL_law 432 = .ok (.iadd, 1) := by decide +kernel
theorem dL_law_433 : decode cL_law 433 = .ok (.iaload, 1) := by decide +kernel
theorem dL_law_434 : decode cL_law 434 = .ok (.invokevirtual 44, 3) := by decide +kernel
theorem dL_law_437 : decode cL_law 437 = .ok (.aload_n 2, 1) := by decide +kernel
theorem dL_law_438 : decode cL_law 438 = .ok (.aload_n 0, 1) := by decide +kernel
theorem dL_law_439 : decode cL_law 439 = .ok (.iload_n 3, 1) := by decide +kernel
theorem dL_law_440 : decode cL_law 440 = .ok (.iconst 1, 1) := by decide +kernel
theorem dL_law_441 : decode cL_law 441 = .ok (.iadd, 1) := by decide +kernel
theorem dL_law_442 : decode cL_law 442 = .ok (.iaload, 1) := by decide +kernel
theorem dL_law_443 : decode cL_law 443 = .ok (.aload_n 0, 1) := by decide +kernel
theorem dL_law_444 : decode cL_law 444 = .ok (.iload_n 3, 1) := by decide +kernel
theorem dL_law_445 : decode cL_law 445 = .ok (.iconst 2, 1) := by decide +kernel
theorem dL_law_446 : decode cL_law 446 = .ok (.iadd, 1) := by decide +kernel
theorem dL_law_447 : decode cL_law 447 = .ok (.iaload, 1) := by decide +kernel
theorem dL_law_448 : decode cL_law 448 = .ok (.invokevirtual 47, 3) := by decide +kernel
theorem dL_law_451 : decode cL_law 451 = .ok (.if_icmp .eq 760, 3) := by decide +kernel
theorem dL_law_454 : decode cL_law 454 = .ok (.iconst 0, 1) := by decide +kernel
theorem dL_law_455 : decode cL_law 455 = .ok (.ireturn, 1) := by decide +kernel
theorem dL_law_456 : decode cL_law 456 = .ok (.aload_n 1, 1) := by decide +kernel
theorem dL_law_457 : decode cL_law 457 = .ok (.invokevirtual 48, 3) := by decide +kernel
theorem dL_law_460 : decode cL_law 460 = .ok (.aload_n 2, 1) := by decide +kernel
theorem dL_law_461 : decode cL_law 461 = .ok (.invokevirtual 52, 3) := by decide +kernel
theorem dL_law_464 : decode cL_law 464 = .ok (.if_icmp .eq 747, 3) := by decide +kernel
theorem dL_law_467 : decode cL_law 467 = .ok (.iconst 0, 1) := by decide +kernel
theorem dL_law_468 : decode cL_law 468 = .ok (.ireturn, 1) := by decide +kernel
theorem dL_law_469 : decode cL_law 469 = .ok (.aload_n 1, 1) := by decide +kernel
theorem dL_law_470 : decode cL_law 470 = .ok (.aload_n 0, 1) := by decide +kernel
theorem dL_law_471 : decode cL_law 471 = .ok (.iload_n 3, 1) := by decide +kernel
theorem dL_law_472 : decode cL_law 472 = .ok (.iconst 1, 1) := by decide +kernel
theorem dL_law_473 : decode cL_law 473 = .ok (.iadd, 1) := by decide +kernel
theorem dL_law_474 : decode cL_law 474 = .ok (.iaload, 1) := by decide +kernel
theorem dL_law_475 : decode cL_law 475 = .ok (.invokevirtual 53, 3) := by decide +kernel
theorem dL_law_478 : decode cL_law 478 = .ok (.aload_n 2, 1) := by decide +kernel
theorem dL_law_479 : decode cL_law 479 = .ok (.aload_n 0, 1) := by decide +kernel
theorem dL_law_480 : decode cL_law 480 = .ok (.iload_n 3, 1) := by decide +kernel
theorem dL_law_481 : decode cL_law 481 = .ok (.iconst 1, 1) := by decide +kernel
theorem dL_law_482 : decode cL_law 482 = .ok (.iadd, 1) := by decide +kernel
theorem dL_law_483 : decode cL_law 483 = .ok (.iaload, 1) := by decide +kernel
theorem dL_law_484 : decode cL_law 484 = .ok (.invokevirtual 56, 3) := by decide +kernel
theorem dL_law_487 : decode cL_law 487 = .ok (.if_icmp .eq 724, 3) := by decide +kernel
theorem dL_law_490 : decode cL_law 490 = .ok (.iconst 0, 1) := by decide +kernel
theorem dL_law_491 : decode cL_law 491 = .ok (.ireturn, 1) := by decide +kernel
theorem dL_law_492 : decode cL_law 492 = .ok (.aload_n 1, 1) := by decide +kernel
theorem dL_law_493 : decode cL_law 493 = .ok (.aload_n 0, 1) := by decide +kernel
theorem dL_law_494 : decode cL_law 494 = .ok (.iload_n 3, 1) := by decide +kernel
theorem dL_law_495 : decode cL_law 495 = .ok (.iconst 1, 1) := by decide +kernel
theorem dL_law_496 : decode cL_law 496 = .ok (.iadd, 1) := by decide +kernel
theorem dL_law_497 : decode cL_law 497 = .ok (.iaload, 1) := by decide +kernel
theorem dL_law_498 : decode cL_law 498 = .ok (.aload_n 0, 1) := by decide +kernel
theorem dL_law_499 : decode cL_law 499 = .ok (.iload_n 3, 1) := by decide +kernel
theorem dL_law_500 : decode cL_law 500 = .ok (.iconst 2, 1) := by decide +kernel
theorem dL_law_501 : decode cL_law 501 = .ok (.iadd, 1) := by decide +kernel
theorem dL_law_502 : decode cL_law 502 = .ok (.iaload, 1) := by decide +kernel
theorem dL_law_503 : decode cL_law 503 = .ok (.invokevirtual 57, 3) := by decide +kernel
theorem dL_law_506 : decode cL_law 506 = .ok (.aload_n 2, 1) := by decide +kernel
theorem dL_law_507 : decode cL_law 507 = .ok (.aload_n 0, 1) := by decide +kernel
theorem dL_law_508 : decode cL_law 508 = .ok (.iload_n 3, 1) := by decide +kernel
theorem dL_law_509 : decode cL_law 509 = .ok (.iconst 1, 1) := by decide +kernel
theorem dL_law_510 : decode cL_law 510 = .ok (.iadd, 1) := by decide +kernel
theorem dL_law_511 : decode cL_law 511 = .ok (.iaload, 1) := by decide +kernel
theorem dL_law_512 : decode cL_law 512 = .ok (.aload_n 0, 1) := by decide +kernel
theorem dL_law_513 : decode cL_law 513 = .ok (.iload_n 3, 1) := by decide +kernel
theorem dL_law_514 : decode cL_law 514 = .ok (.iconst 2, 1) := by decide +kernel
theorem dL_law_515 : decode cL_law 515 = .ok (.iadd, 1) := by decide +kernel
theorem dL_law_516 : decode cL_law 516 = .ok (.iaload, 1) := by decide +kernel
theorem dL_law_517 : decode cL_law 517 = .ok (.invokevirtual 60, 3) := by decide +kernel
theorem dL_law_520 : decode cL_law 520 = .ok (.if_icmp .eq 691, 3) := by decide +kernel
theorem dL_law_523 : decode cL_law 523 = .ok (.iconst 0, 1) := by decide +kernel
theorem dL_law_524 : decode cL_law 524 = .ok (.ireturn, 1) := by decide +kernel
theorem dL_law_525 : decode cL_law 525 = .ok (.aload_n 1, 1) := by decide +kernel
theorem dL_law_526 : decode cL_law 526 = .ok (.aload_n 0, 1) := by decide +kernel
theorem dL_law_527 : decode cL_law 527 = .ok (.iload_n 3, 1) := by decide +kernel
theorem dL_law_528 : decode cL_law 528 = .ok (.iconst 1, 1) := by decide +kernel
theorem dL_law_529 : decode cL_law 529 = .ok (.iadd, 1) := by decide +kernel
theorem dL_law_530 : decode cL_law 530 = .ok (.iaload, 1) := by decide +kernel
theorem dL_law_531 : decode cL_law 531 = .ok (.aload_n 0, 1) := by decide +kernel
theorem dL_law_532 : decode cL_law 532 = .ok (.iload_n 3, 1) := by decide +kernel
theorem dL_law_533 : decode cL_law 533 = .ok (.iconst 2, 1) := by decide +kernel
theorem dL_law_534 : decode cL_law 534 = .ok (.iadd, 1) := by decide +kernel
theorem dL_law_535 : decode cL_law 535 = .ok (.iaload, 1) := by decide +kernel
theorem dL_law_536 : decode cL_law 536 = .ok (.aload_n 0, 1) := by decide +kernel
theorem dL_law_537 : decode cL_law 537 = .ok (.iload_n 3, 1) := by decide +kernel
theorem dL_law_538 : decode cL_law 538 = .ok (.iconst 3, 1) := by decide +kernel
theorem dL_law_539 : decode cL_law 539 = .ok (.iadd, 1) := by decide +kernel
theorem dL_law_540 : decode cL_law 540 = .ok (.iaload, 1) := by decide +kernel
theorem dL_law_541 : decode cL_law 541 = .ok (.invokevirtual 61, 3) := by decide +kernel
theorem dL_law_544 : decode cL_law 544 = .ok (.aload_n 2, 1) := by decide +kernel
theorem dL_law_545 : decode cL_law 545 = .ok (.aload_n 0, 1) := by decide +kernel
theorem dL_law_546 : decode cL_law 546 = .ok (.iload_n 3, 1) := by decide +kernel
theorem dL_law_547 : decode cL_law 547 = .ok (.iconst 1, 1) := by decide +kernel
theorem dL_law_548 : decode cL_law 548 = .ok (.iadd, 1) := by decide +kernel
theorem dL_law_549 : decode cL_law 549 = .ok (.iaload, 1) := by decide +kernel
theorem dL_law_550 : decode cL_law 550 = .ok (.aload_n 0, 1) := by decide +kernel
theorem dL_law_551 : decode cL_law 551 = .ok (.iload_n 3, 1) := by decide +kernel
theorem dL_law_552 : decode cL_law 552 = .ok (.iconst 2, 1) := by decide +kernel
theorem dL_law_553 : decode cL_law 553 = .ok (.iadd, 1) := by decide +kernel
theorem dL_law_554 : decode cL_law 554 = .ok (.iaload, 1) := by decide +kernel
theorem dL_law_555 : decode cL_law 555 = .ok (.aload_n 0, 1) := by decide +kernel
theorem dL_law_556 : decode cL_law 556 = .ok (.iload_n 3, 1) := by decide +kernel
theorem dL_law_557 : decode cL_law 557 = .ok (.iconst 3, 1) := by decide +kernel
theorem dL_law_558 : decode cL_law 558 = .ok (.iadd, 1) := by decide +kernel
theorem dL_law_559 : decode cL_law 559 = .ok (.iaload, 1) := by decide +kernel
theorem dL_law_560 : decode cL_law 560 = .ok (.invokevirtual 64, 3) := by decide +kernel
theorem dL_law_563 : decode cL_law 563 = .ok (.if_icmp .eq 648, 3) := by decide +kernel
theorem dL_law_566 : decode cL_law 566 = .ok (.iconst 0, 1) := by decide +kernel
theorem dL_law_567 : decode cL_law 567 = .ok (.ireturn, 1) := by decide +kernel
theorem dL_law_568 : decode cL_law 568 = .ok (.aload_n 1, 1) := by decide +kernel
theorem dL_law_569 : decode cL_law 569 = .ok (.aload_n 0, 1) := by decide +kernel
theorem dL_law_570 : decode cL_law 570 = .ok (.iload_n 3, 1) := by decide +kernel
theorem dL_law_571 : decode cL_law 571 = .ok (.iconst 1, 1) := by decide +kernel
theorem dL_law_572 : decode cL_law 572 = .ok (.iadd, 1) := by decide +kernel
theorem dL_law_573 : decode cL_law 573 = .ok (.iaload, 1) := by decide +kernel
theorem dL_law_574 : decode cL_law 574 = .ok (.invokevirtual 65, 3) := by decide +kernel
theorem dL_law_577 : decode cL_law 577 = .ok (.aload_n 2, 1) := by decide +kernel
theorem dL_law_578 : decode cL_law 578 = .ok (.aload_n 0, 1) := by decide +kernel
theorem dL_law_579 : decode cL_law 579 = .ok (.iload_n 3, 1) := by decide +kernel
theorem dL_law_580 : decode cL_law 580 = .ok (.iconst 1, 1) := by decide +kernel
theorem dL_law_581 : decode cL_law 581 = .ok (.iadd, 1) := by decide +kernel
theorem dL_law_582 : decode cL_law 582 = .ok (.iaload, 1) := by decide +kernel
theorem dL_law_583 : decode cL_law 583 = .ok (.invokevirtual 68, 3) := by decide +kernel
theorem dL_law_586 : decode cL_law 586 = .ok (.if_icmp .eq 625, 3) := by decide +kernel
theorem dL_law_589 : decode cL_law 589 = .ok (.iconst 0, 1) := by decide +kernel
theorem dL_law_590 : decode cL_law 590 = .ok (.ireturn, 1) := by decide +kernel
theorem dL_law_591 : decode cL_law 591 = .ok (.aload_n 1, 1) := by decide +kernel
theorem dL_law_592 : decode cL_law 592 = .ok (.aload_n 0, 1) := by decide +kernel
theorem dL_law_593 : decode cL_law 593 = .ok (.iload_n 3, 1) := by decide +kernel
theorem dL_law_594 : decode cL_law 594 = .ok (.iconst 1, 1) := by decide +kernel
theorem dL_law_595 : decode cL_law 595 = .ok (.iadd, 1) := by decide +kernel
theorem dL_law_596 : decode cL_law 596 = .ok (.iaload, 1) := by decide +kernel
theorem dL_law_597 : decode cL_law 597 = .ok (.invokevirtual 69, 3) := by decide +kernel
theorem dL_law_600 : decode cL_law 600 = .ok (.aload_n 2, 1) := by decide +kernel
theorem dL_law_601 : decode cL_law 601 = .ok (.aload_n 0, 1) := by decide +kernel
theorem dL_law_602 : decode cL_law 602 = .ok (.iload_n 3, 1) := by decide +kernel
theorem dL_law_603 : decode cL_law 603 = .ok (.iconst 1, 1) := by decide +kernel
theorem dL_law_604 : decode cL_law 604 = .ok (.iadd, 1) := by decide +kernel
theorem dL_law_605 : decode cL_law 605 = .ok (.iaload, 1) := by decide +kernel
theorem dL_law_606 : decode cL_law 606 = .ok (.invokevirtual 72, 3) := by decide +kernel
theorem dL_law_609 : decode cL_law 609 = .ok (.if_icmp .eq 602, 3) := by decide +kernel
theorem dL_law_612 : decode cL_law 612 = .ok (.iconst 0, 1) := by decide +kernel
theorem dL_law_613 : decode cL_law 613 = .ok (.ireturn, 1) := by decide +kernel
theorem dL_law_614 : decode cL_law 614 = .ok (.aload_n 1, 1) := by decide +kernel
theorem dL_law_615 : decode cL_law 615 = .ok (.invokevirtual 73, 3) := by decide +kernel
theorem dL_law_618 : decode cL_law 618 = .ok (.aload_n 2, 1) := by decide +kernel
theorem dL_law_619 : decode cL_law 619 = .ok (.invokevirtual 76, 3) := by decide +kernel
theorem dL_law_622 : decode cL_law 622 = .ok (.if_icmp .eq 589, 3) := by decide +kernel
theorem dL_law_625 : decode cL_law 625 = .ok (.iconst 0, 1) := by decide +kernel
theorem dL_law_626 : decode cL_law 626 = .ok (.ireturn, 1) := by decide +kernel
theorem dL_law_627 : decode cL_law 627 = .ok (.aload_n 1, 1) := by decide +kernel
theorem dL_law_628 : decode cL_law 628 = .ok (.aload_n 0, 1) := by decide +kernel
theorem dL_law_629 : decode cL_law 629 = .ok (.iload_n 3, 1) := by decide +kernel
theorem dL_law_630 : decode cL_law 630 = .ok (.iconst 1, 1) := by decide +kernel
theorem dL_law_631 : decode cL_law 631 = .ok (.iadd, 1) := by decide +kernel
theorem dL_law_632 : decode cL_law 632 = .ok (.iaload, 1) := by decide +kernel
theorem dL_law_633 : decode cL_law 633 = .ok (.invokevirtual 77, 3) := by decide +kernel
theorem dL_law_636 : decode cL_law 636 = .ok (.aload_n 2, 1) := by decide +kernel
theorem dL_law_637 : decode cL_law 637 = .ok (.aload_n 0, 1) := by decide +kernel
theorem dL_law_638 : decode cL_law 638 = .ok (.iload_n 3, 1) := by decide +kernel
theorem dL_law_639 : decode cL_law 639 = .ok (.iconst 1, 1) := by decide +kernel
theorem dL_law_640 : decode cL_law 640 = .ok (.iadd, 1) := by decide +kernel
theorem dL_law_641 : decode cL_law 641 = .ok (.iaload, 1) := by decide +kernel
theorem dL_law_642 : decode cL_law 642 = .ok (.invokevirtual 80, 3) := by decide +kernel
theorem dL_law_645 : decode cL_law 645 = .ok (.if_icmp .eq 566, 3) := by decide +kernel
theorem dL_law_648 : decode cL_law 648 = .ok (.iconst 0, 1) := by decide +kernel
theorem dL_law_649 : decode cL_law 649 = .ok (.ireturn, 1) := by decide +kernel
theorem dL_law_650 : decode cL_law 650 = .ok (.aload_n 1, 1) := by decide +kernel
theorem dL_law_651 : decode cL_law 651 = .ok (.aload_n 0, 1) := by decide +kernel
theorem dL_law_652 : decode cL_law 652 = .ok (.iload_n 3, 1) := by decide +kernel
theorem dL_law_653 : decode cL_law 653 = .ok (.iconst 1, 1) := by decide +kernel
theorem dL_law_654 : decode cL_law 654 = .ok (.iadd, 1) := by decide +kernel
theorem dL_law_655 : decode cL_law 655 = .ok (.iaload, 1) := by decide +kernel
theorem dL_law_656 : decode cL_law 656 = .ok (.aload_n 0, 1) := by decide +kernel
theorem dL_law_657 : decode cL_law 657 = .ok (.iload_n 3, 1) := by decide +kernel
theorem dL_law_658 : decode cL_law 658 = .ok (.iconst 2, 1) := by decide +kernel
theorem dL_law_659 : decode cL_law 659 = .ok (.iadd, 1) := by decide +kernel
theorem dL_law_660 : decode cL_law 660 = .ok (.iaload, 1) := by decide +kernel
theorem dL_law_661 : decode cL_law 661 = .ok (.invokevirtual 81, 3) := by decide +kernel
theorem dL_law_664 : decode cL_law 664 = .ok (.aload_n 2, 1) := by decide +kernel
theorem dL_law_665 : decode cL_law 665 = .ok (.aload_n 0, 1) := by decide +kernel
theorem dL_law_666 : decode cL_law 666 = .ok (.iload_n 3, 1) := by decide +kernel
theorem dL_law_667 : decode cL_law 667 = .ok (.iconst 1, 1) := by decide +kernel
theorem dL_law_668 : decode cL_law 668 = .ok (.iadd, 1) := by decide +kernel
theorem dL_law_669 : decode cL_law 669 = .ok (.iaload, 1) := by decide +kernel
theorem dL_law_670 : decode cL_law 670 = .ok (.aload_n 0, 1) := by decide +kernel
theorem dL_law_671 : decode cL_law 671 = .ok (.iload_n 3, 1) := by decide +kernel
theorem dL_law_672 : decode cL_law 672 = .ok (.iconst 2, 1) := by decide +kernel
theorem dL_law_673 : decode cL_law 673 = .ok (.iadd, 1) := by decide +kernel
theorem dL_law_674 : decode cL_law 674 = .ok (.iaload, 1) := by decide +kernel
theorem dL_law_675 : decode cL_law 675 = .ok (.invokevirtual 84, 3) := by decide +kernel
theorem dL_law_678 : decode cL_law 678 = .ok (.if_icmp .eq 533, 3) := by decide +kernel
theorem dL_law_681 : decode cL_law 681 = .ok (.iconst 0, 1) := by decide +kernel
theorem dL_law_682 : decode cL_law 682 = .ok (.ireturn, 1) := by decide +kernel
theorem dL_law_683 : decode cL_law 683 = .ok (.aload_n 1, 1) := by decide +kernel
theorem dL_law_684 : decode cL_law 684 = .ok (.aload_n 0, 1) := by decide +kernel
theorem dL_law_685 : decode cL_law 685 = .ok (.iload_n 3, 1) := by decide +kernel
theorem dL_law_686 : decode cL_law 686 = .ok (.iconst 1, 1) := by decide +kernel
theorem dL_law_687 : decode cL_law 687 = .ok (.iadd, 1) := by decide +kernel
theorem dL_law_688 : decode cL_law 688 = .ok (.iaload, 1) := by decide +kernel
theorem dL_law_689 : decode cL_law 689 = .ok (.aload_n 0, 1) := by decide +kernel
theorem dL_law_690 : decode cL_law 690 = .ok (.iload_n 3, 1) := by decide +kernel
theorem dL_law_691 : decode cL_law 691 = .ok (.iconst 2, 1) := by decide +kernel
theorem dL_law_692 : decode cL_law 692 = .ok (.iadd, 1) := by decide +kernel
theorem dL_law_693 : decode cL_law 693 = .ok (.iaload, 1) := by decide +kernel
theorem dL_law_694 : decode cL_law 694 = .ok (.invokevirtual 85, 3) := by decide +kernel
theorem dL_law_697 : decode cL_law 697 = .ok (.aload_n 2, 1) := by decide +kernel
theorem dL_law_698 : decode cL_law 698 = .ok (.aload_n 0, 1) := by decide +kernel
theorem dL_law_699 : decode cL_law 699 = .ok (.iload_n 3, 1) := by decide +kernel
theorem dL_law_700 : decode cL_law 700 = .ok (.iconst 1, 1) := by decide +kernel
theorem dL_law_701 : decode cL_law 701 = .ok (.iadd, 1) := by decide +kernel
theorem dL_law_702 : decode cL_law 702 = .ok (.iaload, 1) := by decide +kernel
theorem dL_law_703 : decode cL_law 703 = .ok (.aload_n 0, 1) := by decide +kernel
theorem dL_law_704 : decode cL_law 704 = .ok (.iload_n 3, 1) := by decide +kernel
theorem dL_law_705 : decode cL_law 705 = .ok (.iconst 2, 1) := by decide +kernel
theorem dL_law_706 : decode cL_law 706 = .ok (.iadd, 1) := by decide +kernel
theorem dL_law_707 : decode cL_law 707 = .ok (.iaload, 1) := by decide +kernel
theorem dL_law_708 : decode cL_law 708 = .ok (.invokevirtual 88, 3) := by decide +kernel
theorem dL_law_711 : decode cL_law 711 = .ok (.if_icmp .eq 500, 3) := by decide +kernel
theorem dL_law_714 : decode cL_law 714 = .ok (.iconst 0, 1) := by decide +kernel
theorem dL_law_715 : decode cL_law 715 = .ok (.ireturn, 1) := by decide +kernel
theorem dL_law_716 : decode cL_law 716 = .ok (.aload_n 1, 1) := by decide +kernel
theorem dL_law_717 : decode cL_law 717 = .ok (.aload_n 0, 1) := by decide +kernel
theorem dL_law_718 : decode cL_law 718 = .ok (.iload_n 3, 1) := by decide +kernel
theorem dL_law_719 : decode cL_law 719 = .ok (.iconst 1, 1) := by decide +kernel
theorem dL_law_720 : decode cL_law 720 = .ok (.iadd, 1) := by decide +kernel
theorem dL_law_721 : decode cL_law 721 = .ok (.iaload, 1) := by decide +kernel
theorem dL_law_722 : decode cL_law 722 = .ok (.invokevirtual 89, 3) := by decide +kernel
theorem dL_law_725 : decode cL_law 725 = .ok (.aload_n 2, 1) := by decide +kernel
theorem dL_law_726 : decode cL_law 726 = .ok (.aload_n 0, 1) := by decide +kernel
theorem dL_law_727 : decode cL_law 727 = .ok (.iload_n 3, 1) := by decide +kernel
theorem dL_law_728 : decode cL_law 728 = .ok (.iconst 1, 1) := by decide +kernel
theorem dL_law_729 : decode cL_law 729 = .ok (.iadd, 1) := by decide +kernel
theorem dL_law_730 : decode cL_law 730 = .ok (.iaload, 1) := by decide +kernel
theorem dL_law_731 : decode cL_law 731 = .ok (.invokevirtual 92, 3) := by decide +kernel
theorem dL_law_734 : decode cL_law 734 = .ok (.if_icmp .eq 477, 3) := by decide +kernel
theorem dL_law_737 : decode cL_law 737 = .ok (.iconst 0, 1) := by decide +kernel
theorem dL_law_738 : decode cL_law 738 = .ok (.ireturn, 1) := by decide +kernel
theorem dL_law_739 : decode cL_law 739 = .ok (.aload_n 1, 1) := by decide +kernel
theorem dL_law_740 : decode cL_law 740 = .ok (.aload_n 0, 1) := by decide +kernel
theorem dL_law_741 : decode cL_law 741 = .ok (.iload_n 3, 1) := by decide +kernel
theorem dL_law_742 : decode cL_law 742 = .ok (.iconst 1, 1) := by decide +kernel
theorem dL_law_743 : decode cL_law 743 = .ok (.iadd, 1) := by decide +kernel
theorem dL_law_744 : decode cL_law 744 = .ok (.iaload, 1) := by decide +kernel
theorem dL_law_745 : decode cL_law 745 = .ok (.invokevirtual 93, 3) := by decide +kernel
theorem dL_law_748 : decode cL_law 748 = .ok (.aload_n 2, 1) := by decide +kernel
theorem dL_law_749 : decode cL_law 749 = .ok (.aload_n 0, 1) := by decide +kernel
theorem dL_law_750 : decode cL_law 750 = .ok (.iload_n 3, 1) := by decide +kernel
theorem dL_law_751 : decode cL_law 751 = .ok (.iconst 1, 1) := by decide +kernel
theorem dL_law_752 : decode cL_law 752 = .ok (.iadd, 1) := by decide +kernel
theorem dL_law_753 : decode cL_law 753 = .ok (.iaload, 1) := by decide +kernel
theorem dL_law_754 : decode cL_law 754 = .ok (.invokevirtual 96, 3) := by decide +kernel
theorem dL_law_757 : decode cL_law 757 = .ok (.if_icmp .eq 454, 3) := by decide +kernel
theorem dL_law_760 : decode cL_law 760 = .ok (.iconst 0, 1) := by decide +kernel
theorem dL_law_761 : decode cL_law 761 = .ok (.ireturn, 1) := by decide +kernel
theorem dL_law_762 : decode cL_law 762 = .ok (.aload_n 1, 1) := by decide +kernel
theorem dL_law_763 : decode cL_law 763 = .ok (.aload_n 0, 1) := by decide +kernel
theorem dL_law_764 : decode cL_law 764 = .ok (.iload_n 3, 1) := by decide +kernel
theorem dL_law_765 : decode cL_law 765 = .ok (.iconst 1, 1) := by decide +kernel
theorem dL_law_766 : decode cL_law 766 = .ok (.iadd, 1) := by decide +kernel
theorem dL_law_767 : decode cL_law 767 = .ok (.iaload, 1) := by decide +kernel
theorem dL_law_768 : decode cL_law 768 = .ok (.invokevirtual 97, 3) := by decide +kernel
theorem dL_law_771 : decode cL_law 771 = .ok (.aload_n 2, 1) := by decide +kernel
theorem dL_law_772 : decode cL_law 772 = .ok (.aload_n 0, 1) := by decide +kernel
theorem dL_law_773 : decode cL_law 773 = .ok (.iload_n 3, 1) := by decide +kernel
theorem dL_law_774 : decode cL_law 774 = .ok (.iconst 1, 1) := by decide +kernel
theorem dL_law_775 : decode cL_law 775 = .ok (.iadd, 1) := by decide +kernel
theorem dL_law_776 : decode cL_law 776 = .ok (.iaload, 1) := by decide +kernel
theorem dL_law_777 : decode cL_law 777 = .ok (.invokevirtual 100, 3) := by decide +kernel
theorem dL_law_780 : decode cL_law 780 = .ok (.if_icmp .eq 431, 3) := by decide +kernel
theorem dL_law_783 : decode cL_law 783 = .ok (.iconst 0, 1) := by decide +kernel
theorem dL_law_784 : decode cL_law 784 = .ok (.ireturn, 1) := by decide +kernel
theorem dL_law_785 : decode cL_law 785 = .ok (.aload_n 1, 1) := by decide +kernel
theorem dL_law_786 : decode cL_law 786 = .ok (.aload_n 0, 1) := by decide +kernel
theorem dL_law_787 : decode cL_law 787 = .ok (.iload_n 3, 1) := by decide +kernel
theorem dL_law_788 : decode cL_law 788 = .ok (.iconst 1, 1) := by decide +kernel
theorem dL_law_789 : decode cL_law 789 = .ok (.iadd, 1) := by decide +kernel
theorem dL_law_790 : decode cL_law 790 = .ok (.iaload, 1) := by decide +kernel
theorem dL_law_791 : decode cL_law 791 = .ok (.invokevirtual 101, 3) := by decide +kernel
theorem dL_law_794 : decode cL_law 794 = .ok (.aload_n 2, 1) := by decide +kernel
theorem dL_law_795 : decode cL_law 795 = .ok (.aload_n 0, 1) := by decide +kernel
theorem dL_law_796 : decode cL_law 796 = .ok (.iload_n 3, 1) := by decide +kernel
theorem dL_law_797 : decode cL_law 797 = .ok (.iconst 1, 1) := by decide +kernel
theorem dL_law_798 : decode cL_law 798 = .ok (.iadd, 1) := by decide +kernel
theorem dL_law_799 : decode cL_law 799 = .ok (.iaload, 1) := by decide +kernel
theorem dL_law_800 : decode cL_law 800 = .ok (.invokevirtual 104, 3) := by decide +kernel
theorem dL_law_803 : decode cL_law 803 = .ok (.if_icmp .eq 408, 3) := by decide +kernel
theorem dL_law_806 : decode cL_law 806 = .ok (.iconst 0, 1) := by decide +kernel
theorem dL_law_807 : decode cL_law 807 = .ok (.ireturn, 1) := by decide +kernel
theorem dL_law_808 : decode cL_law 808 = .ok (.aload_n 1, 1) := by decide +kernel
theorem dL_law_809 : decode cL_law 809 = .ok (.aload_n 0, 1) := by decide +kernel
theorem dL_law_810 : decode cL_law 810 = .ok (.iload_n 3, 1) := by decide +kernel
theorem dL_law_811 : decode cL_law 811 = .ok (.iconst 1, 1) := by decide +kernel
theorem dL_law_812 : decode cL_law 812 = .ok (.iadd, 1) := by decide +kernel
theorem dL_law_813 : decode cL_law 813 = .ok (.iaload, 1) := by decide +kernel
theorem dL_law_814 : decode cL_law 814 = .ok (.aload_n 0, 1) := by decide +kernel
theorem dL_law_815 : decode cL_law 815 = .ok (.iload_n 3, 1) := by decide +kernel
theorem dL_law_816 : decode cL_law 816 = .ok (.iconst 2, 1) := by decide +kernel
theorem dL_law_817 : decode cL_law 817 = .ok (.iadd, 1) := by decide +kernel
theorem dL_law_818 : decode cL_law 818 = .ok (.iaload, 1) := by decide +kernel
theorem dL_law_819 : decode cL_law 819 = .ok (.invokevirtual 105, 3) := by decide +kernel
theorem dL_law_822 : decode cL_law 822 = .ok (.aload_n 2, 1) := by decide +kernel
theorem dL_law_823 : decode cL_law 823 = .ok (.aload_n 0, 1) := by decide +kernel
theorem dL_law_824 : decode cL_law 824 = .ok (.iload_n 3, 1) := by decide +kernel
theorem dL_law_825 : decode cL_law 825 = .ok (.iconst 1, 1) := by decide +kernel
theorem dL_law_826 : decode cL_law 826 = .ok (.iadd, 1) := by decide +kernel
theorem dL_law_827 : decode cL_law 827 = .ok (.iaload, 1) := by decide +kernel
theorem dL_law_828 : decode cL_law 828 = .ok (.aload_n 0, 1) := by decide +kernel
theorem dL_law_829 : decode cL_law 829 = .ok (.iload_n 3, 1) := by decide +kernel
theorem dL_law_830 : decode cL_law 830 = .ok (.iconst 2, 1) := by decide +kernel
theorem dL_law_831 : decode cL_law 831 = .ok (.iadd, 1) := by decide +kernel
theorem dL_law_832 : decode cL_law 832 = .ok (.iaload, 1) := by decide +kernel
theorem dL_law_833 : decode cL_law 833 = .ok (.invokevirtual 108, 3) := by decide +kernel
theorem dL_law_836 : decode cL_law 836 = .ok (.if_icmp .eq 375, 3) := by decide +kernel
theorem dL_law_839 : decode cL_law 839 = .ok (.iconst 0, 1) := by decide +kernel
theorem dL_law_840 : decode cL_law 840 = .ok (.ireturn, 1) := by decide +kernel
theorem dL_law_841 : decode cL_law 841 = .ok (.aload_n 1, 1) := by decide +kernel
theorem dL_law_842 : decode cL_law 842 = .ok (.invokevirtual 109, 3) := by decide +kernel
theorem dL_law_845 : decode cL_law 845 = .ok (.aload_n 2, 1) := by decide +kernel
theorem dL_law_846 : decode cL_law 846 = .ok (.invokevirtual 112, 3) := by decide +kernel
theorem dL_law_849 : decode cL_law 849 = .ok (.if_icmp .eq 362, 3) := by decide +kernel
theorem dL_law_852 : decode cL_law 852 = .ok (.iconst 0, 1) := by decide +kernel
theorem dL_law_853 : decode cL_law 853 = .ok (.ireturn, 1) := by decide +kernel
theorem dL_law_854 : decode cL_law 854 = .ok (.aload_n 1, 1) := by decide +kernel
theorem dL_law_855 : decode cL_law 855 = .ok (.invokevirtual 113, 3) := by decide +kernel
theorem dL_law_858 : decode cL_law 858 = .ok (.aload_n 2, 1) := by decide +kernel
theorem dL_law_859 : decode cL_law 859 = .ok (.invokevirtual 116, 3) := by decide +kernel
theorem dL_law_862 : decode cL_law 862 = .ok (.if_icmp .eq 349, 3) := by decide +kernel
theorem dL_law_865 : decode cL_law 865 = .ok (.iconst 0, 1) := by decide +kernel
theorem dL_law_866 : decode cL_law 866 = .ok (.ireturn, 1) := by decide +kernel
theorem dL_law_867 : decode cL_law 867 = .ok (.aload_n 1, 1) := by decide +kernel
theorem dL_law_868 : decode cL_law 868 = .ok (.aload_n 0, 1) := by decide +kernel
theorem dL_law_869 : decode cL_law 869 = .ok (.iload_n 3, 1) := by decide +kernel
theorem dL_law_870 : decode cL_law 870 = .ok (.iconst 1, 1) := by decide +kernel
theorem dL_law_871 : decode cL_law 871 = .ok (.iadd, 1) := by decide +kernel
theorem dL_law_872 : decode cL_law 872 = .ok (.iaload, 1) := by decide +kernel
theorem dL_law_873 : decode cL_law 873 = .ok (.aload_n 0, 1) := by decide +kernel
theorem dL_law_874 : decode cL_law 874 = .ok (.iload_n 3, 1) := by decide +kernel
theorem dL_law_875 : decode cL_law 875 = .ok (.iconst 2, 1) := by decide +kernel
theorem dL_law_876 : decode cL_law 876 = .ok (.iadd, 1) := by decide +kernel
theorem dL_law_877 : decode cL_law 877 = .ok (.iaload, 1) := by decide +kernel
theorem dL_law_878 : decode cL_law 878 = .ok (.aload_n 0, 1) := by decide +kernel
theorem dL_law_879 : decode cL_law 879 = .ok (.iload_n 3, 1) := by decide +kernel
theorem dL_law_880 : decode cL_law 880 = .ok (.iconst 3, 1) := by decide +kernel
theorem dL_law_881 : decode cL_law 881 = .ok (.iadd, 1) := by decide +kernel
theorem dL_law_882 : decode cL_law 882 = .ok (.iaload, 1) := by decide +kernel
theorem dL_law_883 : decode cL_law 883 = .ok (.invokevirtual 117, 3) := by decide +kernel
theorem dL_law_886 : decode cL_law 886 = .ok (.aload_n 2, 1) := by decide +kernel
theorem dL_law_887 : decode cL_law 887 = .ok (.aload_n 0, 1) := by decide +kernel
theorem dL_law_888 : decode cL_law 888 = .ok (.iload_n 3, 1) := by decide +kernel
theorem dL_law_889 : decode cL_law 889 = .ok (.iconst 1, 1) := by decide +kernel
theorem dL_law_890 : decode cL_law 890 = .ok (.iadd, 1) := by decide +kernel
theorem dL_law_891 : decode cL_law 891 = .ok (.iaload, 1) := by decide +kernel
theorem dL_law_892 : decode cL_law 892 = .ok (.aload_n 0, 1) := by decide +kernel
theorem dL_law_893 : decode cL_law 893 = .ok (.iload_n 3, 1) := by decide +kernel
theorem dL_law_894 : decode cL_law 894 = .ok (.iconst 2, 1) := by decide +kernel
theorem dL_law_895 : decode cL_law 895 = .ok (.iadd, 1) := by decide +kernel
theorem dL_law_896 : decode cL_law 896 = .ok (.iaload, 1) := by decide +kernel
theorem dL_law_897 : decode cL_law 897 = .ok (.aload_n 0, 1) := by decide +kernel
theorem dL_law_898 : decode cL_law 898 = .ok (.iload_n 3, 1) := by decide +kernel
theorem dL_law_899 : decode cL_law 899 = .ok (.iconst 3, 1) := by decide +kernel
theorem dL_law_900 : decode cL_law 900 = .ok (.iadd, 1) := by decide +kernel
theorem dL_law_901 : decode cL_law 901 = .ok (.iaload, 1) := by decide +kernel
theorem dL_law_902 : decode cL_law 902 = .ok (.invokevirtual 120, 3) := by decide +kernel
theorem dL_law_905 : decode cL_law 905 = .ok (.if_icmp .eq 306, 3) := by decide +kernel
theorem dL_law_908 : decode cL_law 908 = .ok (.iconst 0, 1) := by decide +kernel
theorem dL_law_909 : decode cL_law 909 = .ok (.ireturn, 1) := by decide +kernel
theorem dL_law_910 : decode cL_law 910 = .ok (.aload_n 1, 1) := by decide +kernel
theorem dL_law_911 : decode cL_law 911 = .ok (.aload_n 0, 1) := by decide +kernel
theorem dL_law_912 : decode cL_law 912 = .ok (.iload_n 3, 1) := by decide +kernel
theorem dL_law_913 : decode cL_law 913 = .ok (.iconst 1, 1) := by decide +kernel
theorem dL_law_914 : decode cL_law 914 = .ok (.iadd, 1) := by decide +kernel
theorem dL_law_915 : decode cL_law 915 = .ok (.iaload, 1) := by decide +kernel
theorem dL_law_916 : decode cL_law 916 = .ok (.aload_n 0, 1) := by decide +kernel
theorem dL_law_917 : decode cL_law 917 = .ok (.iload_n 3, 1) := by decide +kernel
theorem dL_law_918 : decode cL_law 918 = .ok (.iconst 2, 1) := by decide +kernel
theorem dL_law_919 : decode cL_law 919 = .ok (.iadd, 1) := by decide +kernel
theorem dL_law_920 : decode cL_law 920 = .ok (.iaload, 1) := by decide +kernel
theorem dL_law_921 : decode cL_law 921 = .ok (.aload_n 0, 1) := by decide +kernel
theorem dL_law_922 : decode cL_law 922 = .ok (.iload_n 3, 1) := by decide +kernel
theorem dL_law_923 : decode cL_law 923 = .ok (.iconst 3, 1) := by decide +kernel
theorem dL_law_924 : decode cL_law 924 = .ok (.iadd, 1) := by decide +kernel
theorem dL_law_925 : decode cL_law 925 = .ok (.iaload, 1) := by decide +kernel
theorem dL_law_926 : decode cL_law 926 = .ok (.i2l, 1) := by decide +kernel
theorem dL_law_927 : decode cL_law 927 = .ok (.bipush 32, 2) := by decide +kernel
theorem dL_law_929 : decode cL_law 929 = .ok (.lshl, 1) := by decide +kernel
theorem dL_law_930 : decode cL_law 930 = .ok (.aload_n 0, 1) := by decide +kernel
theorem dL_law_931 : decode cL_law 931 = .ok (.iload_n 3, 1) := by decide +kernel
theorem dL_law_932 : decode cL_law 932 = .ok (.iconst 4, 1) := by decide +kernel
theorem dL_law_933 : decode cL_law 933 = .ok (.iadd, 1) := by decide +kernel
theorem dL_law_934 : decode cL_law 934 = .ok (.iaload, 1) := by decide +kernel
theorem dL_law_935 : decode cL_law 935 = .ok (.i2l, 1) := by decide +kernel
theorem dL_law_936 : decode cL_law 936 = .ok (.ldc2_w 121, 3) := by decide +kernel
theorem dL_law_939 : decode cL_law 939 = .ok (.land, 1) := by decide +kernel
theorem dL_law_940 : decode cL_law 940 = .ok (.lor, 1) := by decide +kernel
theorem dL_law_941 : decode cL_law 941 = .ok (.invokevirtual 123, 3) := by decide +kernel
theorem dL_law_944 : decode cL_law 944 = .ok (.aload_n 2, 1) := by decide +kernel
theorem dL_law_945 : decode cL_law 945 = .ok (.aload_n 0, 1) := by decide +kernel
theorem dL_law_946 : decode cL_law 946 = .ok (.iload_n 3, 1) := by decide +kernel
theorem dL_law_947 : decode cL_law 947 = .ok (.iconst 1, 1) := by decide +kernel
theorem dL_law_948 : decode cL_law 948 = .ok (.iadd, 1) := by decide +kernel
theorem dL_law_949 : decode cL_law 949 = .ok (.iaload, 1) := by decide +kernel
theorem dL_law_950 : decode cL_law 950 = .ok (.aload_n 0, 1) := by decide +kernel
theorem dL_law_951 : decode cL_law 951 = .ok (.iload_n 3, 1) := by decide +kernel
theorem dL_law_952 : decode cL_law 952 = .ok (.iconst 2, 1) := by decide +kernel
theorem dL_law_953 : decode cL_law 953 = .ok (.iadd, 1) := by decide +kernel
theorem dL_law_954 : decode cL_law 954 = .ok (.iaload, 1) := by decide +kernel
theorem dL_law_955 : decode cL_law 955 = .ok (.aload_n 0, 1) := by decide +kernel
theorem dL_law_956 : decode cL_law 956 = .ok (.iload_n 3, 1) := by decide +kernel
theorem dL_law_957 : decode cL_law 957 = .ok (.iconst 3, 1) := by decide +kernel
theorem dL_law_958 : decode cL_law 958 = .ok (.iadd, 1) := by decide +kernel
theorem dL_law_959 : decode cL_law 959 = .ok (.iaload, 1) := by decide +kernel
theorem dL_law_960 : decode cL_law 960 = .ok (.i2l, 1) := by decide +kernel
theorem dL_law_961 : decode cL_law 961 = .ok (.bipush 32, 2) := by decide +kernel
theorem dL_law_963 : decode cL_law 963 = .ok (.lshl, 1) := by decide +kernel
theorem dL_law_964 : decode cL_law 964 = .ok (.aload_n 0, 1) := by decide +kernel
theorem dL_law_965 : decode cL_law 965 = .ok (.iload_n 3, 1) := by decide +kernel
theorem dL_law_966 : decode cL_law 966 = .ok (.iconst 4, 1) := by decide +kernel
theorem dL_law_967 : decode cL_law 967 = .ok (.iadd, 1) := by decide +kernel
theorem dL_law_968 : decode cL_law 968 = .ok (.iaload, 1) := by decide +kernel
theorem dL_law_969 : decode cL_law 969 = .ok (.i2l, 1) := by decide +kernel
theorem dL_law_970 : decode cL_law 970 = .ok (.ldc2_w 121, 3) := by decide +kernel
theorem dL_law_973 : decode cL_law 973 = .ok (.land, 1) := by decide +kernel
theorem dL_law_974 : decode cL_law 974 = .ok (.lor, 1) := by decide +kernel
theorem dL_law_975 : decode cL_law 975 = .ok (.invokevirtual 127, 3) := by decide +kernel
theorem dL_law_978 : decode cL_law 978 = .ok (.lcmp, 1) := by decide +kernel
theorem dL_law_979 : decode cL_law 979 = .ok (.ifCond .eq 232, 3) := by decide +kernel
theorem dL_law_982 : decode cL_law 982 = .ok (.iconst 0, 1) := by decide +kernel
theorem dL_law_983 : decode cL_law 983 = .ok (.ireturn, 1) := by decide +kernel
theorem dL_law_984 : decode cL_law 984 = .ok (.aload_n 1, 1) := by decide +kernel
theorem dL_law_985 : decode cL_law 985 = .ok (.aload_n 0, 1) := by decide +kernel
theorem dL_law_986 : decode cL_law 986 = .ok (.iload_n 3, 1) := by decide +kernel
theorem dL_law_987 : decode cL_law 987 = .ok (.iconst 1, 1) := by decide +kernel
theorem dL_law_988 : decode cL_law 988 = .ok (.iadd, 1) := by decide +kernel
theorem dL_law_989 : decode cL_law 989 = .ok (.iaload, 1) := by decide +kernel
theorem dL_law_990 : decode cL_law 990 = .ok (.aload_n 0, 1) := by decide +kernel
theorem dL_law_991 : decode cL_law 991 = .ok (.iload_n 3, 1) := by decide +kernel
theorem dL_law_992 : decode cL_law 992 = .ok (.iconst 2, 1) := by decide +kernel
theorem dL_law_993 : decode cL_law 993 = .ok (.iadd, 1) := by decide +kernel
theorem dL_law_994 : decode cL_law 994 = .ok (.iaload, 1) := by decide +kernel
theorem dL_law_995 : decode cL_law 995 = .ok (.aload_n 0, 1) := by decide +kernel
theorem dL_law_996 : decode cL_law 996 = .ok (.iload_n 3, 1) := by decide +kernel
theorem dL_law_997 : decode cL_law 997 = .ok (.iconst 3, 1) := by decide +kernel
theorem dL_law_998 : decode cL_law 998 = .ok (.iadd, 1) := by decide +kernel
theorem dL_law_999 : decode cL_law 999 = .ok (.iaload, 1) := by decide +kernel
theorem dL_law_1000 : decode cL_law 1000 = .ok (.aload_n 0, 1) := by decide +kernel
theorem dL_law_1001 : decode cL_law 1001 = .ok (.iload_n 3, 1) := by decide +kernel
theorem dL_law_1002 : decode cL_law 1002 = .ok (.iconst 4, 1) := by decide +kernel
theorem dL_law_1003 : decode cL_law 1003 = .ok (.iadd, 1) := by decide +kernel
theorem dL_law_1004 : decode cL_law 1004 = .ok (.iaload, 1) := by decide +kernel
theorem dL_law_1005 : decode cL_law 1005 = .ok (.aload_n 0, 1) := by decide +kernel
theorem dL_law_1006 : decode cL_law 1006 = .ok (.iload_n 3, 1) := by decide +kernel
theorem dL_law_1007 : decode cL_law 1007 = .ok (.iconst 5, 1) := by decide +kernel
theorem dL_law_1008 : decode cL_law 1008 = .ok (.iadd, 1) := by decide +kernel
theorem dL_law_1009 : decode cL_law 1009 = .ok (.iaload, 1) := by decide +kernel
theorem dL_law_1010 : decode cL_law 1010 = .ok (.invokevirtual 128, 3) := by decide +kernel
theorem dL_law_1013 : decode cL_law 1013 = .ok (.aload_n 2, 1) := by decide +kernel
theorem dL_law_1014 : decode cL_law 1014 = .ok (.aload_n 0, 1) := by decide +kernel
theorem dL_law_1015 : decode cL_law 1015 = .ok (.iload_n 3, 1) := by decide +kernel
theorem dL_law_1016 : decode cL_law 1016 = .ok (.iconst 1, 1) := by decide +kernel
theorem dL_law_1017 : decode cL_law 1017 = .ok (.iadd, 1) := by decide +kernel
theorem dL_law_1018 : decode cL_law 1018 = .ok (.iaload, 1) := by decide +kernel
theorem dL_law_1019 : decode cL_law 1019 = .ok (.aload_n 0, 1) := by decide +kernel
theorem dL_law_1020 : decode cL_law 1020 = .ok (.iload_n 3, 1) := by decide +kernel
theorem dL_law_1021 : decode cL_law 1021 = .ok (.iconst 2, 1) := by decide +kernel
theorem dL_law_1022 : decode cL_law 1022 = .ok (.iadd, 1) := by decide +kernel
theorem dL_law_1023 : decode cL_law 1023 = .ok (.iaload, 1) := by decide +kernel
theorem dL_law_1024 : decode cL_law 1024 = .ok (.aload_n 0, 1) := by decide +kernel
theorem dL_law_1025 : decode cL_law 1025 = .ok (.iload_n 3, 1) := by decide +kernel
theorem dL_law_1026 : decode cL_law 1026 = .ok (.iconst 3, 1) := by decide +kernel
theorem dL_law_1027 : decode cL_law 1027 = .ok (.iadd, 1) := by decide +kernel
theorem dL_law_1028 : decode cL_law 1028 = .ok (.iaload, 1) := by decide +kernel
theorem dL_law_1029 : decode cL_law 1029 = .ok (.aload_n 0, 1) := by decide +kernel
theorem dL_law_1030 : decode cL_law 1030 = .ok (.iload_n 3, 1) := by decide +kernel
theorem dL_law_1031 : decode cL_law 1031 = .ok (.iconst 4, 1) := by decide +kernel
theorem dL_law_1032 : decode cL_law 1032 = .ok (.iadd, 1) := by decide +kernel
theorem dL_law_1033 : decode cL_law 1033 = .ok (.iaload, 1) := by decide +kernel
theorem dL_law_1034 : decode cL_law 1034 = .ok (.aload_n 0, 1) := by decide +kernel
theorem dL_law_1035 : decode cL_law 1035 = .ok (.iload_n 3, 1) := by decide +kernel
theorem dL_law_1036 : decode cL_law 1036 = .ok (.iconst 5, 1) := by decide +kernel
theorem dL_law_1037 : decode cL_law 1037 = .ok (.iadd, 1) := by decide +kernel
theorem dL_law_1038 : decode cL_law 1038 = .ok (.iaload, 1) := by decide +kernel
theorem dL_law_1039 : decode cL_law 1039 = .ok (.invokevirtual 132, 3) := by decide +kernel
theorem dL_law_1042 : decode cL_law 1042 = .ok (.if_icmp .eq 169, 3) := by decide +kernel
theorem dL_law_1045 : decode cL_law 1045 = .ok (.iconst 0, 1) := by decide +kernel
theorem dL_law_1046 : decode cL_law 1046 = .ok (.ireturn, 1) := by decide +kernel
theorem dL_law_1047 : decode cL_law 1047 = .ok (.aload_n 1, 1) := by decide +kernel
theorem dL_law_1048 : decode cL_law 1048 = .ok (.aload_n 0, 1) := by decide +kernel
theorem dL_law_1049 : decode cL_law 1049 = .ok (.iload_n 3, 1) := by decide +kernel
theorem dL_law_1050 : decode cL_law 1050 = .ok (.iconst 1, 1) := by decide +kernel
theorem dL_law_1051 : decode cL_law 1051 = .ok (.iadd, 1) := by decide +kernel
theorem dL_law_1052 : decode cL_law 1052 = .ok (.iaload, 1) := by decide +kernel
theorem dL_law_1053 : decode cL_law 1053 = .ok (.invokevirtual 133, 3) := by decide +kernel
theorem dL_law_1056 : decode cL_law 1056 = .ok (.aload_n 2, 1) := by decide +kernel
theorem dL_law_1057 : decode cL_law 1057 = .ok (.aload_n 0, 1) := by decide +kernel
theorem dL_law_1058 : decode cL_law 1058 = .ok (.iload_n 3, 1) := by decide +kernel
theorem dL_law_1059 : decode cL_law 1059 = .ok (.iconst 1, 1) := by decide +kernel
theorem dL_law_1060 : decode cL_law 1060 = .ok (.iadd, 1) := by decide +kernel
theorem dL_law_1061 : decode cL_law 1061 = .ok (.iaload, 1) := by decide +kernel
theorem dL_law_1062 : decode cL_law 1062 = .ok (.invokevirtual 136, 3) := by decide +kernel
theorem dL_law_1065 : decode cL_law 1065 = .ok (.if_icmp .eq 146, 3) := by decide +kernel
theorem dL_law_1068 : decode cL_law 1068 = .ok (.iconst 0, 1) := by decide +kernel
theorem dL_law_1069 : decode cL_law 1069 = .ok (.ireturn, 1) := by decide +kernel
theorem dL_law_1070 : decode cL_law 1070 = .ok (.aload_n 1, 1) := by decide +kernel
theorem dL_law_1071 : decode cL_law 1071 = .ok (.aload_n 0, 1) := by decide +kernel
theorem dL_law_1072 : decode cL_law 1072 = .ok (.iload_n 3, 1) := by decide +kernel
theorem dL_law_1073 : decode cL_law 1073 = .ok (.iconst 1, 1) := by decide +kernel
theorem dL_law_1074 : decode cL_law 1074 = .ok (.iadd, 1) := by decide +kernel
theorem dL_law_1075 : decode cL_law 1075 = .ok (.iaload, 1) := by decide +kernel
theorem dL_law_1076 : decode cL_law 1076 = .ok (.invokevirtual 137, 3) := by decide +kernel
theorem dL_law_1079 : decode cL_law 1079 = .ok (.aload_n 2, 1) := by decide +kernel
theorem dL_law_1080 : decode cL_law 1080 = .ok (.aload_n 0, 1) := by decide +kernel
theorem dL_law_1081 : decode cL_law 1081 = .ok (.iload_n 3, 1) := by decide +kernel
theorem dL_law_1082 : decode cL_law 1082 = .ok (.iconst 1, 1) := by decide +kernel
theorem dL_law_1083 : decode cL_law 1083 = .ok (.iadd, 1) := by decide +kernel
theorem dL_law_1084 : decode cL_law 1084 = .ok (.iaload, 1) := by decide +kernel
theorem dL_law_1085 : decode cL_law 1085 = .ok (.invokevirtual 140, 3) := by decide +kernel
theorem dL_law_1088 : decode cL_law 1088 = .ok (.if_icmp .eq 123, 3) := by decide +kernel
theorem dL_law_1091 : decode cL_law 1091 = .ok (.iconst 0, 1) := by decide +kernel
theorem dL_law_1092 : decode cL_law 1092 = .ok (.ireturn, 1) := by decide +kernel
theorem dL_law_1093 : decode cL_law 1093 = .ok (.aload_n 1, 1) := by decide +kernel
theorem dL_law_1094 : decode cL_law 1094 = .ok (.aload_n 0, 1) := by decide +kernel
theorem dL_law_1095 : decode cL_law 1095 = .ok (.iload_n 3, 1) := by decide +kernel
theorem dL_law_1096 : decode cL_law 1096 = .ok (.iconst 1, 1) := by decide +kernel
theorem dL_law_1097 : decode cL_law 1097 = .ok (.iadd, 1) := by decide +kernel
theorem dL_law_1098 : decode cL_law 1098 = .ok (.iaload, 1) := by decide +kernel
theorem dL_law_1099 : decode cL_law 1099 = .ok (.aload_n 0, 1) := by decide +kernel
theorem dL_law_1100 : decode cL_law 1100 = .ok (.iload_n 3, 1) := by decide +kernel
theorem dL_law_1101 : decode cL_law 1101 = .ok (.iconst 2, 1) := by decide +kernel
theorem dL_law_1102 : decode cL_law 1102 = .ok (.iadd, 1) := by decide +kernel
theorem dL_law_1103 : decode cL_law 1103 = .ok (.iaload, 1) := by decide +kernel
theorem dL_law_1104 : decode cL_law 1104 = .ok (.invokevirtual 141, 3) := by decide +kernel
theorem dL_law_1107 : decode cL_law 1107 = .ok (.aload_n 2, 1) := by decide +kernel
theorem dL_law_1108 : decode cL_law 1108 = .ok (.aload_n 0, 1) := by decide +kernel
theorem dL_law_1109 : decode cL_law 1109 = .ok (.iload_n 3, 1) := by decide +kernel
theorem dL_law_1110 : decode cL_law 1110 = .ok (.iconst 1, 1) := by decide +kernel
theorem dL_law_1111 : decode cL_law 1111 = .ok (.iadd, 1) := by decide +kernel
theorem dL_law_1112 : decode cL_law 1112 = .ok (.iaload, 1) := by decide +kernel
theorem dL_law_1113 : decode cL_law 1113 = .ok (.aload_n 0, 1) := by decide +kernel
theorem dL_law_1114 : decode cL_law 1114 = .ok (.iload_n 3, 1) := by decide +kernel
theorem dL_law_1115 : decode cL_law 1115 = .ok (.iconst 2, 1) := by decide +kernel
theorem dL_law_1116 : decode cL_law 1116 = .ok (.iadd, 1) := by decide +kernel
theorem dL_law_1117 : decode cL_law 1117 = .ok (.iaload, 1) := by decide +kernel
theorem dL_law_1118 : decode cL_law 1118 = .ok (.invokevirtual 144, 3) := by decide +kernel
theorem dL_law_1121 : decode cL_law 1121 = .ok (.if_icmp .eq 90, 3) := by decide +kernel
theorem dL_law_1124 : decode cL_law 1124 = .ok (.iconst 0, 1) := by decide +kernel
theorem dL_law_1125 : decode cL_law 1125 = .ok (.ireturn, 1) := by decide +kernel
theorem dL_law_1126 : decode cL_law 1126 = .ok (.aload_n 1, 1) := by decide +kernel
theorem dL_law_1127 : decode cL_law 1127 = .ok (.invokevirtual 145, 3) := by decide +kernel
theorem dL_law_1130 : decode cL_law 1130 = .ok (.aload_n 2, 1) := by decide +kernel
theorem dL_law_1131 : decode cL_law 1131 = .ok (.invokevirtual 148, 3) := by decide +kernel
theorem dL_law_1134 : decode cL_law 1134 = .ok (.if_icmp .eq 77, 3) := by decide +kernel
theorem dL_law_1137 : decode cL_law 1137 = .ok (.iconst 0, 1) := by decide +kernel
theorem dL_law_1138 : decode cL_law 1138 = .ok (.ireturn, 1) := by decide +kernel
theorem dL_law_1139 : decode cL_law 1139 = .ok (.aload_n 1, 1) := by decide +kernel
theorem dL_law_1140 : decode cL_law 1140 = .ok (.invokevirtual 149, 3) := by decide +kernel
theorem dL_law_1143 : decode cL_law 1143 = .ok (.aload_n 2, 1) := by decide +kernel
theorem dL_law_1144 : decode cL_law 1144 = .ok (.invokevirtual 152, 3) := by decide +kernel
theorem dL_law_1147 : decode cL_law 1147 = .ok (.if_icmp .eq 64, 3) := by decide +kernel
theorem dL_law_1150 : decode cL_law 1150 = .ok (.iconst 0, 1) := by decide +kernel
theorem dL_law_1151 : decode cL_law 1151 = .ok (.ireturn, 1) := by decide +kernel
theorem dL_law_1152 : decode cL_law 1152 = .ok (.aload_n 1, 1) := by decide +kernel
theorem dL_law_1153 : decode cL_law 1153 = .ok (.invokevirtual 153, 3) := by decide +kernel
theorem dL_law_1156 : decode cL_law 1156 = .ok (.aload_n 2, 1) := by decide +kernel
theorem dL_law_1157 : decode cL_law 1157 = .ok (.invokevirtual 156, 3) := by decide +kernel
theorem dL_law_1160 : decode cL_law 1160 = .ok (.if_icmp .eq 51, 3) := by decide +kernel
theorem dL_law_1163 : decode cL_law 1163 = .ok (.iconst 0, 1) := by decide +kernel
theorem dL_law_1164 : decode cL_law 1164 = .ok (.ireturn, 1) := by decide +kernel
theorem dL_law_1165 : decode cL_law 1165 = .ok (.aload_n 1, 1) := by decide +kernel
theorem dL_law_1166 : decode cL_law 1166 = .ok (.aload_n 0, 1) := by decide +kernel
theorem dL_law_1167 : decode cL_law 1167 = .ok (.iload_n 3, 1) := by decide +kernel
theorem dL_law_1168 : decode cL_law 1168 = .ok (.iconst 1, 1) := by decide +kernel
theorem dL_law_1169 : decode cL_law 1169 = .ok (.iadd, 1) := by decide +kernel
theorem dL_law_1170 : decode cL_law 1170 = .ok (.iaload, 1) := by decide +kernel
theorem dL_law_1171 : decode cL_law 1171 = .ok (.invokevirtual 157, 3) := by decide +kernel
theorem dL_law_1174 : decode cL_law 1174 = .ok (.aload_n 2, 1) := by decide +kernel
theorem dL_law_1175 : decode cL_law 1175 = .ok (.aload_n 0, 1) := by decide +kernel
theorem dL_law_1176 : decode cL_law 1176 = .ok (.iload_n 3, 1) := by decide +kernel
theorem dL_law_1177 : decode cL_law 1177 = .ok (.iconst 1, 1) := by decide +kernel
end
section
theorem dL_law_1178 : decode cL_law 1178 = .ok (.iadd, 1) := by decide +kernel
theorem dL_law_1179 : decode cL_law 1179 = .ok (.iaload, 1) := by decide +kernel
theorem dL_law_1180 : decode cL_law 1180 = .ok (.invokevirtual 160, 3) := by decide +kernel
theorem dL_law_1183 : decode cL_law 1183 = .ok (.if_icmp .eq 28, 3) := by decide +kernel
theorem dL_law_1186 : decode cL_law 1186 = .ok (.iconst 0, 1) := by decide +kernel
theorem dL_law_1187 : decode cL_law 1187 = .ok (.ireturn, 1) := by decide +kernel
theorem dL_law_1188 : decode cL_law 1188 = .ok (.aload_n 1, 1) := by decide +kernel
theorem dL_law_1189 : decode cL_law 1189 = .ok (.aload_n 0, 1) := by decide +kernel
theorem dL_law_1190 : decode cL_law 1190 = .ok (.iload_n 3, 1) := by decide +kernel
theorem dL_law_1191 : decode cL_law 1191 = .ok (.iconst 1, 1) := by decide +kernel
theorem dL_law_1192 : decode cL_law 1192 = .ok (.iadd, 1) := by decide +kernel
theorem dL_law_1193 : decode cL_law 1193 = .ok (.iaload, 1) := by decide +kernel
theorem dL_law_1194 : decode cL_law 1194 = .ok (.invokevirtual 161, 3) := by decide +kernel
theorem dL_law_1197 : decode cL_law 1197 = .ok (.aload_n 2, 1) := by decide +kernel
theorem dL_law_1198 : decode cL_law 1198 = .ok (.aload_n 0, 1) := by decide +kernel
theorem dL_law_1199 : decode cL_law 1199 = .ok (.iload_n 3, 1) := by decide +kernel
theorem dL_law_1200 : decode cL_law 1200 = .ok (.iconst 1, 1) := by decide +kernel
theorem dL_law_1201 : decode cL_law 1201 = .ok (.iadd, 1) := by decide +kernel
theorem dL_law_1202 : decode cL_law 1202 = .ok (.iaload, 1) := by decide +kernel
theorem dL_law_1203 : decode cL_law 1203 = .ok (.invokevirtual 164, 3) := by decide +kernel
theorem dL_law_1206 : decode cL_law 1206 = .ok (.if_icmp .eq 5, 3) := by decide +kernel
theorem dL_law_1209 : decode cL_law 1209 = .ok (.iconst 0, 1) := by decide +kernel
theorem dL_law_1210 : decode cL_law 1210 = .ok (.ireturn, 1) := by decide +kernel
theorem dL_law_1211 : decode cL_law 1211 = .ok (.iinc 3 6, 3) := by decide +kernel
theorem dL_law_1214 : decode cL_law 1214 = .ok (.goto (-1196), 3) := by decide +kernel
theorem dL_law_1217 : decode cL_law 1217 = .ok (.iconst 1, 1) := by decide +kernel
theorem dL_law_1218 : decode cL_law 1218 = .ok (.ireturn, 1) := by decide +kernel
theorem dX0_init_0 : decode cX0_init 0 = .ok (.aload_n 0, 1) := by decide +kernel
theorem dX0_init_1 : decode cX0_init 1 = .ok (.invokespecial 3, 3) := by decide +kernel
theorem dX0_init_4 : decode cX0_init 4 = .ok (.return_, 1) := by decide +kernel
theorem dX0_begin_0 : decode cX0_begin 0 = .ok (.aload_n 0, 1) := by decide +kernel
theorem dX0_begin_1 : decode cX0_begin 1 = .ok (.iload_n 1, 1) := by decide +kernel
theorem dX0_begin_2 : decode cX0_begin 2 = .ok (.putfield 9, 3) := by decide +kernel
theorem dX0_begin_5 : decode cX0_begin 5 = .ok (.aload_n 0, 1) := by decide +kernel
theorem dX0_begin_6 : decode cX0_begin 6 = .ok (.bipush 10, 2) := by decide +kernel
theorem dX0_begin_8 : decode cX0_begin 8 = .ok (.putfield 15, 3) := by decide +kernel
theorem dX0_begin_11 : decode cX0_begin 11 = .ok (.aload_n 0, 1) := by decide +kernel
theorem dX0_begin_12 : decode cX0_begin 12 = .ok (.iconst 0, 1) := by decide +kernel
theorem dX0_begin_13 : decode cX0_begin 13 = .ok (.putfield 18, 3) := by decide +kernel
theorem dX0_begin_16 : decode cX0_begin 16 = .ok (.aload_n 0, 1) := by decide +kernel
theorem dX0_begin_17 : decode cX0_begin 17 = .ok (.bipush 20, 2) := by decide +kernel
theorem dX0_begin_19 : decode cX0_begin 19 = .ok (.putfield 21, 3) := by decide +kernel
theorem dX0_begin_22 : decode cX0_begin 22 = .ok (.aload_n 0, 1) := by decide +kernel
theorem dX0_begin_23 : decode cX0_begin 23 = .ok (.iconst 0, 1) := by decide +kernel
theorem dX0_begin_24 : decode cX0_begin 24 = .ok (.putfield 24, 3) := by decide +kernel
theorem dX0_begin_27 : decode cX0_begin 27 = .ok (.return_, 1) := by decide +kernel
theorem dX0_become_0 : decode cX0_become 0 = .ok (.aload_n 0, 1) := by decide +kernel
theorem dX0_become_1 : decode cX0_become 1 = .ok (.aload_n 1, 1) := by decide +kernel
theorem dX0_become_2 : decode cX0_become 2 = .ok (.getfield 9, 3) := by decide +kernel
theorem dX0_become_5 : decode cX0_become 5 = .ok (.putfield 9, 3) := by decide +kernel
theorem dX0_become_8 : decode cX0_become 8 = .ok (.aload_n 0, 1) := by decide +kernel
theorem dX0_become_9 : decode cX0_become 9 = .ok (.aload_n 1, 1) := by decide +kernel
theorem dX0_become_10 : decode cX0_become 10 = .ok (.getfield 15, 3) := by decide +kernel
theorem dX0_become_13 : decode cX0_become 13 = .ok (.putfield 15, 3) := by decide +kernel
theorem dX0_become_16 : decode cX0_become 16 = .ok (.aload_n 0, 1) := by decide +kernel
theorem dX0_become_17 : decode cX0_become 17 = .ok (.aload_n 1, 1) := by decide +kernel
theorem dX0_become_18 : decode cX0_become 18 = .ok (.getfield 18, 3) := by decide +kernel
theorem dX0_become_21 : decode cX0_become 21 = .ok (.putfield 18, 3) := by decide +kernel
theorem dX0_become_24 : decode cX0_become 24 = .ok (.aload_n 0, 1) := by decide +kernel
theorem dX0_become_25 : decode cX0_become 25 = .ok (.aload_n 1, 1) := by decide +kernel
theorem dX0_become_26 : decode cX0_become 26 = .ok (.getfield 21, 3) := by decide +kernel
theorem dX0_become_29 : decode cX0_become 29 = .ok (.putfield 21, 3) := by decide +kernel
theorem dX0_become_32 : decode cX0_become 32 = .ok (.aload_n 0, 1) := by decide +kernel
theorem dX0_become_33 : decode cX0_become 33 = .ok (.aload_n 1, 1) := by decide +kernel
theorem dX0_become_34 : decode cX0_become 34 = .ok (.getfield 24, 3) := by decide +kernel
theorem dX0_become_37 : decode cX0_become 37 = .ok (.putfield 24, 3) := by decide +kernel
theorem dX0_become_40 : decode cX0_become 40 = .ok (.return_, 1) := by decide +kernel
theorem dX0_isStill_0 : decode cX0_isStill 0 = .ok (.aload_n 0, 1) := by decide +kernel
theorem dX0_isStill_1 : decode cX0_isStill 1 = .ok (.getfield 18, 3) := by decide +kernel
theorem dX0_isStill_4 : decode cX0_isStill 4 = .ok (.iconst 1, 1) := by decide +kernel
theorem dX0_isStill_5 : decode cX0_isStill 5 = .ok (.if_icmp .ne 15, 3) := by decide +kernel
theorem dX0_isStill_8 : decode cX0_isStill 8 = .ok (.aload_n 0, 1) := by decide +kernel
theorem dX0_isStill_9 : decode cX0_isStill 9 = .ok (.getfield 9, 3) := by decide +kernel
theorem dX0_isStill_12 : decode cX0_isStill 12 = .ok (.iconst 5, 1) := by decide +kernel
theorem dX0_isStill_13 : decode cX0_isStill 13 = .ok (.if_icmp .eq 7, 3) := by decide +kernel
theorem dX0_isStill_16 : decode cX0_isStill 16 = .ok (.iconst 1, 1) := by decide +kernel
theorem dX0_isStill_17 : decode cX0_isStill 17 = .ok (.goto 4, 3) := by decide +kernel
theorem dX0_isStill_20 : decode cX0_isStill 20 = .ok (.iconst 0, 1) := by decide +kernel
theorem dX0_isStill_21 : decode cX0_isStill 21 = .ok (.ireturn, 1) := by decide +kernel
theorem dX0_uses_0 : decode cX0_uses 0 = .ok (.aload_n 0, 1) := by decide +kernel
theorem dX0_uses_1 : decode cX0_uses 1 = .ok (.invokevirtual 27, 3) := by decide +kernel
theorem dX0_uses_4 : decode cX0_uses 4 = .ok (.ifCond .eq 5, 3) := by decide +kernel
theorem dX0_uses_7 : decode cX0_uses 7 = .ok (.iconst 0, 1) := by decide +kernel
theorem dX0_uses_8 : decode cX0_uses 8 = .ok (.ireturn, 1) := by decide +kernel
theorem dX0_uses_9 : decode cX0_uses 9 = .ok (.iload_n 1, 1) := by decide +kernel
theorem dX0_uses_10 : decode cX0_uses 10 = .ok (.ifCond .eq 12, 3) := by decide +kernel
theorem dX0_uses_13 : decode cX0_uses 13 = .ok (.aload_n 0, 1) := by decide +kernel
theorem dX0_uses_14 : decode cX0_uses 14 = .ok (.invokevirtual 31, 3) := by decide +kernel
theorem dX0_uses_17 : decode cX0_uses 17 = .ok (.iconst 2, 1) := by decide +kernel
theorem dX0_uses_18 : decode cX0_uses 18 = .ok (.idiv, 1) := by decide +kernel
theorem dX0_uses_19 : decode cX0_uses 19 = .ok (.goto 7, 3) := by decide +kernel
theorem dX0_uses_22 : decode cX0_uses 22 = .ok (.aload_n 0, 1) := by decide +kernel
theorem dX0_uses_23 : decode cX0_uses 23 = .ok (.invokevirtual 31, 3) := by decide +kernel
theorem dX0_uses_26 : decode cX0_uses 26 = .ok (.ireturn, 1) := by decide +kernel
theorem dX0_usesGoing_0 : decode cX0_usesGoing 0 = .ok (.aload_n 0, 1) := by decide +kernel
theorem dX0_usesGoing_1 : decode cX0_usesGoing 1 = .ok (.getfield 9, 3) := by decide +kernel
theorem dX0_usesGoing_4 : decode cX0_usesGoing 4 = .ok (.tableswitch 77 1 5 #[36, 43, 54, 56, 75], 36) := by decide +kernel
theorem dX0_usesGoing_40 : decode cX0_usesGoing 40 = .ok (.aload_n 0, 1) := by decide +kernel
theorem dX0_usesGoing_41 : decode cX0_usesGoing 41 = .ok (.getfield 15, 3) := by decide +kernel
theorem dX0_usesGoing_44 : decode cX0_usesGoing 44 = .ok (.iconst 2, 1) := by decide +kernel
theorem dX0_usesGoing_45 : decode cX0_usesGoing 45 = .ok (.imul, 1) := by decide +kernel
theorem dX0_usesGoing_46 : decode cX0_usesGoing 46 = .ok (.ireturn, 1) := by decide +kernel
theorem dX0_usesGoing_47 : decode cX0_usesGoing 47 = .ok (.iconst 1, 1) := by decide +kernel
theorem dX0_usesGoing_48 : decode cX0_usesGoing 48 = .ok (.aload_n 0, 1) := by decide +kernel
theorem dX0_usesGoing_49 : decode cX0_usesGoing 49 = .ok (.getfield 15, 3) := by decide +kernel
theorem dX0_usesGoing_52 : decode cX0_usesGoing 52 = .ok (.iconst 2, 1) := by decide +kernel
theorem dX0_usesGoing_53 : decode cX0_usesGoing 53 = .ok (.idiv, 1) := by decide +kernel
theorem dX0_usesGoing_54 : decode cX0_usesGoing 54 = .ok (.invokestatic 35, 3) := by decide +kernel
theorem dX0_usesGoing_57 : decode cX0_usesGoing 57 = .ok (.ireturn, 1) := by decide +kernel
theorem dX0_usesGoing_58 : decode cX0_usesGoing 58 = .ok (.iconst 2, 1) := by decide +kernel
theorem dX0_usesGoing_59 : decode cX0_usesGoing 59 = .ok (.ireturn, 1) := by decide +kernel
theorem dX0_usesGoing_60 : decode cX0_usesGoing 60 = .ok (.iconst 0, 1) := by decide +kernel
theorem dX0_usesGoing_61 : decode cX0_usesGoing 61 = .ok (.aload_n 0, 1) := by decide +kernel
theorem dX0_usesGoing_62 : decode cX0_usesGoing 62 = .ok (.getfield 15, 3) := by decide +kernel
theorem dX0_usesGoing_65 : decode cX0_usesGoing 65 = .ok (.iconst 2, 1) := by decide +kernel
theorem dX0_usesGoing_66 : decode cX0_usesGoing 66 = .ok (.imul, 1) := by decide +kernel
theorem dX0_usesGoing_67 : decode cX0_usesGoing 67 = .ok (.aload_n 0, 1) := by decide +kernel
theorem dX0_usesGoing_68 : decode cX0_usesGoing 68 = .ok (.getfield 21, 3) := by decide +kernel
theorem dX0_usesGoing_71 : decode cX0_usesGoing 71 = .ok (.bipush 20, 2) := by decide +kernel
theorem dX0_usesGoing_73 : decode cX0_usesGoing 73 = .ok (.idiv, 1) := by decide +kernel
theorem dX0_usesGoing_74 : decode cX0_usesGoing 74 = .ok (.isub, 1) := by decide +kernel
theorem dX0_usesGoing_75 : decode cX0_usesGoing 75 = .ok (.invokestatic 35, 3) := by decide +kernel
theorem dX0_usesGoing_78 : decode cX0_usesGoing 78 = .ok (.ireturn, 1) := by decide +kernel
theorem dX0_usesGoing_79 : decode cX0_usesGoing 79 = .ok (.iconst 1, 1) := by decide +kernel
theorem dX0_usesGoing_80 : decode cX0_usesGoing 80 = .ok (.ireturn, 1) := by decide +kernel
theorem dX0_usesGoing_81 : decode cX0_usesGoing 81 = .ok (.aload_n 0, 1) := by decide +kernel
theorem dX0_usesGoing_82 : decode cX0_usesGoing 82 = .ok (.getfield 15, 3) := by decide +kernel
theorem dX0_usesGoing_85 : decode cX0_usesGoing 85 = .ok (.ireturn, 1) := by decide +kernel
theorem dX0_heard_0 : decode cX0_heard 0 = .ok (.aload_n 0, 1) := by decide +kernel
theorem dX0_heard_1 : decode cX0_heard 1 = .ok (.invokevirtual 27, 3) := by decide +kernel
theorem dX0_heard_4 : decode cX0_heard 4 = .ok (.ifCond .eq 7, 3) := by decide +kernel
theorem dX0_heard_7 : decode cX0_heard 7 = .ok (.iconst 0, 1) := by decide +kernel
theorem dX0_heard_8 : decode cX0_heard 8 = .ok (.goto 7, 3) := by decide +kernel
theorem dX0_heard_11 : decode cX0_heard 11 = .ok (.aload_n 0, 1) := by decide +kernel
theorem dX0_heard_12 : decode cX0_heard 12 = .ok (.invokevirtual 41, 3) := by decide +kernel
theorem dX0_heard_15 : decode cX0_heard 15 = .ok (.ireturn, 1) := by decide +kernel
theorem dX0_heardGoing_0 : decode cX0_heardGoing 0 = .ok (.aload_n 0, 1) := by decide +kernel
theorem dX0_heardGoing_1 : decode cX0_heardGoing 1 = .ok (.getfield 9, 3) := by decide +kernel
theorem dX0_heardGoing_4 : decode cX0_heardGoing 4 = .ok (.tableswitch 73 1 5 #[36, 44, 53, 55, 63], 36) := by decide +kernel
theorem dX0_heardGoing_40 : decode cX0_heardGoing 40 = .ok (.aload_n 0, 1) := by decide +kernel
theorem dX0_heardGoing_41 : decode cX0_heardGoing 41 = .ok (.getfield 15, 3) := by decide +kernel
theorem dX0_heardGoing_44 : decode cX0_heardGoing 44 = .ok (.bipush 10, 2) := by decide +kernel
theorem dX0_heardGoing_46 : decode cX0_heardGoing 46 = .ok (.iadd, 1) := by decide +kernel
theorem dX0_heardGoing_47 : decode cX0_heardGoing 47 = .ok (.ireturn, 1) := by decide +kernel
theorem dX0_heardGoing_48 : decode cX0_heardGoing 48 = .ok (.aload_n 0, 1) := by decide +kernel
theorem dX0_heardGoing_49 : decode cX0_heardGoing 49 = .ok (.getfield 15, 3) := by decide +kernel
theorem dX0_heardGoing_52 : decode cX0_heardGoing 52 = .ok (.iconst 2, 1) := by decide +kernel
theorem dX0_heardGoing_53 : decode cX0_heardGoing 53 = .ok (.idiv, 1) := by decide +kernel
theorem dX0_heardGoing_54 : decode cX0_heardGoing 54 = .ok (.iconst 5, 1) := by decide +kernel
theorem dX0_heardGoing_55 : decode cX0_heardGoing 55 = .ok (.iadd, 1) := by decide +kernel
theorem dX0_heardGoing_56 : decode cX0_heardGoing 56 = .ok (.ireturn, 1) := by decide +kernel
theorem dX0_heardGoing_57 : decode cX0_heardGoing 57 = .ok (.iconst 1, 1) := by decide +kernel
theorem dX0_heardGoing_58 : decode cX0_heardGoing 58 = .ok (.ireturn, 1) := by decide +kernel
theorem dX0_heardGoing_59 : decode cX0_heardGoing 59 = .ok (.aload_n 0, 1) := by decide +kernel
theorem dX0_heardGoing_60 : decode cX0_heardGoing 60 = .ok (.getfield 15, 3) := by decide +kernel
theorem dX0_heardGoing_63 : decode cX0_heardGoing 63 = .ok (.bipush 10, 2) := by decide +kernel
theorem dX0_heardGoing_65 : decode cX0_heardGoing 65 = .ok (.iadd, 1) := by decide +kernel
theorem dX0_heardGoing_66 : decode cX0_heardGoing 66 = .ok (.ireturn, 1) := by decide +kernel
theorem dX0_heardGoing_67 : decode cX0_heardGoing 67 = .ok (.iconst 1, 1) := by decide +kernel
theorem dX0_heardGoing_68 : decode cX0_heardGoing 68 = .ok (.aload_n 0, 1) := by decide +kernel
theorem dX0_heardGoing_69 : decode cX0_heardGoing 69 = .ok (.getfield 21, 3) := by decide +kernel
theorem dX0_heardGoing_72 : decode cX0_heardGoing 72 = .ok (.bipush 10, 2) := by decide +kernel
theorem dX0_heardGoing_74 : decode cX0_heardGoing 74 = .ok (.idiv, 1) := by decide +kernel
theorem dX0_heardGoing_75 : decode cX0_heardGoing 75 = .ok (.iadd, 1) := by decide +kernel
theorem dX0_heardGoing_76 : decode cX0_heardGoing 76 = .ok (.ireturn, 1) := by decide +kernel
theorem dX0_heardGoing_77 : decode cX0_heardGoing 77 = .ok (.aload_n 0, 1) := by decide +kernel
theorem dX0_heardGoing_78 : decode cX0_heardGoing 78 = .ok (.getfield 15, 3) := by decide +kernel
theorem dX0_heardGoing_81 : decode cX0_heardGoing 81 = .ok (.ireturn, 1) := by decide +kernel
theorem dX0_gains_0 : decode cX0_gains 0 = .ok (.aload_n 0, 1) := by decide +kernel
theorem dX0_gains_1 : decode cX0_gains 1 = .ok (.getfield 18, 3) := by decide +kernel
theorem dX0_gains_4 : decode cX0_gains 4 = .ok (.iconst 1, 1) := by decide +kernel
theorem dX0_gains_5 : decode cX0_gains 5 = .ok (.if_icmp .ne 7, 3) := by decide +kernel
theorem dX0_gains_8 : decode cX0_gains 8 = .ok (.iconst (-1), 1) := by decide +kernel
theorem dX0_gains_9 : decode cX0_gains 9 = .ok (.goto 4, 3) := by decide +kernel
theorem dX0_gains_12 : decode cX0_gains 12 = .ok (.iconst 1, 1) := by decide +kernel
theorem dX0_gains_13 : decode cX0_gains 13 = .ok (.istore_n 2, 1) := by decide +kernel
theorem dX0_gains_14 : decode cX0_gains 14 = .ok (.aload_n 0, 1) := by decide +kernel
theorem dX0_gains_15 : decode cX0_gains 15 = .ok (.getfield 15, 3) := by decide +kernel
theorem dX0_gains_18 : decode cX0_gains 18 = .ok (.bipush 30, 2) := by decide +kernel
theorem dX0_gains_20 : decode cX0_gains 20 = .ok (.if_icmp .le 7, 3) := by decide +kernel
theorem dX0_gains_23 : decode cX0_gains 23 = .ok (.iconst 0, 1) := by decide +kernel
theorem dX0_gains_24 : decode cX0_gains 24 = .ok (.goto 4, 3) := by decide +kernel
theorem dX0_gains_27 : decode cX0_gains 27 = .ok (.iload_n 2, 1) := by decide +kernel
theorem dX0_gains_28 : decode cX0_gains 28 = .ok (.istore_n 3, 1) := by decide +kernel
theorem dX0_gains_29 : decode cX0_gains 29 = .ok (.iload_n 1, 1) := by decide +kernel
theorem dX0_gains_30 : decode cX0_gains 30 = .ok (.ifCond .eq 7, 3) := by decide +kernel
theorem dX0_gains_33 : decode cX0_gains 33 = .ok (.iload_n 2, 1) := by decide +kernel
theorem dX0_gains_34 : decode cX0_gains 34 = .ok (.goto 6, 3) := by decide +kernel
theorem dX0_gains_37 : decode cX0_gains 37 = .ok (.iload_n 2, 1) := by decide +kernel
theorem dX0_gains_38 : decode cX0_gains 38 = .ok (.iconst 1, 1) := by decide +kernel
theorem dX0_gains_39 : decode cX0_gains 39 = .ok (.iadd, 1) := by decide +kernel
theorem dX0_gains_40 : decode cX0_gains 40 = .ok (.istore 4, 2) := by decide +kernel
theorem dX0_gains_42 : decode cX0_gains 42 = .ok (.aload_n 0, 1) := by decide +kernel
theorem dX0_gains_43 : decode cX0_gains 43 = .ok (.getfield 9, 3) := by decide +kernel
theorem dX0_gains_46 : decode cX0_gains 46 = .ok (.tableswitch 52 1 5 #[34, 36, 38, 41, 45], 34) := by decide +kernel
theorem dX0_gains_80 : decode cX0_gains 80 = .ok (.iload_n 3, 1) := by decide +kernel
theorem dX0_gains_81 : decode cX0_gains 81 = .ok (.ireturn, 1) := by decide +kernel
theorem dX0_gains_82 : decode cX0_gains 82 = .ok (.iconst 1, 1) := by decide +kernel
theorem dX0_gains_83 : decode cX0_gains 83 = .ok (.ireturn, 1) := by decide +kernel
theorem dX0_gains_84 : decode cX0_gains 84 = .ok (.iload 4, 2) := by decide +kernel
theorem dX0_gains_86 : decode cX0_gains 86 = .ok (.ireturn, 1) := by decide +kernel
theorem dX0_gains_87 : decode cX0_gains 87 = .ok (.iload_n 3, 1) := by decide +kernel
theorem dX0_gains_88 : decode cX0_gains 88 = .ok (.iconst 1, 1) := by decide +kernel
theorem dX0_gains_89 : decode cX0_gains 89 = .ok (.isub, 1) := by decide +kernel
theorem dX0_gains_90 : decode cX0_gains 90 = .ok (.ireturn, 1) := by decide +kernel
theorem dX0_gains_91 : decode cX0_gains 91 = .ok (.iconst 0, 1) := by decide +kernel
theorem dX0_gains_92 : decode cX0_gains 92 = .ok (.iload 4, 2) := by decide +kernel
theorem dX0_gains_94 : decode cX0_gains 94 = .ok (.invokestatic 35, 3) := by decide +kernel
theorem dX0_gains_97 : decode cX0_gains 97 = .ok (.ireturn, 1) := by decide +kernel
theorem dX0_gains_98 : decode cX0_gains 98 = .ok (.iload_n 2, 1) := by decide +kernel
theorem dX0_gains_99 : decode cX0_gains 99 = .ok (.ireturn, 1) := by decide +kernel
theorem dX0_givesWay_0 : decode cX0_givesWay 0 = .ok (.aload_n 0, 1) := by decide +kernel
theorem dX0_givesWay_1 : decode cX0_givesWay 1 = .ok (.getfield 15, 3) := by decide +kernel
theorem dX0_givesWay_4 : decode cX0_givesWay 4 = .ok (.aload_n 0, 1) := by decide +kernel
theorem dX0_givesWay_5 : decode cX0_givesWay 5 = .ok (.getfield 21, 3) := by decide +kernel
theorem dX0_givesWay_8 : decode cX0_givesWay 8 = .ok (.isub, 1) := by decide +kernel
theorem dX0_givesWay_9 : decode cX0_givesWay 9 = .ok (.istore_n 1, 1) := by decide +kernel
theorem dX0_givesWay_10 : decode cX0_givesWay 10 = .ok (.iload_n 1, 1) := by decide +kernel
theorem dX0_givesWay_11 : decode cX0_givesWay 11 = .ok (.bipush 20, 2) := by decide +kernel
theorem dX0_givesWay_13 : decode cX0_givesWay 13 = .ok (.isub, 1) := by decide +kernel
theorem dX0_givesWay_14 : decode cX0_givesWay 14 = .ok (.istore_n 2, 1) := by decide +kernel
theorem dX0_givesWay_15 : decode cX0_givesWay 15 = .ok (.sipush (-200), 3) := by decide +kernel
theorem dX0_givesWay_18 : decode cX0_givesWay 18 = .ok (.aload_n 0, 1) := by decide +kernel
theorem dX0_givesWay_19 : decode cX0_givesWay 19 = .ok (.getfield 21, 3) := by decide +kernel
theorem dX0_givesWay_22 : decode cX0_givesWay 22 = .ok (.isub, 1) := by decide +kernel
theorem dX0_givesWay_23 : decode cX0_givesWay 23 = .ok (.istore_n 3, 1) := by decide +kernel
theorem dX0_givesWay_24 : decode cX0_givesWay 24 = .ok (.aload_n 0, 1) := by decide +kernel
theorem dX0_givesWay_25 : decode cX0_givesWay 25 = .ok (.getfield 9, 3) := by decide +kernel
theorem dX0_givesWay_28 : decode cX0_givesWay 28 = .ok (.tableswitch 50 1 5 #[36, 50, 38, 40, 44], 36) := by decide +kernel
theorem dX0_givesWay_64 : decode cX0_givesWay 64 = .ok (.iload_n 2, 1) := by decide +kernel
theorem dX0_givesWay_65 : decode cX0_givesWay 65 = .ok (.ireturn, 1) := by decide +kernel
theorem dX0_givesWay_66 : decode cX0_givesWay 66 = .ok (.iload_n 3, 1) := by decide +kernel
theorem dX0_givesWay_67 : decode cX0_givesWay 67 = .ok (.ireturn, 1) := by decide +kernel
theorem dX0_givesWay_68 : decode cX0_givesWay 68 = .ok (.iload_n 2, 1) := by decide +kernel
theorem dX0_givesWay_69 : decode cX0_givesWay 69 = .ok (.iconst 5, 1) := by decide +kernel
theorem dX0_givesWay_70 : decode cX0_givesWay 70 = .ok (.iadd, 1) := by decide +kernel
theorem dX0_givesWay_71 : decode cX0_givesWay 71 = .ok (.ireturn, 1) := by decide +kernel
theorem dX0_givesWay_72 : decode cX0_givesWay 72 = .ok (.iload_n 3, 1) := by decide +kernel
theorem dX0_givesWay_73 : decode cX0_givesWay 73 = .ok (.sipush 200, 3) := by decide +kernel
theorem dX0_givesWay_76 : decode cX0_givesWay 76 = .ok (.isub, 1) := by decide +kernel
theorem dX0_givesWay_77 : decode cX0_givesWay 77 = .ok (.ireturn, 1) := by decide +kernel
theorem dX0_givesWay_78 : decode cX0_givesWay 78 = .ok (.iload_n 1, 1) := by decide +kernel
theorem dX0_givesWay_79 : decode cX0_givesWay 79 = .ok (.ireturn, 1) := by decide +kernel
theorem dX0_stoop_0 : decode cX0_stoop 0 = .ok (.aload_n 0, 1) := by decide +kernel
theorem dX0_stoop_1 : decode cX0_stoop 1 = .ok (.iconst 1, 1) := by decide +kernel
theorem dX0_stoop_2 : decode cX0_stoop 2 = .ok (.putfield 18, 3) := by decide +kernel
theorem dX0_stoop_5 : decode cX0_stoop 5 = .ok (.aload_n 0, 1) := by decide +kernel
theorem dX0_stoop_6 : decode cX0_stoop 6 = .ok (.sipush 9999, 3) := by decide +kernel
theorem dX0_stoop_9 : decode cX0_stoop 9 = .ok (.aload_n 0, 1) := by decide +kernel
theorem dX0_stoop_10 : decode cX0_stoop 10 = .ok (.getfield 24, 3) := by decide +kernel
theorem dX0_stoop_13 : decode cX0_stoop 13 = .ok (.iconst 1, 1) := by decide +kernel
theorem dX0_stoop_14 : decode cX0_stoop 14 = .ok (.iadd, 1) := by decide +kernel
theorem dX0_stoop_15 : decode cX0_stoop 15 = .ok (.invokestatic 44, 3) := by decide +kernel
theorem dX0_stoop_18 : decode cX0_stoop 18 = .ok (.putfield 24, 3) := by decide +kernel
theorem dX0_stoop_21 : decode cX0_stoop 21 = .ok (.return_, 1) := by decide +kernel
theorem dX0_endDay_0 : decode cX0_endDay 0 = .ok (.aload_n 0, 1) := by decide +kernel
theorem dX0_endDay_1 : decode cX0_endDay 1 = .ok (.iconst 0, 1) := by decide +kernel
theorem dX0_endDay_2 : decode cX0_endDay 2 = .ok (.bipush 99, 2) := by decide +kernel
theorem dX0_endDay_4 : decode cX0_endDay 4 = .ok (.aload_n 0, 1) := by decide +kernel
theorem dX0_endDay_5 : decode cX0_endDay 5 = .ok (.getfield 21, 3) := by decide +kernel
theorem dX0_endDay_8 : decode cX0_endDay 8 = .ok (.aload_n 0, 1) := by decide +kernel
theorem dX0_endDay_9 : decode cX0_endDay 9 = .ok (.iload_n 1, 1) := by decide +kernel
theorem dX0_endDay_10 : decode cX0_endDay 10 = .ok (.invokevirtual 47, 3) := by decide +kernel
theorem dX0_endDay_13 : decode cX0_endDay 13 = .ok (.iadd, 1) := by decide +kernel
theorem dX0_endDay_14 : decode cX0_endDay 14 = .ok (.invokestatic 44, 3) := by decide +kernel
theorem dX0_endDay_17 : decode cX0_endDay 17 = .ok (.invokestatic 35, 3) := by decide +kernel
theorem dX0_endDay_20 : decode cX0_endDay 20 = .ok (.putfield 21, 3) := by decide +kernel
theorem dX0_endDay_23 : decode cX0_endDay 23 = .ok (.return_, 1) := by decide +kernel
theorem dX1_init_0 : decode cX1_init 0 = .ok (.aload_n 0, 1) := by decide +kernel
theorem dX1_init_1 : decode cX1_init 1 = .ok (.invokespecial 3, 3) := by decide +kernel
theorem dX1_init_4 : decode cX1_init 4 = .ok (.aload_n 0, 1) := by decide +kernel
theorem dX1_init_5 : decode cX1_init 5 = .ok (.iconst 0, 1) := by decide +kernel
theorem dX1_init_6 : decode cX1_init 6 = .ok (.putfield 9, 3) := by decide +kernel
theorem dX1_init_9 : decode cX1_init 9 = .ok (.aload_n 0, 1) := by decide +kernel
theorem dX1_init_10 : decode cX1_init 10 = .ok (.iconst 0, 1) := by decide +kernel
theorem dX1_init_11 : decode cX1_init 11 = .ok (.putfield 15, 3) := by decide +kernel
theorem dX1_init_14 : decode cX1_init 14 = .ok (.aload_n 0, 1) := by decide +kernel
theorem dX1_init_15 : decode cX1_init 15 = .ok (.bipush 40, 2) := by decide +kernel
theorem dX1_init_17 : decode cX1_init 17 = .ok (.newarray .long, 2) := by decide +kernel
theorem dX1_init_19 : decode cX1_init 19 = .ok (.putfield 18, 3) := by decide +kernel
theorem dX1_init_22 : decode cX1_init 22 = .ok (.return_, 1) := by decide +kernel
theorem dX1_isMissing_0 : decode cX1_isMissing 0 = .ok (.aload_n 0, 1) := by decide +kernel
theorem dX1_isMissing_1 : decode cX1_isMissing 1 = .ok (.getfield 9, 3) := by decide +kernel
theorem dX1_isMissing_4 : decode cX1_isMissing 4 = .ok (.ifCond .ne 7, 3) := by decide +kernel
theorem dX1_isMissing_7 : decode cX1_isMissing 7 = .ok (.iconst 1, 1) := by decide +kernel
theorem dX1_isMissing_8 : decode cX1_isMissing 8 = .ok (.goto 4, 3) := by decide +kernel
theorem dX1_isMissing_11 : decode cX1_isMissing 11 = .ok (.iconst 0, 1) := by decide +kernel
theorem dX1_isMissing_12 : decode cX1_isMissing 12 = .ok (.ireturn, 1) := by decide +kernel
theorem dX1_lay_0 : decode cX1_lay 0 = .ok (.aload_n 0, 1) := by decide +kernel
theorem dX1_lay_1 : decode cX1_lay 1 = .ok (.iload_n 1, 1) := by decide +kernel
theorem dX1_lay_2 : decode cX1_lay 2 = .ok (.putfield 9, 3) := by decide +kernel
theorem dX1_lay_5 : decode cX1_lay 5 = .ok (.aload_n 0, 1) := by decide +kernel
theorem dX1_lay_6 : decode cX1_lay 6 = .ok (.iload_n 1, 1) := by decide +kernel
theorem dX1_lay_7 : decode cX1_lay 7 = .ok (.ifCond .ne 7, 3) := by decide +kernel
theorem dX1_lay_10 : decode cX1_lay 10 = .ok (.iconst 0, 1) := by decide +kernel
theorem dX1_lay_11 : decode cX1_lay 11 = .ok (.goto 13, 3) := by decide +kernel
theorem dX1_lay_14 : decode cX1_lay 14 = .ok (.iconst 0, 1) := by decide +kernel
theorem dX1_lay_15 : decode cX1_lay 15 = .ok (.bipush 40, 2) := by decide +kernel
theorem dX1_lay_17 : decode cX1_lay 17 = .ok (.iload_n 2, 1) := by decide +kernel
theorem dX1_lay_18 : decode cX1_lay 18 = .ok (.invokestatic 22, 3) := by decide +kernel
theorem dX1_lay_21 : decode cX1_lay 21 = .ok (.invokestatic 28, 3) := by decide +kernel
theorem dX1_lay_24 : decode cX1_lay 24 = .ok (.putfield 15, 3) := by decide +kernel
theorem dX1_lay_27 : decode cX1_lay 27 = .ok (.aload_n 0, 1) := by decide +kernel
theorem dX1_lay_28 : decode cX1_lay 28 = .ok (.getfield 18, 3) := by decide +kernel
theorem dX1_lay_31 : decode cX1_lay 31 = .ok (.lconst 0, 1) := by decide +kernel
theorem dX1_lay_32 : decode cX1_lay 32 = .ok (.invokestatic 31, 3) := by decide +kernel
theorem dX1_lay_35 : decode cX1_lay 35 = .ok (.return_, 1) := by decide +kernel
theorem dX1_hasFrom_0 : decode cX1_hasFrom 0 = .ok (.iload_n 1, 1) := by decide +kernel
theorem dX1_hasFrom_1 : decode cX1_hasFrom 1 = .ok (.ifCond .lt 21, 3) := by decide +kernel
theorem dX1_hasFrom_4 : decode cX1_hasFrom 4 = .ok (.iload_n 2, 1) := by decide +kernel
theorem dX1_hasFrom_5 : decode cX1_hasFrom 5 = .ok (.ifCond .lt 17, 3) := by decide +kernel
theorem dX1_hasFrom_8 : decode cX1_hasFrom 8 = .ok (.iload_n 2, 1) := by decide +kernel
theorem dX1_hasFrom_9 : decode cX1_hasFrom 9 = .ok (.aload_n 0, 1) := by decide +kernel
theorem dX1_hasFrom_10 : decode cX1_hasFrom 10 = .ok (.getfield 15, 3) := by decide +kernel
theorem dX1_hasFrom_13 : decode cX1_hasFrom 13 = .ok (.iload_n 1, 1) := by decide +kernel
theorem dX1_hasFrom_14 : decode cX1_hasFrom 14 = .ok (.isub, 1) := by decide +kernel
theorem dX1_hasFrom_15 : decode cX1_hasFrom 15 = .ok (.if_icmp .gt 7, 3) := by decide +kernel
theorem dX1_hasFrom_18 : decode cX1_hasFrom 18 = .ok (.iconst 1, 1) := by decide +kernel
theorem dX1_hasFrom_19 : decode cX1_hasFrom 19 = .ok (.goto 4, 3) := by decide +kernel
theorem dX1_hasFrom_22 : decode cX1_hasFrom 22 = .ok (.iconst 0, 1) := by decide +kernel
theorem dX1_hasFrom_23 : decode cX1_hasFrom 23 = .ok (.ireturn, 1) := by decide +kernel
theorem dX1_put_0 : decode cX1_put 0 = .ok (.iload_n 1, 1) := by decide +kernel
theorem dX1_put_1 : decode cX1_put 1 = .ok (.ifCond .lt 11, 3) := by decide +kernel
theorem dX1_put_4 : decode cX1_put 4 = .ok (.iload_n 1, 1) := by decide +kernel
theorem dX1_put_5 : decode cX1_put 5 = .ok (.aload_n 0, 1) := by decide +kernel
theorem dX1_put_6 : decode cX1_put 6 = .ok (.getfield 15, 3) := by decide +kernel
theorem dX1_put_9 : decode cX1_put 9 = .ok (.if_icmp .lt 4, 3) := by decide +kernel
theorem dX1_put_12 : decode cX1_put 12 = .ok (.return_, 1) := by decide +kernel
theorem dX1_put_13 : decode cX1_put 13 = .ok (.aload_n 0, 1) := by decide +kernel
theorem dX1_put_14 : decode cX1_put 14 = .ok (.getfield 9, 3) := by decide +kernel
theorem dX1_put_17 : decode cX1_put 17 = .ok (.bipush 8, 2) := by decide +kernel
theorem dX1_put_19 : decode cX1_put 19 = .ok (.if_icmp .ne 16, 3) := by decide +kernel
theorem dX1_put_22 : decode cX1_put 22 = .ok (.aload_n 0, 1) := by decide +kernel
theorem dX1_put_23 : decode cX1_put 23 = .ok (.getfield 18, 3) := by decide +kernel
theorem dX1_put_26 : decode cX1_put 26 = .ok (.iload_n 1, 1) := by decide +kernel
theorem dX1_put_27 : decode cX1_put 27 = .ok (.lload_n 2, 1) := by decide +kernel
theorem dX1_put_28 : decode cX1_put 28 = .ok (.l2i, 1) := by decide +kernel
theorem dX1_put_29 : decode cX1_put 29 = .ok (.i2b, 1) := by decide +kernel
theorem dX1_put_30 : decode cX1_put 30 = .ok (.i2l, 1) := by decide +kernel
theorem dX1_put_31 : decode cX1_put 31 = .ok (.lastore, 1) := by decide +kernel
theorem dX1_put_32 : decode cX1_put 32 = .ok (.goto 32, 3) := by decide +kernel
theorem dX1_put_35 : decode cX1_put 35 = .ok (.aload_n 0, 1) := by decide +kernel
theorem dX1_put_36 : decode cX1_put 36 = .ok (.getfield 9, 3) := by decide +kernel
theorem dX1_put_39 : decode cX1_put 39 = .ok (.bipush 16, 2) := by decide +kernel
theorem dX1_put_41 : decode cX1_put 41 = .ok (.if_icmp .ne 16, 3) := by decide +kernel
theorem dX1_put_44 : decode cX1_put 44 = .ok (.aload_n 0, 1) := by decide +kernel
theorem dX1_put_45 : decode cX1_put 45 = .ok (.getfield 18, 3) := by decide +kernel
theorem dX1_put_48 : decode cX1_put 48 = .ok (.iload_n 1, 1) := by decide +kernel
theorem dX1_put_49 : decode cX1_put 49 = .ok (.lload_n 2, 1) := by decide +kernel
theorem dX1_put_50 : decode cX1_put 50 = .ok (.l2i, 1) := by decide +kernel
theorem dX1_put_51 : decode cX1_put 51 = .ok (.i2s, 1) := by decide +kernel
theorem dX1_put_52 : decode cX1_put 52 = .ok (.i2l, 1) := by decide +kernel
theorem dX1_put_53 : decode cX1_put 53 = .ok (.lastore, 1) := by decide +kernel
theorem dX1_put_54 : decode cX1_put 54 = .ok (.goto 10, 3) := by decide +kernel
theorem dX1_put_57 : decode cX1_put 57 = .ok (.aload_n 0, 1) := by decide +kernel
theorem dX1_put_58 : decode cX1_put 58 = .ok (.getfield 18, 3) := by decide +kernel
theorem dX1_put_61 : decode cX1_put 61 = .ok (.iload_n 1, 1) := by decide +kernel
theorem dX1_put_62 : decode cX1_put 62 = .ok (.lload_n 2, 1) := by decide +kernel
theorem dX1_put_63 : decode cX1_put 63 = .ok (.lastore, 1) := by decide +kernel
theorem dX1_put_64 : decode cX1_put 64 = .ok (.return_, 1) := by decide +kernel
theorem dX2_init_0 : decode cX2_init 0 = .ok (.aload_n 0, 1) := by decide +kernel
theorem dX2_init_1 : decode cX2_init 1 = .ok (.invokespecial 3, 3) := by decide +kernel
theorem dX2_init_4 : decode cX2_init 4 = .ok (.aload_n 0, 1) := by decide +kernel
theorem dX2_init_5 : decode cX2_init 5 = .ok (.bipush 120, 2) := by decide +kernel
theorem dX2_init_7 : decode cX2_init 7 = .ok (.newarray .int, 2) := by decide +kernel
theorem dX2_init_9 : decode cX2_init 9 = .ok (.putfield 9, 3) := by decide +kernel
theorem dX2_init_12 : decode cX2_init 12 = .ok (.aload_n 0, 1) := by decide +kernel
theorem dX2_init_13 : decode cX2_init 13 = .ok (.iconst 0, 1) := by decide +kernel
theorem dX2_init_14 : decode cX2_init 14 = .ok (.putfield 15, 3) := by decide +kernel
theorem dX2_init_17 : decode cX2_init 17 = .ok (.return_, 1) := by decide +kernel
theorem dX2_add_0 : decode cX2_add 0 = .ok (.aload_n 0, 1) := by decide +kernel
theorem dX2_add_1 : decode cX2_add 1 = .ok (.getfield 15, 3) := by decide +kernel
theorem dX2_add_4 : decode cX2_add 4 = .ok (.bipush 120, 2) := by decide +kernel
theorem dX2_add_6 : decode cX2_add 6 = .ok (.if_icmp .ge 27, 3) := by decide +kernel
theorem dX2_add_9 : decode cX2_add 9 = .ok (.aload_n 0, 1) := by decide +kernel
theorem dX2_add_10 : decode cX2_add 10 = .ok (.getfield 9, 3) := by decide +kernel
theorem dX2_add_13 : decode cX2_add 13 = .ok (.aload_n 0, 1) := by decide +kernel
theorem dX2_add_14 : decode cX2_add 14 = .ok (.getfield 15, 3) := by decide +kernel
theorem dX2_add_17 : decode cX2_add 17 = .ok (.iload_n 1, 1) := by decide +kernel
theorem dX2_add_18 : decode cX2_add 18 = .ok (.sipush 255, 3) := by decide +kernel
theorem dX2_add_21 : decode cX2_add 21 = .ok (.iand, 1) := by decide +kernel
theorem dX2_add_22 : decode cX2_add 22 = .ok (.iastore, 1) := by decide +kernel
theorem dX2_add_23 : decode cX2_add 23 = .ok (.aload_n 0, 1) := by decide +kernel
theorem dX2_add_24 : decode cX2_add 24 = .ok (.dup, 1) := by decide +kernel
theorem dX2_add_25 : decode cX2_add 25 = .ok (.getfield 15, 3) := by decide +kernel
theorem dX2_add_28 : decode cX2_add 28 = .ok (.iconst 1, 1) := by decide +kernel
theorem dX2_add_29 : decode cX2_add 29 = .ok (.iadd, 1) := by decide +kernel
theorem dX2_add_30 : decode cX2_add 30 = .ok (.putfield 15, 3) := by decide +kernel
theorem dX2_add_33 : decode cX2_add 33 = .ok (.return_, 1) := by decide +kernel
theorem dX3_init_0 : decode cX3_init 0 = .ok (.aload_n 0, 1) := by decide +kernel
theorem dX3_init_1 : decode cX3_init 1 = .ok (.invokespecial 3, 3) := by decide +kernel
theorem dX3_init_4 : decode cX3_init 4 = .ok (.aload_n 0, 1) := by decide +kernel
theorem dX3_init_5 : decode cX3_init 5 = .ok (.iconst 3, 1) := by decide +kernel
theorem dX3_init_6 : decode cX3_init 6 = .ok (.putfield 11, 3) := by decide +kernel
theorem dX3_init_9 : decode cX3_init 9 = .ok (.aload_n 0, 1) := by decide +kernel
theorem dX3_init_10 : decode cX3_init 10 = .ok (.iconst 0, 1) := by decide +kernel
theorem dX3_init_11 : decode cX3_init 11 = .ok (.putfield 15, 3) := by decide +kernel
theorem dX3_init_14 : decode cX3_init 14 = .ok (.aload_n 0, 1) := by decide +kernel
theorem dX3_init_15 : decode cX3_init 15 = .ok (.iconst 0, 1) := by decide +kernel
theorem dX3_init_16 : decode cX3_init 16 = .ok (.putfield 18, 3) := by decide +kernel
theorem dX3_init_19 : decode cX3_init 19 = .ok (.aload_n 0, 1) := by decide +kernel
theorem dX3_init_20 : decode cX3_init 20 = .ok (.iconst 0, 1) := by decide +kernel
theorem dX3_init_21 : decode cX3_init 21 = .ok (.putfield 21, 3) := by decide +kernel
theorem dX3_init_24 : decode cX3_init 24 = .ok (.aload_n 0, 1) := by decide +kernel
theorem dX3_init_25 : decode cX3_init 25 = .ok (.iconst 0, 1) := by decide +kernel
theorem dX3_init_26 : decode cX3_init 26 = .ok (.putfield 24, 3) := by decide +kernel
theorem dX3_init_29 : decode cX3_init 29 = .ok (.aload_n 0, 1) := by decide +kernel
theorem dX3_init_30 : decode cX3_init 30 = .ok (.aload_n 1, 1) := by decide +kernel
theorem dX3_init_31 : decode cX3_init 31 = .ok (.putfield 27, 3) := by decide +kernel
theorem dX3_init_34 : decode cX3_init 34 = .ok (.return_, 1) := by decide +kernel
theorem dX3_readInto_0 : decode cX3_readInto 0 = .ok (.aload_n 0, 1) := by decide +kernel
theorem dX3_readInto_1 : decode cX3_readInto 1 = .ok (.iconst 0, 1) := by decide +kernel
theorem dX3_readInto_2 : decode cX3_readInto 2 = .ok (.putfield 18, 3) := by decide +kernel
theorem dX3_readInto_5 : decode cX3_readInto 5 = .ok (.aload_n 0, 1) := by decide +kernel
theorem dX3_readInto_6 : decode cX3_readInto 6 = .ok (.invokevirtual 31, 3) := by decide +kernel
theorem dX3_readInto_9 : decode cX3_readInto 9 = .ok (.iconst 1, 1) := by decide +kernel
theorem dX3_readInto_10 : decode cX3_readInto 10 = .ok (.istore_n 2, 1) := by decide +kernel
theorem dX3_readInto_11 : decode cX3_readInto 11 = .ok (.iload_n 2, 1) := by decide +kernel
theorem dX3_readInto_12 : decode cX3_readInto 12 = .ok (.bipush 120, 2) := by decide +kernel
theorem dX3_readInto_14 : decode cX3_readInto 14 = .ok (.if_icmp .gt 53, 3) := by decide +kernel
theorem dX3_readInto_17 : decode cX3_readInto 17 = .ok (.aload_n 0, 1) := by decide +kernel
theorem dX3_readInto_18 : decode cX3_readInto 18 = .ok (.aload_n 1, 1) := by decide +kernel
theorem dX3_readInto_19 : decode cX3_readInto 19 = .ok (.invokevirtual 34, 3) := by decide +kernel
theorem dX3_readInto_22 : decode cX3_readInto 22 = .ok (.ifCond .ne 10, 3) := by decide +kernel
theorem dX3_readInto_25 : decode cX3_readInto 25 = .ok (.iconst (-1), 1) := by decide +kernel
theorem dX3_readInto_26 : decode cX3_readInto 26 = .ok (.aload_n 0, 1) := by decide +kernel
theorem dX3_readInto_27 : decode cX3_readInto 27 = .ok (.getfield 15, 3) := by decide +kernel
theorem dX3_readInto_30 : decode cX3_readInto 30 = .ok (.isub, 1) := by decide +kernel
theorem dX3_readInto_31 : decode cX3_readInto 31 = .ok (.ireturn, 1) := by decide +kernel
theorem dX3_readInto_32 : decode cX3_readInto 32 = .ok (.aload_n 0, 1) := by decide +kernel
theorem dX3_readInto_33 : decode cX3_readInto 33 = .ok (.getfield 11, 3) := by decide +kernel
theorem dX3_readInto_36 : decode cX3_readInto 36 = .ok (.iconst 3, 1) := by decide +kernel
theorem dX3_readInto_37 : decode cX3_readInto 37 = .ok (.if_icmp .ne 5, 3) := by decide +kernel
theorem dX3_readInto_40 : decode cX3_readInto 40 = .ok (.iload_n 2, 1) := by decide +kernel
theorem dX3_readInto_41 : decode cX3_readInto 41 = .ok (.ireturn, 1) := by decide +kernel
theorem dX3_readInto_42 : decode cX3_readInto 42 = .ok (.aload_n 0, 1) := by decide +kernel
theorem dX3_readInto_43 : decode cX3_readInto 43 = .ok (.getfield 11, 3) := by decide +kernel
theorem dX3_readInto_46 : decode cX3_readInto 46 = .ok (.iconst 2, 1) := by decide +kernel
theorem dX3_readInto_47 : decode cX3_readInto 47 = .ok (.if_icmp .eq 10, 3) := by decide +kernel
theorem dX3_readInto_50 : decode cX3_readInto 50 = .ok (.iconst (-1), 1) := by decide +kernel
theorem dX3_readInto_51 : decode cX3_readInto 51 = .ok (.aload_n 0, 1) := by decide +kernel
theorem dX3_readInto_52 : decode cX3_readInto 52 = .ok (.getfield 15, 3) := by decide +kernel
theorem dX3_readInto_55 : decode cX3_readInto 55 = .ok (.isub, 1) := by decide +kernel
theorem dX3_readInto_56 : decode cX3_readInto 56 = .ok (.ireturn, 1) := by decide +kernel
theorem dX3_readInto_57 : decode cX3_readInto 57 = .ok (.aload_n 0, 1) := by decide +kernel
theorem dX3_readInto_58 : decode cX3_readInto 58 = .ok (.invokevirtual 31, 3) := by decide +kernel
theorem dX3_readInto_61 : decode cX3_readInto 61 = .ok (.iinc 2 1, 3) := by decide +kernel
theorem dX3_readInto_64 : decode cX3_readInto 64 = .ok (.goto (-53), 3) := by decide +kernel
theorem dX3_readInto_67 : decode cX3_readInto 67 = .ok (.iconst (-1), 1) := by decide +kernel
theorem dX3_readInto_68 : decode cX3_readInto 68 = .ok (.aload_n 0, 1) := by decide +kernel
theorem dX3_readInto_69 : decode cX3_readInto 69 = .ok (.getfield 15, 3) := by decide +kernel
theorem dX3_readInto_72 : decode cX3_readInto 72 = .ok (.isub, 1) := by decide +kernel
theorem dX3_readInto_73 : decode cX3_readInto 73 = .ok (.ireturn, 1) := by decide +kernel
theorem dX3_takeItem_0 : decode cX3_takeItem 0 = .ok (.aload_n 0, 1) := by decide +kernel
theorem dX3_takeItem_1 : decode cX3_takeItem 1 = .ok (.invokevirtual 38, 3) := by decide +kernel
theorem dX3_takeItem_4 : decode cX3_takeItem 4 = .ok (.istore_n 2, 1) := by decide +kernel
theorem dX3_takeItem_5 : decode cX3_takeItem 5 = .ok (.iload_n 2, 1) := by decide +kernel
theorem dX3_takeItem_6 : decode cX3_takeItem 6 = .ok (.iconst (-1), 1) := by decide +kernel
theorem dX3_takeItem_7 : decode cX3_takeItem 7 = .ok (.if_icmp .eq 10, 3) := by decide +kernel
theorem dX3_takeItem_10 : decode cX3_takeItem 10 = .ok (.aload_n 0, 1) := by decide +kernel
theorem dX3_takeItem_11 : decode cX3_takeItem 11 = .ok (.aload_n 1, 1) := by decide +kernel
theorem dX3_takeItem_12 : decode cX3_takeItem 12 = .ok (.iload_n 2, 1) := by decide +kernel
theorem dX3_takeItem_13 : decode cX3_takeItem 13 = .ok (.invokevirtual 42, 3) := by decide +kernel
theorem dX3_takeItem_16 : decode cX3_takeItem 16 = .ok (.ireturn, 1) := by decide +kernel
theorem dX3_takeItem_17 : decode cX3_takeItem 17 = .ok (.aload_n 0, 1) := by decide +kernel
theorem dX3_takeItem_18 : decode cX3_takeItem 18 = .ok (.ldc 46, 2) := by decide +kernel
theorem dX3_takeItem_20 : decode cX3_takeItem 20 = .ok (.invokevirtual 48, 3) := by decide +kernel
theorem dX3_takeItem_23 : decode cX3_takeItem 23 = .ok (.ifCond .eq 9, 3) := by decide +kernel
theorem dX3_takeItem_26 : decode cX3_takeItem 26 = .ok (.aload_n 0, 1) := by decide +kernel
theorem dX3_takeItem_27 : decode cX3_takeItem 27 = .ok (.aload_n 1, 1) := by decide +kernel
theorem dX3_takeItem_28 : decode cX3_takeItem 28 = .ok (.invokevirtual 52, 3) := by decide +kernel
theorem dX3_takeItem_31 : decode cX3_takeItem 31 = .ok (.ireturn, 1) := by decide +kernel
theorem dX3_takeItem_32 : decode cX3_takeItem 32 = .ok (.aload_n 0, 1) := by decide +kernel
theorem dX3_takeItem_33 : decode cX3_takeItem 33 = .ok (.ldc 55, 2) := by decide +kernel
theorem dX3_takeItem_35 : decode cX3_takeItem 35 = .ok (.invokevirtual 48, 3) := by decide +kernel
theorem dX3_takeItem_38 : decode cX3_takeItem 38 = .ok (.ifCond .eq 10, 3) := by decide +kernel
theorem dX3_takeItem_41 : decode cX3_takeItem 41 = .ok (.aload_n 0, 1) := by decide +kernel
theorem dX3_takeItem_42 : decode cX3_takeItem 42 = .ok (.aload_n 1, 1) := by decide +kernel
theorem dX3_takeItem_43 : decode cX3_takeItem 43 = .ok (.iconst 1, 1) := by decide +kernel
theorem dX3_takeItem_44 : decode cX3_takeItem 44 = .ok (.invokevirtual 57, 3) := by decide +kernel
theorem dX3_takeItem_47 : decode cX3_takeItem 47 = .ok (.ireturn, 1) := by decide +kernel
theorem dX3_takeItem_48 : decode cX3_takeItem 48 = .ok (.aload_n 0, 1) := by decide +kernel
theorem dX3_takeItem_49 : decode cX3_takeItem 49 = .ok (.ldc 60, 2) := by decide +kernel
theorem dX3_takeItem_51 : decode cX3_takeItem 51 = .ok (.invokevirtual 48, 3) := by decide +kernel
theorem dX3_takeItem_54 : decode cX3_takeItem 54 = .ok (.ifCond .eq 10, 3) := by decide +kernel
theorem dX3_takeItem_57 : decode cX3_takeItem 57 = .ok (.aload_n 0, 1) := by decide +kernel
theorem dX3_takeItem_58 : decode cX3_takeItem 58 = .ok (.aload_n 1, 1) := by decide +kernel
theorem dX3_takeItem_59 : decode cX3_takeItem 59 = .ok (.iconst 0, 1) := by decide +kernel
theorem dX3_takeItem_60 : decode cX3_takeItem 60 = .ok (.invokevirtual 57, 3) := by decide +kernel
theorem dX3_takeItem_63 : decode cX3_takeItem 63 = .ok (.ireturn, 1) := by decide +kernel
theorem dX3_takeItem_64 : decode cX3_takeItem 64 = .ok (.aload_n 0, 1) := by decide +kernel
theorem dX3_takeItem_65 : decode cX3_takeItem 65 = .ok (.ldc 62, 2) := by decide +kernel
theorem dX3_takeItem_67 : decode cX3_takeItem 67 = .ok (.invokevirtual 48, 3) := by decide +kernel
theorem dX3_takeItem_70 : decode cX3_takeItem 70 = .ok (.ifCond .eq 24, 3) := by decide +kernel
theorem dX3_takeItem_73 : decode cX3_takeItem 73 = .ok (.aload_n 0, 1) := by decide +kernel
theorem dX3_takeItem_74 : decode cX3_takeItem 74 = .ok (.iconst 0, 1) := by decide +kernel
theorem dX3_takeItem_75 : decode cX3_takeItem 75 = .ok (.sipush 9999, 3) := by decide +kernel
theorem dX3_takeItem_78 : decode cX3_takeItem 78 = .ok (.invokevirtual 64, 3) := by decide +kernel
theorem dX3_takeItem_81 : decode cX3_takeItem 81 = .ok (.ifCond .eq 13, 3) := by decide +kernel
theorem dX3_takeItem_84 : decode cX3_takeItem 84 = .ok (.aload_n 1, 1) := by decide +kernel
theorem dX3_takeItem_85 : decode cX3_takeItem 85 = .ok (.aload_n 0, 1) := by decide +kernel
theorem dX3_takeItem_86 : decode cX3_takeItem 86 = .ok (.getfield 24, 3) := by decide +kernel
theorem dX3_takeItem_89 : decode cX3_takeItem 89 = .ok (.putfield 68, 3) := by decide +kernel
theorem dX3_takeItem_92 : decode cX3_takeItem 92 = .ok (.iconst 1, 1) := by decide +kernel
theorem dX3_takeItem_93 : decode cX3_takeItem 93 = .ok (.ireturn, 1) := by decide +kernel
theorem dX3_takeItem_94 : decode cX3_takeItem 94 = .ok (.iconst 0, 1) := by decide +kernel
theorem dX3_takeItem_95 : decode cX3_takeItem 95 = .ok (.ireturn, 1) := by decide +kernel
theorem dX3_kindNamed_0 : decode cX3_kindNamed 0 = .ok (.aload_n 0, 1) := by decide +kernel
theorem dX3_kindNamed_1 : decode cX3_kindNamed 1 = .ok (.ldc 72, 2) := by decide +kernel
theorem dX3_kindNamed_3 : decode cX3_kindNamed 3 = .ok (.invokevirtual 74, 3) := by decide +kernel
theorem dX3_kindNamed_6 : decode cX3_kindNamed 6 = .ok (.ifCond .eq 5, 3) := by decide +kernel
theorem dX3_kindNamed_9 : decode cX3_kindNamed 9 = .ok (.iconst 0, 1) := by decide +kernel
theorem dX3_kindNamed_10 : decode cX3_kindNamed 10 = .ok (.ireturn, 1) := by decide +kernel
theorem dX3_kindNamed_11 : decode cX3_kindNamed 11 = .ok (.aload_n 0, 1) := by decide +kernel
theorem dX3_kindNamed_12 : decode cX3_kindNamed 12 = .ok (.ldc 77, 2) := by decide +kernel
theorem dX3_kindNamed_14 : decode cX3_kindNamed 14 = .ok (.invokevirtual 74, 3) := by decide +kernel
theorem dX3_kindNamed_17 : decode cX3_kindNamed 17 = .ok (.ifCond .eq 5, 3) := by decide +kernel
theorem dX3_kindNamed_20 : decode cX3_kindNamed 20 = .ok (.iconst 1, 1) := by decide +kernel
theorem dX3_kindNamed_21 : decode cX3_kindNamed 21 = .ok (.ireturn, 1) := by decide +kernel
theorem dX3_kindNamed_22 : decode cX3_kindNamed 22 = .ok (.aload_n 0, 1) := by decide +kernel
theorem dX3_kindNamed_23 : decode cX3_kindNamed 23 = .ok (.ldc 79, 2) := by decide +kernel
theorem dX3_kindNamed_25 : decode cX3_kindNamed 25 = .ok (.invokevirtual 74, 3) := by decide +kernel
theorem dX3_kindNamed_28 : decode cX3_kindNamed 28 = .ok (.ifCond .eq 5, 3) := by decide +kernel
theorem dX3_kindNamed_31 : decode cX3_kindNamed 31 = .ok (.iconst 2, 1) := by decide +kernel
theorem dX3_kindNamed_32 : decode cX3_kindNamed 32 = .ok (.ireturn, 1) := by decide +kernel
theorem dX3_kindNamed_33 : decode cX3_kindNamed 33 = .ok (.aload_n 0, 1) := by decide +kernel
theorem dX3_kindNamed_34 : decode cX3_kindNamed 34 = .ok (.ldc 81, 2) := by decide +kernel
theorem dX3_kindNamed_36 : decode cX3_kindNamed 36 = .ok (.invokevirtual 74, 3) := by decide +kernel
theorem dX3_kindNamed_39 : decode cX3_kindNamed 39 = .ok (.ifCond .eq 5, 3) := by decide +kernel
theorem dX3_kindNamed_42 : decode cX3_kindNamed 42 = .ok (.iconst 3, 1) := by decide +kernel
theorem dX3_kindNamed_43 : decode cX3_kindNamed 43 = .ok (.ireturn, 1) := by decide +kernel
theorem dX3_kindNamed_44 : decode cX3_kindNamed 44 = .ok (.aload_n 0, 1) := by decide +kernel
theorem dX3_kindNamed_45 : decode cX3_kindNamed 45 = .ok (.ldc 83, 2) := by decide +kernel
theorem dX3_kindNamed_47 : decode cX3_kindNamed 47 = .ok (.invokevirtual 74, 3) := by decide +kernel
theorem dX3_kindNamed_50 : decode cX3_kindNamed 50 = .ok (.ifCond .eq 5, 3) := by decide +kernel
theorem dX3_kindNamed_53 : decode cX3_kindNamed 53 = .ok (.iconst 4, 1) := by decide +kernel
theorem dX3_kindNamed_54 : decode cX3_kindNamed 54 = .ok (.ireturn, 1) := by decide +kernel
theorem dX3_kindNamed_55 : decode cX3_kindNamed 55 = .ok (.aload_n 0, 1) := by decide +kernel
theorem dX3_kindNamed_56 : decode cX3_kindNamed 56 = .ok (.ldc 85, 2) := by decide +kernel
theorem dX3_kindNamed_58 : decode cX3_kindNamed 58 = .ok (.invokevirtual 74, 3) := by decide +kernel
theorem dX3_kindNamed_61 : decode cX3_kindNamed 61 = .ok (.ifCond .eq 7, 3) := by decide +kernel
theorem dX3_kindNamed_64 : decode cX3_kindNamed 64 = .ok (.iconst 5, 1) := by decide +kernel
theorem dX3_kindNamed_65 : decode cX3_kindNamed 65 = .ok (.goto 4, 3) := by decide +kernel
theorem dX3_kindNamed_68 : decode cX3_kindNamed 68 = .ok (.iconst (-1), 1) := by decide +kernel
theorem dX3_kindNamed_69 : decode cX3_kindNamed 69 = .ok (.ireturn, 1) := by decide +kernel
theorem dX3_takeFountain_0 : decode cX3_takeFountain 0 = .ok (.aload_n 1, 1) := by decide +kernel
theorem dX3_takeFountain_1 : decode cX3_takeFountain 1 = .ok (.iload_n 2, 1) := by decide +kernel
theorem dX3_takeFountain_2 : decode cX3_takeFountain 2 = .ok (.invokevirtual 87, 3) := by decide +kernel
theorem dX3_takeFountain_5 : decode cX3_takeFountain 5 = .ok (.istore_n 3, 1) := by decide +kernel
theorem dX3_takeFountain_6 : decode cX3_takeFountain 6 = .ok (.aload_n 1, 1) := by decide +kernel
theorem dX3_takeFountain_7 : decode cX3_takeFountain 7 = .ok (.iload_n 3, 1) := by decide +kernel
theorem dX3_takeFountain_8 : decode cX3_takeFountain 8 = .ok (.invokevirtual 91, 3) := by decide +kernel
theorem dX3_takeFountain_11 : decode cX3_takeFountain 11 = .ok (.ifCond .ne 5, 3) := by decide +kernel
theorem dX3_takeFountain_14 : decode cX3_takeFountain 14 = .ok (.iconst 0, 1) := by decide +kernel
theorem dX3_takeFountain_15 : decode cX3_takeFountain 15 = .ok (.ireturn, 1) := by decide +kernel
theorem dX3_takeFountain_16 : decode cX3_takeFountain 16 = .ok (.aload_n 1, 1) := by decide +kernel
theorem dX3_takeFountain_17 : decode cX3_takeFountain 17 = .ok (.getfield 95, 3) := by decide +kernel
theorem dX3_takeFountain_20 : decode cX3_takeFountain 20 = .ok (.iload_n 3, 1) := by decide +kernel
theorem dX3_takeFountain_21 : decode cX3_takeFountain 21 = .ok (.aaload, 1) := by decide +kernel
theorem dX3_takeFountain_22 : decode cX3_takeFountain 22 = .ok (.astore 4, 2) := by decide +kernel
theorem dX3_takeFountain_24 : decode cX3_takeFountain 24 = .ok (.aload_n 0, 1) := by decide +kernel
theorem dX3_takeFountain_25 : decode cX3_takeFountain 25 = .ok (.invokevirtual 31, 3) := by decide +kernel
theorem dX3_takeFountain_28 : decode cX3_takeFountain 28 = .ok (.aload_n 0, 1) := by decide +kernel
theorem dX3_takeFountain_29 : decode cX3_takeFountain 29 = .ok (.ldc 99, 2) := by decide +kernel
theorem dX3_takeFountain_31 : decode cX3_takeFountain 31 = .ok (.invokevirtual 48, 3) := by decide +kernel
theorem dX3_takeFountain_34 : decode cX3_takeFountain 34 = .ok (.ifCond .eq 24, 3) := by decide +kernel
theorem dX3_takeFountain_37 : decode cX3_takeFountain 37 = .ok (.aload_n 0, 1) := by decide +kernel
theorem dX3_takeFountain_38 : decode cX3_takeFountain 38 = .ok (.iconst 1, 1) := by decide +kernel
theorem dX3_takeFountain_39 : decode cX3_takeFountain 39 = .ok (.bipush 40, 2) := by decide +kernel
theorem dX3_takeFountain_41 : decode cX3_takeFountain 41 = .ok (.invokevirtual 64, 3) := by decide +kernel
theorem dX3_takeFountain_44 : decode cX3_takeFountain 44 = .ok (.ifCond .ne 5, 3) := by decide +kernel
theorem dX3_takeFountain_47 : decode cX3_takeFountain 47 = .ok (.iconst 0, 1) := by decide +kernel
theorem dX3_takeFountain_48 : decode cX3_takeFountain 48 = .ok (.ireturn, 1) := by decide +kernel
theorem dX3_takeFountain_49 : decode cX3_takeFountain 49 = .ok (.aload 4, 2) := by decide +kernel
theorem dX3_takeFountain_51 : decode cX3_takeFountain 51 = .ok (.aload_n 0, 1) := by decide +kernel
theorem dX3_takeFountain_52 : decode cX3_takeFountain 52 = .ok (.getfield 24, 3) := by decide +kernel
theorem dX3_takeFountain_55 : decode cX3_takeFountain 55 = .ok (.putfield 101, 3) := by decide +kernel
theorem dX3_takeFountain_58 : decode cX3_takeFountain 58 = .ok (.aload_n 0, 1) := by decide +kernel
theorem dX3_takeFountain_59 : decode cX3_takeFountain 59 = .ok (.ldc 105, 2) := by decide +kernel
theorem dX3_takeFountain_61 : decode cX3_takeFountain 61 = .ok (.invokevirtual 48, 3) := by decide +kernel
theorem dX3_takeFountain_64 : decode cX3_takeFountain 64 = .ok (.ifCond .eq 24, 3) := by decide +kernel
theorem dX3_takeFountain_67 : decode cX3_takeFountain 67 = .ok (.aload_n 0, 1) := by decide +kernel
theorem dX3_takeFountain_68 : decode cX3_takeFountain 68 = .ok (.iconst 0, 1) := by decide +kernel
theorem dX3_takeFountain_69 : decode cX3_takeFountain 69 = .ok (.bipush 99, 2) := by decide +kernel
theorem dX3_takeFountain_71 : decode cX3_takeFountain 71 = .ok (.invokevirtual 64, 3) := by decide +kernel
theorem dX3_takeFountain_74 : decode cX3_takeFountain 74 = .ok (.ifCond .ne 5, 3) := by decide +kernel
theorem dX3_takeFountain_77 : decode cX3_takeFountain 77 = .ok (.iconst 0, 1) := by decide +kernel
theorem dX3_takeFountain_78 : decode cX3_takeFountain 78 = .ok (.ireturn, 1) := by decide +kernel
theorem dX3_takeFountain_79 : decode cX3_takeFountain 79 = .ok (.aload 4, 2) := by decide +kernel
theorem dX3_takeFountain_81 : decode cX3_takeFountain 81 = .ok (.aload_n 0, 1) := by decide +kernel
theorem dX3_takeFountain_82 : decode cX3_takeFountain 82 = .ok (.getfield 24, 3) := by decide +kernel
theorem dX3_takeFountain_85 : decode cX3_takeFountain 85 = .ok (.putfield 107, 3) := by decide +kernel
theorem dX3_takeFountain_88 : decode cX3_takeFountain 88 = .ok (.aload_n 0, 1) := by decide +kernel
theorem dX3_takeFountain_89 : decode cX3_takeFountain 89 = .ok (.ldc 109, 2) := by decide +kernel
theorem dX3_takeFountain_91 : decode cX3_takeFountain 91 = .ok (.invokevirtual 48, 3) := by decide +kernel
theorem dX3_takeFountain_94 : decode cX3_takeFountain 94 = .ok (.ifCond .eq 9, 3) := by decide +kernel
theorem dX3_takeFountain_97 : decode cX3_takeFountain 97 = .ok (.aload 4, 2) := by decide +kernel
theorem dX3_takeFountain_99 : decode cX3_takeFountain 99 = .ok (.iconst 1, 1) := by decide +kernel
theorem dX3_takeFountain_100 : decode cX3_takeFountain 100 = .ok (.putfield 111, 3) := by decide +kernel
theorem dX3_takeFountain_103 : decode cX3_takeFountain 103 = .ok (.iconst 1, 1) := by decide +kernel
theorem dX3_takeFountain_104 : decode cX3_takeFountain 104 = .ok (.ireturn, 1) := by decide +kernel
theorem dX3_takeRain_0 : decode cX3_takeRain 0 = .ok (.aload_n 0, 1) := by decide +kernel
theorem dX3_takeRain_1 : decode cX3_takeRain 1 = .ok (.iconst 0, 1) := by decide +kernel
theorem dX3_takeRain_2 : decode cX3_takeRain 2 = .ok (.bipush 7, 2) := by decide +kernel
theorem dX3_takeRain_4 : decode cX3_takeRain 4 = .ok (.invokevirtual 64, 3) := by decide +kernel
theorem dX3_takeRain_7 : decode cX3_takeRain 7 = .ok (.ifCond .ne 5, 3) := by decide +kernel
theorem dX3_takeRain_10 : decode cX3_takeRain 10 = .ok (.iconst 0, 1) := by decide +kernel
theorem dX3_takeRain_11 : decode cX3_takeRain 11 = .ok (.ireturn, 1) := by decide +kernel
theorem dX3_takeRain_12 : decode cX3_takeRain 12 = .ok (.aload_n 0, 1) := by decide +kernel
theorem dX3_takeRain_13 : decode cX3_takeRain 13 = .ok (.getfield 24, 3) := by decide +kernel
theorem dX3_takeRain_16 : decode cX3_takeRain 16 = .ok (.istore_n 2, 1) := by decide +kernel
theorem dX3_takeRain_17 : decode cX3_takeRain 17 = .ok (.aload_n 0, 1) := by decide +kernel
theorem dX3_takeRain_18 : decode cX3_takeRain 18 = .ok (.iconst 0, 1) := by decide +kernel
theorem dX3_takeRain_19 : decode cX3_takeRain 19 = .ok (.bipush 99, 2) := by decide +kernel
theorem dX3_takeRain_21 : decode cX3_takeRain 21 = .ok (.invokevirtual 64, 3) := by decide +kernel
theorem dX3_takeRain_24 : decode cX3_takeRain 24 = .ok (.ifCond .ne 5, 3) := by decide +kernel
theorem dX3_takeRain_27 : decode cX3_takeRain 27 = .ok (.iconst 0, 1) := by decide +kernel
theorem dX3_takeRain_28 : decode cX3_takeRain 28 = .ok (.ireturn, 1) := by decide +kernel
theorem dX3_takeRain_29 : decode cX3_takeRain 29 = .ok (.aload_n 1, 1) := by decide +kernel
theorem dX3_takeRain_30 : decode cX3_takeRain 30 = .ok (.getfield 113, 3) := by decide +kernel
theorem dX3_takeRain_33 : decode cX3_takeRain 33 = .ok (.iload_n 2, 1) := by decide +kernel
theorem dX3_takeRain_34 : decode cX3_takeRain 34 = .ok (.aload_n 0, 1) := by decide +kernel
theorem dX3_takeRain_35 : decode cX3_takeRain 35 = .ok (.getfield 24, 3) := by decide +kernel
theorem dX3_takeRain_38 : decode cX3_takeRain 38 = .ok (.iastore, 1) := by decide +kernel
theorem dX3_takeRain_39 : decode cX3_takeRain 39 = .ok (.iconst 1, 1) := by decide +kernel
theorem dX3_takeRain_40 : decode cX3_takeRain 40 = .ok (.ireturn, 1) := by decide +kernel
theorem dX3_takeFrost_0 : decode cX3_takeFrost 0 = .ok (.aload_n 0, 1) := by decide +kernel
theorem dX3_takeFrost_1 : decode cX3_takeFrost 1 = .ok (.iconst 0, 1) := by decide +kernel
theorem dX3_takeFrost_2 : decode cX3_takeFrost 2 = .ok (.bipush 7, 2) := by decide +kernel
theorem dX3_takeFrost_4 : decode cX3_takeFrost 4 = .ok (.invokevirtual 64, 3) := by decide +kernel
theorem dX3_takeFrost_7 : decode cX3_takeFrost 7 = .ok (.ifCond .ne 5, 3) := by decide +kernel
theorem dX3_takeFrost_10 : decode cX3_takeFrost 10 = .ok (.iconst 0, 1) := by decide +kernel
theorem dX3_takeFrost_11 : decode cX3_takeFrost 11 = .ok (.ireturn, 1) := by decide +kernel
theorem dX3_takeFrost_12 : decode cX3_takeFrost 12 = .ok (.aload_n 1, 1) := by decide +kernel
theorem dX3_takeFrost_13 : decode cX3_takeFrost 13 = .ok (.getfield 117, 3) := by decide +kernel
theorem dX3_takeFrost_16 : decode cX3_takeFrost 16 = .ok (.aload_n 0, 1) := by decide +kernel
theorem dX3_takeFrost_17 : decode cX3_takeFrost 17 = .ok (.getfield 24, 3) := by decide +kernel
theorem dX3_takeFrost_20 : decode cX3_takeFrost 20 = .ok (.iload_n 2, 1) := by decide +kernel
theorem dX3_takeFrost_21 : decode cX3_takeFrost 21 = .ok (.iastore, 1) := by decide +kernel
theorem dX3_takeFrost_22 : decode cX3_takeFrost 22 = .ok (.iconst 1, 1) := by decide +kernel
theorem dX3_takeFrost_23 : decode cX3_takeFrost 23 = .ok (.ireturn, 1) := by decide +kernel
theorem dX3_takeWord_0 : decode cX3_takeWord 0 = .ok (.aload_n 0, 1) := by decide +kernel
theorem dX3_takeWord_1 : decode cX3_takeWord 1 = .ok (.aload_n 1, 1) := by decide +kernel
theorem dX3_takeWord_2 : decode cX3_takeWord 2 = .ok (.invokevirtual 74, 3) := by decide +kernel
theorem dX3_takeWord_5 : decode cX3_takeWord 5 = .ok (.ifCond .ne 5, 3) := by decide +kernel
theorem dX3_takeWord_8 : decode cX3_takeWord 8 = .ok (.iconst 0, 1) := by decide +kernel
theorem dX3_takeWord_9 : decode cX3_takeWord 9 = .ok (.ireturn, 1) := by decide +kernel
theorem dX3_takeWord_10 : decode cX3_takeWord 10 = .ok (.aload_n 0, 1) := by decide +kernel
theorem dX3_takeWord_11 : decode cX3_takeWord 11 = .ok (.invokevirtual 31, 3) := by decide +kernel
theorem dX3_takeWord_14 : decode cX3_takeWord 14 = .ok (.iconst 1, 1) := by decide +kernel
theorem dX3_takeWord_15 : decode cX3_takeWord 15 = .ok (.ireturn, 1) := by decide +kernel
theorem dX3_takeNumber_0 : decode cX3_takeNumber 0 = .ok (.aload_n 0, 1) := by decide +kernel
theorem dX3_takeNumber_1 : decode cX3_takeNumber 1 = .ok (.getfield 11, 3) := by decide +kernel
theorem dX3_takeNumber_4 : decode cX3_takeNumber 4 = .ok (.iconst 1, 1) := by decide +kernel
theorem dX3_takeNumber_5 : decode cX3_takeNumber 5 = .ok (.if_icmp .ne 19, 3) := by decide +kernel
theorem dX3_takeNumber_8 : decode cX3_takeNumber 8 = .ok (.aload_n 0, 1) := by decide +kernel
theorem dX3_takeNumber_9 : decode cX3_takeNumber 9 = .ok (.getfield 21, 3) := by decide +kernel
theorem dX3_takeNumber_12 : decode cX3_takeNumber 12 = .ok (.iload_n 1, 1) := by decide +kernel
theorem dX3_takeNumber_13 : decode cX3_takeNumber 13 = .ok (.if_icmp .lt 11, 3) := by decide +kernel
theorem dX3_takeNumber_16 : decode cX3_takeNumber 16 = .ok (.aload_n 0, 1) := by decide +kernel
theorem dX3_takeNumber_17 : decode cX3_takeNumber 17 = .ok (.getfield 21, 3) := by decide +kernel
theorem dX3_takeNumber_20 : decode cX3_takeNumber 20 = .ok (.iload_n 2, 1) := by decide +kernel
theorem dX3_takeNumber_21 : decode cX3_takeNumber 21 = .ok (.if_icmp .le 5, 3) := by decide +kernel
theorem dX3_takeNumber_24 : decode cX3_takeNumber 24 = .ok (.iconst 0, 1) := by decide +kernel
theorem dX3_takeNumber_25 : decode cX3_takeNumber 25 = .ok (.ireturn, 1) := by decide +kernel
theorem dX3_takeNumber_26 : decode cX3_takeNumber 26 = .ok (.aload_n 0, 1) := by decide +kernel
theorem dX3_takeNumber_27 : decode cX3_takeNumber 27 = .ok (.aload_n 0, 1) := by decide +kernel
theorem dX3_takeNumber_28 : decode cX3_takeNumber 28 = .ok (.getfield 21, 3) := by decide +kernel
theorem dX3_takeNumber_31 : decode cX3_takeNumber 31 = .ok (.putfield 24, 3) := by decide +kernel
theorem dX3_takeNumber_34 : decode cX3_takeNumber 34 = .ok (.aload_n 0, 1) := by decide +kernel
theorem dX3_takeNumber_35 : decode cX3_takeNumber 35 = .ok (.invokevirtual 31, 3) := by decide +kernel
theorem dX3_takeNumber_38 : decode cX3_takeNumber 38 = .ok (.iconst 1, 1) := by decide +kernel
theorem dX3_takeNumber_39 : decode cX3_takeNumber 39 = .ok (.ireturn, 1) := by decide +kernel
theorem dX3_isWord_0 : decode cX3_isWord 0 = .ok (.aload_n 0, 1) := by decide +kernel
theorem dX3_isWord_1 : decode cX3_isWord 1 = .ok (.getfield 11, 3) := by decide +kernel
theorem dX3_isWord_4 : decode cX3_isWord 4 = .ok (.ifCond .ne 19, 3) := by decide +kernel
theorem dX3_isWord_7 : decode cX3_isWord 7 = .ok (.aload_n 1, 1) := by decide +kernel
theorem dX3_isWord_8 : decode cX3_isWord 8 = .ok (.invokevirtual 120, 3) := by decide +kernel
theorem dX3_isWord_11 : decode cX3_isWord 11 = .ok (.aload_n 0, 1) := by decide +kernel
theorem dX3_isWord_12 : decode cX3_isWord 12 = .ok (.getfield 18, 3) := by decide +kernel
theorem dX3_isWord_15 : decode cX3_isWord 15 = .ok (.aload_n 0, 1) := by decide +kernel
theorem dX3_isWord_16 : decode cX3_isWord 16 = .ok (.getfield 15, 3) := by decide +kernel
theorem dX3_isWord_19 : decode cX3_isWord 19 = .ok (.isub, 1) := by decide +kernel
theorem dX3_isWord_20 : decode cX3_isWord 20 = .ok (.if_icmp .eq 5, 3) := by decide +kernel
theorem dX3_isWord_23 : decode cX3_isWord 23 = .ok (.iconst 0, 1) := by decide +kernel
theorem dX3_isWord_24 : decode cX3_isWord 24 = .ok (.ireturn, 1) := by decide +kernel
theorem dX3_isWord_25 : decode cX3_isWord 25 = .ok (.iconst 0, 1) := by decide +kernel
theorem dX3_isWord_26 : decode cX3_isWord 26 = .ok (.istore_n 2, 1) := by decide +kernel
theorem dX3_isWord_27 : decode cX3_isWord 27 = .ok (.iload_n 2, 1) := by decide +kernel
theorem dX3_isWord_28 : decode cX3_isWord 28 = .ok (.aload_n 1, 1) := by decide +kernel
theorem dX3_isWord_29 : decode cX3_isWord 29 = .ok (.invokevirtual 120, 3) := by decide +kernel
theorem dX3_isWord_32 : decode cX3_isWord 32 = .ok (.if_icmp .ge 29, 3) := by decide +kernel
theorem dX3_isWord_35 : decode cX3_isWord 35 = .ok (.aload_n 0, 1) := by decide +kernel
theorem dX3_isWord_36 : decode cX3_isWord 36 = .ok (.aload_n 0, 1) := by decide +kernel
theorem dX3_isWord_37 : decode cX3_isWord 37 = .ok (.getfield 15, 3) := by decide +kernel
theorem dX3_isWord_40 : decode cX3_isWord 40 = .ok (.iload_n 2, 1) := by decide +kernel
theorem dX3_isWord_41 : decode cX3_isWord 41 = .ok (.iadd, 1) := by decide +kernel
theorem dX3_isWord_42 : decode cX3_isWord 42 = .ok (.invokevirtual 125, 3) := by decide +kernel
theorem dX3_isWord_45 : decode cX3_isWord 45 = .ok (.aload_n 1, 1) := by decide +kernel
theorem dX3_isWord_46 : decode cX3_isWord 46 = .ok (.iload_n 2, 1) := by decide +kernel
theorem dX3_isWord_47 : decode cX3_isWord 47 = .ok (.invokevirtual 128, 3) := by decide +kernel
theorem dX3_isWord_50 : decode cX3_isWord 50 = .ok (.if_icmp .eq 5, 3) := by decide +kernel
theorem dX3_isWord_53 : decode cX3_isWord 53 = .ok (.iconst 0, 1) := by decide +kernel
theorem dX3_isWord_54 : decode cX3_isWord 54 = .ok (.ireturn, 1) := by decide +kernel
theorem dX3_isWord_55 : decode cX3_isWord 55 = .ok (.iinc 2 1, 3) := by decide +kernel
theorem dX3_isWord_58 : decode cX3_isWord 58 = .ok (.goto (-31), 3) := by decide +kernel
theorem dX3_isWord_61 : decode cX3_isWord 61 = .ok (.iconst 1, 1) := by decide +kernel
theorem dX3_isWord_62 : decode cX3_isWord 62 = .ok (.ireturn, 1) := by decide +kernel
theorem dX3_step_0 : decode cX3_step 0 = .ok (.aload_n 0, 1) := by decide +kernel
theorem dX3_step_1 : decode cX3_step 1 = .ok (.aload_n 0, 1) := by decide +kernel
theorem dX3_step_2 : decode cX3_step 2 = .ok (.getfield 18, 3) := by decide +kernel
theorem dX3_step_5 : decode cX3_step 5 = .ok (.putfield 15, 3) := by decide +kernel
theorem dX3_step_8 : decode cX3_step 8 = .ok (.aload_n 0, 1) := by decide +kernel
theorem dX3_step_9 : decode cX3_step 9 = .ok (.getfield 15, 3) := by decide +kernel
theorem dX3_step_12 : decode cX3_step 12 = .ok (.aload_n 0, 1) := by decide +kernel
theorem dX3_step_13 : decode cX3_step 13 = .ok (.getfield 27, 3) := by decide +kernel
theorem dX3_step_16 : decode cX3_step 16 = .ok (.getfield 132, 3) := by decide +kernel
theorem dX3_step_19 : decode cX3_step 19 = .ok (.if_icmp .ge 29, 3) := by decide +kernel
theorem dX3_step_22 : decode cX3_step 22 = .ok (.aload_n 0, 1) := by decide +kernel
theorem dX3_step_23 : decode cX3_step 23 = .ok (.aload_n 0, 1) := by decide +kernel
theorem dX3_step_24 : decode cX3_step 24 = .ok (.getfield 15, 3) := by decide +kernel
theorem dX3_step_27 : decode cX3_step 27 = .ok (.invokevirtual 125, 3) := by decide +kernel
theorem dX3_step_30 : decode cX3_step 30 = .ok (.bipush 32, 2) := by decide +kernel
theorem dX3_step_32 : decode cX3_step 32 = .ok (.if_icmp .ne 16, 3) := by decide +kernel
theorem dX3_step_35 : decode cX3_step 35 = .ok (.aload_n 0, 1) := by decide +kernel
theorem dX3_step_36 : decode cX3_step 36 = .ok (.dup, 1) := by decide +kernel
theorem dX3_step_37 : decode cX3_step 37 = .ok (.getfield 15, 3) := by decide +kernel
theorem dX3_step_40 : decode cX3_step 40 = .ok (.iconst 1, 1) := by decide +kernel
theorem dX3_step_41 : decode cX3_step 41 = .ok (.iadd, 1) := by decide +kernel
theorem dX3_step_42 : decode cX3_step 42 = .ok (.putfield 15, 3) := by decide +kernel
theorem dX3_step_45 : decode cX3_step 45 = .ok (.goto (-37), 3) := by decide +kernel
theorem dX3_step_48 : decode cX3_step 48 = .ok (.aload_n 0, 1) := by decide +kernel
theorem dX3_step_49 : decode cX3_step 49 = .ok (.aload_n 0, 1) := by decide +kernel
theorem dX3_step_50 : decode cX3_step 50 = .ok (.getfield 15, 3) := by decide +kernel
theorem dX3_step_53 : decode cX3_step 53 = .ok (.putfield 18, 3) := by decide +kernel
theorem dX3_step_56 : decode cX3_step 56 = .ok (.aload_n 0, 1) := by decide +kernel
theorem dX3_step_57 : decode cX3_step 57 = .ok (.getfield 15, 3) := by decide +kernel
theorem dX3_step_60 : decode cX3_step 60 = .ok (.aload_n 0, 1) := by decide +kernel
theorem dX3_step_61 : decode cX3_step 61 = .ok (.getfield 27, 3) := by decide +kernel
theorem dX3_step_64 : decode cX3_step 64 = .ok (.getfield 132, 3) := by decide +kernel
theorem dX3_step_67 : decode cX3_step 67 = .ok (.if_icmp .lt 11, 3) := by decide +kernel
theorem dX3_step_70 : decode cX3_step 70 = .ok (.aload_n 0, 1) := by decide +kernel
theorem dX3_step_71 : decode cX3_step 71 = .ok (.iconst 3, 1) := by decide +kernel
theorem dX3_step_72 : decode cX3_step 72 = .ok (.putfield 11, 3) := by decide +kernel
theorem dX3_step_75 : decode cX3_step 75 = .ok (.goto 189, 3) := by decide +kernel
theorem dX3_step_78 : decode cX3_step 78 = .ok (.aload_n 0, 1) := by decide +kernel
theorem dX3_step_79 : decode cX3_step 79 = .ok (.aload_n 0, 1) := by decide +kernel
theorem dX3_step_80 : decode cX3_step 80 = .ok (.getfield 15, 3) := by decide +kernel
theorem dX3_step_83 : decode cX3_step 83 = .ok (.invokevirtual 125, 3) := by decide +kernel
theorem dX3_step_86 : decode cX3_step 86 = .ok (.invokestatic 136, 3) := by decide +kernel
theorem dX3_step_89 : decode cX3_step 89 = .ok (.ifCond .eq 49, 3) := by decide +kernel
theorem dX3_step_92 : decode cX3_step 92 = .ok (.aload_n 0, 1) := by decide +kernel
theorem dX3_step_93 : decode cX3_step 93 = .ok (.iconst 0, 1) := by decide +kernel
theorem dX3_step_94 : decode cX3_step 94 = .ok (.putfield 11, 3) := by decide +kernel
theorem dX3_step_97 : decode cX3_step 97 = .ok (.aload_n 0, 1) := by decide +kernel
theorem dX3_step_98 : decode cX3_step 98 = .ok (.getfield 18, 3) := by decide +kernel
theorem dX3_step_101 : decode cX3_step 101 = .ok (.aload_n 0, 1) := by decide +kernel
theorem dX3_step_102 : decode cX3_step 102 = .ok (.getfield 27, 3) := by decide +kernel
theorem dX3_step_105 : decode cX3_step 105 = .ok (.getfield 132, 3) := by decide +kernel
theorem dX3_step_108 : decode cX3_step 108 = .ok (.if_icmp .ge 156, 3) := by decide +kernel
theorem dX3_step_111 : decode cX3_step 111 = .ok (.aload_n 0, 1) := by decide +kernel
theorem dX3_step_112 : decode cX3_step 112 = .ok (.aload_n 0, 1) := by decide +kernel
theorem dX3_step_113 : decode cX3_step 113 = .ok (.getfield 18, 3) := by decide +kernel
theorem dX3_step_116 : decode cX3_step 116 = .ok (.invokevirtual 125, 3) := by decide +kernel
theorem dX3_step_119 : decode cX3_step 119 = .ok (.invokestatic 136, 3) := by decide +kernel
theorem dX3_step_122 : decode cX3_step 122 = .ok (.ifCond .eq 142, 3) := by decide +kernel
theorem dX3_step_125 : decode cX3_step 125 = .ok (.aload_n 0, 1) := by decide +kernel
theorem dX3_step_126 : decode cX3_step 126 = .ok (.dup, 1) := by decide +kernel
theorem dX3_step_127 : decode cX3_step 127 = .ok (.getfield 18, 3) := by decide +kernel
theorem dX3_step_130 : decode cX3_step 130 = .ok (.iconst 1, 1) := by decide +kernel
theorem dX3_step_131 : decode cX3_step 131 = .ok (.iadd, 1) := by decide +kernel
theorem dX3_step_132 : decode cX3_step 132 = .ok (.putfield 18, 3) := by decide +kernel
theorem dX3_step_135 : decode cX3_step 135 = .ok (.goto (-38), 3) := by decide +kernel
theorem dX3_step_138 : decode cX3_step 138 = .ok (.aload_n 0, 1) := by decide +kernel
theorem dX3_step_139 : decode cX3_step 139 = .ok (.aload_n 0, 1) := by decide +kernel
theorem dX3_step_140 : decode cX3_step 140 = .ok (.getfield 15, 3) := by decide +kernel
theorem dX3_step_143 : decode cX3_step 143 = .ok (.invokevirtual 125, 3) := by decide +kernel
theorem dX3_step_146 : decode cX3_step 146 = .ok (.invokestatic 139, 3) := by decide +kernel
theorem dX3_step_149 : decode cX3_step 149 = .ok (.ifCond .eq 83, 3) := by decide +kernel
theorem dX3_step_152 : decode cX3_step 152 = .ok (.aload_n 0, 1) := by decide +kernel
theorem dX3_step_153 : decode cX3_step 153 = .ok (.iconst 1, 1) := by decide +kernel
theorem dX3_step_154 : decode cX3_step 154 = .ok (.putfield 11, 3) := by decide +kernel
theorem dX3_step_157 : decode cX3_step 157 = .ok (.aload_n 0, 1) := by decide +kernel
theorem dX3_step_158 : decode cX3_step 158 = .ok (.iconst 0, 1) := by decide +kernel
theorem dX3_step_159 : decode cX3_step 159 = .ok (.putfield 21, 3) := by decide +kernel
theorem dX3_step_162 : decode cX3_step 162 = .ok (.aload_n 0, 1) := by decide +kernel
theorem dX3_step_163 : decode cX3_step 163 = .ok (.getfield 18, 3) := by decide +kernel
theorem dX3_step_166 : decode cX3_step 166 = .ok (.aload_n 0, 1) := by decide +kernel
theorem dX3_step_167 : decode cX3_step 167 = .ok (.getfield 27, 3) := by decide +kernel
theorem dX3_step_170 : decode cX3_step 170 = .ok (.getfield 132, 3) := by decide +kernel
theorem dX3_step_173 : decode cX3_step 173 = .ok (.if_icmp .ge 91, 3) := by decide +kernel
theorem dX3_step_176 : decode cX3_step 176 = .ok (.aload_n 0, 1) := by decide +kernel
theorem dX3_step_177 : decode cX3_step 177 = .ok (.aload_n 0, 1) := by decide +kernel
theorem dX3_step_178 : decode cX3_step 178 = .ok (.getfield 18, 3) := by decide +kernel
theorem dX3_step_181 : decode cX3_step 181 = .ok (.invokevirtual 125, 3) := by decide +kernel
theorem dX3_step_184 : decode cX3_step 184 = .ok (.invokestatic 139, 3) := by decide +kernel
theorem dX3_step_187 : decode cX3_step 187 = .ok (.ifCond .eq 77, 3) := by decide +kernel
theorem dX3_step_190 : decode cX3_step 190 = .ok (.aload_n 0, 1) := by decide +kernel
theorem dX3_step_191 : decode cX3_step 191 = .ok (.sipush 10000, 3) := by decide +kernel
theorem dX3_step_194 : decode cX3_step 194 = .ok (.aload_n 0, 1) := by decide +kernel
theorem dX3_step_195 : decode cX3_step 195 = .ok (.getfield 21, 3) := by decide +kernel
theorem dX3_step_198 : decode cX3_step 198 = .ok (.bipush 10, 2) := by decide +kernel
theorem dX3_step_200 : decode cX3_step 200 = .ok (.imul, 1) := by decide +kernel
theorem dX3_step_201 : decode cX3_step 201 = .ok (.aload_n 0, 1) := by decide +kernel
theorem dX3_step_202 : decode cX3_step 202 = .ok (.aload_n 0, 1) := by decide +kernel
theorem dX3_step_203 : decode cX3_step 203 = .ok (.getfield 18, 3) := by decide +kernel
theorem dX3_step_206 : decode cX3_step 206 = .ok (.invokevirtual 125, 3) := by decide +kernel
theorem dX3_step_209 : decode cX3_step 209 = .ok (.iadd, 1) := by decide +kernel
theorem dX3_step_210 : decode cX3_step 210 = .ok (.bipush 48, 2) := by decide +kernel
theorem dX3_step_212 : decode cX3_step 212 = .ok (.isub, 1) := by decide +kernel
theorem dX3_step_213 : decode cX3_step 213 = .ok (.invokestatic 142, 3) := by decide +kernel
theorem dX3_step_216 : decode cX3_step 216 = .ok (.putfield 21, 3) := by decide +kernel
theorem dX3_step_219 : decode cX3_step 219 = .ok (.aload_n 0, 1) := by decide +kernel
theorem dX3_step_220 : decode cX3_step 220 = .ok (.dup, 1) := by decide +kernel
theorem dX3_step_221 : decode cX3_step 221 = .ok (.getfield 18, 3) := by decide +kernel
theorem dX3_step_224 : decode cX3_step 224 = .ok (.iconst 1, 1) := by decide +kernel
theorem dX3_step_225 : decode cX3_step 225 = .ok (.iadd, 1) := by decide +kernel
theorem dX3_step_226 : decode cX3_step 226 = .ok (.putfield 18, 3) := by decide +kernel
theorem dX3_step_229 : decode cX3_step 229 = .ok (.goto (-67), 3) := by decide +kernel
theorem dX3_step_232 : decode cX3_step 232 = .ok (.aload_n 0, 1) := by decide +kernel
theorem dX3_step_233 : decode cX3_step 233 = .ok (.aload_n 0, 1) := by decide +kernel
theorem dX3_step_234 : decode cX3_step 234 = .ok (.aload_n 0, 1) := by decide +kernel
theorem dX3_step_235 : decode cX3_step 235 = .ok (.getfield 15, 3) := by decide +kernel
theorem dX3_step_238 : decode cX3_step 238 = .ok (.invokevirtual 125, 3) := by decide +kernel
theorem dX3_step_241 : decode cX3_step 241 = .ok (.bipush 59, 2) := by decide +kernel
theorem dX3_step_243 : decode cX3_step 243 = .ok (.if_icmp .ne 7, 3) := by decide +kernel
theorem dX3_step_246 : decode cX3_step 246 = .ok (.iconst 2, 1) := by decide +kernel
theorem dX3_step_247 : decode cX3_step 247 = .ok (.goto 4, 3) := by decide +kernel
theorem dX3_step_250 : decode cX3_step 250 = .ok (.iconst 4, 1) := by decide +kernel
theorem dX3_step_251 : decode cX3_step 251 = .ok (.putfield 11, 3) := by decide +kernel
theorem dX3_step_254 : decode cX3_step 254 = .ok (.aload_n 0, 1) := by decide +kernel
theorem dX3_step_255 : decode cX3_step 255 = .ok (.aload_n 0, 1) := by decide +kernel
theorem dX3_step_256 : decode cX3_step 256 = .ok (.getfield 15, 3) := by decide +kernel
theorem dX3_step_259 : decode cX3_step 259 = .ok (.iconst 1, 1) := by decide +kernel
theorem dX3_step_260 : decode cX3_step 260 = .ok (.iadd, 1) := by decide +kernel
theorem dX3_step_261 : decode cX3_step 261 = .ok (.putfield 18, 3) := by decide +kernel
theorem dX3_step_264 : decode cX3_step 264 = .ok (.return_, 1) := by decide +kernel
theorem dX3_byteAt_0 : decode cX3_byteAt 0 = .ok (.iload_n 1, 1) := by decide +kernel
theorem dX3_byteAt_1 : decode cX3_byteAt 1 = .ok (.ifCond .lt 32, 3) := by decide +kernel
theorem dX3_byteAt_4 : decode cX3_byteAt 4 = .ok (.iload_n 1, 1) := by decide +kernel
theorem dX3_byteAt_5 : decode cX3_byteAt 5 = .ok (.aload_n 0, 1) := by decide +kernel
theorem dX3_byteAt_6 : decode cX3_byteAt 6 = .ok (.getfield 27, 3) := by decide +kernel
theorem dX3_byteAt_9 : decode cX3_byteAt 9 = .ok (.getfield 132, 3) := by decide +kernel
theorem dX3_byteAt_12 : decode cX3_byteAt 12 = .ok (.if_icmp .ge 21, 3) := by decide +kernel
theorem dX3_byteAt_15 : decode cX3_byteAt 15 = .ok (.iload_n 1, 1) := by decide +kernel
theorem dX3_byteAt_16 : decode cX3_byteAt 16 = .ok (.bipush 120, 2) := by decide +kernel
theorem dX3_byteAt_18 : decode cX3_byteAt 18 = .ok (.if_icmp .ge 15, 3) := by decide +kernel
theorem dX3_byteAt_21 : decode cX3_byteAt 21 = .ok (.aload_n 0, 1) := by decide +kernel
theorem dX3_byteAt_22 : decode cX3_byteAt 22 = .ok (.getfield 27, 3) := by decide +kernel
theorem dX3_byteAt_25 : decode cX3_byteAt 25 = .ok (.getfield 148, 3) := by decide +kernel
theorem dX3_byteAt_28 : decode cX3_byteAt 28 = .ok (.iload_n 1, 1) := by decide +kernel
theorem dX3_byteAt_29 : decode cX3_byteAt 29 = .ok (.iaload, 1) := by decide +kernel
theorem dX3_byteAt_30 : decode cX3_byteAt 30 = .ok (.goto 4, 3) := by decide +kernel
theorem dX3_byteAt_33 : decode cX3_byteAt 33 = .ok (.iconst (-1), 1) := by decide +kernel
theorem dX3_byteAt_34 : decode cX3_byteAt 34 = .ok (.ireturn, 1) := by decide +kernel
theorem dX3_isLetter_0 : decode cX3_isLetter 0 = .ok (.iload_n 0, 1) := by decide +kernel
theorem dX3_isLetter_1 : decode cX3_isLetter 1 = .ok (.bipush 97, 2) := by decide +kernel
theorem dX3_isLetter_3 : decode cX3_isLetter 3 = .ok (.if_icmp .lt 13, 3) := by decide +kernel
theorem dX3_isLetter_6 : decode cX3_isLetter 6 = .ok (.iload_n 0, 1) := by decide +kernel
theorem dX3_isLetter_7 : decode cX3_isLetter 7 = .ok (.bipush 122, 2) := by decide +kernel
theorem dX3_isLetter_9 : decode cX3_isLetter 9 = .ok (.if_icmp .gt 7, 3) := by decide +kernel
theorem dX3_isLetter_12 : decode cX3_isLetter 12 = .ok (.iconst 1, 1) := by decide +kernel
theorem dX3_isLetter_13 : decode cX3_isLetter 13 = .ok (.goto 4, 3) := by decide +kernel
theorem dX3_isLetter_16 : decode cX3_isLetter 16 = .ok (.iconst 0, 1) := by decide +kernel
theorem dX3_isLetter_17 : decode cX3_isLetter 17 = .ok (.ireturn, 1) := by decide +kernel
theorem dX3_isDigit_0 : decode cX3_isDigit 0 = .ok (.iload_n 0, 1) := by decide +kernel
theorem dX3_isDigit_1 : decode cX3_isDigit 1 = .ok (.bipush 48, 2) := by decide +kernel
theorem dX3_isDigit_3 : decode cX3_isDigit 3 = .ok (.if_icmp .lt 13, 3) := by decide +kernel
theorem dX3_isDigit_6 : decode cX3_isDigit 6 = .ok (.iload_n 0, 1) := by decide +kernel
theorem dX3_isDigit_7 : decode cX3_isDigit 7 = .ok (.bipush 57, 2) := by decide +kernel
theorem dX3_isDigit_9 : decode cX3_isDigit 9 = .ok (.if_icmp .gt 7, 3) := by decide +kernel
theorem dX3_isDigit_12 : decode cX3_isDigit 12 = .ok (.iconst 1, 1) := by decide +kernel
theorem dX3_isDigit_13 : decode cX3_isDigit 13 = .ok (.goto 4, 3) := by decide +kernel
theorem dX3_isDigit_16 : decode cX3_isDigit 16 = .ok (.iconst 0, 1) := by decide +kernel
theorem dX3_isDigit_17 : decode cX3_isDigit 17 = .ok (.ireturn, 1) := by decide +kernel
theorem dX4_init_0 : decode cX4_init 0 = .ok (.aload_n 0, 1) := by decide +kernel
theorem dX4_init_1 : decode cX4_init 1 = .ok (.invokespecial 3, 3) := by decide +kernel
theorem dX4_init_4 : decode cX4_init 4 = .ok (.aload_n 0, 1) := by decide +kernel
theorem dX4_init_5 : decode cX4_init 5 = .ok (.iconst 0, 1) := by decide +kernel
theorem dX4_init_6 : decode cX4_init 6 = .ok (.putfield 9, 3) := by decide +kernel
theorem dX4_init_9 : decode cX4_init 9 = .ok (.aload_n 0, 1) := by decide +kernel
theorem dX4_init_10 : decode cX4_init 10 = .ok (.sipush 500, 3) := by decide +kernel
theorem dX4_init_13 : decode cX4_init 13 = .ok (.putfield 15, 3) := by decide +kernel
theorem dX4_init_16 : decode cX4_init 16 = .ok (.aload_n 0, 1) := by decide +kernel
theorem dX4_init_17 : decode cX4_init 17 = .ok (.sipush 200, 3) := by decide +kernel
theorem dX4_init_20 : decode cX4_init 20 = .ok (.putfield 18, 3) := by decide +kernel
theorem dX4_init_23 : decode cX4_init 23 = .ok (.aload_n 0, 1) := by decide +kernel
theorem dX4_init_24 : decode cX4_init 24 = .ok (.sipush 600, 3) := by decide +kernel
theorem dX4_init_27 : decode cX4_init 27 = .ok (.putfield 21, 3) := by decide +kernel
theorem dX4_init_30 : decode cX4_init 30 = .ok (.aload_n 0, 1) := by decide +kernel
theorem dX4_init_31 : decode cX4_init 31 = .ok (.bipush 8, 2) := by decide +kernel
theorem dX4_init_33 : decode cX4_init 33 = .ok (.newarray .int, 2) := by decide +kernel
theorem dX4_init_35 : decode cX4_init 35 = .ok (.putfield 24, 3) := by decide +kernel
theorem dX4_init_38 : decode cX4_init 38 = .ok (.aload_n 0, 1) := by decide +kernel
theorem dX4_init_39 : decode cX4_init 39 = .ok (.bipush 8, 2) := by decide +kernel
theorem dX4_init_41 : decode cX4_init 41 = .ok (.newarray .int, 2) := by decide +kernel
theorem dX4_init_43 : decode cX4_init 43 = .ok (.putfield 28, 3) := by decide +kernel
theorem dX4_init_46 : decode cX4_init 46 = .ok (.aload_n 0, 1) := by decide +kernel
theorem dX4_init_47 : decode cX4_init 47 = .ok (.bipush 8, 2) := by decide +kernel
theorem dX4_init_49 : decode cX4_init 49 = .ok (.anewarray 31, 3) := by decide +kernel
theorem dX4_init_52 : decode cX4_init 52 = .ok (.putfield 33, 3) := by decide +kernel
theorem dX4_init_55 : decode cX4_init 55 = .ok (.aload_n 0, 1) := by decide +kernel
theorem dX4_init_56 : decode cX4_init 56 = .ok (.iconst 0, 1) := by decide +kernel
theorem dX4_init_57 : decode cX4_init 57 = .ok (.putfield 37, 3) := by decide +kernel
theorem dX4_init_60 : decode cX4_init 60 = .ok (.iconst 0, 1) := by decide +kernel
theorem dX4_init_61 : decode cX4_init 61 = .ok (.istore_n 1, 1) := by decide +kernel
theorem dX4_init_62 : decode cX4_init 62 = .ok (.iload_n 1, 1) := by decide +kernel
theorem dX4_init_63 : decode cX4_init 63 = .ok (.bipush 8, 2) := by decide +kernel
theorem dX4_init_65 : decode cX4_init 65 = .ok (.if_icmp .ge 23, 3) := by decide +kernel
theorem dX4_init_68 : decode cX4_init 68 = .ok (.aload_n 0, 1) := by decide +kernel
theorem dX4_init_69 : decode cX4_init 69 = .ok (.getfield 24, 3) := by decide +kernel
theorem dX4_init_72 : decode cX4_init 72 = .ok (.iload_n 1, 1) := by decide +kernel
theorem dX4_init_73 : decode cX4_init 73 = .ok (.iconst 5, 1) := by decide +kernel
theorem dX4_init_74 : decode cX4_init 74 = .ok (.iload_n 1, 1) := by decide +kernel
theorem dX4_init_75 : decode cX4_init 75 = .ok (.imul, 1) := by decide +kernel
theorem dX4_init_76 : decode cX4_init 76 = .ok (.bipush 13, 2) := by decide +kernel
theorem dX4_init_78 : decode cX4_init 78 = .ok (.irem, 1) := by decide +kernel
theorem dX4_init_79 : decode cX4_init 79 = .ok (.iconst 3, 1) := by decide +kernel
theorem dX4_init_80 : decode cX4_init 80 = .ok (.iadd, 1) := by decide +kernel
theorem dX4_init_81 : decode cX4_init 81 = .ok (.iastore, 1) := by decide +kernel
theorem dX4_init_82 : decode cX4_init 82 = .ok (.iinc 1 1, 3) := by decide +kernel
theorem dX4_init_85 : decode cX4_init 85 = .ok (.goto (-23), 3) := by decide +kernel
theorem dX4_init_88 : decode cX4_init 88 = .ok (.iconst 0, 1) := by decide +kernel
theorem dX4_init_89 : decode cX4_init 89 = .ok (.istore_n 1, 1) := by decide +kernel
theorem dX4_init_90 : decode cX4_init 90 = .ok (.iload_n 1, 1) := by decide +kernel
theorem dX4_init_91 : decode cX4_init 91 = .ok (.bipush 8, 2) := by decide +kernel
theorem dX4_init_93 : decode cX4_init 93 = .ok (.if_icmp .ge 22, 3) := by decide +kernel
theorem dX4_init_96 : decode cX4_init 96 = .ok (.aload_n 0, 1) := by decide +kernel
theorem dX4_init_97 : decode cX4_init 97 = .ok (.getfield 33, 3) := by decide +kernel
theorem dX4_init_100 : decode cX4_init 100 = .ok (.iload_n 1, 1) := by decide +kernel
theorem dX4_init_101 : decode cX4_init 101 = .ok (.new 31, 3) := by decide +kernel
theorem dX4_init_104 : decode cX4_init 104 = .ok (.dup, 1) := by decide +kernel
theorem dX4_init_105 : decode cX4_init 105 = .ok (.invokespecial 40, 3) := by decide +kernel
theorem dX4_init_108 : decode cX4_init 108 = .ok (.aastore, 1) := by decide +kernel
theorem dX4_init_109 : decode cX4_init 109 = .ok (.iinc 1 1, 3) := by decide +kernel
theorem dX4_init_112 : decode cX4_init 112 = .ok (.goto (-22), 3) := by decide +kernel
theorem dX4_init_115 : decode cX4_init 115 = .ok (.return_, 1) := by decide +kernel
theorem dX4_become_0 : decode cX4_become 0 = .ok (.aload_n 0, 1) := by decide +kernel
theorem dX4_become_1 : decode cX4_become 1 = .ok (.aload_n 1, 1) := by decide +kernel
theorem dX4_become_2 : decode cX4_become 2 = .ok (.getfield 9, 3) := by decide +kernel
theorem dX4_become_5 : decode cX4_become 5 = .ok (.putfield 9, 3) := by decide +kernel
theorem dX4_become_8 : decode cX4_become 8 = .ok (.aload_n 0, 1) := by decide +kernel
theorem dX4_become_9 : decode cX4_become 9 = .ok (.aload_n 1, 1) := by decide +kernel
theorem dX4_become_10 : decode cX4_become 10 = .ok (.getfield 15, 3) := by decide +kernel
theorem dX4_become_13 : decode cX4_become 13 = .ok (.putfield 15, 3) := by decide +kernel
theorem dX4_become_16 : decode cX4_become 16 = .ok (.aload_n 0, 1) := by decide +kernel
theorem dX4_become_17 : decode cX4_become 17 = .ok (.aload_n 1, 1) := by decide +kernel
theorem dX4_become_18 : decode cX4_become 18 = .ok (.getfield 18, 3) := by decide +kernel
theorem dX4_become_21 : decode cX4_become 21 = .ok (.putfield 18, 3) := by decide +kernel
theorem dX4_become_24 : decode cX4_become 24 = .ok (.aload_n 0, 1) := by decide +kernel
theorem dX4_become_25 : decode cX4_become 25 = .ok (.aload_n 1, 1) := by decide +kernel
theorem dX4_become_26 : decode cX4_become 26 = .ok (.getfield 21, 3) := by decide +kernel
theorem dX4_become_29 : decode cX4_become 29 = .ok (.putfield 21, 3) := by decide +kernel
theorem dX4_become_32 : decode cX4_become 32 = .ok (.aload_n 1, 1) := by decide +kernel
theorem dX4_become_33 : decode cX4_become 33 = .ok (.getfield 24, 3) := by decide +kernel
theorem dX4_become_36 : decode cX4_become 36 = .ok (.iconst 0, 1) := by decide +kernel
theorem dX4_become_37 : decode cX4_become 37 = .ok (.aload_n 0, 1) := by decide +kernel
theorem dX4_become_38 : decode cX4_become 38 = .ok (.getfield 24, 3) := by decide +kernel
theorem dX4_become_41 : decode cX4_become 41 = .ok (.iconst 0, 1) := by decide +kernel
theorem dX4_become_42 : decode cX4_become 42 = .ok (.bipush 8, 2) := by decide +kernel
theorem dX4_become_44 : decode cX4_become 44 = .ok (.invokestatic 41, 3) := by decide +kernel
theorem dX4_become_47 : decode cX4_become 47 = .ok (.aload_n 1, 1) := by decide +kernel
theorem dX4_become_48 : decode cX4_become 48 = .ok (.getfield 28, 3) := by decide +kernel
theorem dX4_become_51 : decode cX4_become 51 = .ok (.iconst 0, 1) := by decide +kernel
theorem dX4_become_52 : decode cX4_become 52 = .ok (.aload_n 0, 1) := by decide +kernel
theorem dX4_become_53 : decode cX4_become 53 = .ok (.getfield 28, 3) := by decide +kernel
theorem dX4_become_56 : decode cX4_become 56 = .ok (.iconst 0, 1) := by decide +kernel
theorem dX4_become_57 : decode cX4_become 57 = .ok (.bipush 8, 2) := by decide +kernel
theorem dX4_become_59 : decode cX4_become 59 = .ok (.invokestatic 41, 3) := by decide +kernel
theorem dX4_become_62 : decode cX4_become 62 = .ok (.aload_n 0, 1) := by decide +kernel
theorem dX4_become_63 : decode cX4_become 63 = .ok (.aload_n 1, 1) := by decide +kernel
theorem dX4_become_64 : decode cX4_become 64 = .ok (.getfield 37, 3) := by decide +kernel
theorem dX4_become_67 : decode cX4_become 67 = .ok (.putfield 37, 3) := by decide +kernel
theorem dX4_become_70 : decode cX4_become 70 = .ok (.iconst 0, 1) := by decide +kernel
theorem dX4_become_71 : decode cX4_become 71 = .ok (.istore_n 2, 1) := by decide +kernel
theorem dX4_become_72 : decode cX4_become 72 = .ok (.iload_n 2, 1) := by decide +kernel
theorem dX4_become_73 : decode cX4_become 73 = .ok (.aload_n 0, 1) := by decide +kernel
theorem dX4_become_74 : decode cX4_become 74 = .ok (.getfield 37, 3) := by decide +kernel
theorem dX4_become_77 : decode cX4_become 77 = .ok (.if_icmp .ge 24, 3) := by decide +kernel
theorem dX4_become_80 : decode cX4_become 80 = .ok (.aload_n 0, 1) := by decide +kernel
theorem dX4_become_81 : decode cX4_become 81 = .ok (.getfield 33, 3) := by decide +kernel
theorem dX4_become_84 : decode cX4_become 84 = .ok (.iload_n 2, 1) := by decide +kernel
theorem dX4_become_85 : decode cX4_become 85 = .ok (.aaload, 1) := by decide +kernel
theorem dX4_become_86 : decode cX4_become 86 = .ok (.aload_n 1, 1) := by decide +kernel
theorem dX4_become_87 : decode cX4_become 87 = .ok (.getfield 33, 3) := by decide +kernel
theorem dX4_become_90 : decode cX4_become 90 = .ok (.iload_n 2, 1) := by decide +kernel
theorem dX4_become_91 : decode cX4_become 91 = .ok (.aaload, 1) := by decide +kernel
theorem dX4_become_92 : decode cX4_become 92 = .ok (.invokevirtual 47, 3) := by decide +kernel
theorem dX4_become_95 : decode cX4_become 95 = .ok (.iinc 2 1, 3) := by decide +kernel
theorem dX4_become_98 : decode cX4_become 98 = .ok (.goto (-26), 3) := by decide +kernel
theorem dX4_become_101 : decode cX4_become 101 = .ok (.return_, 1) := by decide +kernel
theorem dX4_has_0 : decode cX4_has 0 = .ok (.iload_n 1, 1) := by decide +kernel
theorem dX4_has_1 : decode cX4_has 1 = .ok (.ifCond .lt 15, 3) := by decide +kernel
theorem dX4_has_4 : decode cX4_has 4 = .ok (.iload_n 1, 1) := by decide +kernel
theorem dX4_has_5 : decode cX4_has 5 = .ok (.aload_n 0, 1) := by decide +kernel
theorem dX4_has_6 : decode cX4_has 6 = .ok (.getfield 37, 3) := by decide +kernel
theorem dX4_has_9 : decode cX4_has 9 = .ok (.if_icmp .ge 7, 3) := by decide +kernel
theorem dX4_has_12 : decode cX4_has 12 = .ok (.iconst 1, 1) := by decide +kernel
theorem dX4_has_13 : decode cX4_has 13 = .ok (.goto 4, 3) := by decide +kernel
theorem dX4_has_16 : decode cX4_has 16 = .ok (.iconst 0, 1) := by decide +kernel
end
section
theorem dX4_has_17 : decode cX4_has 17 = .ok (.ireturn, 1) := by decide +kernel
theorem dX4_addOne_0 : decode cX4_addOne 0 = .ok (.aload_n 0, 1) := by decide +kernel
theorem dX4_addOne_1 : decode cX4_addOne 1 = .ok (.getfield 37, 3) := by decide +kernel
theorem dX4_addOne_4 : decode cX4_addOne 4 = .ok (.bipush 8, 2) := by decide +kernel
theorem dX4_addOne_6 : decode cX4_addOne 6 = .ok (.if_icmp .lt 5, 3) := by decide +kernel
theorem dX4_addOne_9 : decode cX4_addOne 9 = .ok (.iconst (-1), 1) := by decide +kernel
theorem dX4_addOne_10 : decode cX4_addOne 10 = .ok (.ireturn, 1) := by decide +kernel
theorem dX4_addOne_11 : decode cX4_addOne 11 = .ok (.aload_n 0, 1) := by decide +kernel
theorem dX4_addOne_12 : decode cX4_addOne 12 = .ok (.getfield 33, 3) := by decide +kernel
theorem dX4_addOne_15 : decode cX4_addOne 15 = .ok (.aload_n 0, 1) := by decide +kernel
theorem dX4_addOne_16 : decode cX4_addOne 16 = .ok (.getfield 37, 3) := by decide +kernel
theorem dX4_addOne_19 : decode cX4_addOne 19 = .ok (.aaload, 1) := by decide +kernel
theorem dX4_addOne_20 : decode cX4_addOne 20 = .ok (.iload_n 1, 1) := by decide +kernel
theorem dX4_addOne_21 : decode cX4_addOne 21 = .ok (.invokevirtual 51, 3) := by decide +kernel
theorem dX4_addOne_24 : decode cX4_addOne 24 = .ok (.aload_n 0, 1) := by decide +kernel
theorem dX4_addOne_25 : decode cX4_addOne 25 = .ok (.dup, 1) := by decide +kernel
theorem dX4_addOne_26 : decode cX4_addOne 26 = .ok (.getfield 37, 3) := by decide +kernel
theorem dX4_addOne_29 : decode cX4_addOne 29 = .ok (.iconst 1, 1) := by decide +kernel
theorem dX4_addOne_30 : decode cX4_addOne 30 = .ok (.iadd, 1) := by decide +kernel
theorem dX4_addOne_31 : decode cX4_addOne 31 = .ok (.putfield 37, 3) := by decide +kernel
theorem dX4_addOne_34 : decode cX4_addOne 34 = .ok (.aload_n 0, 1) := by decide +kernel
theorem dX4_addOne_35 : decode cX4_addOne 35 = .ok (.getfield 37, 3) := by decide +kernel
theorem dX4_addOne_38 : decode cX4_addOne 38 = .ok (.iconst 1, 1) := by decide +kernel
theorem dX4_addOne_39 : decode cX4_addOne 39 = .ok (.isub, 1) := by decide +kernel
theorem dX4_addOne_40 : decode cX4_addOne 40 = .ok (.ireturn, 1) := by decide +kernel
theorem dX4_weekOfDay_0 : decode cX4_weekOfDay 0 = .ok (.aload_n 0, 1) := by decide +kernel
theorem dX4_weekOfDay_1 : decode cX4_weekOfDay 1 = .ok (.getfield 9, 3) := by decide +kernel
theorem dX4_weekOfDay_4 : decode cX4_weekOfDay 4 = .ok (.bipush 7, 2) := by decide +kernel
theorem dX4_weekOfDay_6 : decode cX4_weekOfDay 6 = .ok (.idiv, 1) := by decide +kernel
theorem dX4_weekOfDay_7 : decode cX4_weekOfDay 7 = .ok (.bipush 8, 2) := by decide +kernel
theorem dX4_weekOfDay_9 : decode cX4_weekOfDay 9 = .ok (.invokestatic 55, 3) := by decide +kernel
theorem dX4_weekOfDay_12 : decode cX4_weekOfDay 12 = .ok (.ireturn, 1) := by decide +kernel
theorem dX4_isCold_0 : decode cX4_isCold 0 = .ok (.aload_n 0, 1) := by decide +kernel
theorem dX4_isCold_1 : decode cX4_isCold 1 = .ok (.getfield 28, 3) := by decide +kernel
theorem dX4_isCold_4 : decode cX4_isCold 4 = .ok (.aload_n 0, 1) := by decide +kernel
theorem dX4_isCold_5 : decode cX4_isCold 5 = .ok (.invokevirtual 61, 3) := by decide +kernel
theorem dX4_isCold_8 : decode cX4_isCold 8 = .ok (.iaload, 1) := by decide +kernel
theorem dX4_isCold_9 : decode cX4_isCold 9 = .ok (.iconst 1, 1) := by decide +kernel
theorem dX4_isCold_10 : decode cX4_isCold 10 = .ok (.if_icmp .ne 7, 3) := by decide +kernel
theorem dX4_isCold_13 : decode cX4_isCold 13 = .ok (.iconst 1, 1) := by decide +kernel
theorem dX4_isCold_14 : decode cX4_isCold 14 = .ok (.goto 4, 3) := by decide +kernel
theorem dX4_isCold_17 : decode cX4_isCold 17 = .ok (.iconst 0, 1) := by decide +kernel
theorem dX4_isCold_18 : decode cX4_isCold 18 = .ok (.ireturn, 1) := by decide +kernel
theorem dX4_setOfOff_0 : decode cX4_setOfOff 0 = .ok (.iconst 0, 1) := by decide +kernel
theorem dX4_setOfOff_1 : decode cX4_setOfOff 1 = .ok (.istore_n 1, 1) := by decide +kernel
theorem dX4_setOfOff_2 : decode cX4_setOfOff 2 = .ok (.iconst 0, 1) := by decide +kernel
theorem dX4_setOfOff_3 : decode cX4_setOfOff 3 = .ok (.istore_n 2, 1) := by decide +kernel
theorem dX4_setOfOff_4 : decode cX4_setOfOff 4 = .ok (.iload_n 2, 1) := by decide +kernel
theorem dX4_setOfOff_5 : decode cX4_setOfOff 5 = .ok (.aload_n 0, 1) := by decide +kernel
theorem dX4_setOfOff_6 : decode cX4_setOfOff 6 = .ok (.getfield 37, 3) := by decide +kernel
theorem dX4_setOfOff_9 : decode cX4_setOfOff 9 = .ok (.if_icmp .ge 23, 3) := by decide +kernel
theorem dX4_setOfOff_12 : decode cX4_setOfOff 12 = .ok (.iload_n 1, 1) := by decide +kernel
theorem dX4_setOfOff_13 : decode cX4_setOfOff 13 = .ok (.aload_n 0, 1) := by decide +kernel
theorem dX4_setOfOff_14 : decode cX4_setOfOff 14 = .ok (.getfield 33, 3) := by decide +kernel
theorem dX4_setOfOff_17 : decode cX4_setOfOff 17 = .ok (.iload_n 2, 1) := by decide +kernel
theorem dX4_setOfOff_18 : decode cX4_setOfOff 18 = .ok (.aaload, 1) := by decide +kernel
theorem dX4_setOfOff_19 : decode cX4_setOfOff 19 = .ok (.getfield 65, 3) := by decide +kernel
theorem dX4_setOfOff_22 : decode cX4_setOfOff 22 = .ok (.iload_n 2, 1) := by decide +kernel
theorem dX4_setOfOff_23 : decode cX4_setOfOff 23 = .ok (.ishl, 1) := by decide +kernel
theorem dX4_setOfOff_24 : decode cX4_setOfOff 24 = .ok (.ior, 1) := by decide +kernel
theorem dX4_setOfOff_25 : decode cX4_setOfOff 25 = .ok (.istore_n 1, 1) := by decide +kernel
theorem dX4_setOfOff_26 : decode cX4_setOfOff 26 = .ok (.iinc 2 1, 3) := by decide +kernel
theorem dX4_setOfOff_29 : decode cX4_setOfOff 29 = .ok (.goto (-25), 3) := by decide +kernel
theorem dX4_setOfOff_32 : decode cX4_setOfOff 32 = .ok (.iload_n 1, 1) := by decide +kernel
theorem dX4_setOfOff_33 : decode cX4_setOfOff 33 = .ok (.ireturn, 1) := by decide +kernel
theorem dX4_noise_0 : decode cX4_noise 0 = .ok (.iconst 0, 1) := by decide +kernel
theorem dX4_noise_1 : decode cX4_noise 1 = .ok (.istore_n 1, 1) := by decide +kernel
theorem dX4_noise_2 : decode cX4_noise 2 = .ok (.iconst 0, 1) := by decide +kernel
theorem dX4_noise_3 : decode cX4_noise 3 = .ok (.istore_n 2, 1) := by decide +kernel
theorem dX4_noise_4 : decode cX4_noise 4 = .ok (.iload_n 2, 1) := by decide +kernel
theorem dX4_noise_5 : decode cX4_noise 5 = .ok (.aload_n 0, 1) := by decide +kernel
theorem dX4_noise_6 : decode cX4_noise 6 = .ok (.getfield 37, 3) := by decide +kernel
theorem dX4_noise_9 : decode cX4_noise 9 = .ok (.if_icmp .ge 21, 3) := by decide +kernel
theorem dX4_noise_12 : decode cX4_noise 12 = .ok (.iload_n 1, 1) := by decide +kernel
theorem dX4_noise_13 : decode cX4_noise 13 = .ok (.aload_n 0, 1) := by decide +kernel
theorem dX4_noise_14 : decode cX4_noise 14 = .ok (.getfield 33, 3) := by decide +kernel
theorem dX4_noise_17 : decode cX4_noise 17 = .ok (.iload_n 2, 1) := by decide +kernel
theorem dX4_noise_18 : decode cX4_noise 18 = .ok (.aaload, 1) := by decide +kernel
theorem dX4_noise_19 : decode cX4_noise 19 = .ok (.invokevirtual 68, 3) := by decide +kernel
theorem dX4_noise_22 : decode cX4_noise 22 = .ok (.iadd, 1) := by decide +kernel
theorem dX4_noise_23 : decode cX4_noise 23 = .ok (.istore_n 1, 1) := by decide +kernel
theorem dX4_noise_24 : decode cX4_noise 24 = .ok (.iinc 2 1, 3) := by decide +kernel
theorem dX4_noise_27 : decode cX4_noise 27 = .ok (.goto (-23), 3) := by decide +kernel
theorem dX4_noise_30 : decode cX4_noise 30 = .ok (.iload_n 1, 1) := by decide +kernel
theorem dX4_noise_31 : decode cX4_noise 31 = .ok (.ireturn, 1) := by decide +kernel
theorem dX4_usesTogether_0 : decode cX4_usesTogether 0 = .ok (.aload_n 0, 1) := by decide +kernel
theorem dX4_usesTogether_1 : decode cX4_usesTogether 1 = .ok (.invokevirtual 71, 3) := by decide +kernel
theorem dX4_usesTogether_4 : decode cX4_usesTogether 4 = .ok (.istore_n 1, 1) := by decide +kernel
theorem dX4_usesTogether_5 : decode cX4_usesTogether 5 = .ok (.iconst 0, 1) := by decide +kernel
theorem dX4_usesTogether_6 : decode cX4_usesTogether 6 = .ok (.istore_n 2, 1) := by decide +kernel
theorem dX4_usesTogether_7 : decode cX4_usesTogether 7 = .ok (.iconst 0, 1) := by decide +kernel
theorem dX4_usesTogether_8 : decode cX4_usesTogether 8 = .ok (.istore_n 3, 1) := by decide +kernel
theorem dX4_usesTogether_9 : decode cX4_usesTogether 9 = .ok (.iload_n 3, 1) := by decide +kernel
theorem dX4_usesTogether_10 : decode cX4_usesTogether 10 = .ok (.aload_n 0, 1) := by decide +kernel
theorem dX4_usesTogether_11 : decode cX4_usesTogether 11 = .ok (.getfield 37, 3) := by decide +kernel
theorem dX4_usesTogether_14 : decode cX4_usesTogether 14 = .ok (.if_icmp .ge 22, 3) := by decide +kernel
theorem dX4_usesTogether_17 : decode cX4_usesTogether 17 = .ok (.iload_n 2, 1) := by decide +kernel
theorem dX4_usesTogether_18 : decode cX4_usesTogether 18 = .ok (.aload_n 0, 1) := by decide +kernel
theorem dX4_usesTogether_19 : decode cX4_usesTogether 19 = .ok (.getfield 33, 3) := by decide +kernel
theorem dX4_usesTogether_22 : decode cX4_usesTogether 22 = .ok (.iload_n 3, 1) := by decide +kernel
theorem dX4_usesTogether_23 : decode cX4_usesTogether 23 = .ok (.aaload, 1) := by decide +kernel
theorem dX4_usesTogether_24 : decode cX4_usesTogether 24 = .ok (.iload_n 1, 1) := by decide +kernel
theorem dX4_usesTogether_25 : decode cX4_usesTogether 25 = .ok (.invokevirtual 75, 3) := by decide +kernel
theorem dX4_usesTogether_28 : decode cX4_usesTogether 28 = .ok (.iadd, 1) := by decide +kernel
theorem dX4_usesTogether_29 : decode cX4_usesTogether 29 = .ok (.istore_n 2, 1) := by decide +kernel
theorem dX4_usesTogether_30 : decode cX4_usesTogether 30 = .ok (.iinc 3 1, 3) := by decide +kernel
theorem dX4_usesTogether_33 : decode cX4_usesTogether 33 = .ok (.goto (-24), 3) := by decide +kernel
theorem dX4_usesTogether_36 : decode cX4_usesTogether 36 = .ok (.iload_n 2, 1) := by decide +kernel
theorem dX4_usesTogether_37 : decode cX4_usesTogether 37 = .ok (.ireturn, 1) := by decide +kernel
theorem dX4_stoopedTogether_0 : decode cX4_stoopedTogether 0 = .ok (.iconst 0, 1) := by decide +kernel
theorem dX4_stoopedTogether_1 : decode cX4_stoopedTogether 1 = .ok (.istore_n 1, 1) := by decide +kernel
theorem dX4_stoopedTogether_2 : decode cX4_stoopedTogether 2 = .ok (.iconst 0, 1) := by decide +kernel
theorem dX4_stoopedTogether_3 : decode cX4_stoopedTogether 3 = .ok (.istore_n 2, 1) := by decide +kernel
theorem dX4_stoopedTogether_4 : decode cX4_stoopedTogether 4 = .ok (.iload_n 2, 1) := by decide +kernel
theorem dX4_stoopedTogether_5 : decode cX4_stoopedTogether 5 = .ok (.aload_n 0, 1) := by decide +kernel
theorem dX4_stoopedTogether_6 : decode cX4_stoopedTogether 6 = .ok (.getfield 37, 3) := by decide +kernel
theorem dX4_stoopedTogether_9 : decode cX4_stoopedTogether 9 = .ok (.if_icmp .ge 21, 3) := by decide +kernel
theorem dX4_stoopedTogether_12 : decode cX4_stoopedTogether 12 = .ok (.iload_n 1, 1) := by decide +kernel
theorem dX4_stoopedTogether_13 : decode cX4_stoopedTogether 13 = .ok (.aload_n 0, 1) := by decide +kernel
theorem dX4_stoopedTogether_14 : decode cX4_stoopedTogether 14 = .ok (.getfield 33, 3) := by decide +kernel
theorem dX4_stoopedTogether_17 : decode cX4_stoopedTogether 17 = .ok (.iload_n 2, 1) := by decide +kernel
theorem dX4_stoopedTogether_18 : decode cX4_stoopedTogether 18 = .ok (.aaload, 1) := by decide +kernel
theorem dX4_stoopedTogether_19 : decode cX4_stoopedTogether 19 = .ok (.getfield 79, 3) := by decide +kernel
theorem dX4_stoopedTogether_22 : decode cX4_stoopedTogether 22 = .ok (.iadd, 1) := by decide +kernel
theorem dX4_stoopedTogether_23 : decode cX4_stoopedTogether 23 = .ok (.istore_n 1, 1) := by decide +kernel
theorem dX4_stoopedTogether_24 : decode cX4_stoopedTogether 24 = .ok (.iinc 2 1, 3) := by decide +kernel
theorem dX4_stoopedTogether_27 : decode cX4_stoopedTogether 27 = .ok (.goto (-23), 3) := by decide +kernel
theorem dX4_stoopedTogether_30 : decode cX4_stoopedTogether 30 = .ok (.iload_n 1, 1) := by decide +kernel
theorem dX4_stoopedTogether_31 : decode cX4_stoopedTogether 31 = .ok (.ireturn, 1) := by decide +kernel
theorem dX4_givesWayMost_0 : decode cX4_givesWayMost 0 = .ok (.iconst (-1), 1) := by decide +kernel
theorem dX4_givesWayMost_1 : decode cX4_givesWayMost 1 = .ok (.istore_n 1, 1) := by decide +kernel
theorem dX4_givesWayMost_2 : decode cX4_givesWayMost 2 = .ok (.ldc 84, 2) := by decide +kernel
theorem dX4_givesWayMost_4 : decode cX4_givesWayMost 4 = .ok (.istore_n 2, 1) := by decide +kernel
theorem dX4_givesWayMost_5 : decode cX4_givesWayMost 5 = .ok (.iconst 0, 1) := by decide +kernel
theorem dX4_givesWayMost_6 : decode cX4_givesWayMost 6 = .ok (.istore_n 3, 1) := by decide +kernel
theorem dX4_givesWayMost_7 : decode cX4_givesWayMost 7 = .ok (.iload_n 3, 1) := by decide +kernel
theorem dX4_givesWayMost_8 : decode cX4_givesWayMost 8 = .ok (.aload_n 0, 1) := by decide +kernel
theorem dX4_givesWayMost_9 : decode cX4_givesWayMost 9 = .ok (.getfield 37, 3) := by decide +kernel
theorem dX4_givesWayMost_12 : decode cX4_givesWayMost 12 = .ok (.if_icmp .ge 46, 3) := by decide +kernel
theorem dX4_givesWayMost_15 : decode cX4_givesWayMost 15 = .ok (.aload_n 0, 1) := by decide +kernel
theorem dX4_givesWayMost_16 : decode cX4_givesWayMost 16 = .ok (.getfield 33, 3) := by decide +kernel
theorem dX4_givesWayMost_19 : decode cX4_givesWayMost 19 = .ok (.iload_n 3, 1) := by decide +kernel
theorem dX4_givesWayMost_20 : decode cX4_givesWayMost 20 = .ok (.aaload, 1) := by decide +kernel
theorem dX4_givesWayMost_21 : decode cX4_givesWayMost 21 = .ok (.getfield 65, 3) := by decide +kernel
theorem dX4_givesWayMost_24 : decode cX4_givesWayMost 24 = .ok (.ifCond .ne 28, 3) := by decide +kernel
theorem dX4_givesWayMost_27 : decode cX4_givesWayMost 27 = .ok (.aload_n 0, 1) := by decide +kernel
theorem dX4_givesWayMost_28 : decode cX4_givesWayMost 28 = .ok (.getfield 33, 3) := by decide +kernel
theorem dX4_givesWayMost_31 : decode cX4_givesWayMost 31 = .ok (.iload_n 3, 1) := by decide +kernel
theorem dX4_givesWayMost_32 : decode cX4_givesWayMost 32 = .ok (.aaload, 1) := by decide +kernel
theorem dX4_givesWayMost_33 : decode cX4_givesWayMost 33 = .ok (.invokevirtual 85, 3) := by decide +kernel
theorem dX4_givesWayMost_36 : decode cX4_givesWayMost 36 = .ok (.iload_n 2, 1) := by decide +kernel
theorem dX4_givesWayMost_37 : decode cX4_givesWayMost 37 = .ok (.if_icmp .le 15, 3) := by decide +kernel
theorem dX4_givesWayMost_40 : decode cX4_givesWayMost 40 = .ok (.aload_n 0, 1) := by decide +kernel
theorem dX4_givesWayMost_41 : decode cX4_givesWayMost 41 = .ok (.getfield 33, 3) := by decide +kernel
theorem dX4_givesWayMost_44 : decode cX4_givesWayMost 44 = .ok (.iload_n 3, 1) := by decide +kernel
theorem dX4_givesWayMost_45 : decode cX4_givesWayMost 45 = .ok (.aaload, 1) := by decide +kernel
theorem dX4_givesWayMost_46 : decode cX4_givesWayMost 46 = .ok (.invokevirtual 85, 3) := by decide +kernel
theorem dX4_givesWayMost_49 : decode cX4_givesWayMost 49 = .ok (.istore_n 2, 1) := by decide +kernel
theorem dX4_givesWayMost_50 : decode cX4_givesWayMost 50 = .ok (.iload_n 3, 1) := by decide +kernel
theorem dX4_givesWayMost_51 : decode cX4_givesWayMost 51 = .ok (.istore_n 1, 1) := by decide +kernel
theorem dX4_givesWayMost_52 : decode cX4_givesWayMost 52 = .ok (.iinc 3 1, 3) := by decide +kernel
theorem dX4_givesWayMost_55 : decode cX4_givesWayMost 55 = .ok (.goto (-48), 3) := by decide +kernel
theorem dX4_givesWayMost_58 : decode cX4_givesWayMost 58 = .ok (.iload_n 1, 1) := by decide +kernel
theorem dX4_givesWayMost_59 : decode cX4_givesWayMost 59 = .ok (.ireturn, 1) := by decide +kernel
theorem dX4_givesWayLeast_0 : decode cX4_givesWayLeast 0 = .ok (.iconst (-1), 1) := by decide +kernel
theorem dX4_givesWayLeast_1 : decode cX4_givesWayLeast 1 = .ok (.istore_n 1, 1) := by decide +kernel
theorem dX4_givesWayLeast_2 : decode cX4_givesWayLeast 2 = .ok (.ldc 88, 2) := by decide +kernel
theorem dX4_givesWayLeast_4 : decode cX4_givesWayLeast 4 = .ok (.istore_n 2, 1) := by decide +kernel
theorem dX4_givesWayLeast_5 : decode cX4_givesWayLeast 5 = .ok (.iconst 0, 1) := by decide +kernel
theorem dX4_givesWayLeast_6 : decode cX4_givesWayLeast 6 = .ok (.istore_n 3, 1) := by decide +kernel
theorem dX4_givesWayLeast_7 : decode cX4_givesWayLeast 7 = .ok (.iload_n 3, 1) := by decide +kernel
theorem dX4_givesWayLeast_8 : decode cX4_givesWayLeast 8 = .ok (.aload_n 0, 1) := by decide +kernel
theorem dX4_givesWayLeast_9 : decode cX4_givesWayLeast 9 = .ok (.getfield 37, 3) := by decide +kernel
theorem dX4_givesWayLeast_12 : decode cX4_givesWayLeast 12 = .ok (.if_icmp .ge 47, 3) := by decide +kernel
theorem dX4_givesWayLeast_15 : decode cX4_givesWayLeast 15 = .ok (.aload_n 0, 1) := by decide +kernel
theorem dX4_givesWayLeast_16 : decode cX4_givesWayLeast 16 = .ok (.getfield 33, 3) := by decide +kernel
theorem dX4_givesWayLeast_19 : decode cX4_givesWayLeast 19 = .ok (.iload_n 3, 1) := by decide +kernel
theorem dX4_givesWayLeast_20 : decode cX4_givesWayLeast 20 = .ok (.aaload, 1) := by decide +kernel
theorem dX4_givesWayLeast_21 : decode cX4_givesWayLeast 21 = .ok (.getfield 65, 3) := by decide +kernel
theorem dX4_givesWayLeast_24 : decode cX4_givesWayLeast 24 = .ok (.iconst 1, 1) := by decide +kernel
theorem dX4_givesWayLeast_25 : decode cX4_givesWayLeast 25 = .ok (.if_icmp .ne 28, 3) := by decide +kernel
theorem dX4_givesWayLeast_28 : decode cX4_givesWayLeast 28 = .ok (.aload_n 0, 1) := by decide +kernel
theorem dX4_givesWayLeast_29 : decode cX4_givesWayLeast 29 = .ok (.getfield 33, 3) := by decide +kernel
theorem dX4_givesWayLeast_32 : decode cX4_givesWayLeast 32 = .ok (.iload_n 3, 1) := by decide +kernel
theorem dX4_givesWayLeast_33 : decode cX4_givesWayLeast 33 = .ok (.aaload, 1) := by decide +kernel
theorem dX4_givesWayLeast_34 : decode cX4_givesWayLeast 34 = .ok (.invokevirtual 85, 3) := by decide +kernel
theorem dX4_givesWayLeast_37 : decode cX4_givesWayLeast 37 = .ok (.iload_n 2, 1) := by decide +kernel
theorem dX4_givesWayLeast_38 : decode cX4_givesWayLeast 38 = .ok (.if_icmp .ge 15, 3) := by decide +kernel
theorem dX4_givesWayLeast_41 : decode cX4_givesWayLeast 41 = .ok (.aload_n 0, 1) := by decide +kernel
theorem dX4_givesWayLeast_42 : decode cX4_givesWayLeast 42 = .ok (.getfield 33, 3) := by decide +kernel
theorem dX4_givesWayLeast_45 : decode cX4_givesWayLeast 45 = .ok (.iload_n 3, 1) := by decide +kernel
theorem dX4_givesWayLeast_46 : decode cX4_givesWayLeast 46 = .ok (.aaload, 1) := by decide +kernel
theorem dX4_givesWayLeast_47 : decode cX4_givesWayLeast 47 = .ok (.invokevirtual 85, 3) := by decide +kernel
theorem dX4_givesWayLeast_50 : decode cX4_givesWayLeast 50 = .ok (.istore_n 2, 1) := by decide +kernel
theorem dX4_givesWayLeast_51 : decode cX4_givesWayLeast 51 = .ok (.iload_n 3, 1) := by decide +kernel
theorem dX4_givesWayLeast_52 : decode cX4_givesWayLeast 52 = .ok (.istore_n 1, 1) := by decide +kernel
theorem dX4_givesWayLeast_53 : decode cX4_givesWayLeast 53 = .ok (.iinc 3 1, 3) := by decide +kernel
theorem dX4_givesWayLeast_56 : decode cX4_givesWayLeast 56 = .ok (.goto (-49), 3) := by decide +kernel
theorem dX4_givesWayLeast_59 : decode cX4_givesWayLeast 59 = .ok (.iload_n 1, 1) := by decide +kernel
theorem dX4_givesWayLeast_60 : decode cX4_givesWayLeast 60 = .ok (.ireturn, 1) := by decide +kernel
theorem dX4_passDays_0 : decode cX4_passDays 0 = .ok (.iconst 0, 1) := by decide +kernel
theorem dX4_passDays_1 : decode cX4_passDays 1 = .ok (.istore_n 2, 1) := by decide +kernel
theorem dX4_passDays_2 : decode cX4_passDays 2 = .ok (.iload_n 2, 1) := by decide +kernel
theorem dX4_passDays_3 : decode cX4_passDays 3 = .ok (.iload_n 1, 1) := by decide +kernel
theorem dX4_passDays_4 : decode cX4_passDays 4 = .ok (.if_icmp .ge 13, 3) := by decide +kernel
theorem dX4_passDays_7 : decode cX4_passDays 7 = .ok (.aload_n 0, 1) := by decide +kernel
theorem dX4_passDays_8 : decode cX4_passDays 8 = .ok (.invokevirtual 89, 3) := by decide +kernel
theorem dX4_passDays_11 : decode cX4_passDays 11 = .ok (.iinc 2 1, 3) := by decide +kernel
theorem dX4_passDays_14 : decode cX4_passDays 14 = .ok (.goto (-12), 3) := by decide +kernel
theorem dX4_passDays_17 : decode cX4_passDays 17 = .ok (.return_, 1) := by decide +kernel
theorem dX4_passDay_0 : decode cX4_passDay 0 = .ok (.aload_n 0, 1) := by decide +kernel
theorem dX4_passDay_1 : decode cX4_passDay 1 = .ok (.invokevirtual 71, 3) := by decide +kernel
theorem dX4_passDay_4 : decode cX4_passDay 4 = .ok (.istore_n 1, 1) := by decide +kernel
theorem dX4_passDay_5 : decode cX4_passDay 5 = .ok (.aload_n 0, 1) := by decide +kernel
theorem dX4_passDay_6 : decode cX4_passDay 6 = .ok (.sipush 9999, 3) := by decide +kernel
theorem dX4_passDay_9 : decode cX4_passDay 9 = .ok (.aload_n 0, 1) := by decide +kernel
theorem dX4_passDay_10 : decode cX4_passDay 10 = .ok (.getfield 15, 3) := by decide +kernel
theorem dX4_passDay_13 : decode cX4_passDay 13 = .ok (.aload_n 0, 1) := by decide +kernel
theorem dX4_passDay_14 : decode cX4_passDay 14 = .ok (.getfield 24, 3) := by decide +kernel
theorem dX4_passDay_17 : decode cX4_passDay 17 = .ok (.aload_n 0, 1) := by decide +kernel
theorem dX4_passDay_18 : decode cX4_passDay 18 = .ok (.invokevirtual 61, 3) := by decide +kernel
theorem dX4_passDay_21 : decode cX4_passDay 21 = .ok (.iaload, 1) := by decide +kernel
theorem dX4_passDay_22 : decode cX4_passDay 22 = .ok (.iadd, 1) := by decide +kernel
theorem dX4_passDay_23 : decode cX4_passDay 23 = .ok (.invokestatic 92, 3) := by decide +kernel
theorem dX4_passDay_26 : decode cX4_passDay 26 = .ok (.putfield 15, 3) := by decide +kernel
theorem dX4_passDay_29 : decode cX4_passDay 29 = .ok (.aload_n 0, 1) := by decide +kernel
theorem dX4_passDay_30 : decode cX4_passDay 30 = .ok (.invokevirtual 95, 3) := by decide +kernel
theorem dX4_passDay_33 : decode cX4_passDay 33 = .ok (.iconst 0, 1) := by decide +kernel
theorem dX4_passDay_34 : decode cX4_passDay 34 = .ok (.istore_n 2, 1) := by decide +kernel
theorem dX4_passDay_35 : decode cX4_passDay 35 = .ok (.iload_n 2, 1) := by decide +kernel
theorem dX4_passDay_36 : decode cX4_passDay 36 = .ok (.aload_n 0, 1) := by decide +kernel
theorem dX4_passDay_37 : decode cX4_passDay 37 = .ok (.getfield 37, 3) := by decide +kernel
theorem dX4_passDay_40 : decode cX4_passDay 40 = .ok (.if_icmp .ge 20, 3) := by decide +kernel
theorem dX4_passDay_43 : decode cX4_passDay 43 = .ok (.aload_n 0, 1) := by decide +kernel
theorem dX4_passDay_44 : decode cX4_passDay 44 = .ok (.aload_n 0, 1) := by decide +kernel
theorem dX4_passDay_45 : decode cX4_passDay 45 = .ok (.getfield 33, 3) := by decide +kernel
theorem dX4_passDay_48 : decode cX4_passDay 48 = .ok (.iload_n 2, 1) := by decide +kernel
theorem dX4_passDay_49 : decode cX4_passDay 49 = .ok (.aaload, 1) := by decide +kernel
theorem dX4_passDay_50 : decode cX4_passDay 50 = .ok (.iload_n 1, 1) := by decide +kernel
theorem dX4_passDay_51 : decode cX4_passDay 51 = .ok (.invokevirtual 98, 3) := by decide +kernel
theorem dX4_passDay_54 : decode cX4_passDay 54 = .ok (.iinc 2 1, 3) := by decide +kernel
theorem dX4_passDay_57 : decode cX4_passDay 57 = .ok (.goto (-22), 3) := by decide +kernel
theorem dX4_passDay_60 : decode cX4_passDay 60 = .ok (.iconst 0, 1) := by decide +kernel
theorem dX4_passDay_61 : decode cX4_passDay 61 = .ok (.istore_n 2, 1) := by decide +kernel
theorem dX4_passDay_62 : decode cX4_passDay 62 = .ok (.iload_n 2, 1) := by decide +kernel
theorem dX4_passDay_63 : decode cX4_passDay 63 = .ok (.aload_n 0, 1) := by decide +kernel
theorem dX4_passDay_64 : decode cX4_passDay 64 = .ok (.getfield 37, 3) := by decide +kernel
theorem dX4_passDay_67 : decode cX4_passDay 67 = .ok (.if_icmp .ge 19, 3) := by decide +kernel
theorem dX4_passDay_70 : decode cX4_passDay 70 = .ok (.aload_n 0, 1) := by decide +kernel
theorem dX4_passDay_71 : decode cX4_passDay 71 = .ok (.getfield 33, 3) := by decide +kernel
theorem dX4_passDay_74 : decode cX4_passDay 74 = .ok (.iload_n 2, 1) := by decide +kernel
theorem dX4_passDay_75 : decode cX4_passDay 75 = .ok (.aaload, 1) := by decide +kernel
theorem dX4_passDay_76 : decode cX4_passDay 76 = .ok (.iload_n 1, 1) := by decide +kernel
theorem dX4_passDay_77 : decode cX4_passDay 77 = .ok (.invokevirtual 102, 3) := by decide +kernel
theorem dX4_passDay_80 : decode cX4_passDay 80 = .ok (.iinc 2 1, 3) := by decide +kernel
theorem dX4_passDay_83 : decode cX4_passDay 83 = .ok (.goto (-21), 3) := by decide +kernel
theorem dX4_passDay_86 : decode cX4_passDay 86 = .ok (.aload_n 0, 1) := by decide +kernel
theorem dX4_passDay_87 : decode cX4_passDay 87 = .ok (.dup, 1) := by decide +kernel
theorem dX4_passDay_88 : decode cX4_passDay 88 = .ok (.getfield 9, 3) := by decide +kernel
theorem dX4_passDay_91 : decode cX4_passDay 91 = .ok (.iconst 1, 1) := by decide +kernel
theorem dX4_passDay_92 : decode cX4_passDay 92 = .ok (.iadd, 1) := by decide +kernel
theorem dX4_passDay_93 : decode cX4_passDay 93 = .ok (.putfield 9, 3) := by decide +kernel
theorem dX4_passDay_96 : decode cX4_passDay 96 = .ok (.return_, 1) := by decide +kernel
theorem dX4_sendCommittee_0 : decode cX4_sendCommittee 0 = .ok (.aload_n 0, 1) := by decide +kernel
theorem dX4_sendCommittee_1 : decode cX4_sendCommittee 1 = .ok (.getfield 15, 3) := by decide +kernel
theorem dX4_sendCommittee_4 : decode cX4_sendCommittee 4 = .ok (.aload_n 0, 1) := by decide +kernel
theorem dX4_sendCommittee_5 : decode cX4_sendCommittee 5 = .ok (.getfield 18, 3) := by decide +kernel
theorem dX4_sendCommittee_8 : decode cX4_sendCommittee 8 = .ok (.if_icmp .ge 25, 3) := by decide +kernel
theorem dX4_sendCommittee_11 : decode cX4_sendCommittee 11 = .ok (.aload_n 0, 1) := by decide +kernel
theorem dX4_sendCommittee_12 : decode cX4_sendCommittee 12 = .ok (.invokevirtual 106, 3) := by decide +kernel
theorem dX4_sendCommittee_15 : decode cX4_sendCommittee 15 = .ok (.istore_n 1, 1) := by decide +kernel
theorem dX4_sendCommittee_16 : decode cX4_sendCommittee 16 = .ok (.iload_n 1, 1) := by decide +kernel
theorem dX4_sendCommittee_17 : decode cX4_sendCommittee 17 = .ok (.iconst (-1), 1) := by decide +kernel
theorem dX4_sendCommittee_18 : decode cX4_sendCommittee 18 = .ok (.if_icmp .eq 12, 3) := by decide +kernel
theorem dX4_sendCommittee_21 : decode cX4_sendCommittee 21 = .ok (.aload_n 0, 1) := by decide +kernel
theorem dX4_sendCommittee_22 : decode cX4_sendCommittee 22 = .ok (.getfield 33, 3) := by decide +kernel
theorem dX4_sendCommittee_25 : decode cX4_sendCommittee 25 = .ok (.iload_n 1, 1) := by decide +kernel
theorem dX4_sendCommittee_26 : decode cX4_sendCommittee 26 = .ok (.aaload, 1) := by decide +kernel
theorem dX4_sendCommittee_27 : decode cX4_sendCommittee 27 = .ok (.invokevirtual 109, 3) := by decide +kernel
theorem dX4_sendCommittee_30 : decode cX4_sendCommittee 30 = .ok (.goto 34, 3) := by decide +kernel
theorem dX4_sendCommittee_33 : decode cX4_sendCommittee 33 = .ok (.aload_n 0, 1) := by decide +kernel
theorem dX4_sendCommittee_34 : decode cX4_sendCommittee 34 = .ok (.getfield 15, 3) := by decide +kernel
theorem dX4_sendCommittee_37 : decode cX4_sendCommittee 37 = .ok (.aload_n 0, 1) := by decide +kernel
theorem dX4_sendCommittee_38 : decode cX4_sendCommittee 38 = .ok (.getfield 21, 3) := by decide +kernel
theorem dX4_sendCommittee_41 : decode cX4_sendCommittee 41 = .ok (.if_icmp .lt 23, 3) := by decide +kernel
theorem dX4_sendCommittee_44 : decode cX4_sendCommittee 44 = .ok (.aload_n 0, 1) := by decide +kernel
theorem dX4_sendCommittee_45 : decode cX4_sendCommittee 45 = .ok (.invokevirtual 112, 3) := by decide +kernel
theorem dX4_sendCommittee_48 : decode cX4_sendCommittee 48 = .ok (.istore_n 1, 1) := by decide +kernel
theorem dX4_sendCommittee_49 : decode cX4_sendCommittee 49 = .ok (.iload_n 1, 1) := by decide +kernel
theorem dX4_sendCommittee_50 : decode cX4_sendCommittee 50 = .ok (.iconst (-1), 1) := by decide +kernel
theorem dX4_sendCommittee_51 : decode cX4_sendCommittee 51 = .ok (.if_icmp .eq 13, 3) := by decide +kernel
theorem dX4_sendCommittee_54 : decode cX4_sendCommittee 54 = .ok (.aload_n 0, 1) := by decide +kernel
theorem dX4_sendCommittee_55 : decode cX4_sendCommittee 55 = .ok (.getfield 33, 3) := by decide +kernel
theorem dX4_sendCommittee_58 : decode cX4_sendCommittee 58 = .ok (.iload_n 1, 1) := by decide +kernel
theorem dX4_sendCommittee_59 : decode cX4_sendCommittee 59 = .ok (.aaload, 1) := by decide +kernel
theorem dX4_sendCommittee_60 : decode cX4_sendCommittee 60 = .ok (.iconst 0, 1) := by decide +kernel
theorem dX4_sendCommittee_61 : decode cX4_sendCommittee 61 = .ok (.putfield 65, 3) := by decide +kernel
theorem dX4_sendCommittee_64 : decode cX4_sendCommittee 64 = .ok (.return_, 1) := by decide +kernel
theorem dX4_letRun_0 : decode cX4_letRun 0 = .ok (.aload_n 1, 1) := by decide +kernel
theorem dX4_letRun_1 : decode cX4_letRun 1 = .ok (.iload_n 2, 1) := by decide +kernel
theorem dX4_letRun_2 : decode cX4_letRun 2 = .ok (.invokevirtual 75, 3) := by decide +kernel
theorem dX4_letRun_5 : decode cX4_letRun 5 = .ok (.istore_n 3, 1) := by decide +kernel
theorem dX4_letRun_6 : decode cX4_letRun 6 = .ok (.aload_n 0, 1) := by decide +kernel
theorem dX4_letRun_7 : decode cX4_letRun 7 = .ok (.getfield 15, 3) := by decide +kernel
theorem dX4_letRun_10 : decode cX4_letRun 10 = .ok (.iload_n 3, 1) := by decide +kernel
theorem dX4_letRun_11 : decode cX4_letRun 11 = .ok (.if_icmp .lt 16, 3) := by decide +kernel
theorem dX4_letRun_14 : decode cX4_letRun 14 = .ok (.aload_n 0, 1) := by decide +kernel
theorem dX4_letRun_15 : decode cX4_letRun 15 = .ok (.dup, 1) := by decide +kernel
theorem dX4_letRun_16 : decode cX4_letRun 16 = .ok (.getfield 15, 3) := by decide +kernel
theorem dX4_letRun_19 : decode cX4_letRun 19 = .ok (.iload_n 3, 1) := by decide +kernel
theorem dX4_letRun_20 : decode cX4_letRun 20 = .ok (.isub, 1) := by decide +kernel
theorem dX4_letRun_21 : decode cX4_letRun 21 = .ok (.putfield 15, 3) := by decide +kernel
theorem dX4_letRun_24 : decode cX4_letRun 24 = .ok (.goto 15, 3) := by decide +kernel
theorem dX4_letRun_27 : decode cX4_letRun 27 = .ok (.aload_n 1, 1) := by decide +kernel
theorem dX4_letRun_28 : decode cX4_letRun 28 = .ok (.getfield 115, 3) := by decide +kernel
theorem dX4_letRun_31 : decode cX4_letRun 31 = .ok (.iconst 5, 1) := by decide +kernel
theorem dX4_letRun_32 : decode cX4_letRun 32 = .ok (.if_icmp .eq 7, 3) := by decide +kernel
theorem dX4_letRun_35 : decode cX4_letRun 35 = .ok (.aload_n 1, 1) := by decide +kernel
theorem dX4_letRun_36 : decode cX4_letRun 36 = .ok (.invokevirtual 109, 3) := by decide +kernel
theorem dX4_letRun_39 : decode cX4_letRun 39 = .ok (.return_, 1) := by decide +kernel
theorem dX4_daysTillOff_0 : decode cX4_daysTillOff 0 = .ok (.aload_n 0, 1) := by decide +kernel
theorem dX4_daysTillOff_1 : decode cX4_daysTillOff 1 = .ok (.iload_n 1, 1) := by decide +kernel
theorem dX4_daysTillOff_2 : decode cX4_daysTillOff 2 = .ok (.invokevirtual 118, 3) := by decide +kernel
theorem dX4_daysTillOff_5 : decode cX4_daysTillOff 5 = .ok (.ifCond .ne 7, 3) := by decide +kernel
theorem dX4_daysTillOff_8 : decode cX4_daysTillOff 8 = .ok (.sipush 401, 3) := by decide +kernel
theorem dX4_daysTillOff_11 : decode cX4_daysTillOff 11 = .ok (.ireturn, 1) := by decide +kernel
theorem dX4_daysTillOff_12 : decode cX4_daysTillOff 12 = .ok (.iconst 0, 1) := by decide +kernel
theorem dX4_daysTillOff_13 : decode cX4_daysTillOff 13 = .ok (.istore_n 2, 1) := by decide +kernel
theorem dX4_daysTillOff_14 : decode cX4_daysTillOff 14 = .ok (.iload_n 2, 1) := by decide +kernel
theorem dX4_daysTillOff_15 : decode cX4_daysTillOff 15 = .ok (.sipush 400, 3) := by decide +kernel
theorem dX4_daysTillOff_18 : decode cX4_daysTillOff 18 = .ok (.if_icmp .gt 28, 3) := by decide +kernel
theorem dX4_daysTillOff_21 : decode cX4_daysTillOff 21 = .ok (.aload_n 0, 1) := by decide +kernel
theorem dX4_daysTillOff_22 : decode cX4_daysTillOff 22 = .ok (.getfield 33, 3) := by decide +kernel
theorem dX4_daysTillOff_25 : decode cX4_daysTillOff 25 = .ok (.iload_n 1, 1) := by decide +kernel
theorem dX4_daysTillOff_26 : decode cX4_daysTillOff 26 = .ok (.aaload, 1) := by decide +kernel
theorem dX4_daysTillOff_27 : decode cX4_daysTillOff 27 = .ok (.getfield 65, 3) := by decide +kernel
theorem dX4_daysTillOff_30 : decode cX4_daysTillOff 30 = .ok (.iconst 1, 1) := by decide +kernel
theorem dX4_daysTillOff_31 : decode cX4_daysTillOff 31 = .ok (.if_icmp .ne 5, 3) := by decide +kernel
theorem dX4_daysTillOff_34 : decode cX4_daysTillOff 34 = .ok (.iload_n 2, 1) := by decide +kernel
theorem dX4_daysTillOff_35 : decode cX4_daysTillOff 35 = .ok (.ireturn, 1) := by decide +kernel
theorem dX4_daysTillOff_36 : decode cX4_daysTillOff 36 = .ok (.aload_n 0, 1) := by decide +kernel
theorem dX4_daysTillOff_37 : decode cX4_daysTillOff 37 = .ok (.invokevirtual 89, 3) := by decide +kernel
theorem dX4_daysTillOff_40 : decode cX4_daysTillOff 40 = .ok (.iinc 2 1, 3) := by decide +kernel
theorem dX4_daysTillOff_43 : decode cX4_daysTillOff 43 = .ok (.goto (-29), 3) := by decide +kernel
theorem dX4_daysTillOff_46 : decode cX4_daysTillOff 46 = .ok (.sipush 401, 3) := by decide +kernel
theorem dX4_daysTillOff_49 : decode cX4_daysTillOff 49 = .ok (.ireturn, 1) := by decide +kernel
theorem dX4_letsGo_0 : decode cX4_letsGo 0 = .ok (.aload_n 0, 1) := by decide +kernel
theorem dX4_letsGo_1 : decode cX4_letsGo 1 = .ok (.iload_n 1, 1) := by decide +kernel
theorem dX4_letsGo_2 : decode cX4_letsGo 2 = .ok (.invokevirtual 118, 3) := by decide +kernel
theorem dX4_letsGo_5 : decode cX4_letsGo 5 = .ok (.ifCond .ne 5, 3) := by decide +kernel
theorem dX4_letsGo_8 : decode cX4_letsGo 8 = .ok (.iconst 0, 1) := by decide +kernel
theorem dX4_letsGo_9 : decode cX4_letsGo 9 = .ok (.ireturn, 1) := by decide +kernel
theorem dX4_letsGo_10 : decode cX4_letsGo 10 = .ok (.aload_n 0, 1) := by decide +kernel
theorem dX4_letsGo_11 : decode cX4_letsGo 11 = .ok (.getfield 33, 3) := by decide +kernel
theorem dX4_letsGo_14 : decode cX4_letsGo 14 = .ok (.iload_n 1, 1) := by decide +kernel
theorem dX4_letsGo_15 : decode cX4_letsGo 15 = .ok (.aaload, 1) := by decide +kernel
theorem dX4_letsGo_16 : decode cX4_letsGo 16 = .ok (.getfield 79, 3) := by decide +kernel
theorem dX4_letsGo_19 : decode cX4_letsGo 19 = .ok (.istore_n 3, 1) := by decide +kernel
theorem dX4_letsGo_20 : decode cX4_letsGo 20 = .ok (.iconst 0, 1) := by decide +kernel
theorem dX4_letsGo_21 : decode cX4_letsGo 21 = .ok (.istore 4, 2) := by decide +kernel
theorem dX4_letsGo_23 : decode cX4_letsGo 23 = .ok (.iload 4, 2) := by decide +kernel
theorem dX4_letsGo_25 : decode cX4_letsGo 25 = .ok (.iload_n 2, 1) := by decide +kernel
theorem dX4_letsGo_26 : decode cX4_letsGo 26 = .ok (.if_icmp .ge 28, 3) := by decide +kernel
theorem dX4_letsGo_29 : decode cX4_letsGo 29 = .ok (.aload_n 0, 1) := by decide +kernel
theorem dX4_letsGo_30 : decode cX4_letsGo 30 = .ok (.invokevirtual 89, 3) := by decide +kernel
theorem dX4_letsGo_33 : decode cX4_letsGo 33 = .ok (.aload_n 0, 1) := by decide +kernel
theorem dX4_letsGo_34 : decode cX4_letsGo 34 = .ok (.getfield 33, 3) := by decide +kernel
theorem dX4_letsGo_37 : decode cX4_letsGo 37 = .ok (.iload_n 1, 1) := by decide +kernel
theorem dX4_letsGo_38 : decode cX4_letsGo 38 = .ok (.aaload, 1) := by decide +kernel
theorem dX4_letsGo_39 : decode cX4_letsGo 39 = .ok (.getfield 79, 3) := by decide +kernel
theorem dX4_letsGo_42 : decode cX4_letsGo 42 = .ok (.iload_n 3, 1) := by decide +kernel
theorem dX4_letsGo_43 : decode cX4_letsGo 43 = .ok (.if_icmp .le 5, 3) := by decide +kernel
theorem dX4_letsGo_46 : decode cX4_letsGo 46 = .ok (.iconst 0, 1) := by decide +kernel
theorem dX4_letsGo_47 : decode cX4_letsGo 47 = .ok (.ireturn, 1) := by decide +kernel
theorem dX4_letsGo_48 : decode cX4_letsGo 48 = .ok (.iinc 4 1, 3) := by decide +kernel
theorem dX4_letsGo_51 : decode cX4_letsGo 51 = .ok (.goto (-28), 3) := by decide +kernel
theorem dX4_letsGo_54 : decode cX4_letsGo 54 = .ok (.iconst 1, 1) := by decide +kernel
theorem dX4_letsGo_55 : decode cX4_letsGo 55 = .ok (.ireturn, 1) := by decide +kernel
theorem dX4_letsAllGo_0 : decode cX4_letsAllGo 0 = .ok (.aload_n 0, 1) := by decide +kernel
theorem dX4_letsAllGo_1 : decode cX4_letsAllGo 1 = .ok (.invokevirtual 122, 3) := by decide +kernel
theorem dX4_letsAllGo_4 : decode cX4_letsAllGo 4 = .ok (.istore_n 2, 1) := by decide +kernel
theorem dX4_letsAllGo_5 : decode cX4_letsAllGo 5 = .ok (.iconst 0, 1) := by decide +kernel
theorem dX4_letsAllGo_6 : decode cX4_letsAllGo 6 = .ok (.istore_n 3, 1) := by decide +kernel
theorem dX4_letsAllGo_7 : decode cX4_letsAllGo 7 = .ok (.iload_n 3, 1) := by decide +kernel
theorem dX4_letsAllGo_8 : decode cX4_letsAllGo 8 = .ok (.iload_n 1, 1) := by decide +kernel
theorem dX4_letsAllGo_9 : decode cX4_letsAllGo 9 = .ok (.if_icmp .ge 23, 3) := by decide +kernel
theorem dX4_letsAllGo_12 : decode cX4_letsAllGo 12 = .ok (.aload_n 0, 1) := by decide +kernel
theorem dX4_letsAllGo_13 : decode cX4_letsAllGo 13 = .ok (.invokevirtual 89, 3) := by decide +kernel
theorem dX4_letsAllGo_16 : decode cX4_letsAllGo 16 = .ok (.aload_n 0, 1) := by decide +kernel
theorem dX4_letsAllGo_17 : decode cX4_letsAllGo 17 = .ok (.invokevirtual 122, 3) := by decide +kernel
theorem dX4_letsAllGo_20 : decode cX4_letsAllGo 20 = .ok (.iload_n 2, 1) := by decide +kernel
theorem dX4_letsAllGo_21 : decode cX4_letsAllGo 21 = .ok (.if_icmp .le 5, 3) := by decide +kernel
theorem dX4_letsAllGo_24 : decode cX4_letsAllGo 24 = .ok (.iconst 0, 1) := by decide +kernel
theorem dX4_letsAllGo_25 : decode cX4_letsAllGo 25 = .ok (.ireturn, 1) := by decide +kernel
theorem dX4_letsAllGo_26 : decode cX4_letsAllGo 26 = .ok (.iinc 3 1, 3) := by decide +kernel
theorem dX4_letsAllGo_29 : decode cX4_letsAllGo 29 = .ok (.goto (-22), 3) := by decide +kernel
theorem dX4_letsAllGo_32 : decode cX4_letsAllGo 32 = .ok (.iconst 1, 1) := by decide +kernel
theorem dX4_letsAllGo_33 : decode cX4_letsAllGo 33 = .ok (.ireturn, 1) := by decide +kernel
theorem dX4_goesBy_0 : decode cX4_goesBy 0 = .ok (.iconst 0, 1) := by decide +kernel
theorem dX4_goesBy_1 : decode cX4_goesBy 1 = .ok (.istore_n 2, 1) := by decide +kernel
theorem dX4_goesBy_2 : decode cX4_goesBy 2 = .ok (.iload_n 2, 1) := by decide +kernel
theorem dX4_goesBy_3 : decode cX4_goesBy 3 = .ok (.aload_n 1, 1) := by decide +kernel
theorem dX4_goesBy_4 : decode cX4_goesBy 4 = .ok (.getfield 125, 3) := by decide +kernel
theorem dX4_goesBy_7 : decode cX4_goesBy 7 = .ok (.if_icmp .ge 30, 3) := by decide +kernel
theorem dX4_goesBy_10 : decode cX4_goesBy 10 = .ok (.aload_n 1, 1) := by decide +kernel
theorem dX4_goesBy_11 : decode cX4_goesBy 11 = .ok (.getfield 130, 3) := by decide +kernel
theorem dX4_goesBy_14 : decode cX4_goesBy 14 = .ok (.iload_n 2, 1) := by decide +kernel
theorem dX4_goesBy_15 : decode cX4_goesBy 15 = .ok (.laload, 1) := by decide +kernel
theorem dX4_goesBy_16 : decode cX4_goesBy 16 = .ok (.aload_n 0, 1) := by decide +kernel
theorem dX4_goesBy_17 : decode cX4_goesBy 17 = .ok (.getfield 15, 3) := by decide +kernel
theorem dX4_goesBy_20 : decode cX4_goesBy 20 = .ok (.i2l, 1) := by decide +kernel
theorem dX4_goesBy_21 : decode cX4_goesBy 21 = .ok (.lcmp, 1) := by decide +kernel
theorem dX4_goesBy_22 : decode cX4_goesBy 22 = .ok (.ifCond .eq 5, 3) := by decide +kernel
theorem dX4_goesBy_25 : decode cX4_goesBy 25 = .ok (.iconst 0, 1) := by decide +kernel
theorem dX4_goesBy_26 : decode cX4_goesBy 26 = .ok (.ireturn, 1) := by decide +kernel
theorem dX4_goesBy_27 : decode cX4_goesBy 27 = .ok (.aload_n 0, 1) := by decide +kernel
theorem dX4_goesBy_28 : decode cX4_goesBy 28 = .ok (.invokevirtual 89, 3) := by decide +kernel
theorem dX4_goesBy_31 : decode cX4_goesBy 31 = .ok (.iinc 2 1, 3) := by decide +kernel
theorem dX4_goesBy_34 : decode cX4_goesBy 34 = .ok (.goto (-32), 3) := by decide +kernel
theorem dX4_goesBy_37 : decode cX4_goesBy 37 = .ok (.iconst 1, 1) := by decide +kernel
theorem dX4_goesBy_38 : decode cX4_goesBy 38 = .ok (.ireturn, 1) := by decide +kernel
theorem dX5_init_0 : decode cX5_init 0 = .ok (.aload_n 0, 1) := by decide +kernel
theorem dX5_init_1 : decode cX5_init 1 = .ok (.invokespecial 1, 3) := by decide +kernel
theorem dX5_init_4 : decode cX5_init 4 = .ok (.aload_n 0, 1) := by decide +kernel
theorem dX5_init_5 : decode cX5_init 5 = .ok (.new 7, 3) := by decide +kernel
theorem dX5_init_8 : decode cX5_init 8 = .ok (.dup, 1) := by decide +kernel
theorem dX5_init_9 : decode cX5_init 9 = .ok (.invokespecial 9, 3) := by decide +kernel
theorem dX5_init_12 : decode cX5_init 12 = .ok (.putfield 10, 3) := by decide +kernel
theorem dX5_init_15 : decode cX5_init 15 = .ok (.aload_n 0, 1) := by decide +kernel
theorem dX5_init_16 : decode cX5_init 16 = .ok (.new 7, 3) := by decide +kernel
theorem dX5_init_19 : decode cX5_init 19 = .ok (.dup, 1) := by decide +kernel
theorem dX5_init_20 : decode cX5_init 20 = .ok (.invokespecial 9, 3) := by decide +kernel
theorem dX5_init_23 : decode cX5_init 23 = .ok (.putfield 16, 3) := by decide +kernel
theorem dX5_init_26 : decode cX5_init 26 = .ok (.aload_n 0, 1) := by decide +kernel
theorem dX5_init_27 : decode cX5_init 27 = .ok (.new 7, 3) := by decide +kernel
theorem dX5_init_30 : decode cX5_init 30 = .ok (.dup, 1) := by decide +kernel
theorem dX5_init_31 : decode cX5_init 31 = .ok (.invokespecial 9, 3) := by decide +kernel
theorem dX5_init_34 : decode cX5_init 34 = .ok (.putfield 19, 3) := by decide +kernel
theorem dX5_init_37 : decode cX5_init 37 = .ok (.aload_n 0, 1) := by decide +kernel
theorem dX5_init_38 : decode cX5_init 38 = .ok (.iconst 0, 1) := by decide +kernel
theorem dX5_init_39 : decode cX5_init 39 = .ok (.putfield 22, 3) := by decide +kernel
theorem dX5_init_42 : decode cX5_init 42 = .ok (.aload_n 0, 1) := by decide +kernel
theorem dX5_init_43 : decode cX5_init 43 = .ok (.new 26, 3) := by decide +kernel
theorem dX5_init_46 : decode cX5_init 46 = .ok (.dup, 1) := by decide +kernel
theorem dX5_init_47 : decode cX5_init 47 = .ok (.invokespecial 28, 3) := by decide +kernel
theorem dX5_init_50 : decode cX5_init 50 = .ok (.putfield 29, 3) := by decide +kernel
theorem dX5_init_53 : decode cX5_init 53 = .ok (.aload_n 0, 1) := by decide +kernel
theorem dX5_init_54 : decode cX5_init 54 = .ok (.new 33, 3) := by decide +kernel
theorem dX5_init_57 : decode cX5_init 57 = .ok (.dup, 1) := by decide +kernel
theorem dX5_init_58 : decode cX5_init 58 = .ok (.aload_n 0, 1) := by decide +kernel
theorem dX5_init_59 : decode cX5_init 59 = .ok (.getfield 29, 3) := by decide +kernel
theorem dX5_init_62 : decode cX5_init 62 = .ok (.invokespecial 35, 3) := by decide +kernel
theorem dX5_init_65 : decode cX5_init 65 = .ok (.putfield 38, 3) := by decide +kernel
theorem dX5_init_68 : decode cX5_init 68 = .ok (.aload_n 0, 1) := by decide +kernel
theorem dX5_init_69 : decode cX5_init 69 = .ok (.iconst 4, 1) := by decide +kernel
theorem dX5_init_70 : decode cX5_init 70 = .ok (.anewarray 42, 3) := by decide +kernel
theorem dX5_init_73 : decode cX5_init 73 = .ok (.dup, 1) := by decide +kernel
theorem dX5_init_74 : decode cX5_init 74 = .ok (.iconst 0, 1) := by decide +kernel
theorem dX5_init_75 : decode cX5_init 75 = .ok (.new 42, 3) := by decide +kernel
theorem dX5_init_78 : decode cX5_init 78 = .ok (.dup, 1) := by decide +kernel
theorem dX5_init_79 : decode cX5_init 79 = .ok (.invokespecial 44, 3) := by decide +kernel
theorem dX5_init_82 : decode cX5_init 82 = .ok (.aastore, 1) := by decide +kernel
theorem dX5_init_83 : decode cX5_init 83 = .ok (.dup, 1) := by decide +kernel
theorem dX5_init_84 : decode cX5_init 84 = .ok (.iconst 1, 1) := by decide +kernel
theorem dX5_init_85 : decode cX5_init 85 = .ok (.new 42, 3) := by decide +kernel
theorem dX5_init_88 : decode cX5_init 88 = .ok (.dup, 1) := by decide +kernel
theorem dX5_init_89 : decode cX5_init 89 = .ok (.invokespecial 44, 3) := by decide +kernel
theorem dX5_init_92 : decode cX5_init 92 = .ok (.aastore, 1) := by decide +kernel
theorem dX5_init_93 : decode cX5_init 93 = .ok (.dup, 1) := by decide +kernel
theorem dX5_init_94 : decode cX5_init 94 = .ok (.iconst 2, 1) := by decide +kernel
theorem dX5_init_95 : decode cX5_init 95 = .ok (.new 42, 3) := by decide +kernel
theorem dX5_init_98 : decode cX5_init 98 = .ok (.dup, 1) := by decide +kernel
theorem dX5_init_99 : decode cX5_init 99 = .ok (.invokespecial 44, 3) := by decide +kernel
theorem dX5_init_102 : decode cX5_init 102 = .ok (.aastore, 1) := by decide +kernel
theorem dX5_init_103 : decode cX5_init 103 = .ok (.dup, 1) := by decide +kernel
theorem dX5_init_104 : decode cX5_init 104 = .ok (.iconst 3, 1) := by decide +kernel
theorem dX5_init_105 : decode cX5_init 105 = .ok (.new 42, 3) := by decide +kernel
theorem dX5_init_108 : decode cX5_init 108 = .ok (.dup, 1) := by decide +kernel
theorem dX5_init_109 : decode cX5_init 109 = .ok (.invokespecial 44, 3) := by decide +kernel
theorem dX5_init_112 : decode cX5_init 112 = .ok (.aastore, 1) := by decide +kernel
theorem dX5_init_113 : decode cX5_init 113 = .ok (.putfield 45, 3) := by decide +kernel
theorem dX5_init_116 : decode cX5_init 116 = .ok (.aload_n 0, 1) := by decide +kernel
theorem dX5_init_117 : decode cX5_init 117 = .ok (.bipush 7, 2) := by decide +kernel
theorem dX5_init_119 : decode cX5_init 119 = .ok (.newarray .int, 2) := by decide +kernel
theorem dX5_init_121 : decode cX5_init 121 = .ok (.putfield 49, 3) := by decide +kernel
theorem dX5_init_124 : decode cX5_init 124 = .ok (.return_, 1) := by decide +kernel
theorem dX5_water_0 : decode cX5_water 0 = .ok (.iload_n 1, 1) := by decide +kernel
theorem dX5_water_1 : decode cX5_water 1 = .ok (.ifCond .lt 19, 3) := by decide +kernel
theorem dX5_water_4 : decode cX5_water 4 = .ok (.iload_n 1, 1) := by decide +kernel
theorem dX5_water_5 : decode cX5_water 5 = .ok (.iconst 2, 1) := by decide +kernel
theorem dX5_water_6 : decode cX5_water 6 = .ok (.if_icmp .gt 14, 3) := by decide +kernel
theorem dX5_water_9 : decode cX5_water 9 = .ok (.iload_n 2, 1) := by decide +kernel
theorem dX5_water_10 : decode cX5_water 10 = .ok (.ifCond .lt 10, 3) := by decide +kernel
theorem dX5_water_13 : decode cX5_water 13 = .ok (.iload_n 2, 1) := by decide +kernel
theorem dX5_water_14 : decode cX5_water 14 = .ok (.sipush 9999, 3) := by decide +kernel
theorem dX5_water_17 : decode cX5_water 17 = .ok (.if_icmp .le 10, 3) := by decide +kernel
theorem dX5_water_20 : decode cX5_water 20 = .ok (.aload_n 0, 1) := by decide +kernel
theorem dX5_water_21 : decode cX5_water 21 = .ok (.ldc 53, 2) := by decide +kernel
theorem dX5_water_23 : decode cX5_water 23 = .ok (.invokevirtual 54, 3) := by decide +kernel
theorem dX5_water_26 : decode cX5_water 26 = .ok (.ireturn, 1) := by decide +kernel
theorem dX5_water_27 : decode cX5_water 27 = .ok (.iload_n 1, 1) := by decide +kernel
theorem dX5_water_28 : decode cX5_water 28 = .ok (.ifCond .ne 22, 3) := by decide +kernel
theorem dX5_water_31 : decode cX5_water 31 = .ok (.aload_n 0, 1) := by decide +kernel
theorem dX5_water_32 : decode cX5_water 32 = .ok (.getfield 10, 3) := by decide +kernel
theorem dX5_water_35 : decode cX5_water 35 = .ok (.getfield 58, 3) := by decide +kernel
theorem dX5_water_38 : decode cX5_water 38 = .ok (.istore_n 3, 1) := by decide +kernel
theorem dX5_water_39 : decode cX5_water 39 = .ok (.aload_n 0, 1) := by decide +kernel
theorem dX5_water_40 : decode cX5_water 40 = .ok (.getfield 10, 3) := by decide +kernel
theorem dX5_water_43 : decode cX5_water 43 = .ok (.iload_n 2, 1) := by decide +kernel
theorem dX5_water_44 : decode cX5_water 44 = .ok (.putfield 58, 3) := by decide +kernel
theorem dX5_water_47 : decode cX5_water 47 = .ok (.goto 43, 3) := by decide +kernel
theorem dX5_water_50 : decode cX5_water 50 = .ok (.iload_n 1, 1) := by decide +kernel
theorem dX5_water_51 : decode cX5_water 51 = .ok (.iconst 1, 1) := by decide +kernel
theorem dX5_water_52 : decode cX5_water 52 = .ok (.if_icmp .ne 22, 3) := by decide +kernel
theorem dX5_water_55 : decode cX5_water 55 = .ok (.aload_n 0, 1) := by decide +kernel
theorem dX5_water_56 : decode cX5_water 56 = .ok (.getfield 10, 3) := by decide +kernel
theorem dX5_water_59 : decode cX5_water 59 = .ok (.getfield 62, 3) := by decide +kernel
theorem dX5_water_62 : decode cX5_water 62 = .ok (.istore_n 3, 1) := by decide +kernel
theorem dX5_water_63 : decode cX5_water 63 = .ok (.aload_n 0, 1) := by decide +kernel
theorem dX5_water_64 : decode cX5_water 64 = .ok (.getfield 10, 3) := by decide +kernel
theorem dX5_water_67 : decode cX5_water 67 = .ok (.iload_n 2, 1) := by decide +kernel
theorem dX5_water_68 : decode cX5_water 68 = .ok (.putfield 62, 3) := by decide +kernel
theorem dX5_water_71 : decode cX5_water 71 = .ok (.goto 19, 3) := by decide +kernel
theorem dX5_water_74 : decode cX5_water 74 = .ok (.aload_n 0, 1) := by decide +kernel
theorem dX5_water_75 : decode cX5_water 75 = .ok (.getfield 10, 3) := by decide +kernel
theorem dX5_water_78 : decode cX5_water 78 = .ok (.getfield 65, 3) := by decide +kernel
theorem dX5_water_81 : decode cX5_water 81 = .ok (.istore_n 3, 1) := by decide +kernel
theorem dX5_water_82 : decode cX5_water 82 = .ok (.aload_n 0, 1) := by decide +kernel
theorem dX5_water_83 : decode cX5_water 83 = .ok (.getfield 10, 3) := by decide +kernel
theorem dX5_water_86 : decode cX5_water 86 = .ok (.iload_n 2, 1) := by decide +kernel
theorem dX5_water_87 : decode cX5_water 87 = .ok (.putfield 65, 3) := by decide +kernel
theorem dX5_water_90 : decode cX5_water 90 = .ok (.iload_n 3, 1) := by decide +kernel
theorem dX5_water_91 : decode cX5_water 91 = .ok (.ireturn, 1) := by decide +kernel
theorem dX5_week_0 : decode cX5_week 0 = .ok (.iload_n 1, 1) := by decide +kernel
theorem dX5_week_1 : decode cX5_week 1 = .ok (.ifCond .lt 18, 3) := by decide +kernel
theorem dX5_week_4 : decode cX5_week 4 = .ok (.iload_n 1, 1) := by decide +kernel
theorem dX5_week_5 : decode cX5_week 5 = .ok (.bipush 8, 2) := by decide +kernel
theorem dX5_week_7 : decode cX5_week 7 = .ok (.if_icmp .ge 12, 3) := by decide +kernel
theorem dX5_week_10 : decode cX5_week 10 = .ok (.iload_n 2, 1) := by decide +kernel
theorem dX5_week_11 : decode cX5_week 11 = .ok (.ifCond .lt 8, 3) := by decide +kernel
theorem dX5_week_14 : decode cX5_week 14 = .ok (.iload_n 2, 1) := by decide +kernel
theorem dX5_week_15 : decode cX5_week 15 = .ok (.iconst 1, 1) := by decide +kernel
theorem dX5_week_16 : decode cX5_week 16 = .ok (.if_icmp .le 10, 3) := by decide +kernel
theorem dX5_week_19 : decode cX5_week 19 = .ok (.aload_n 0, 1) := by decide +kernel
theorem dX5_week_20 : decode cX5_week 20 = .ok (.ldc 53, 2) := by decide +kernel
theorem dX5_week_22 : decode cX5_week 22 = .ok (.invokevirtual 54, 3) := by decide +kernel
theorem dX5_week_25 : decode cX5_week 25 = .ok (.ireturn, 1) := by decide +kernel
theorem dX5_week_26 : decode cX5_week 26 = .ok (.iload_n 3, 1) := by decide +kernel
theorem dX5_week_27 : decode cX5_week 27 = .ok (.ifCond .lt 17, 3) := by decide +kernel
theorem dX5_week_30 : decode cX5_week 30 = .ok (.iload_n 3, 1) := by decide +kernel
theorem dX5_week_31 : decode cX5_week 31 = .ok (.iload_n 2, 1) := by decide +kernel
theorem dX5_week_32 : decode cX5_week 32 = .ok (.ifCond .ne 8, 3) := by decide +kernel
theorem dX5_week_35 : decode cX5_week 35 = .ok (.bipush 99, 2) := by decide +kernel
theorem dX5_week_37 : decode cX5_week 37 = .ok (.goto 4, 3) := by decide +kernel
theorem dX5_week_40 : decode cX5_week 40 = .ok (.iconst 1, 1) := by decide +kernel
theorem dX5_week_41 : decode cX5_week 41 = .ok (.if_icmp .le 10, 3) := by decide +kernel
theorem dX5_week_44 : decode cX5_week 44 = .ok (.aload_n 0, 1) := by decide +kernel
theorem dX5_week_45 : decode cX5_week 45 = .ok (.ldc 53, 2) := by decide +kernel
theorem dX5_week_47 : decode cX5_week 47 = .ok (.invokevirtual 54, 3) := by decide +kernel
theorem dX5_week_50 : decode cX5_week 50 = .ok (.ireturn, 1) := by decide +kernel
theorem dX5_week_51 : decode cX5_week 51 = .ok (.iload_n 2, 1) := by decide +kernel
theorem dX5_week_52 : decode cX5_week 52 = .ok (.ifCond .ne 13, 3) := by decide +kernel
theorem dX5_week_55 : decode cX5_week 55 = .ok (.aload_n 0, 1) := by decide +kernel
theorem dX5_week_56 : decode cX5_week 56 = .ok (.getfield 10, 3) := by decide +kernel
theorem dX5_week_59 : decode cX5_week 59 = .ok (.getfield 68, 3) := by decide +kernel
theorem dX5_week_62 : decode cX5_week 62 = .ok (.goto 10, 3) := by decide +kernel
theorem dX5_week_65 : decode cX5_week 65 = .ok (.aload_n 0, 1) := by decide +kernel
theorem dX5_week_66 : decode cX5_week 66 = .ok (.getfield 10, 3) := by decide +kernel
theorem dX5_week_69 : decode cX5_week 69 = .ok (.getfield 71, 3) := by decide +kernel
theorem dX5_week_72 : decode cX5_week 72 = .ok (.astore 4, 2) := by decide +kernel
theorem dX5_week_74 : decode cX5_week 74 = .ok (.aload 4, 2) := by decide +kernel
theorem dX5_week_76 : decode cX5_week 76 = .ok (.iload_n 1, 1) := by decide +kernel
theorem dX5_week_77 : decode cX5_week 77 = .ok (.iaload, 1) := by decide +kernel
theorem dX5_week_78 : decode cX5_week 78 = .ok (.istore 5, 2) := by decide +kernel
theorem dX5_week_80 : decode cX5_week 80 = .ok (.aload 4, 2) := by decide +kernel
theorem dX5_week_82 : decode cX5_week 82 = .ok (.iload_n 1, 1) := by decide +kernel
theorem dX5_week_83 : decode cX5_week 83 = .ok (.iload_n 3, 1) := by decide +kernel
theorem dX5_week_84 : decode cX5_week 84 = .ok (.iastore, 1) := by decide +kernel
theorem dX5_week_85 : decode cX5_week 85 = .ok (.iload 5, 2) := by decide +kernel
theorem dX5_week_87 : decode cX5_week 87 = .ok (.ireturn, 1) := by decide +kernel
theorem dX5_now_0 : decode cX5_now 0 = .ok (.iload_n 1, 1) := by decide +kernel
theorem dX5_now_1 : decode cX5_now 1 = .ok (.tableswitch 151 0 9 #[55, 63, 71, 79, 87, 95, 111, 127, 135, 143], 55) := by decide +kernel
theorem dX5_now_56 : decode cX5_now 56 = .ok (.aload_n 0, 1) := by decide +kernel
theorem dX5_now_57 : decode cX5_now 57 = .ok (.getfield 10, 3) := by decide +kernel
theorem dX5_now_60 : decode cX5_now 60 = .ok (.getfield 74, 3) := by decide +kernel
theorem dX5_now_63 : decode cX5_now 63 = .ok (.ireturn, 1) := by decide +kernel
theorem dX5_now_64 : decode cX5_now 64 = .ok (.aload_n 0, 1) := by decide +kernel
theorem dX5_now_65 : decode cX5_now 65 = .ok (.getfield 10, 3) := by decide +kernel
theorem dX5_now_68 : decode cX5_now 68 = .ok (.invokevirtual 77, 3) := by decide +kernel
theorem dX5_now_71 : decode cX5_now 71 = .ok (.ireturn, 1) := by decide +kernel
theorem dX5_now_72 : decode cX5_now 72 = .ok (.aload_n 0, 1) := by decide +kernel
theorem dX5_now_73 : decode cX5_now 73 = .ok (.getfield 10, 3) := by decide +kernel
theorem dX5_now_76 : decode cX5_now 76 = .ok (.getfield 58, 3) := by decide +kernel
theorem dX5_now_79 : decode cX5_now 79 = .ok (.ireturn, 1) := by decide +kernel
theorem dX5_now_80 : decode cX5_now 80 = .ok (.aload_n 0, 1) := by decide +kernel
theorem dX5_now_81 : decode cX5_now 81 = .ok (.getfield 10, 3) := by decide +kernel
theorem dX5_now_84 : decode cX5_now 84 = .ok (.getfield 62, 3) := by decide +kernel
theorem dX5_now_87 : decode cX5_now 87 = .ok (.ireturn, 1) := by decide +kernel
theorem dX5_now_88 : decode cX5_now 88 = .ok (.aload_n 0, 1) := by decide +kernel
theorem dX5_now_89 : decode cX5_now 89 = .ok (.getfield 10, 3) := by decide +kernel
theorem dX5_now_92 : decode cX5_now 92 = .ok (.getfield 65, 3) := by decide +kernel
theorem dX5_now_95 : decode cX5_now 95 = .ok (.ireturn, 1) := by decide +kernel
theorem dX5_now_96 : decode cX5_now 96 = .ok (.aload_n 0, 1) := by decide +kernel
theorem dX5_now_97 : decode cX5_now 97 = .ok (.getfield 10, 3) := by decide +kernel
theorem dX5_now_100 : decode cX5_now 100 = .ok (.getfield 68, 3) := by decide +kernel
theorem dX5_now_103 : decode cX5_now 103 = .ok (.aload_n 0, 1) := by decide +kernel
theorem dX5_now_104 : decode cX5_now 104 = .ok (.getfield 10, 3) := by decide +kernel
theorem dX5_now_107 : decode cX5_now 107 = .ok (.invokevirtual 77, 3) := by decide +kernel
theorem dX5_now_110 : decode cX5_now 110 = .ok (.iaload, 1) := by decide +kernel
theorem dX5_now_111 : decode cX5_now 111 = .ok (.ireturn, 1) := by decide +kernel
theorem dX5_now_112 : decode cX5_now 112 = .ok (.aload_n 0, 1) := by decide +kernel
theorem dX5_now_113 : decode cX5_now 113 = .ok (.getfield 10, 3) := by decide +kernel
theorem dX5_now_116 : decode cX5_now 116 = .ok (.getfield 71, 3) := by decide +kernel
theorem dX5_now_119 : decode cX5_now 119 = .ok (.aload_n 0, 1) := by decide +kernel
theorem dX5_now_120 : decode cX5_now 120 = .ok (.getfield 10, 3) := by decide +kernel
theorem dX5_now_123 : decode cX5_now 123 = .ok (.invokevirtual 77, 3) := by decide +kernel
theorem dX5_now_126 : decode cX5_now 126 = .ok (.iaload, 1) := by decide +kernel
theorem dX5_now_127 : decode cX5_now 127 = .ok (.ireturn, 1) := by decide +kernel
theorem dX5_now_128 : decode cX5_now 128 = .ok (.aload_n 0, 1) := by decide +kernel
theorem dX5_now_129 : decode cX5_now 129 = .ok (.getfield 10, 3) := by decide +kernel
theorem dX5_now_132 : decode cX5_now 132 = .ok (.invokevirtual 81, 3) := by decide +kernel
theorem dX5_now_135 : decode cX5_now 135 = .ok (.ireturn, 1) := by decide +kernel
theorem dX5_now_136 : decode cX5_now 136 = .ok (.aload_n 0, 1) := by decide +kernel
theorem dX5_now_137 : decode cX5_now 137 = .ok (.getfield 10, 3) := by decide +kernel
theorem dX5_now_140 : decode cX5_now 140 = .ok (.invokevirtual 84, 3) := by decide +kernel
theorem dX5_now_143 : decode cX5_now 143 = .ok (.ireturn, 1) := by decide +kernel
theorem dX5_now_144 : decode cX5_now 144 = .ok (.aload_n 0, 1) := by decide +kernel
theorem dX5_now_145 : decode cX5_now 145 = .ok (.getfield 10, 3) := by decide +kernel
theorem dX5_now_148 : decode cX5_now 148 = .ok (.invokevirtual 87, 3) := by decide +kernel
theorem dX5_now_151 : decode cX5_now 151 = .ok (.ireturn, 1) := by decide +kernel
theorem dX5_now_152 : decode cX5_now 152 = .ok (.aload_n 0, 1) := by decide +kernel
theorem dX5_now_153 : decode cX5_now 153 = .ok (.ldc 53, 2) := by decide +kernel
theorem dX5_now_155 : decode cX5_now 155 = .ok (.invokevirtual 54, 3) := by decide +kernel
theorem dX5_now_158 : decode cX5_now 158 = .ok (.ireturn, 1) := by decide +kernel
theorem dX5_fountain_0 : decode cX5_fountain 0 = .ok (.iload_n 1, 1) := by decide +kernel
theorem dX5_fountain_1 : decode cX5_fountain 1 = .ok (.invokestatic 90, 3) := by decide +kernel
theorem dX5_fountain_4 : decode cX5_fountain 4 = .ok (.ifCond .ne 10, 3) := by decide +kernel
theorem dX5_fountain_7 : decode cX5_fountain 7 = .ok (.aload_n 0, 1) := by decide +kernel
theorem dX5_fountain_8 : decode cX5_fountain 8 = .ok (.ldc 53, 2) := by decide +kernel
theorem dX5_fountain_10 : decode cX5_fountain 10 = .ok (.invokevirtual 54, 3) := by decide +kernel
theorem dX5_fountain_13 : decode cX5_fountain 13 = .ok (.ireturn, 1) := by decide +kernel
theorem dX5_fountain_14 : decode cX5_fountain 14 = .ok (.aload_n 0, 1) := by decide +kernel
theorem dX5_fountain_15 : decode cX5_fountain 15 = .ok (.getfield 10, 3) := by decide +kernel
theorem dX5_fountain_18 : decode cX5_fountain 18 = .ok (.getfield 94, 3) := by decide +kernel
theorem dX5_fountain_21 : decode cX5_fountain 21 = .ok (.bipush 8, 2) := by decide +kernel
theorem dX5_fountain_23 : decode cX5_fountain 23 = .ok (.if_icmp .lt 10, 3) := by decide +kernel
theorem dX5_fountain_26 : decode cX5_fountain 26 = .ok (.aload_n 0, 1) := by decide +kernel
theorem dX5_fountain_27 : decode cX5_fountain 27 = .ok (.ldc 97, 2) := by decide +kernel
theorem dX5_fountain_29 : decode cX5_fountain 29 = .ok (.invokevirtual 54, 3) := by decide +kernel
theorem dX5_fountain_32 : decode cX5_fountain 32 = .ok (.ireturn, 1) := by decide +kernel
theorem dX5_fountain_33 : decode cX5_fountain 33 = .ok (.aload_n 0, 1) := by decide +kernel
theorem dX5_fountain_34 : decode cX5_fountain 34 = .ok (.getfield 10, 3) := by decide +kernel
theorem dX5_fountain_37 : decode cX5_fountain 37 = .ok (.iload_n 1, 1) := by decide +kernel
theorem dX5_fountain_38 : decode cX5_fountain 38 = .ok (.invokevirtual 98, 3) := by decide +kernel
theorem dX5_fountain_41 : decode cX5_fountain 41 = .ok (.ireturn, 1) := by decide +kernel
theorem dX5_of_0 : decode cX5_of 0 = .ok (.aload_n 0, 1) := by decide +kernel
theorem dX5_of_1 : decode cX5_of 1 = .ok (.getfield 10, 3) := by decide +kernel
theorem dX5_of_4 : decode cX5_of 4 = .ok (.iload_n 1, 1) := by decide +kernel
theorem dX5_of_5 : decode cX5_of 5 = .ok (.invokevirtual 101, 3) := by decide +kernel
theorem dX5_of_8 : decode cX5_of 8 = .ok (.ifCond .ne 10, 3) := by decide +kernel
theorem dX5_of_11 : decode cX5_of 11 = .ok (.aload_n 0, 1) := by decide +kernel
theorem dX5_of_12 : decode cX5_of 12 = .ok (.ldc 53, 2) := by decide +kernel
theorem dX5_of_14 : decode cX5_of 14 = .ok (.invokevirtual 54, 3) := by decide +kernel
theorem dX5_of_17 : decode cX5_of 17 = .ok (.ireturn, 1) := by decide +kernel
theorem dX5_of_18 : decode cX5_of 18 = .ok (.aload_n 0, 1) := by decide +kernel
theorem dX5_of_19 : decode cX5_of 19 = .ok (.getfield 10, 3) := by decide +kernel
theorem dX5_of_22 : decode cX5_of 22 = .ok (.getfield 104, 3) := by decide +kernel
theorem dX5_of_25 : decode cX5_of 25 = .ok (.iload_n 1, 1) := by decide +kernel
theorem dX5_of_26 : decode cX5_of 26 = .ok (.aaload, 1) := by decide +kernel
theorem dX5_of_27 : decode cX5_of 27 = .ok (.astore_n 3, 1) := by decide +kernel
theorem dX5_of_28 : decode cX5_of 28 = .ok (.aload_n 0, 1) := by decide +kernel
theorem dX5_of_29 : decode cX5_of 29 = .ok (.getfield 10, 3) := by decide +kernel
theorem dX5_of_32 : decode cX5_of 32 = .ok (.invokevirtual 108, 3) := by decide +kernel
theorem dX5_of_35 : decode cX5_of 35 = .ok (.istore 4, 2) := by decide +kernel
theorem dX5_of_37 : decode cX5_of 37 = .ok (.iload_n 2, 1) := by decide +kernel
theorem dX5_of_38 : decode cX5_of 38 = .ok (.tableswitch 106 0 8 #[50, 55, 60, 65, 70, 75, 82, 87, 97], 50) := by decide +kernel
theorem dX5_of_88 : decode cX5_of 88 = .ok (.aload_n 3, 1) := by decide +kernel
theorem dX5_of_89 : decode cX5_of 89 = .ok (.getfield 112, 3) := by decide +kernel
theorem dX5_of_92 : decode cX5_of 92 = .ok (.ireturn, 1) := by decide +kernel
theorem dX5_of_93 : decode cX5_of 93 = .ok (.aload_n 3, 1) := by decide +kernel
theorem dX5_of_94 : decode cX5_of 94 = .ok (.getfield 117, 3) := by decide +kernel
theorem dX5_of_97 : decode cX5_of 97 = .ok (.ireturn, 1) := by decide +kernel
theorem dX5_of_98 : decode cX5_of 98 = .ok (.aload_n 3, 1) := by decide +kernel
theorem dX5_of_99 : decode cX5_of 99 = .ok (.getfield 120, 3) := by decide +kernel
theorem dX5_of_102 : decode cX5_of 102 = .ok (.ireturn, 1) := by decide +kernel
theorem dX5_of_103 : decode cX5_of 103 = .ok (.aload_n 3, 1) := by decide +kernel
theorem dX5_of_104 : decode cX5_of 104 = .ok (.getfield 123, 3) := by decide +kernel
theorem dX5_of_107 : decode cX5_of 107 = .ok (.ireturn, 1) := by decide +kernel
theorem dX5_of_108 : decode cX5_of 108 = .ok (.aload_n 3, 1) := by decide +kernel
theorem dX5_of_109 : decode cX5_of 109 = .ok (.getfield 126, 3) := by decide +kernel
theorem dX5_of_112 : decode cX5_of 112 = .ok (.ireturn, 1) := by decide +kernel
theorem dX5_of_113 : decode cX5_of 113 = .ok (.aload_n 3, 1) := by decide +kernel
theorem dX5_of_114 : decode cX5_of 114 = .ok (.iload 4, 2) := by decide +kernel
theorem dX5_of_116 : decode cX5_of 116 = .ok (.invokevirtual 129, 3) := by decide +kernel
theorem dX5_of_119 : decode cX5_of 119 = .ok (.ireturn, 1) := by decide +kernel
theorem dX5_of_120 : decode cX5_of 120 = .ok (.aload_n 3, 1) := by decide +kernel
theorem dX5_of_121 : decode cX5_of 121 = .ok (.invokevirtual 133, 3) := by decide +kernel
theorem dX5_of_124 : decode cX5_of 124 = .ok (.ireturn, 1) := by decide +kernel
theorem dX5_of_125 : decode cX5_of 125 = .ok (.bipush 100, 2) := by decide +kernel
theorem dX5_of_127 : decode cX5_of 127 = .ok (.aload_n 3, 1) := by decide +kernel
theorem dX5_of_128 : decode cX5_of 128 = .ok (.iload 4, 2) := by decide +kernel
theorem dX5_of_130 : decode cX5_of 130 = .ok (.invokevirtual 136, 3) := by decide +kernel
theorem dX5_of_133 : decode cX5_of 133 = .ok (.iadd, 1) := by decide +kernel
theorem dX5_of_134 : decode cX5_of 134 = .ok (.ireturn, 1) := by decide +kernel
theorem dX5_of_135 : decode cX5_of 135 = .ok (.sipush 1000, 3) := by decide +kernel
theorem dX5_of_138 : decode cX5_of 138 = .ok (.aload_n 3, 1) := by decide +kernel
theorem dX5_of_139 : decode cX5_of 139 = .ok (.invokevirtual 139, 3) := by decide +kernel
theorem dX5_of_142 : decode cX5_of 142 = .ok (.iadd, 1) := by decide +kernel
theorem dX5_of_143 : decode cX5_of 143 = .ok (.ireturn, 1) := by decide +kernel
theorem dX5_of_144 : decode cX5_of 144 = .ok (.aload_n 0, 1) := by decide +kernel
theorem dX5_of_145 : decode cX5_of 145 = .ok (.ldc 53, 2) := by decide +kernel
theorem dX5_of_147 : decode cX5_of 147 = .ok (.invokevirtual 54, 3) := by decide +kernel
theorem dX5_of_150 : decode cX5_of 150 = .ok (.ireturn, 1) := by decide +kernel
theorem dX5_set_0 : decode cX5_set 0 = .ok (.aload_n 0, 1) := by decide +kernel
theorem dX5_set_1 : decode cX5_set 1 = .ok (.getfield 10, 3) := by decide +kernel
theorem dX5_set_4 : decode cX5_set 4 = .ok (.iload_n 1, 1) := by decide +kernel
theorem dX5_set_5 : decode cX5_set 5 = .ok (.invokevirtual 101, 3) := by decide +kernel
theorem dX5_set_8 : decode cX5_set 8 = .ok (.ifCond .eq 11, 3) := by decide +kernel
theorem dX5_set_11 : decode cX5_set 11 = .ok (.iload_n 2, 1) := by decide +kernel
theorem dX5_set_12 : decode cX5_set 12 = .ok (.iload_n 3, 1) := by decide +kernel
theorem dX5_set_13 : decode cX5_set 13 = .ok (.invokestatic 142, 3) := by decide +kernel
theorem dX5_set_16 : decode cX5_set 16 = .ok (.ifCond .ne 10, 3) := by decide +kernel
theorem dX5_set_19 : decode cX5_set 19 = .ok (.aload_n 0, 1) := by decide +kernel
theorem dX5_set_20 : decode cX5_set 20 = .ok (.ldc 53, 2) := by decide +kernel
theorem dX5_set_22 : decode cX5_set 22 = .ok (.invokevirtual 54, 3) := by decide +kernel
theorem dX5_set_25 : decode cX5_set 25 = .ok (.ireturn, 1) := by decide +kernel
theorem dX5_set_26 : decode cX5_set 26 = .ok (.aload_n 0, 1) := by decide +kernel
theorem dX5_set_27 : decode cX5_set 27 = .ok (.getfield 10, 3) := by decide +kernel
theorem dX5_set_30 : decode cX5_set 30 = .ok (.getfield 104, 3) := by decide +kernel
theorem dX5_set_33 : decode cX5_set 33 = .ok (.iload_n 1, 1) := by decide +kernel
theorem dX5_set_34 : decode cX5_set 34 = .ok (.aaload, 1) := by decide +kernel
theorem dX5_set_35 : decode cX5_set 35 = .ok (.astore 4, 2) := by decide +kernel
theorem dX5_set_37 : decode cX5_set 37 = .ok (.iload_n 2, 1) := by decide +kernel
theorem dX5_set_38 : decode cX5_set 38 = .ok (.iconst 1, 1) := by decide +kernel
theorem dX5_set_39 : decode cX5_set 39 = .ok (.if_icmp .ne 19, 3) := by decide +kernel
theorem dX5_set_42 : decode cX5_set 42 = .ok (.aload 4, 2) := by decide +kernel
theorem dX5_set_44 : decode cX5_set 44 = .ok (.getfield 117, 3) := by decide +kernel
theorem dX5_set_47 : decode cX5_set 47 = .ok (.istore 5, 2) := by decide +kernel
theorem dX5_set_49 : decode cX5_set 49 = .ok (.aload 4, 2) := by decide +kernel
theorem dX5_set_51 : decode cX5_set 51 = .ok (.iload_n 3, 1) := by decide +kernel
theorem dX5_set_52 : decode cX5_set 52 = .ok (.putfield 117, 3) := by decide +kernel
theorem dX5_set_55 : decode cX5_set 55 = .ok (.goto 58, 3) := by decide +kernel
theorem dX5_set_58 : decode cX5_set 58 = .ok (.iload_n 2, 1) := by decide +kernel
theorem dX5_set_59 : decode cX5_set 59 = .ok (.iconst 2, 1) := by decide +kernel
theorem dX5_set_60 : decode cX5_set 60 = .ok (.if_icmp .ne 19, 3) := by decide +kernel
theorem dX5_set_63 : decode cX5_set 63 = .ok (.aload 4, 2) := by decide +kernel
theorem dX5_set_65 : decode cX5_set 65 = .ok (.getfield 120, 3) := by decide +kernel
theorem dX5_set_68 : decode cX5_set 68 = .ok (.istore 5, 2) := by decide +kernel
theorem dX5_set_70 : decode cX5_set 70 = .ok (.aload 4, 2) := by decide +kernel
theorem dX5_set_72 : decode cX5_set 72 = .ok (.iload_n 3, 1) := by decide +kernel
theorem dX5_set_73 : decode cX5_set 73 = .ok (.putfield 120, 3) := by decide +kernel
theorem dX5_set_76 : decode cX5_set 76 = .ok (.goto 37, 3) := by decide +kernel
theorem dX5_set_79 : decode cX5_set 79 = .ok (.iload_n 2, 1) := by decide +kernel
theorem dX5_set_80 : decode cX5_set 80 = .ok (.iconst 3, 1) := by decide +kernel
theorem dX5_set_81 : decode cX5_set 81 = .ok (.if_icmp .ne 19, 3) := by decide +kernel
theorem dX5_set_84 : decode cX5_set 84 = .ok (.aload 4, 2) := by decide +kernel
theorem dX5_set_86 : decode cX5_set 86 = .ok (.getfield 123, 3) := by decide +kernel
theorem dX5_set_89 : decode cX5_set 89 = .ok (.istore 5, 2) := by decide +kernel
theorem dX5_set_91 : decode cX5_set 91 = .ok (.aload 4, 2) := by decide +kernel
theorem dX5_set_93 : decode cX5_set 93 = .ok (.iload_n 3, 1) := by decide +kernel
theorem dX5_set_94 : decode cX5_set 94 = .ok (.putfield 123, 3) := by decide +kernel
theorem dX5_set_97 : decode cX5_set 97 = .ok (.goto 16, 3) := by decide +kernel
theorem dX5_set_100 : decode cX5_set 100 = .ok (.aload 4, 2) := by decide +kernel
theorem dX5_set_102 : decode cX5_set 102 = .ok (.getfield 126, 3) := by decide +kernel
theorem dX5_set_105 : decode cX5_set 105 = .ok (.istore 5, 2) := by decide +kernel
theorem dX5_set_107 : decode cX5_set 107 = .ok (.aload 4, 2) := by decide +kernel
theorem dX5_set_109 : decode cX5_set 109 = .ok (.iload_n 3, 1) := by decide +kernel
theorem dX5_set_110 : decode cX5_set 110 = .ok (.putfield 126, 3) := by decide +kernel
theorem dX5_set_113 : decode cX5_set 113 = .ok (.iload 5, 2) := by decide +kernel
theorem dX5_set_115 : decode cX5_set 115 = .ok (.ireturn, 1) := by decide +kernel
theorem dX5_turn_0 : decode cX5_turn 0 = .ok (.aload_n 0, 1) := by decide +kernel
theorem dX5_turn_1 : decode cX5_turn 1 = .ok (.getfield 10, 3) := by decide +kernel
theorem dX5_turn_4 : decode cX5_turn 4 = .ok (.iload_n 1, 1) := by decide +kernel
theorem dX5_turn_5 : decode cX5_turn 5 = .ok (.invokevirtual 101, 3) := by decide +kernel
theorem dX5_turn_8 : decode cX5_turn 8 = .ok (.ifCond .eq 10, 3) := by decide +kernel
theorem dX5_turn_11 : decode cX5_turn 11 = .ok (.iload_n 2, 1) := by decide +kernel
theorem dX5_turn_12 : decode cX5_turn 12 = .ok (.invokestatic 90, 3) := by decide +kernel
theorem dX5_turn_15 : decode cX5_turn 15 = .ok (.ifCond .ne 10, 3) := by decide +kernel
theorem dX5_turn_18 : decode cX5_turn 18 = .ok (.aload_n 0, 1) := by decide +kernel
theorem dX5_turn_19 : decode cX5_turn 19 = .ok (.ldc 53, 2) := by decide +kernel
theorem dX5_turn_21 : decode cX5_turn 21 = .ok (.invokevirtual 54, 3) := by decide +kernel
theorem dX5_turn_24 : decode cX5_turn 24 = .ok (.ireturn, 1) := by decide +kernel
theorem dX5_turn_25 : decode cX5_turn 25 = .ok (.aload_n 0, 1) := by decide +kernel
theorem dX5_turn_26 : decode cX5_turn 26 = .ok (.getfield 10, 3) := by decide +kernel
theorem dX5_turn_29 : decode cX5_turn 29 = .ok (.getfield 104, 3) := by decide +kernel
theorem dX5_turn_32 : decode cX5_turn 32 = .ok (.iload_n 1, 1) := by decide +kernel
theorem dX5_turn_33 : decode cX5_turn 33 = .ok (.aaload, 1) := by decide +kernel
theorem dX5_turn_34 : decode cX5_turn 34 = .ok (.astore_n 3, 1) := by decide +kernel
theorem dX5_turn_35 : decode cX5_turn 35 = .ok (.aload_n 3, 1) := by decide +kernel
theorem dX5_turn_36 : decode cX5_turn 36 = .ok (.getfield 112, 3) := by decide +kernel
theorem dX5_turn_39 : decode cX5_turn 39 = .ok (.istore 4, 2) := by decide +kernel
theorem dX5_turn_41 : decode cX5_turn 41 = .ok (.aload_n 3, 1) := by decide +kernel
theorem dX5_turn_42 : decode cX5_turn 42 = .ok (.iload_n 2, 1) := by decide +kernel
theorem dX5_turn_43 : decode cX5_turn 43 = .ok (.putfield 112, 3) := by decide +kernel
theorem dX5_turn_46 : decode cX5_turn 46 = .ok (.iload 4, 2) := by decide +kernel
theorem dX5_turn_48 : decode cX5_turn 48 = .ok (.ireturn, 1) := by decide +kernel
theorem dX5_as_0 : decode cX5_as 0 = .ok (.aload_n 0, 1) := by decide +kernel
theorem dX5_as_1 : decode cX5_as 1 = .ok (.getfield 10, 3) := by decide +kernel
theorem dX5_as_4 : decode cX5_as 4 = .ok (.iload_n 1, 1) := by decide +kernel
theorem dX5_as_5 : decode cX5_as 5 = .ok (.invokevirtual 101, 3) := by decide +kernel
theorem dX5_as_8 : decode cX5_as 8 = .ok (.ifCond .eq 10, 3) := by decide +kernel
theorem dX5_as_11 : decode cX5_as 11 = .ok (.iload_n 2, 1) := by decide +kernel
theorem dX5_as_12 : decode cX5_as 12 = .ok (.invokestatic 90, 3) := by decide +kernel
theorem dX5_as_15 : decode cX5_as 15 = .ok (.ifCond .ne 10, 3) := by decide +kernel
theorem dX5_as_18 : decode cX5_as 18 = .ok (.aload_n 0, 1) := by decide +kernel
theorem dX5_as_19 : decode cX5_as 19 = .ok (.ldc 53, 2) := by decide +kernel
theorem dX5_as_21 : decode cX5_as 21 = .ok (.invokevirtual 54, 3) := by decide +kernel
theorem dX5_as_24 : decode cX5_as 24 = .ok (.ireturn, 1) := by decide +kernel
theorem dX5_as_25 : decode cX5_as 25 = .ok (.aload_n 0, 1) := by decide +kernel
theorem dX5_as_26 : decode cX5_as 26 = .ok (.getfield 10, 3) := by decide +kernel
theorem dX5_as_29 : decode cX5_as 29 = .ok (.getfield 104, 3) := by decide +kernel
theorem dX5_as_32 : decode cX5_as 32 = .ok (.iload_n 1, 1) := by decide +kernel
theorem dX5_as_33 : decode cX5_as 33 = .ok (.aaload, 1) := by decide +kernel
theorem dX5_as_34 : decode cX5_as 34 = .ok (.astore_n 3, 1) := by decide +kernel
theorem dX5_as_35 : decode cX5_as 35 = .ok (.aload_n 3, 1) := by decide +kernel
theorem dX5_as_36 : decode cX5_as 36 = .ok (.getfield 112, 3) := by decide +kernel
theorem dX5_as_39 : decode cX5_as 39 = .ok (.iload_n 2, 1) := by decide +kernel
theorem dX5_as_40 : decode cX5_as 40 = .ok (.invokestatic 146, 3) := by decide +kernel
theorem dX5_as_43 : decode cX5_as 43 = .ok (.ifCond .eq 10, 3) := by decide +kernel
theorem dX5_as_46 : decode cX5_as 46 = .ok (.aload_n 3, 1) := by decide +kernel
theorem dX5_as_47 : decode cX5_as 47 = .ok (.getfield 123, 3) := by decide +kernel
theorem dX5_as_50 : decode cX5_as 50 = .ok (.goto 9, 3) := by decide +kernel
theorem dX5_as_53 : decode cX5_as 53 = .ok (.aload_n 0, 1) := by decide +kernel
theorem dX5_as_54 : decode cX5_as 54 = .ok (.ldc 149, 2) := by decide +kernel
theorem dX5_as_56 : decode cX5_as 56 = .ok (.invokevirtual 54, 3) := by decide +kernel
theorem dX5_as_59 : decode cX5_as 59 = .ok (.ireturn, 1) := by decide +kernel
theorem dX5_next_0 : decode cX5_next 0 = .ok (.aload_n 0, 1) := by decide +kernel
theorem dX5_next_1 : decode cX5_next 1 = .ok (.getfield 10, 3) := by decide +kernel
theorem dX5_next_4 : decode cX5_next 4 = .ok (.invokevirtual 150, 3) := by decide +kernel
theorem dX5_next_7 : decode cX5_next 7 = .ok (.istore_n 1, 1) := by decide +kernel
theorem dX5_next_8 : decode cX5_next 8 = .ok (.iload_n 1, 1) := by decide +kernel
theorem dX5_next_9 : decode cX5_next 9 = .ok (.iconst (-1), 1) := by decide +kernel
theorem dX5_next_10 : decode cX5_next 10 = .ok (.if_icmp .ne 12, 3) := by decide +kernel
theorem dX5_next_13 : decode cX5_next 13 = .ok (.aload_n 0, 1) := by decide +kernel
theorem dX5_next_14 : decode cX5_next 14 = .ok (.ldc 153, 2) := by decide +kernel
theorem dX5_next_16 : decode cX5_next 16 = .ok (.invokevirtual 54, 3) := by decide +kernel
theorem dX5_next_19 : decode cX5_next 19 = .ok (.goto 4, 3) := by decide +kernel
theorem dX5_next_22 : decode cX5_next 22 = .ok (.iload_n 1, 1) := by decide +kernel
theorem dX5_next_23 : decode cX5_next 23 = .ok (.ireturn, 1) := by decide +kernel
theorem dX5_days_0 : decode cX5_days 0 = .ok (.iload_n 1, 1) := by decide +kernel
theorem dX5_days_1 : decode cX5_days 1 = .ok (.invokestatic 154, 3) := by decide +kernel
theorem dX5_days_4 : decode cX5_days 4 = .ok (.ifCond .ne 10, 3) := by decide +kernel
theorem dX5_days_7 : decode cX5_days 7 = .ok (.aload_n 0, 1) := by decide +kernel
theorem dX5_days_8 : decode cX5_days 8 = .ok (.ldc 53, 2) := by decide +kernel
theorem dX5_days_10 : decode cX5_days 10 = .ok (.invokevirtual 54, 3) := by decide +kernel
theorem dX5_days_13 : decode cX5_days 13 = .ok (.ireturn, 1) := by decide +kernel
theorem dX5_days_14 : decode cX5_days 14 = .ok (.aload_n 0, 1) := by decide +kernel
theorem dX5_days_15 : decode cX5_days 15 = .ok (.getfield 10, 3) := by decide +kernel
theorem dX5_days_18 : decode cX5_days 18 = .ok (.getfield 74, 3) := by decide +kernel
theorem dX5_days_21 : decode cX5_days 21 = .ok (.iload_n 1, 1) := by decide +kernel
theorem dX5_days_22 : decode cX5_days 22 = .ok (.iadd, 1) := by decide +kernel
theorem dX5_days_23 : decode cX5_days 23 = .ok (.ldc 157, 2) := by decide +kernel
theorem dX5_days_25 : decode cX5_days 25 = .ok (.if_icmp .le 10, 3) := by decide +kernel
theorem dX5_days_28 : decode cX5_days 28 = .ok (.aload_n 0, 1) := by decide +kernel
theorem dX5_days_29 : decode cX5_days 29 = .ok (.ldc 158, 2) := by decide +kernel
theorem dX5_days_31 : decode cX5_days 31 = .ok (.invokevirtual 54, 3) := by decide +kernel
theorem dX5_days_34 : decode cX5_days 34 = .ok (.ireturn, 1) := by decide +kernel
theorem dX5_days_35 : decode cX5_days 35 = .ok (.aload_n 0, 1) := by decide +kernel
theorem dX5_days_36 : decode cX5_days 36 = .ok (.getfield 10, 3) := by decide +kernel
theorem dX5_days_39 : decode cX5_days 39 = .ok (.iload_n 1, 1) := by decide +kernel
theorem dX5_days_40 : decode cX5_days 40 = .ok (.invokevirtual 159, 3) := by decide +kernel
theorem dX5_days_43 : decode cX5_days 43 = .ok (.aload_n 0, 1) := by decide +kernel
theorem dX5_days_44 : decode cX5_days 44 = .ok (.getfield 10, 3) := by decide +kernel
theorem dX5_days_47 : decode cX5_days 47 = .ok (.getfield 58, 3) := by decide +kernel
theorem dX5_days_50 : decode cX5_days 50 = .ok (.ireturn, 1) := by decide +kernel
theorem dX5_on_0 : decode cX5_on 0 = .ok (.iload_n 1, 1) := by decide +kernel
theorem dX5_on_1 : decode cX5_on 1 = .ok (.invokestatic 163, 3) := by decide +kernel
theorem dX5_on_4 : decode cX5_on 4 = .ok (.ifCond .eq 12, 3) := by decide +kernel
theorem dX5_on_7 : decode cX5_on 7 = .ok (.iload_n 2, 1) := by decide +kernel
theorem dX5_on_8 : decode cX5_on 8 = .ok (.ifCond .lt 8, 3) := by decide +kernel
theorem dX5_on_11 : decode cX5_on 11 = .ok (.iload_n 2, 1) := by decide +kernel
theorem dX5_on_12 : decode cX5_on 12 = .ok (.iconst 2, 1) := by decide +kernel
theorem dX5_on_13 : decode cX5_on 13 = .ok (.if_icmp .le 10, 3) := by decide +kernel
theorem dX5_on_16 : decode cX5_on 16 = .ok (.aload_n 0, 1) := by decide +kernel
theorem dX5_on_17 : decode cX5_on 17 = .ok (.ldc 53, 2) := by decide +kernel
theorem dX5_on_19 : decode cX5_on 19 = .ok (.invokevirtual 54, 3) := by decide +kernel
theorem dX5_on_22 : decode cX5_on 22 = .ok (.ireturn, 1) := by decide +kernel
theorem dX5_on_23 : decode cX5_on 23 = .ok (.aload_n 0, 1) := by decide +kernel
theorem dX5_on_24 : decode cX5_on 24 = .ok (.getfield 16, 3) := by decide +kernel
theorem dX5_on_27 : decode cX5_on 27 = .ok (.aload_n 0, 1) := by decide +kernel
theorem dX5_on_28 : decode cX5_on 28 = .ok (.getfield 10, 3) := by decide +kernel
theorem dX5_on_31 : decode cX5_on 31 = .ok (.invokevirtual 166, 3) := by decide +kernel
theorem dX5_on_34 : decode cX5_on 34 = .ok (.aload_n 0, 1) := by decide +kernel
theorem dX5_on_35 : decode cX5_on 35 = .ok (.getfield 16, 3) := by decide +kernel
theorem dX5_on_38 : decode cX5_on 38 = .ok (.iload_n 1, 1) := by decide +kernel
theorem dX5_on_39 : decode cX5_on 39 = .ok (.invokevirtual 159, 3) := by decide +kernel
theorem dX5_on_42 : decode cX5_on 42 = .ok (.iload_n 2, 1) := by decide +kernel
theorem dX5_on_43 : decode cX5_on 43 = .ok (.ifCond .ne 11, 3) := by decide +kernel
theorem dX5_on_46 : decode cX5_on 46 = .ok (.aload_n 0, 1) := by decide +kernel
theorem dX5_on_47 : decode cX5_on 47 = .ok (.getfield 16, 3) := by decide +kernel
theorem dX5_on_50 : decode cX5_on 50 = .ok (.getfield 58, 3) := by decide +kernel
theorem dX5_on_53 : decode cX5_on 53 = .ok (.ireturn, 1) := by decide +kernel
theorem dX5_on_54 : decode cX5_on 54 = .ok (.iload_n 2, 1) := by decide +kernel
theorem dX5_on_55 : decode cX5_on 55 = .ok (.iconst 1, 1) := by decide +kernel
theorem dX5_on_56 : decode cX5_on 56 = .ok (.if_icmp .ne 13, 3) := by decide +kernel
theorem dX5_on_59 : decode cX5_on 59 = .ok (.aload_n 0, 1) := by decide +kernel
theorem dX5_on_60 : decode cX5_on 60 = .ok (.getfield 16, 3) := by decide +kernel
theorem dX5_on_63 : decode cX5_on 63 = .ok (.invokevirtual 84, 3) := by decide +kernel
theorem dX5_on_66 : decode cX5_on 66 = .ok (.goto 10, 3) := by decide +kernel
theorem dX5_on_69 : decode cX5_on 69 = .ok (.aload_n 0, 1) := by decide +kernel
theorem dX5_on_70 : decode cX5_on 70 = .ok (.getfield 16, 3) := by decide +kernel
theorem dX5_on_73 : decode cX5_on 73 = .ok (.invokevirtual 81, 3) := by decide +kernel
theorem dX5_on_76 : decode cX5_on 76 = .ok (.ireturn, 1) := by decide +kernel
theorem dX5_then_0 : decode cX5_then 0 = .ok (.aload_n 0, 1) := by decide +kernel
theorem dX5_then_1 : decode cX5_then 1 = .ok (.getfield 10, 3) := by decide +kernel
theorem dX5_then_4 : decode cX5_then 4 = .ok (.iload_n 1, 1) := by decide +kernel
theorem dX5_then_5 : decode cX5_then 5 = .ok (.invokevirtual 101, 3) := by decide +kernel
theorem dX5_then_8 : decode cX5_then 8 = .ok (.ifCond .eq 19, 3) := by decide +kernel
theorem dX5_then_11 : decode cX5_then 11 = .ok (.iload_n 2, 1) := by decide +kernel
theorem dX5_then_12 : decode cX5_then 12 = .ok (.invokestatic 163, 3) := by decide +kernel
theorem dX5_then_15 : decode cX5_then 15 = .ok (.ifCond .eq 12, 3) := by decide +kernel
theorem dX5_then_18 : decode cX5_then 18 = .ok (.iload_n 3, 1) := by decide +kernel
theorem dX5_then_19 : decode cX5_then 19 = .ok (.ifCond .lt 8, 3) := by decide +kernel
theorem dX5_then_22 : decode cX5_then 22 = .ok (.iload_n 3, 1) := by decide +kernel
theorem dX5_then_23 : decode cX5_then 23 = .ok (.iconst 2, 1) := by decide +kernel
theorem dX5_then_24 : decode cX5_then 24 = .ok (.if_icmp .le 10, 3) := by decide +kernel
theorem dX5_then_27 : decode cX5_then 27 = .ok (.aload_n 0, 1) := by decide +kernel
theorem dX5_then_28 : decode cX5_then 28 = .ok (.ldc 53, 2) := by decide +kernel
theorem dX5_then_30 : decode cX5_then 30 = .ok (.invokevirtual 54, 3) := by decide +kernel
theorem dX5_then_33 : decode cX5_then 33 = .ok (.ireturn, 1) := by decide +kernel
theorem dX5_then_34 : decode cX5_then 34 = .ok (.aload_n 0, 1) := by decide +kernel
theorem dX5_then_35 : decode cX5_then 35 = .ok (.getfield 16, 3) := by decide +kernel
theorem dX5_then_38 : decode cX5_then 38 = .ok (.aload_n 0, 1) := by decide +kernel
theorem dX5_then_39 : decode cX5_then 39 = .ok (.getfield 10, 3) := by decide +kernel
theorem dX5_then_42 : decode cX5_then 42 = .ok (.invokevirtual 166, 3) := by decide +kernel
theorem dX5_then_45 : decode cX5_then 45 = .ok (.aload_n 0, 1) := by decide +kernel
theorem dX5_then_46 : decode cX5_then 46 = .ok (.getfield 16, 3) := by decide +kernel
theorem dX5_then_49 : decode cX5_then 49 = .ok (.iload_n 2, 1) := by decide +kernel
theorem dX5_then_50 : decode cX5_then 50 = .ok (.invokevirtual 159, 3) := by decide +kernel
theorem dX5_then_53 : decode cX5_then 53 = .ok (.aload_n 0, 1) := by decide +kernel
theorem dX5_then_54 : decode cX5_then 54 = .ok (.getfield 16, 3) := by decide +kernel
theorem dX5_then_57 : decode cX5_then 57 = .ok (.getfield 104, 3) := by decide +kernel
theorem dX5_then_60 : decode cX5_then 60 = .ok (.iload_n 1, 1) := by decide +kernel
theorem dX5_then_61 : decode cX5_then 61 = .ok (.aaload, 1) := by decide +kernel
theorem dX5_then_62 : decode cX5_then 62 = .ok (.astore 4, 2) := by decide +kernel
theorem dX5_then_64 : decode cX5_then 64 = .ok (.iload_n 3, 1) := by decide +kernel
theorem dX5_then_65 : decode cX5_then 65 = .ok (.ifCond .ne 9, 3) := by decide +kernel
theorem dX5_then_68 : decode cX5_then 68 = .ok (.aload 4, 2) := by decide +kernel
theorem dX5_then_70 : decode cX5_then 70 = .ok (.getfield 120, 3) := by decide +kernel
theorem dX5_then_73 : decode cX5_then 73 = .ok (.ireturn, 1) := by decide +kernel
theorem dX5_then_74 : decode cX5_then 74 = .ok (.iload_n 3, 1) := by decide +kernel
theorem dX5_then_75 : decode cX5_then 75 = .ok (.iconst 1, 1) := by decide +kernel
theorem dX5_then_76 : decode cX5_then 76 = .ok (.if_icmp .ne 11, 3) := by decide +kernel
theorem dX5_then_79 : decode cX5_then 79 = .ok (.aload 4, 2) := by decide +kernel
theorem dX5_then_81 : decode cX5_then 81 = .ok (.getfield 123, 3) := by decide +kernel
theorem dX5_then_84 : decode cX5_then 84 = .ok (.goto 8, 3) := by decide +kernel
theorem dX5_then_87 : decode cX5_then 87 = .ok (.aload 4, 2) := by decide +kernel
theorem dX5_then_89 : decode cX5_then 89 = .ok (.getfield 126, 3) := by decide +kernel
theorem dX5_then_92 : decode cX5_then 92 = .ok (.ireturn, 1) := by decide +kernel
theorem dX5_falls_0 : decode cX5_falls 0 = .ok (.iload_n 1, 1) := by decide +kernel
theorem dX5_falls_1 : decode cX5_falls 1 = .ok (.ifCond .lt 10, 3) := by decide +kernel
theorem dX5_falls_4 : decode cX5_falls 4 = .ok (.iload_n 1, 1) := by decide +kernel
theorem dX5_falls_5 : decode cX5_falls 5 = .ok (.sipush 9999, 3) := by decide +kernel
theorem dX5_falls_8 : decode cX5_falls 8 = .ok (.if_icmp .le 10, 3) := by decide +kernel
theorem dX5_falls_11 : decode cX5_falls 11 = .ok (.aload_n 0, 1) := by decide +kernel
theorem dX5_falls_12 : decode cX5_falls 12 = .ok (.ldc 53, 2) := by decide +kernel
theorem dX5_falls_14 : decode cX5_falls 14 = .ok (.invokevirtual 54, 3) := by decide +kernel
theorem dX5_falls_17 : decode cX5_falls 17 = .ok (.ireturn, 1) := by decide +kernel
theorem dX5_falls_18 : decode cX5_falls 18 = .ok (.aload_n 0, 1) := by decide +kernel
theorem dX5_falls_19 : decode cX5_falls 19 = .ok (.getfield 16, 3) := by decide +kernel
theorem dX5_falls_22 : decode cX5_falls 22 = .ok (.aload_n 0, 1) := by decide +kernel
theorem dX5_falls_23 : decode cX5_falls 23 = .ok (.getfield 10, 3) := by decide +kernel
theorem dX5_falls_26 : decode cX5_falls 26 = .ok (.invokevirtual 166, 3) := by decide +kernel
theorem dX5_falls_29 : decode cX5_falls 29 = .ok (.iconst 0, 1) := by decide +kernel
theorem dX5_falls_30 : decode cX5_falls 30 = .ok (.istore_n 2, 1) := by decide +kernel
theorem dX5_falls_31 : decode cX5_falls 31 = .ok (.iload_n 2, 1) := by decide +kernel
theorem dX5_falls_32 : decode cX5_falls 32 = .ok (.sipush 400, 3) := by decide +kernel
theorem dX5_falls_35 : decode cX5_falls 35 = .ok (.if_icmp .gt 29, 3) := by decide +kernel
theorem dX5_falls_38 : decode cX5_falls 38 = .ok (.aload_n 0, 1) := by decide +kernel
theorem dX5_falls_39 : decode cX5_falls 39 = .ok (.getfield 16, 3) := by decide +kernel
theorem dX5_falls_42 : decode cX5_falls 42 = .ok (.getfield 58, 3) := by decide +kernel
theorem dX5_falls_45 : decode cX5_falls 45 = .ok (.iload_n 1, 1) := by decide +kernel
theorem dX5_falls_46 : decode cX5_falls 46 = .ok (.if_icmp .gt 5, 3) := by decide +kernel
theorem dX5_falls_49 : decode cX5_falls 49 = .ok (.iload_n 2, 1) := by decide +kernel
theorem dX5_falls_50 : decode cX5_falls 50 = .ok (.ireturn, 1) := by decide +kernel
theorem dX5_falls_51 : decode cX5_falls 51 = .ok (.aload_n 0, 1) := by decide +kernel
theorem dX5_falls_52 : decode cX5_falls 52 = .ok (.getfield 16, 3) := by decide +kernel
theorem dX5_falls_55 : decode cX5_falls 55 = .ok (.invokevirtual 170, 3) := by decide +kernel
theorem dX5_falls_58 : decode cX5_falls 58 = .ok (.iinc 2 1, 3) := by decide +kernel
theorem dX5_falls_61 : decode cX5_falls 61 = .ok (.goto (-30), 3) := by decide +kernel
theorem dX5_falls_64 : decode cX5_falls 64 = .ok (.aload_n 0, 1) := by decide +kernel
theorem dX5_falls_65 : decode cX5_falls 65 = .ok (.ldc 153, 2) := by decide +kernel
theorem dX5_falls_67 : decode cX5_falls 67 = .ok (.invokevirtual 54, 3) := by decide +kernel
theorem dX5_falls_70 : decode cX5_falls 70 = .ok (.ireturn, 1) := by decide +kernel
theorem dX5_off_0 : decode cX5_off 0 = .ok (.aload_n 0, 1) := by decide +kernel
theorem dX5_off_1 : decode cX5_off 1 = .ok (.getfield 10, 3) := by decide +kernel
theorem dX5_off_4 : decode cX5_off 4 = .ok (.iload_n 1, 1) := by decide +kernel
theorem dX5_off_5 : decode cX5_off 5 = .ok (.invokevirtual 101, 3) := by decide +kernel
theorem dX5_off_8 : decode cX5_off 8 = .ok (.ifCond .ne 10, 3) := by decide +kernel
theorem dX5_off_11 : decode cX5_off 11 = .ok (.aload_n 0, 1) := by decide +kernel
theorem dX5_off_12 : decode cX5_off 12 = .ok (.ldc 53, 2) := by decide +kernel
theorem dX5_off_14 : decode cX5_off 14 = .ok (.invokevirtual 54, 3) := by decide +kernel
theorem dX5_off_17 : decode cX5_off 17 = .ok (.ireturn, 1) := by decide +kernel
theorem dX5_off_18 : decode cX5_off 18 = .ok (.aload_n 0, 1) := by decide +kernel
theorem dX5_off_19 : decode cX5_off 19 = .ok (.getfield 16, 3) := by decide +kernel
theorem dX5_off_22 : decode cX5_off 22 = .ok (.aload_n 0, 1) := by decide +kernel
theorem dX5_off_23 : decode cX5_off 23 = .ok (.getfield 10, 3) := by decide +kernel
theorem dX5_off_26 : decode cX5_off 26 = .ok (.invokevirtual 166, 3) := by decide +kernel
theorem dX5_off_29 : decode cX5_off 29 = .ok (.aload_n 0, 1) := by decide +kernel
theorem dX5_off_30 : decode cX5_off 30 = .ok (.getfield 16, 3) := by decide +kernel
end
section
theorem dX5_off_33 : decode cX5_off 33 = .ok (.iload_n 1, 1) := by decide +kernel
theorem dX5_off_34 : decode cX5_off 34 = .ok (.invokevirtual 173, 3) := by decide +kernel
theorem dX5_off_37 : decode cX5_off 37 = .ok (.istore_n 2, 1) := by decide +kernel
theorem dX5_off_38 : decode cX5_off 38 = .ok (.iload_n 2, 1) := by decide +kernel
theorem dX5_off_39 : decode cX5_off 39 = .ok (.sipush 400, 3) := by decide +kernel
theorem dX5_off_42 : decode cX5_off 42 = .ok (.if_icmp .le 12, 3) := by decide +kernel
theorem dX5_off_45 : decode cX5_off 45 = .ok (.aload_n 0, 1) := by decide +kernel
theorem dX5_off_46 : decode cX5_off 46 = .ok (.ldc 153, 2) := by decide +kernel
theorem dX5_off_48 : decode cX5_off 48 = .ok (.invokevirtual 54, 3) := by decide +kernel
theorem dX5_off_51 : decode cX5_off 51 = .ok (.goto 4, 3) := by decide +kernel
theorem dX5_off_54 : decode cX5_off 54 = .ok (.iload_n 2, 1) := by decide +kernel
theorem dX5_off_55 : decode cX5_off 55 = .ok (.ireturn, 1) := by decide +kernel
theorem dX5_quiet_0 : decode cX5_quiet 0 = .ok (.aload_n 0, 1) := by decide +kernel
theorem dX5_quiet_1 : decode cX5_quiet 1 = .ok (.getfield 16, 3) := by decide +kernel
theorem dX5_quiet_4 : decode cX5_quiet 4 = .ok (.aload_n 0, 1) := by decide +kernel
theorem dX5_quiet_5 : decode cX5_quiet 5 = .ok (.getfield 10, 3) := by decide +kernel
theorem dX5_quiet_8 : decode cX5_quiet 8 = .ok (.invokevirtual 166, 3) := by decide +kernel
theorem dX5_quiet_11 : decode cX5_quiet 11 = .ok (.iconst 0, 1) := by decide +kernel
theorem dX5_quiet_12 : decode cX5_quiet 12 = .ok (.istore_n 1, 1) := by decide +kernel
theorem dX5_quiet_13 : decode cX5_quiet 13 = .ok (.iload_n 1, 1) := by decide +kernel
theorem dX5_quiet_14 : decode cX5_quiet 14 = .ok (.sipush 400, 3) := by decide +kernel
theorem dX5_quiet_17 : decode cX5_quiet 17 = .ok (.if_icmp .gt 28, 3) := by decide +kernel
theorem dX5_quiet_20 : decode cX5_quiet 20 = .ok (.aload_n 0, 1) := by decide +kernel
theorem dX5_quiet_21 : decode cX5_quiet 21 = .ok (.getfield 16, 3) := by decide +kernel
theorem dX5_quiet_24 : decode cX5_quiet 24 = .ok (.invokevirtual 84, 3) := by decide +kernel
theorem dX5_quiet_27 : decode cX5_quiet 27 = .ok (.ifCond .ne 5, 3) := by decide +kernel
theorem dX5_quiet_30 : decode cX5_quiet 30 = .ok (.iload_n 1, 1) := by decide +kernel
theorem dX5_quiet_31 : decode cX5_quiet 31 = .ok (.ireturn, 1) := by decide +kernel
theorem dX5_quiet_32 : decode cX5_quiet 32 = .ok (.aload_n 0, 1) := by decide +kernel
theorem dX5_quiet_33 : decode cX5_quiet 33 = .ok (.getfield 16, 3) := by decide +kernel
theorem dX5_quiet_36 : decode cX5_quiet 36 = .ok (.invokevirtual 170, 3) := by decide +kernel
theorem dX5_quiet_39 : decode cX5_quiet 39 = .ok (.iinc 1 1, 3) := by decide +kernel
theorem dX5_quiet_42 : decode cX5_quiet 42 = .ok (.goto (-29), 3) := by decide +kernel
theorem dX5_quiet_45 : decode cX5_quiet 45 = .ok (.aload_n 0, 1) := by decide +kernel
theorem dX5_quiet_46 : decode cX5_quiet 46 = .ok (.ldc 153, 2) := by decide +kernel
theorem dX5_quiet_48 : decode cX5_quiet 48 = .ok (.invokevirtual 54, 3) := by decide +kernel
theorem dX5_quiet_51 : decode cX5_quiet 51 = .ok (.ireturn, 1) := by decide +kernel
theorem dX5_best_0 : decode cX5_best 0 = .ok (.iload_n 1, 1) := by decide +kernel
theorem dX5_best_1 : decode cX5_best 1 = .ok (.invokestatic 154, 3) := by decide +kernel
theorem dX5_best_4 : decode cX5_best 4 = .ok (.ifCond .ne 10, 3) := by decide +kernel
theorem dX5_best_7 : decode cX5_best 7 = .ok (.aload_n 0, 1) := by decide +kernel
theorem dX5_best_8 : decode cX5_best 8 = .ok (.ldc 53, 2) := by decide +kernel
theorem dX5_best_10 : decode cX5_best 10 = .ok (.invokevirtual 54, 3) := by decide +kernel
theorem dX5_best_13 : decode cX5_best 13 = .ok (.ireturn, 1) := by decide +kernel
theorem dX5_best_14 : decode cX5_best 14 = .ok (.iconst (-1), 1) := by decide +kernel
theorem dX5_best_15 : decode cX5_best 15 = .ok (.istore_n 2, 1) := by decide +kernel
theorem dX5_best_16 : decode cX5_best 16 = .ok (.iconst (-1), 1) := by decide +kernel
theorem dX5_best_17 : decode cX5_best 17 = .ok (.istore_n 3, 1) := by decide +kernel
theorem dX5_best_18 : decode cX5_best 18 = .ok (.iconst 0, 1) := by decide +kernel
theorem dX5_best_19 : decode cX5_best 19 = .ok (.istore 4, 2) := by decide +kernel
theorem dX5_best_21 : decode cX5_best 21 = .ok (.iload 4, 2) := by decide +kernel
theorem dX5_best_23 : decode cX5_best 23 = .ok (.aload_n 0, 1) := by decide +kernel
theorem dX5_best_24 : decode cX5_best 24 = .ok (.getfield 10, 3) := by decide +kernel
theorem dX5_best_27 : decode cX5_best 27 = .ok (.getfield 94, 3) := by decide +kernel
theorem dX5_best_30 : decode cX5_best 30 = .ok (.if_icmp .ge 80, 3) := by decide +kernel
theorem dX5_best_33 : decode cX5_best 33 = .ok (.aload_n 0, 1) := by decide +kernel
theorem dX5_best_34 : decode cX5_best 34 = .ok (.getfield 10, 3) := by decide +kernel
theorem dX5_best_37 : decode cX5_best 37 = .ok (.getfield 104, 3) := by decide +kernel
theorem dX5_best_40 : decode cX5_best 40 = .ok (.iload 4, 2) := by decide +kernel
theorem dX5_best_42 : decode cX5_best 42 = .ok (.aaload, 1) := by decide +kernel
theorem dX5_best_43 : decode cX5_best 43 = .ok (.getfield 120, 3) := by decide +kernel
theorem dX5_best_46 : decode cX5_best 46 = .ok (.ifCond .ne 58, 3) := by decide +kernel
theorem dX5_best_49 : decode cX5_best 49 = .ok (.aload_n 0, 1) := by decide +kernel
theorem dX5_best_50 : decode cX5_best 50 = .ok (.getfield 16, 3) := by decide +kernel
theorem dX5_best_53 : decode cX5_best 53 = .ok (.aload_n 0, 1) := by decide +kernel
theorem dX5_best_54 : decode cX5_best 54 = .ok (.getfield 10, 3) := by decide +kernel
theorem dX5_best_57 : decode cX5_best 57 = .ok (.invokevirtual 166, 3) := by decide +kernel
theorem dX5_best_60 : decode cX5_best 60 = .ok (.aload_n 0, 1) := by decide +kernel
theorem dX5_best_61 : decode cX5_best 61 = .ok (.getfield 16, 3) := by decide +kernel
theorem dX5_best_64 : decode cX5_best 64 = .ok (.getfield 104, 3) := by decide +kernel
theorem dX5_best_67 : decode cX5_best 67 = .ok (.iload 4, 2) := by decide +kernel
theorem dX5_best_69 : decode cX5_best 69 = .ok (.aaload, 1) := by decide +kernel
theorem dX5_best_70 : decode cX5_best 70 = .ok (.iconst 1, 1) := by decide +kernel
theorem dX5_best_71 : decode cX5_best 71 = .ok (.putfield 120, 3) := by decide +kernel
theorem dX5_best_74 : decode cX5_best 74 = .ok (.aload_n 0, 1) := by decide +kernel
theorem dX5_best_75 : decode cX5_best 75 = .ok (.getfield 16, 3) := by decide +kernel
theorem dX5_best_78 : decode cX5_best 78 = .ok (.iload_n 1, 1) := by decide +kernel
theorem dX5_best_79 : decode cX5_best 79 = .ok (.invokevirtual 159, 3) := by decide +kernel
theorem dX5_best_82 : decode cX5_best 82 = .ok (.aload_n 0, 1) := by decide +kernel
theorem dX5_best_83 : decode cX5_best 83 = .ok (.getfield 16, 3) := by decide +kernel
theorem dX5_best_86 : decode cX5_best 86 = .ok (.getfield 58, 3) := by decide +kernel
theorem dX5_best_89 : decode cX5_best 89 = .ok (.iload_n 3, 1) := by decide +kernel
theorem dX5_best_90 : decode cX5_best 90 = .ok (.if_icmp .le 14, 3) := by decide +kernel
theorem dX5_best_93 : decode cX5_best 93 = .ok (.aload_n 0, 1) := by decide +kernel
theorem dX5_best_94 : decode cX5_best 94 = .ok (.getfield 16, 3) := by decide +kernel
theorem dX5_best_97 : decode cX5_best 97 = .ok (.getfield 58, 3) := by decide +kernel
theorem dX5_best_100 : decode cX5_best 100 = .ok (.istore_n 3, 1) := by decide +kernel
theorem dX5_best_101 : decode cX5_best 101 = .ok (.iload 4, 2) := by decide +kernel
theorem dX5_best_103 : decode cX5_best 103 = .ok (.istore_n 2, 1) := by decide +kernel
theorem dX5_best_104 : decode cX5_best 104 = .ok (.iinc 4 1, 3) := by decide +kernel
theorem dX5_best_107 : decode cX5_best 107 = .ok (.goto (-86), 3) := by decide +kernel
theorem dX5_best_110 : decode cX5_best 110 = .ok (.iload_n 2, 1) := by decide +kernel
theorem dX5_best_111 : decode cX5_best 111 = .ok (.iconst (-1), 1) := by decide +kernel
theorem dX5_best_112 : decode cX5_best 112 = .ok (.if_icmp .ne 12, 3) := by decide +kernel
theorem dX5_best_115 : decode cX5_best 115 = .ok (.aload_n 0, 1) := by decide +kernel
theorem dX5_best_116 : decode cX5_best 116 = .ok (.ldc 153, 2) := by decide +kernel
theorem dX5_best_118 : decode cX5_best 118 = .ok (.invokevirtual 54, 3) := by decide +kernel
theorem dX5_best_121 : decode cX5_best 121 = .ok (.goto 4, 3) := by decide +kernel
theorem dX5_best_124 : decode cX5_best 124 = .ok (.iload_n 2, 1) := by decide +kernel
theorem dX5_best_125 : decode cX5_best 125 = .ok (.ireturn, 1) := by decide +kernel
theorem dX5_high_0 : decode cX5_high 0 = .ok (.aload_n 0, 1) := by decide +kernel
theorem dX5_high_1 : decode cX5_high 1 = .ok (.getfield 10, 3) := by decide +kernel
theorem dX5_high_4 : decode cX5_high 4 = .ok (.iload_n 1, 1) := by decide +kernel
theorem dX5_high_5 : decode cX5_high 5 = .ok (.invokevirtual 101, 3) := by decide +kernel
theorem dX5_high_8 : decode cX5_high 8 = .ok (.ifCond .eq 10, 3) := by decide +kernel
theorem dX5_high_11 : decode cX5_high 11 = .ok (.iload_n 2, 1) := by decide +kernel
theorem dX5_high_12 : decode cX5_high 12 = .ok (.invokestatic 154, 3) := by decide +kernel
theorem dX5_high_15 : decode cX5_high 15 = .ok (.ifCond .ne 10, 3) := by decide +kernel
theorem dX5_high_18 : decode cX5_high 18 = .ok (.aload_n 0, 1) := by decide +kernel
theorem dX5_high_19 : decode cX5_high 19 = .ok (.ldc 53, 2) := by decide +kernel
theorem dX5_high_21 : decode cX5_high 21 = .ok (.invokevirtual 54, 3) := by decide +kernel
theorem dX5_high_24 : decode cX5_high 24 = .ok (.ireturn, 1) := by decide +kernel
theorem dX5_high_25 : decode cX5_high 25 = .ok (.bipush 40, 2) := by decide +kernel
theorem dX5_high_27 : decode cX5_high 27 = .ok (.istore_n 3, 1) := by decide +kernel
theorem dX5_high_28 : decode cX5_high 28 = .ok (.iload_n 3, 1) := by decide +kernel
theorem dX5_high_29 : decode cX5_high 29 = .ok (.iconst 1, 1) := by decide +kernel
theorem dX5_high_30 : decode cX5_high 30 = .ok (.if_icmp .lt 47, 3) := by decide +kernel
theorem dX5_high_33 : decode cX5_high 33 = .ok (.aload_n 0, 1) := by decide +kernel
theorem dX5_high_34 : decode cX5_high 34 = .ok (.getfield 16, 3) := by decide +kernel
theorem dX5_high_37 : decode cX5_high 37 = .ok (.aload_n 0, 1) := by decide +kernel
theorem dX5_high_38 : decode cX5_high 38 = .ok (.getfield 10, 3) := by decide +kernel
theorem dX5_high_41 : decode cX5_high 41 = .ok (.invokevirtual 166, 3) := by decide +kernel
theorem dX5_high_44 : decode cX5_high 44 = .ok (.aload_n 0, 1) := by decide +kernel
theorem dX5_high_45 : decode cX5_high 45 = .ok (.getfield 16, 3) := by decide +kernel
theorem dX5_high_48 : decode cX5_high 48 = .ok (.getfield 104, 3) := by decide +kernel
theorem dX5_high_51 : decode cX5_high 51 = .ok (.iload_n 1, 1) := by decide +kernel
theorem dX5_high_52 : decode cX5_high 52 = .ok (.aaload, 1) := by decide +kernel
theorem dX5_high_53 : decode cX5_high 53 = .ok (.iload_n 3, 1) := by decide +kernel
theorem dX5_high_54 : decode cX5_high 54 = .ok (.putfield 117, 3) := by decide +kernel
theorem dX5_high_57 : decode cX5_high 57 = .ok (.aload_n 0, 1) := by decide +kernel
theorem dX5_high_58 : decode cX5_high 58 = .ok (.getfield 16, 3) := by decide +kernel
theorem dX5_high_61 : decode cX5_high 61 = .ok (.iload_n 1, 1) := by decide +kernel
theorem dX5_high_62 : decode cX5_high 62 = .ok (.iload_n 2, 1) := by decide +kernel
theorem dX5_high_63 : decode cX5_high 63 = .ok (.invokevirtual 176, 3) := by decide +kernel
theorem dX5_high_66 : decode cX5_high 66 = .ok (.ifCond .eq 5, 3) := by decide +kernel
theorem dX5_high_69 : decode cX5_high 69 = .ok (.iload_n 3, 1) := by decide +kernel
theorem dX5_high_70 : decode cX5_high 70 = .ok (.ireturn, 1) := by decide +kernel
theorem dX5_high_71 : decode cX5_high 71 = .ok (.iinc 3 (-1), 3) := by decide +kernel
theorem dX5_high_74 : decode cX5_high 74 = .ok (.goto (-46), 3) := by decide +kernel
theorem dX5_high_77 : decode cX5_high 77 = .ok (.aload_n 0, 1) := by decide +kernel
theorem dX5_high_78 : decode cX5_high 78 = .ok (.ldc 153, 2) := by decide +kernel
theorem dX5_high_80 : decode cX5_high 80 = .ok (.invokevirtual 54, 3) := by decide +kernel
theorem dX5_high_83 : decode cX5_high 83 = .ok (.ireturn, 1) := by decide +kernel
theorem dX5_loved_0 : decode cX5_loved 0 = .ok (.aload_n 0, 1) := by decide +kernel
theorem dX5_loved_1 : decode cX5_loved 1 = .ok (.getfield 10, 3) := by decide +kernel
theorem dX5_loved_4 : decode cX5_loved 4 = .ok (.iload_n 1, 1) := by decide +kernel
theorem dX5_loved_5 : decode cX5_loved 5 = .ok (.invokevirtual 101, 3) := by decide +kernel
theorem dX5_loved_8 : decode cX5_loved 8 = .ok (.ifCond .eq 10, 3) := by decide +kernel
theorem dX5_loved_11 : decode cX5_loved 11 = .ok (.iload_n 2, 1) := by decide +kernel
theorem dX5_loved_12 : decode cX5_loved 12 = .ok (.invokestatic 154, 3) := by decide +kernel
theorem dX5_loved_15 : decode cX5_loved 15 = .ok (.ifCond .ne 10, 3) := by decide +kernel
theorem dX5_loved_18 : decode cX5_loved 18 = .ok (.aload_n 0, 1) := by decide +kernel
theorem dX5_loved_19 : decode cX5_loved 19 = .ok (.ldc 53, 2) := by decide +kernel
theorem dX5_loved_21 : decode cX5_loved 21 = .ok (.invokevirtual 54, 3) := by decide +kernel
theorem dX5_loved_24 : decode cX5_loved 24 = .ok (.ireturn, 1) := by decide +kernel
theorem dX5_loved_25 : decode cX5_loved 25 = .ok (.iconst 0, 1) := by decide +kernel
theorem dX5_loved_26 : decode cX5_loved 26 = .ok (.istore_n 3, 1) := by decide +kernel
theorem dX5_loved_27 : decode cX5_loved 27 = .ok (.iload_n 3, 1) := by decide +kernel
theorem dX5_loved_28 : decode cX5_loved 28 = .ok (.bipush 99, 2) := by decide +kernel
theorem dX5_loved_30 : decode cX5_loved 30 = .ok (.if_icmp .gt 47, 3) := by decide +kernel
theorem dX5_loved_33 : decode cX5_loved 33 = .ok (.aload_n 0, 1) := by decide +kernel
theorem dX5_loved_34 : decode cX5_loved 34 = .ok (.getfield 16, 3) := by decide +kernel
theorem dX5_loved_37 : decode cX5_loved 37 = .ok (.aload_n 0, 1) := by decide +kernel
theorem dX5_loved_38 : decode cX5_loved 38 = .ok (.getfield 10, 3) := by decide +kernel
theorem dX5_loved_41 : decode cX5_loved 41 = .ok (.invokevirtual 166, 3) := by decide +kernel
theorem dX5_loved_44 : decode cX5_loved 44 = .ok (.aload_n 0, 1) := by decide +kernel
theorem dX5_loved_45 : decode cX5_loved 45 = .ok (.getfield 16, 3) := by decide +kernel
theorem dX5_loved_48 : decode cX5_loved 48 = .ok (.getfield 104, 3) := by decide +kernel
theorem dX5_loved_51 : decode cX5_loved 51 = .ok (.iload_n 1, 1) := by decide +kernel
theorem dX5_loved_52 : decode cX5_loved 52 = .ok (.aaload, 1) := by decide +kernel
theorem dX5_loved_53 : decode cX5_loved 53 = .ok (.iload_n 3, 1) := by decide +kernel
theorem dX5_loved_54 : decode cX5_loved 54 = .ok (.putfield 123, 3) := by decide +kernel
theorem dX5_loved_57 : decode cX5_loved 57 = .ok (.aload_n 0, 1) := by decide +kernel
theorem dX5_loved_58 : decode cX5_loved 58 = .ok (.getfield 16, 3) := by decide +kernel
theorem dX5_loved_61 : decode cX5_loved 61 = .ok (.iload_n 1, 1) := by decide +kernel
theorem dX5_loved_62 : decode cX5_loved 62 = .ok (.iload_n 2, 1) := by decide +kernel
theorem dX5_loved_63 : decode cX5_loved 63 = .ok (.invokevirtual 176, 3) := by decide +kernel
theorem dX5_loved_66 : decode cX5_loved 66 = .ok (.ifCond .eq 5, 3) := by decide +kernel
theorem dX5_loved_69 : decode cX5_loved 69 = .ok (.iload_n 3, 1) := by decide +kernel
theorem dX5_loved_70 : decode cX5_loved 70 = .ok (.ireturn, 1) := by decide +kernel
theorem dX5_loved_71 : decode cX5_loved 71 = .ok (.iinc 3 1, 3) := by decide +kernel
theorem dX5_loved_74 : decode cX5_loved 74 = .ok (.goto (-47), 3) := by decide +kernel
theorem dX5_loved_77 : decode cX5_loved 77 = .ok (.aload_n 0, 1) := by decide +kernel
theorem dX5_loved_78 : decode cX5_loved 78 = .ok (.ldc 153, 2) := by decide +kernel
theorem dX5_loved_80 : decode cX5_loved 80 = .ok (.invokevirtual 54, 3) := by decide +kernel
theorem dX5_loved_83 : decode cX5_loved 83 = .ok (.ireturn, 1) := by decide +kernel
theorem dX5_kind_0 : decode cX5_kind 0 = .ok (.aload_n 0, 1) := by decide +kernel
theorem dX5_kind_1 : decode cX5_kind 1 = .ok (.getfield 10, 3) := by decide +kernel
theorem dX5_kind_4 : decode cX5_kind 4 = .ok (.iload_n 1, 1) := by decide +kernel
theorem dX5_kind_5 : decode cX5_kind 5 = .ok (.invokevirtual 101, 3) := by decide +kernel
theorem dX5_kind_8 : decode cX5_kind 8 = .ok (.ifCond .ne 10, 3) := by decide +kernel
theorem dX5_kind_11 : decode cX5_kind 11 = .ok (.aload_n 0, 1) := by decide +kernel
theorem dX5_kind_12 : decode cX5_kind 12 = .ok (.ldc 53, 2) := by decide +kernel
theorem dX5_kind_14 : decode cX5_kind 14 = .ok (.invokevirtual 54, 3) := by decide +kernel
theorem dX5_kind_17 : decode cX5_kind 17 = .ok (.ireturn, 1) := by decide +kernel
theorem dX5_kind_18 : decode cX5_kind 18 = .ok (.iconst 0, 1) := by decide +kernel
theorem dX5_kind_19 : decode cX5_kind 19 = .ok (.istore_n 2, 1) := by decide +kernel
theorem dX5_kind_20 : decode cX5_kind 20 = .ok (.iconst (-1), 1) := by decide +kernel
theorem dX5_kind_21 : decode cX5_kind 21 = .ok (.istore_n 3, 1) := by decide +kernel
theorem dX5_kind_22 : decode cX5_kind 22 = .ok (.iconst 0, 1) := by decide +kernel
theorem dX5_kind_23 : decode cX5_kind 23 = .ok (.istore 4, 2) := by decide +kernel
theorem dX5_kind_25 : decode cX5_kind 25 = .ok (.iload 4, 2) := by decide +kernel
theorem dX5_kind_27 : decode cX5_kind 27 = .ok (.bipush 6, 2) := by decide +kernel
theorem dX5_kind_29 : decode cX5_kind 29 = .ok (.if_icmp .ge 56, 3) := by decide +kernel
theorem dX5_kind_32 : decode cX5_kind 32 = .ok (.aload_n 0, 1) := by decide +kernel
theorem dX5_kind_33 : decode cX5_kind 33 = .ok (.getfield 16, 3) := by decide +kernel
theorem dX5_kind_36 : decode cX5_kind 36 = .ok (.aload_n 0, 1) := by decide +kernel
theorem dX5_kind_37 : decode cX5_kind 37 = .ok (.getfield 10, 3) := by decide +kernel
theorem dX5_kind_40 : decode cX5_kind 40 = .ok (.invokevirtual 166, 3) := by decide +kernel
theorem dX5_kind_43 : decode cX5_kind 43 = .ok (.aload_n 0, 1) := by decide +kernel
theorem dX5_kind_44 : decode cX5_kind 44 = .ok (.getfield 16, 3) := by decide +kernel
theorem dX5_kind_47 : decode cX5_kind 47 = .ok (.getfield 104, 3) := by decide +kernel
theorem dX5_kind_50 : decode cX5_kind 50 = .ok (.iload_n 1, 1) := by decide +kernel
theorem dX5_kind_51 : decode cX5_kind 51 = .ok (.aaload, 1) := by decide +kernel
theorem dX5_kind_52 : decode cX5_kind 52 = .ok (.iload 4, 2) := by decide +kernel
theorem dX5_kind_54 : decode cX5_kind 54 = .ok (.putfield 112, 3) := by decide +kernel
theorem dX5_kind_57 : decode cX5_kind 57 = .ok (.aload_n 0, 1) := by decide +kernel
theorem dX5_kind_58 : decode cX5_kind 58 = .ok (.getfield 16, 3) := by decide +kernel
theorem dX5_kind_61 : decode cX5_kind 61 = .ok (.iload_n 1, 1) := by decide +kernel
theorem dX5_kind_62 : decode cX5_kind 62 = .ok (.invokevirtual 173, 3) := by decide +kernel
theorem dX5_kind_65 : decode cX5_kind 65 = .ok (.istore 5, 2) := by decide +kernel
theorem dX5_kind_67 : decode cX5_kind 67 = .ok (.iload 5, 2) := by decide +kernel
theorem dX5_kind_69 : decode cX5_kind 69 = .ok (.iload_n 3, 1) := by decide +kernel
theorem dX5_kind_70 : decode cX5_kind 70 = .ok (.if_icmp .le 9, 3) := by decide +kernel
theorem dX5_kind_73 : decode cX5_kind 73 = .ok (.iload 5, 2) := by decide +kernel
theorem dX5_kind_75 : decode cX5_kind 75 = .ok (.istore_n 3, 1) := by decide +kernel
theorem dX5_kind_76 : decode cX5_kind 76 = .ok (.iload 4, 2) := by decide +kernel
theorem dX5_kind_78 : decode cX5_kind 78 = .ok (.istore_n 2, 1) := by decide +kernel
theorem dX5_kind_79 : decode cX5_kind 79 = .ok (.iinc 4 1, 3) := by decide +kernel
theorem dX5_kind_82 : decode cX5_kind 82 = .ok (.goto (-57), 3) := by decide +kernel
theorem dX5_kind_85 : decode cX5_kind 85 = .ok (.iload_n 2, 1) := by decide +kernel
theorem dX5_kind_86 : decode cX5_kind 86 = .ok (.ireturn, 1) := by decide +kernel
theorem dX5_rain_0 : decode cX5_rain 0 = .ok (.iload_n 1, 1) := by decide +kernel
theorem dX5_rain_1 : decode cX5_rain 1 = .ok (.invokestatic 154, 3) := by decide +kernel
theorem dX5_rain_4 : decode cX5_rain 4 = .ok (.ifCond .ne 10, 3) := by decide +kernel
theorem dX5_rain_7 : decode cX5_rain 7 = .ok (.aload_n 0, 1) := by decide +kernel
theorem dX5_rain_8 : decode cX5_rain 8 = .ok (.ldc 53, 2) := by decide +kernel
theorem dX5_rain_10 : decode cX5_rain 10 = .ok (.invokevirtual 54, 3) := by decide +kernel
theorem dX5_rain_13 : decode cX5_rain 13 = .ok (.ireturn, 1) := by decide +kernel
theorem dX5_rain_14 : decode cX5_rain 14 = .ok (.iconst 0, 1) := by decide +kernel
theorem dX5_rain_15 : decode cX5_rain 15 = .ok (.istore_n 2, 1) := by decide +kernel
theorem dX5_rain_16 : decode cX5_rain 16 = .ok (.iconst (-1), 1) := by decide +kernel
theorem dX5_rain_17 : decode cX5_rain 17 = .ok (.istore_n 3, 1) := by decide +kernel
theorem dX5_rain_18 : decode cX5_rain 18 = .ok (.iconst 0, 1) := by decide +kernel
theorem dX5_rain_19 : decode cX5_rain 19 = .ok (.istore 4, 2) := by decide +kernel
theorem dX5_rain_21 : decode cX5_rain 21 = .ok (.iload 4, 2) := by decide +kernel
theorem dX5_rain_23 : decode cX5_rain 23 = .ok (.bipush 8, 2) := by decide +kernel
theorem dX5_rain_25 : decode cX5_rain 25 = .ok (.if_icmp .ge 77, 3) := by decide +kernel
theorem dX5_rain_28 : decode cX5_rain 28 = .ok (.aload_n 0, 1) := by decide +kernel
theorem dX5_rain_29 : decode cX5_rain 29 = .ok (.getfield 16, 3) := by decide +kernel
theorem dX5_rain_32 : decode cX5_rain 32 = .ok (.aload_n 0, 1) := by decide +kernel
theorem dX5_rain_33 : decode cX5_rain 33 = .ok (.getfield 10, 3) := by decide +kernel
theorem dX5_rain_36 : decode cX5_rain 36 = .ok (.invokevirtual 166, 3) := by decide +kernel
theorem dX5_rain_39 : decode cX5_rain 39 = .ok (.aload_n 0, 1) := by decide +kernel
theorem dX5_rain_40 : decode cX5_rain 40 = .ok (.getfield 16, 3) := by decide +kernel
theorem dX5_rain_43 : decode cX5_rain 43 = .ok (.getfield 68, 3) := by decide +kernel
theorem dX5_rain_46 : decode cX5_rain 46 = .ok (.iload 4, 2) := by decide +kernel
theorem dX5_rain_48 : decode cX5_rain 48 = .ok (.bipush 99, 2) := by decide +kernel
theorem dX5_rain_50 : decode cX5_rain 50 = .ok (.aload_n 0, 1) := by decide +kernel
theorem dX5_rain_51 : decode cX5_rain 51 = .ok (.getfield 16, 3) := by decide +kernel
theorem dX5_rain_54 : decode cX5_rain 54 = .ok (.getfield 68, 3) := by decide +kernel
theorem dX5_rain_57 : decode cX5_rain 57 = .ok (.iload 4, 2) := by decide +kernel
theorem dX5_rain_59 : decode cX5_rain 59 = .ok (.iaload, 1) := by decide +kernel
theorem dX5_rain_60 : decode cX5_rain 60 = .ok (.bipush 10, 2) := by decide +kernel
theorem dX5_rain_62 : decode cX5_rain 62 = .ok (.iadd, 1) := by decide +kernel
theorem dX5_rain_63 : decode cX5_rain 63 = .ok (.invokestatic 179, 3) := by decide +kernel
theorem dX5_rain_66 : decode cX5_rain 66 = .ok (.iastore, 1) := by decide +kernel
theorem dX5_rain_67 : decode cX5_rain 67 = .ok (.aload_n 0, 1) := by decide +kernel
theorem dX5_rain_68 : decode cX5_rain 68 = .ok (.getfield 16, 3) := by decide +kernel
theorem dX5_rain_71 : decode cX5_rain 71 = .ok (.iload_n 1, 1) := by decide +kernel
theorem dX5_rain_72 : decode cX5_rain 72 = .ok (.invokevirtual 159, 3) := by decide +kernel
theorem dX5_rain_75 : decode cX5_rain 75 = .ok (.aload_n 0, 1) := by decide +kernel
theorem dX5_rain_76 : decode cX5_rain 76 = .ok (.getfield 16, 3) := by decide +kernel
theorem dX5_rain_79 : decode cX5_rain 79 = .ok (.invokevirtual 84, 3) := by decide +kernel
theorem dX5_rain_82 : decode cX5_rain 82 = .ok (.istore 5, 2) := by decide +kernel
theorem dX5_rain_84 : decode cX5_rain 84 = .ok (.iload 5, 2) := by decide +kernel
theorem dX5_rain_86 : decode cX5_rain 86 = .ok (.iload_n 3, 1) := by decide +kernel
theorem dX5_rain_87 : decode cX5_rain 87 = .ok (.if_icmp .le 9, 3) := by decide +kernel
theorem dX5_rain_90 : decode cX5_rain 90 = .ok (.iload 5, 2) := by decide +kernel
theorem dX5_rain_92 : decode cX5_rain 92 = .ok (.istore_n 3, 1) := by decide +kernel
theorem dX5_rain_93 : decode cX5_rain 93 = .ok (.iload 4, 2) := by decide +kernel
theorem dX5_rain_95 : decode cX5_rain 95 = .ok (.istore_n 2, 1) := by decide +kernel
theorem dX5_rain_96 : decode cX5_rain 96 = .ok (.iinc 4 1, 3) := by decide +kernel
theorem dX5_rain_99 : decode cX5_rain 99 = .ok (.goto (-78), 3) := by decide +kernel
theorem dX5_rain_102 : decode cX5_rain 102 = .ok (.iload_n 2, 1) := by decide +kernel
theorem dX5_rain_103 : decode cX5_rain 103 = .ok (.ireturn, 1) := by decide +kernel
theorem dX5_enough_0 : decode cX5_enough 0 = .ok (.iload_n 1, 1) := by decide +kernel
theorem dX5_enough_1 : decode cX5_enough 1 = .ok (.iconst 1, 1) := by decide +kernel
theorem dX5_enough_2 : decode cX5_enough 2 = .ok (.if_icmp .lt 9, 3) := by decide +kernel
theorem dX5_enough_5 : decode cX5_enough 5 = .ok (.iload_n 1, 1) := by decide +kernel
theorem dX5_enough_6 : decode cX5_enough 6 = .ok (.bipush 60, 2) := by decide +kernel
theorem dX5_enough_8 : decode cX5_enough 8 = .ok (.if_icmp .le 10, 3) := by decide +kernel
theorem dX5_enough_11 : decode cX5_enough 11 = .ok (.aload_n 0, 1) := by decide +kernel
theorem dX5_enough_12 : decode cX5_enough 12 = .ok (.ldc 53, 2) := by decide +kernel
theorem dX5_enough_14 : decode cX5_enough 14 = .ok (.invokevirtual 54, 3) := by decide +kernel
theorem dX5_enough_17 : decode cX5_enough 17 = .ok (.ireturn, 1) := by decide +kernel
theorem dX5_enough_18 : decode cX5_enough 18 = .ok (.iconst 0, 1) := by decide +kernel
theorem dX5_enough_19 : decode cX5_enough 19 = .ok (.istore_n 2, 1) := by decide +kernel
theorem dX5_enough_20 : decode cX5_enough 20 = .ok (.iload_n 2, 1) := by decide +kernel
theorem dX5_enough_21 : decode cX5_enough 21 = .ok (.sipush 9999, 3) := by decide +kernel
theorem dX5_enough_24 : decode cX5_enough 24 = .ok (.if_icmp .gt 41, 3) := by decide +kernel
theorem dX5_enough_27 : decode cX5_enough 27 = .ok (.aload_n 0, 1) := by decide +kernel
theorem dX5_enough_28 : decode cX5_enough 28 = .ok (.getfield 16, 3) := by decide +kernel
theorem dX5_enough_31 : decode cX5_enough 31 = .ok (.aload_n 0, 1) := by decide +kernel
theorem dX5_enough_32 : decode cX5_enough 32 = .ok (.getfield 10, 3) := by decide +kernel
theorem dX5_enough_35 : decode cX5_enough 35 = .ok (.invokevirtual 166, 3) := by decide +kernel
theorem dX5_enough_38 : decode cX5_enough 38 = .ok (.aload_n 0, 1) := by decide +kernel
theorem dX5_enough_39 : decode cX5_enough 39 = .ok (.getfield 16, 3) := by decide +kernel
theorem dX5_enough_42 : decode cX5_enough 42 = .ok (.iload_n 2, 1) := by decide +kernel
theorem dX5_enough_43 : decode cX5_enough 43 = .ok (.putfield 58, 3) := by decide +kernel
theorem dX5_enough_46 : decode cX5_enough 46 = .ok (.aload_n 0, 1) := by decide +kernel
theorem dX5_enough_47 : decode cX5_enough 47 = .ok (.getfield 16, 3) := by decide +kernel
theorem dX5_enough_50 : decode cX5_enough 50 = .ok (.iload_n 1, 1) := by decide +kernel
theorem dX5_enough_51 : decode cX5_enough 51 = .ok (.invokevirtual 185, 3) := by decide +kernel
theorem dX5_enough_54 : decode cX5_enough 54 = .ok (.ifCond .eq 5, 3) := by decide +kernel
theorem dX5_enough_57 : decode cX5_enough 57 = .ok (.iload_n 2, 1) := by decide +kernel
theorem dX5_enough_58 : decode cX5_enough 58 = .ok (.ireturn, 1) := by decide +kernel
theorem dX5_enough_59 : decode cX5_enough 59 = .ok (.iinc 2 10, 3) := by decide +kernel
theorem dX5_enough_62 : decode cX5_enough 62 = .ok (.goto (-42), 3) := by decide +kernel
theorem dX5_enough_65 : decode cX5_enough 65 = .ok (.aload_n 0, 1) := by decide +kernel
theorem dX5_enough_66 : decode cX5_enough 66 = .ok (.ldc 153, 2) := by decide +kernel
theorem dX5_enough_68 : decode cX5_enough 68 = .ok (.invokevirtual 54, 3) := by decide +kernel
theorem dX5_enough_71 : decode cX5_enough 71 = .ok (.ireturn, 1) := by decide +kernel
theorem dX5_rule_0 : decode cX5_rule 0 = .ok (.iload_n 1, 1) := by decide +kernel
theorem dX5_rule_1 : decode cX5_rule 1 = .ok (.invokestatic 154, 3) := by decide +kernel
theorem dX5_rule_4 : decode cX5_rule 4 = .ok (.ifCond .ne 10, 3) := by decide +kernel
theorem dX5_rule_7 : decode cX5_rule 7 = .ok (.aload_n 0, 1) := by decide +kernel
theorem dX5_rule_8 : decode cX5_rule 8 = .ok (.ldc 53, 2) := by decide +kernel
theorem dX5_rule_10 : decode cX5_rule 10 = .ok (.invokevirtual 54, 3) := by decide +kernel
theorem dX5_rule_13 : decode cX5_rule 13 = .ok (.ireturn, 1) := by decide +kernel
theorem dX5_rule_14 : decode cX5_rule 14 = .ok (.iconst 0, 1) := by decide +kernel
theorem dX5_rule_15 : decode cX5_rule 15 = .ok (.istore_n 2, 1) := by decide +kernel
theorem dX5_rule_16 : decode cX5_rule 16 = .ok (.ldc 190, 2) := by decide +kernel
theorem dX5_rule_18 : decode cX5_rule 18 = .ok (.istore_n 3, 1) := by decide +kernel
theorem dX5_rule_19 : decode cX5_rule 19 = .ok (.iconst 0, 1) := by decide +kernel
theorem dX5_rule_20 : decode cX5_rule 20 = .ok (.istore 4, 2) := by decide +kernel
theorem dX5_rule_22 : decode cX5_rule 22 = .ok (.iload 4, 2) := by decide +kernel
theorem dX5_rule_24 : decode cX5_rule 24 = .ok (.sipush 1000, 3) := by decide +kernel
theorem dX5_rule_27 : decode cX5_rule 27 = .ok (.if_icmp .gt 58, 3) := by decide +kernel
theorem dX5_rule_30 : decode cX5_rule 30 = .ok (.aload_n 0, 1) := by decide +kernel
theorem dX5_rule_31 : decode cX5_rule 31 = .ok (.getfield 16, 3) := by decide +kernel
theorem dX5_rule_34 : decode cX5_rule 34 = .ok (.aload_n 0, 1) := by decide +kernel
theorem dX5_rule_35 : decode cX5_rule 35 = .ok (.getfield 10, 3) := by decide +kernel
theorem dX5_rule_38 : decode cX5_rule 38 = .ok (.invokevirtual 166, 3) := by decide +kernel
theorem dX5_rule_41 : decode cX5_rule 41 = .ok (.aload_n 0, 1) := by decide +kernel
theorem dX5_rule_42 : decode cX5_rule 42 = .ok (.getfield 16, 3) := by decide +kernel
theorem dX5_rule_45 : decode cX5_rule 45 = .ok (.iload 4, 2) := by decide +kernel
theorem dX5_rule_47 : decode cX5_rule 47 = .ok (.putfield 62, 3) := by decide +kernel
theorem dX5_rule_50 : decode cX5_rule 50 = .ok (.aload_n 0, 1) := by decide +kernel
theorem dX5_rule_51 : decode cX5_rule 51 = .ok (.getfield 16, 3) := by decide +kernel
theorem dX5_rule_54 : decode cX5_rule 54 = .ok (.iload_n 1, 1) := by decide +kernel
theorem dX5_rule_55 : decode cX5_rule 55 = .ok (.invokevirtual 159, 3) := by decide +kernel
theorem dX5_rule_58 : decode cX5_rule 58 = .ok (.aload_n 0, 1) := by decide +kernel
theorem dX5_rule_59 : decode cX5_rule 59 = .ok (.getfield 16, 3) := by decide +kernel
theorem dX5_rule_62 : decode cX5_rule 62 = .ok (.invokevirtual 191, 3) := by decide +kernel
theorem dX5_rule_65 : decode cX5_rule 65 = .ok (.istore 5, 2) := by decide +kernel
theorem dX5_rule_67 : decode cX5_rule 67 = .ok (.iload 5, 2) := by decide +kernel
theorem dX5_rule_69 : decode cX5_rule 69 = .ok (.iload_n 3, 1) := by decide +kernel
theorem dX5_rule_70 : decode cX5_rule 70 = .ok (.if_icmp .ge 9, 3) := by decide +kernel
theorem dX5_rule_73 : decode cX5_rule 73 = .ok (.iload 5, 2) := by decide +kernel
theorem dX5_rule_75 : decode cX5_rule 75 = .ok (.istore_n 3, 1) := by decide +kernel
theorem dX5_rule_76 : decode cX5_rule 76 = .ok (.iload 4, 2) := by decide +kernel
theorem dX5_rule_78 : decode cX5_rule 78 = .ok (.istore_n 2, 1) := by decide +kernel
theorem dX5_rule_79 : decode cX5_rule 79 = .ok (.iinc 4 50, 3) := by decide +kernel
theorem dX5_rule_82 : decode cX5_rule 82 = .ok (.goto (-60), 3) := by decide +kernel
theorem dX5_rule_85 : decode cX5_rule 85 = .ok (.iload_n 2, 1) := by decide +kernel
theorem dX5_rule_86 : decode cX5_rule 86 = .ok (.ireturn, 1) := by decide +kernel
theorem dX5_feed_0 : decode cX5_feed 0 = .ok (.iload_n 2, 1) := by decide +kernel
theorem dX5_feed_1 : decode cX5_feed 1 = .ok (.iconst 1, 1) := by decide +kernel
theorem dX5_feed_2 : decode cX5_feed 2 = .ok (.if_icmp .lt 8, 3) := by decide +kernel
theorem dX5_feed_5 : decode cX5_feed 5 = .ok (.iload_n 2, 1) := by decide +kernel
theorem dX5_feed_6 : decode cX5_feed 6 = .ok (.iconst 4, 1) := by decide +kernel
theorem dX5_feed_7 : decode cX5_feed 7 = .ok (.if_icmp .le 10, 3) := by decide +kernel
theorem dX5_feed_10 : decode cX5_feed 10 = .ok (.aload_n 0, 1) := by decide +kernel
theorem dX5_feed_11 : decode cX5_feed 11 = .ok (.ldc 53, 2) := by decide +kernel
theorem dX5_feed_13 : decode cX5_feed 13 = .ok (.invokevirtual 54, 3) := by decide +kernel
theorem dX5_feed_16 : decode cX5_feed 16 = .ok (.ireturn, 1) := by decide +kernel
theorem dX5_feed_17 : decode cX5_feed 17 = .ok (.aload_n 0, 1) := by decide +kernel
theorem dX5_feed_18 : decode cX5_feed 18 = .ok (.getfield 29, 3) := by decide +kernel
theorem dX5_feed_21 : decode cX5_feed 21 = .ok (.getfield 194, 3) := by decide +kernel
theorem dX5_feed_24 : decode cX5_feed 24 = .ok (.iload_n 2, 1) := by decide +kernel
theorem dX5_feed_25 : decode cX5_feed 25 = .ok (.iadd, 1) := by decide +kernel
theorem dX5_feed_26 : decode cX5_feed 26 = .ok (.bipush 120, 2) := by decide +kernel
theorem dX5_feed_28 : decode cX5_feed 28 = .ok (.if_icmp .le 10, 3) := by decide +kernel
theorem dX5_feed_31 : decode cX5_feed 31 = .ok (.aload_n 0, 1) := by decide +kernel
theorem dX5_feed_32 : decode cX5_feed 32 = .ok (.ldc 97, 2) := by decide +kernel
theorem dX5_feed_34 : decode cX5_feed 34 = .ok (.invokevirtual 54, 3) := by decide +kernel
theorem dX5_feed_37 : decode cX5_feed 37 = .ok (.ireturn, 1) := by decide +kernel
theorem dX5_feed_38 : decode cX5_feed 38 = .ok (.iload_n 2, 1) := by decide +kernel
theorem dX5_feed_39 : decode cX5_feed 39 = .ok (.iconst 1, 1) := by decide +kernel
theorem dX5_feed_40 : decode cX5_feed 40 = .ok (.isub, 1) := by decide +kernel
theorem dX5_feed_41 : decode cX5_feed 41 = .ok (.istore_n 3, 1) := by decide +kernel
theorem dX5_feed_42 : decode cX5_feed 42 = .ok (.iload_n 3, 1) := by decide +kernel
theorem dX5_feed_43 : decode cX5_feed 43 = .ok (.ifCond .lt 22, 3) := by decide +kernel
theorem dX5_feed_46 : decode cX5_feed 46 = .ok (.aload_n 0, 1) := by decide +kernel
theorem dX5_feed_47 : decode cX5_feed 47 = .ok (.getfield 29, 3) := by decide +kernel
theorem dX5_feed_50 : decode cX5_feed 50 = .ok (.iload_n 1, 1) := by decide +kernel
theorem dX5_feed_51 : decode cX5_feed 51 = .ok (.bipush 8, 2) := by decide +kernel
theorem dX5_feed_53 : decode cX5_feed 53 = .ok (.iload_n 3, 1) := by decide +kernel
theorem dX5_feed_54 : decode cX5_feed 54 = .ok (.imul, 1) := by decide +kernel
theorem dX5_feed_55 : decode cX5_feed 55 = .ok (.iushr, 1) := by decide +kernel
theorem dX5_feed_56 : decode cX5_feed 56 = .ok (.invokevirtual 197, 3) := by decide +kernel
theorem dX5_feed_59 : decode cX5_feed 59 = .ok (.iinc 3 (-1), 3) := by decide +kernel
theorem dX5_feed_62 : decode cX5_feed 62 = .ok (.goto (-20), 3) := by decide +kernel
theorem dX5_feed_65 : decode cX5_feed 65 = .ok (.aload_n 0, 1) := by decide +kernel
theorem dX5_feed_66 : decode cX5_feed 66 = .ok (.getfield 29, 3) := by decide +kernel
theorem dX5_feed_69 : decode cX5_feed 69 = .ok (.getfield 194, 3) := by decide +kernel
theorem dX5_feed_72 : decode cX5_feed 72 = .ok (.ireturn, 1) := by decide +kernel
theorem dX5_wipe_0 : decode cX5_wipe 0 = .ok (.aload_n 0, 1) := by decide +kernel
theorem dX5_wipe_1 : decode cX5_wipe 1 = .ok (.getfield 29, 3) := by decide +kernel
theorem dX5_wipe_4 : decode cX5_wipe 4 = .ok (.getfield 194, 3) := by decide +kernel
theorem dX5_wipe_7 : decode cX5_wipe 7 = .ok (.istore_n 1, 1) := by decide +kernel
theorem dX5_wipe_8 : decode cX5_wipe 8 = .ok (.aload_n 0, 1) := by decide +kernel
theorem dX5_wipe_9 : decode cX5_wipe 9 = .ok (.getfield 29, 3) := by decide +kernel
theorem dX5_wipe_12 : decode cX5_wipe 12 = .ok (.iconst 0, 1) := by decide +kernel
theorem dX5_wipe_13 : decode cX5_wipe 13 = .ok (.putfield 194, 3) := by decide +kernel
theorem dX5_wipe_16 : decode cX5_wipe 16 = .ok (.iload_n 1, 1) := by decide +kernel
theorem dX5_wipe_17 : decode cX5_wipe 17 = .ok (.ireturn, 1) := by decide +kernel
theorem dX5_town_0 : decode cX5_town 0 = .ok (.aload_n 0, 1) := by decide +kernel
theorem dX5_town_1 : decode cX5_town 1 = .ok (.getfield 16, 3) := by decide +kernel
theorem dX5_town_4 : decode cX5_town 4 = .ok (.aload_n 0, 1) := by decide +kernel
theorem dX5_town_5 : decode cX5_town 5 = .ok (.getfield 10, 3) := by decide +kernel
theorem dX5_town_8 : decode cX5_town 8 = .ok (.invokevirtual 166, 3) := by decide +kernel
theorem dX5_town_11 : decode cX5_town 11 = .ok (.aload_n 0, 1) := by decide +kernel
theorem dX5_town_12 : decode cX5_town 12 = .ok (.getfield 38, 3) := by decide +kernel
theorem dX5_town_15 : decode cX5_town 15 = .ok (.aload_n 0, 1) := by decide +kernel
theorem dX5_town_16 : decode cX5_town 16 = .ok (.getfield 16, 3) := by decide +kernel
theorem dX5_town_19 : decode cX5_town 19 = .ok (.invokevirtual 200, 3) := by decide +kernel
theorem dX5_town_22 : decode cX5_town 22 = .ok (.istore_n 1, 1) := by decide +kernel
theorem dX5_town_23 : decode cX5_town 23 = .ok (.iload_n 1, 1) := by decide +kernel
theorem dX5_town_24 : decode cX5_town 24 = .ok (.ifCond .lt 14, 3) := by decide +kernel
theorem dX5_town_27 : decode cX5_town 27 = .ok (.aload_n 0, 1) := by decide +kernel
theorem dX5_town_28 : decode cX5_town 28 = .ok (.getfield 10, 3) := by decide +kernel
theorem dX5_town_31 : decode cX5_town 31 = .ok (.aload_n 0, 1) := by decide +kernel
theorem dX5_town_32 : decode cX5_town 32 = .ok (.getfield 16, 3) := by decide +kernel
theorem dX5_town_35 : decode cX5_town 35 = .ok (.invokevirtual 166, 3) := by decide +kernel
theorem dX5_town_38 : decode cX5_town 38 = .ok (.aload_n 0, 1) := by decide +kernel
theorem dX5_town_39 : decode cX5_town 39 = .ok (.getfield 29, 3) := by decide +kernel
theorem dX5_town_42 : decode cX5_town 42 = .ok (.iconst 0, 1) := by decide +kernel
theorem dX5_town_43 : decode cX5_town 43 = .ok (.putfield 194, 3) := by decide +kernel
theorem dX5_town_46 : decode cX5_town 46 = .ok (.iload_n 1, 1) := by decide +kernel
theorem dX5_town_47 : decode cX5_town 47 = .ok (.ireturn, 1) := by decide +kernel
theorem dX5_sheet_0 : decode cX5_sheet 0 = .ok (.iload_n 1, 1) := by decide +kernel
theorem dX5_sheet_1 : decode cX5_sheet 1 = .ok (.invokestatic 204, 3) := by decide +kernel
theorem dX5_sheet_4 : decode cX5_sheet 4 = .ok (.ifCond .eq 25, 3) := by decide +kernel
theorem dX5_sheet_7 : decode cX5_sheet 7 = .ok (.iload_n 2, 1) := by decide +kernel
theorem dX5_sheet_8 : decode cX5_sheet 8 = .ok (.ifCond .eq 28, 3) := by decide +kernel
theorem dX5_sheet_11 : decode cX5_sheet 11 = .ok (.iload_n 2, 1) := by decide +kernel
theorem dX5_sheet_12 : decode cX5_sheet 12 = .ok (.bipush 8, 2) := by decide +kernel
theorem dX5_sheet_14 : decode cX5_sheet 14 = .ok (.if_icmp .eq 22, 3) := by decide +kernel
theorem dX5_sheet_17 : decode cX5_sheet 17 = .ok (.iload_n 2, 1) := by decide +kernel
theorem dX5_sheet_18 : decode cX5_sheet 18 = .ok (.bipush 16, 2) := by decide +kernel
theorem dX5_sheet_20 : decode cX5_sheet 20 = .ok (.if_icmp .eq 16, 3) := by decide +kernel
theorem dX5_sheet_23 : decode cX5_sheet 23 = .ok (.iload_n 2, 1) := by decide +kernel
theorem dX5_sheet_24 : decode cX5_sheet 24 = .ok (.bipush 64, 2) := by decide +kernel
theorem dX5_sheet_26 : decode cX5_sheet 26 = .ok (.if_icmp .eq 10, 3) := by decide +kernel
theorem dX5_sheet_29 : decode cX5_sheet 29 = .ok (.aload_n 0, 1) := by decide +kernel
theorem dX5_sheet_30 : decode cX5_sheet 30 = .ok (.ldc 53, 2) := by decide +kernel
theorem dX5_sheet_32 : decode cX5_sheet 32 = .ok (.invokevirtual 54, 3) := by decide +kernel
theorem dX5_sheet_35 : decode cX5_sheet 35 = .ok (.ireturn, 1) := by decide +kernel
theorem dX5_sheet_36 : decode cX5_sheet 36 = .ok (.iload_n 3, 1) := by decide +kernel
theorem dX5_sheet_37 : decode cX5_sheet 37 = .ok (.ifCond .ge 10, 3) := by decide +kernel
theorem dX5_sheet_40 : decode cX5_sheet 40 = .ok (.aload_n 0, 1) := by decide +kernel
theorem dX5_sheet_41 : decode cX5_sheet 41 = .ok (.ldc 207, 2) := by decide +kernel
theorem dX5_sheet_43 : decode cX5_sheet 43 = .ok (.invokevirtual 54, 3) := by decide +kernel
theorem dX5_sheet_46 : decode cX5_sheet 46 = .ok (.ireturn, 1) := by decide +kernel
theorem dX5_sheet_47 : decode cX5_sheet 47 = .ok (.iload_n 3, 1) := by decide +kernel
theorem dX5_sheet_48 : decode cX5_sheet 48 = .ok (.bipush 40, 2) := by decide +kernel
theorem dX5_sheet_50 : decode cX5_sheet 50 = .ok (.if_icmp .le 10, 3) := by decide +kernel
theorem dX5_sheet_53 : decode cX5_sheet 53 = .ok (.aload_n 0, 1) := by decide +kernel
theorem dX5_sheet_54 : decode cX5_sheet 54 = .ok (.ldc 53, 2) := by decide +kernel
theorem dX5_sheet_56 : decode cX5_sheet 56 = .ok (.invokevirtual 54, 3) := by decide +kernel
theorem dX5_sheet_59 : decode cX5_sheet 59 = .ok (.ireturn, 1) := by decide +kernel
theorem dX5_sheet_60 : decode cX5_sheet 60 = .ok (.aload_n 0, 1) := by decide +kernel
theorem dX5_sheet_61 : decode cX5_sheet 61 = .ok (.getfield 45, 3) := by decide +kernel
theorem dX5_sheet_64 : decode cX5_sheet 64 = .ok (.iload_n 1, 1) := by decide +kernel
theorem dX5_sheet_65 : decode cX5_sheet 65 = .ok (.aaload, 1) := by decide +kernel
theorem dX5_sheet_66 : decode cX5_sheet 66 = .ok (.iload_n 2, 1) := by decide +kernel
theorem dX5_sheet_67 : decode cX5_sheet 67 = .ok (.iload_n 3, 1) := by decide +kernel
theorem dX5_sheet_68 : decode cX5_sheet 68 = .ok (.invokevirtual 208, 3) := by decide +kernel
theorem dX5_sheet_71 : decode cX5_sheet 71 = .ok (.aload_n 0, 1) := by decide +kernel
theorem dX5_sheet_72 : decode cX5_sheet 72 = .ok (.getfield 45, 3) := by decide +kernel
theorem dX5_sheet_75 : decode cX5_sheet 75 = .ok (.iload_n 1, 1) := by decide +kernel
theorem dX5_sheet_76 : decode cX5_sheet 76 = .ok (.aaload, 1) := by decide +kernel
theorem dX5_sheet_77 : decode cX5_sheet 77 = .ok (.getfield 212, 3) := by decide +kernel
theorem dX5_sheet_80 : decode cX5_sheet 80 = .ok (.ireturn, 1) := by decide +kernel
theorem dX5_write_0 : decode cX5_write 0 = .ok (.aload_n 0, 1) := by decide +kernel
theorem dX5_write_1 : decode cX5_write 1 = .ok (.iload_n 1, 1) := by decide +kernel
theorem dX5_write_2 : decode cX5_write 2 = .ok (.invokevirtual 213, 3) := by decide +kernel
theorem dX5_write_5 : decode cX5_write 5 = .ok (.istore 5, 2) := by decide +kernel
theorem dX5_write_7 : decode cX5_write 7 = .ok (.iload 5, 2) := by decide +kernel
theorem dX5_write_9 : decode cX5_write 9 = .ok (.ifCond .eq 11, 3) := by decide +kernel
theorem dX5_write_12 : decode cX5_write 12 = .ok (.aload_n 0, 1) := by decide +kernel
theorem dX5_write_13 : decode cX5_write 13 = .ok (.iload 5, 2) := by decide +kernel
theorem dX5_write_15 : decode cX5_write 15 = .ok (.invokevirtual 54, 3) := by decide +kernel
theorem dX5_write_18 : decode cX5_write 18 = .ok (.i2l, 1) := by decide +kernel
theorem dX5_write_19 : decode cX5_write 19 = .ok (.lreturn, 1) := by decide +kernel
theorem dX5_write_20 : decode cX5_write 20 = .ok (.aload_n 0, 1) := by decide +kernel
theorem dX5_write_21 : decode cX5_write 21 = .ok (.getfield 45, 3) := by decide +kernel
theorem dX5_write_24 : decode cX5_write 24 = .ok (.iload_n 1, 1) := by decide +kernel
theorem dX5_write_25 : decode cX5_write 25 = .ok (.aaload, 1) := by decide +kernel
theorem dX5_write_26 : decode cX5_write 26 = .ok (.astore 6, 2) := by decide +kernel
theorem dX5_write_28 : decode cX5_write 28 = .ok (.iload_n 2, 1) := by decide +kernel
theorem dX5_write_29 : decode cX5_write 29 = .ok (.ifCond .lt 12, 3) := by decide +kernel
theorem dX5_write_32 : decode cX5_write 32 = .ok (.iload_n 2, 1) := by decide +kernel
theorem dX5_write_33 : decode cX5_write 33 = .ok (.aload 6, 2) := by decide +kernel
theorem dX5_write_35 : decode cX5_write 35 = .ok (.getfield 212, 3) := by decide +kernel
theorem dX5_write_38 : decode cX5_write 38 = .ok (.if_icmp .lt 11, 3) := by decide +kernel
theorem dX5_write_41 : decode cX5_write 41 = .ok (.aload_n 0, 1) := by decide +kernel
theorem dX5_write_42 : decode cX5_write 42 = .ok (.ldc 53, 2) := by decide +kernel
theorem dX5_write_44 : decode cX5_write 44 = .ok (.invokevirtual 54, 3) := by decide +kernel
theorem dX5_write_47 : decode cX5_write 47 = .ok (.i2l, 1) := by decide +kernel
theorem dX5_write_48 : decode cX5_write 48 = .ok (.lreturn, 1) := by decide +kernel
theorem dX5_write_49 : decode cX5_write 49 = .ok (.aload 6, 2) := by decide +kernel
theorem dX5_write_51 : decode cX5_write 51 = .ok (.getfield 216, 3) := by decide +kernel
theorem dX5_write_54 : decode cX5_write 54 = .ok (.iload_n 2, 1) := by decide +kernel
theorem dX5_write_55 : decode cX5_write 55 = .ok (.laload, 1) := by decide +kernel
theorem dX5_write_56 : decode cX5_write 56 = .ok (.lstore 7, 2) := by decide +kernel
theorem dX5_write_58 : decode cX5_write 58 = .ok (.aload 6, 2) := by decide +kernel
theorem dX5_write_60 : decode cX5_write 60 = .ok (.iload_n 2, 1) := by decide +kernel
theorem dX5_write_61 : decode cX5_write 61 = .ok (.lload_n 3, 1) := by decide +kernel
theorem dX5_write_62 : decode cX5_write 62 = .ok (.invokevirtual 220, 3) := by decide +kernel
theorem dX5_write_65 : decode cX5_write 65 = .ok (.lload 7, 2) := by decide +kernel
theorem dX5_write_67 : decode cX5_write 67 = .ok (.lreturn, 1) := by decide +kernel
theorem dX5_copy_0 : decode cX5_copy 0 = .ok (.iload_n 1, 1) := by decide +kernel
theorem dX5_copy_1 : decode cX5_copy 1 = .ok (.invokestatic 204, 3) := by decide +kernel
theorem dX5_copy_4 : decode cX5_copy 4 = .ok (.ifCond .eq 10, 3) := by decide +kernel
theorem dX5_copy_7 : decode cX5_copy 7 = .ok (.iload_n 3, 1) := by decide +kernel
theorem dX5_copy_8 : decode cX5_copy 8 = .ok (.invokestatic 204, 3) := by decide +kernel
theorem dX5_copy_11 : decode cX5_copy 11 = .ok (.ifCond .ne 10, 3) := by decide +kernel
theorem dX5_copy_14 : decode cX5_copy 14 = .ok (.aload_n 0, 1) := by decide +kernel
theorem dX5_copy_15 : decode cX5_copy 15 = .ok (.ldc 53, 2) := by decide +kernel
theorem dX5_copy_17 : decode cX5_copy 17 = .ok (.invokevirtual 54, 3) := by decide +kernel
theorem dX5_copy_20 : decode cX5_copy 20 = .ok (.ireturn, 1) := by decide +kernel
theorem dX5_copy_21 : decode cX5_copy 21 = .ok (.aload_n 0, 1) := by decide +kernel
theorem dX5_copy_22 : decode cX5_copy 22 = .ok (.getfield 45, 3) := by decide +kernel
theorem dX5_copy_25 : decode cX5_copy 25 = .ok (.iload_n 1, 1) := by decide +kernel
theorem dX5_copy_26 : decode cX5_copy 26 = .ok (.aaload, 1) := by decide +kernel
theorem dX5_copy_27 : decode cX5_copy 27 = .ok (.astore 6, 2) := by decide +kernel
theorem dX5_copy_29 : decode cX5_copy 29 = .ok (.aload_n 0, 1) := by decide +kernel
theorem dX5_copy_30 : decode cX5_copy 30 = .ok (.getfield 45, 3) := by decide +kernel
theorem dX5_copy_33 : decode cX5_copy 33 = .ok (.iload_n 3, 1) := by decide +kernel
theorem dX5_copy_34 : decode cX5_copy 34 = .ok (.aaload, 1) := by decide +kernel
theorem dX5_copy_35 : decode cX5_copy 35 = .ok (.astore 7, 2) := by decide +kernel
theorem dX5_copy_37 : decode cX5_copy 37 = .ok (.aload 6, 2) := by decide +kernel
theorem dX5_copy_39 : decode cX5_copy 39 = .ok (.invokevirtual 224, 3) := by decide +kernel
theorem dX5_copy_42 : decode cX5_copy 42 = .ok (.ifCond .ne 11, 3) := by decide +kernel
theorem dX5_copy_45 : decode cX5_copy 45 = .ok (.aload 7, 2) := by decide +kernel
theorem dX5_copy_47 : decode cX5_copy 47 = .ok (.invokevirtual 224, 3) := by decide +kernel
theorem dX5_copy_50 : decode cX5_copy 50 = .ok (.ifCond .eq 10, 3) := by decide +kernel
theorem dX5_copy_53 : decode cX5_copy 53 = .ok (.aload_n 0, 1) := by decide +kernel
theorem dX5_copy_54 : decode cX5_copy 54 = .ok (.ldc 227, 2) := by decide +kernel
theorem dX5_copy_56 : decode cX5_copy 56 = .ok (.invokevirtual 54, 3) := by decide +kernel
theorem dX5_copy_59 : decode cX5_copy 59 = .ok (.ireturn, 1) := by decide +kernel
theorem dX5_copy_60 : decode cX5_copy 60 = .ok (.aload 6, 2) := by decide +kernel
theorem dX5_copy_62 : decode cX5_copy 62 = .ok (.getfield 228, 3) := by decide +kernel
theorem dX5_copy_65 : decode cX5_copy 65 = .ok (.aload 7, 2) := by decide +kernel
theorem dX5_copy_67 : decode cX5_copy 67 = .ok (.getfield 228, 3) := by decide +kernel
theorem dX5_copy_70 : decode cX5_copy 70 = .ok (.if_icmp .eq 10, 3) := by decide +kernel
theorem dX5_copy_73 : decode cX5_copy 73 = .ok (.aload_n 0, 1) := by decide +kernel
theorem dX5_copy_74 : decode cX5_copy 74 = .ok (.ldc 149, 2) := by decide +kernel
theorem dX5_copy_76 : decode cX5_copy 76 = .ok (.invokevirtual 54, 3) := by decide +kernel
theorem dX5_copy_79 : decode cX5_copy 79 = .ok (.ireturn, 1) := by decide +kernel
theorem dX5_copy_80 : decode cX5_copy 80 = .ok (.aload 6, 2) := by decide +kernel
theorem dX5_copy_82 : decode cX5_copy 82 = .ok (.iload_n 2, 1) := by decide +kernel
theorem dX5_copy_83 : decode cX5_copy 83 = .ok (.iload 5, 2) := by decide +kernel
theorem dX5_copy_85 : decode cX5_copy 85 = .ok (.invokevirtual 231, 3) := by decide +kernel
theorem dX5_copy_88 : decode cX5_copy 88 = .ok (.ifCond .eq 15, 3) := by decide +kernel
theorem dX5_copy_91 : decode cX5_copy 91 = .ok (.aload 7, 2) := by decide +kernel
theorem dX5_copy_93 : decode cX5_copy 93 = .ok (.iload 4, 2) := by decide +kernel
theorem dX5_copy_95 : decode cX5_copy 95 = .ok (.iload 5, 2) := by decide +kernel
theorem dX5_copy_97 : decode cX5_copy 97 = .ok (.invokevirtual 231, 3) := by decide +kernel
theorem dX5_copy_100 : decode cX5_copy 100 = .ok (.ifCond .ne 10, 3) := by decide +kernel
theorem dX5_copy_103 : decode cX5_copy 103 = .ok (.aload_n 0, 1) := by decide +kernel
theorem dX5_copy_104 : decode cX5_copy 104 = .ok (.ldc 53, 2) := by decide +kernel
theorem dX5_copy_106 : decode cX5_copy 106 = .ok (.invokevirtual 54, 3) := by decide +kernel
theorem dX5_copy_109 : decode cX5_copy 109 = .ok (.ireturn, 1) := by decide +kernel
theorem dX5_copy_110 : decode cX5_copy 110 = .ok (.aload 6, 2) := by decide +kernel
theorem dX5_copy_112 : decode cX5_copy 112 = .ok (.getfield 216, 3) := by decide +kernel
theorem dX5_copy_115 : decode cX5_copy 115 = .ok (.iload_n 2, 1) := by decide +kernel
theorem dX5_copy_116 : decode cX5_copy 116 = .ok (.aload 7, 2) := by decide +kernel
theorem dX5_copy_118 : decode cX5_copy 118 = .ok (.getfield 216, 3) := by decide +kernel
theorem dX5_copy_121 : decode cX5_copy 121 = .ok (.iload 4, 2) := by decide +kernel
theorem dX5_copy_123 : decode cX5_copy 123 = .ok (.iload 5, 2) := by decide +kernel
theorem dX5_copy_125 : decode cX5_copy 125 = .ok (.invokestatic 234, 3) := by decide +kernel
theorem dX5_copy_128 : decode cX5_copy 128 = .ok (.iload 5, 2) := by decide +kernel
theorem dX5_copy_130 : decode cX5_copy 130 = .ok (.ireturn, 1) := by decide +kernel
theorem dX5_lays_0 : decode cX5_lays 0 = .ok (.aload_n 0, 1) := by decide +kernel
theorem dX5_lays_1 : decode cX5_lays 1 = .ok (.iload_n 1, 1) := by decide +kernel
theorem dX5_lays_2 : decode cX5_lays 2 = .ok (.invokevirtual 213, 3) := by decide +kernel
theorem dX5_lays_5 : decode cX5_lays 5 = .ok (.istore_n 2, 1) := by decide +kernel
theorem dX5_lays_6 : decode cX5_lays 6 = .ok (.iload_n 2, 1) := by decide +kernel
theorem dX5_lays_7 : decode cX5_lays 7 = .ok (.ifCond .eq 9, 3) := by decide +kernel
theorem dX5_lays_10 : decode cX5_lays 10 = .ok (.aload_n 0, 1) := by decide +kernel
theorem dX5_lays_11 : decode cX5_lays 11 = .ok (.iload_n 2, 1) := by decide +kernel
theorem dX5_lays_12 : decode cX5_lays 12 = .ok (.invokevirtual 54, 3) := by decide +kernel
theorem dX5_lays_15 : decode cX5_lays 15 = .ok (.ireturn, 1) := by decide +kernel
theorem dX5_lays_16 : decode cX5_lays 16 = .ok (.aload_n 0, 1) := by decide +kernel
theorem dX5_lays_17 : decode cX5_lays 17 = .ok (.getfield 45, 3) := by decide +kernel
theorem dX5_lays_20 : decode cX5_lays 20 = .ok (.iload_n 1, 1) := by decide +kernel
theorem dX5_lays_21 : decode cX5_lays 21 = .ok (.aaload, 1) := by decide +kernel
theorem dX5_lays_22 : decode cX5_lays 22 = .ok (.astore_n 3, 1) := by decide +kernel
theorem dX5_lays_23 : decode cX5_lays 23 = .ok (.iconst 0, 1) := by decide +kernel
theorem dX5_lays_24 : decode cX5_lays 24 = .ok (.istore 4, 2) := by decide +kernel
theorem dX5_lays_26 : decode cX5_lays 26 = .ok (.iconst 0, 1) := by decide +kernel
theorem dX5_lays_27 : decode cX5_lays 27 = .ok (.istore 5, 2) := by decide +kernel
theorem dX5_lays_29 : decode cX5_lays 29 = .ok (.iload 5, 2) := by decide +kernel
theorem dX5_lays_31 : decode cX5_lays 31 = .ok (.aload_n 3, 1) := by decide +kernel
theorem dX5_lays_32 : decode cX5_lays 32 = .ok (.getfield 212, 3) := by decide +kernel
theorem dX5_lays_35 : decode cX5_lays 35 = .ok (.if_icmp .ge 57, 3) := by decide +kernel
theorem dX5_lays_38 : decode cX5_lays 38 = .ok (.iload 5, 2) := by decide +kernel
theorem dX5_lays_40 : decode cX5_lays 40 = .ok (.bipush 8, 2) := by decide +kernel
theorem dX5_lays_42 : decode cX5_lays 42 = .ok (.if_icmp .ge 50, 3) := by decide +kernel
theorem dX5_lays_45 : decode cX5_lays 45 = .ok (.aload_n 3, 1) := by decide +kernel
theorem dX5_lays_46 : decode cX5_lays 46 = .ok (.getfield 216, 3) := by decide +kernel
theorem dX5_lays_49 : decode cX5_lays 49 = .ok (.iload 5, 2) := by decide +kernel
theorem dX5_lays_51 : decode cX5_lays 51 = .ok (.laload, 1) := by decide +kernel
theorem dX5_lays_52 : decode cX5_lays 52 = .ok (.lstore 6, 2) := by decide +kernel
theorem dX5_lays_54 : decode cX5_lays 54 = .ok (.lload 6, 2) := by decide +kernel
theorem dX5_lays_56 : decode cX5_lays 56 = .ok (.lconst 0, 1) := by decide +kernel
theorem dX5_lays_57 : decode cX5_lays 57 = .ok (.lcmp, 1) := by decide +kernel
theorem dX5_lays_58 : decode cX5_lays 58 = .ok (.ifCond .lt 28, 3) := by decide +kernel
theorem dX5_lays_61 : decode cX5_lays 61 = .ok (.lload 6, 2) := by decide +kernel
theorem dX5_lays_63 : decode cX5_lays 63 = .ok (.ldc2_w 240, 3) := by decide +kernel
theorem dX5_lays_66 : decode cX5_lays 66 = .ok (.lcmp, 1) := by decide +kernel
theorem dX5_lays_67 : decode cX5_lays 67 = .ok (.ifCond .gt 19, 3) := by decide +kernel
theorem dX5_lays_70 : decode cX5_lays 70 = .ok (.aload_n 0, 1) := by decide +kernel
theorem dX5_lays_71 : decode cX5_lays 71 = .ok (.getfield 10, 3) := by decide +kernel
theorem dX5_lays_74 : decode cX5_lays 74 = .ok (.getfield 68, 3) := by decide +kernel
theorem dX5_lays_77 : decode cX5_lays 77 = .ok (.iload 5, 2) := by decide +kernel
theorem dX5_lays_79 : decode cX5_lays 79 = .ok (.lload 6, 2) := by decide +kernel
theorem dX5_lays_81 : decode cX5_lays 81 = .ok (.l2i, 1) := by decide +kernel
theorem dX5_lays_82 : decode cX5_lays 82 = .ok (.iastore, 1) := by decide +kernel
theorem dX5_lays_83 : decode cX5_lays 83 = .ok (.iinc 4 1, 3) := by decide +kernel
theorem dX5_lays_86 : decode cX5_lays 86 = .ok (.iinc 5 1, 3) := by decide +kernel
theorem dX5_lays_89 : decode cX5_lays 89 = .ok (.goto (-60), 3) := by decide +kernel
theorem dX5_lays_92 : decode cX5_lays 92 = .ok (.iload 4, 2) := by decide +kernel
theorem dX5_lays_94 : decode cX5_lays 94 = .ok (.ireturn, 1) := by decide +kernel
theorem dX5_book_0 : decode cX5_book 0 = .ok (.aload_n 0, 1) := by decide +kernel
theorem dX5_book_1 : decode cX5_book 1 = .ok (.iload_n 1, 1) := by decide +kernel
theorem dX5_book_2 : decode cX5_book 2 = .ok (.invokevirtual 213, 3) := by decide +kernel
theorem dX5_book_5 : decode cX5_book 5 = .ok (.istore_n 2, 1) := by decide +kernel
theorem dX5_book_6 : decode cX5_book 6 = .ok (.iload_n 2, 1) := by decide +kernel
theorem dX5_book_7 : decode cX5_book 7 = .ok (.ifCond .eq 9, 3) := by decide +kernel
theorem dX5_book_10 : decode cX5_book 10 = .ok (.aload_n 0, 1) := by decide +kernel
theorem dX5_book_11 : decode cX5_book 11 = .ok (.iload_n 2, 1) := by decide +kernel
theorem dX5_book_12 : decode cX5_book 12 = .ok (.invokevirtual 54, 3) := by decide +kernel
theorem dX5_book_15 : decode cX5_book 15 = .ok (.ireturn, 1) := by decide +kernel
theorem dX5_book_16 : decode cX5_book 16 = .ok (.aload_n 0, 1) := by decide +kernel
theorem dX5_book_17 : decode cX5_book 17 = .ok (.getfield 45, 3) := by decide +kernel
theorem dX5_book_20 : decode cX5_book 20 = .ok (.iload_n 1, 1) := by decide +kernel
theorem dX5_book_21 : decode cX5_book 21 = .ok (.aaload, 1) := by decide +kernel
theorem dX5_book_22 : decode cX5_book 22 = .ok (.astore_n 3, 1) := by decide +kernel
theorem dX5_book_23 : decode cX5_book 23 = .ok (.aload_n 0, 1) := by decide +kernel
theorem dX5_book_24 : decode cX5_book 24 = .ok (.getfield 16, 3) := by decide +kernel
theorem dX5_book_27 : decode cX5_book 27 = .ok (.aload_n 0, 1) := by decide +kernel
theorem dX5_book_28 : decode cX5_book 28 = .ok (.getfield 10, 3) := by decide +kernel
theorem dX5_book_31 : decode cX5_book 31 = .ok (.invokevirtual 166, 3) := by decide +kernel
theorem dX5_book_34 : decode cX5_book 34 = .ok (.iconst 0, 1) := by decide +kernel
theorem dX5_book_35 : decode cX5_book 35 = .ok (.istore 4, 2) := by decide +kernel
theorem dX5_book_37 : decode cX5_book 37 = .ok (.iload 4, 2) := by decide +kernel
theorem dX5_book_39 : decode cX5_book 39 = .ok (.aload_n 3, 1) := by decide +kernel
theorem dX5_book_40 : decode cX5_book 40 = .ok (.getfield 212, 3) := by decide +kernel
theorem dX5_book_43 : decode cX5_book 43 = .ok (.if_icmp .ge 30, 3) := by decide +kernel
theorem dX5_book_46 : decode cX5_book 46 = .ok (.aload_n 3, 1) := by decide +kernel
theorem dX5_book_47 : decode cX5_book 47 = .ok (.iload 4, 2) := by decide +kernel
theorem dX5_book_49 : decode cX5_book 49 = .ok (.aload_n 0, 1) := by decide +kernel
theorem dX5_book_50 : decode cX5_book 50 = .ok (.getfield 16, 3) := by decide +kernel
theorem dX5_book_53 : decode cX5_book 53 = .ok (.getfield 58, 3) := by decide +kernel
theorem dX5_book_56 : decode cX5_book 56 = .ok (.i2l, 1) := by decide +kernel
theorem dX5_book_57 : decode cX5_book 57 = .ok (.invokevirtual 220, 3) := by decide +kernel
theorem dX5_book_60 : decode cX5_book 60 = .ok (.aload_n 0, 1) := by decide +kernel
theorem dX5_book_61 : decode cX5_book 61 = .ok (.getfield 16, 3) := by decide +kernel
theorem dX5_book_64 : decode cX5_book 64 = .ok (.invokevirtual 170, 3) := by decide +kernel
theorem dX5_book_67 : decode cX5_book 67 = .ok (.iinc 4 1, 3) := by decide +kernel
theorem dX5_book_70 : decode cX5_book 70 = .ok (.goto (-33), 3) := by decide +kernel
theorem dX5_book_73 : decode cX5_book 73 = .ok (.aload_n 3, 1) := by decide +kernel
theorem dX5_book_74 : decode cX5_book 74 = .ok (.getfield 212, 3) := by decide +kernel
theorem dX5_book_77 : decode cX5_book 77 = .ok (.ireturn, 1) := by decide +kernel
theorem dX5_read_0 : decode cX5_read 0 = .ok (.aload_n 0, 1) := by decide +kernel
theorem dX5_read_1 : decode cX5_read 1 = .ok (.iload_n 1, 1) := by decide +kernel
theorem dX5_read_2 : decode cX5_read 2 = .ok (.invokevirtual 213, 3) := by decide +kernel
theorem dX5_read_5 : decode cX5_read 5 = .ok (.istore_n 3, 1) := by decide +kernel
theorem dX5_read_6 : decode cX5_read 6 = .ok (.iload_n 3, 1) := by decide +kernel
theorem dX5_read_7 : decode cX5_read 7 = .ok (.ifCond .eq 9, 3) := by decide +kernel
theorem dX5_read_10 : decode cX5_read 10 = .ok (.aload_n 0, 1) := by decide +kernel
theorem dX5_read_11 : decode cX5_read 11 = .ok (.iload_n 3, 1) := by decide +kernel
theorem dX5_read_12 : decode cX5_read 12 = .ok (.invokevirtual 54, 3) := by decide +kernel
theorem dX5_read_15 : decode cX5_read 15 = .ok (.ireturn, 1) := by decide +kernel
theorem dX5_read_16 : decode cX5_read 16 = .ok (.aload_n 0, 1) := by decide +kernel
theorem dX5_read_17 : decode cX5_read 17 = .ok (.getfield 10, 3) := by decide +kernel
theorem dX5_read_20 : decode cX5_read 20 = .ok (.iload_n 2, 1) := by decide +kernel
theorem dX5_read_21 : decode cX5_read 21 = .ok (.invokevirtual 101, 3) := by decide +kernel
theorem dX5_read_24 : decode cX5_read 24 = .ok (.ifCond .ne 10, 3) := by decide +kernel
theorem dX5_read_27 : decode cX5_read 27 = .ok (.aload_n 0, 1) := by decide +kernel
theorem dX5_read_28 : decode cX5_read 28 = .ok (.ldc 53, 2) := by decide +kernel
theorem dX5_read_30 : decode cX5_read 30 = .ok (.invokevirtual 54, 3) := by decide +kernel
theorem dX5_read_33 : decode cX5_read 33 = .ok (.ireturn, 1) := by decide +kernel
theorem dX5_read_34 : decode cX5_read 34 = .ok (.iconst 0, 1) := by decide +kernel
theorem dX5_read_35 : decode cX5_read 35 = .ok (.istore 4, 2) := by decide +kernel
theorem dX5_read_37 : decode cX5_read 37 = .ok (.iconst 0, 1) := by decide +kernel
theorem dX5_read_38 : decode cX5_read 38 = .ok (.istore 5, 2) := by decide +kernel
theorem dX5_read_40 : decode cX5_read 40 = .ok (.iload 5, 2) := by decide +kernel
theorem dX5_read_42 : decode cX5_read 42 = .ok (.bipush 6, 2) := by decide +kernel
theorem dX5_read_44 : decode cX5_read 44 = .ok (.if_icmp .ge 83, 3) := by decide +kernel
theorem dX5_read_47 : decode cX5_read 47 = .ok (.iconst 1, 1) := by decide +kernel
theorem dX5_read_48 : decode cX5_read 48 = .ok (.istore 6, 2) := by decide +kernel
theorem dX5_read_50 : decode cX5_read 50 = .ok (.iload 6, 2) := by decide +kernel
theorem dX5_read_52 : decode cX5_read 52 = .ok (.bipush 40, 2) := by decide +kernel
theorem dX5_read_54 : decode cX5_read 54 = .ok (.if_icmp .gt 67, 3) := by decide +kernel
theorem dX5_read_57 : decode cX5_read 57 = .ok (.aload_n 0, 1) := by decide +kernel
theorem dX5_read_58 : decode cX5_read 58 = .ok (.getfield 16, 3) := by decide +kernel
theorem dX5_read_61 : decode cX5_read 61 = .ok (.aload_n 0, 1) := by decide +kernel
theorem dX5_read_62 : decode cX5_read 62 = .ok (.getfield 10, 3) := by decide +kernel
theorem dX5_read_65 : decode cX5_read 65 = .ok (.invokevirtual 166, 3) := by decide +kernel
theorem dX5_read_68 : decode cX5_read 68 = .ok (.aload_n 0, 1) := by decide +kernel
theorem dX5_read_69 : decode cX5_read 69 = .ok (.getfield 16, 3) := by decide +kernel
theorem dX5_read_72 : decode cX5_read 72 = .ok (.getfield 104, 3) := by decide +kernel
theorem dX5_read_75 : decode cX5_read 75 = .ok (.iload_n 2, 1) := by decide +kernel
theorem dX5_read_76 : decode cX5_read 76 = .ok (.aaload, 1) := by decide +kernel
theorem dX5_read_77 : decode cX5_read 77 = .ok (.iload 5, 2) := by decide +kernel
theorem dX5_read_79 : decode cX5_read 79 = .ok (.putfield 112, 3) := by decide +kernel
theorem dX5_read_82 : decode cX5_read 82 = .ok (.aload_n 0, 1) := by decide +kernel
theorem dX5_read_83 : decode cX5_read 83 = .ok (.getfield 16, 3) := by decide +kernel
theorem dX5_read_86 : decode cX5_read 86 = .ok (.getfield 104, 3) := by decide +kernel
theorem dX5_read_89 : decode cX5_read 89 = .ok (.iload_n 2, 1) := by decide +kernel
theorem dX5_read_90 : decode cX5_read 90 = .ok (.aaload, 1) := by decide +kernel
theorem dX5_read_91 : decode cX5_read 91 = .ok (.iload 6, 2) := by decide +kernel
theorem dX5_read_93 : decode cX5_read 93 = .ok (.putfield 117, 3) := by decide +kernel
theorem dX5_read_96 : decode cX5_read 96 = .ok (.aload_n 0, 1) := by decide +kernel
theorem dX5_read_97 : decode cX5_read 97 = .ok (.getfield 16, 3) := by decide +kernel
theorem dX5_read_100 : decode cX5_read 100 = .ok (.aload_n 0, 1) := by decide +kernel
theorem dX5_read_101 : decode cX5_read 101 = .ok (.getfield 45, 3) := by decide +kernel
theorem dX5_read_104 : decode cX5_read 104 = .ok (.iload_n 1, 1) := by decide +kernel
theorem dX5_read_105 : decode cX5_read 105 = .ok (.aaload, 1) := by decide +kernel
theorem dX5_read_106 : decode cX5_read 106 = .ok (.invokevirtual 242, 3) := by decide +kernel
theorem dX5_read_109 : decode cX5_read 109 = .ok (.ifCond .eq 6, 3) := by decide +kernel
theorem dX5_read_112 : decode cX5_read 112 = .ok (.iinc 4 1, 3) := by decide +kernel
theorem dX5_read_115 : decode cX5_read 115 = .ok (.iinc 6 1, 3) := by decide +kernel
theorem dX5_read_118 : decode cX5_read 118 = .ok (.goto (-68), 3) := by decide +kernel
theorem dX5_read_121 : decode cX5_read 121 = .ok (.iinc 5 1, 3) := by decide +kernel
theorem dX5_read_124 : decode cX5_read 124 = .ok (.goto (-84), 3) := by decide +kernel
theorem dX5_read_127 : decode cX5_read 127 = .ok (.iload 4, 2) := by decide +kernel
theorem dX5_read_129 : decode cX5_read 129 = .ok (.ireturn, 1) := by decide +kernel
theorem dX5_image_0 : decode cX5_image 0 = .ok (.aload_n 0, 1) := by decide +kernel
theorem dX5_image_1 : decode cX5_image 1 = .ok (.getfield 19, 3) := by decide +kernel
theorem dX5_image_4 : decode cX5_image 4 = .ok (.aload_n 0, 1) := by decide +kernel
theorem dX5_image_5 : decode cX5_image 5 = .ok (.getfield 10, 3) := by decide +kernel
theorem dX5_image_8 : decode cX5_image 8 = .ok (.invokevirtual 166, 3) := by decide +kernel
theorem dX5_image_11 : decode cX5_image 11 = .ok (.aload_n 0, 1) := by decide +kernel
theorem dX5_image_12 : decode cX5_image 12 = .ok (.iconst 1, 1) := by decide +kernel
theorem dX5_image_13 : decode cX5_image 13 = .ok (.putfield 22, 3) := by decide +kernel
theorem dX5_image_16 : decode cX5_image 16 = .ok (.iconst 1, 1) := by decide +kernel
theorem dX5_image_17 : decode cX5_image 17 = .ok (.ireturn, 1) := by decide +kernel
theorem dX5_undo_0 : decode cX5_undo 0 = .ok (.aload_n 0, 1) := by decide +kernel
theorem dX5_undo_1 : decode cX5_undo 1 = .ok (.getfield 22, 3) := by decide +kernel
theorem dX5_undo_4 : decode cX5_undo 4 = .ok (.ifCond .ne 10, 3) := by decide +kernel
theorem dX5_undo_7 : decode cX5_undo 7 = .ok (.aload_n 0, 1) := by decide +kernel
theorem dX5_undo_8 : decode cX5_undo 8 = .ok (.ldc 153, 2) := by decide +kernel
theorem dX5_undo_10 : decode cX5_undo 10 = .ok (.invokevirtual 54, 3) := by decide +kernel
theorem dX5_undo_13 : decode cX5_undo 13 = .ok (.ireturn, 1) := by decide +kernel
theorem dX5_undo_14 : decode cX5_undo 14 = .ok (.aload_n 0, 1) := by decide +kernel
theorem dX5_undo_15 : decode cX5_undo 15 = .ok (.getfield 10, 3) := by decide +kernel
theorem dX5_undo_18 : decode cX5_undo 18 = .ok (.aload_n 0, 1) := by decide +kernel
theorem dX5_undo_19 : decode cX5_undo 19 = .ok (.getfield 19, 3) := by decide +kernel
theorem dX5_undo_22 : decode cX5_undo 22 = .ok (.invokevirtual 166, 3) := by decide +kernel
theorem dX5_undo_25 : decode cX5_undo 25 = .ok (.aload_n 0, 1) := by decide +kernel
theorem dX5_undo_26 : decode cX5_undo 26 = .ok (.getfield 10, 3) := by decide +kernel
theorem dX5_undo_29 : decode cX5_undo 29 = .ok (.getfield 94, 3) := by decide +kernel
theorem dX5_undo_32 : decode cX5_undo 32 = .ok (.ireturn, 1) := by decide +kernel
theorem dX5_tear_0 : decode cX5_tear 0 = .ok (.aload_n 0, 1) := by decide +kernel
theorem dX5_tear_1 : decode cX5_tear 1 = .ok (.getfield 22, 3) := by decide +kernel
theorem dX5_tear_4 : decode cX5_tear 4 = .ok (.ifCond .eq 7, 3) := by decide +kernel
theorem dX5_tear_7 : decode cX5_tear 7 = .ok (.iconst 1, 1) := by decide +kernel
theorem dX5_tear_8 : decode cX5_tear 8 = .ok (.goto 4, 3) := by decide +kernel
theorem dX5_tear_11 : decode cX5_tear 11 = .ok (.iconst 0, 1) := by decide +kernel
theorem dX5_tear_12 : decode cX5_tear 12 = .ok (.istore_n 1, 1) := by decide +kernel
theorem dX5_tear_13 : decode cX5_tear 13 = .ok (.aload_n 0, 1) := by decide +kernel
theorem dX5_tear_14 : decode cX5_tear 14 = .ok (.iconst 0, 1) := by decide +kernel
theorem dX5_tear_15 : decode cX5_tear 15 = .ok (.putfield 22, 3) := by decide +kernel
theorem dX5_tear_18 : decode cX5_tear 18 = .ok (.iload_n 1, 1) := by decide +kernel
theorem dX5_tear_19 : decode cX5_tear 19 = .ok (.ireturn, 1) := by decide +kernel
theorem dX5_count_0 : decode cX5_count 0 = .ok (.iload_n 1, 1) := by decide +kernel
theorem dX5_count_1 : decode cX5_count 1 = .ok (.tableswitch 66 0 3 #[31, 39, 47, 58], 31) := by decide +kernel
theorem dX5_count_32 : decode cX5_count 32 = .ok (.aload_n 0, 1) := by decide +kernel
theorem dX5_count_33 : decode cX5_count 33 = .ok (.getfield 10, 3) := by decide +kernel
theorem dX5_count_36 : decode cX5_count 36 = .ok (.getfield 94, 3) := by decide +kernel
theorem dX5_count_39 : decode cX5_count 39 = .ok (.ireturn, 1) := by decide +kernel
theorem dX5_count_40 : decode cX5_count 40 = .ok (.aload_n 0, 1) := by decide +kernel
theorem dX5_count_41 : decode cX5_count 41 = .ok (.getfield 29, 3) := by decide +kernel
theorem dX5_count_44 : decode cX5_count 44 = .ok (.getfield 194, 3) := by decide +kernel
theorem dX5_count_47 : decode cX5_count 47 = .ok (.ireturn, 1) := by decide +kernel
theorem dX5_count_48 : decode cX5_count 48 = .ok (.aload_n 0, 1) := by decide +kernel
theorem dX5_count_49 : decode cX5_count 49 = .ok (.getfield 10, 3) := by decide +kernel
theorem dX5_count_52 : decode cX5_count 52 = .ok (.invokevirtual 81, 3) := by decide +kernel
theorem dX5_count_55 : decode cX5_count 55 = .ok (.invokestatic 246, 3) := by decide +kernel
theorem dX5_count_58 : decode cX5_count 58 = .ok (.ireturn, 1) := by decide +kernel
theorem dX5_count_59 : decode cX5_count 59 = .ok (.aload_n 0, 1) := by decide +kernel
theorem dX5_count_60 : decode cX5_count 60 = .ok (.getfield 10, 3) := by decide +kernel
theorem dX5_count_63 : decode cX5_count 63 = .ok (.invokevirtual 191, 3) := by decide +kernel
theorem dX5_count_66 : decode cX5_count 66 = .ok (.ireturn, 1) := by decide +kernel
theorem dX5_count_67 : decode cX5_count 67 = .ok (.aload_n 0, 1) := by decide +kernel
theorem dX5_count_68 : decode cX5_count 68 = .ok (.ldc 53, 2) := by decide +kernel
theorem dX5_count_70 : decode cX5_count 70 = .ok (.invokevirtual 54, 3) := by decide +kernel
theorem dX5_count_73 : decode cX5_count 73 = .ok (.ireturn, 1) := by decide +kernel
theorem dX5_status_0 : decode cX5_status 0 = .ok (.iload_n 1, 1) := by decide +kernel
theorem dX5_status_1 : decode cX5_status 1 = .ok (.iconst (-1), 1) := by decide +kernel
theorem dX5_status_2 : decode cX5_status 2 = .ok (.if_icmp .lt 9, 3) := by decide +kernel
theorem dX5_status_5 : decode cX5_status 5 = .ok (.iload_n 1, 1) := by decide +kernel
theorem dX5_status_6 : decode cX5_status 6 = .ok (.bipush 7, 2) := by decide +kernel
theorem dX5_status_8 : decode cX5_status 8 = .ok (.if_icmp .lt 10, 3) := by decide +kernel
theorem dX5_status_11 : decode cX5_status 11 = .ok (.aload_n 0, 1) := by decide +kernel
theorem dX5_status_12 : decode cX5_status 12 = .ok (.ldc 53, 2) := by decide +kernel
theorem dX5_status_14 : decode cX5_status 14 = .ok (.invokevirtual 54, 3) := by decide +kernel
theorem dX5_status_17 : decode cX5_status 17 = .ok (.ireturn, 1) := by decide +kernel
theorem dX5_status_18 : decode cX5_status 18 = .ok (.iload_n 1, 1) := by decide +kernel
theorem dX5_status_19 : decode cX5_status 19 = .ok (.ifCond .lt 10, 3) := by decide +kernel
theorem dX5_status_22 : decode cX5_status 22 = .ok (.aload_n 0, 1) := by decide +kernel
theorem dX5_status_23 : decode cX5_status 23 = .ok (.getfield 49, 3) := by decide +kernel
theorem dX5_status_26 : decode cX5_status 26 = .ok (.iload_n 1, 1) := by decide +kernel
theorem dX5_status_27 : decode cX5_status 27 = .ok (.iaload, 1) := by decide +kernel
theorem dX5_status_28 : decode cX5_status 28 = .ok (.ireturn, 1) := by decide +kernel
theorem dX5_status_29 : decode cX5_status 29 = .ok (.iconst 0, 1) := by decide +kernel
theorem dX5_status_30 : decode cX5_status 30 = .ok (.istore_n 2, 1) := by decide +kernel
theorem dX5_status_31 : decode cX5_status 31 = .ok (.iconst 0, 1) := by decide +kernel
theorem dX5_status_32 : decode cX5_status 32 = .ok (.istore_n 3, 1) := by decide +kernel
theorem dX5_status_33 : decode cX5_status 33 = .ok (.iload_n 3, 1) := by decide +kernel
theorem dX5_status_34 : decode cX5_status 34 = .ok (.bipush 7, 2) := by decide +kernel
theorem dX5_status_36 : decode cX5_status 36 = .ok (.if_icmp .ge 18, 3) := by decide +kernel
theorem dX5_status_39 : decode cX5_status 39 = .ok (.iload_n 2, 1) := by decide +kernel
theorem dX5_status_40 : decode cX5_status 40 = .ok (.aload_n 0, 1) := by decide +kernel
theorem dX5_status_41 : decode cX5_status 41 = .ok (.getfield 49, 3) := by decide +kernel
theorem dX5_status_44 : decode cX5_status 44 = .ok (.iload_n 3, 1) := by decide +kernel
theorem dX5_status_45 : decode cX5_status 45 = .ok (.iaload, 1) := by decide +kernel
theorem dX5_status_46 : decode cX5_status 46 = .ok (.iadd, 1) := by decide +kernel
theorem dX5_status_47 : decode cX5_status 47 = .ok (.istore_n 2, 1) := by decide +kernel
theorem dX5_status_48 : decode cX5_status 48 = .ok (.iinc 3 1, 3) := by decide +kernel
theorem dX5_status_51 : decode cX5_status 51 = .ok (.goto (-18), 3) := by decide +kernel
theorem dX5_status_54 : decode cX5_status 54 = .ok (.iload_n 2, 1) := by decide +kernel
theorem dX5_status_55 : decode cX5_status 55 = .ok (.ireturn, 1) := by decide +kernel
theorem dX5_found_0 : decode cX5_found 0 = .ok (.ldc 53, 2) := by decide +kernel
theorem dX5_found_2 : decode cX5_found 2 = .ok (.iload_n 1, 1) := by decide +kernel
theorem dX5_found_3 : decode cX5_found 3 = .ok (.isub, 1) := by decide +kernel
theorem dX5_found_4 : decode cX5_found 4 = .ok (.istore_n 2, 1) := by decide +kernel
theorem dX5_found_5 : decode cX5_found 5 = .ok (.iload_n 2, 1) := by decide +kernel
theorem dX5_found_6 : decode cX5_found 6 = .ok (.ifCond .lt 19, 3) := by decide +kernel
theorem dX5_found_9 : decode cX5_found 9 = .ok (.iload_n 2, 1) := by decide +kernel
theorem dX5_found_10 : decode cX5_found 10 = .ok (.bipush 7, 2) := by decide +kernel
theorem dX5_found_12 : decode cX5_found 12 = .ok (.if_icmp .ge 13, 3) := by decide +kernel
theorem dX5_found_15 : decode cX5_found 15 = .ok (.aload_n 0, 1) := by decide +kernel
theorem dX5_found_16 : decode cX5_found 16 = .ok (.getfield 49, 3) := by decide +kernel
theorem dX5_found_19 : decode cX5_found 19 = .ok (.iload_n 2, 1) := by decide +kernel
theorem dX5_found_20 : decode cX5_found 20 = .ok (.dup2, 1) := by decide +kernel
theorem dX5_found_21 : decode cX5_found 21 = .ok (.iaload, 1) := by decide +kernel
theorem dX5_found_22 : decode cX5_found 22 = .ok (.iconst 1, 1) := by decide +kernel
theorem dX5_found_23 : decode cX5_found 23 = .ok (.iadd, 1) := by decide +kernel
theorem dX5_found_24 : decode cX5_found 24 = .ok (.iastore, 1) := by decide +kernel
theorem dX5_found_25 : decode cX5_found 25 = .ok (.iload_n 1, 1) := by decide +kernel
theorem dX5_found_26 : decode cX5_found 26 = .ok (.ireturn, 1) := by decide +kernel
theorem dX5_isKind_0 : decode cX5_isKind 0 = .ok (.iload_n 0, 1) := by decide +kernel
theorem dX5_isKind_1 : decode cX5_isKind 1 = .ok (.ifCond .lt 13, 3) := by decide +kernel
theorem dX5_isKind_4 : decode cX5_isKind 4 = .ok (.iload_n 0, 1) := by decide +kernel
theorem dX5_isKind_5 : decode cX5_isKind 5 = .ok (.bipush 6, 2) := by decide +kernel
theorem dX5_isKind_7 : decode cX5_isKind 7 = .ok (.if_icmp .ge 7, 3) := by decide +kernel
theorem dX5_isKind_10 : decode cX5_isKind 10 = .ok (.iconst 1, 1) := by decide +kernel
theorem dX5_isKind_11 : decode cX5_isKind 11 = .ok (.goto 4, 3) := by decide +kernel
theorem dX5_isKind_14 : decode cX5_isKind 14 = .ok (.iconst 0, 1) := by decide +kernel
theorem dX5_isKind_15 : decode cX5_isKind 15 = .ok (.ireturn, 1) := by decide +kernel
theorem dX5_isUnder_0 : decode cX5_isUnder 0 = .ok (.iload_n 0, 1) := by decide +kernel
theorem dX5_isUnder_1 : decode cX5_isUnder 1 = .ok (.istore_n 2, 1) := by decide +kernel
theorem dX5_isUnder_2 : decode cX5_isUnder 2 = .ok (.iconst 0, 1) := by decide +kernel
theorem dX5_isUnder_3 : decode cX5_isUnder 3 = .ok (.istore_n 3, 1) := by decide +kernel
theorem dX5_isUnder_4 : decode cX5_isUnder 4 = .ok (.iload_n 3, 1) := by decide +kernel
theorem dX5_isUnder_5 : decode cX5_isUnder 5 = .ok (.bipush 6, 2) := by decide +kernel
theorem dX5_isUnder_7 : decode cX5_isUnder 7 = .ok (.if_icmp .ge 32, 3) := by decide +kernel
theorem dX5_isUnder_10 : decode cX5_isUnder 10 = .ok (.iload_n 2, 1) := by decide +kernel
theorem dX5_isUnder_11 : decode cX5_isUnder 11 = .ok (.ifCond .lt 28, 3) := by decide +kernel
theorem dX5_isUnder_14 : decode cX5_isUnder 14 = .ok (.iload_n 2, 1) := by decide +kernel
theorem dX5_isUnder_15 : decode cX5_isUnder 15 = .ok (.bipush 6, 2) := by decide +kernel
theorem dX5_isUnder_17 : decode cX5_isUnder 17 = .ok (.if_icmp .ge 22, 3) := by decide +kernel
theorem dX5_isUnder_20 : decode cX5_isUnder 20 = .ok (.iload_n 2, 1) := by decide +kernel
theorem dX5_isUnder_21 : decode cX5_isUnder 21 = .ok (.iload_n 1, 1) := by decide +kernel
theorem dX5_isUnder_22 : decode cX5_isUnder 22 = .ok (.if_icmp .ne 5, 3) := by decide +kernel
theorem dX5_isUnder_25 : decode cX5_isUnder 25 = .ok (.iconst 1, 1) := by decide +kernel
theorem dX5_isUnder_26 : decode cX5_isUnder 26 = .ok (.ireturn, 1) := by decide +kernel
theorem dX5_isUnder_27 : decode cX5_isUnder 27 = .ok (.getstatic 249, 3) := by decide +kernel
theorem dX5_isUnder_30 : decode cX5_isUnder 30 = .ok (.iload_n 2, 1) := by decide +kernel
theorem dX5_isUnder_31 : decode cX5_isUnder 31 = .ok (.iaload, 1) := by decide +kernel
theorem dX5_isUnder_32 : decode cX5_isUnder 32 = .ok (.istore_n 2, 1) := by decide +kernel
theorem dX5_isUnder_33 : decode cX5_isUnder 33 = .ok (.iinc 3 1, 3) := by decide +kernel
theorem dX5_isUnder_36 : decode cX5_isUnder 36 = .ok (.goto (-32), 3) := by decide +kernel
theorem dX5_isUnder_39 : decode cX5_isUnder 39 = .ok (.iconst 0, 1) := by decide +kernel
theorem dX5_isUnder_40 : decode cX5_isUnder 40 = .ok (.ireturn, 1) := by decide +kernel
theorem dX5_maySet_0 : decode cX5_maySet 0 = .ok (.iload_n 0, 1) := by decide +kernel
theorem dX5_maySet_1 : decode cX5_maySet 1 = .ok (.tableswitch 96 1 4 #[31, 48, 63, 79], 31) := by decide +kernel
theorem dX5_maySet_32 : decode cX5_maySet 32 = .ok (.iload_n 1, 1) := by decide +kernel
theorem dX5_maySet_33 : decode cX5_maySet 33 = .ok (.iconst 1, 1) := by decide +kernel
theorem dX5_maySet_34 : decode cX5_maySet 34 = .ok (.if_icmp .lt 13, 3) := by decide +kernel
theorem dX5_maySet_37 : decode cX5_maySet 37 = .ok (.iload_n 1, 1) := by decide +kernel
theorem dX5_maySet_38 : decode cX5_maySet 38 = .ok (.bipush 40, 2) := by decide +kernel
theorem dX5_maySet_40 : decode cX5_maySet 40 = .ok (.if_icmp .gt 7, 3) := by decide +kernel
theorem dX5_maySet_43 : decode cX5_maySet 43 = .ok (.iconst 1, 1) := by decide +kernel
theorem dX5_maySet_44 : decode cX5_maySet 44 = .ok (.goto 4, 3) := by decide +kernel
theorem dX5_maySet_47 : decode cX5_maySet 47 = .ok (.iconst 0, 1) := by decide +kernel
theorem dX5_maySet_48 : decode cX5_maySet 48 = .ok (.ireturn, 1) := by decide +kernel
theorem dX5_maySet_49 : decode cX5_maySet 49 = .ok (.iload_n 1, 1) := by decide +kernel
theorem dX5_maySet_50 : decode cX5_maySet 50 = .ok (.ifCond .lt 12, 3) := by decide +kernel
theorem dX5_maySet_53 : decode cX5_maySet 53 = .ok (.iload_n 1, 1) := by decide +kernel
theorem dX5_maySet_54 : decode cX5_maySet 54 = .ok (.iconst 1, 1) := by decide +kernel
theorem dX5_maySet_55 : decode cX5_maySet 55 = .ok (.if_icmp .gt 7, 3) := by decide +kernel
theorem dX5_maySet_58 : decode cX5_maySet 58 = .ok (.iconst 1, 1) := by decide +kernel
theorem dX5_maySet_59 : decode cX5_maySet 59 = .ok (.goto 4, 3) := by decide +kernel
theorem dX5_maySet_62 : decode cX5_maySet 62 = .ok (.iconst 0, 1) := by decide +kernel
theorem dX5_maySet_63 : decode cX5_maySet 63 = .ok (.ireturn, 1) := by decide +kernel
theorem dX5_maySet_64 : decode cX5_maySet 64 = .ok (.iload_n 1, 1) := by decide +kernel
theorem dX5_maySet_65 : decode cX5_maySet 65 = .ok (.ifCond .lt 13, 3) := by decide +kernel
theorem dX5_maySet_68 : decode cX5_maySet 68 = .ok (.iload_n 1, 1) := by decide +kernel
theorem dX5_maySet_69 : decode cX5_maySet 69 = .ok (.bipush 99, 2) := by decide +kernel
theorem dX5_maySet_71 : decode cX5_maySet 71 = .ok (.if_icmp .gt 7, 3) := by decide +kernel
theorem dX5_maySet_74 : decode cX5_maySet 74 = .ok (.iconst 1, 1) := by decide +kernel
theorem dX5_maySet_75 : decode cX5_maySet 75 = .ok (.goto 4, 3) := by decide +kernel
theorem dX5_maySet_78 : decode cX5_maySet 78 = .ok (.iconst 0, 1) := by decide +kernel
theorem dX5_maySet_79 : decode cX5_maySet 79 = .ok (.ireturn, 1) := by decide +kernel
theorem dX5_maySet_80 : decode cX5_maySet 80 = .ok (.iload_n 1, 1) := by decide +kernel
theorem dX5_maySet_81 : decode cX5_maySet 81 = .ok (.ifCond .lt 14, 3) := by decide +kernel
theorem dX5_maySet_84 : decode cX5_maySet 84 = .ok (.iload_n 1, 1) := by decide +kernel
theorem dX5_maySet_85 : decode cX5_maySet 85 = .ok (.sipush 9999, 3) := by decide +kernel
theorem dX5_maySet_88 : decode cX5_maySet 88 = .ok (.if_icmp .gt 7, 3) := by decide +kernel
theorem dX5_maySet_91 : decode cX5_maySet 91 = .ok (.iconst 1, 1) := by decide +kernel
theorem dX5_maySet_92 : decode cX5_maySet 92 = .ok (.goto 4, 3) := by decide +kernel
theorem dX5_maySet_95 : decode cX5_maySet 95 = .ok (.iconst 0, 1) := by decide +kernel
theorem dX5_maySet_96 : decode cX5_maySet 96 = .ok (.ireturn, 1) := by decide +kernel
theorem dX5_maySet_97 : decode cX5_maySet 97 = .ok (.iconst 0, 1) := by decide +kernel
theorem dX5_maySet_98 : decode cX5_maySet 98 = .ok (.ireturn, 1) := by decide +kernel
theorem dX5_isTried_0 : decode cX5_isTried 0 = .ok (.iload_n 0, 1) := by decide +kernel
theorem dX5_isTried_1 : decode cX5_isTried 1 = .ok (.iconst 1, 1) := by decide +kernel
theorem dX5_isTried_2 : decode cX5_isTried 2 = .ok (.if_icmp .lt 13, 3) := by decide +kernel
theorem dX5_isTried_5 : decode cX5_isTried 5 = .ok (.iload_n 0, 1) := by decide +kernel
theorem dX5_isTried_6 : decode cX5_isTried 6 = .ok (.bipush 100, 2) := by decide +kernel
theorem dX5_isTried_8 : decode cX5_isTried 8 = .ok (.if_icmp .gt 7, 3) := by decide +kernel
theorem dX5_isTried_11 : decode cX5_isTried 11 = .ok (.iconst 1, 1) := by decide +kernel
theorem dX5_isTried_12 : decode cX5_isTried 12 = .ok (.goto 4, 3) := by decide +kernel
theorem dX5_isTried_15 : decode cX5_isTried 15 = .ok (.iconst 0, 1) := by decide +kernel
theorem dX5_isTried_16 : decode cX5_isTried 16 = .ok (.ireturn, 1) := by decide +kernel
theorem dX5_isAhead_0 : decode cX5_isAhead 0 = .ok (.iload_n 0, 1) := by decide +kernel
theorem dX5_isAhead_1 : decode cX5_isAhead 1 = .ok (.ifCond .lt 14, 3) := by decide +kernel
theorem dX5_isAhead_4 : decode cX5_isAhead 4 = .ok (.iload_n 0, 1) := by decide +kernel
theorem dX5_isAhead_5 : decode cX5_isAhead 5 = .ok (.sipush 400, 3) := by decide +kernel
theorem dX5_isAhead_8 : decode cX5_isAhead 8 = .ok (.if_icmp .gt 7, 3) := by decide +kernel
theorem dX5_isAhead_11 : decode cX5_isAhead 11 = .ok (.iconst 1, 1) := by decide +kernel
theorem dX5_isAhead_12 : decode cX5_isAhead 12 = .ok (.goto 4, 3) := by decide +kernel
theorem dX5_isAhead_15 : decode cX5_isAhead 15 = .ok (.iconst 0, 1) := by decide +kernel
theorem dX5_isAhead_16 : decode cX5_isAhead 16 = .ok (.ireturn, 1) := by decide +kernel
theorem dX5_isSheet_0 : decode cX5_isSheet 0 = .ok (.iload_n 0, 1) := by decide +kernel
theorem dX5_isSheet_1 : decode cX5_isSheet 1 = .ok (.ifCond .lt 12, 3) := by decide +kernel
theorem dX5_isSheet_4 : decode cX5_isSheet 4 = .ok (.iload_n 0, 1) := by decide +kernel
theorem dX5_isSheet_5 : decode cX5_isSheet 5 = .ok (.iconst 4, 1) := by decide +kernel
theorem dX5_isSheet_6 : decode cX5_isSheet 6 = .ok (.if_icmp .ge 7, 3) := by decide +kernel
theorem dX5_isSheet_9 : decode cX5_isSheet 9 = .ok (.iconst 1, 1) := by decide +kernel
theorem dX5_isSheet_10 : decode cX5_isSheet 10 = .ok (.goto 4, 3) := by decide +kernel
theorem dX5_isSheet_13 : decode cX5_isSheet 13 = .ok (.iconst 0, 1) := by decide +kernel
theorem dX5_isSheet_14 : decode cX5_isSheet 14 = .ok (.ireturn, 1) := by decide +kernel
theorem dX5_askSheet_0 : decode cX5_askSheet 0 = .ok (.iload_n 1, 1) := by decide +kernel
theorem dX5_askSheet_1 : decode cX5_askSheet 1 = .ok (.invokestatic 204, 3) := by decide +kernel
theorem dX5_askSheet_4 : decode cX5_askSheet 4 = .ok (.ifCond .ne 6, 3) := by decide +kernel
theorem dX5_askSheet_7 : decode cX5_askSheet 7 = .ok (.ldc 53, 2) := by decide +kernel
theorem dX5_askSheet_9 : decode cX5_askSheet 9 = .ok (.ireturn, 1) := by decide +kernel
theorem dX5_askSheet_10 : decode cX5_askSheet 10 = .ok (.aload_n 0, 1) := by decide +kernel
theorem dX5_askSheet_11 : decode cX5_askSheet 11 = .ok (.getfield 45, 3) := by decide +kernel
theorem dX5_askSheet_14 : decode cX5_askSheet 14 = .ok (.iload_n 1, 1) := by decide +kernel
theorem dX5_askSheet_15 : decode cX5_askSheet 15 = .ok (.aaload, 1) := by decide +kernel
theorem dX5_askSheet_16 : decode cX5_askSheet 16 = .ok (.invokevirtual 224, 3) := by decide +kernel
theorem dX5_askSheet_19 : decode cX5_askSheet 19 = .ok (.ifCond .eq 8, 3) := by decide +kernel
theorem dX5_askSheet_22 : decode cX5_askSheet 22 = .ok (.ldc 227, 2) := by decide +kernel
theorem dX5_askSheet_24 : decode cX5_askSheet 24 = .ok (.goto 4, 3) := by decide +kernel
theorem dX5_askSheet_27 : decode cX5_askSheet 27 = .ok (.iconst 0, 1) := by decide +kernel
theorem dX5_askSheet_28 : decode cX5_askSheet 28 = .ok (.ireturn, 1) := by decide +kernel
theorem dX6_init_0 : decode cX6_init 0 = .ok (.aload_n 0, 1) := by decide +kernel
theorem dX6_init_1 : decode cX6_init 1 = .ok (.invokespecial 3, 3) := by decide +kernel
theorem dX6_init_4 : decode cX6_init 4 = .ok (.aload_n 0, 1) := by decide +kernel
theorem dX6_init_5 : decode cX6_init 5 = .ok (.bipush 61, 2) := by decide +kernel
theorem dX6_init_7 : decode cX6_init 7 = .ok (.newarray .int, 2) := by decide +kernel
theorem dX6_init_9 : decode cX6_init 9 = .ok (.putfield 9, 3) := by decide +kernel
theorem dX6_init_12 : decode cX6_init 12 = .ok (.aload_n 0, 1) := by decide +kernel
theorem dX6_init_13 : decode cX6_init 13 = .ok (.bipush 61, 2) := by decide +kernel
theorem dX6_init_15 : decode cX6_init 15 = .ok (.newarray .int, 2) := by decide +kernel
theorem dX6_init_17 : decode cX6_init 17 = .ok (.putfield 13, 3) := by decide +kernel
theorem dX6_init_20 : decode cX6_init 20 = .ok (.aload_n 0, 1) := by decide +kernel
theorem dX6_init_21 : decode cX6_init 21 = .ok (.bipush 61, 2) := by decide +kernel
theorem dX6_init_23 : decode cX6_init 23 = .ok (.newarray .int, 2) := by decide +kernel
theorem dX6_init_25 : decode cX6_init 25 = .ok (.putfield 16, 3) := by decide +kernel
theorem dX6_init_28 : decode cX6_init 28 = .ok (.aload_n 0, 1) := by decide +kernel
theorem dX6_init_29 : decode cX6_init 29 = .ok (.bipush 7, 2) := by decide +kernel
theorem dX6_init_31 : decode cX6_init 31 = .ok (.newarray .int, 2) := by decide +kernel
theorem dX6_init_33 : decode cX6_init 33 = .ok (.putfield 19, 3) := by decide +kernel
theorem dX6_init_36 : decode cX6_init 36 = .ok (.aload_n 0, 1) := by decide +kernel
theorem dX6_init_37 : decode cX6_init 37 = .ok (.bipush 120, 2) := by decide +kernel
theorem dX6_init_39 : decode cX6_init 39 = .ok (.newarray .int, 2) := by decide +kernel
theorem dX6_init_41 : decode cX6_init 41 = .ok (.putfield 22, 3) := by decide +kernel
theorem dX6_init_44 : decode cX6_init 44 = .ok (.aload_n 0, 1) := by decide +kernel
end
section
theorem dX6_init_45 : decode cX6_init 45 = .ok (.iconst 4, 1) := by decide +kernel
theorem dX6_init_46 : decode cX6_init 46 = .ok (.newarray .int, 2) := by decide +kernel
theorem dX6_init_48 : decode cX6_init 48 = .ok (.putfield 25, 3) := by decide +kernel
theorem dX6_init_51 : decode cX6_init 51 = .ok (.aload_n 0, 1) := by decide +kernel
theorem dX6_init_52 : decode cX6_init 52 = .ok (.iconst 4, 1) := by decide +kernel
theorem dX6_init_53 : decode cX6_init 53 = .ok (.newarray .int, 2) := by decide +kernel
theorem dX6_init_55 : decode cX6_init 55 = .ok (.putfield 28, 3) := by decide +kernel
theorem dX6_init_58 : decode cX6_init 58 = .ok (.aload_n 0, 1) := by decide +kernel
theorem dX6_init_59 : decode cX6_init 59 = .ok (.sipush 160, 3) := by decide +kernel
theorem dX6_init_62 : decode cX6_init 62 = .ok (.newarray .long, 2) := by decide +kernel
theorem dX6_init_64 : decode cX6_init 64 = .ok (.putfield 31, 3) := by decide +kernel
theorem dX6_init_67 : decode cX6_init 67 = .ok (.aload_n 0, 1) := by decide +kernel
theorem dX6_init_68 : decode cX6_init 68 = .ok (.getfield 9, 3) := by decide +kernel
theorem dX6_init_71 : decode cX6_init 71 = .ok (.iconst 1, 1) := by decide +kernel
theorem dX6_init_72 : decode cX6_init 72 = .ok (.sipush 500, 3) := by decide +kernel
theorem dX6_init_75 : decode cX6_init 75 = .ok (.iastore, 1) := by decide +kernel
theorem dX6_init_76 : decode cX6_init 76 = .ok (.aload_n 0, 1) := by decide +kernel
theorem dX6_init_77 : decode cX6_init 77 = .ok (.getfield 9, 3) := by decide +kernel
theorem dX6_init_80 : decode cX6_init 80 = .ok (.iconst 2, 1) := by decide +kernel
theorem dX6_init_81 : decode cX6_init 81 = .ok (.sipush 200, 3) := by decide +kernel
theorem dX6_init_84 : decode cX6_init 84 = .ok (.iastore, 1) := by decide +kernel
theorem dX6_init_85 : decode cX6_init 85 = .ok (.aload_n 0, 1) := by decide +kernel
theorem dX6_init_86 : decode cX6_init 86 = .ok (.getfield 9, 3) := by decide +kernel
theorem dX6_init_89 : decode cX6_init 89 = .ok (.iconst 3, 1) := by decide +kernel
theorem dX6_init_90 : decode cX6_init 90 = .ok (.sipush 600, 3) := by decide +kernel
theorem dX6_init_93 : decode cX6_init 93 = .ok (.iastore, 1) := by decide +kernel
theorem dX6_init_94 : decode cX6_init 94 = .ok (.iconst 0, 1) := by decide +kernel
theorem dX6_init_95 : decode cX6_init 95 = .ok (.istore_n 1, 1) := by decide +kernel
theorem dX6_init_96 : decode cX6_init 96 = .ok (.iload_n 1, 1) := by decide +kernel
theorem dX6_init_97 : decode cX6_init 97 = .ok (.bipush 8, 2) := by decide +kernel
theorem dX6_init_99 : decode cX6_init 99 = .ok (.if_icmp .ge 25, 3) := by decide +kernel
theorem dX6_init_102 : decode cX6_init 102 = .ok (.aload_n 0, 1) := by decide +kernel
theorem dX6_init_103 : decode cX6_init 103 = .ok (.getfield 9, 3) := by decide +kernel
theorem dX6_init_106 : decode cX6_init 106 = .ok (.iconst 5, 1) := by decide +kernel
theorem dX6_init_107 : decode cX6_init 107 = .ok (.iload_n 1, 1) := by decide +kernel
theorem dX6_init_108 : decode cX6_init 108 = .ok (.iadd, 1) := by decide +kernel
theorem dX6_init_109 : decode cX6_init 109 = .ok (.iconst 5, 1) := by decide +kernel
theorem dX6_init_110 : decode cX6_init 110 = .ok (.iload_n 1, 1) := by decide +kernel
theorem dX6_init_111 : decode cX6_init 111 = .ok (.imul, 1) := by decide +kernel
theorem dX6_init_112 : decode cX6_init 112 = .ok (.bipush 13, 2) := by decide +kernel
theorem dX6_init_114 : decode cX6_init 114 = .ok (.irem, 1) := by decide +kernel
theorem dX6_init_115 : decode cX6_init 115 = .ok (.iconst 3, 1) := by decide +kernel
theorem dX6_init_116 : decode cX6_init 116 = .ok (.iadd, 1) := by decide +kernel
theorem dX6_init_117 : decode cX6_init 117 = .ok (.iastore, 1) := by decide +kernel
theorem dX6_init_118 : decode cX6_init 118 = .ok (.iinc 1 1, 3) := by decide +kernel
theorem dX6_init_121 : decode cX6_init 121 = .ok (.goto (-25), 3) := by decide +kernel
theorem dX6_init_124 : decode cX6_init 124 = .ok (.return_, 1) := by decide +kernel
theorem dX6_finds_0 : decode cX6_finds 0 = .ok (.aload_n 0, 1) := by decide +kernel
theorem dX6_finds_1 : decode cX6_finds 1 = .ok (.getfield 19, 3) := by decide +kernel
theorem dX6_finds_4 : decode cX6_finds 4 = .ok (.ldc 35, 2) := by decide +kernel
theorem dX6_finds_6 : decode cX6_finds 6 = .ok (.iload_n 1, 1) := by decide +kernel
theorem dX6_finds_7 : decode cX6_finds 7 = .ok (.isub, 1) := by decide +kernel
theorem dX6_finds_8 : decode cX6_finds 8 = .ok (.dup2, 1) := by decide +kernel
theorem dX6_finds_9 : decode cX6_finds 9 = .ok (.iaload, 1) := by decide +kernel
theorem dX6_finds_10 : decode cX6_finds 10 = .ok (.iconst 1, 1) := by decide +kernel
theorem dX6_finds_11 : decode cX6_finds 11 = .ok (.iadd, 1) := by decide +kernel
theorem dX6_finds_12 : decode cX6_finds 12 = .ok (.iastore, 1) := by decide +kernel
theorem dX6_finds_13 : decode cX6_finds 13 = .ok (.iload_n 1, 1) := by decide +kernel
theorem dX6_finds_14 : decode cX6_finds 14 = .ok (.ireturn, 1) := by decide +kernel
theorem dX6_orNone_0 : decode cX6_orNone 0 = .ok (.iload_n 1, 1) := by decide +kernel
theorem dX6_orNone_1 : decode cX6_orNone 1 = .ok (.ifCond .ge 12, 3) := by decide +kernel
theorem dX6_orNone_4 : decode cX6_orNone 4 = .ok (.aload_n 0, 1) := by decide +kernel
theorem dX6_orNone_5 : decode cX6_orNone 5 = .ok (.ldc 36, 2) := by decide +kernel
theorem dX6_orNone_7 : decode cX6_orNone 7 = .ok (.invokevirtual 37, 3) := by decide +kernel
theorem dX6_orNone_10 : decode cX6_orNone 10 = .ok (.goto 4, 3) := by decide +kernel
theorem dX6_orNone_13 : decode cX6_orNone 13 = .ok (.iload_n 1, 1) := by decide +kernel
theorem dX6_orNone_14 : decode cX6_orNone 14 = .ok (.ireturn, 1) := by decide +kernel
theorem dX6_in_0 : decode cX6_in 0 = .ok (.lload_n 0, 1) := by decide +kernel
theorem dX6_in_1 : decode cX6_in 1 = .ok (.iload_n 2, 1) := by decide +kernel
theorem dX6_in_2 : decode cX6_in 2 = .ok (.i2l, 1) := by decide +kernel
theorem dX6_in_3 : decode cX6_in 3 = .ok (.lcmp, 1) := by decide +kernel
theorem dX6_in_4 : decode cX6_in 4 = .ok (.ifCond .lt 14, 3) := by decide +kernel
theorem dX6_in_7 : decode cX6_in 7 = .ok (.lload_n 0, 1) := by decide +kernel
theorem dX6_in_8 : decode cX6_in 8 = .ok (.iload_n 3, 1) := by decide +kernel
theorem dX6_in_9 : decode cX6_in 9 = .ok (.i2l, 1) := by decide +kernel
theorem dX6_in_10 : decode cX6_in 10 = .ok (.lcmp, 1) := by decide +kernel
theorem dX6_in_11 : decode cX6_in 11 = .ok (.ifCond .gt 7, 3) := by decide +kernel
theorem dX6_in_14 : decode cX6_in 14 = .ok (.iconst 1, 1) := by decide +kernel
theorem dX6_in_15 : decode cX6_in 15 = .ok (.goto 4, 3) := by decide +kernel
theorem dX6_in_18 : decode cX6_in 18 = .ok (.iconst 0, 1) := by decide +kernel
theorem dX6_in_19 : decode cX6_in 19 = .ok (.ireturn, 1) := by decide +kernel
theorem dX6_held_0 : decode cX6_held 0 = .ok (.iload_n 0, 1) := by decide +kernel
theorem dX6_held_1 : decode cX6_held 1 = .ok (.iload_n 1, 1) := by decide +kernel
theorem dX6_held_2 : decode cX6_held 2 = .ok (.if_icmp .ge 7, 3) := by decide +kernel
theorem dX6_held_5 : decode cX6_held 5 = .ok (.iload_n 1, 1) := by decide +kernel
theorem dX6_held_6 : decode cX6_held 6 = .ok (.goto 13, 3) := by decide +kernel
theorem dX6_held_9 : decode cX6_held 9 = .ok (.iload_n 0, 1) := by decide +kernel
theorem dX6_held_10 : decode cX6_held 10 = .ok (.iload_n 2, 1) := by decide +kernel
theorem dX6_held_11 : decode cX6_held 11 = .ok (.if_icmp .le 7, 3) := by decide +kernel
theorem dX6_held_14 : decode cX6_held 14 = .ok (.iload_n 2, 1) := by decide +kernel
theorem dX6_held_15 : decode cX6_held 15 = .ok (.goto 4, 3) := by decide +kernel
theorem dX6_held_18 : decode cX6_held 18 = .ok (.iload_n 0, 1) := by decide +kernel
theorem dX6_held_19 : decode cX6_held 19 = .ok (.ireturn, 1) := by decide +kernel
theorem dX6_copyAll_0 : decode cX6_copyAll 0 = .ok (.iconst 0, 1) := by decide +kernel
theorem dX6_copyAll_1 : decode cX6_copyAll 1 = .ok (.istore_n 2, 1) := by decide +kernel
theorem dX6_copyAll_2 : decode cX6_copyAll 2 = .ok (.iload_n 2, 1) := by decide +kernel
theorem dX6_copyAll_3 : decode cX6_copyAll 3 = .ok (.bipush 61, 2) := by decide +kernel
theorem dX6_copyAll_5 : decode cX6_copyAll 5 = .ok (.if_icmp .ge 15, 3) := by decide +kernel
theorem dX6_copyAll_8 : decode cX6_copyAll 8 = .ok (.aload_n 1, 1) := by decide +kernel
theorem dX6_copyAll_9 : decode cX6_copyAll 9 = .ok (.iload_n 2, 1) := by decide +kernel
theorem dX6_copyAll_10 : decode cX6_copyAll 10 = .ok (.aload_n 0, 1) := by decide +kernel
theorem dX6_copyAll_11 : decode cX6_copyAll 11 = .ok (.iload_n 2, 1) := by decide +kernel
theorem dX6_copyAll_12 : decode cX6_copyAll 12 = .ok (.iaload, 1) := by decide +kernel
theorem dX6_copyAll_13 : decode cX6_copyAll 13 = .ok (.iastore, 1) := by decide +kernel
theorem dX6_copyAll_14 : decode cX6_copyAll 14 = .ok (.iinc 2 1, 3) := by decide +kernel
theorem dX6_copyAll_17 : decode cX6_copyAll 17 = .ok (.goto (-15), 3) := by decide +kernel
theorem dX6_copyAll_20 : decode cX6_copyAll 20 = .ok (.return_, 1) := by decide +kernel
theorem dX6_bits_0 : decode cX6_bits 0 = .ok (.iconst 0, 1) := by decide +kernel
theorem dX6_bits_1 : decode cX6_bits 1 = .ok (.istore_n 1, 1) := by decide +kernel
theorem dX6_bits_2 : decode cX6_bits 2 = .ok (.iload_n 0, 1) := by decide +kernel
theorem dX6_bits_3 : decode cX6_bits 3 = .ok (.istore_n 2, 1) := by decide +kernel
theorem dX6_bits_4 : decode cX6_bits 4 = .ok (.iload_n 2, 1) := by decide +kernel
theorem dX6_bits_5 : decode cX6_bits 5 = .ok (.ifCond .eq 15, 3) := by decide +kernel
theorem dX6_bits_8 : decode cX6_bits 8 = .ok (.iinc 1 1, 3) := by decide +kernel
theorem dX6_bits_11 : decode cX6_bits 11 = .ok (.iload_n 2, 1) := by decide +kernel
theorem dX6_bits_12 : decode cX6_bits 12 = .ok (.iload_n 2, 1) := by decide +kernel
theorem dX6_bits_13 : decode cX6_bits 13 = .ok (.iconst 1, 1) := by decide +kernel
theorem dX6_bits_14 : decode cX6_bits 14 = .ok (.isub, 1) := by decide +kernel
theorem dX6_bits_15 : decode cX6_bits 15 = .ok (.iand, 1) := by decide +kernel
theorem dX6_bits_16 : decode cX6_bits 16 = .ok (.istore_n 2, 1) := by decide +kernel
theorem dX6_bits_17 : decode cX6_bits 17 = .ok (.goto (-13), 3) := by decide +kernel
theorem dX6_bits_20 : decode cX6_bits 20 = .ok (.iload_n 1, 1) := by decide +kernel
theorem dX6_bits_21 : decode cX6_bits 21 = .ok (.ireturn, 1) := by decide +kernel
theorem dX6_becomes_0 : decode cX6_becomes 0 = .ok (.aload_n 0, 1) := by decide +kernel
theorem dX6_becomes_1 : decode cX6_becomes 1 = .ok (.getfield 9, 3) := by decide +kernel
theorem dX6_becomes_4 : decode cX6_becomes 4 = .ok (.iload_n 1, 1) := by decide +kernel
theorem dX6_becomes_5 : decode cX6_becomes 5 = .ok (.iaload, 1) := by decide +kernel
theorem dX6_becomes_6 : decode cX6_becomes 6 = .ok (.istore_n 3, 1) := by decide +kernel
theorem dX6_becomes_7 : decode cX6_becomes 7 = .ok (.aload_n 0, 1) := by decide +kernel
theorem dX6_becomes_8 : decode cX6_becomes 8 = .ok (.getfield 9, 3) := by decide +kernel
theorem dX6_becomes_11 : decode cX6_becomes 11 = .ok (.iload_n 1, 1) := by decide +kernel
theorem dX6_becomes_12 : decode cX6_becomes 12 = .ok (.iload_n 2, 1) := by decide +kernel
theorem dX6_becomes_13 : decode cX6_becomes 13 = .ok (.iastore, 1) := by decide +kernel
theorem dX6_becomes_14 : decode cX6_becomes 14 = .ok (.iload_n 3, 1) := by decide +kernel
theorem dX6_becomes_15 : decode cX6_becomes 15 = .ok (.ireturn, 1) := by decide +kernel
theorem dX6_isFountain_0 : decode cX6_isFountain 0 = .ok (.iload_n 1, 1) := by decide +kernel
theorem dX6_isFountain_1 : decode cX6_isFountain 1 = .ok (.i2l, 1) := by decide +kernel
theorem dX6_isFountain_2 : decode cX6_isFountain 2 = .ok (.iconst 0, 1) := by decide +kernel
theorem dX6_isFountain_3 : decode cX6_isFountain 3 = .ok (.aload_n 0, 1) := by decide +kernel
theorem dX6_isFountain_4 : decode cX6_isFountain 4 = .ok (.getfield 9, 3) := by decide +kernel
theorem dX6_isFountain_7 : decode cX6_isFountain 7 = .ok (.iconst 4, 1) := by decide +kernel
theorem dX6_isFountain_8 : decode cX6_isFountain 8 = .ok (.iaload, 1) := by decide +kernel
theorem dX6_isFountain_9 : decode cX6_isFountain 9 = .ok (.iconst 1, 1) := by decide +kernel
theorem dX6_isFountain_10 : decode cX6_isFountain 10 = .ok (.isub, 1) := by decide +kernel
theorem dX6_isFountain_11 : decode cX6_isFountain 11 = .ok (.invokestatic 41, 3) := by decide +kernel
theorem dX6_isFountain_14 : decode cX6_isFountain 14 = .ok (.ireturn, 1) := by decide +kernel
theorem dX6_it_0 : decode cX6_it 0 = .ok (.aload_n 0, 1) := by decide +kernel
theorem dX6_it_1 : decode cX6_it 1 = .ok (.getfield 9, 3) := by decide +kernel
theorem dX6_it_4 : decode cX6_it 4 = .ok (.bipush 21, 2) := by decide +kernel
theorem dX6_it_6 : decode cX6_it 6 = .ok (.iconst 5, 1) := by decide +kernel
theorem dX6_it_7 : decode cX6_it 7 = .ok (.iload_n 1, 1) := by decide +kernel
theorem dX6_it_8 : decode cX6_it 8 = .ok (.imul, 1) := by decide +kernel
theorem dX6_it_9 : decode cX6_it 9 = .ok (.iadd, 1) := by decide +kernel
theorem dX6_it_10 : decode cX6_it 10 = .ok (.iload_n 2, 1) := by decide +kernel
theorem dX6_it_11 : decode cX6_it 11 = .ok (.iadd, 1) := by decide +kernel
theorem dX6_it_12 : decode cX6_it 12 = .ok (.iaload, 1) := by decide +kernel
theorem dX6_it_13 : decode cX6_it 13 = .ok (.ireturn, 1) := by decide +kernel
theorem dX6_put_0 : decode cX6_put 0 = .ok (.aload_n 0, 1) := by decide +kernel
theorem dX6_put_1 : decode cX6_put 1 = .ok (.getfield 9, 3) := by decide +kernel
theorem dX6_put_4 : decode cX6_put 4 = .ok (.bipush 21, 2) := by decide +kernel
theorem dX6_put_6 : decode cX6_put 6 = .ok (.iconst 5, 1) := by decide +kernel
theorem dX6_put_7 : decode cX6_put 7 = .ok (.iload_n 1, 1) := by decide +kernel
theorem dX6_put_8 : decode cX6_put 8 = .ok (.imul, 1) := by decide +kernel
theorem dX6_put_9 : decode cX6_put 9 = .ok (.iadd, 1) := by decide +kernel
theorem dX6_put_10 : decode cX6_put 10 = .ok (.iload_n 2, 1) := by decide +kernel
theorem dX6_put_11 : decode cX6_put 11 = .ok (.iadd, 1) := by decide +kernel
theorem dX6_put_12 : decode cX6_put 12 = .ok (.iload_n 3, 1) := by decide +kernel
theorem dX6_put_13 : decode cX6_put 13 = .ok (.iastore, 1) := by decide +kernel
theorem dX6_put_14 : decode cX6_put 14 = .ok (.return_, 1) := by decide +kernel
theorem dX6_weekNow_0 : decode cX6_weekNow 0 = .ok (.aload_n 0, 1) := by decide +kernel
theorem dX6_weekNow_1 : decode cX6_weekNow 1 = .ok (.getfield 9, 3) := by decide +kernel
theorem dX6_weekNow_4 : decode cX6_weekNow 4 = .ok (.iconst 0, 1) := by decide +kernel
theorem dX6_weekNow_5 : decode cX6_weekNow 5 = .ok (.iaload, 1) := by decide +kernel
theorem dX6_weekNow_6 : decode cX6_weekNow 6 = .ok (.bipush 7, 2) := by decide +kernel
theorem dX6_weekNow_8 : decode cX6_weekNow 8 = .ok (.idiv, 1) := by decide +kernel
theorem dX6_weekNow_9 : decode cX6_weekNow 9 = .ok (.bipush 8, 2) := by decide +kernel
theorem dX6_weekNow_11 : decode cX6_weekNow 11 = .ok (.irem, 1) := by decide +kernel
theorem dX6_weekNow_12 : decode cX6_weekNow 12 = .ok (.ireturn, 1) := by decide +kernel
theorem dX6_isCold_0 : decode cX6_isCold 0 = .ok (.aload_n 0, 1) := by decide +kernel
theorem dX6_isCold_1 : decode cX6_isCold 1 = .ok (.getfield 9, 3) := by decide +kernel
theorem dX6_isCold_4 : decode cX6_isCold 4 = .ok (.bipush 13, 2) := by decide +kernel
theorem dX6_isCold_6 : decode cX6_isCold 6 = .ok (.aload_n 0, 1) := by decide +kernel
theorem dX6_isCold_7 : decode cX6_isCold 7 = .ok (.invokevirtual 45, 3) := by decide +kernel
theorem dX6_isCold_10 : decode cX6_isCold 10 = .ok (.iadd, 1) := by decide +kernel
theorem dX6_isCold_11 : decode cX6_isCold 11 = .ok (.iaload, 1) := by decide +kernel
theorem dX6_isCold_12 : decode cX6_isCold 12 = .ok (.iconst 1, 1) := by decide +kernel
theorem dX6_isCold_13 : decode cX6_isCold 13 = .ok (.if_icmp .ne 7, 3) := by decide +kernel
theorem dX6_isCold_16 : decode cX6_isCold 16 = .ok (.iconst 1, 1) := by decide +kernel
theorem dX6_isCold_17 : decode cX6_isCold 17 = .ok (.goto 4, 3) := by decide +kernel
theorem dX6_isCold_20 : decode cX6_isCold 20 = .ok (.iconst 0, 1) := by decide +kernel
theorem dX6_isCold_21 : decode cX6_isCold 21 = .ok (.ireturn, 1) := by decide +kernel
theorem dX6_isOff_0 : decode cX6_isOff 0 = .ok (.aload_n 0, 1) := by decide +kernel
theorem dX6_isOff_1 : decode cX6_isOff 1 = .ok (.iload_n 1, 1) := by decide +kernel
theorem dX6_isOff_2 : decode cX6_isOff 2 = .ok (.iconst 2, 1) := by decide +kernel
theorem dX6_isOff_3 : decode cX6_isOff 3 = .ok (.invokevirtual 49, 3) := by decide +kernel
theorem dX6_isOff_6 : decode cX6_isOff 6 = .ok (.iconst 1, 1) := by decide +kernel
theorem dX6_isOff_7 : decode cX6_isOff 7 = .ok (.if_icmp .ne 7, 3) := by decide +kernel
theorem dX6_isOff_10 : decode cX6_isOff 10 = .ok (.iconst 1, 1) := by decide +kernel
theorem dX6_isOff_11 : decode cX6_isOff 11 = .ok (.goto 4, 3) := by decide +kernel
theorem dX6_isOff_14 : decode cX6_isOff 14 = .ok (.iconst 0, 1) := by decide +kernel
theorem dX6_isOff_15 : decode cX6_isOff 15 = .ok (.ireturn, 1) := by decide +kernel
theorem dX6_uses_0 : decode cX6_uses 0 = .ok (.aload_n 0, 1) := by decide +kernel
theorem dX6_uses_1 : decode cX6_uses 1 = .ok (.iload_n 1, 1) := by decide +kernel
theorem dX6_uses_2 : decode cX6_uses 2 = .ok (.iconst 1, 1) := by decide +kernel
theorem dX6_uses_3 : decode cX6_uses 3 = .ok (.invokevirtual 49, 3) := by decide +kernel
theorem dX6_uses_6 : decode cX6_uses 6 = .ok (.istore_n 2, 1) := by decide +kernel
theorem dX6_uses_7 : decode cX6_uses 7 = .ok (.iload_n 2, 1) := by decide +kernel
theorem dX6_uses_8 : decode cX6_uses 8 = .ok (.istore_n 3, 1) := by decide +kernel
theorem dX6_uses_9 : decode cX6_uses 9 = .ok (.aload_n 0, 1) := by decide +kernel
theorem dX6_uses_10 : decode cX6_uses 10 = .ok (.iload_n 1, 1) := by decide +kernel
theorem dX6_uses_11 : decode cX6_uses 11 = .ok (.iconst 0, 1) := by decide +kernel
theorem dX6_uses_12 : decode cX6_uses 12 = .ok (.invokevirtual 49, 3) := by decide +kernel
theorem dX6_uses_15 : decode cX6_uses 15 = .ok (.tableswitch 89 1 5 #[33, 40, 56, 61, 84], 33) := by decide +kernel
theorem dX6_uses_48 : decode cX6_uses 48 = .ok (.iconst 2, 1) := by decide +kernel
theorem dX6_uses_49 : decode cX6_uses 49 = .ok (.iload_n 2, 1) := by decide +kernel
theorem dX6_uses_50 : decode cX6_uses 50 = .ok (.imul, 1) := by decide +kernel
theorem dX6_uses_51 : decode cX6_uses 51 = .ok (.istore_n 3, 1) := by decide +kernel
theorem dX6_uses_52 : decode cX6_uses 52 = .ok (.goto 52, 3) := by decide +kernel
theorem dX6_uses_55 : decode cX6_uses 55 = .ok (.iload_n 2, 1) := by decide +kernel
theorem dX6_uses_56 : decode cX6_uses 56 = .ok (.iconst 2, 1) := by decide +kernel
theorem dX6_uses_57 : decode cX6_uses 57 = .ok (.if_icmp .le 9, 3) := by decide +kernel
theorem dX6_uses_60 : decode cX6_uses 60 = .ok (.iload_n 2, 1) := by decide +kernel
theorem dX6_uses_61 : decode cX6_uses 61 = .ok (.iconst 2, 1) := by decide +kernel
theorem dX6_uses_62 : decode cX6_uses 62 = .ok (.idiv, 1) := by decide +kernel
theorem dX6_uses_63 : decode cX6_uses 63 = .ok (.goto 4, 3) := by decide +kernel
theorem dX6_uses_66 : decode cX6_uses 66 = .ok (.iconst 1, 1) := by decide +kernel
theorem dX6_uses_67 : decode cX6_uses 67 = .ok (.istore_n 3, 1) := by decide +kernel
theorem dX6_uses_68 : decode cX6_uses 68 = .ok (.goto 36, 3) := by decide +kernel
theorem dX6_uses_71 : decode cX6_uses 71 = .ok (.iconst 2, 1) := by decide +kernel
theorem dX6_uses_72 : decode cX6_uses 72 = .ok (.istore_n 3, 1) := by decide +kernel
theorem dX6_uses_73 : decode cX6_uses 73 = .ok (.goto 31, 3) := by decide +kernel
theorem dX6_uses_76 : decode cX6_uses 76 = .ok (.iconst 2, 1) := by decide +kernel
theorem dX6_uses_77 : decode cX6_uses 77 = .ok (.iload_n 2, 1) := by decide +kernel
theorem dX6_uses_78 : decode cX6_uses 78 = .ok (.imul, 1) := by decide +kernel
theorem dX6_uses_79 : decode cX6_uses 79 = .ok (.aload_n 0, 1) := by decide +kernel
theorem dX6_uses_80 : decode cX6_uses 80 = .ok (.iload_n 1, 1) := by decide +kernel
theorem dX6_uses_81 : decode cX6_uses 81 = .ok (.iconst 3, 1) := by decide +kernel
theorem dX6_uses_82 : decode cX6_uses 82 = .ok (.invokevirtual 49, 3) := by decide +kernel
theorem dX6_uses_85 : decode cX6_uses 85 = .ok (.bipush 20, 2) := by decide +kernel
theorem dX6_uses_87 : decode cX6_uses 87 = .ok (.idiv, 1) := by decide +kernel
theorem dX6_uses_88 : decode cX6_uses 88 = .ok (.isub, 1) := by decide +kernel
theorem dX6_uses_89 : decode cX6_uses 89 = .ok (.iconst 0, 1) := by decide +kernel
theorem dX6_uses_90 : decode cX6_uses 90 = .ok (.bipush 80, 2) := by decide +kernel
theorem dX6_uses_92 : decode cX6_uses 92 = .ok (.invokestatic 53, 3) := by decide +kernel
theorem dX6_uses_95 : decode cX6_uses 95 = .ok (.istore_n 3, 1) := by decide +kernel
theorem dX6_uses_96 : decode cX6_uses 96 = .ok (.goto 8, 3) := by decide +kernel
theorem dX6_uses_99 : decode cX6_uses 99 = .ok (.iconst 1, 1) := by decide +kernel
theorem dX6_uses_100 : decode cX6_uses 100 = .ok (.istore_n 3, 1) := by decide +kernel
theorem dX6_uses_101 : decode cX6_uses 101 = .ok (.goto 3, 3) := by decide +kernel
theorem dX6_uses_104 : decode cX6_uses 104 = .ok (.aload_n 0, 1) := by decide +kernel
theorem dX6_uses_105 : decode cX6_uses 105 = .ok (.iload_n 1, 1) := by decide +kernel
theorem dX6_uses_106 : decode cX6_uses 106 = .ok (.invokevirtual 57, 3) := by decide +kernel
theorem dX6_uses_109 : decode cX6_uses 109 = .ok (.ifCond .eq 17, 3) := by decide +kernel
theorem dX6_uses_112 : decode cX6_uses 112 = .ok (.aload_n 0, 1) := by decide +kernel
theorem dX6_uses_113 : decode cX6_uses 113 = .ok (.iload_n 1, 1) := by decide +kernel
theorem dX6_uses_114 : decode cX6_uses 114 = .ok (.iconst 0, 1) := by decide +kernel
theorem dX6_uses_115 : decode cX6_uses 115 = .ok (.invokevirtual 49, 3) := by decide +kernel
theorem dX6_uses_118 : decode cX6_uses 118 = .ok (.iconst 5, 1) := by decide +kernel
theorem dX6_uses_119 : decode cX6_uses 119 = .ok (.if_icmp .eq 7, 3) := by decide +kernel
theorem dX6_uses_122 : decode cX6_uses 122 = .ok (.iconst 0, 1) := by decide +kernel
theorem dX6_uses_123 : decode cX6_uses 123 = .ok (.goto 4, 3) := by decide +kernel
theorem dX6_uses_126 : decode cX6_uses 126 = .ok (.iload_n 3, 1) := by decide +kernel
theorem dX6_uses_127 : decode cX6_uses 127 = .ok (.istore_n 3, 1) := by decide +kernel
theorem dX6_uses_128 : decode cX6_uses 128 = .ok (.aload_n 0, 1) := by decide +kernel
theorem dX6_uses_129 : decode cX6_uses 129 = .ok (.invokevirtual 61, 3) := by decide +kernel
theorem dX6_uses_132 : decode cX6_uses 132 = .ok (.ifCond .eq 9, 3) := by decide +kernel
theorem dX6_uses_135 : decode cX6_uses 135 = .ok (.iload_n 3, 1) := by decide +kernel
theorem dX6_uses_136 : decode cX6_uses 136 = .ok (.iconst 2, 1) := by decide +kernel
theorem dX6_uses_137 : decode cX6_uses 137 = .ok (.idiv, 1) := by decide +kernel
theorem dX6_uses_138 : decode cX6_uses 138 = .ok (.goto 4, 3) := by decide +kernel
theorem dX6_uses_141 : decode cX6_uses 141 = .ok (.iload_n 3, 1) := by decide +kernel
theorem dX6_uses_142 : decode cX6_uses 142 = .ok (.ireturn, 1) := by decide +kernel
theorem dX6_heard_0 : decode cX6_heard 0 = .ok (.aload_n 0, 1) := by decide +kernel
theorem dX6_heard_1 : decode cX6_heard 1 = .ok (.iload_n 1, 1) := by decide +kernel
theorem dX6_heard_2 : decode cX6_heard 2 = .ok (.iconst 1, 1) := by decide +kernel
theorem dX6_heard_3 : decode cX6_heard 3 = .ok (.invokevirtual 49, 3) := by decide +kernel
theorem dX6_heard_6 : decode cX6_heard 6 = .ok (.istore_n 2, 1) := by decide +kernel
theorem dX6_heard_7 : decode cX6_heard 7 = .ok (.aload_n 0, 1) := by decide +kernel
theorem dX6_heard_8 : decode cX6_heard 8 = .ok (.iload_n 1, 1) := by decide +kernel
theorem dX6_heard_9 : decode cX6_heard 9 = .ok (.iconst 0, 1) := by decide +kernel
theorem dX6_heard_10 : decode cX6_heard 10 = .ok (.invokevirtual 49, 3) := by decide +kernel
theorem dX6_heard_13 : decode cX6_heard 13 = .ok (.iconst 5, 1) := by decide +kernel
theorem dX6_heard_14 : decode cX6_heard 14 = .ok (.if_icmp .ne 15, 3) := by decide +kernel
theorem dX6_heard_17 : decode cX6_heard 17 = .ok (.iconst 1, 1) := by decide +kernel
theorem dX6_heard_18 : decode cX6_heard 18 = .ok (.aload_n 0, 1) := by decide +kernel
theorem dX6_heard_19 : decode cX6_heard 19 = .ok (.iload_n 1, 1) := by decide +kernel
theorem dX6_heard_20 : decode cX6_heard 20 = .ok (.iconst 3, 1) := by decide +kernel
theorem dX6_heard_21 : decode cX6_heard 21 = .ok (.invokevirtual 49, 3) := by decide +kernel
theorem dX6_heard_24 : decode cX6_heard 24 = .ok (.bipush 10, 2) := by decide +kernel
theorem dX6_heard_26 : decode cX6_heard 26 = .ok (.idiv, 1) := by decide +kernel
theorem dX6_heard_27 : decode cX6_heard 27 = .ok (.iadd, 1) := by decide +kernel
theorem dX6_heard_28 : decode cX6_heard 28 = .ok (.ireturn, 1) := by decide +kernel
theorem dX6_heard_29 : decode cX6_heard 29 = .ok (.aload_n 0, 1) := by decide +kernel
theorem dX6_heard_30 : decode cX6_heard 30 = .ok (.iload_n 1, 1) := by decide +kernel
theorem dX6_heard_31 : decode cX6_heard 31 = .ok (.invokevirtual 57, 3) := by decide +kernel
theorem dX6_heard_34 : decode cX6_heard 34 = .ok (.ifCond .eq 5, 3) := by decide +kernel
theorem dX6_heard_37 : decode cX6_heard 37 = .ok (.iconst 0, 1) := by decide +kernel
theorem dX6_heard_38 : decode cX6_heard 38 = .ok (.ireturn, 1) := by decide +kernel
theorem dX6_heard_39 : decode cX6_heard 39 = .ok (.aload_n 0, 1) := by decide +kernel
theorem dX6_heard_40 : decode cX6_heard 40 = .ok (.iload_n 1, 1) := by decide +kernel
theorem dX6_heard_41 : decode cX6_heard 41 = .ok (.iconst 0, 1) := by decide +kernel
theorem dX6_heard_42 : decode cX6_heard 42 = .ok (.invokevirtual 49, 3) := by decide +kernel
theorem dX6_heard_45 : decode cX6_heard 45 = .ok (.tableswitch 44 1 4 #[31, 36, 42, 31], 31) := by decide +kernel
theorem dX6_heard_76 : decode cX6_heard 76 = .ok (.iload_n 2, 1) := by decide +kernel
theorem dX6_heard_77 : decode cX6_heard 77 = .ok (.bipush 10, 2) := by decide +kernel
theorem dX6_heard_79 : decode cX6_heard 79 = .ok (.iadd, 1) := by decide +kernel
theorem dX6_heard_80 : decode cX6_heard 80 = .ok (.ireturn, 1) := by decide +kernel
theorem dX6_heard_81 : decode cX6_heard 81 = .ok (.iload_n 2, 1) := by decide +kernel
theorem dX6_heard_82 : decode cX6_heard 82 = .ok (.iconst 2, 1) := by decide +kernel
theorem dX6_heard_83 : decode cX6_heard 83 = .ok (.idiv, 1) := by decide +kernel
theorem dX6_heard_84 : decode cX6_heard 84 = .ok (.iconst 5, 1) := by decide +kernel
theorem dX6_heard_85 : decode cX6_heard 85 = .ok (.iadd, 1) := by decide +kernel
theorem dX6_heard_86 : decode cX6_heard 86 = .ok (.ireturn, 1) := by decide +kernel
theorem dX6_heard_87 : decode cX6_heard 87 = .ok (.iconst 1, 1) := by decide +kernel
theorem dX6_heard_88 : decode cX6_heard 88 = .ok (.ireturn, 1) := by decide +kernel
theorem dX6_heard_89 : decode cX6_heard 89 = .ok (.iload_n 2, 1) := by decide +kernel
theorem dX6_heard_90 : decode cX6_heard 90 = .ok (.ireturn, 1) := by decide +kernel
theorem dX6_gains_0 : decode cX6_gains 0 = .ok (.aload_n 0, 1) := by decide +kernel
theorem dX6_gains_1 : decode cX6_gains 1 = .ok (.iload_n 1, 1) := by decide +kernel
theorem dX6_gains_2 : decode cX6_gains 2 = .ok (.invokevirtual 57, 3) := by decide +kernel
theorem dX6_gains_5 : decode cX6_gains 5 = .ok (.ifCond .eq 7, 3) := by decide +kernel
theorem dX6_gains_8 : decode cX6_gains 8 = .ok (.iconst (-1), 1) := by decide +kernel
theorem dX6_gains_9 : decode cX6_gains 9 = .ok (.goto 4, 3) := by decide +kernel
theorem dX6_gains_12 : decode cX6_gains 12 = .ok (.iconst 1, 1) := by decide +kernel
theorem dX6_gains_13 : decode cX6_gains 13 = .ok (.istore_n 2, 1) := by decide +kernel
theorem dX6_gains_14 : decode cX6_gains 14 = .ok (.aload_n 0, 1) := by decide +kernel
theorem dX6_gains_15 : decode cX6_gains 15 = .ok (.iload_n 1, 1) := by decide +kernel
theorem dX6_gains_16 : decode cX6_gains 16 = .ok (.iconst 1, 1) := by decide +kernel
theorem dX6_gains_17 : decode cX6_gains 17 = .ok (.invokevirtual 49, 3) := by decide +kernel
theorem dX6_gains_20 : decode cX6_gains 20 = .ok (.bipush 30, 2) := by decide +kernel
theorem dX6_gains_22 : decode cX6_gains 22 = .ok (.if_icmp .le 7, 3) := by decide +kernel
theorem dX6_gains_25 : decode cX6_gains 25 = .ok (.iconst 0, 1) := by decide +kernel
theorem dX6_gains_26 : decode cX6_gains 26 = .ok (.goto 4, 3) := by decide +kernel
theorem dX6_gains_29 : decode cX6_gains 29 = .ok (.iload_n 2, 1) := by decide +kernel
theorem dX6_gains_30 : decode cX6_gains 30 = .ok (.istore_n 3, 1) := by decide +kernel
theorem dX6_gains_31 : decode cX6_gains 31 = .ok (.aload_n 0, 1) := by decide +kernel
theorem dX6_gains_32 : decode cX6_gains 32 = .ok (.invokevirtual 61, 3) := by decide +kernel
theorem dX6_gains_35 : decode cX6_gains 35 = .ok (.ifCond .eq 7, 3) := by decide +kernel
theorem dX6_gains_38 : decode cX6_gains 38 = .ok (.iload_n 2, 1) := by decide +kernel
theorem dX6_gains_39 : decode cX6_gains 39 = .ok (.goto 6, 3) := by decide +kernel
theorem dX6_gains_42 : decode cX6_gains 42 = .ok (.iload_n 2, 1) := by decide +kernel
theorem dX6_gains_43 : decode cX6_gains 43 = .ok (.iconst 1, 1) := by decide +kernel
theorem dX6_gains_44 : decode cX6_gains 44 = .ok (.iadd, 1) := by decide +kernel
theorem dX6_gains_45 : decode cX6_gains 45 = .ok (.istore 4, 2) := by decide +kernel
theorem dX6_gains_47 : decode cX6_gains 47 = .ok (.aload_n 0, 1) := by decide +kernel
theorem dX6_gains_48 : decode cX6_gains 48 = .ok (.iload_n 1, 1) := by decide +kernel
theorem dX6_gains_49 : decode cX6_gains 49 = .ok (.iconst 0, 1) := by decide +kernel
theorem dX6_gains_50 : decode cX6_gains 50 = .ok (.invokevirtual 49, 3) := by decide +kernel
theorem dX6_gains_53 : decode cX6_gains 53 = .ok (.tableswitch 58 1 5 #[35, 37, 39, 42, 46], 35) := by decide +kernel
theorem dX6_gains_88 : decode cX6_gains 88 = .ok (.iload_n 3, 1) := by decide +kernel
theorem dX6_gains_89 : decode cX6_gains 89 = .ok (.ireturn, 1) := by decide +kernel
theorem dX6_gains_90 : decode cX6_gains 90 = .ok (.iconst 1, 1) := by decide +kernel
theorem dX6_gains_91 : decode cX6_gains 91 = .ok (.ireturn, 1) := by decide +kernel
theorem dX6_gains_92 : decode cX6_gains 92 = .ok (.iload 4, 2) := by decide +kernel
theorem dX6_gains_94 : decode cX6_gains 94 = .ok (.ireturn, 1) := by decide +kernel
theorem dX6_gains_95 : decode cX6_gains 95 = .ok (.iload_n 3, 1) := by decide +kernel
theorem dX6_gains_96 : decode cX6_gains 96 = .ok (.iconst 1, 1) := by decide +kernel
theorem dX6_gains_97 : decode cX6_gains 97 = .ok (.isub, 1) := by decide +kernel
theorem dX6_gains_98 : decode cX6_gains 98 = .ok (.ireturn, 1) := by decide +kernel
theorem dX6_gains_99 : decode cX6_gains 99 = .ok (.iload 4, 2) := by decide +kernel
theorem dX6_gains_101 : decode cX6_gains 101 = .ok (.ifCond .ge 7, 3) := by decide +kernel
theorem dX6_gains_104 : decode cX6_gains 104 = .ok (.iconst 0, 1) := by decide +kernel
theorem dX6_gains_105 : decode cX6_gains 105 = .ok (.goto 5, 3) := by decide +kernel
theorem dX6_gains_108 : decode cX6_gains 108 = .ok (.iload 4, 2) := by decide +kernel
theorem dX6_gains_110 : decode cX6_gains 110 = .ok (.ireturn, 1) := by decide +kernel
theorem dX6_gains_111 : decode cX6_gains 111 = .ok (.iload_n 2, 1) := by decide +kernel
theorem dX6_gains_112 : decode cX6_gains 112 = .ok (.ireturn, 1) := by decide +kernel
theorem dX6_givesWay_0 : decode cX6_givesWay 0 = .ok (.aload_n 0, 1) := by decide +kernel
theorem dX6_givesWay_1 : decode cX6_givesWay 1 = .ok (.iload_n 1, 1) := by decide +kernel
theorem dX6_givesWay_2 : decode cX6_givesWay 2 = .ok (.iconst 1, 1) := by decide +kernel
theorem dX6_givesWay_3 : decode cX6_givesWay 3 = .ok (.invokevirtual 49, 3) := by decide +kernel
theorem dX6_givesWay_6 : decode cX6_givesWay 6 = .ok (.aload_n 0, 1) := by decide +kernel
theorem dX6_givesWay_7 : decode cX6_givesWay 7 = .ok (.iload_n 1, 1) := by decide +kernel
theorem dX6_givesWay_8 : decode cX6_givesWay 8 = .ok (.iconst 3, 1) := by decide +kernel
theorem dX6_givesWay_9 : decode cX6_givesWay 9 = .ok (.invokevirtual 49, 3) := by decide +kernel
theorem dX6_givesWay_12 : decode cX6_givesWay 12 = .ok (.isub, 1) := by decide +kernel
theorem dX6_givesWay_13 : decode cX6_givesWay 13 = .ok (.istore_n 2, 1) := by decide +kernel
theorem dX6_givesWay_14 : decode cX6_givesWay 14 = .ok (.aload_n 0, 1) := by decide +kernel
theorem dX6_givesWay_15 : decode cX6_givesWay 15 = .ok (.iload_n 1, 1) := by decide +kernel
theorem dX6_givesWay_16 : decode cX6_givesWay 16 = .ok (.iconst 0, 1) := by decide +kernel
theorem dX6_givesWay_17 : decode cX6_givesWay 17 = .ok (.invokevirtual 49, 3) := by decide +kernel
theorem dX6_givesWay_20 : decode cX6_givesWay 20 = .ok (.tableswitch 68 1 5 #[36, 68, 41, 52, 57], 36) := by decide +kernel
theorem dX6_givesWay_56 : decode cX6_givesWay 56 = .ok (.iload_n 2, 1) := by decide +kernel
theorem dX6_givesWay_57 : decode cX6_givesWay 57 = .ok (.bipush 20, 2) := by decide +kernel
theorem dX6_givesWay_59 : decode cX6_givesWay 59 = .ok (.isub, 1) := by decide +kernel
theorem dX6_givesWay_60 : decode cX6_givesWay 60 = .ok (.ireturn, 1) := by decide +kernel
theorem dX6_givesWay_61 : decode cX6_givesWay 61 = .ok (.sipush (-200), 3) := by decide +kernel
theorem dX6_givesWay_64 : decode cX6_givesWay 64 = .ok (.aload_n 0, 1) := by decide +kernel
theorem dX6_givesWay_65 : decode cX6_givesWay 65 = .ok (.iload_n 1, 1) := by decide +kernel
theorem dX6_givesWay_66 : decode cX6_givesWay 66 = .ok (.iconst 3, 1) := by decide +kernel
theorem dX6_givesWay_67 : decode cX6_givesWay 67 = .ok (.invokevirtual 49, 3) := by decide +kernel
theorem dX6_givesWay_70 : decode cX6_givesWay 70 = .ok (.isub, 1) := by decide +kernel
theorem dX6_givesWay_71 : decode cX6_givesWay 71 = .ok (.ireturn, 1) := by decide +kernel
theorem dX6_givesWay_72 : decode cX6_givesWay 72 = .ok (.iload_n 2, 1) := by decide +kernel
theorem dX6_givesWay_73 : decode cX6_givesWay 73 = .ok (.bipush 15, 2) := by decide +kernel
theorem dX6_givesWay_75 : decode cX6_givesWay 75 = .ok (.isub, 1) := by decide +kernel
theorem dX6_givesWay_76 : decode cX6_givesWay 76 = .ok (.ireturn, 1) := by decide +kernel
theorem dX6_givesWay_77 : decode cX6_givesWay 77 = .ok (.sipush (-400), 3) := by decide +kernel
theorem dX6_givesWay_80 : decode cX6_givesWay 80 = .ok (.aload_n 0, 1) := by decide +kernel
theorem dX6_givesWay_81 : decode cX6_givesWay 81 = .ok (.iload_n 1, 1) := by decide +kernel
theorem dX6_givesWay_82 : decode cX6_givesWay 82 = .ok (.iconst 3, 1) := by decide +kernel
theorem dX6_givesWay_83 : decode cX6_givesWay 83 = .ok (.invokevirtual 49, 3) := by decide +kernel
theorem dX6_givesWay_86 : decode cX6_givesWay 86 = .ok (.isub, 1) := by decide +kernel
theorem dX6_givesWay_87 : decode cX6_givesWay 87 = .ok (.ireturn, 1) := by decide +kernel
theorem dX6_givesWay_88 : decode cX6_givesWay 88 = .ok (.iload_n 2, 1) := by decide +kernel
theorem dX6_givesWay_89 : decode cX6_givesWay 89 = .ok (.ireturn, 1) := by decide +kernel
theorem dX6_first_0 : decode cX6_first 0 = .ok (.iconst (-1), 1) := by decide +kernel
theorem dX6_first_1 : decode cX6_first 1 = .ok (.istore_n 3, 1) := by decide +kernel
theorem dX6_first_2 : decode cX6_first 2 = .ok (.iconst 0, 1) := by decide +kernel
theorem dX6_first_3 : decode cX6_first 3 = .ok (.istore 4, 2) := by decide +kernel
theorem dX6_first_5 : decode cX6_first 5 = .ok (.iload 4, 2) := by decide +kernel
theorem dX6_first_7 : decode cX6_first 7 = .ok (.aload_n 0, 1) := by decide +kernel
theorem dX6_first_8 : decode cX6_first 8 = .ok (.getfield 9, 3) := by decide +kernel
theorem dX6_first_11 : decode cX6_first 11 = .ok (.iconst 4, 1) := by decide +kernel
theorem dX6_first_12 : decode cX6_first 12 = .ok (.iaload, 1) := by decide +kernel
theorem dX6_first_13 : decode cX6_first 13 = .ok (.if_icmp .ge 90, 3) := by decide +kernel
theorem dX6_first_16 : decode cX6_first 16 = .ok (.aload_n 0, 1) := by decide +kernel
theorem dX6_first_17 : decode cX6_first 17 = .ok (.iload 4, 2) := by decide +kernel
theorem dX6_first_19 : decode cX6_first 19 = .ok (.iconst 2, 1) := by decide +kernel
theorem dX6_first_20 : decode cX6_first 20 = .ok (.invokevirtual 49, 3) := by decide +kernel
theorem dX6_first_23 : decode cX6_first 23 = .ok (.iload_n 1, 1) := by decide +kernel
theorem dX6_first_24 : decode cX6_first 24 = .ok (.if_icmp .ne 7, 3) := by decide +kernel
theorem dX6_first_27 : decode cX6_first 27 = .ok (.iconst 1, 1) := by decide +kernel
theorem dX6_first_28 : decode cX6_first 28 = .ok (.goto 4, 3) := by decide +kernel
theorem dX6_first_31 : decode cX6_first 31 = .ok (.iconst 0, 1) := by decide +kernel
theorem dX6_first_32 : decode cX6_first 32 = .ok (.istore 5, 2) := by decide +kernel
theorem dX6_first_34 : decode cX6_first 34 = .ok (.iload_n 3, 1) := by decide +kernel
theorem dX6_first_35 : decode cX6_first 35 = .ok (.ifCond .lt 38, 3) := by decide +kernel
theorem dX6_first_38 : decode cX6_first 38 = .ok (.iload_n 2, 1) := by decide +kernel
theorem dX6_first_39 : decode cX6_first 39 = .ok (.ifCond .eq 20, 3) := by decide +kernel
theorem dX6_first_42 : decode cX6_first 42 = .ok (.aload_n 0, 1) := by decide +kernel
theorem dX6_first_43 : decode cX6_first 43 = .ok (.iload 4, 2) := by decide +kernel
theorem dX6_first_45 : decode cX6_first 45 = .ok (.invokevirtual 65, 3) := by decide +kernel
theorem dX6_first_48 : decode cX6_first 48 = .ok (.aload_n 0, 1) := by decide +kernel
theorem dX6_first_49 : decode cX6_first 49 = .ok (.iload_n 3, 1) := by decide +kernel
theorem dX6_first_50 : decode cX6_first 50 = .ok (.invokevirtual 65, 3) := by decide +kernel
theorem dX6_first_53 : decode cX6_first 53 = .ok (.if_icmp .le 24, 3) := by decide +kernel
theorem dX6_first_56 : decode cX6_first 56 = .ok (.goto 17, 3) := by decide +kernel
theorem dX6_first_59 : decode cX6_first 59 = .ok (.aload_n 0, 1) := by decide +kernel
theorem dX6_first_60 : decode cX6_first 60 = .ok (.iload 4, 2) := by decide +kernel
theorem dX6_first_62 : decode cX6_first 62 = .ok (.invokevirtual 65, 3) := by decide +kernel
theorem dX6_first_65 : decode cX6_first 65 = .ok (.aload_n 0, 1) := by decide +kernel
theorem dX6_first_66 : decode cX6_first 66 = .ok (.iload_n 3, 1) := by decide +kernel
theorem dX6_first_67 : decode cX6_first 67 = .ok (.invokevirtual 65, 3) := by decide +kernel
theorem dX6_first_70 : decode cX6_first 70 = .ok (.if_icmp .ge 7, 3) := by decide +kernel
theorem dX6_first_73 : decode cX6_first 73 = .ok (.iconst 1, 1) := by decide +kernel
theorem dX6_first_74 : decode cX6_first 74 = .ok (.goto 4, 3) := by decide +kernel
theorem dX6_first_77 : decode cX6_first 77 = .ok (.iconst 0, 1) := by decide +kernel
theorem dX6_first_78 : decode cX6_first 78 = .ok (.istore 6, 2) := by decide +kernel
theorem dX6_first_80 : decode cX6_first 80 = .ok (.iload 5, 2) := by decide +kernel
theorem dX6_first_82 : decode cX6_first 82 = .ok (.ifCond .eq 13, 3) := by decide +kernel
theorem dX6_first_85 : decode cX6_first 85 = .ok (.iload 6, 2) := by decide +kernel
theorem dX6_first_87 : decode cX6_first 87 = .ok (.ifCond .eq 8, 3) := by decide +kernel
theorem dX6_first_90 : decode cX6_first 90 = .ok (.iload 4, 2) := by decide +kernel
theorem dX6_first_92 : decode cX6_first 92 = .ok (.goto 4, 3) := by decide +kernel
theorem dX6_first_95 : decode cX6_first 95 = .ok (.iload_n 3, 1) := by decide +kernel
theorem dX6_first_96 : decode cX6_first 96 = .ok (.istore_n 3, 1) := by decide +kernel
theorem dX6_first_97 : decode cX6_first 97 = .ok (.iinc 4 1, 3) := by decide +kernel
theorem dX6_first_100 : decode cX6_first 100 = .ok (.goto (-95), 3) := by decide +kernel
theorem dX6_first_103 : decode cX6_first 103 = .ok (.iload_n 3, 1) := by decide +kernel
theorem dX6_first_104 : decode cX6_first 104 = .ok (.ireturn, 1) := by decide +kernel
theorem dX6_water_0 : decode cX6_water 0 = .ok (.iload_n 1, 1) := by decide +kernel
theorem dX6_water_1 : decode cX6_water 1 = .ok (.i2l, 1) := by decide +kernel
theorem dX6_water_2 : decode cX6_water 2 = .ok (.iconst 0, 1) := by decide +kernel
theorem dX6_water_3 : decode cX6_water 3 = .ok (.iconst 2, 1) := by decide +kernel
theorem dX6_water_4 : decode cX6_water 4 = .ok (.invokestatic 41, 3) := by decide +kernel
theorem dX6_water_7 : decode cX6_water 7 = .ok (.ifCond .eq 26, 3) := by decide +kernel
theorem dX6_water_10 : decode cX6_water 10 = .ok (.iload_n 2, 1) := by decide +kernel
theorem dX6_water_11 : decode cX6_water 11 = .ok (.i2l, 1) := by decide +kernel
theorem dX6_water_12 : decode cX6_water 12 = .ok (.iconst 0, 1) := by decide +kernel
theorem dX6_water_13 : decode cX6_water 13 = .ok (.sipush 9999, 3) := by decide +kernel
theorem dX6_water_16 : decode cX6_water 16 = .ok (.invokestatic 41, 3) := by decide +kernel
theorem dX6_water_19 : decode cX6_water 19 = .ok (.ifCond .eq 14, 3) := by decide +kernel
theorem dX6_water_22 : decode cX6_water 22 = .ok (.aload_n 0, 1) := by decide +kernel
theorem dX6_water_23 : decode cX6_water 23 = .ok (.iconst 1, 1) := by decide +kernel
theorem dX6_water_24 : decode cX6_water 24 = .ok (.iload_n 1, 1) := by decide +kernel
theorem dX6_water_25 : decode cX6_water 25 = .ok (.iadd, 1) := by decide +kernel
theorem dX6_water_26 : decode cX6_water 26 = .ok (.iload_n 2, 1) := by decide +kernel
theorem dX6_water_27 : decode cX6_water 27 = .ok (.invokevirtual 68, 3) := by decide +kernel
theorem dX6_water_30 : decode cX6_water 30 = .ok (.goto 9, 3) := by decide +kernel
theorem dX6_water_33 : decode cX6_water 33 = .ok (.aload_n 0, 1) := by decide +kernel
theorem dX6_water_34 : decode cX6_water 34 = .ok (.ldc 35, 2) := by decide +kernel
theorem dX6_water_36 : decode cX6_water 36 = .ok (.invokevirtual 37, 3) := by decide +kernel
theorem dX6_water_39 : decode cX6_water 39 = .ok (.ireturn, 1) := by decide +kernel
theorem dX6_week_0 : decode cX6_week 0 = .ok (.iload_n 1, 1) := by decide +kernel
theorem dX6_week_1 : decode cX6_week 1 = .ok (.i2l, 1) := by decide +kernel
theorem dX6_week_2 : decode cX6_week 2 = .ok (.iconst 0, 1) := by decide +kernel
theorem dX6_week_3 : decode cX6_week 3 = .ok (.bipush 7, 2) := by decide +kernel
theorem dX6_week_5 : decode cX6_week 5 = .ok (.invokestatic 41, 3) := by decide +kernel
theorem dX6_week_8 : decode cX6_week 8 = .ok (.ifCond .eq 36, 3) := by decide +kernel
theorem dX6_week_11 : decode cX6_week 11 = .ok (.iload_n 2, 1) := by decide +kernel
theorem dX6_week_12 : decode cX6_week 12 = .ok (.i2l, 1) := by decide +kernel
theorem dX6_week_13 : decode cX6_week 13 = .ok (.iconst 0, 1) := by decide +kernel
theorem dX6_week_14 : decode cX6_week 14 = .ok (.iconst 1, 1) := by decide +kernel
theorem dX6_week_15 : decode cX6_week 15 = .ok (.invokestatic 41, 3) := by decide +kernel
theorem dX6_week_18 : decode cX6_week 18 = .ok (.ifCond .eq 26, 3) := by decide +kernel
theorem dX6_week_21 : decode cX6_week 21 = .ok (.iload_n 3, 1) := by decide +kernel
theorem dX6_week_22 : decode cX6_week 22 = .ok (.i2l, 1) := by decide +kernel
theorem dX6_week_23 : decode cX6_week 23 = .ok (.iconst 0, 1) := by decide +kernel
theorem dX6_week_24 : decode cX6_week 24 = .ok (.iload_n 2, 1) := by decide +kernel
theorem dX6_week_25 : decode cX6_week 25 = .ok (.ifCond .ne 8, 3) := by decide +kernel
theorem dX6_week_28 : decode cX6_week 28 = .ok (.bipush 99, 2) := by decide +kernel
theorem dX6_week_30 : decode cX6_week 30 = .ok (.goto 4, 3) := by decide +kernel
theorem dX6_week_33 : decode cX6_week 33 = .ok (.iconst 1, 1) := by decide +kernel
theorem dX6_week_34 : decode cX6_week 34 = .ok (.invokestatic 41, 3) := by decide +kernel
theorem dX6_week_37 : decode cX6_week 37 = .ok (.ifCond .eq 7, 3) := by decide +kernel
theorem dX6_week_40 : decode cX6_week 40 = .ok (.iconst 1, 1) := by decide +kernel
theorem dX6_week_41 : decode cX6_week 41 = .ok (.goto 4, 3) := by decide +kernel
theorem dX6_week_44 : decode cX6_week 44 = .ok (.iconst 0, 1) := by decide +kernel
theorem dX6_week_45 : decode cX6_week 45 = .ok (.istore 4, 2) := by decide +kernel
theorem dX6_week_47 : decode cX6_week 47 = .ok (.iload 4, 2) := by decide +kernel
theorem dX6_week_49 : decode cX6_week 49 = .ok (.ifCond .eq 19, 3) := by decide +kernel
theorem dX6_week_52 : decode cX6_week 52 = .ok (.aload_n 0, 1) := by decide +kernel
theorem dX6_week_53 : decode cX6_week 53 = .ok (.iconst 5, 1) := by decide +kernel
theorem dX6_week_54 : decode cX6_week 54 = .ok (.bipush 8, 2) := by decide +kernel
theorem dX6_week_56 : decode cX6_week 56 = .ok (.iload_n 2, 1) := by decide +kernel
theorem dX6_week_57 : decode cX6_week 57 = .ok (.imul, 1) := by decide +kernel
theorem dX6_week_58 : decode cX6_week 58 = .ok (.iadd, 1) := by decide +kernel
theorem dX6_week_59 : decode cX6_week 59 = .ok (.iload_n 1, 1) := by decide +kernel
theorem dX6_week_60 : decode cX6_week 60 = .ok (.iadd, 1) := by decide +kernel
theorem dX6_week_61 : decode cX6_week 61 = .ok (.iload_n 3, 1) := by decide +kernel
theorem dX6_week_62 : decode cX6_week 62 = .ok (.invokevirtual 68, 3) := by decide +kernel
theorem dX6_week_65 : decode cX6_week 65 = .ok (.goto 9, 3) := by decide +kernel
theorem dX6_week_68 : decode cX6_week 68 = .ok (.aload_n 0, 1) := by decide +kernel
theorem dX6_week_69 : decode cX6_week 69 = .ok (.ldc 35, 2) := by decide +kernel
theorem dX6_week_71 : decode cX6_week 71 = .ok (.invokevirtual 37, 3) := by decide +kernel
theorem dX6_week_74 : decode cX6_week 74 = .ok (.ireturn, 1) := by decide +kernel
theorem dX6_offOnes_0 : decode cX6_offOnes 0 = .ok (.iconst 0, 1) := by decide +kernel
theorem dX6_offOnes_1 : decode cX6_offOnes 1 = .ok (.istore_n 1, 1) := by decide +kernel
theorem dX6_offOnes_2 : decode cX6_offOnes 2 = .ok (.iconst 0, 1) := by decide +kernel
theorem dX6_offOnes_3 : decode cX6_offOnes 3 = .ok (.istore_n 2, 1) := by decide +kernel
theorem dX6_offOnes_4 : decode cX6_offOnes 4 = .ok (.iload_n 2, 1) := by decide +kernel
theorem dX6_offOnes_5 : decode cX6_offOnes 5 = .ok (.aload_n 0, 1) := by decide +kernel
theorem dX6_offOnes_6 : decode cX6_offOnes 6 = .ok (.getfield 9, 3) := by decide +kernel
theorem dX6_offOnes_9 : decode cX6_offOnes 9 = .ok (.iconst 4, 1) := by decide +kernel
theorem dX6_offOnes_10 : decode cX6_offOnes 10 = .ok (.iaload, 1) := by decide +kernel
theorem dX6_offOnes_11 : decode cX6_offOnes 11 = .ok (.if_icmp .ge 20, 3) := by decide +kernel
theorem dX6_offOnes_14 : decode cX6_offOnes 14 = .ok (.iload_n 1, 1) := by decide +kernel
theorem dX6_offOnes_15 : decode cX6_offOnes 15 = .ok (.aload_n 0, 1) := by decide +kernel
theorem dX6_offOnes_16 : decode cX6_offOnes 16 = .ok (.iload_n 2, 1) := by decide +kernel
theorem dX6_offOnes_17 : decode cX6_offOnes 17 = .ok (.iconst 2, 1) := by decide +kernel
theorem dX6_offOnes_18 : decode cX6_offOnes 18 = .ok (.invokevirtual 49, 3) := by decide +kernel
theorem dX6_offOnes_21 : decode cX6_offOnes 21 = .ok (.iload_n 2, 1) := by decide +kernel
theorem dX6_offOnes_22 : decode cX6_offOnes 22 = .ok (.ishl, 1) := by decide +kernel
theorem dX6_offOnes_23 : decode cX6_offOnes 23 = .ok (.ior, 1) := by decide +kernel
theorem dX6_offOnes_24 : decode cX6_offOnes 24 = .ok (.istore_n 1, 1) := by decide +kernel
theorem dX6_offOnes_25 : decode cX6_offOnes 25 = .ok (.iinc 2 1, 3) := by decide +kernel
theorem dX6_offOnes_28 : decode cX6_offOnes 28 = .ok (.goto (-24), 3) := by decide +kernel
theorem dX6_offOnes_31 : decode cX6_offOnes 31 = .ok (.iload_n 1, 1) := by decide +kernel
theorem dX6_offOnes_32 : decode cX6_offOnes 32 = .ok (.ireturn, 1) := by decide +kernel
theorem dX6_noise_0 : decode cX6_noise 0 = .ok (.iconst 0, 1) := by decide +kernel
theorem dX6_noise_1 : decode cX6_noise 1 = .ok (.istore_n 1, 1) := by decide +kernel
theorem dX6_noise_2 : decode cX6_noise 2 = .ok (.iconst 0, 1) := by decide +kernel
theorem dX6_noise_3 : decode cX6_noise 3 = .ok (.istore_n 2, 1) := by decide +kernel
theorem dX6_noise_4 : decode cX6_noise 4 = .ok (.iload_n 2, 1) := by decide +kernel
theorem dX6_noise_5 : decode cX6_noise 5 = .ok (.aload_n 0, 1) := by decide +kernel
theorem dX6_noise_6 : decode cX6_noise 6 = .ok (.getfield 9, 3) := by decide +kernel
theorem dX6_noise_9 : decode cX6_noise 9 = .ok (.iconst 4, 1) := by decide +kernel
theorem dX6_noise_10 : decode cX6_noise 10 = .ok (.iaload, 1) := by decide +kernel
theorem dX6_noise_11 : decode cX6_noise 11 = .ok (.if_icmp .ge 17, 3) := by decide +kernel
theorem dX6_noise_14 : decode cX6_noise 14 = .ok (.iload_n 1, 1) := by decide +kernel
theorem dX6_noise_15 : decode cX6_noise 15 = .ok (.aload_n 0, 1) := by decide +kernel
theorem dX6_noise_16 : decode cX6_noise 16 = .ok (.iload_n 2, 1) := by decide +kernel
theorem dX6_noise_17 : decode cX6_noise 17 = .ok (.invokevirtual 71, 3) := by decide +kernel
theorem dX6_noise_20 : decode cX6_noise 20 = .ok (.iadd, 1) := by decide +kernel
theorem dX6_noise_21 : decode cX6_noise 21 = .ok (.istore_n 1, 1) := by decide +kernel
theorem dX6_noise_22 : decode cX6_noise 22 = .ok (.iinc 2 1, 3) := by decide +kernel
theorem dX6_noise_25 : decode cX6_noise 25 = .ok (.goto (-21), 3) := by decide +kernel
theorem dX6_noise_28 : decode cX6_noise 28 = .ok (.iload_n 1, 1) := by decide +kernel
theorem dX6_noise_29 : decode cX6_noise 29 = .ok (.ireturn, 1) := by decide +kernel
theorem dX6_allUses_0 : decode cX6_allUses 0 = .ok (.iconst 0, 1) := by decide +kernel
theorem dX6_allUses_1 : decode cX6_allUses 1 = .ok (.istore_n 1, 1) := by decide +kernel
theorem dX6_allUses_2 : decode cX6_allUses 2 = .ok (.iconst 0, 1) := by decide +kernel
theorem dX6_allUses_3 : decode cX6_allUses 3 = .ok (.istore_n 2, 1) := by decide +kernel
theorem dX6_allUses_4 : decode cX6_allUses 4 = .ok (.iload_n 2, 1) := by decide +kernel
theorem dX6_allUses_5 : decode cX6_allUses 5 = .ok (.aload_n 0, 1) := by decide +kernel
theorem dX6_allUses_6 : decode cX6_allUses 6 = .ok (.getfield 9, 3) := by decide +kernel
theorem dX6_allUses_9 : decode cX6_allUses 9 = .ok (.iconst 4, 1) := by decide +kernel
theorem dX6_allUses_10 : decode cX6_allUses 10 = .ok (.iaload, 1) := by decide +kernel
theorem dX6_allUses_11 : decode cX6_allUses 11 = .ok (.if_icmp .ge 17, 3) := by decide +kernel
theorem dX6_allUses_14 : decode cX6_allUses 14 = .ok (.iload_n 1, 1) := by decide +kernel
theorem dX6_allUses_15 : decode cX6_allUses 15 = .ok (.aload_n 0, 1) := by decide +kernel
theorem dX6_allUses_16 : decode cX6_allUses 16 = .ok (.iload_n 2, 1) := by decide +kernel
theorem dX6_allUses_17 : decode cX6_allUses 17 = .ok (.invokevirtual 74, 3) := by decide +kernel
theorem dX6_allUses_20 : decode cX6_allUses 20 = .ok (.iadd, 1) := by decide +kernel
theorem dX6_allUses_21 : decode cX6_allUses 21 = .ok (.istore_n 1, 1) := by decide +kernel
theorem dX6_allUses_22 : decode cX6_allUses 22 = .ok (.iinc 2 1, 3) := by decide +kernel
theorem dX6_allUses_25 : decode cX6_allUses 25 = .ok (.goto (-21), 3) := by decide +kernel
theorem dX6_allUses_28 : decode cX6_allUses 28 = .ok (.iload_n 1, 1) := by decide +kernel
theorem dX6_allUses_29 : decode cX6_allUses 29 = .ok (.ireturn, 1) := by decide +kernel
theorem dX6_now_0 : decode cX6_now 0 = .ok (.iload_n 1, 1) := by decide +kernel
theorem dX6_now_1 : decode cX6_now 1 = .ok (.tableswitch 118 0 9 #[55, 62, 67, 67, 67, 78, 90, 103, 108, 113], 55) := by decide +kernel
theorem dX6_now_56 : decode cX6_now 56 = .ok (.aload_n 0, 1) := by decide +kernel
theorem dX6_now_57 : decode cX6_now 57 = .ok (.getfield 9, 3) := by decide +kernel
theorem dX6_now_60 : decode cX6_now 60 = .ok (.iconst 0, 1) := by decide +kernel
theorem dX6_now_61 : decode cX6_now 61 = .ok (.iaload, 1) := by decide +kernel
theorem dX6_now_62 : decode cX6_now 62 = .ok (.ireturn, 1) := by decide +kernel
theorem dX6_now_63 : decode cX6_now 63 = .ok (.aload_n 0, 1) := by decide +kernel
theorem dX6_now_64 : decode cX6_now 64 = .ok (.invokevirtual 45, 3) := by decide +kernel
theorem dX6_now_67 : decode cX6_now 67 = .ok (.ireturn, 1) := by decide +kernel
theorem dX6_now_68 : decode cX6_now 68 = .ok (.aload_n 0, 1) := by decide +kernel
theorem dX6_now_69 : decode cX6_now 69 = .ok (.getfield 9, 3) := by decide +kernel
theorem dX6_now_72 : decode cX6_now 72 = .ok (.iconst 1, 1) := by decide +kernel
theorem dX6_now_73 : decode cX6_now 73 = .ok (.iload_n 1, 1) := by decide +kernel
theorem dX6_now_74 : decode cX6_now 74 = .ok (.iadd, 1) := by decide +kernel
theorem dX6_now_75 : decode cX6_now 75 = .ok (.iconst 2, 1) := by decide +kernel
theorem dX6_now_76 : decode cX6_now 76 = .ok (.isub, 1) := by decide +kernel
theorem dX6_now_77 : decode cX6_now 77 = .ok (.iaload, 1) := by decide +kernel
theorem dX6_now_78 : decode cX6_now 78 = .ok (.ireturn, 1) := by decide +kernel
theorem dX6_now_79 : decode cX6_now 79 = .ok (.aload_n 0, 1) := by decide +kernel
theorem dX6_now_80 : decode cX6_now 80 = .ok (.getfield 9, 3) := by decide +kernel
theorem dX6_now_83 : decode cX6_now 83 = .ok (.iconst 5, 1) := by decide +kernel
theorem dX6_now_84 : decode cX6_now 84 = .ok (.aload_n 0, 1) := by decide +kernel
theorem dX6_now_85 : decode cX6_now 85 = .ok (.invokevirtual 45, 3) := by decide +kernel
theorem dX6_now_88 : decode cX6_now 88 = .ok (.iadd, 1) := by decide +kernel
theorem dX6_now_89 : decode cX6_now 89 = .ok (.iaload, 1) := by decide +kernel
theorem dX6_now_90 : decode cX6_now 90 = .ok (.ireturn, 1) := by decide +kernel
theorem dX6_now_91 : decode cX6_now 91 = .ok (.aload_n 0, 1) := by decide +kernel
theorem dX6_now_92 : decode cX6_now 92 = .ok (.getfield 9, 3) := by decide +kernel
theorem dX6_now_95 : decode cX6_now 95 = .ok (.bipush 13, 2) := by decide +kernel
theorem dX6_now_97 : decode cX6_now 97 = .ok (.aload_n 0, 1) := by decide +kernel
theorem dX6_now_98 : decode cX6_now 98 = .ok (.invokevirtual 45, 3) := by decide +kernel
theorem dX6_now_101 : decode cX6_now 101 = .ok (.iadd, 1) := by decide +kernel
theorem dX6_now_102 : decode cX6_now 102 = .ok (.iaload, 1) := by decide +kernel
theorem dX6_now_103 : decode cX6_now 103 = .ok (.ireturn, 1) := by decide +kernel
theorem dX6_now_104 : decode cX6_now 104 = .ok (.aload_n 0, 1) := by decide +kernel
theorem dX6_now_105 : decode cX6_now 105 = .ok (.invokevirtual 77, 3) := by decide +kernel
theorem dX6_now_108 : decode cX6_now 108 = .ok (.ireturn, 1) := by decide +kernel
theorem dX6_now_109 : decode cX6_now 109 = .ok (.aload_n 0, 1) := by decide +kernel
theorem dX6_now_110 : decode cX6_now 110 = .ok (.invokevirtual 80, 3) := by decide +kernel
theorem dX6_now_113 : decode cX6_now 113 = .ok (.ireturn, 1) := by decide +kernel
theorem dX6_now_114 : decode cX6_now 114 = .ok (.aload_n 0, 1) := by decide +kernel
theorem dX6_now_115 : decode cX6_now 115 = .ok (.invokevirtual 83, 3) := by decide +kernel
theorem dX6_now_118 : decode cX6_now 118 = .ok (.ireturn, 1) := by decide +kernel
theorem dX6_now_119 : decode cX6_now 119 = .ok (.aload_n 0, 1) := by decide +kernel
theorem dX6_now_120 : decode cX6_now 120 = .ok (.ldc 35, 2) := by decide +kernel
theorem dX6_now_122 : decode cX6_now 122 = .ok (.invokevirtual 37, 3) := by decide +kernel
theorem dX6_now_125 : decode cX6_now 125 = .ok (.ireturn, 1) := by decide +kernel
theorem dX6_comesAs_0 : decode cX6_comesAs 0 = .ok (.aload_n 0, 1) := by decide +kernel
theorem dX6_comesAs_1 : decode cX6_comesAs 1 = .ok (.getfield 9, 3) := by decide +kernel
theorem dX6_comesAs_4 : decode cX6_comesAs 4 = .ok (.iconst 4, 1) := by decide +kernel
theorem dX6_comesAs_5 : decode cX6_comesAs 5 = .ok (.iaload, 1) := by decide +kernel
theorem dX6_comesAs_6 : decode cX6_comesAs 6 = .ok (.istore 5, 2) := by decide +kernel
theorem dX6_comesAs_8 : decode cX6_comesAs 8 = .ok (.aload_n 0, 1) := by decide +kernel
theorem dX6_comesAs_9 : decode cX6_comesAs 9 = .ok (.getfield 9, 3) := by decide +kernel
theorem dX6_comesAs_12 : decode cX6_comesAs 12 = .ok (.iconst 4, 1) := by decide +kernel
theorem dX6_comesAs_13 : decode cX6_comesAs 13 = .ok (.dup2, 1) := by decide +kernel
theorem dX6_comesAs_14 : decode cX6_comesAs 14 = .ok (.iaload, 1) := by decide +kernel
theorem dX6_comesAs_15 : decode cX6_comesAs 15 = .ok (.iconst 1, 1) := by decide +kernel
theorem dX6_comesAs_16 : decode cX6_comesAs 16 = .ok (.iadd, 1) := by decide +kernel
theorem dX6_comesAs_17 : decode cX6_comesAs 17 = .ok (.iastore, 1) := by decide +kernel
theorem dX6_comesAs_18 : decode cX6_comesAs 18 = .ok (.aload_n 0, 1) := by decide +kernel
theorem dX6_comesAs_19 : decode cX6_comesAs 19 = .ok (.iload 5, 2) := by decide +kernel
theorem dX6_comesAs_21 : decode cX6_comesAs 21 = .ok (.iconst 0, 1) := by decide +kernel
theorem dX6_comesAs_22 : decode cX6_comesAs 22 = .ok (.iload_n 1, 1) := by decide +kernel
theorem dX6_comesAs_23 : decode cX6_comesAs 23 = .ok (.invokevirtual 86, 3) := by decide +kernel
theorem dX6_comesAs_26 : decode cX6_comesAs 26 = .ok (.aload_n 0, 1) := by decide +kernel
theorem dX6_comesAs_27 : decode cX6_comesAs 27 = .ok (.iload 5, 2) := by decide +kernel
theorem dX6_comesAs_29 : decode cX6_comesAs 29 = .ok (.iconst 1, 1) := by decide +kernel
theorem dX6_comesAs_30 : decode cX6_comesAs 30 = .ok (.iload_n 2, 1) := by decide +kernel
theorem dX6_comesAs_31 : decode cX6_comesAs 31 = .ok (.invokevirtual 86, 3) := by decide +kernel
theorem dX6_comesAs_34 : decode cX6_comesAs 34 = .ok (.aload_n 0, 1) := by decide +kernel
theorem dX6_comesAs_35 : decode cX6_comesAs 35 = .ok (.iload 5, 2) := by decide +kernel
theorem dX6_comesAs_37 : decode cX6_comesAs 37 = .ok (.iconst 2, 1) := by decide +kernel
theorem dX6_comesAs_38 : decode cX6_comesAs 38 = .ok (.iload 4, 2) := by decide +kernel
theorem dX6_comesAs_40 : decode cX6_comesAs 40 = .ok (.invokevirtual 86, 3) := by decide +kernel
theorem dX6_comesAs_43 : decode cX6_comesAs 43 = .ok (.aload_n 0, 1) := by decide +kernel
theorem dX6_comesAs_44 : decode cX6_comesAs 44 = .ok (.iload 5, 2) := by decide +kernel
theorem dX6_comesAs_46 : decode cX6_comesAs 46 = .ok (.iconst 3, 1) := by decide +kernel
theorem dX6_comesAs_47 : decode cX6_comesAs 47 = .ok (.iload_n 3, 1) := by decide +kernel
theorem dX6_comesAs_48 : decode cX6_comesAs 48 = .ok (.invokevirtual 86, 3) := by decide +kernel
theorem dX6_comesAs_51 : decode cX6_comesAs 51 = .ok (.aload_n 0, 1) := by decide +kernel
theorem dX6_comesAs_52 : decode cX6_comesAs 52 = .ok (.iload 5, 2) := by decide +kernel
theorem dX6_comesAs_54 : decode cX6_comesAs 54 = .ok (.iconst 4, 1) := by decide +kernel
theorem dX6_comesAs_55 : decode cX6_comesAs 55 = .ok (.iconst 0, 1) := by decide +kernel
theorem dX6_comesAs_56 : decode cX6_comesAs 56 = .ok (.invokevirtual 86, 3) := by decide +kernel
theorem dX6_comesAs_59 : decode cX6_comesAs 59 = .ok (.iload 5, 2) := by decide +kernel
theorem dX6_comesAs_61 : decode cX6_comesAs 61 = .ok (.ireturn, 1) := by decide +kernel
theorem dX6_fountain_0 : decode cX6_fountain 0 = .ok (.iload_n 1, 1) := by decide +kernel
theorem dX6_fountain_1 : decode cX6_fountain 1 = .ok (.i2l, 1) := by decide +kernel
theorem dX6_fountain_2 : decode cX6_fountain 2 = .ok (.iconst 0, 1) := by decide +kernel
theorem dX6_fountain_3 : decode cX6_fountain 3 = .ok (.iconst 5, 1) := by decide +kernel
theorem dX6_fountain_4 : decode cX6_fountain 4 = .ok (.invokestatic 41, 3) := by decide +kernel
theorem dX6_fountain_7 : decode cX6_fountain 7 = .ok (.ifCond .ne 10, 3) := by decide +kernel
theorem dX6_fountain_10 : decode cX6_fountain 10 = .ok (.aload_n 0, 1) := by decide +kernel
theorem dX6_fountain_11 : decode cX6_fountain 11 = .ok (.ldc 35, 2) := by decide +kernel
theorem dX6_fountain_13 : decode cX6_fountain 13 = .ok (.invokevirtual 37, 3) := by decide +kernel
theorem dX6_fountain_16 : decode cX6_fountain 16 = .ok (.ireturn, 1) := by decide +kernel
theorem dX6_fountain_17 : decode cX6_fountain 17 = .ok (.aload_n 0, 1) := by decide +kernel
theorem dX6_fountain_18 : decode cX6_fountain 18 = .ok (.getfield 9, 3) := by decide +kernel
theorem dX6_fountain_21 : decode cX6_fountain 21 = .ok (.iconst 4, 1) := by decide +kernel
theorem dX6_fountain_22 : decode cX6_fountain 22 = .ok (.iaload, 1) := by decide +kernel
theorem dX6_fountain_23 : decode cX6_fountain 23 = .ok (.bipush 8, 2) := by decide +kernel
theorem dX6_fountain_25 : decode cX6_fountain 25 = .ok (.if_icmp .ne 12, 3) := by decide +kernel
theorem dX6_fountain_28 : decode cX6_fountain 28 = .ok (.aload_n 0, 1) := by decide +kernel
theorem dX6_fountain_29 : decode cX6_fountain 29 = .ok (.ldc 90, 2) := by decide +kernel
theorem dX6_fountain_31 : decode cX6_fountain 31 = .ok (.invokevirtual 37, 3) := by decide +kernel
theorem dX6_fountain_34 : decode cX6_fountain 34 = .ok (.goto 13, 3) := by decide +kernel
theorem dX6_fountain_37 : decode cX6_fountain 37 = .ok (.aload_n 0, 1) := by decide +kernel
theorem dX6_fountain_38 : decode cX6_fountain 38 = .ok (.iload_n 1, 1) := by decide +kernel
theorem dX6_fountain_39 : decode cX6_fountain 39 = .ok (.bipush 10, 2) := by decide +kernel
theorem dX6_fountain_41 : decode cX6_fountain 41 = .ok (.bipush 20, 2) := by decide +kernel
theorem dX6_fountain_43 : decode cX6_fountain 43 = .ok (.iconst 0, 1) := by decide +kernel
theorem dX6_fountain_44 : decode cX6_fountain 44 = .ok (.invokevirtual 91, 3) := by decide +kernel
theorem dX6_fountain_47 : decode cX6_fountain 47 = .ok (.ireturn, 1) := by decide +kernel
theorem dX6_of_0 : decode cX6_of 0 = .ok (.aload_n 0, 1) := by decide +kernel
theorem dX6_of_1 : decode cX6_of 1 = .ok (.iload_n 1, 1) := by decide +kernel
theorem dX6_of_2 : decode cX6_of 2 = .ok (.invokevirtual 95, 3) := by decide +kernel
theorem dX6_of_5 : decode cX6_of 5 = .ok (.ifCond .eq 14, 3) := by decide +kernel
theorem dX6_of_8 : decode cX6_of 8 = .ok (.iload_n 2, 1) := by decide +kernel
theorem dX6_of_9 : decode cX6_of 9 = .ok (.i2l, 1) := by decide +kernel
theorem dX6_of_10 : decode cX6_of 10 = .ok (.iconst 0, 1) := by decide +kernel
theorem dX6_of_11 : decode cX6_of 11 = .ok (.bipush 8, 2) := by decide +kernel
theorem dX6_of_13 : decode cX6_of 13 = .ok (.invokestatic 41, 3) := by decide +kernel
theorem dX6_of_16 : decode cX6_of 16 = .ok (.ifCond .ne 10, 3) := by decide +kernel
theorem dX6_of_19 : decode cX6_of 19 = .ok (.aload_n 0, 1) := by decide +kernel
theorem dX6_of_20 : decode cX6_of 20 = .ok (.ldc 35, 2) := by decide +kernel
theorem dX6_of_22 : decode cX6_of 22 = .ok (.invokevirtual 37, 3) := by decide +kernel
theorem dX6_of_25 : decode cX6_of 25 = .ok (.ireturn, 1) := by decide +kernel
theorem dX6_of_26 : decode cX6_of 26 = .ok (.iload_n 2, 1) := by decide +kernel
theorem dX6_of_27 : decode cX6_of 27 = .ok (.tableswitch 60 5 8 #[29, 35, 41, 50], 29) := by decide +kernel
theorem dX6_of_56 : decode cX6_of 56 = .ok (.aload_n 0, 1) := by decide +kernel
theorem dX6_of_57 : decode cX6_of 57 = .ok (.iload_n 1, 1) := by decide +kernel
theorem dX6_of_58 : decode cX6_of 58 = .ok (.invokevirtual 74, 3) := by decide +kernel
theorem dX6_of_61 : decode cX6_of 61 = .ok (.ireturn, 1) := by decide +kernel
theorem dX6_of_62 : decode cX6_of 62 = .ok (.aload_n 0, 1) := by decide +kernel
theorem dX6_of_63 : decode cX6_of 63 = .ok (.iload_n 1, 1) := by decide +kernel
theorem dX6_of_64 : decode cX6_of 64 = .ok (.invokevirtual 71, 3) := by decide +kernel
theorem dX6_of_67 : decode cX6_of 67 = .ok (.ireturn, 1) := by decide +kernel
theorem dX6_of_68 : decode cX6_of 68 = .ok (.bipush 100, 2) := by decide +kernel
theorem dX6_of_70 : decode cX6_of 70 = .ok (.aload_n 0, 1) := by decide +kernel
theorem dX6_of_71 : decode cX6_of 71 = .ok (.iload_n 1, 1) := by decide +kernel
theorem dX6_of_72 : decode cX6_of 72 = .ok (.invokevirtual 98, 3) := by decide +kernel
theorem dX6_of_75 : decode cX6_of 75 = .ok (.iadd, 1) := by decide +kernel
theorem dX6_of_76 : decode cX6_of 76 = .ok (.ireturn, 1) := by decide +kernel
theorem dX6_of_77 : decode cX6_of 77 = .ok (.sipush 1000, 3) := by decide +kernel
theorem dX6_of_80 : decode cX6_of 80 = .ok (.aload_n 0, 1) := by decide +kernel
theorem dX6_of_81 : decode cX6_of 81 = .ok (.iload_n 1, 1) := by decide +kernel
theorem dX6_of_82 : decode cX6_of 82 = .ok (.invokevirtual 65, 3) := by decide +kernel
theorem dX6_of_85 : decode cX6_of 85 = .ok (.iadd, 1) := by decide +kernel
theorem dX6_of_86 : decode cX6_of 86 = .ok (.ireturn, 1) := by decide +kernel
theorem dX6_of_87 : decode cX6_of 87 = .ok (.aload_n 0, 1) := by decide +kernel
theorem dX6_of_88 : decode cX6_of 88 = .ok (.iload_n 1, 1) := by decide +kernel
theorem dX6_of_89 : decode cX6_of 89 = .ok (.iload_n 2, 1) := by decide +kernel
theorem dX6_of_90 : decode cX6_of 90 = .ok (.invokevirtual 49, 3) := by decide +kernel
theorem dX6_of_93 : decode cX6_of 93 = .ok (.ireturn, 1) := by decide +kernel
theorem dX6_mostOf_0 : decode cX6_mostOf 0 = .ok (.iload_n 0, 1) := by decide +kernel
theorem dX6_mostOf_1 : decode cX6_mostOf 1 = .ok (.iconst 1, 1) := by decide +kernel
theorem dX6_mostOf_2 : decode cX6_mostOf 2 = .ok (.if_icmp .ne 8, 3) := by decide +kernel
theorem dX6_mostOf_5 : decode cX6_mostOf 5 = .ok (.bipush 40, 2) := by decide +kernel
theorem dX6_mostOf_7 : decode cX6_mostOf 7 = .ok (.goto 25, 3) := by decide +kernel
theorem dX6_mostOf_10 : decode cX6_mostOf 10 = .ok (.iload_n 0, 1) := by decide +kernel
theorem dX6_mostOf_11 : decode cX6_mostOf 11 = .ok (.iconst 2, 1) := by decide +kernel
theorem dX6_mostOf_12 : decode cX6_mostOf 12 = .ok (.if_icmp .ne 7, 3) := by decide +kernel
theorem dX6_mostOf_15 : decode cX6_mostOf 15 = .ok (.iconst 1, 1) := by decide +kernel
theorem dX6_mostOf_16 : decode cX6_mostOf 16 = .ok (.goto 16, 3) := by decide +kernel
theorem dX6_mostOf_19 : decode cX6_mostOf 19 = .ok (.iload_n 0, 1) := by decide +kernel
theorem dX6_mostOf_20 : decode cX6_mostOf 20 = .ok (.iconst 3, 1) := by decide +kernel
theorem dX6_mostOf_21 : decode cX6_mostOf 21 = .ok (.if_icmp .ne 8, 3) := by decide +kernel
theorem dX6_mostOf_24 : decode cX6_mostOf 24 = .ok (.bipush 99, 2) := by decide +kernel
theorem dX6_mostOf_26 : decode cX6_mostOf 26 = .ok (.goto 6, 3) := by decide +kernel
theorem dX6_mostOf_29 : decode cX6_mostOf 29 = .ok (.sipush 9999, 3) := by decide +kernel
theorem dX6_mostOf_32 : decode cX6_mostOf 32 = .ok (.ireturn, 1) := by decide +kernel
theorem dX6_set_0 : decode cX6_set 0 = .ok (.aload_n 0, 1) := by decide +kernel
theorem dX6_set_1 : decode cX6_set 1 = .ok (.iload_n 1, 1) := by decide +kernel
theorem dX6_set_2 : decode cX6_set 2 = .ok (.invokevirtual 95, 3) := by decide +kernel
theorem dX6_set_5 : decode cX6_set 5 = .ok (.ifCond .eq 39, 3) := by decide +kernel
theorem dX6_set_8 : decode cX6_set 8 = .ok (.iload_n 2, 1) := by decide +kernel
theorem dX6_set_9 : decode cX6_set 9 = .ok (.i2l, 1) := by decide +kernel
theorem dX6_set_10 : decode cX6_set 10 = .ok (.iconst 1, 1) := by decide +kernel
theorem dX6_set_11 : decode cX6_set 11 = .ok (.iconst 4, 1) := by decide +kernel
theorem dX6_set_12 : decode cX6_set 12 = .ok (.invokestatic 41, 3) := by decide +kernel
theorem dX6_set_15 : decode cX6_set 15 = .ok (.ifCond .eq 29, 3) := by decide +kernel
theorem dX6_set_18 : decode cX6_set 18 = .ok (.iload_n 3, 1) := by decide +kernel
theorem dX6_set_19 : decode cX6_set 19 = .ok (.i2l, 1) := by decide +kernel
theorem dX6_set_20 : decode cX6_set 20 = .ok (.iload_n 2, 1) := by decide +kernel
theorem dX6_set_21 : decode cX6_set 21 = .ok (.iconst 1, 1) := by decide +kernel
theorem dX6_set_22 : decode cX6_set 22 = .ok (.if_icmp .ne 7, 3) := by decide +kernel
theorem dX6_set_25 : decode cX6_set 25 = .ok (.iconst 1, 1) := by decide +kernel
theorem dX6_set_26 : decode cX6_set 26 = .ok (.goto 4, 3) := by decide +kernel
theorem dX6_set_29 : decode cX6_set 29 = .ok (.iconst 0, 1) := by decide +kernel
theorem dX6_set_30 : decode cX6_set 30 = .ok (.iload_n 2, 1) := by decide +kernel
theorem dX6_set_31 : decode cX6_set 31 = .ok (.invokestatic 101, 3) := by decide +kernel
theorem dX6_set_34 : decode cX6_set 34 = .ok (.invokestatic 41, 3) := by decide +kernel
theorem dX6_set_37 : decode cX6_set 37 = .ok (.ifCond .eq 7, 3) := by decide +kernel
theorem dX6_set_40 : decode cX6_set 40 = .ok (.iconst 1, 1) := by decide +kernel
theorem dX6_set_41 : decode cX6_set 41 = .ok (.goto 4, 3) := by decide +kernel
theorem dX6_set_44 : decode cX6_set 44 = .ok (.iconst 0, 1) := by decide +kernel
theorem dX6_set_45 : decode cX6_set 45 = .ok (.istore 4, 2) := by decide +kernel
theorem dX6_set_47 : decode cX6_set 47 = .ok (.iload 4, 2) := by decide +kernel
theorem dX6_set_49 : decode cX6_set 49 = .ok (.ifCond .eq 19, 3) := by decide +kernel
theorem dX6_set_52 : decode cX6_set 52 = .ok (.aload_n 0, 1) := by decide +kernel
theorem dX6_set_53 : decode cX6_set 53 = .ok (.bipush 21, 2) := by decide +kernel
theorem dX6_set_55 : decode cX6_set 55 = .ok (.iconst 5, 1) := by decide +kernel
theorem dX6_set_56 : decode cX6_set 56 = .ok (.iload_n 1, 1) := by decide +kernel
theorem dX6_set_57 : decode cX6_set 57 = .ok (.imul, 1) := by decide +kernel
theorem dX6_set_58 : decode cX6_set 58 = .ok (.iadd, 1) := by decide +kernel
theorem dX6_set_59 : decode cX6_set 59 = .ok (.iload_n 2, 1) := by decide +kernel
theorem dX6_set_60 : decode cX6_set 60 = .ok (.iadd, 1) := by decide +kernel
theorem dX6_set_61 : decode cX6_set 61 = .ok (.iload_n 3, 1) := by decide +kernel
theorem dX6_set_62 : decode cX6_set 62 = .ok (.invokevirtual 68, 3) := by decide +kernel
theorem dX6_set_65 : decode cX6_set 65 = .ok (.goto 9, 3) := by decide +kernel
theorem dX6_set_68 : decode cX6_set 68 = .ok (.aload_n 0, 1) := by decide +kernel
theorem dX6_set_69 : decode cX6_set 69 = .ok (.ldc 35, 2) := by decide +kernel
theorem dX6_set_71 : decode cX6_set 71 = .ok (.invokevirtual 37, 3) := by decide +kernel
theorem dX6_set_74 : decode cX6_set 74 = .ok (.ireturn, 1) := by decide +kernel
theorem dX6_turn_0 : decode cX6_turn 0 = .ok (.aload_n 0, 1) := by decide +kernel
theorem dX6_turn_1 : decode cX6_turn 1 = .ok (.iload_n 1, 1) := by decide +kernel
theorem dX6_turn_2 : decode cX6_turn 2 = .ok (.invokevirtual 95, 3) := by decide +kernel
theorem dX6_turn_5 : decode cX6_turn 5 = .ok (.ifCond .eq 27, 3) := by decide +kernel
theorem dX6_turn_8 : decode cX6_turn 8 = .ok (.iload_n 2, 1) := by decide +kernel
theorem dX6_turn_9 : decode cX6_turn 9 = .ok (.i2l, 1) := by decide +kernel
theorem dX6_turn_10 : decode cX6_turn 10 = .ok (.iconst 0, 1) := by decide +kernel
theorem dX6_turn_11 : decode cX6_turn 11 = .ok (.iconst 5, 1) := by decide +kernel
theorem dX6_turn_12 : decode cX6_turn 12 = .ok (.invokestatic 41, 3) := by decide +kernel
theorem dX6_turn_15 : decode cX6_turn 15 = .ok (.ifCond .eq 17, 3) := by decide +kernel
theorem dX6_turn_18 : decode cX6_turn 18 = .ok (.aload_n 0, 1) := by decide +kernel
theorem dX6_turn_19 : decode cX6_turn 19 = .ok (.bipush 21, 2) := by decide +kernel
theorem dX6_turn_21 : decode cX6_turn 21 = .ok (.iconst 5, 1) := by decide +kernel
theorem dX6_turn_22 : decode cX6_turn 22 = .ok (.iload_n 1, 1) := by decide +kernel
theorem dX6_turn_23 : decode cX6_turn 23 = .ok (.imul, 1) := by decide +kernel
theorem dX6_turn_24 : decode cX6_turn 24 = .ok (.iadd, 1) := by decide +kernel
theorem dX6_turn_25 : decode cX6_turn 25 = .ok (.iload_n 2, 1) := by decide +kernel
theorem dX6_turn_26 : decode cX6_turn 26 = .ok (.invokevirtual 68, 3) := by decide +kernel
theorem dX6_turn_29 : decode cX6_turn 29 = .ok (.goto 9, 3) := by decide +kernel
theorem dX6_turn_32 : decode cX6_turn 32 = .ok (.aload_n 0, 1) := by decide +kernel
theorem dX6_turn_33 : decode cX6_turn 33 = .ok (.ldc 35, 2) := by decide +kernel
theorem dX6_turn_35 : decode cX6_turn 35 = .ok (.invokevirtual 37, 3) := by decide +kernel
theorem dX6_turn_38 : decode cX6_turn 38 = .ok (.ireturn, 1) := by decide +kernel
theorem dX6_as_0 : decode cX6_as 0 = .ok (.aload_n 0, 1) := by decide +kernel
theorem dX6_as_1 : decode cX6_as 1 = .ok (.iload_n 1, 1) := by decide +kernel
theorem dX6_as_2 : decode cX6_as 2 = .ok (.invokevirtual 95, 3) := by decide +kernel
theorem dX6_as_5 : decode cX6_as 5 = .ok (.ifCond .eq 13, 3) := by decide +kernel
theorem dX6_as_8 : decode cX6_as 8 = .ok (.iload_n 2, 1) := by decide +kernel
theorem dX6_as_9 : decode cX6_as 9 = .ok (.i2l, 1) := by decide +kernel
theorem dX6_as_10 : decode cX6_as 10 = .ok (.iconst 0, 1) := by decide +kernel
theorem dX6_as_11 : decode cX6_as 11 = .ok (.iconst 5, 1) := by decide +kernel
theorem dX6_as_12 : decode cX6_as 12 = .ok (.invokestatic 41, 3) := by decide +kernel
theorem dX6_as_15 : decode cX6_as 15 = .ok (.ifCond .ne 10, 3) := by decide +kernel
theorem dX6_as_18 : decode cX6_as 18 = .ok (.aload_n 0, 1) := by decide +kernel
theorem dX6_as_19 : decode cX6_as 19 = .ok (.ldc 35, 2) := by decide +kernel
theorem dX6_as_21 : decode cX6_as 21 = .ok (.invokevirtual 37, 3) := by decide +kernel
theorem dX6_as_24 : decode cX6_as 24 = .ok (.ireturn, 1) := by decide +kernel
theorem dX6_as_25 : decode cX6_as 25 = .ok (.aload_n 0, 1) := by decide +kernel
theorem dX6_as_26 : decode cX6_as 26 = .ok (.iload_n 1, 1) := by decide +kernel
theorem dX6_as_27 : decode cX6_as 27 = .ok (.iconst 0, 1) := by decide +kernel
theorem dX6_as_28 : decode cX6_as 28 = .ok (.invokevirtual 49, 3) := by decide +kernel
theorem dX6_as_31 : decode cX6_as 31 = .ok (.istore_n 3, 1) := by decide +kernel
theorem dX6_as_32 : decode cX6_as 32 = .ok (.iload_n 2, 1) := by decide +kernel
theorem dX6_as_33 : decode cX6_as 33 = .ok (.ifCond .eq 28, 3) := by decide +kernel
theorem dX6_as_36 : decode cX6_as 36 = .ok (.iload_n 2, 1) := by decide +kernel
theorem dX6_as_37 : decode cX6_as 37 = .ok (.iload_n 3, 1) := by decide +kernel
theorem dX6_as_38 : decode cX6_as 38 = .ok (.if_icmp .eq 23, 3) := by decide +kernel
theorem dX6_as_41 : decode cX6_as 41 = .ok (.iload_n 2, 1) := by decide +kernel
theorem dX6_as_42 : decode cX6_as 42 = .ok (.iconst 1, 1) := by decide +kernel
theorem dX6_as_43 : decode cX6_as 43 = .ok (.if_icmp .ne 8, 3) := by decide +kernel
theorem dX6_as_46 : decode cX6_as 46 = .ok (.iload_n 3, 1) := by decide +kernel
theorem dX6_as_47 : decode cX6_as 47 = .ok (.iconst 4, 1) := by decide +kernel
theorem dX6_as_48 : decode cX6_as 48 = .ok (.if_icmp .eq 13, 3) := by decide +kernel
theorem dX6_as_51 : decode cX6_as 51 = .ok (.iload_n 2, 1) := by decide +kernel
theorem dX6_as_52 : decode cX6_as 52 = .ok (.iconst 3, 1) := by decide +kernel
theorem dX6_as_53 : decode cX6_as 53 = .ok (.if_icmp .ne 12, 3) := by decide +kernel
theorem dX6_as_56 : decode cX6_as 56 = .ok (.iload_n 3, 1) := by decide +kernel
theorem dX6_as_57 : decode cX6_as 57 = .ok (.iconst 5, 1) := by decide +kernel
theorem dX6_as_58 : decode cX6_as 58 = .ok (.if_icmp .ne 7, 3) := by decide +kernel
theorem dX6_as_61 : decode cX6_as 61 = .ok (.iconst 1, 1) := by decide +kernel
theorem dX6_as_62 : decode cX6_as 62 = .ok (.goto 4, 3) := by decide +kernel
theorem dX6_as_65 : decode cX6_as 65 = .ok (.iconst 0, 1) := by decide +kernel
theorem dX6_as_66 : decode cX6_as 66 = .ok (.istore 4, 2) := by decide +kernel
theorem dX6_as_68 : decode cX6_as 68 = .ok (.iload 4, 2) := by decide +kernel
theorem dX6_as_70 : decode cX6_as 70 = .ok (.ifCond .eq 12, 3) := by decide +kernel
theorem dX6_as_73 : decode cX6_as 73 = .ok (.aload_n 0, 1) := by decide +kernel
theorem dX6_as_74 : decode cX6_as 74 = .ok (.iload_n 1, 1) := by decide +kernel
theorem dX6_as_75 : decode cX6_as 75 = .ok (.iconst 3, 1) := by decide +kernel
theorem dX6_as_76 : decode cX6_as 76 = .ok (.invokevirtual 49, 3) := by decide +kernel
theorem dX6_as_79 : decode cX6_as 79 = .ok (.goto 9, 3) := by decide +kernel
theorem dX6_as_82 : decode cX6_as 82 = .ok (.aload_n 0, 1) := by decide +kernel
theorem dX6_as_83 : decode cX6_as 83 = .ok (.ldc 104, 2) := by decide +kernel
theorem dX6_as_85 : decode cX6_as 85 = .ok (.invokevirtual 37, 3) := by decide +kernel
theorem dX6_as_88 : decode cX6_as 88 = .ok (.ireturn, 1) := by decide +kernel
theorem dX6_next_0 : decode cX6_next 0 = .ok (.aload_n 0, 1) := by decide +kernel
theorem dX6_next_1 : decode cX6_next 1 = .ok (.aload_n 0, 1) := by decide +kernel
theorem dX6_next_2 : decode cX6_next 2 = .ok (.iconst 0, 1) := by decide +kernel
theorem dX6_next_3 : decode cX6_next 3 = .ok (.iconst 1, 1) := by decide +kernel
theorem dX6_next_4 : decode cX6_next 4 = .ok (.invokevirtual 105, 3) := by decide +kernel
theorem dX6_next_7 : decode cX6_next 7 = .ok (.invokevirtual 109, 3) := by decide +kernel
theorem dX6_next_10 : decode cX6_next 10 = .ok (.ireturn, 1) := by decide +kernel
theorem dX6_turnsOff_0 : decode cX6_turnsOff 0 = .ok (.aload_n 0, 1) := by decide +kernel
theorem dX6_turnsOff_1 : decode cX6_turnsOff 1 = .ok (.iload_n 1, 1) := by decide +kernel
theorem dX6_turnsOff_2 : decode cX6_turnsOff 2 = .ok (.iconst 2, 1) := by decide +kernel
theorem dX6_turnsOff_3 : decode cX6_turnsOff 3 = .ok (.iconst 1, 1) := by decide +kernel
theorem dX6_turnsOff_4 : decode cX6_turnsOff 4 = .ok (.invokevirtual 86, 3) := by decide +kernel
theorem dX6_turnsOff_7 : decode cX6_turnsOff 7 = .ok (.aload_n 0, 1) := by decide +kernel
theorem dX6_turnsOff_8 : decode cX6_turnsOff 8 = .ok (.iload_n 1, 1) := by decide +kernel
theorem dX6_turnsOff_9 : decode cX6_turnsOff 9 = .ok (.iconst 4, 1) := by decide +kernel
theorem dX6_turnsOff_10 : decode cX6_turnsOff 10 = .ok (.aload_n 0, 1) := by decide +kernel
theorem dX6_turnsOff_11 : decode cX6_turnsOff 11 = .ok (.iload_n 1, 1) := by decide +kernel
theorem dX6_turnsOff_12 : decode cX6_turnsOff 12 = .ok (.iconst 4, 1) := by decide +kernel
theorem dX6_turnsOff_13 : decode cX6_turnsOff 13 = .ok (.invokevirtual 49, 3) := by decide +kernel
theorem dX6_turnsOff_16 : decode cX6_turnsOff 16 = .ok (.iconst 1, 1) := by decide +kernel
theorem dX6_turnsOff_17 : decode cX6_turnsOff 17 = .ok (.iadd, 1) := by decide +kernel
theorem dX6_turnsOff_18 : decode cX6_turnsOff 18 = .ok (.iconst 0, 1) := by decide +kernel
theorem dX6_turnsOff_19 : decode cX6_turnsOff 19 = .ok (.sipush 9999, 3) := by decide +kernel
theorem dX6_turnsOff_22 : decode cX6_turnsOff 22 = .ok (.invokestatic 53, 3) := by decide +kernel
theorem dX6_turnsOff_25 : decode cX6_turnsOff 25 = .ok (.invokevirtual 86, 3) := by decide +kernel
theorem dX6_turnsOff_28 : decode cX6_turnsOff 28 = .ok (.return_, 1) := by decide +kernel
theorem dX6_committee_0 : decode cX6_committee 0 = .ok (.aload_n 0, 1) := by decide +kernel
theorem dX6_committee_1 : decode cX6_committee 1 = .ok (.getfield 9, 3) := by decide +kernel
theorem dX6_committee_4 : decode cX6_committee 4 = .ok (.iconst 1, 1) := by decide +kernel
theorem dX6_committee_5 : decode cX6_committee 5 = .ok (.iaload, 1) := by decide +kernel
theorem dX6_committee_6 : decode cX6_committee 6 = .ok (.aload_n 0, 1) := by decide +kernel
theorem dX6_committee_7 : decode cX6_committee 7 = .ok (.getfield 9, 3) := by decide +kernel
theorem dX6_committee_10 : decode cX6_committee 10 = .ok (.iconst 2, 1) := by decide +kernel
theorem dX6_committee_11 : decode cX6_committee 11 = .ok (.iaload, 1) := by decide +kernel
theorem dX6_committee_12 : decode cX6_committee 12 = .ok (.if_icmp .ge 12, 3) := by decide +kernel
theorem dX6_committee_15 : decode cX6_committee 15 = .ok (.aload_n 0, 1) := by decide +kernel
theorem dX6_committee_16 : decode cX6_committee 16 = .ok (.iconst 0, 1) := by decide +kernel
theorem dX6_committee_17 : decode cX6_committee 17 = .ok (.iconst 1, 1) := by decide +kernel
theorem dX6_committee_18 : decode cX6_committee 18 = .ok (.invokevirtual 105, 3) := by decide +kernel
theorem dX6_committee_21 : decode cX6_committee 21 = .ok (.goto 28, 3) := by decide +kernel
theorem dX6_committee_24 : decode cX6_committee 24 = .ok (.aload_n 0, 1) := by decide +kernel
theorem dX6_committee_25 : decode cX6_committee 25 = .ok (.getfield 9, 3) := by decide +kernel
theorem dX6_committee_28 : decode cX6_committee 28 = .ok (.iconst 1, 1) := by decide +kernel
theorem dX6_committee_29 : decode cX6_committee 29 = .ok (.iaload, 1) := by decide +kernel
theorem dX6_committee_30 : decode cX6_committee 30 = .ok (.aload_n 0, 1) := by decide +kernel
theorem dX6_committee_31 : decode cX6_committee 31 = .ok (.getfield 9, 3) := by decide +kernel
theorem dX6_committee_34 : decode cX6_committee 34 = .ok (.iconst 3, 1) := by decide +kernel
theorem dX6_committee_35 : decode cX6_committee 35 = .ok (.iaload, 1) := by decide +kernel
theorem dX6_committee_36 : decode cX6_committee 36 = .ok (.if_icmp .lt 12, 3) := by decide +kernel
theorem dX6_committee_39 : decode cX6_committee 39 = .ok (.aload_n 0, 1) := by decide +kernel
theorem dX6_committee_40 : decode cX6_committee 40 = .ok (.iconst 1, 1) := by decide +kernel
theorem dX6_committee_41 : decode cX6_committee 41 = .ok (.iconst 0, 1) := by decide +kernel
theorem dX6_committee_42 : decode cX6_committee 42 = .ok (.invokevirtual 105, 3) := by decide +kernel
theorem dX6_committee_45 : decode cX6_committee 45 = .ok (.goto 4, 3) := by decide +kernel
theorem dX6_committee_48 : decode cX6_committee 48 = .ok (.iconst (-1), 1) := by decide +kernel
theorem dX6_committee_49 : decode cX6_committee 49 = .ok (.istore_n 1, 1) := by decide +kernel
theorem dX6_committee_50 : decode cX6_committee 50 = .ok (.iload_n 1, 1) := by decide +kernel
theorem dX6_committee_51 : decode cX6_committee 51 = .ok (.ifCond .lt 26, 3) := by decide +kernel
theorem dX6_committee_54 : decode cX6_committee 54 = .ok (.aload_n 0, 1) := by decide +kernel
theorem dX6_committee_55 : decode cX6_committee 55 = .ok (.getfield 9, 3) := by decide +kernel
theorem dX6_committee_58 : decode cX6_committee 58 = .ok (.iconst 1, 1) := by decide +kernel
theorem dX6_committee_59 : decode cX6_committee 59 = .ok (.iaload, 1) := by decide +kernel
theorem dX6_committee_60 : decode cX6_committee 60 = .ok (.aload_n 0, 1) := by decide +kernel
theorem dX6_committee_61 : decode cX6_committee 61 = .ok (.getfield 9, 3) := by decide +kernel
theorem dX6_committee_64 : decode cX6_committee 64 = .ok (.iconst 2, 1) := by decide +kernel
theorem dX6_committee_65 : decode cX6_committee 65 = .ok (.iaload, 1) := by decide +kernel
theorem dX6_committee_66 : decode cX6_committee 66 = .ok (.if_icmp .ge 11, 3) := by decide +kernel
theorem dX6_committee_69 : decode cX6_committee 69 = .ok (.aload_n 0, 1) := by decide +kernel
theorem dX6_committee_70 : decode cX6_committee 70 = .ok (.iload_n 1, 1) := by decide +kernel
theorem dX6_committee_71 : decode cX6_committee 71 = .ok (.invokevirtual 112, 3) := by decide +kernel
theorem dX6_committee_74 : decode cX6_committee 74 = .ok (.goto 14, 3) := by decide +kernel
theorem dX6_committee_77 : decode cX6_committee 77 = .ok (.iload_n 1, 1) := by decide +kernel
theorem dX6_committee_78 : decode cX6_committee 78 = .ok (.ifCond .lt 10, 3) := by decide +kernel
theorem dX6_committee_81 : decode cX6_committee 81 = .ok (.aload_n 0, 1) := by decide +kernel
theorem dX6_committee_82 : decode cX6_committee 82 = .ok (.iload_n 1, 1) := by decide +kernel
theorem dX6_committee_83 : decode cX6_committee 83 = .ok (.iconst 2, 1) := by decide +kernel
theorem dX6_committee_84 : decode cX6_committee 84 = .ok (.iconst 0, 1) := by decide +kernel
theorem dX6_committee_85 : decode cX6_committee 85 = .ok (.invokevirtual 86, 3) := by decide +kernel
theorem dX6_committee_88 : decode cX6_committee 88 = .ok (.return_, 1) := by decide +kernel
theorem dX6_flows_0 : decode cX6_flows 0 = .ok (.aload_n 0, 1) := by decide +kernel
theorem dX6_flows_1 : decode cX6_flows 1 = .ok (.getfield 9, 3) := by decide +kernel
theorem dX6_flows_4 : decode cX6_flows 4 = .ok (.iconst 1, 1) := by decide +kernel
theorem dX6_flows_5 : decode cX6_flows 5 = .ok (.iaload, 1) := by decide +kernel
theorem dX6_flows_6 : decode cX6_flows 6 = .ok (.aload_n 0, 1) := by decide +kernel
theorem dX6_flows_7 : decode cX6_flows 7 = .ok (.iload_n 1, 1) := by decide +kernel
theorem dX6_flows_8 : decode cX6_flows 8 = .ok (.invokevirtual 74, 3) := by decide +kernel
theorem dX6_flows_11 : decode cX6_flows 11 = .ok (.if_icmp .lt 20, 3) := by decide +kernel
theorem dX6_flows_14 : decode cX6_flows 14 = .ok (.aload_n 0, 1) := by decide +kernel
theorem dX6_flows_15 : decode cX6_flows 15 = .ok (.getfield 9, 3) := by decide +kernel
theorem dX6_flows_18 : decode cX6_flows 18 = .ok (.iconst 1, 1) := by decide +kernel
theorem dX6_flows_19 : decode cX6_flows 19 = .ok (.dup2, 1) := by decide +kernel
theorem dX6_flows_20 : decode cX6_flows 20 = .ok (.iaload, 1) := by decide +kernel
theorem dX6_flows_21 : decode cX6_flows 21 = .ok (.aload_n 0, 1) := by decide +kernel
theorem dX6_flows_22 : decode cX6_flows 22 = .ok (.iload_n 1, 1) := by decide +kernel
theorem dX6_flows_23 : decode cX6_flows 23 = .ok (.invokevirtual 74, 3) := by decide +kernel
theorem dX6_flows_26 : decode cX6_flows 26 = .ok (.isub, 1) := by decide +kernel
theorem dX6_flows_27 : decode cX6_flows 27 = .ok (.iastore, 1) := by decide +kernel
theorem dX6_flows_28 : decode cX6_flows 28 = .ok (.goto 18, 3) := by decide +kernel
theorem dX6_flows_31 : decode cX6_flows 31 = .ok (.aload_n 0, 1) := by decide +kernel
theorem dX6_flows_32 : decode cX6_flows 32 = .ok (.iload_n 1, 1) := by decide +kernel
theorem dX6_flows_33 : decode cX6_flows 33 = .ok (.iconst 0, 1) := by decide +kernel
theorem dX6_flows_34 : decode cX6_flows 34 = .ok (.invokevirtual 49, 3) := by decide +kernel
theorem dX6_flows_37 : decode cX6_flows 37 = .ok (.iconst 5, 1) := by decide +kernel
theorem dX6_flows_38 : decode cX6_flows 38 = .ok (.if_icmp .eq 8, 3) := by decide +kernel
theorem dX6_flows_41 : decode cX6_flows 41 = .ok (.aload_n 0, 1) := by decide +kernel
theorem dX6_flows_42 : decode cX6_flows 42 = .ok (.iload_n 1, 1) := by decide +kernel
theorem dX6_flows_43 : decode cX6_flows 43 = .ok (.invokevirtual 112, 3) := by decide +kernel
theorem dX6_flows_46 : decode cX6_flows 46 = .ok (.return_, 1) := by decide +kernel
theorem dX6_goes_0 : decode cX6_goes 0 = .ok (.aload_n 0, 1) := by decide +kernel
theorem dX6_goes_1 : decode cX6_goes 1 = .ok (.getfield 9, 3) := by decide +kernel
theorem dX6_goes_4 : decode cX6_goes 4 = .ok (.iconst 1, 1) := by decide +kernel
theorem dX6_goes_5 : decode cX6_goes 5 = .ok (.aload_n 0, 1) := by decide +kernel
theorem dX6_goes_6 : decode cX6_goes 6 = .ok (.getfield 9, 3) := by decide +kernel
theorem dX6_goes_9 : decode cX6_goes 9 = .ok (.iconst 1, 1) := by decide +kernel
theorem dX6_goes_10 : decode cX6_goes 10 = .ok (.iaload, 1) := by decide +kernel
theorem dX6_goes_11 : decode cX6_goes 11 = .ok (.aload_n 0, 1) := by decide +kernel
theorem dX6_goes_12 : decode cX6_goes 12 = .ok (.getfield 9, 3) := by decide +kernel
theorem dX6_goes_15 : decode cX6_goes 15 = .ok (.iconst 5, 1) := by decide +kernel
theorem dX6_goes_16 : decode cX6_goes 16 = .ok (.aload_n 0, 1) := by decide +kernel
theorem dX6_goes_17 : decode cX6_goes 17 = .ok (.invokevirtual 45, 3) := by decide +kernel
end
section
theorem dX6_goes_20 : decode cX6_goes 20 = .ok (.iadd, 1) := by decide +kernel
theorem dX6_goes_21 : decode cX6_goes 21 = .ok (.iaload, 1) := by decide +kernel
theorem dX6_goes_22 : decode cX6_goes 22 = .ok (.iadd, 1) := by decide +kernel
theorem dX6_goes_23 : decode cX6_goes 23 = .ok (.iconst 0, 1) := by decide +kernel
theorem dX6_goes_24 : decode cX6_goes 24 = .ok (.sipush 9999, 3) := by decide +kernel
theorem dX6_goes_27 : decode cX6_goes 27 = .ok (.invokestatic 53, 3) := by decide +kernel
theorem dX6_goes_30 : decode cX6_goes 30 = .ok (.iastore, 1) := by decide +kernel
theorem dX6_goes_31 : decode cX6_goes 31 = .ok (.aload_n 0, 1) := by decide +kernel
theorem dX6_goes_32 : decode cX6_goes 32 = .ok (.invokevirtual 116, 3) := by decide +kernel
theorem dX6_goes_35 : decode cX6_goes 35 = .ok (.iconst 0, 1) := by decide +kernel
theorem dX6_goes_36 : decode cX6_goes 36 = .ok (.istore_n 1, 1) := by decide +kernel
theorem dX6_goes_37 : decode cX6_goes 37 = .ok (.iload_n 1, 1) := by decide +kernel
theorem dX6_goes_38 : decode cX6_goes 38 = .ok (.aload_n 0, 1) := by decide +kernel
theorem dX6_goes_39 : decode cX6_goes 39 = .ok (.getfield 9, 3) := by decide +kernel
theorem dX6_goes_42 : decode cX6_goes 42 = .ok (.iconst 4, 1) := by decide +kernel
theorem dX6_goes_43 : decode cX6_goes 43 = .ok (.iaload, 1) := by decide +kernel
theorem dX6_goes_44 : decode cX6_goes 44 = .ok (.if_icmp .ge 14, 3) := by decide +kernel
theorem dX6_goes_47 : decode cX6_goes 47 = .ok (.aload_n 0, 1) := by decide +kernel
theorem dX6_goes_48 : decode cX6_goes 48 = .ok (.iload_n 1, 1) := by decide +kernel
theorem dX6_goes_49 : decode cX6_goes 49 = .ok (.invokevirtual 119, 3) := by decide +kernel
theorem dX6_goes_52 : decode cX6_goes 52 = .ok (.iinc 1 1, 3) := by decide +kernel
theorem dX6_goes_55 : decode cX6_goes 55 = .ok (.goto (-18), 3) := by decide +kernel
theorem dX6_goes_58 : decode cX6_goes 58 = .ok (.iconst 0, 1) := by decide +kernel
theorem dX6_goes_59 : decode cX6_goes 59 = .ok (.istore_n 1, 1) := by decide +kernel
theorem dX6_goes_60 : decode cX6_goes 60 = .ok (.iload_n 1, 1) := by decide +kernel
theorem dX6_goes_61 : decode cX6_goes 61 = .ok (.aload_n 0, 1) := by decide +kernel
theorem dX6_goes_62 : decode cX6_goes 62 = .ok (.getfield 9, 3) := by decide +kernel
theorem dX6_goes_65 : decode cX6_goes 65 = .ok (.iconst 4, 1) := by decide +kernel
theorem dX6_goes_66 : decode cX6_goes 66 = .ok (.iaload, 1) := by decide +kernel
theorem dX6_goes_67 : decode cX6_goes 67 = .ok (.if_icmp .ge 33, 3) := by decide +kernel
theorem dX6_goes_70 : decode cX6_goes 70 = .ok (.aload_n 0, 1) := by decide +kernel
theorem dX6_goes_71 : decode cX6_goes 71 = .ok (.iload_n 1, 1) := by decide +kernel
theorem dX6_goes_72 : decode cX6_goes 72 = .ok (.iconst 3, 1) := by decide +kernel
theorem dX6_goes_73 : decode cX6_goes 73 = .ok (.aload_n 0, 1) := by decide +kernel
theorem dX6_goes_74 : decode cX6_goes 74 = .ok (.iload_n 1, 1) := by decide +kernel
theorem dX6_goes_75 : decode cX6_goes 75 = .ok (.iconst 3, 1) := by decide +kernel
theorem dX6_goes_76 : decode cX6_goes 76 = .ok (.invokevirtual 49, 3) := by decide +kernel
theorem dX6_goes_79 : decode cX6_goes 79 = .ok (.aload_n 0, 1) := by decide +kernel
theorem dX6_goes_80 : decode cX6_goes 80 = .ok (.iload_n 1, 1) := by decide +kernel
theorem dX6_goes_81 : decode cX6_goes 81 = .ok (.invokevirtual 98, 3) := by decide +kernel
theorem dX6_goes_84 : decode cX6_goes 84 = .ok (.iadd, 1) := by decide +kernel
theorem dX6_goes_85 : decode cX6_goes 85 = .ok (.iconst 0, 1) := by decide +kernel
theorem dX6_goes_86 : decode cX6_goes 86 = .ok (.bipush 99, 2) := by decide +kernel
theorem dX6_goes_88 : decode cX6_goes 88 = .ok (.invokestatic 53, 3) := by decide +kernel
theorem dX6_goes_91 : decode cX6_goes 91 = .ok (.invokevirtual 86, 3) := by decide +kernel
theorem dX6_goes_94 : decode cX6_goes 94 = .ok (.iinc 1 1, 3) := by decide +kernel
theorem dX6_goes_97 : decode cX6_goes 97 = .ok (.goto (-37), 3) := by decide +kernel
theorem dX6_goes_100 : decode cX6_goes 100 = .ok (.aload_n 0, 1) := by decide +kernel
theorem dX6_goes_101 : decode cX6_goes 101 = .ok (.getfield 9, 3) := by decide +kernel
theorem dX6_goes_104 : decode cX6_goes 104 = .ok (.iconst 0, 1) := by decide +kernel
theorem dX6_goes_105 : decode cX6_goes 105 = .ok (.dup2, 1) := by decide +kernel
theorem dX6_goes_106 : decode cX6_goes 106 = .ok (.iaload, 1) := by decide +kernel
theorem dX6_goes_107 : decode cX6_goes 107 = .ok (.iconst 1, 1) := by decide +kernel
theorem dX6_goes_108 : decode cX6_goes 108 = .ok (.iadd, 1) := by decide +kernel
theorem dX6_goes_109 : decode cX6_goes 109 = .ok (.iastore, 1) := by decide +kernel
theorem dX6_goes_110 : decode cX6_goes 110 = .ok (.return_, 1) := by decide +kernel
theorem dX6_goesFor_0 : decode cX6_goesFor 0 = .ok (.iconst 0, 1) := by decide +kernel
theorem dX6_goesFor_1 : decode cX6_goesFor 1 = .ok (.istore_n 2, 1) := by decide +kernel
theorem dX6_goesFor_2 : decode cX6_goesFor 2 = .ok (.iload_n 2, 1) := by decide +kernel
theorem dX6_goesFor_3 : decode cX6_goesFor 3 = .ok (.iload_n 1, 1) := by decide +kernel
theorem dX6_goesFor_4 : decode cX6_goesFor 4 = .ok (.if_icmp .ge 13, 3) := by decide +kernel
theorem dX6_goesFor_7 : decode cX6_goesFor 7 = .ok (.aload_n 0, 1) := by decide +kernel
theorem dX6_goesFor_8 : decode cX6_goesFor 8 = .ok (.invokevirtual 122, 3) := by decide +kernel
theorem dX6_goesFor_11 : decode cX6_goesFor 11 = .ok (.iinc 2 1, 3) := by decide +kernel
theorem dX6_goesFor_14 : decode cX6_goesFor 14 = .ok (.goto (-12), 3) := by decide +kernel
theorem dX6_goesFor_17 : decode cX6_goesFor 17 = .ok (.return_, 1) := by decide +kernel
theorem dX6_days_0 : decode cX6_days 0 = .ok (.iload_n 1, 1) := by decide +kernel
theorem dX6_days_1 : decode cX6_days 1 = .ok (.i2l, 1) := by decide +kernel
theorem dX6_days_2 : decode cX6_days 2 = .ok (.iconst 1, 1) := by decide +kernel
theorem dX6_days_3 : decode cX6_days 3 = .ok (.bipush 100, 2) := by decide +kernel
theorem dX6_days_5 : decode cX6_days 5 = .ok (.invokestatic 41, 3) := by decide +kernel
theorem dX6_days_8 : decode cX6_days 8 = .ok (.ifCond .ne 10, 3) := by decide +kernel
theorem dX6_days_11 : decode cX6_days 11 = .ok (.aload_n 0, 1) := by decide +kernel
theorem dX6_days_12 : decode cX6_days 12 = .ok (.ldc 35, 2) := by decide +kernel
theorem dX6_days_14 : decode cX6_days 14 = .ok (.invokevirtual 37, 3) := by decide +kernel
theorem dX6_days_17 : decode cX6_days 17 = .ok (.ireturn, 1) := by decide +kernel
theorem dX6_days_18 : decode cX6_days 18 = .ok (.aload_n 0, 1) := by decide +kernel
theorem dX6_days_19 : decode cX6_days 19 = .ok (.getfield 9, 3) := by decide +kernel
theorem dX6_days_22 : decode cX6_days 22 = .ok (.iconst 0, 1) := by decide +kernel
theorem dX6_days_23 : decode cX6_days 23 = .ok (.iaload, 1) := by decide +kernel
theorem dX6_days_24 : decode cX6_days 24 = .ok (.iload_n 1, 1) := by decide +kernel
theorem dX6_days_25 : decode cX6_days 25 = .ok (.iadd, 1) := by decide +kernel
theorem dX6_days_26 : decode cX6_days 26 = .ok (.ldc 125, 2) := by decide +kernel
theorem dX6_days_28 : decode cX6_days 28 = .ok (.if_icmp .le 10, 3) := by decide +kernel
theorem dX6_days_31 : decode cX6_days 31 = .ok (.aload_n 0, 1) := by decide +kernel
theorem dX6_days_32 : decode cX6_days 32 = .ok (.ldc 126, 2) := by decide +kernel
theorem dX6_days_34 : decode cX6_days 34 = .ok (.invokevirtual 37, 3) := by decide +kernel
theorem dX6_days_37 : decode cX6_days 37 = .ok (.ireturn, 1) := by decide +kernel
theorem dX6_days_38 : decode cX6_days 38 = .ok (.aload_n 0, 1) := by decide +kernel
theorem dX6_days_39 : decode cX6_days 39 = .ok (.iload_n 1, 1) := by decide +kernel
theorem dX6_days_40 : decode cX6_days 40 = .ok (.invokevirtual 127, 3) := by decide +kernel
theorem dX6_days_43 : decode cX6_days 43 = .ok (.aload_n 0, 1) := by decide +kernel
theorem dX6_days_44 : decode cX6_days 44 = .ok (.getfield 9, 3) := by decide +kernel
theorem dX6_days_47 : decode cX6_days 47 = .ok (.iconst 1, 1) := by decide +kernel
theorem dX6_days_48 : decode cX6_days 48 = .ok (.iaload, 1) := by decide +kernel
theorem dX6_days_49 : decode cX6_days 49 = .ok (.ireturn, 1) := by decide +kernel
theorem dX6_thinks_0 : decode cX6_thinks 0 = .ok (.aload_n 0, 1) := by decide +kernel
theorem dX6_thinks_1 : decode cX6_thinks 1 = .ok (.getfield 9, 3) := by decide +kernel
theorem dX6_thinks_4 : decode cX6_thinks 4 = .ok (.aload_n 0, 1) := by decide +kernel
theorem dX6_thinks_5 : decode cX6_thinks 5 = .ok (.getfield 16, 3) := by decide +kernel
theorem dX6_thinks_8 : decode cX6_thinks 8 = .ok (.invokestatic 130, 3) := by decide +kernel
theorem dX6_thinks_11 : decode cX6_thinks 11 = .ok (.return_, 1) := by decide +kernel
theorem dX6_putsBack_0 : decode cX6_putsBack 0 = .ok (.aload_n 0, 1) := by decide +kernel
theorem dX6_putsBack_1 : decode cX6_putsBack 1 = .ok (.getfield 16, 3) := by decide +kernel
theorem dX6_putsBack_4 : decode cX6_putsBack 4 = .ok (.aload_n 0, 1) := by decide +kernel
theorem dX6_putsBack_5 : decode cX6_putsBack 5 = .ok (.getfield 9, 3) := by decide +kernel
theorem dX6_putsBack_8 : decode cX6_putsBack 8 = .ok (.invokestatic 130, 3) := by decide +kernel
theorem dX6_putsBack_11 : decode cX6_putsBack 11 = .ok (.return_, 1) := by decide +kernel
theorem dX6_on_0 : decode cX6_on 0 = .ok (.iload_n 1, 1) := by decide +kernel
theorem dX6_on_1 : decode cX6_on 1 = .ok (.i2l, 1) := by decide +kernel
theorem dX6_on_2 : decode cX6_on 2 = .ok (.iconst 0, 1) := by decide +kernel
theorem dX6_on_3 : decode cX6_on 3 = .ok (.sipush 400, 3) := by decide +kernel
theorem dX6_on_6 : decode cX6_on 6 = .ok (.invokestatic 41, 3) := by decide +kernel
theorem dX6_on_9 : decode cX6_on 9 = .ok (.ifCond .eq 13, 3) := by decide +kernel
theorem dX6_on_12 : decode cX6_on 12 = .ok (.iload_n 2, 1) := by decide +kernel
theorem dX6_on_13 : decode cX6_on 13 = .ok (.i2l, 1) := by decide +kernel
theorem dX6_on_14 : decode cX6_on 14 = .ok (.iconst 0, 1) := by decide +kernel
theorem dX6_on_15 : decode cX6_on 15 = .ok (.iconst 2, 1) := by decide +kernel
theorem dX6_on_16 : decode cX6_on 16 = .ok (.invokestatic 41, 3) := by decide +kernel
theorem dX6_on_19 : decode cX6_on 19 = .ok (.ifCond .ne 10, 3) := by decide +kernel
theorem dX6_on_22 : decode cX6_on 22 = .ok (.aload_n 0, 1) := by decide +kernel
theorem dX6_on_23 : decode cX6_on 23 = .ok (.ldc 35, 2) := by decide +kernel
theorem dX6_on_25 : decode cX6_on 25 = .ok (.invokevirtual 37, 3) := by decide +kernel
theorem dX6_on_28 : decode cX6_on 28 = .ok (.ireturn, 1) := by decide +kernel
theorem dX6_on_29 : decode cX6_on 29 = .ok (.aload_n 0, 1) := by decide +kernel
theorem dX6_on_30 : decode cX6_on 30 = .ok (.invokevirtual 134, 3) := by decide +kernel
theorem dX6_on_33 : decode cX6_on 33 = .ok (.aload_n 0, 1) := by decide +kernel
theorem dX6_on_34 : decode cX6_on 34 = .ok (.iload_n 1, 1) := by decide +kernel
theorem dX6_on_35 : decode cX6_on 35 = .ok (.invokevirtual 127, 3) := by decide +kernel
theorem dX6_on_38 : decode cX6_on 38 = .ok (.iload_n 2, 1) := by decide +kernel
theorem dX6_on_39 : decode cX6_on 39 = .ok (.ifCond .ne 12, 3) := by decide +kernel
theorem dX6_on_42 : decode cX6_on 42 = .ok (.aload_n 0, 1) := by decide +kernel
theorem dX6_on_43 : decode cX6_on 43 = .ok (.getfield 9, 3) := by decide +kernel
theorem dX6_on_46 : decode cX6_on 46 = .ok (.iconst 1, 1) := by decide +kernel
theorem dX6_on_47 : decode cX6_on 47 = .ok (.iaload, 1) := by decide +kernel
theorem dX6_on_48 : decode cX6_on 48 = .ok (.goto 19, 3) := by decide +kernel
theorem dX6_on_51 : decode cX6_on 51 = .ok (.iload_n 2, 1) := by decide +kernel
theorem dX6_on_52 : decode cX6_on 52 = .ok (.iconst 1, 1) := by decide +kernel
theorem dX6_on_53 : decode cX6_on 53 = .ok (.if_icmp .ne 10, 3) := by decide +kernel
theorem dX6_on_56 : decode cX6_on 56 = .ok (.aload_n 0, 1) := by decide +kernel
theorem dX6_on_57 : decode cX6_on 57 = .ok (.invokevirtual 80, 3) := by decide +kernel
theorem dX6_on_60 : decode cX6_on 60 = .ok (.goto 7, 3) := by decide +kernel
theorem dX6_on_63 : decode cX6_on 63 = .ok (.aload_n 0, 1) := by decide +kernel
theorem dX6_on_64 : decode cX6_on 64 = .ok (.invokevirtual 77, 3) := by decide +kernel
theorem dX6_on_67 : decode cX6_on 67 = .ok (.istore_n 3, 1) := by decide +kernel
theorem dX6_on_68 : decode cX6_on 68 = .ok (.aload_n 0, 1) := by decide +kernel
theorem dX6_on_69 : decode cX6_on 69 = .ok (.invokevirtual 137, 3) := by decide +kernel
theorem dX6_on_72 : decode cX6_on 72 = .ok (.iload_n 3, 1) := by decide +kernel
theorem dX6_on_73 : decode cX6_on 73 = .ok (.ireturn, 1) := by decide +kernel
theorem dX6_then_0 : decode cX6_then 0 = .ok (.aload_n 0, 1) := by decide +kernel
theorem dX6_then_1 : decode cX6_then 1 = .ok (.iload_n 1, 1) := by decide +kernel
theorem dX6_then_2 : decode cX6_then 2 = .ok (.invokevirtual 95, 3) := by decide +kernel
theorem dX6_then_5 : decode cX6_then 5 = .ok (.ifCond .eq 25, 3) := by decide +kernel
theorem dX6_then_8 : decode cX6_then 8 = .ok (.iload_n 2, 1) := by decide +kernel
theorem dX6_then_9 : decode cX6_then 9 = .ok (.i2l, 1) := by decide +kernel
theorem dX6_then_10 : decode cX6_then 10 = .ok (.iconst 0, 1) := by decide +kernel
theorem dX6_then_11 : decode cX6_then 11 = .ok (.sipush 400, 3) := by decide +kernel
theorem dX6_then_14 : decode cX6_then 14 = .ok (.invokestatic 41, 3) := by decide +kernel
theorem dX6_then_17 : decode cX6_then 17 = .ok (.ifCond .eq 13, 3) := by decide +kernel
theorem dX6_then_20 : decode cX6_then 20 = .ok (.iload_n 3, 1) := by decide +kernel
theorem dX6_then_21 : decode cX6_then 21 = .ok (.i2l, 1) := by decide +kernel
theorem dX6_then_22 : decode cX6_then 22 = .ok (.iconst 0, 1) := by decide +kernel
theorem dX6_then_23 : decode cX6_then 23 = .ok (.iconst 2, 1) := by decide +kernel
theorem dX6_then_24 : decode cX6_then 24 = .ok (.invokestatic 41, 3) := by decide +kernel
theorem dX6_then_27 : decode cX6_then 27 = .ok (.ifCond .ne 10, 3) := by decide +kernel
theorem dX6_then_30 : decode cX6_then 30 = .ok (.aload_n 0, 1) := by decide +kernel
theorem dX6_then_31 : decode cX6_then 31 = .ok (.ldc 35, 2) := by decide +kernel
theorem dX6_then_33 : decode cX6_then 33 = .ok (.invokevirtual 37, 3) := by decide +kernel
theorem dX6_then_36 : decode cX6_then 36 = .ok (.ireturn, 1) := by decide +kernel
theorem dX6_then_37 : decode cX6_then 37 = .ok (.aload_n 0, 1) := by decide +kernel
theorem dX6_then_38 : decode cX6_then 38 = .ok (.invokevirtual 134, 3) := by decide +kernel
theorem dX6_then_41 : decode cX6_then 41 = .ok (.aload_n 0, 1) := by decide +kernel
theorem dX6_then_42 : decode cX6_then 42 = .ok (.iload_n 2, 1) := by decide +kernel
theorem dX6_then_43 : decode cX6_then 43 = .ok (.invokevirtual 127, 3) := by decide +kernel
theorem dX6_then_46 : decode cX6_then 46 = .ok (.aload_n 0, 1) := by decide +kernel
theorem dX6_then_47 : decode cX6_then 47 = .ok (.iload_n 1, 1) := by decide +kernel
theorem dX6_then_48 : decode cX6_then 48 = .ok (.iconst 2, 1) := by decide +kernel
theorem dX6_then_49 : decode cX6_then 49 = .ok (.iload_n 3, 1) := by decide +kernel
theorem dX6_then_50 : decode cX6_then 50 = .ok (.iadd, 1) := by decide +kernel
theorem dX6_then_51 : decode cX6_then 51 = .ok (.invokevirtual 49, 3) := by decide +kernel
theorem dX6_then_54 : decode cX6_then 54 = .ok (.istore 4, 2) := by decide +kernel
theorem dX6_then_56 : decode cX6_then 56 = .ok (.aload_n 0, 1) := by decide +kernel
theorem dX6_then_57 : decode cX6_then 57 = .ok (.invokevirtual 137, 3) := by decide +kernel
theorem dX6_then_60 : decode cX6_then 60 = .ok (.iload 4, 2) := by decide +kernel
theorem dX6_then_62 : decode cX6_then 62 = .ok (.ireturn, 1) := by decide +kernel
theorem dX6_falls_0 : decode cX6_falls 0 = .ok (.iload_n 1, 1) := by decide +kernel
theorem dX6_falls_1 : decode cX6_falls 1 = .ok (.i2l, 1) := by decide +kernel
theorem dX6_falls_2 : decode cX6_falls 2 = .ok (.iconst 0, 1) := by decide +kernel
theorem dX6_falls_3 : decode cX6_falls 3 = .ok (.sipush 9999, 3) := by decide +kernel
theorem dX6_falls_6 : decode cX6_falls 6 = .ok (.invokestatic 41, 3) := by decide +kernel
theorem dX6_falls_9 : decode cX6_falls 9 = .ok (.ifCond .ne 10, 3) := by decide +kernel
theorem dX6_falls_12 : decode cX6_falls 12 = .ok (.aload_n 0, 1) := by decide +kernel
theorem dX6_falls_13 : decode cX6_falls 13 = .ok (.ldc 35, 2) := by decide +kernel
theorem dX6_falls_15 : decode cX6_falls 15 = .ok (.invokevirtual 37, 3) := by decide +kernel
theorem dX6_falls_18 : decode cX6_falls 18 = .ok (.ireturn, 1) := by decide +kernel
theorem dX6_falls_19 : decode cX6_falls 19 = .ok (.aload_n 0, 1) := by decide +kernel
theorem dX6_falls_20 : decode cX6_falls 20 = .ok (.invokevirtual 134, 3) := by decide +kernel
theorem dX6_falls_23 : decode cX6_falls 23 = .ok (.iconst 0, 1) := by decide +kernel
theorem dX6_falls_24 : decode cX6_falls 24 = .ok (.istore_n 2, 1) := by decide +kernel
theorem dX6_falls_25 : decode cX6_falls 25 = .ok (.iload_n 2, 1) := by decide +kernel
theorem dX6_falls_26 : decode cX6_falls 26 = .ok (.sipush 400, 3) := by decide +kernel
theorem dX6_falls_29 : decode cX6_falls 29 = .ok (.if_icmp .gt 23, 3) := by decide +kernel
theorem dX6_falls_32 : decode cX6_falls 32 = .ok (.aload_n 0, 1) := by decide +kernel
theorem dX6_falls_33 : decode cX6_falls 33 = .ok (.getfield 9, 3) := by decide +kernel
theorem dX6_falls_36 : decode cX6_falls 36 = .ok (.iconst 1, 1) := by decide +kernel
theorem dX6_falls_37 : decode cX6_falls 37 = .ok (.iaload, 1) := by decide +kernel
theorem dX6_falls_38 : decode cX6_falls 38 = .ok (.iload_n 1, 1) := by decide +kernel
theorem dX6_falls_39 : decode cX6_falls 39 = .ok (.if_icmp .le 13, 3) := by decide +kernel
theorem dX6_falls_42 : decode cX6_falls 42 = .ok (.aload_n 0, 1) := by decide +kernel
theorem dX6_falls_43 : decode cX6_falls 43 = .ok (.invokevirtual 122, 3) := by decide +kernel
theorem dX6_falls_46 : decode cX6_falls 46 = .ok (.iinc 2 1, 3) := by decide +kernel
theorem dX6_falls_49 : decode cX6_falls 49 = .ok (.goto (-24), 3) := by decide +kernel
theorem dX6_falls_52 : decode cX6_falls 52 = .ok (.aload_n 0, 1) := by decide +kernel
theorem dX6_falls_53 : decode cX6_falls 53 = .ok (.invokevirtual 137, 3) := by decide +kernel
theorem dX6_falls_56 : decode cX6_falls 56 = .ok (.iload_n 2, 1) := by decide +kernel
theorem dX6_falls_57 : decode cX6_falls 57 = .ok (.sipush 400, 3) := by decide +kernel
theorem dX6_falls_60 : decode cX6_falls 60 = .ok (.if_icmp .le 12, 3) := by decide +kernel
theorem dX6_falls_63 : decode cX6_falls 63 = .ok (.aload_n 0, 1) := by decide +kernel
theorem dX6_falls_64 : decode cX6_falls 64 = .ok (.ldc 36, 2) := by decide +kernel
theorem dX6_falls_66 : decode cX6_falls 66 = .ok (.invokevirtual 37, 3) := by decide +kernel
theorem dX6_falls_69 : decode cX6_falls 69 = .ok (.goto 4, 3) := by decide +kernel
theorem dX6_falls_72 : decode cX6_falls 72 = .ok (.iload_n 2, 1) := by decide +kernel
theorem dX6_falls_73 : decode cX6_falls 73 = .ok (.ireturn, 1) := by decide +kernel
theorem dX6_offIn_0 : decode cX6_offIn 0 = .ok (.iconst 0, 1) := by decide +kernel
theorem dX6_offIn_1 : decode cX6_offIn 1 = .ok (.istore_n 2, 1) := by decide +kernel
theorem dX6_offIn_2 : decode cX6_offIn 2 = .ok (.iload_n 2, 1) := by decide +kernel
theorem dX6_offIn_3 : decode cX6_offIn 3 = .ok (.sipush 400, 3) := by decide +kernel
theorem dX6_offIn_6 : decode cX6_offIn 6 = .ok (.if_icmp .gt 21, 3) := by decide +kernel
theorem dX6_offIn_9 : decode cX6_offIn 9 = .ok (.aload_n 0, 1) := by decide +kernel
theorem dX6_offIn_10 : decode cX6_offIn 10 = .ok (.iload_n 1, 1) := by decide +kernel
theorem dX6_offIn_11 : decode cX6_offIn 11 = .ok (.invokevirtual 57, 3) := by decide +kernel
theorem dX6_offIn_14 : decode cX6_offIn 14 = .ok (.ifCond .ne 13, 3) := by decide +kernel
theorem dX6_offIn_17 : decode cX6_offIn 17 = .ok (.aload_n 0, 1) := by decide +kernel
theorem dX6_offIn_18 : decode cX6_offIn 18 = .ok (.invokevirtual 122, 3) := by decide +kernel
theorem dX6_offIn_21 : decode cX6_offIn 21 = .ok (.iinc 2 1, 3) := by decide +kernel
theorem dX6_offIn_24 : decode cX6_offIn 24 = .ok (.goto (-22), 3) := by decide +kernel
theorem dX6_offIn_27 : decode cX6_offIn 27 = .ok (.aload_n 0, 1) := by decide +kernel
theorem dX6_offIn_28 : decode cX6_offIn 28 = .ok (.invokevirtual 137, 3) := by decide +kernel
theorem dX6_offIn_31 : decode cX6_offIn 31 = .ok (.iload_n 2, 1) := by decide +kernel
theorem dX6_offIn_32 : decode cX6_offIn 32 = .ok (.ireturn, 1) := by decide +kernel
theorem dX6_off_0 : decode cX6_off 0 = .ok (.aload_n 0, 1) := by decide +kernel
theorem dX6_off_1 : decode cX6_off 1 = .ok (.iload_n 1, 1) := by decide +kernel
theorem dX6_off_2 : decode cX6_off 2 = .ok (.invokevirtual 95, 3) := by decide +kernel
theorem dX6_off_5 : decode cX6_off 5 = .ok (.ifCond .ne 10, 3) := by decide +kernel
theorem dX6_off_8 : decode cX6_off 8 = .ok (.aload_n 0, 1) := by decide +kernel
theorem dX6_off_9 : decode cX6_off 9 = .ok (.ldc 35, 2) := by decide +kernel
theorem dX6_off_11 : decode cX6_off 11 = .ok (.invokevirtual 37, 3) := by decide +kernel
theorem dX6_off_14 : decode cX6_off 14 = .ok (.ireturn, 1) := by decide +kernel
theorem dX6_off_15 : decode cX6_off 15 = .ok (.aload_n 0, 1) := by decide +kernel
theorem dX6_off_16 : decode cX6_off 16 = .ok (.invokevirtual 134, 3) := by decide +kernel
theorem dX6_off_19 : decode cX6_off 19 = .ok (.aload_n 0, 1) := by decide +kernel
theorem dX6_off_20 : decode cX6_off 20 = .ok (.iload_n 1, 1) := by decide +kernel
theorem dX6_off_21 : decode cX6_off 21 = .ok (.invokevirtual 140, 3) := by decide +kernel
theorem dX6_off_24 : decode cX6_off 24 = .ok (.istore_n 2, 1) := by decide +kernel
theorem dX6_off_25 : decode cX6_off 25 = .ok (.iload_n 2, 1) := by decide +kernel
theorem dX6_off_26 : decode cX6_off 26 = .ok (.sipush 400, 3) := by decide +kernel
theorem dX6_off_29 : decode cX6_off 29 = .ok (.if_icmp .le 12, 3) := by decide +kernel
theorem dX6_off_32 : decode cX6_off 32 = .ok (.aload_n 0, 1) := by decide +kernel
theorem dX6_off_33 : decode cX6_off 33 = .ok (.ldc 36, 2) := by decide +kernel
theorem dX6_off_35 : decode cX6_off 35 = .ok (.invokevirtual 37, 3) := by decide +kernel
theorem dX6_off_38 : decode cX6_off 38 = .ok (.goto 4, 3) := by decide +kernel
theorem dX6_off_41 : decode cX6_off 41 = .ok (.iload_n 2, 1) := by decide +kernel
theorem dX6_off_42 : decode cX6_off 42 = .ok (.ireturn, 1) := by decide +kernel
theorem dX6_quiet_0 : decode cX6_quiet 0 = .ok (.aload_n 0, 1) := by decide +kernel
theorem dX6_quiet_1 : decode cX6_quiet 1 = .ok (.invokevirtual 134, 3) := by decide +kernel
theorem dX6_quiet_4 : decode cX6_quiet 4 = .ok (.iconst 0, 1) := by decide +kernel
theorem dX6_quiet_5 : decode cX6_quiet 5 = .ok (.istore_n 1, 1) := by decide +kernel
theorem dX6_quiet_6 : decode cX6_quiet 6 = .ok (.iload_n 1, 1) := by decide +kernel
theorem dX6_quiet_7 : decode cX6_quiet 7 = .ok (.sipush 400, 3) := by decide +kernel
theorem dX6_quiet_10 : decode cX6_quiet 10 = .ok (.if_icmp .gt 20, 3) := by decide +kernel
theorem dX6_quiet_13 : decode cX6_quiet 13 = .ok (.aload_n 0, 1) := by decide +kernel
theorem dX6_quiet_14 : decode cX6_quiet 14 = .ok (.invokevirtual 80, 3) := by decide +kernel
theorem dX6_quiet_17 : decode cX6_quiet 17 = .ok (.ifCond .le 13, 3) := by decide +kernel
theorem dX6_quiet_20 : decode cX6_quiet 20 = .ok (.aload_n 0, 1) := by decide +kernel
theorem dX6_quiet_21 : decode cX6_quiet 21 = .ok (.invokevirtual 122, 3) := by decide +kernel
theorem dX6_quiet_24 : decode cX6_quiet 24 = .ok (.iinc 1 1, 3) := by decide +kernel
theorem dX6_quiet_27 : decode cX6_quiet 27 = .ok (.goto (-21), 3) := by decide +kernel
theorem dX6_quiet_30 : decode cX6_quiet 30 = .ok (.aload_n 0, 1) := by decide +kernel
theorem dX6_quiet_31 : decode cX6_quiet 31 = .ok (.invokevirtual 137, 3) := by decide +kernel
theorem dX6_quiet_34 : decode cX6_quiet 34 = .ok (.iload_n 1, 1) := by decide +kernel
theorem dX6_quiet_35 : decode cX6_quiet 35 = .ok (.sipush 400, 3) := by decide +kernel
theorem dX6_quiet_38 : decode cX6_quiet 38 = .ok (.if_icmp .le 12, 3) := by decide +kernel
theorem dX6_quiet_41 : decode cX6_quiet 41 = .ok (.aload_n 0, 1) := by decide +kernel
theorem dX6_quiet_42 : decode cX6_quiet 42 = .ok (.ldc 36, 2) := by decide +kernel
theorem dX6_quiet_44 : decode cX6_quiet 44 = .ok (.invokevirtual 37, 3) := by decide +kernel
theorem dX6_quiet_47 : decode cX6_quiet 47 = .ok (.goto 4, 3) := by decide +kernel
theorem dX6_quiet_50 : decode cX6_quiet 50 = .ok (.iload_n 1, 1) := by decide +kernel
theorem dX6_quiet_51 : decode cX6_quiet 51 = .ok (.ireturn, 1) := by decide +kernel
theorem dX6_allStooped_0 : decode cX6_allStooped 0 = .ok (.iconst 0, 1) := by decide +kernel
theorem dX6_allStooped_1 : decode cX6_allStooped 1 = .ok (.istore_n 1, 1) := by decide +kernel
theorem dX6_allStooped_2 : decode cX6_allStooped 2 = .ok (.iconst 0, 1) := by decide +kernel
theorem dX6_allStooped_3 : decode cX6_allStooped 3 = .ok (.istore_n 2, 1) := by decide +kernel
theorem dX6_allStooped_4 : decode cX6_allStooped 4 = .ok (.iload_n 2, 1) := by decide +kernel
theorem dX6_allStooped_5 : decode cX6_allStooped 5 = .ok (.aload_n 0, 1) := by decide +kernel
theorem dX6_allStooped_6 : decode cX6_allStooped 6 = .ok (.getfield 9, 3) := by decide +kernel
theorem dX6_allStooped_9 : decode cX6_allStooped 9 = .ok (.iconst 4, 1) := by decide +kernel
theorem dX6_allStooped_10 : decode cX6_allStooped 10 = .ok (.iaload, 1) := by decide +kernel
theorem dX6_allStooped_11 : decode cX6_allStooped 11 = .ok (.if_icmp .ge 18, 3) := by decide +kernel
theorem dX6_allStooped_14 : decode cX6_allStooped 14 = .ok (.iload_n 1, 1) := by decide +kernel
theorem dX6_allStooped_15 : decode cX6_allStooped 15 = .ok (.aload_n 0, 1) := by decide +kernel
theorem dX6_allStooped_16 : decode cX6_allStooped 16 = .ok (.iload_n 2, 1) := by decide +kernel
theorem dX6_allStooped_17 : decode cX6_allStooped 17 = .ok (.iconst 4, 1) := by decide +kernel
theorem dX6_allStooped_18 : decode cX6_allStooped 18 = .ok (.invokevirtual 49, 3) := by decide +kernel
theorem dX6_allStooped_21 : decode cX6_allStooped 21 = .ok (.iadd, 1) := by decide +kernel
theorem dX6_allStooped_22 : decode cX6_allStooped 22 = .ok (.istore_n 1, 1) := by decide +kernel
theorem dX6_allStooped_23 : decode cX6_allStooped 23 = .ok (.iinc 2 1, 3) := by decide +kernel
theorem dX6_allStooped_26 : decode cX6_allStooped 26 = .ok (.goto (-22), 3) := by decide +kernel
theorem dX6_allStooped_29 : decode cX6_allStooped 29 = .ok (.iload_n 1, 1) := by decide +kernel
theorem dX6_allStooped_30 : decode cX6_allStooped 30 = .ok (.ireturn, 1) := by decide +kernel
theorem dX6_stoopedOn_0 : decode cX6_stoopedOn 0 = .ok (.aload_n 0, 1) := by decide +kernel
theorem dX6_stoopedOn_1 : decode cX6_stoopedOn 1 = .ok (.iload_n 1, 1) := by decide +kernel
theorem dX6_stoopedOn_2 : decode cX6_stoopedOn 2 = .ok (.invokevirtual 127, 3) := by decide +kernel
theorem dX6_stoopedOn_5 : decode cX6_stoopedOn 5 = .ok (.aload_n 0, 1) := by decide +kernel
theorem dX6_stoopedOn_6 : decode cX6_stoopedOn 6 = .ok (.invokevirtual 143, 3) := by decide +kernel
theorem dX6_stoopedOn_9 : decode cX6_stoopedOn 9 = .ok (.istore_n 2, 1) := by decide +kernel
theorem dX6_stoopedOn_10 : decode cX6_stoopedOn 10 = .ok (.aload_n 0, 1) := by decide +kernel
theorem dX6_stoopedOn_11 : decode cX6_stoopedOn 11 = .ok (.invokevirtual 137, 3) := by decide +kernel
theorem dX6_stoopedOn_14 : decode cX6_stoopedOn 14 = .ok (.iload_n 2, 1) := by decide +kernel
theorem dX6_stoopedOn_15 : decode cX6_stoopedOn 15 = .ok (.ireturn, 1) := by decide +kernel
theorem dX6_staysUp_0 : decode cX6_staysUp 0 = .ok (.aload_n 0, 1) := by decide +kernel
theorem dX6_staysUp_1 : decode cX6_staysUp 1 = .ok (.iload_n 1, 1) := by decide +kernel
theorem dX6_staysUp_2 : decode cX6_staysUp 2 = .ok (.iconst 4, 1) := by decide +kernel
theorem dX6_staysUp_3 : decode cX6_staysUp 3 = .ok (.invokevirtual 49, 3) := by decide +kernel
theorem dX6_staysUp_6 : decode cX6_staysUp 6 = .ok (.istore_n 3, 1) := by decide +kernel
theorem dX6_staysUp_7 : decode cX6_staysUp 7 = .ok (.aload_n 0, 1) := by decide +kernel
theorem dX6_staysUp_8 : decode cX6_staysUp 8 = .ok (.iload_n 2, 1) := by decide +kernel
theorem dX6_staysUp_9 : decode cX6_staysUp 9 = .ok (.invokevirtual 127, 3) := by decide +kernel
theorem dX6_staysUp_12 : decode cX6_staysUp 12 = .ok (.aload_n 0, 1) := by decide +kernel
theorem dX6_staysUp_13 : decode cX6_staysUp 13 = .ok (.iload_n 1, 1) := by decide +kernel
theorem dX6_staysUp_14 : decode cX6_staysUp 14 = .ok (.iconst 4, 1) := by decide +kernel
theorem dX6_staysUp_15 : decode cX6_staysUp 15 = .ok (.invokevirtual 49, 3) := by decide +kernel
theorem dX6_staysUp_18 : decode cX6_staysUp 18 = .ok (.iload_n 3, 1) := by decide +kernel
theorem dX6_staysUp_19 : decode cX6_staysUp 19 = .ok (.if_icmp .ne 7, 3) := by decide +kernel
theorem dX6_staysUp_22 : decode cX6_staysUp 22 = .ok (.iconst 1, 1) := by decide +kernel
theorem dX6_staysUp_23 : decode cX6_staysUp 23 = .ok (.goto 4, 3) := by decide +kernel
theorem dX6_staysUp_26 : decode cX6_staysUp 26 = .ok (.iconst 0, 1) := by decide +kernel
theorem dX6_staysUp_27 : decode cX6_staysUp 27 = .ok (.istore 4, 2) := by decide +kernel
theorem dX6_staysUp_29 : decode cX6_staysUp 29 = .ok (.aload_n 0, 1) := by decide +kernel
theorem dX6_staysUp_30 : decode cX6_staysUp 30 = .ok (.invokevirtual 137, 3) := by decide +kernel
theorem dX6_staysUp_33 : decode cX6_staysUp 33 = .ok (.iload 4, 2) := by decide +kernel
theorem dX6_staysUp_35 : decode cX6_staysUp 35 = .ok (.ireturn, 1) := by decide +kernel
theorem dX6_best_0 : decode cX6_best 0 = .ok (.iload_n 1, 1) := by decide +kernel
theorem dX6_best_1 : decode cX6_best 1 = .ok (.i2l, 1) := by decide +kernel
theorem dX6_best_2 : decode cX6_best 2 = .ok (.iconst 1, 1) := by decide +kernel
theorem dX6_best_3 : decode cX6_best 3 = .ok (.bipush 100, 2) := by decide +kernel
theorem dX6_best_5 : decode cX6_best 5 = .ok (.invokestatic 41, 3) := by decide +kernel
theorem dX6_best_8 : decode cX6_best 8 = .ok (.ifCond .ne 10, 3) := by decide +kernel
theorem dX6_best_11 : decode cX6_best 11 = .ok (.aload_n 0, 1) := by decide +kernel
theorem dX6_best_12 : decode cX6_best 12 = .ok (.ldc 35, 2) := by decide +kernel
theorem dX6_best_14 : decode cX6_best 14 = .ok (.invokevirtual 37, 3) := by decide +kernel
theorem dX6_best_17 : decode cX6_best 17 = .ok (.ireturn, 1) := by decide +kernel
theorem dX6_best_18 : decode cX6_best 18 = .ok (.aload_n 0, 1) := by decide +kernel
theorem dX6_best_19 : decode cX6_best 19 = .ok (.invokevirtual 134, 3) := by decide +kernel
theorem dX6_best_22 : decode cX6_best 22 = .ok (.iconst (-1), 1) := by decide +kernel
theorem dX6_best_23 : decode cX6_best 23 = .ok (.istore_n 2, 1) := by decide +kernel
theorem dX6_best_24 : decode cX6_best 24 = .ok (.iconst (-1), 1) := by decide +kernel
theorem dX6_best_25 : decode cX6_best 25 = .ok (.istore_n 3, 1) := by decide +kernel
theorem dX6_best_26 : decode cX6_best 26 = .ok (.iconst 0, 1) := by decide +kernel
theorem dX6_best_27 : decode cX6_best 27 = .ok (.istore 4, 2) := by decide +kernel
theorem dX6_best_29 : decode cX6_best 29 = .ok (.iload 4, 2) := by decide +kernel
theorem dX6_best_31 : decode cX6_best 31 = .ok (.aload_n 0, 1) := by decide +kernel
theorem dX6_best_32 : decode cX6_best 32 = .ok (.getfield 9, 3) := by decide +kernel
theorem dX6_best_35 : decode cX6_best 35 = .ok (.iconst 4, 1) := by decide +kernel
theorem dX6_best_36 : decode cX6_best 36 = .ok (.iaload, 1) := by decide +kernel
theorem dX6_best_37 : decode cX6_best 37 = .ok (.if_icmp .ge 69, 3) := by decide +kernel
theorem dX6_best_40 : decode cX6_best 40 = .ok (.aload_n 0, 1) := by decide +kernel
theorem dX6_best_41 : decode cX6_best 41 = .ok (.iload 4, 2) := by decide +kernel
theorem dX6_best_43 : decode cX6_best 43 = .ok (.invokevirtual 57, 3) := by decide +kernel
theorem dX6_best_46 : decode cX6_best 46 = .ok (.ifCond .ne 54, 3) := by decide +kernel
theorem dX6_best_49 : decode cX6_best 49 = .ok (.aload_n 0, 1) := by decide +kernel
theorem dX6_best_50 : decode cX6_best 50 = .ok (.iload 4, 2) := by decide +kernel
theorem dX6_best_52 : decode cX6_best 52 = .ok (.iconst 2, 1) := by decide +kernel
theorem dX6_best_53 : decode cX6_best 53 = .ok (.iconst 1, 1) := by decide +kernel
theorem dX6_best_54 : decode cX6_best 54 = .ok (.invokevirtual 86, 3) := by decide +kernel
theorem dX6_best_57 : decode cX6_best 57 = .ok (.aload_n 0, 1) := by decide +kernel
theorem dX6_best_58 : decode cX6_best 58 = .ok (.iload_n 1, 1) := by decide +kernel
theorem dX6_best_59 : decode cX6_best 59 = .ok (.invokevirtual 127, 3) := by decide +kernel
theorem dX6_best_62 : decode cX6_best 62 = .ok (.aload_n 0, 1) := by decide +kernel
theorem dX6_best_63 : decode cX6_best 63 = .ok (.getfield 9, 3) := by decide +kernel
theorem dX6_best_66 : decode cX6_best 66 = .ok (.iconst 1, 1) := by decide +kernel
theorem dX6_best_67 : decode cX6_best 67 = .ok (.iaload, 1) := by decide +kernel
theorem dX6_best_68 : decode cX6_best 68 = .ok (.istore 5, 2) := by decide +kernel
theorem dX6_best_70 : decode cX6_best 70 = .ok (.aload_n 0, 1) := by decide +kernel
theorem dX6_best_71 : decode cX6_best 71 = .ok (.invokevirtual 137, 3) := by decide +kernel
theorem dX6_best_74 : decode cX6_best 74 = .ok (.iload 5, 2) := by decide +kernel
theorem dX6_best_76 : decode cX6_best 76 = .ok (.iload_n 3, 1) := by decide +kernel
theorem dX6_best_77 : decode cX6_best 77 = .ok (.if_icmp .le 8, 3) := by decide +kernel
theorem dX6_best_80 : decode cX6_best 80 = .ok (.iload 4, 2) := by decide +kernel
theorem dX6_best_82 : decode cX6_best 82 = .ok (.goto 4, 3) := by decide +kernel
theorem dX6_best_85 : decode cX6_best 85 = .ok (.iload_n 2, 1) := by decide +kernel
theorem dX6_best_86 : decode cX6_best 86 = .ok (.istore_n 2, 1) := by decide +kernel
theorem dX6_best_87 : decode cX6_best 87 = .ok (.iload 5, 2) := by decide +kernel
theorem dX6_best_89 : decode cX6_best 89 = .ok (.iload_n 3, 1) := by decide +kernel
theorem dX6_best_90 : decode cX6_best 90 = .ok (.if_icmp .le 8, 3) := by decide +kernel
theorem dX6_best_93 : decode cX6_best 93 = .ok (.iload 5, 2) := by decide +kernel
theorem dX6_best_95 : decode cX6_best 95 = .ok (.goto 4, 3) := by decide +kernel
theorem dX6_best_98 : decode cX6_best 98 = .ok (.iload_n 3, 1) := by decide +kernel
theorem dX6_best_99 : decode cX6_best 99 = .ok (.istore_n 3, 1) := by decide +kernel
theorem dX6_best_100 : decode cX6_best 100 = .ok (.iinc 4 1, 3) := by decide +kernel
theorem dX6_best_103 : decode cX6_best 103 = .ok (.goto (-74), 3) := by decide +kernel
theorem dX6_best_106 : decode cX6_best 106 = .ok (.aload_n 0, 1) := by decide +kernel
theorem dX6_best_107 : decode cX6_best 107 = .ok (.iload_n 2, 1) := by decide +kernel
theorem dX6_best_108 : decode cX6_best 108 = .ok (.invokevirtual 109, 3) := by decide +kernel
theorem dX6_best_111 : decode cX6_best 111 = .ok (.ireturn, 1) := by decide +kernel
theorem dX6_high_0 : decode cX6_high 0 = .ok (.aload_n 0, 1) := by decide +kernel
theorem dX6_high_1 : decode cX6_high 1 = .ok (.iload_n 1, 1) := by decide +kernel
theorem dX6_high_2 : decode cX6_high 2 = .ok (.invokevirtual 95, 3) := by decide +kernel
theorem dX6_high_5 : decode cX6_high 5 = .ok (.ifCond .eq 14, 3) := by decide +kernel
theorem dX6_high_8 : decode cX6_high 8 = .ok (.iload_n 2, 1) := by decide +kernel
theorem dX6_high_9 : decode cX6_high 9 = .ok (.i2l, 1) := by decide +kernel
theorem dX6_high_10 : decode cX6_high 10 = .ok (.iconst 1, 1) := by decide +kernel
theorem dX6_high_11 : decode cX6_high 11 = .ok (.bipush 100, 2) := by decide +kernel
theorem dX6_high_13 : decode cX6_high 13 = .ok (.invokestatic 41, 3) := by decide +kernel
theorem dX6_high_16 : decode cX6_high 16 = .ok (.ifCond .ne 10, 3) := by decide +kernel
theorem dX6_high_19 : decode cX6_high 19 = .ok (.aload_n 0, 1) := by decide +kernel
theorem dX6_high_20 : decode cX6_high 20 = .ok (.ldc 35, 2) := by decide +kernel
theorem dX6_high_22 : decode cX6_high 22 = .ok (.invokevirtual 37, 3) := by decide +kernel
theorem dX6_high_25 : decode cX6_high 25 = .ok (.ireturn, 1) := by decide +kernel
theorem dX6_high_26 : decode cX6_high 26 = .ok (.aload_n 0, 1) := by decide +kernel
theorem dX6_high_27 : decode cX6_high 27 = .ok (.invokevirtual 134, 3) := by decide +kernel
theorem dX6_high_30 : decode cX6_high 30 = .ok (.iconst (-1), 1) := by decide +kernel
theorem dX6_high_31 : decode cX6_high 31 = .ok (.istore_n 3, 1) := by decide +kernel
theorem dX6_high_32 : decode cX6_high 32 = .ok (.bipush 40, 2) := by decide +kernel
theorem dX6_high_34 : decode cX6_high 34 = .ok (.istore 4, 2) := by decide +kernel
theorem dX6_high_36 : decode cX6_high 36 = .ok (.iload 4, 2) := by decide +kernel
theorem dX6_high_38 : decode cX6_high 38 = .ok (.ifCond .le 37, 3) := by decide +kernel
theorem dX6_high_41 : decode cX6_high 41 = .ok (.iload_n 3, 1) := by decide +kernel
theorem dX6_high_42 : decode cX6_high 42 = .ok (.ifCond .ge 33, 3) := by decide +kernel
theorem dX6_high_45 : decode cX6_high 45 = .ok (.aload_n 0, 1) := by decide +kernel
theorem dX6_high_46 : decode cX6_high 46 = .ok (.iload_n 1, 1) := by decide +kernel
theorem dX6_high_47 : decode cX6_high 47 = .ok (.iconst 1, 1) := by decide +kernel
theorem dX6_high_48 : decode cX6_high 48 = .ok (.iload 4, 2) := by decide +kernel
theorem dX6_high_50 : decode cX6_high 50 = .ok (.invokevirtual 86, 3) := by decide +kernel
theorem dX6_high_53 : decode cX6_high 53 = .ok (.aload_n 0, 1) := by decide +kernel
theorem dX6_high_54 : decode cX6_high 54 = .ok (.iload_n 1, 1) := by decide +kernel
theorem dX6_high_55 : decode cX6_high 55 = .ok (.iload_n 2, 1) := by decide +kernel
theorem dX6_high_56 : decode cX6_high 56 = .ok (.invokevirtual 146, 3) := by decide +kernel
theorem dX6_high_59 : decode cX6_high 59 = .ok (.ifCond .eq 8, 3) := by decide +kernel
theorem dX6_high_62 : decode cX6_high 62 = .ok (.iload 4, 2) := by decide +kernel
theorem dX6_high_64 : decode cX6_high 64 = .ok (.goto 4, 3) := by decide +kernel
theorem dX6_high_67 : decode cX6_high 67 = .ok (.iconst (-1), 1) := by decide +kernel
theorem dX6_high_68 : decode cX6_high 68 = .ok (.istore_n 3, 1) := by decide +kernel
theorem dX6_high_69 : decode cX6_high 69 = .ok (.iinc 4 (-1), 3) := by decide +kernel
theorem dX6_high_72 : decode cX6_high 72 = .ok (.goto (-36), 3) := by decide +kernel
theorem dX6_high_75 : decode cX6_high 75 = .ok (.aload_n 0, 1) := by decide +kernel
theorem dX6_high_76 : decode cX6_high 76 = .ok (.iload_n 3, 1) := by decide +kernel
theorem dX6_high_77 : decode cX6_high 77 = .ok (.invokevirtual 109, 3) := by decide +kernel
theorem dX6_high_80 : decode cX6_high 80 = .ok (.ireturn, 1) := by decide +kernel
theorem dX6_loved_0 : decode cX6_loved 0 = .ok (.aload_n 0, 1) := by decide +kernel
theorem dX6_loved_1 : decode cX6_loved 1 = .ok (.iload_n 1, 1) := by decide +kernel
theorem dX6_loved_2 : decode cX6_loved 2 = .ok (.invokevirtual 95, 3) := by decide +kernel
theorem dX6_loved_5 : decode cX6_loved 5 = .ok (.ifCond .eq 14, 3) := by decide +kernel
theorem dX6_loved_8 : decode cX6_loved 8 = .ok (.iload_n 2, 1) := by decide +kernel
theorem dX6_loved_9 : decode cX6_loved 9 = .ok (.i2l, 1) := by decide +kernel
theorem dX6_loved_10 : decode cX6_loved 10 = .ok (.iconst 1, 1) := by decide +kernel
theorem dX6_loved_11 : decode cX6_loved 11 = .ok (.bipush 100, 2) := by decide +kernel
theorem dX6_loved_13 : decode cX6_loved 13 = .ok (.invokestatic 41, 3) := by decide +kernel
theorem dX6_loved_16 : decode cX6_loved 16 = .ok (.ifCond .ne 10, 3) := by decide +kernel
theorem dX6_loved_19 : decode cX6_loved 19 = .ok (.aload_n 0, 1) := by decide +kernel
theorem dX6_loved_20 : decode cX6_loved 20 = .ok (.ldc 35, 2) := by decide +kernel
theorem dX6_loved_22 : decode cX6_loved 22 = .ok (.invokevirtual 37, 3) := by decide +kernel
theorem dX6_loved_25 : decode cX6_loved 25 = .ok (.ireturn, 1) := by decide +kernel
theorem dX6_loved_26 : decode cX6_loved 26 = .ok (.aload_n 0, 1) := by decide +kernel
theorem dX6_loved_27 : decode cX6_loved 27 = .ok (.invokevirtual 134, 3) := by decide +kernel
theorem dX6_loved_30 : decode cX6_loved 30 = .ok (.iconst (-1), 1) := by decide +kernel
theorem dX6_loved_31 : decode cX6_loved 31 = .ok (.istore_n 3, 1) := by decide +kernel
theorem dX6_loved_32 : decode cX6_loved 32 = .ok (.iconst 0, 1) := by decide +kernel
theorem dX6_loved_33 : decode cX6_loved 33 = .ok (.istore 4, 2) := by decide +kernel
theorem dX6_loved_35 : decode cX6_loved 35 = .ok (.iload 4, 2) := by decide +kernel
theorem dX6_loved_37 : decode cX6_loved 37 = .ok (.bipush 99, 2) := by decide +kernel
theorem dX6_loved_39 : decode cX6_loved 39 = .ok (.if_icmp .gt 37, 3) := by decide +kernel
theorem dX6_loved_42 : decode cX6_loved 42 = .ok (.iload_n 3, 1) := by decide +kernel
theorem dX6_loved_43 : decode cX6_loved 43 = .ok (.ifCond .ge 33, 3) := by decide +kernel
theorem dX6_loved_46 : decode cX6_loved 46 = .ok (.aload_n 0, 1) := by decide +kernel
theorem dX6_loved_47 : decode cX6_loved 47 = .ok (.iload_n 1, 1) := by decide +kernel
theorem dX6_loved_48 : decode cX6_loved 48 = .ok (.iconst 3, 1) := by decide +kernel
theorem dX6_loved_49 : decode cX6_loved 49 = .ok (.iload 4, 2) := by decide +kernel
theorem dX6_loved_51 : decode cX6_loved 51 = .ok (.invokevirtual 86, 3) := by decide +kernel
theorem dX6_loved_54 : decode cX6_loved 54 = .ok (.aload_n 0, 1) := by decide +kernel
theorem dX6_loved_55 : decode cX6_loved 55 = .ok (.iload_n 1, 1) := by decide +kernel
theorem dX6_loved_56 : decode cX6_loved 56 = .ok (.iload_n 2, 1) := by decide +kernel
theorem dX6_loved_57 : decode cX6_loved 57 = .ok (.invokevirtual 146, 3) := by decide +kernel
theorem dX6_loved_60 : decode cX6_loved 60 = .ok (.ifCond .eq 8, 3) := by decide +kernel
theorem dX6_loved_63 : decode cX6_loved 63 = .ok (.iload 4, 2) := by decide +kernel
theorem dX6_loved_65 : decode cX6_loved 65 = .ok (.goto 4, 3) := by decide +kernel
theorem dX6_loved_68 : decode cX6_loved 68 = .ok (.iconst (-1), 1) := by decide +kernel
theorem dX6_loved_69 : decode cX6_loved 69 = .ok (.istore_n 3, 1) := by decide +kernel
theorem dX6_loved_70 : decode cX6_loved 70 = .ok (.iinc 4 1, 3) := by decide +kernel
theorem dX6_loved_73 : decode cX6_loved 73 = .ok (.goto (-38), 3) := by decide +kernel
theorem dX6_loved_76 : decode cX6_loved 76 = .ok (.aload_n 0, 1) := by decide +kernel
theorem dX6_loved_77 : decode cX6_loved 77 = .ok (.iload_n 3, 1) := by decide +kernel
theorem dX6_loved_78 : decode cX6_loved 78 = .ok (.invokevirtual 109, 3) := by decide +kernel
theorem dX6_loved_81 : decode cX6_loved 81 = .ok (.ireturn, 1) := by decide +kernel
theorem dX6_kind_0 : decode cX6_kind 0 = .ok (.aload_n 0, 1) := by decide +kernel
theorem dX6_kind_1 : decode cX6_kind 1 = .ok (.iload_n 1, 1) := by decide +kernel
theorem dX6_kind_2 : decode cX6_kind 2 = .ok (.invokevirtual 95, 3) := by decide +kernel
theorem dX6_kind_5 : decode cX6_kind 5 = .ok (.ifCond .ne 10, 3) := by decide +kernel
theorem dX6_kind_8 : decode cX6_kind 8 = .ok (.aload_n 0, 1) := by decide +kernel
theorem dX6_kind_9 : decode cX6_kind 9 = .ok (.ldc 35, 2) := by decide +kernel
theorem dX6_kind_11 : decode cX6_kind 11 = .ok (.invokevirtual 37, 3) := by decide +kernel
theorem dX6_kind_14 : decode cX6_kind 14 = .ok (.ireturn, 1) := by decide +kernel
theorem dX6_kind_15 : decode cX6_kind 15 = .ok (.aload_n 0, 1) := by decide +kernel
theorem dX6_kind_16 : decode cX6_kind 16 = .ok (.invokevirtual 134, 3) := by decide +kernel
theorem dX6_kind_19 : decode cX6_kind 19 = .ok (.iconst 0, 1) := by decide +kernel
theorem dX6_kind_20 : decode cX6_kind 20 = .ok (.istore_n 2, 1) := by decide +kernel
theorem dX6_kind_21 : decode cX6_kind 21 = .ok (.iconst (-1), 1) := by decide +kernel
theorem dX6_kind_22 : decode cX6_kind 22 = .ok (.istore_n 3, 1) := by decide +kernel
theorem dX6_kind_23 : decode cX6_kind 23 = .ok (.iconst 0, 1) := by decide +kernel
theorem dX6_kind_24 : decode cX6_kind 24 = .ok (.istore 4, 2) := by decide +kernel
theorem dX6_kind_26 : decode cX6_kind 26 = .ok (.iload 4, 2) := by decide +kernel
theorem dX6_kind_28 : decode cX6_kind 28 = .ok (.iconst 5, 1) := by decide +kernel
theorem dX6_kind_29 : decode cX6_kind 29 = .ok (.if_icmp .gt 50, 3) := by decide +kernel
theorem dX6_kind_32 : decode cX6_kind 32 = .ok (.aload_n 0, 1) := by decide +kernel
theorem dX6_kind_33 : decode cX6_kind 33 = .ok (.iload_n 1, 1) := by decide +kernel
theorem dX6_kind_34 : decode cX6_kind 34 = .ok (.iconst 0, 1) := by decide +kernel
theorem dX6_kind_35 : decode cX6_kind 35 = .ok (.iload 4, 2) := by decide +kernel
theorem dX6_kind_37 : decode cX6_kind 37 = .ok (.invokevirtual 86, 3) := by decide +kernel
theorem dX6_kind_40 : decode cX6_kind 40 = .ok (.aload_n 0, 1) := by decide +kernel
theorem dX6_kind_41 : decode cX6_kind 41 = .ok (.iload_n 1, 1) := by decide +kernel
theorem dX6_kind_42 : decode cX6_kind 42 = .ok (.invokevirtual 140, 3) := by decide +kernel
theorem dX6_kind_45 : decode cX6_kind 45 = .ok (.istore 5, 2) := by decide +kernel
theorem dX6_kind_47 : decode cX6_kind 47 = .ok (.iload 5, 2) := by decide +kernel
theorem dX6_kind_49 : decode cX6_kind 49 = .ok (.iload_n 3, 1) := by decide +kernel
theorem dX6_kind_50 : decode cX6_kind 50 = .ok (.if_icmp .le 8, 3) := by decide +kernel
theorem dX6_kind_53 : decode cX6_kind 53 = .ok (.iload 4, 2) := by decide +kernel
theorem dX6_kind_55 : decode cX6_kind 55 = .ok (.goto 4, 3) := by decide +kernel
theorem dX6_kind_58 : decode cX6_kind 58 = .ok (.iload_n 2, 1) := by decide +kernel
theorem dX6_kind_59 : decode cX6_kind 59 = .ok (.istore_n 2, 1) := by decide +kernel
theorem dX6_kind_60 : decode cX6_kind 60 = .ok (.iload 5, 2) := by decide +kernel
theorem dX6_kind_62 : decode cX6_kind 62 = .ok (.iload_n 3, 1) := by decide +kernel
theorem dX6_kind_63 : decode cX6_kind 63 = .ok (.if_icmp .le 8, 3) := by decide +kernel
theorem dX6_kind_66 : decode cX6_kind 66 = .ok (.iload 5, 2) := by decide +kernel
theorem dX6_kind_68 : decode cX6_kind 68 = .ok (.goto 4, 3) := by decide +kernel
theorem dX6_kind_71 : decode cX6_kind 71 = .ok (.iload_n 3, 1) := by decide +kernel
theorem dX6_kind_72 : decode cX6_kind 72 = .ok (.istore_n 3, 1) := by decide +kernel
theorem dX6_kind_73 : decode cX6_kind 73 = .ok (.iinc 4 1, 3) := by decide +kernel
theorem dX6_kind_76 : decode cX6_kind 76 = .ok (.goto (-50), 3) := by decide +kernel
theorem dX6_kind_79 : decode cX6_kind 79 = .ok (.iload_n 2, 1) := by decide +kernel
theorem dX6_kind_80 : decode cX6_kind 80 = .ok (.ireturn, 1) := by decide +kernel
theorem dX6_rain_0 : decode cX6_rain 0 = .ok (.iload_n 1, 1) := by decide +kernel
theorem dX6_rain_1 : decode cX6_rain 1 = .ok (.i2l, 1) := by decide +kernel
theorem dX6_rain_2 : decode cX6_rain 2 = .ok (.iconst 1, 1) := by decide +kernel
theorem dX6_rain_3 : decode cX6_rain 3 = .ok (.bipush 100, 2) := by decide +kernel
theorem dX6_rain_5 : decode cX6_rain 5 = .ok (.invokestatic 41, 3) := by decide +kernel
theorem dX6_rain_8 : decode cX6_rain 8 = .ok (.ifCond .ne 10, 3) := by decide +kernel
theorem dX6_rain_11 : decode cX6_rain 11 = .ok (.aload_n 0, 1) := by decide +kernel
theorem dX6_rain_12 : decode cX6_rain 12 = .ok (.ldc 35, 2) := by decide +kernel
theorem dX6_rain_14 : decode cX6_rain 14 = .ok (.invokevirtual 37, 3) := by decide +kernel
theorem dX6_rain_17 : decode cX6_rain 17 = .ok (.ireturn, 1) := by decide +kernel
theorem dX6_rain_18 : decode cX6_rain 18 = .ok (.aload_n 0, 1) := by decide +kernel
theorem dX6_rain_19 : decode cX6_rain 19 = .ok (.invokevirtual 134, 3) := by decide +kernel
theorem dX6_rain_22 : decode cX6_rain 22 = .ok (.iconst 0, 1) := by decide +kernel
theorem dX6_rain_23 : decode cX6_rain 23 = .ok (.istore_n 2, 1) := by decide +kernel
theorem dX6_rain_24 : decode cX6_rain 24 = .ok (.iconst (-1), 1) := by decide +kernel
theorem dX6_rain_25 : decode cX6_rain 25 = .ok (.istore_n 3, 1) := by decide +kernel
theorem dX6_rain_26 : decode cX6_rain 26 = .ok (.iconst 0, 1) := by decide +kernel
theorem dX6_rain_27 : decode cX6_rain 27 = .ok (.istore 4, 2) := by decide +kernel
theorem dX6_rain_29 : decode cX6_rain 29 = .ok (.iload 4, 2) := by decide +kernel
theorem dX6_rain_31 : decode cX6_rain 31 = .ok (.bipush 8, 2) := by decide +kernel
theorem dX6_rain_33 : decode cX6_rain 33 = .ok (.if_icmp .ge 77, 3) := by decide +kernel
theorem dX6_rain_36 : decode cX6_rain 36 = .ok (.aload_n 0, 1) := by decide +kernel
theorem dX6_rain_37 : decode cX6_rain 37 = .ok (.getfield 9, 3) := by decide +kernel
theorem dX6_rain_40 : decode cX6_rain 40 = .ok (.iconst 5, 1) := by decide +kernel
theorem dX6_rain_41 : decode cX6_rain 41 = .ok (.iload 4, 2) := by decide +kernel
theorem dX6_rain_43 : decode cX6_rain 43 = .ok (.iadd, 1) := by decide +kernel
theorem dX6_rain_44 : decode cX6_rain 44 = .ok (.aload_n 0, 1) := by decide +kernel
theorem dX6_rain_45 : decode cX6_rain 45 = .ok (.getfield 9, 3) := by decide +kernel
theorem dX6_rain_48 : decode cX6_rain 48 = .ok (.iconst 5, 1) := by decide +kernel
theorem dX6_rain_49 : decode cX6_rain 49 = .ok (.iload 4, 2) := by decide +kernel
theorem dX6_rain_51 : decode cX6_rain 51 = .ok (.iadd, 1) := by decide +kernel
theorem dX6_rain_52 : decode cX6_rain 52 = .ok (.iaload, 1) := by decide +kernel
theorem dX6_rain_53 : decode cX6_rain 53 = .ok (.bipush 10, 2) := by decide +kernel
theorem dX6_rain_55 : decode cX6_rain 55 = .ok (.iadd, 1) := by decide +kernel
theorem dX6_rain_56 : decode cX6_rain 56 = .ok (.iconst 0, 1) := by decide +kernel
theorem dX6_rain_57 : decode cX6_rain 57 = .ok (.bipush 99, 2) := by decide +kernel
theorem dX6_rain_59 : decode cX6_rain 59 = .ok (.invokestatic 53, 3) := by decide +kernel
theorem dX6_rain_62 : decode cX6_rain 62 = .ok (.iastore, 1) := by decide +kernel
theorem dX6_rain_63 : decode cX6_rain 63 = .ok (.aload_n 0, 1) := by decide +kernel
theorem dX6_rain_64 : decode cX6_rain 64 = .ok (.iload_n 1, 1) := by decide +kernel
theorem dX6_rain_65 : decode cX6_rain 65 = .ok (.invokevirtual 127, 3) := by decide +kernel
theorem dX6_rain_68 : decode cX6_rain 68 = .ok (.aload_n 0, 1) := by decide +kernel
theorem dX6_rain_69 : decode cX6_rain 69 = .ok (.invokevirtual 80, 3) := by decide +kernel
theorem dX6_rain_72 : decode cX6_rain 72 = .ok (.istore 5, 2) := by decide +kernel
theorem dX6_rain_74 : decode cX6_rain 74 = .ok (.aload_n 0, 1) := by decide +kernel
theorem dX6_rain_75 : decode cX6_rain 75 = .ok (.invokevirtual 137, 3) := by decide +kernel
theorem dX6_rain_78 : decode cX6_rain 78 = .ok (.iload 5, 2) := by decide +kernel
theorem dX6_rain_80 : decode cX6_rain 80 = .ok (.iload_n 3, 1) := by decide +kernel
theorem dX6_rain_81 : decode cX6_rain 81 = .ok (.if_icmp .le 8, 3) := by decide +kernel
theorem dX6_rain_84 : decode cX6_rain 84 = .ok (.iload 4, 2) := by decide +kernel
theorem dX6_rain_86 : decode cX6_rain 86 = .ok (.goto 4, 3) := by decide +kernel
theorem dX6_rain_89 : decode cX6_rain 89 = .ok (.iload_n 2, 1) := by decide +kernel
theorem dX6_rain_90 : decode cX6_rain 90 = .ok (.istore_n 2, 1) := by decide +kernel
theorem dX6_rain_91 : decode cX6_rain 91 = .ok (.iload 5, 2) := by decide +kernel
theorem dX6_rain_93 : decode cX6_rain 93 = .ok (.iload_n 3, 1) := by decide +kernel
theorem dX6_rain_94 : decode cX6_rain 94 = .ok (.if_icmp .le 8, 3) := by decide +kernel
theorem dX6_rain_97 : decode cX6_rain 97 = .ok (.iload 5, 2) := by decide +kernel
theorem dX6_rain_99 : decode cX6_rain 99 = .ok (.goto 4, 3) := by decide +kernel
theorem dX6_rain_102 : decode cX6_rain 102 = .ok (.iload_n 3, 1) := by decide +kernel
theorem dX6_rain_103 : decode cX6_rain 103 = .ok (.istore_n 3, 1) := by decide +kernel
theorem dX6_rain_104 : decode cX6_rain 104 = .ok (.iinc 4 1, 3) := by decide +kernel
theorem dX6_rain_107 : decode cX6_rain 107 = .ok (.goto (-78), 3) := by decide +kernel
theorem dX6_rain_110 : decode cX6_rain 110 = .ok (.iload_n 2, 1) := by decide +kernel
theorem dX6_rain_111 : decode cX6_rain 111 = .ok (.ireturn, 1) := by decide +kernel
theorem dX6_enough_0 : decode cX6_enough 0 = .ok (.iload_n 1, 1) := by decide +kernel
theorem dX6_enough_1 : decode cX6_enough 1 = .ok (.i2l, 1) := by decide +kernel
theorem dX6_enough_2 : decode cX6_enough 2 = .ok (.iconst 1, 1) := by decide +kernel
theorem dX6_enough_3 : decode cX6_enough 3 = .ok (.bipush 60, 2) := by decide +kernel
theorem dX6_enough_5 : decode cX6_enough 5 = .ok (.invokestatic 41, 3) := by decide +kernel
theorem dX6_enough_8 : decode cX6_enough 8 = .ok (.ifCond .ne 10, 3) := by decide +kernel
theorem dX6_enough_11 : decode cX6_enough 11 = .ok (.aload_n 0, 1) := by decide +kernel
theorem dX6_enough_12 : decode cX6_enough 12 = .ok (.ldc 35, 2) := by decide +kernel
theorem dX6_enough_14 : decode cX6_enough 14 = .ok (.invokevirtual 37, 3) := by decide +kernel
theorem dX6_enough_17 : decode cX6_enough 17 = .ok (.ireturn, 1) := by decide +kernel
theorem dX6_enough_18 : decode cX6_enough 18 = .ok (.aload_n 0, 1) := by decide +kernel
theorem dX6_enough_19 : decode cX6_enough 19 = .ok (.invokevirtual 134, 3) := by decide +kernel
theorem dX6_enough_22 : decode cX6_enough 22 = .ok (.aload_n 0, 1) := by decide +kernel
theorem dX6_enough_23 : decode cX6_enough 23 = .ok (.invokevirtual 143, 3) := by decide +kernel
theorem dX6_enough_26 : decode cX6_enough 26 = .ok (.istore_n 2, 1) := by decide +kernel
theorem dX6_enough_27 : decode cX6_enough 27 = .ok (.iconst (-1), 1) := by decide +kernel
theorem dX6_enough_28 : decode cX6_enough 28 = .ok (.istore_n 3, 1) := by decide +kernel
theorem dX6_enough_29 : decode cX6_enough 29 = .ok (.iconst 0, 1) := by decide +kernel
theorem dX6_enough_30 : decode cX6_enough 30 = .ok (.istore 4, 2) := by decide +kernel
theorem dX6_enough_32 : decode cX6_enough 32 = .ok (.iload 4, 2) := by decide +kernel
theorem dX6_enough_34 : decode cX6_enough 34 = .ok (.sipush 9999, 3) := by decide +kernel
theorem dX6_enough_37 : decode cX6_enough 37 = .ok (.if_icmp .ge 37, 3) := by decide +kernel
theorem dX6_enough_40 : decode cX6_enough 40 = .ok (.iload_n 3, 1) := by decide +kernel
theorem dX6_enough_41 : decode cX6_enough 41 = .ok (.ifCond .ge 33, 3) := by decide +kernel
theorem dX6_enough_44 : decode cX6_enough 44 = .ok (.aload_n 0, 1) := by decide +kernel
theorem dX6_enough_45 : decode cX6_enough 45 = .ok (.getfield 9, 3) := by decide +kernel
theorem dX6_enough_48 : decode cX6_enough 48 = .ok (.iconst 1, 1) := by decide +kernel
theorem dX6_enough_49 : decode cX6_enough 49 = .ok (.iload 4, 2) := by decide +kernel
theorem dX6_enough_51 : decode cX6_enough 51 = .ok (.iastore, 1) := by decide +kernel
theorem dX6_enough_52 : decode cX6_enough 52 = .ok (.aload_n 0, 1) := by decide +kernel
theorem dX6_enough_53 : decode cX6_enough 53 = .ok (.iload_n 1, 1) := by decide +kernel
theorem dX6_enough_54 : decode cX6_enough 54 = .ok (.invokevirtual 150, 3) := by decide +kernel
theorem dX6_enough_57 : decode cX6_enough 57 = .ok (.iload_n 2, 1) := by decide +kernel
theorem dX6_enough_58 : decode cX6_enough 58 = .ok (.if_icmp .ne 8, 3) := by decide +kernel
theorem dX6_enough_61 : decode cX6_enough 61 = .ok (.iload 4, 2) := by decide +kernel
theorem dX6_enough_63 : decode cX6_enough 63 = .ok (.goto 4, 3) := by decide +kernel
theorem dX6_enough_66 : decode cX6_enough 66 = .ok (.iconst (-1), 1) := by decide +kernel
theorem dX6_enough_67 : decode cX6_enough 67 = .ok (.istore_n 3, 1) := by decide +kernel
theorem dX6_enough_68 : decode cX6_enough 68 = .ok (.iinc 4 10, 3) := by decide +kernel
theorem dX6_enough_71 : decode cX6_enough 71 = .ok (.goto (-39), 3) := by decide +kernel
theorem dX6_enough_74 : decode cX6_enough 74 = .ok (.aload_n 0, 1) := by decide +kernel
theorem dX6_enough_75 : decode cX6_enough 75 = .ok (.iload_n 3, 1) := by decide +kernel
theorem dX6_enough_76 : decode cX6_enough 76 = .ok (.invokevirtual 109, 3) := by decide +kernel
theorem dX6_enough_79 : decode cX6_enough 79 = .ok (.ireturn, 1) := by decide +kernel
theorem dX6_rule_0 : decode cX6_rule 0 = .ok (.iload_n 1, 1) := by decide +kernel
theorem dX6_rule_1 : decode cX6_rule 1 = .ok (.i2l, 1) := by decide +kernel
theorem dX6_rule_2 : decode cX6_rule 2 = .ok (.iconst 1, 1) := by decide +kernel
theorem dX6_rule_3 : decode cX6_rule 3 = .ok (.bipush 100, 2) := by decide +kernel
theorem dX6_rule_5 : decode cX6_rule 5 = .ok (.invokestatic 41, 3) := by decide +kernel
theorem dX6_rule_8 : decode cX6_rule 8 = .ok (.ifCond .ne 10, 3) := by decide +kernel
theorem dX6_rule_11 : decode cX6_rule 11 = .ok (.aload_n 0, 1) := by decide +kernel
theorem dX6_rule_12 : decode cX6_rule 12 = .ok (.ldc 35, 2) := by decide +kernel
theorem dX6_rule_14 : decode cX6_rule 14 = .ok (.invokevirtual 37, 3) := by decide +kernel
theorem dX6_rule_17 : decode cX6_rule 17 = .ok (.ireturn, 1) := by decide +kernel
theorem dX6_rule_18 : decode cX6_rule 18 = .ok (.aload_n 0, 1) := by decide +kernel
theorem dX6_rule_19 : decode cX6_rule 19 = .ok (.invokevirtual 134, 3) := by decide +kernel
theorem dX6_rule_22 : decode cX6_rule 22 = .ok (.iconst (-1), 1) := by decide +kernel
theorem dX6_rule_23 : decode cX6_rule 23 = .ok (.istore_n 2, 1) := by decide +kernel
theorem dX6_rule_24 : decode cX6_rule 24 = .ok (.iconst 0, 1) := by decide +kernel
theorem dX6_rule_25 : decode cX6_rule 25 = .ok (.istore_n 3, 1) := by decide +kernel
theorem dX6_rule_26 : decode cX6_rule 26 = .ok (.iconst 0, 1) := by decide +kernel
theorem dX6_rule_27 : decode cX6_rule 27 = .ok (.istore 4, 2) := by decide +kernel
theorem dX6_rule_29 : decode cX6_rule 29 = .ok (.iload 4, 2) := by decide +kernel
theorem dX6_rule_31 : decode cX6_rule 31 = .ok (.sipush 1000, 3) := by decide +kernel
theorem dX6_rule_34 : decode cX6_rule 34 = .ok (.if_icmp .gt 65, 3) := by decide +kernel
theorem dX6_rule_37 : decode cX6_rule 37 = .ok (.aload_n 0, 1) := by decide +kernel
theorem dX6_rule_38 : decode cX6_rule 38 = .ok (.getfield 9, 3) := by decide +kernel
theorem dX6_rule_41 : decode cX6_rule 41 = .ok (.iconst 2, 1) := by decide +kernel
theorem dX6_rule_42 : decode cX6_rule 42 = .ok (.iload 4, 2) := by decide +kernel
theorem dX6_rule_44 : decode cX6_rule 44 = .ok (.iastore, 1) := by decide +kernel
theorem dX6_rule_45 : decode cX6_rule 45 = .ok (.aload_n 0, 1) := by decide +kernel
theorem dX6_rule_46 : decode cX6_rule 46 = .ok (.iload_n 1, 1) := by decide +kernel
theorem dX6_rule_47 : decode cX6_rule 47 = .ok (.invokevirtual 150, 3) := by decide +kernel
theorem dX6_rule_50 : decode cX6_rule 50 = .ok (.istore 5, 2) := by decide +kernel
theorem dX6_rule_52 : decode cX6_rule 52 = .ok (.iload_n 2, 1) := by decide +kernel
theorem dX6_rule_53 : decode cX6_rule 53 = .ok (.ifCond .lt 9, 3) := by decide +kernel
theorem dX6_rule_56 : decode cX6_rule 56 = .ok (.iload 5, 2) := by decide +kernel
theorem dX6_rule_58 : decode cX6_rule 58 = .ok (.iload_n 3, 1) := by decide +kernel
theorem dX6_rule_59 : decode cX6_rule 59 = .ok (.if_icmp .ge 7, 3) := by decide +kernel
theorem dX6_rule_62 : decode cX6_rule 62 = .ok (.iconst 1, 1) := by decide +kernel
theorem dX6_rule_63 : decode cX6_rule 63 = .ok (.goto 4, 3) := by decide +kernel
theorem dX6_rule_66 : decode cX6_rule 66 = .ok (.iconst 0, 1) := by decide +kernel
theorem dX6_rule_67 : decode cX6_rule 67 = .ok (.istore 6, 2) := by decide +kernel
theorem dX6_rule_69 : decode cX6_rule 69 = .ok (.iload 6, 2) := by decide +kernel
theorem dX6_rule_71 : decode cX6_rule 71 = .ok (.ifCond .eq 8, 3) := by decide +kernel
theorem dX6_rule_74 : decode cX6_rule 74 = .ok (.iload 4, 2) := by decide +kernel
theorem dX6_rule_76 : decode cX6_rule 76 = .ok (.goto 4, 3) := by decide +kernel
theorem dX6_rule_79 : decode cX6_rule 79 = .ok (.iload_n 2, 1) := by decide +kernel
theorem dX6_rule_80 : decode cX6_rule 80 = .ok (.istore_n 2, 1) := by decide +kernel
theorem dX6_rule_81 : decode cX6_rule 81 = .ok (.iload 6, 2) := by decide +kernel
theorem dX6_rule_83 : decode cX6_rule 83 = .ok (.ifCond .eq 8, 3) := by decide +kernel
theorem dX6_rule_86 : decode cX6_rule 86 = .ok (.iload 5, 2) := by decide +kernel
theorem dX6_rule_88 : decode cX6_rule 88 = .ok (.goto 4, 3) := by decide +kernel
theorem dX6_rule_91 : decode cX6_rule 91 = .ok (.iload_n 3, 1) := by decide +kernel
theorem dX6_rule_92 : decode cX6_rule 92 = .ok (.istore_n 3, 1) := by decide +kernel
theorem dX6_rule_93 : decode cX6_rule 93 = .ok (.iinc 4 50, 3) := by decide +kernel
theorem dX6_rule_96 : decode cX6_rule 96 = .ok (.goto (-67), 3) := by decide +kernel
theorem dX6_rule_99 : decode cX6_rule 99 = .ok (.iload_n 2, 1) := by decide +kernel
theorem dX6_rule_100 : decode cX6_rule 100 = .ok (.ireturn, 1) := by decide +kernel
theorem dX6_feed_0 : decode cX6_feed 0 = .ok (.iload_n 2, 1) := by decide +kernel
theorem dX6_feed_1 : decode cX6_feed 1 = .ok (.i2l, 1) := by decide +kernel
theorem dX6_feed_2 : decode cX6_feed 2 = .ok (.iconst 1, 1) := by decide +kernel
theorem dX6_feed_3 : decode cX6_feed 3 = .ok (.iconst 4, 1) := by decide +kernel
theorem dX6_feed_4 : decode cX6_feed 4 = .ok (.invokestatic 41, 3) := by decide +kernel
theorem dX6_feed_7 : decode cX6_feed 7 = .ok (.ifCond .ne 10, 3) := by decide +kernel
theorem dX6_feed_10 : decode cX6_feed 10 = .ok (.aload_n 0, 1) := by decide +kernel
theorem dX6_feed_11 : decode cX6_feed 11 = .ok (.ldc 35, 2) := by decide +kernel
theorem dX6_feed_13 : decode cX6_feed 13 = .ok (.invokevirtual 37, 3) := by decide +kernel
theorem dX6_feed_16 : decode cX6_feed 16 = .ok (.ireturn, 1) := by decide +kernel
theorem dX6_feed_17 : decode cX6_feed 17 = .ok (.aload_n 0, 1) := by decide +kernel
theorem dX6_feed_18 : decode cX6_feed 18 = .ok (.getfield 153, 3) := by decide +kernel
theorem dX6_feed_21 : decode cX6_feed 21 = .ok (.iload_n 2, 1) := by decide +kernel
theorem dX6_feed_22 : decode cX6_feed 22 = .ok (.iadd, 1) := by decide +kernel
theorem dX6_feed_23 : decode cX6_feed 23 = .ok (.bipush 120, 2) := by decide +kernel
theorem dX6_feed_25 : decode cX6_feed 25 = .ok (.if_icmp .le 10, 3) := by decide +kernel
theorem dX6_feed_28 : decode cX6_feed 28 = .ok (.aload_n 0, 1) := by decide +kernel
theorem dX6_feed_29 : decode cX6_feed 29 = .ok (.ldc 90, 2) := by decide +kernel
theorem dX6_feed_31 : decode cX6_feed 31 = .ok (.invokevirtual 37, 3) := by decide +kernel
theorem dX6_feed_34 : decode cX6_feed 34 = .ok (.ireturn, 1) := by decide +kernel
theorem dX6_feed_35 : decode cX6_feed 35 = .ok (.iload_n 2, 1) := by decide +kernel
theorem dX6_feed_36 : decode cX6_feed 36 = .ok (.iconst 1, 1) := by decide +kernel
theorem dX6_feed_37 : decode cX6_feed 37 = .ok (.isub, 1) := by decide +kernel
theorem dX6_feed_38 : decode cX6_feed 38 = .ok (.istore_n 3, 1) := by decide +kernel
theorem dX6_feed_39 : decode cX6_feed 39 = .ok (.iload_n 3, 1) := by decide +kernel
theorem dX6_feed_40 : decode cX6_feed 40 = .ok (.ifCond .lt 38, 3) := by decide +kernel
theorem dX6_feed_43 : decode cX6_feed 43 = .ok (.aload_n 0, 1) := by decide +kernel
theorem dX6_feed_44 : decode cX6_feed 44 = .ok (.getfield 22, 3) := by decide +kernel
theorem dX6_feed_47 : decode cX6_feed 47 = .ok (.aload_n 0, 1) := by decide +kernel
theorem dX6_feed_48 : decode cX6_feed 48 = .ok (.getfield 153, 3) := by decide +kernel
theorem dX6_feed_51 : decode cX6_feed 51 = .ok (.iload_n 1, 1) := by decide +kernel
theorem dX6_feed_52 : decode cX6_feed 52 = .ok (.bipush 8, 2) := by decide +kernel
theorem dX6_feed_54 : decode cX6_feed 54 = .ok (.iload_n 3, 1) := by decide +kernel
theorem dX6_feed_55 : decode cX6_feed 55 = .ok (.imul, 1) := by decide +kernel
theorem dX6_feed_56 : decode cX6_feed 56 = .ok (.ishr, 1) := by decide +kernel
theorem dX6_feed_57 : decode cX6_feed 57 = .ok (.sipush 255, 3) := by decide +kernel
theorem dX6_feed_60 : decode cX6_feed 60 = .ok (.iand, 1) := by decide +kernel
theorem dX6_feed_61 : decode cX6_feed 61 = .ok (.iastore, 1) := by decide +kernel
theorem dX6_feed_62 : decode cX6_feed 62 = .ok (.aload_n 0, 1) := by decide +kernel
theorem dX6_feed_63 : decode cX6_feed 63 = .ok (.dup, 1) := by decide +kernel
theorem dX6_feed_64 : decode cX6_feed 64 = .ok (.getfield 153, 3) := by decide +kernel
theorem dX6_feed_67 : decode cX6_feed 67 = .ok (.iconst 1, 1) := by decide +kernel
theorem dX6_feed_68 : decode cX6_feed 68 = .ok (.iadd, 1) := by decide +kernel
theorem dX6_feed_69 : decode cX6_feed 69 = .ok (.putfield 153, 3) := by decide +kernel
theorem dX6_feed_72 : decode cX6_feed 72 = .ok (.iinc 3 (-1), 3) := by decide +kernel
theorem dX6_feed_75 : decode cX6_feed 75 = .ok (.goto (-36), 3) := by decide +kernel
theorem dX6_feed_78 : decode cX6_feed 78 = .ok (.aload_n 0, 1) := by decide +kernel
theorem dX6_feed_79 : decode cX6_feed 79 = .ok (.getfield 153, 3) := by decide +kernel
theorem dX6_feed_82 : decode cX6_feed 82 = .ok (.ireturn, 1) := by decide +kernel
theorem dX6_wipe_0 : decode cX6_wipe 0 = .ok (.aload_n 0, 1) := by decide +kernel
theorem dX6_wipe_1 : decode cX6_wipe 1 = .ok (.getfield 153, 3) := by decide +kernel
theorem dX6_wipe_4 : decode cX6_wipe 4 = .ok (.istore_n 1, 1) := by decide +kernel
theorem dX6_wipe_5 : decode cX6_wipe 5 = .ok (.aload_n 0, 1) := by decide +kernel
theorem dX6_wipe_6 : decode cX6_wipe 6 = .ok (.iconst 0, 1) := by decide +kernel
theorem dX6_wipe_7 : decode cX6_wipe 7 = .ok (.putfield 153, 3) := by decide +kernel
theorem dX6_wipe_10 : decode cX6_wipe 10 = .ok (.iload_n 1, 1) := by decide +kernel
theorem dX6_wipe_11 : decode cX6_wipe 11 = .ok (.ireturn, 1) := by decide +kernel
theorem dX6_isByte_0 : decode cX6_isByte 0 = .ok (.iload_n 1, 1) := by decide +kernel
theorem dX6_isByte_1 : decode cX6_isByte 1 = .ok (.aload_n 0, 1) := by decide +kernel
theorem dX6_isByte_2 : decode cX6_isByte 2 = .ok (.getfield 153, 3) := by decide +kernel
theorem dX6_isByte_5 : decode cX6_isByte 5 = .ok (.if_icmp .ge 22, 3) := by decide +kernel
theorem dX6_isByte_8 : decode cX6_isByte 8 = .ok (.aload_n 0, 1) := by decide +kernel
theorem dX6_isByte_9 : decode cX6_isByte 9 = .ok (.getfield 22, 3) := by decide +kernel
theorem dX6_isByte_12 : decode cX6_isByte 12 = .ok (.iload_n 1, 1) := by decide +kernel
theorem dX6_isByte_13 : decode cX6_isByte 13 = .ok (.iaload, 1) := by decide +kernel
theorem dX6_isByte_14 : decode cX6_isByte 14 = .ok (.i2l, 1) := by decide +kernel
theorem dX6_isByte_15 : decode cX6_isByte 15 = .ok (.iload_n 2, 1) := by decide +kernel
theorem dX6_isByte_16 : decode cX6_isByte 16 = .ok (.iload_n 3, 1) := by decide +kernel
theorem dX6_isByte_17 : decode cX6_isByte 17 = .ok (.invokestatic 41, 3) := by decide +kernel
theorem dX6_isByte_20 : decode cX6_isByte 20 = .ok (.ifCond .eq 7, 3) := by decide +kernel
theorem dX6_isByte_23 : decode cX6_isByte 23 = .ok (.iconst 1, 1) := by decide +kernel
theorem dX6_isByte_24 : decode cX6_isByte 24 = .ok (.goto 4, 3) := by decide +kernel
theorem dX6_isByte_27 : decode cX6_isByte 27 = .ok (.iconst 0, 1) := by decide +kernel
theorem dX6_isByte_28 : decode cX6_isByte 28 = .ok (.ireturn, 1) := by decide +kernel
theorem dX6_isName_0 : decode cX6_isName 0 = .ok (.iload_n 2, 1) := by decide +kernel
theorem dX6_isName_1 : decode cX6_isName 1 = .ok (.bipush 7, 2) := by decide +kernel
theorem dX6_isName_3 : decode cX6_isName 3 = .ok (.if_icmp .gt 26, 3) := by decide +kernel
theorem dX6_isName_6 : decode cX6_isName 6 = .ok (.iload_n 2, 1) := by decide +kernel
theorem dX6_isName_7 : decode cX6_isName 7 = .ok (.bipush 7, 2) := by decide +kernel
theorem dX6_isName_9 : decode cX6_isName 9 = .ok (.if_icmp .eq 16, 3) := by decide +kernel
theorem dX6_isName_12 : decode cX6_isName 12 = .ok (.getstatic 157, 3) := by decide +kernel
theorem dX6_isName_15 : decode cX6_isName 15 = .ok (.bipush 7, 2) := by decide +kernel
theorem dX6_isName_17 : decode cX6_isName 17 = .ok (.iload_n 1, 1) := by decide +kernel
theorem dX6_isName_18 : decode cX6_isName 18 = .ok (.imul, 1) := by decide +kernel
theorem dX6_isName_19 : decode cX6_isName 19 = .ok (.iload_n 2, 1) := by decide +kernel
theorem dX6_isName_20 : decode cX6_isName 20 = .ok (.iadd, 1) := by decide +kernel
theorem dX6_isName_21 : decode cX6_isName 21 = .ok (.iaload, 1) := by decide +kernel
theorem dX6_isName_22 : decode cX6_isName 22 = .ok (.ifCond .ne 7, 3) := by decide +kernel
theorem dX6_isName_25 : decode cX6_isName 25 = .ok (.iconst 1, 1) := by decide +kernel
theorem dX6_isName_26 : decode cX6_isName 26 = .ok (.goto 4, 3) := by decide +kernel
theorem dX6_isName_29 : decode cX6_isName 29 = .ok (.iconst 0, 1) := by decide +kernel
theorem dX6_isName_30 : decode cX6_isName 30 = .ok (.istore_n 3, 1) := by decide +kernel
theorem dX6_isName_31 : decode cX6_isName 31 = .ok (.iconst 0, 1) := by decide +kernel
theorem dX6_isName_32 : decode cX6_isName 32 = .ok (.istore 4, 2) := by decide +kernel
theorem dX6_isName_34 : decode cX6_isName 34 = .ok (.iload 4, 2) := by decide +kernel
theorem dX6_isName_36 : decode cX6_isName 36 = .ok (.iload_n 2, 1) := by decide +kernel
theorem dX6_isName_37 : decode cX6_isName 37 = .ok (.if_icmp .ge 45, 3) := by decide +kernel
theorem dX6_isName_40 : decode cX6_isName 40 = .ok (.iload_n 3, 1) := by decide +kernel
theorem dX6_isName_41 : decode cX6_isName 41 = .ok (.ifCond .eq 41, 3) := by decide +kernel
theorem dX6_isName_44 : decode cX6_isName 44 = .ok (.getstatic 157, 3) := by decide +kernel
theorem dX6_isName_47 : decode cX6_isName 47 = .ok (.bipush 7, 2) := by decide +kernel
theorem dX6_isName_49 : decode cX6_isName 49 = .ok (.iload_n 1, 1) := by decide +kernel
theorem dX6_isName_50 : decode cX6_isName 50 = .ok (.imul, 1) := by decide +kernel
theorem dX6_isName_51 : decode cX6_isName 51 = .ok (.iload 4, 2) := by decide +kernel
theorem dX6_isName_53 : decode cX6_isName 53 = .ok (.iadd, 1) := by decide +kernel
theorem dX6_isName_54 : decode cX6_isName 54 = .ok (.iaload, 1) := by decide +kernel
theorem dX6_isName_55 : decode cX6_isName 55 = .ok (.aload_n 0, 1) := by decide +kernel
theorem dX6_isName_56 : decode cX6_isName 56 = .ok (.getfield 22, 3) := by decide +kernel
theorem dX6_isName_59 : decode cX6_isName 59 = .ok (.aload_n 0, 1) := by decide +kernel
theorem dX6_isName_60 : decode cX6_isName 60 = .ok (.getfield 160, 3) := by decide +kernel
theorem dX6_isName_63 : decode cX6_isName 63 = .ok (.iload 4, 2) := by decide +kernel
theorem dX6_isName_65 : decode cX6_isName 65 = .ok (.iadd, 1) := by decide +kernel
theorem dX6_isName_66 : decode cX6_isName 66 = .ok (.iaload, 1) := by decide +kernel
theorem dX6_isName_67 : decode cX6_isName 67 = .ok (.if_icmp .ne 7, 3) := by decide +kernel
theorem dX6_isName_70 : decode cX6_isName 70 = .ok (.iconst 1, 1) := by decide +kernel
theorem dX6_isName_71 : decode cX6_isName 71 = .ok (.goto 4, 3) := by decide +kernel
theorem dX6_isName_74 : decode cX6_isName 74 = .ok (.iconst 0, 1) := by decide +kernel
theorem dX6_isName_75 : decode cX6_isName 75 = .ok (.istore_n 3, 1) := by decide +kernel
theorem dX6_isName_76 : decode cX6_isName 76 = .ok (.iinc 4 1, 3) := by decide +kernel
theorem dX6_isName_79 : decode cX6_isName 79 = .ok (.goto (-45), 3) := by decide +kernel
theorem dX6_isName_82 : decode cX6_isName 82 = .ok (.iload_n 3, 1) := by decide +kernel
theorem dX6_isName_83 : decode cX6_isName 83 = .ok (.ireturn, 1) := by decide +kernel
theorem dX6_wordHere_0 : decode cX6_wordHere 0 = .ok (.iconst 0, 1) := by decide +kernel
theorem dX6_wordHere_1 : decode cX6_wordHere 1 = .ok (.istore_n 1, 1) := by decide +kernel
theorem dX6_wordHere_2 : decode cX6_wordHere 2 = .ok (.iload_n 1, 1) := by decide +kernel
theorem dX6_wordHere_3 : decode cX6_wordHere 3 = .ok (.bipush 13, 2) := by decide +kernel
theorem dX6_wordHere_5 : decode cX6_wordHere 5 = .ok (.if_icmp .ge 26, 3) := by decide +kernel
theorem dX6_wordHere_8 : decode cX6_wordHere 8 = .ok (.aload_n 0, 1) := by decide +kernel
theorem dX6_wordHere_9 : decode cX6_wordHere 9 = .ok (.iload_n 1, 1) := by decide +kernel
theorem dX6_wordHere_10 : decode cX6_wordHere 10 = .ok (.aload_n 0, 1) := by decide +kernel
theorem dX6_wordHere_11 : decode cX6_wordHere 11 = .ok (.getfield 163, 3) := by decide +kernel
theorem dX6_wordHere_14 : decode cX6_wordHere 14 = .ok (.aload_n 0, 1) := by decide +kernel
theorem dX6_wordHere_15 : decode cX6_wordHere 15 = .ok (.getfield 160, 3) := by decide +kernel
theorem dX6_wordHere_18 : decode cX6_wordHere 18 = .ok (.isub, 1) := by decide +kernel
theorem dX6_wordHere_19 : decode cX6_wordHere 19 = .ok (.invokevirtual 166, 3) := by decide +kernel
theorem dX6_wordHere_22 : decode cX6_wordHere 22 = .ok (.ifCond .ne 9, 3) := by decide +kernel
theorem dX6_wordHere_25 : decode cX6_wordHere 25 = .ok (.iinc 1 1, 3) := by decide +kernel
theorem dX6_wordHere_28 : decode cX6_wordHere 28 = .ok (.goto (-26), 3) := by decide +kernel
theorem dX6_wordHere_31 : decode cX6_wordHere 31 = .ok (.iload_n 1, 1) := by decide +kernel
theorem dX6_wordHere_32 : decode cX6_wordHere 32 = .ok (.bipush 13, 2) := by decide +kernel
theorem dX6_wordHere_34 : decode cX6_wordHere 34 = .ok (.if_icmp .ge 7, 3) := by decide +kernel
theorem dX6_wordHere_37 : decode cX6_wordHere 37 = .ok (.iload_n 1, 1) := by decide +kernel
theorem dX6_wordHere_38 : decode cX6_wordHere 38 = .ok (.goto 5, 3) := by decide +kernel
theorem dX6_wordHere_41 : decode cX6_wordHere 41 = .ok (.bipush 23, 2) := by decide +kernel
theorem dX6_wordHere_43 : decode cX6_wordHere 43 = .ok (.ireturn, 1) := by decide +kernel
theorem dX6_reads_0 : decode cX6_reads 0 = .ok (.aload_n 0, 1) := by decide +kernel
theorem dX6_reads_1 : decode cX6_reads 1 = .ok (.aload_n 0, 1) := by decide +kernel
theorem dX6_reads_2 : decode cX6_reads 2 = .ok (.getfield 163, 3) := by decide +kernel
theorem dX6_reads_5 : decode cX6_reads 5 = .ok (.bipush 32, 2) := by decide +kernel
theorem dX6_reads_7 : decode cX6_reads 7 = .ok (.bipush 32, 2) := by decide +kernel
theorem dX6_reads_9 : decode cX6_reads 9 = .ok (.invokevirtual 169, 3) := by decide +kernel
theorem dX6_reads_12 : decode cX6_reads 12 = .ok (.ifCond .eq 16, 3) := by decide +kernel
theorem dX6_reads_15 : decode cX6_reads 15 = .ok (.aload_n 0, 1) := by decide +kernel
theorem dX6_reads_16 : decode cX6_reads 16 = .ok (.dup, 1) := by decide +kernel
theorem dX6_reads_17 : decode cX6_reads 17 = .ok (.getfield 163, 3) := by decide +kernel
theorem dX6_reads_20 : decode cX6_reads 20 = .ok (.iconst 1, 1) := by decide +kernel
theorem dX6_reads_21 : decode cX6_reads 21 = .ok (.iadd, 1) := by decide +kernel
theorem dX6_reads_22 : decode cX6_reads 22 = .ok (.putfield 163, 3) := by decide +kernel
theorem dX6_reads_25 : decode cX6_reads 25 = .ok (.goto (-25), 3) := by decide +kernel
theorem dX6_reads_28 : decode cX6_reads 28 = .ok (.aload_n 0, 1) := by decide +kernel
theorem dX6_reads_29 : decode cX6_reads 29 = .ok (.aload_n 0, 1) := by decide +kernel
theorem dX6_reads_30 : decode cX6_reads 30 = .ok (.getfield 163, 3) := by decide +kernel
theorem dX6_reads_33 : decode cX6_reads 33 = .ok (.putfield 160, 3) := by decide +kernel
theorem dX6_reads_36 : decode cX6_reads 36 = .ok (.aload_n 0, 1) := by decide +kernel
theorem dX6_reads_37 : decode cX6_reads 37 = .ok (.iconst 0, 1) := by decide +kernel
theorem dX6_reads_38 : decode cX6_reads 38 = .ok (.putfield 173, 3) := by decide +kernel
theorem dX6_reads_41 : decode cX6_reads 41 = .ok (.aload_n 0, 1) := by decide +kernel
theorem dX6_reads_42 : decode cX6_reads 42 = .ok (.getfield 163, 3) := by decide +kernel
theorem dX6_reads_45 : decode cX6_reads 45 = .ok (.aload_n 0, 1) := by decide +kernel
theorem dX6_reads_46 : decode cX6_reads 46 = .ok (.getfield 153, 3) := by decide +kernel
theorem dX6_reads_49 : decode cX6_reads 49 = .ok (.if_icmp .ne 12, 3) := by decide +kernel
theorem dX6_reads_52 : decode cX6_reads 52 = .ok (.aload_n 0, 1) := by decide +kernel
theorem dX6_reads_53 : decode cX6_reads 53 = .ok (.bipush 22, 2) := by decide +kernel
theorem dX6_reads_55 : decode cX6_reads 55 = .ok (.putfield 176, 3) := by decide +kernel
theorem dX6_reads_58 : decode cX6_reads 58 = .ok (.goto 186, 3) := by decide +kernel
theorem dX6_reads_61 : decode cX6_reads 61 = .ok (.aload_n 0, 1) := by decide +kernel
theorem dX6_reads_62 : decode cX6_reads 62 = .ok (.aload_n 0, 1) := by decide +kernel
theorem dX6_reads_63 : decode cX6_reads 63 = .ok (.getfield 163, 3) := by decide +kernel
theorem dX6_reads_66 : decode cX6_reads 66 = .ok (.bipush 97, 2) := by decide +kernel
theorem dX6_reads_68 : decode cX6_reads 68 = .ok (.bipush 122, 2) := by decide +kernel
theorem dX6_reads_70 : decode cX6_reads 70 = .ok (.invokevirtual 169, 3) := by decide +kernel
theorem dX6_reads_73 : decode cX6_reads 73 = .ok (.ifCond .eq 42, 3) := by decide +kernel
theorem dX6_reads_76 : decode cX6_reads 76 = .ok (.aload_n 0, 1) := by decide +kernel
theorem dX6_reads_77 : decode cX6_reads 77 = .ok (.aload_n 0, 1) := by decide +kernel
theorem dX6_reads_78 : decode cX6_reads 78 = .ok (.getfield 163, 3) := by decide +kernel
theorem dX6_reads_81 : decode cX6_reads 81 = .ok (.bipush 97, 2) := by decide +kernel
theorem dX6_reads_83 : decode cX6_reads 83 = .ok (.bipush 122, 2) := by decide +kernel
theorem dX6_reads_85 : decode cX6_reads 85 = .ok (.invokevirtual 169, 3) := by decide +kernel
theorem dX6_reads_88 : decode cX6_reads 88 = .ok (.ifCond .eq 16, 3) := by decide +kernel
theorem dX6_reads_91 : decode cX6_reads 91 = .ok (.aload_n 0, 1) := by decide +kernel
theorem dX6_reads_92 : decode cX6_reads 92 = .ok (.dup, 1) := by decide +kernel
theorem dX6_reads_93 : decode cX6_reads 93 = .ok (.getfield 163, 3) := by decide +kernel
theorem dX6_reads_96 : decode cX6_reads 96 = .ok (.iconst 1, 1) := by decide +kernel
theorem dX6_reads_97 : decode cX6_reads 97 = .ok (.iadd, 1) := by decide +kernel
theorem dX6_reads_98 : decode cX6_reads 98 = .ok (.putfield 163, 3) := by decide +kernel
theorem dX6_reads_101 : decode cX6_reads 101 = .ok (.goto (-25), 3) := by decide +kernel
theorem dX6_reads_104 : decode cX6_reads 104 = .ok (.aload_n 0, 1) := by decide +kernel
theorem dX6_reads_105 : decode cX6_reads 105 = .ok (.aload_n 0, 1) := by decide +kernel
theorem dX6_reads_106 : decode cX6_reads 106 = .ok (.invokevirtual 179, 3) := by decide +kernel
theorem dX6_reads_109 : decode cX6_reads 109 = .ok (.putfield 176, 3) := by decide +kernel
theorem dX6_reads_112 : decode cX6_reads 112 = .ok (.goto 132, 3) := by decide +kernel
theorem dX6_reads_115 : decode cX6_reads 115 = .ok (.aload_n 0, 1) := by decide +kernel
theorem dX6_reads_116 : decode cX6_reads 116 = .ok (.aload_n 0, 1) := by decide +kernel
theorem dX6_reads_117 : decode cX6_reads 117 = .ok (.getfield 163, 3) := by decide +kernel
theorem dX6_reads_120 : decode cX6_reads 120 = .ok (.bipush 48, 2) := by decide +kernel
theorem dX6_reads_122 : decode cX6_reads 122 = .ok (.bipush 57, 2) := by decide +kernel
theorem dX6_reads_124 : decode cX6_reads 124 = .ok (.invokevirtual 169, 3) := by decide +kernel
theorem dX6_reads_127 : decode cX6_reads 127 = .ok (.ifCond .eq 81, 3) := by decide +kernel
theorem dX6_reads_130 : decode cX6_reads 130 = .ok (.aload_n 0, 1) := by decide +kernel
theorem dX6_reads_131 : decode cX6_reads 131 = .ok (.aload_n 0, 1) := by decide +kernel
theorem dX6_reads_132 : decode cX6_reads 132 = .ok (.getfield 163, 3) := by decide +kernel
theorem dX6_reads_135 : decode cX6_reads 135 = .ok (.bipush 48, 2) := by decide +kernel
theorem dX6_reads_137 : decode cX6_reads 137 = .ok (.bipush 57, 2) := by decide +kernel
theorem dX6_reads_139 : decode cX6_reads 139 = .ok (.invokevirtual 169, 3) := by decide +kernel
theorem dX6_reads_142 : decode cX6_reads 142 = .ok (.ifCond .eq 57, 3) := by decide +kernel
theorem dX6_reads_145 : decode cX6_reads 145 = .ok (.aload_n 0, 1) := by decide +kernel
theorem dX6_reads_146 : decode cX6_reads 146 = .ok (.aload_n 0, 1) := by decide +kernel
theorem dX6_reads_147 : decode cX6_reads 147 = .ok (.getfield 173, 3) := by decide +kernel
theorem dX6_reads_150 : decode cX6_reads 150 = .ok (.sipush 9999, 3) := by decide +kernel
theorem dX6_reads_153 : decode cX6_reads 153 = .ok (.if_icmp .le 10, 3) := by decide +kernel
theorem dX6_reads_156 : decode cX6_reads 156 = .ok (.aload_n 0, 1) := by decide +kernel
theorem dX6_reads_157 : decode cX6_reads 157 = .ok (.getfield 173, 3) := by decide +kernel
theorem dX6_reads_160 : decode cX6_reads 160 = .ok (.goto 23, 3) := by decide +kernel
theorem dX6_reads_163 : decode cX6_reads 163 = .ok (.bipush 10, 2) := by decide +kernel
theorem dX6_reads_165 : decode cX6_reads 165 = .ok (.aload_n 0, 1) := by decide +kernel
theorem dX6_reads_166 : decode cX6_reads 166 = .ok (.getfield 173, 3) := by decide +kernel
theorem dX6_reads_169 : decode cX6_reads 169 = .ok (.imul, 1) := by decide +kernel
theorem dX6_reads_170 : decode cX6_reads 170 = .ok (.aload_n 0, 1) := by decide +kernel
theorem dX6_reads_171 : decode cX6_reads 171 = .ok (.getfield 22, 3) := by decide +kernel
theorem dX6_reads_174 : decode cX6_reads 174 = .ok (.aload_n 0, 1) := by decide +kernel
theorem dX6_reads_175 : decode cX6_reads 175 = .ok (.getfield 163, 3) := by decide +kernel
theorem dX6_reads_178 : decode cX6_reads 178 = .ok (.iaload, 1) := by decide +kernel
theorem dX6_reads_179 : decode cX6_reads 179 = .ok (.iadd, 1) := by decide +kernel
theorem dX6_reads_180 : decode cX6_reads 180 = .ok (.bipush 48, 2) := by decide +kernel
theorem dX6_reads_182 : decode cX6_reads 182 = .ok (.isub, 1) := by decide +kernel
theorem dX6_reads_183 : decode cX6_reads 183 = .ok (.putfield 173, 3) := by decide +kernel
theorem dX6_reads_186 : decode cX6_reads 186 = .ok (.aload_n 0, 1) := by decide +kernel
theorem dX6_reads_187 : decode cX6_reads 187 = .ok (.dup, 1) := by decide +kernel
theorem dX6_reads_188 : decode cX6_reads 188 = .ok (.getfield 163, 3) := by decide +kernel
theorem dX6_reads_191 : decode cX6_reads 191 = .ok (.iconst 1, 1) := by decide +kernel
theorem dX6_reads_192 : decode cX6_reads 192 = .ok (.iadd, 1) := by decide +kernel
theorem dX6_reads_193 : decode cX6_reads 193 = .ok (.putfield 163, 3) := by decide +kernel
theorem dX6_reads_196 : decode cX6_reads 196 = .ok (.goto (-66), 3) := by decide +kernel
theorem dX6_reads_199 : decode cX6_reads 199 = .ok (.aload_n 0, 1) := by decide +kernel
theorem dX6_reads_200 : decode cX6_reads 200 = .ok (.bipush 20, 2) := by decide +kernel
theorem dX6_reads_202 : decode cX6_reads 202 = .ok (.putfield 176, 3) := by decide +kernel
theorem dX6_reads_205 : decode cX6_reads 205 = .ok (.goto 39, 3) := by decide +kernel
theorem dX6_reads_208 : decode cX6_reads 208 = .ok (.aload_n 0, 1) := by decide +kernel
theorem dX6_reads_209 : decode cX6_reads 209 = .ok (.aload_n 0, 1) := by decide +kernel
theorem dX6_reads_210 : decode cX6_reads 210 = .ok (.aload_n 0, 1) := by decide +kernel
theorem dX6_reads_211 : decode cX6_reads 211 = .ok (.getfield 163, 3) := by decide +kernel
theorem dX6_reads_214 : decode cX6_reads 214 = .ok (.bipush 59, 2) := by decide +kernel
theorem dX6_reads_216 : decode cX6_reads 216 = .ok (.bipush 59, 2) := by decide +kernel
theorem dX6_reads_218 : decode cX6_reads 218 = .ok (.invokevirtual 169, 3) := by decide +kernel
theorem dX6_reads_221 : decode cX6_reads 221 = .ok (.ifCond .eq 8, 3) := by decide +kernel
theorem dX6_reads_224 : decode cX6_reads 224 = .ok (.bipush 21, 2) := by decide +kernel
theorem dX6_reads_226 : decode cX6_reads 226 = .ok (.goto 5, 3) := by decide +kernel
theorem dX6_reads_229 : decode cX6_reads 229 = .ok (.bipush 23, 2) := by decide +kernel
theorem dX6_reads_231 : decode cX6_reads 231 = .ok (.putfield 176, 3) := by decide +kernel
theorem dX6_reads_234 : decode cX6_reads 234 = .ok (.aload_n 0, 1) := by decide +kernel
theorem dX6_reads_235 : decode cX6_reads 235 = .ok (.dup, 1) := by decide +kernel
theorem dX6_reads_236 : decode cX6_reads 236 = .ok (.getfield 163, 3) := by decide +kernel
theorem dX6_reads_239 : decode cX6_reads 239 = .ok (.iconst 1, 1) := by decide +kernel
theorem dX6_reads_240 : decode cX6_reads 240 = .ok (.iadd, 1) := by decide +kernel
theorem dX6_reads_241 : decode cX6_reads 241 = .ok (.putfield 163, 3) := by decide +kernel
theorem dX6_reads_244 : decode cX6_reads 244 = .ok (.return_, 1) := by decide +kernel
theorem dX6_passes_0 : decode cX6_passes 0 = .ok (.aload_n 0, 1) := by decide +kernel
theorem dX6_passes_1 : decode cX6_passes 1 = .ok (.getfield 182, 3) := by decide +kernel
theorem dX6_passes_4 : decode cX6_passes 4 = .ok (.ifCond .ne 11, 3) := by decide +kernel
theorem dX6_passes_7 : decode cX6_passes 7 = .ok (.aload_n 0, 1) := by decide +kernel
theorem dX6_passes_8 : decode cX6_passes 8 = .ok (.getfield 176, 3) := by decide +kernel
theorem dX6_passes_11 : decode cX6_passes 11 = .ok (.iload_n 1, 1) := by decide +kernel
theorem dX6_passes_12 : decode cX6_passes 12 = .ok (.if_icmp .eq 5, 3) := by decide +kernel
theorem dX6_passes_15 : decode cX6_passes 15 = .ok (.iconst 0, 1) := by decide +kernel
theorem dX6_passes_16 : decode cX6_passes 16 = .ok (.ireturn, 1) := by decide +kernel
theorem dX6_passes_17 : decode cX6_passes 17 = .ok (.aload_n 0, 1) := by decide +kernel
theorem dX6_passes_18 : decode cX6_passes 18 = .ok (.invokevirtual 186, 3) := by decide +kernel
theorem dX6_passes_21 : decode cX6_passes 21 = .ok (.iconst 1, 1) := by decide +kernel
theorem dX6_passes_22 : decode cX6_passes 22 = .ok (.ireturn, 1) := by decide +kernel
theorem dX6_number_0 : decode cX6_number 0 = .ok (.aload_n 0, 1) := by decide +kernel
theorem dX6_number_1 : decode cX6_number 1 = .ok (.getfield 173, 3) := by decide +kernel
theorem dX6_number_4 : decode cX6_number 4 = .ok (.istore_n 3, 1) := by decide +kernel
theorem dX6_number_5 : decode cX6_number 5 = .ok (.aload_n 0, 1) := by decide +kernel
theorem dX6_number_6 : decode cX6_number 6 = .ok (.aload_n 0, 1) := by decide +kernel
theorem dX6_number_7 : decode cX6_number 7 = .ok (.getfield 182, 3) := by decide +kernel
theorem dX6_number_10 : decode cX6_number 10 = .ok (.ifCond .ne 22, 3) := by decide +kernel
theorem dX6_number_13 : decode cX6_number 13 = .ok (.aload_n 0, 1) := by decide +kernel
theorem dX6_number_14 : decode cX6_number 14 = .ok (.getfield 176, 3) := by decide +kernel
theorem dX6_number_17 : decode cX6_number 17 = .ok (.bipush 20, 2) := by decide +kernel
theorem dX6_number_19 : decode cX6_number 19 = .ok (.if_icmp .ne 13, 3) := by decide +kernel
theorem dX6_number_22 : decode cX6_number 22 = .ok (.iload_n 3, 1) := by decide +kernel
theorem dX6_number_23 : decode cX6_number 23 = .ok (.i2l, 1) := by decide +kernel
theorem dX6_number_24 : decode cX6_number 24 = .ok (.iload_n 1, 1) := by decide +kernel
theorem dX6_number_25 : decode cX6_number 25 = .ok (.iload_n 2, 1) := by decide +kernel
theorem dX6_number_26 : decode cX6_number 26 = .ok (.invokestatic 41, 3) := by decide +kernel
theorem dX6_number_29 : decode cX6_number 29 = .ok (.ifCond .ne 7, 3) := by decide +kernel
theorem dX6_number_32 : decode cX6_number 32 = .ok (.iconst 1, 1) := by decide +kernel
theorem dX6_number_33 : decode cX6_number 33 = .ok (.goto 4, 3) := by decide +kernel
end
section
theorem dX6_number_36 : decode cX6_number 36 = .ok (.iconst 0, 1) := by decide +kernel
theorem dX6_number_37 : decode cX6_number 37 = .ok (.putfield 182, 3) := by decide +kernel
theorem dX6_number_40 : decode cX6_number 40 = .ok (.aload_n 0, 1) := by decide +kernel
theorem dX6_number_41 : decode cX6_number 41 = .ok (.getfield 182, 3) := by decide +kernel
theorem dX6_number_44 : decode cX6_number 44 = .ok (.ifCond .ne 7, 3) := by decide +kernel
theorem dX6_number_47 : decode cX6_number 47 = .ok (.aload_n 0, 1) := by decide +kernel
theorem dX6_number_48 : decode cX6_number 48 = .ok (.invokevirtual 186, 3) := by decide +kernel
theorem dX6_number_51 : decode cX6_number 51 = .ok (.iload_n 3, 1) := by decide +kernel
theorem dX6_number_52 : decode cX6_number 52 = .ok (.ireturn, 1) := by decide +kernel
theorem dX6_perhaps_0 : decode cX6_perhaps 0 = .ok (.aload_n 0, 1) := by decide +kernel
theorem dX6_perhaps_1 : decode cX6_perhaps 1 = .ok (.iload_n 1, 1) := by decide +kernel
theorem dX6_perhaps_2 : decode cX6_perhaps 2 = .ok (.invokevirtual 189, 3) := by decide +kernel
theorem dX6_perhaps_5 : decode cX6_perhaps 5 = .ok (.ifCond .eq 12, 3) := by decide +kernel
theorem dX6_perhaps_8 : decode cX6_perhaps 8 = .ok (.aload_n 0, 1) := by decide +kernel
theorem dX6_perhaps_9 : decode cX6_perhaps 9 = .ok (.iload_n 2, 1) := by decide +kernel
theorem dX6_perhaps_10 : decode cX6_perhaps 10 = .ok (.iload_n 3, 1) := by decide +kernel
theorem dX6_perhaps_11 : decode cX6_perhaps 11 = .ok (.invokevirtual 192, 3) := by decide +kernel
theorem dX6_perhaps_14 : decode cX6_perhaps 14 = .ok (.goto 5, 3) := by decide +kernel
theorem dX6_perhaps_17 : decode cX6_perhaps 17 = .ok (.iload 4, 2) := by decide +kernel
theorem dX6_perhaps_19 : decode cX6_perhaps 19 = .ok (.ireturn, 1) := by decide +kernel
theorem dX6_fountainItem_0 : decode cX6_fountainItem 0 = .ok (.aload_n 0, 1) := by decide +kernel
theorem dX6_fountainItem_1 : decode cX6_fountainItem 1 = .ok (.getfield 176, 3) := by decide +kernel
theorem dX6_fountainItem_4 : decode cX6_fountainItem 4 = .ok (.istore_n 1, 1) := by decide +kernel
theorem dX6_fountainItem_5 : decode cX6_fountainItem 5 = .ok (.aload_n 0, 1) := by decide +kernel
theorem dX6_fountainItem_6 : decode cX6_fountainItem 6 = .ok (.aload_n 0, 1) := by decide +kernel
theorem dX6_fountainItem_7 : decode cX6_fountainItem 7 = .ok (.getfield 9, 3) := by decide +kernel
theorem dX6_fountainItem_10 : decode cX6_fountainItem 10 = .ok (.iconst 4, 1) := by decide +kernel
theorem dX6_fountainItem_11 : decode cX6_fountainItem 11 = .ok (.iaload, 1) := by decide +kernel
theorem dX6_fountainItem_12 : decode cX6_fountainItem 12 = .ok (.bipush 8, 2) := by decide +kernel
theorem dX6_fountainItem_14 : decode cX6_fountainItem 14 = .ok (.if_icmp .ne 7, 3) := by decide +kernel
theorem dX6_fountainItem_17 : decode cX6_fountainItem 17 = .ok (.iconst 1, 1) := by decide +kernel
theorem dX6_fountainItem_18 : decode cX6_fountainItem 18 = .ok (.goto 4, 3) := by decide +kernel
theorem dX6_fountainItem_21 : decode cX6_fountainItem 21 = .ok (.iconst 0, 1) := by decide +kernel
theorem dX6_fountainItem_22 : decode cX6_fountainItem 22 = .ok (.putfield 182, 3) := by decide +kernel
theorem dX6_fountainItem_25 : decode cX6_fountainItem 25 = .ok (.aload_n 0, 1) := by decide +kernel
theorem dX6_fountainItem_26 : decode cX6_fountainItem 26 = .ok (.getfield 182, 3) := by decide +kernel
theorem dX6_fountainItem_29 : decode cX6_fountainItem 29 = .ok (.ifCond .eq 4, 3) := by decide +kernel
theorem dX6_fountainItem_32 : decode cX6_fountainItem 32 = .ok (.return_, 1) := by decide +kernel
theorem dX6_fountainItem_33 : decode cX6_fountainItem 33 = .ok (.aload_n 0, 1) := by decide +kernel
theorem dX6_fountainItem_34 : decode cX6_fountainItem 34 = .ok (.invokevirtual 186, 3) := by decide +kernel
theorem dX6_fountainItem_37 : decode cX6_fountainItem 37 = .ok (.aload_n 0, 1) := by decide +kernel
theorem dX6_fountainItem_38 : decode cX6_fountainItem 38 = .ok (.bipush 6, 2) := by decide +kernel
theorem dX6_fountainItem_40 : decode cX6_fountainItem 40 = .ok (.iconst 1, 1) := by decide +kernel
theorem dX6_fountainItem_41 : decode cX6_fountainItem 41 = .ok (.bipush 40, 2) := by decide +kernel
theorem dX6_fountainItem_43 : decode cX6_fountainItem 43 = .ok (.bipush 10, 2) := by decide +kernel
theorem dX6_fountainItem_45 : decode cX6_fountainItem 45 = .ok (.invokevirtual 195, 3) := by decide +kernel
theorem dX6_fountainItem_48 : decode cX6_fountainItem 48 = .ok (.istore_n 2, 1) := by decide +kernel
theorem dX6_fountainItem_49 : decode cX6_fountainItem 49 = .ok (.aload_n 0, 1) := by decide +kernel
theorem dX6_fountainItem_50 : decode cX6_fountainItem 50 = .ok (.bipush 7, 2) := by decide +kernel
theorem dX6_fountainItem_52 : decode cX6_fountainItem 52 = .ok (.iconst 0, 1) := by decide +kernel
theorem dX6_fountainItem_53 : decode cX6_fountainItem 53 = .ok (.bipush 99, 2) := by decide +kernel
theorem dX6_fountainItem_55 : decode cX6_fountainItem 55 = .ok (.bipush 20, 2) := by decide +kernel
theorem dX6_fountainItem_57 : decode cX6_fountainItem 57 = .ok (.invokevirtual 195, 3) := by decide +kernel
theorem dX6_fountainItem_60 : decode cX6_fountainItem 60 = .ok (.istore_n 3, 1) := by decide +kernel
theorem dX6_fountainItem_61 : decode cX6_fountainItem 61 = .ok (.aload_n 0, 1) := by decide +kernel
theorem dX6_fountainItem_62 : decode cX6_fountainItem 62 = .ok (.bipush 8, 2) := by decide +kernel
theorem dX6_fountainItem_64 : decode cX6_fountainItem 64 = .ok (.invokevirtual 189, 3) := by decide +kernel
theorem dX6_fountainItem_67 : decode cX6_fountainItem 67 = .ok (.ifCond .eq 7, 3) := by decide +kernel
theorem dX6_fountainItem_70 : decode cX6_fountainItem 70 = .ok (.iconst 1, 1) := by decide +kernel
theorem dX6_fountainItem_71 : decode cX6_fountainItem 71 = .ok (.goto 4, 3) := by decide +kernel
theorem dX6_fountainItem_74 : decode cX6_fountainItem 74 = .ok (.iconst 0, 1) := by decide +kernel
theorem dX6_fountainItem_75 : decode cX6_fountainItem 75 = .ok (.istore 4, 2) := by decide +kernel
theorem dX6_fountainItem_77 : decode cX6_fountainItem 77 = .ok (.aload_n 0, 1) := by decide +kernel
theorem dX6_fountainItem_78 : decode cX6_fountainItem 78 = .ok (.getfield 182, 3) := by decide +kernel
theorem dX6_fountainItem_81 : decode cX6_fountainItem 81 = .ok (.ifCond .ne 14, 3) := by decide +kernel
theorem dX6_fountainItem_84 : decode cX6_fountainItem 84 = .ok (.aload_n 0, 1) := by decide +kernel
theorem dX6_fountainItem_85 : decode cX6_fountainItem 85 = .ok (.iload_n 1, 1) := by decide +kernel
theorem dX6_fountainItem_86 : decode cX6_fountainItem 86 = .ok (.iload_n 2, 1) := by decide +kernel
theorem dX6_fountainItem_87 : decode cX6_fountainItem 87 = .ok (.iload_n 3, 1) := by decide +kernel
theorem dX6_fountainItem_88 : decode cX6_fountainItem 88 = .ok (.iload 4, 2) := by decide +kernel
theorem dX6_fountainItem_90 : decode cX6_fountainItem 90 = .ok (.invokevirtual 91, 3) := by decide +kernel
theorem dX6_fountainItem_93 : decode cX6_fountainItem 93 = .ok (.istore 5, 2) := by decide +kernel
theorem dX6_fountainItem_95 : decode cX6_fountainItem 95 = .ok (.return_, 1) := by decide +kernel
theorem dX6_rainItem_0 : decode cX6_rainItem 0 = .ok (.aload_n 0, 1) := by decide +kernel
theorem dX6_rainItem_1 : decode cX6_rainItem 1 = .ok (.iconst 0, 1) := by decide +kernel
theorem dX6_rainItem_2 : decode cX6_rainItem 2 = .ok (.bipush 7, 2) := by decide +kernel
theorem dX6_rainItem_4 : decode cX6_rainItem 4 = .ok (.invokevirtual 192, 3) := by decide +kernel
theorem dX6_rainItem_7 : decode cX6_rainItem 7 = .ok (.istore_n 1, 1) := by decide +kernel
theorem dX6_rainItem_8 : decode cX6_rainItem 8 = .ok (.aload_n 0, 1) := by decide +kernel
theorem dX6_rainItem_9 : decode cX6_rainItem 9 = .ok (.iconst 0, 1) := by decide +kernel
theorem dX6_rainItem_10 : decode cX6_rainItem 10 = .ok (.bipush 99, 2) := by decide +kernel
theorem dX6_rainItem_12 : decode cX6_rainItem 12 = .ok (.invokevirtual 192, 3) := by decide +kernel
theorem dX6_rainItem_15 : decode cX6_rainItem 15 = .ok (.istore_n 2, 1) := by decide +kernel
theorem dX6_rainItem_16 : decode cX6_rainItem 16 = .ok (.aload_n 0, 1) := by decide +kernel
theorem dX6_rainItem_17 : decode cX6_rainItem 17 = .ok (.getfield 182, 3) := by decide +kernel
theorem dX6_rainItem_20 : decode cX6_rainItem 20 = .ok (.ifCond .ne 12, 3) := by decide +kernel
theorem dX6_rainItem_23 : decode cX6_rainItem 23 = .ok (.aload_n 0, 1) := by decide +kernel
theorem dX6_rainItem_24 : decode cX6_rainItem 24 = .ok (.getfield 9, 3) := by decide +kernel
theorem dX6_rainItem_27 : decode cX6_rainItem 27 = .ok (.iconst 5, 1) := by decide +kernel
theorem dX6_rainItem_28 : decode cX6_rainItem 28 = .ok (.iload_n 1, 1) := by decide +kernel
theorem dX6_rainItem_29 : decode cX6_rainItem 29 = .ok (.iadd, 1) := by decide +kernel
theorem dX6_rainItem_30 : decode cX6_rainItem 30 = .ok (.iload_n 2, 1) := by decide +kernel
theorem dX6_rainItem_31 : decode cX6_rainItem 31 = .ok (.iastore, 1) := by decide +kernel
theorem dX6_rainItem_32 : decode cX6_rainItem 32 = .ok (.return_, 1) := by decide +kernel
theorem dX6_coldItem_0 : decode cX6_coldItem 0 = .ok (.aload_n 0, 1) := by decide +kernel
theorem dX6_coldItem_1 : decode cX6_coldItem 1 = .ok (.getfield 176, 3) := by decide +kernel
theorem dX6_coldItem_4 : decode cX6_coldItem 4 = .ok (.bipush 10, 2) := by decide +kernel
theorem dX6_coldItem_6 : decode cX6_coldItem 6 = .ok (.if_icmp .ne 7, 3) := by decide +kernel
theorem dX6_coldItem_9 : decode cX6_coldItem 9 = .ok (.iconst 1, 1) := by decide +kernel
theorem dX6_coldItem_10 : decode cX6_coldItem 10 = .ok (.goto 4, 3) := by decide +kernel
theorem dX6_coldItem_13 : decode cX6_coldItem 13 = .ok (.iconst 0, 1) := by decide +kernel
theorem dX6_coldItem_14 : decode cX6_coldItem 14 = .ok (.istore_n 1, 1) := by decide +kernel
theorem dX6_coldItem_15 : decode cX6_coldItem 15 = .ok (.aload_n 0, 1) := by decide +kernel
theorem dX6_coldItem_16 : decode cX6_coldItem 16 = .ok (.invokevirtual 186, 3) := by decide +kernel
theorem dX6_coldItem_19 : decode cX6_coldItem 19 = .ok (.aload_n 0, 1) := by decide +kernel
theorem dX6_coldItem_20 : decode cX6_coldItem 20 = .ok (.iconst 0, 1) := by decide +kernel
theorem dX6_coldItem_21 : decode cX6_coldItem 21 = .ok (.bipush 7, 2) := by decide +kernel
theorem dX6_coldItem_23 : decode cX6_coldItem 23 = .ok (.invokevirtual 192, 3) := by decide +kernel
theorem dX6_coldItem_26 : decode cX6_coldItem 26 = .ok (.istore_n 2, 1) := by decide +kernel
theorem dX6_coldItem_27 : decode cX6_coldItem 27 = .ok (.aload_n 0, 1) := by decide +kernel
theorem dX6_coldItem_28 : decode cX6_coldItem 28 = .ok (.getfield 182, 3) := by decide +kernel
theorem dX6_coldItem_31 : decode cX6_coldItem 31 = .ok (.ifCond .ne 13, 3) := by decide +kernel
theorem dX6_coldItem_34 : decode cX6_coldItem 34 = .ok (.aload_n 0, 1) := by decide +kernel
theorem dX6_coldItem_35 : decode cX6_coldItem 35 = .ok (.getfield 9, 3) := by decide +kernel
theorem dX6_coldItem_38 : decode cX6_coldItem 38 = .ok (.bipush 13, 2) := by decide +kernel
theorem dX6_coldItem_40 : decode cX6_coldItem 40 = .ok (.iload_n 2, 1) := by decide +kernel
theorem dX6_coldItem_41 : decode cX6_coldItem 41 = .ok (.iadd, 1) := by decide +kernel
theorem dX6_coldItem_42 : decode cX6_coldItem 42 = .ok (.iload_n 1, 1) := by decide +kernel
theorem dX6_coldItem_43 : decode cX6_coldItem 43 = .ok (.iastore, 1) := by decide +kernel
theorem dX6_coldItem_44 : decode cX6_coldItem 44 = .ok (.return_, 1) := by decide +kernel
theorem dX6_item_0 : decode cX6_item 0 = .ok (.aload_n 0, 1) := by decide +kernel
theorem dX6_item_1 : decode cX6_item 1 = .ok (.getfield 176, 3) := by decide +kernel
theorem dX6_item_4 : decode cX6_item 4 = .ok (.iconst 5, 1) := by decide +kernel
theorem dX6_item_5 : decode cX6_item 5 = .ok (.if_icmp .gt 10, 3) := by decide +kernel
theorem dX6_item_8 : decode cX6_item 8 = .ok (.aload_n 0, 1) := by decide +kernel
theorem dX6_item_9 : decode cX6_item 9 = .ok (.invokevirtual 198, 3) := by decide +kernel
theorem dX6_item_12 : decode cX6_item 12 = .ok (.goto 75, 3) := by decide +kernel
theorem dX6_item_15 : decode cX6_item 15 = .ok (.aload_n 0, 1) := by decide +kernel
theorem dX6_item_16 : decode cX6_item 16 = .ok (.bipush 9, 2) := by decide +kernel
theorem dX6_item_18 : decode cX6_item 18 = .ok (.invokevirtual 189, 3) := by decide +kernel
theorem dX6_item_21 : decode cX6_item 21 = .ok (.ifCond .eq 10, 3) := by decide +kernel
theorem dX6_item_24 : decode cX6_item 24 = .ok (.aload_n 0, 1) := by decide +kernel
theorem dX6_item_25 : decode cX6_item 25 = .ok (.invokevirtual 201, 3) := by decide +kernel
theorem dX6_item_28 : decode cX6_item 28 = .ok (.goto 59, 3) := by decide +kernel
theorem dX6_item_31 : decode cX6_item 31 = .ok (.aload_n 0, 1) := by decide +kernel
theorem dX6_item_32 : decode cX6_item 32 = .ok (.getfield 176, 3) := by decide +kernel
theorem dX6_item_35 : decode cX6_item 35 = .ok (.bipush 10, 2) := by decide +kernel
theorem dX6_item_37 : decode cX6_item 37 = .ok (.if_icmp .eq 12, 3) := by decide +kernel
theorem dX6_item_40 : decode cX6_item 40 = .ok (.aload_n 0, 1) := by decide +kernel
theorem dX6_item_41 : decode cX6_item 41 = .ok (.getfield 176, 3) := by decide +kernel
theorem dX6_item_44 : decode cX6_item 44 = .ok (.bipush 11, 2) := by decide +kernel
theorem dX6_item_46 : decode cX6_item 46 = .ok (.if_icmp .ne 10, 3) := by decide +kernel
theorem dX6_item_49 : decode cX6_item 49 = .ok (.aload_n 0, 1) := by decide +kernel
theorem dX6_item_50 : decode cX6_item 50 = .ok (.invokevirtual 204, 3) := by decide +kernel
theorem dX6_item_53 : decode cX6_item 53 = .ok (.goto 34, 3) := by decide +kernel
theorem dX6_item_56 : decode cX6_item 56 = .ok (.aload_n 0, 1) := by decide +kernel
theorem dX6_item_57 : decode cX6_item 57 = .ok (.bipush 12, 2) := by decide +kernel
theorem dX6_item_59 : decode cX6_item 59 = .ok (.invokevirtual 189, 3) := by decide +kernel
theorem dX6_item_62 : decode cX6_item 62 = .ok (.ifCond .eq 20, 3) := by decide +kernel
theorem dX6_item_65 : decode cX6_item 65 = .ok (.aload_n 0, 1) := by decide +kernel
theorem dX6_item_66 : decode cX6_item 66 = .ok (.getfield 9, 3) := by decide +kernel
theorem dX6_item_69 : decode cX6_item 69 = .ok (.iconst 1, 1) := by decide +kernel
theorem dX6_item_70 : decode cX6_item 70 = .ok (.aload_n 0, 1) := by decide +kernel
theorem dX6_item_71 : decode cX6_item 71 = .ok (.iconst 0, 1) := by decide +kernel
theorem dX6_item_72 : decode cX6_item 72 = .ok (.sipush 9999, 3) := by decide +kernel
theorem dX6_item_75 : decode cX6_item 75 = .ok (.invokevirtual 192, 3) := by decide +kernel
theorem dX6_item_78 : decode cX6_item 78 = .ok (.iastore, 1) := by decide +kernel
theorem dX6_item_79 : decode cX6_item 79 = .ok (.goto 8, 3) := by decide +kernel
theorem dX6_item_82 : decode cX6_item 82 = .ok (.aload_n 0, 1) := by decide +kernel
theorem dX6_item_83 : decode cX6_item 83 = .ok (.iconst 1, 1) := by decide +kernel
theorem dX6_item_84 : decode cX6_item 84 = .ok (.putfield 182, 3) := by decide +kernel
theorem dX6_item_87 : decode cX6_item 87 = .ok (.return_, 1) := by decide +kernel
theorem dX6_town_0 : decode cX6_town 0 = .ok (.aload_n 0, 1) := by decide +kernel
theorem dX6_town_1 : decode cX6_town 1 = .ok (.invokevirtual 134, 3) := by decide +kernel
theorem dX6_town_4 : decode cX6_town 4 = .ok (.aload_n 0, 1) := by decide +kernel
theorem dX6_town_5 : decode cX6_town 5 = .ok (.iconst 0, 1) := by decide +kernel
theorem dX6_town_6 : decode cX6_town 6 = .ok (.putfield 163, 3) := by decide +kernel
theorem dX6_town_9 : decode cX6_town 9 = .ok (.aload_n 0, 1) := by decide +kernel
theorem dX6_town_10 : decode cX6_town 10 = .ok (.iconst 0, 1) := by decide +kernel
theorem dX6_town_11 : decode cX6_town 11 = .ok (.putfield 182, 3) := by decide +kernel
theorem dX6_town_14 : decode cX6_town 14 = .ok (.aload_n 0, 1) := by decide +kernel
theorem dX6_town_15 : decode cX6_town 15 = .ok (.invokevirtual 186, 3) := by decide +kernel
theorem dX6_town_18 : decode cX6_town 18 = .ok (.aload_n 0, 1) := by decide +kernel
theorem dX6_town_19 : decode cX6_town 19 = .ok (.invokevirtual 207, 3) := by decide +kernel
theorem dX6_town_22 : decode cX6_town 22 = .ok (.iconst 1, 1) := by decide +kernel
theorem dX6_town_23 : decode cX6_town 23 = .ok (.istore_n 1, 1) := by decide +kernel
theorem dX6_town_24 : decode cX6_town 24 = .ok (.aload_n 0, 1) := by decide +kernel
theorem dX6_town_25 : decode cX6_town 25 = .ok (.bipush 21, 2) := by decide +kernel
theorem dX6_town_27 : decode cX6_town 27 = .ok (.invokevirtual 189, 3) := by decide +kernel
theorem dX6_town_30 : decode cX6_town 30 = .ok (.ifCond .eq 13, 3) := by decide +kernel
theorem dX6_town_33 : decode cX6_town 33 = .ok (.aload_n 0, 1) := by decide +kernel
theorem dX6_town_34 : decode cX6_town 34 = .ok (.invokevirtual 207, 3) := by decide +kernel
theorem dX6_town_37 : decode cX6_town 37 = .ok (.iinc 1 1, 3) := by decide +kernel
theorem dX6_town_40 : decode cX6_town 40 = .ok (.goto (-16), 3) := by decide +kernel
theorem dX6_town_43 : decode cX6_town 43 = .ok (.aload_n 0, 1) := by decide +kernel
theorem dX6_town_44 : decode cX6_town 44 = .ok (.aload_n 0, 1) := by decide +kernel
theorem dX6_town_45 : decode cX6_town 45 = .ok (.getfield 182, 3) := by decide +kernel
theorem dX6_town_48 : decode cX6_town 48 = .ok (.ifCond .ne 12, 3) := by decide +kernel
theorem dX6_town_51 : decode cX6_town 51 = .ok (.aload_n 0, 1) := by decide +kernel
theorem dX6_town_52 : decode cX6_town 52 = .ok (.getfield 176, 3) := by decide +kernel
theorem dX6_town_55 : decode cX6_town 55 = .ok (.bipush 22, 2) := by decide +kernel
theorem dX6_town_57 : decode cX6_town 57 = .ok (.if_icmp .eq 7, 3) := by decide +kernel
theorem dX6_town_60 : decode cX6_town 60 = .ok (.iconst 1, 1) := by decide +kernel
theorem dX6_town_61 : decode cX6_town 61 = .ok (.goto 4, 3) := by decide +kernel
theorem dX6_town_64 : decode cX6_town 64 = .ok (.iconst 0, 1) := by decide +kernel
theorem dX6_town_65 : decode cX6_town 65 = .ok (.putfield 182, 3) := by decide +kernel
theorem dX6_town_68 : decode cX6_town 68 = .ok (.aload_n 0, 1) := by decide +kernel
theorem dX6_town_69 : decode cX6_town 69 = .ok (.iconst 0, 1) := by decide +kernel
theorem dX6_town_70 : decode cX6_town 70 = .ok (.putfield 153, 3) := by decide +kernel
theorem dX6_town_73 : decode cX6_town 73 = .ok (.aload_n 0, 1) := by decide +kernel
theorem dX6_town_74 : decode cX6_town 74 = .ok (.getfield 182, 3) := by decide +kernel
theorem dX6_town_77 : decode cX6_town 77 = .ok (.ifCond .ne 5, 3) := by decide +kernel
theorem dX6_town_80 : decode cX6_town 80 = .ok (.iload_n 1, 1) := by decide +kernel
theorem dX6_town_81 : decode cX6_town 81 = .ok (.ireturn, 1) := by decide +kernel
theorem dX6_town_82 : decode cX6_town 82 = .ok (.aload_n 0, 1) := by decide +kernel
theorem dX6_town_83 : decode cX6_town 83 = .ok (.invokevirtual 137, 3) := by decide +kernel
theorem dX6_town_86 : decode cX6_town 86 = .ok (.iconst (-1), 1) := by decide +kernel
theorem dX6_town_87 : decode cX6_town 87 = .ok (.aload_n 0, 1) := by decide +kernel
theorem dX6_town_88 : decode cX6_town 88 = .ok (.getfield 160, 3) := by decide +kernel
theorem dX6_town_91 : decode cX6_town 91 = .ok (.isub, 1) := by decide +kernel
theorem dX6_town_92 : decode cX6_town 92 = .ok (.ireturn, 1) := by decide +kernel
theorem dX6_isSheet_0 : decode cX6_isSheet 0 = .ok (.iload_n 0, 1) := by decide +kernel
theorem dX6_isSheet_1 : decode cX6_isSheet 1 = .ok (.i2l, 1) := by decide +kernel
theorem dX6_isSheet_2 : decode cX6_isSheet 2 = .ok (.iconst 0, 1) := by decide +kernel
theorem dX6_isSheet_3 : decode cX6_isSheet 3 = .ok (.iconst 3, 1) := by decide +kernel
theorem dX6_isSheet_4 : decode cX6_isSheet 4 = .ok (.invokestatic 41, 3) := by decide +kernel
theorem dX6_isSheet_7 : decode cX6_isSheet 7 = .ok (.ireturn, 1) := by decide +kernel
theorem dX6_sheet_0 : decode cX6_sheet 0 = .ok (.iload_n 1, 1) := by decide +kernel
theorem dX6_sheet_1 : decode cX6_sheet 1 = .ok (.invokestatic 210, 3) := by decide +kernel
theorem dX6_sheet_4 : decode cX6_sheet 4 = .ok (.ifCond .eq 25, 3) := by decide +kernel
theorem dX6_sheet_7 : decode cX6_sheet 7 = .ok (.iload_n 2, 1) := by decide +kernel
theorem dX6_sheet_8 : decode cX6_sheet 8 = .ok (.ifCond .eq 28, 3) := by decide +kernel
theorem dX6_sheet_11 : decode cX6_sheet 11 = .ok (.iload_n 2, 1) := by decide +kernel
theorem dX6_sheet_12 : decode cX6_sheet 12 = .ok (.bipush 8, 2) := by decide +kernel
theorem dX6_sheet_14 : decode cX6_sheet 14 = .ok (.if_icmp .eq 22, 3) := by decide +kernel
theorem dX6_sheet_17 : decode cX6_sheet 17 = .ok (.iload_n 2, 1) := by decide +kernel
theorem dX6_sheet_18 : decode cX6_sheet 18 = .ok (.bipush 16, 2) := by decide +kernel
theorem dX6_sheet_20 : decode cX6_sheet 20 = .ok (.if_icmp .eq 16, 3) := by decide +kernel
theorem dX6_sheet_23 : decode cX6_sheet 23 = .ok (.iload_n 2, 1) := by decide +kernel
theorem dX6_sheet_24 : decode cX6_sheet 24 = .ok (.bipush 64, 2) := by decide +kernel
theorem dX6_sheet_26 : decode cX6_sheet 26 = .ok (.if_icmp .eq 10, 3) := by decide +kernel
theorem dX6_sheet_29 : decode cX6_sheet 29 = .ok (.aload_n 0, 1) := by decide +kernel
theorem dX6_sheet_30 : decode cX6_sheet 30 = .ok (.ldc 35, 2) := by decide +kernel
theorem dX6_sheet_32 : decode cX6_sheet 32 = .ok (.invokevirtual 37, 3) := by decide +kernel
theorem dX6_sheet_35 : decode cX6_sheet 35 = .ok (.ireturn, 1) := by decide +kernel
theorem dX6_sheet_36 : decode cX6_sheet 36 = .ok (.iload_n 3, 1) := by decide +kernel
theorem dX6_sheet_37 : decode cX6_sheet 37 = .ok (.ifCond .ge 10, 3) := by decide +kernel
theorem dX6_sheet_40 : decode cX6_sheet 40 = .ok (.aload_n 0, 1) := by decide +kernel
theorem dX6_sheet_41 : decode cX6_sheet 41 = .ok (.ldc 213, 2) := by decide +kernel
theorem dX6_sheet_43 : decode cX6_sheet 43 = .ok (.invokevirtual 37, 3) := by decide +kernel
theorem dX6_sheet_46 : decode cX6_sheet 46 = .ok (.ireturn, 1) := by decide +kernel
theorem dX6_sheet_47 : decode cX6_sheet 47 = .ok (.iload_n 3, 1) := by decide +kernel
theorem dX6_sheet_48 : decode cX6_sheet 48 = .ok (.bipush 40, 2) := by decide +kernel
theorem dX6_sheet_50 : decode cX6_sheet 50 = .ok (.if_icmp .le 10, 3) := by decide +kernel
theorem dX6_sheet_53 : decode cX6_sheet 53 = .ok (.aload_n 0, 1) := by decide +kernel
theorem dX6_sheet_54 : decode cX6_sheet 54 = .ok (.ldc 35, 2) := by decide +kernel
theorem dX6_sheet_56 : decode cX6_sheet 56 = .ok (.invokevirtual 37, 3) := by decide +kernel
theorem dX6_sheet_59 : decode cX6_sheet 59 = .ok (.ireturn, 1) := by decide +kernel
theorem dX6_sheet_60 : decode cX6_sheet 60 = .ok (.aload_n 0, 1) := by decide +kernel
theorem dX6_sheet_61 : decode cX6_sheet 61 = .ok (.getfield 25, 3) := by decide +kernel
theorem dX6_sheet_64 : decode cX6_sheet 64 = .ok (.iload_n 1, 1) := by decide +kernel
theorem dX6_sheet_65 : decode cX6_sheet 65 = .ok (.iload_n 2, 1) := by decide +kernel
theorem dX6_sheet_66 : decode cX6_sheet 66 = .ok (.iastore, 1) := by decide +kernel
theorem dX6_sheet_67 : decode cX6_sheet 67 = .ok (.aload_n 0, 1) := by decide +kernel
theorem dX6_sheet_68 : decode cX6_sheet 68 = .ok (.getfield 28, 3) := by decide +kernel
theorem dX6_sheet_71 : decode cX6_sheet 71 = .ok (.iload_n 1, 1) := by decide +kernel
theorem dX6_sheet_72 : decode cX6_sheet 72 = .ok (.iload_n 2, 1) := by decide +kernel
theorem dX6_sheet_73 : decode cX6_sheet 73 = .ok (.ifCond .ne 7, 3) := by decide +kernel
theorem dX6_sheet_76 : decode cX6_sheet 76 = .ok (.iconst 0, 1) := by decide +kernel
theorem dX6_sheet_77 : decode cX6_sheet 77 = .ok (.goto 4, 3) := by decide +kernel
theorem dX6_sheet_80 : decode cX6_sheet 80 = .ok (.iload_n 3, 1) := by decide +kernel
theorem dX6_sheet_81 : decode cX6_sheet 81 = .ok (.iastore, 1) := by decide +kernel
theorem dX6_sheet_82 : decode cX6_sheet 82 = .ok (.iconst 0, 1) := by decide +kernel
theorem dX6_sheet_83 : decode cX6_sheet 83 = .ok (.istore 4, 2) := by decide +kernel
theorem dX6_sheet_85 : decode cX6_sheet 85 = .ok (.iload 4, 2) := by decide +kernel
theorem dX6_sheet_87 : decode cX6_sheet 87 = .ok (.bipush 40, 2) := by decide +kernel
theorem dX6_sheet_89 : decode cX6_sheet 89 = .ok (.if_icmp .ge 22, 3) := by decide +kernel
theorem dX6_sheet_92 : decode cX6_sheet 92 = .ok (.aload_n 0, 1) := by decide +kernel
theorem dX6_sheet_93 : decode cX6_sheet 93 = .ok (.getfield 31, 3) := by decide +kernel
theorem dX6_sheet_96 : decode cX6_sheet 96 = .ok (.bipush 40, 2) := by decide +kernel
theorem dX6_sheet_98 : decode cX6_sheet 98 = .ok (.iload_n 1, 1) := by decide +kernel
theorem dX6_sheet_99 : decode cX6_sheet 99 = .ok (.imul, 1) := by decide +kernel
theorem dX6_sheet_100 : decode cX6_sheet 100 = .ok (.iload 4, 2) := by decide +kernel
theorem dX6_sheet_102 : decode cX6_sheet 102 = .ok (.iadd, 1) := by decide +kernel
theorem dX6_sheet_103 : decode cX6_sheet 103 = .ok (.lconst 0, 1) := by decide +kernel
theorem dX6_sheet_104 : decode cX6_sheet 104 = .ok (.lastore, 1) := by decide +kernel
theorem dX6_sheet_105 : decode cX6_sheet 105 = .ok (.iinc 4 1, 3) := by decide +kernel
theorem dX6_sheet_108 : decode cX6_sheet 108 = .ok (.goto (-23), 3) := by decide +kernel
theorem dX6_sheet_111 : decode cX6_sheet 111 = .ok (.aload_n 0, 1) := by decide +kernel
theorem dX6_sheet_112 : decode cX6_sheet 112 = .ok (.getfield 28, 3) := by decide +kernel
theorem dX6_sheet_115 : decode cX6_sheet 115 = .ok (.iload_n 1, 1) := by decide +kernel
theorem dX6_sheet_116 : decode cX6_sheet 116 = .ok (.iaload, 1) := by decide +kernel
theorem dX6_sheet_117 : decode cX6_sheet 117 = .ok (.ireturn, 1) := by decide +kernel
theorem dX6_notThere_0 : decode cX6_notThere 0 = .ok (.iload_n 1, 1) := by decide +kernel
theorem dX6_notThere_1 : decode cX6_notThere 1 = .ok (.invokestatic 210, 3) := by decide +kernel
theorem dX6_notThere_4 : decode cX6_notThere 4 = .ok (.ifCond .ne 8, 3) := by decide +kernel
theorem dX6_notThere_7 : decode cX6_notThere 7 = .ok (.ldc 35, 2) := by decide +kernel
theorem dX6_notThere_9 : decode cX6_notThere 9 = .ok (.goto 18, 3) := by decide +kernel
theorem dX6_notThere_12 : decode cX6_notThere 12 = .ok (.aload_n 0, 1) := by decide +kernel
theorem dX6_notThere_13 : decode cX6_notThere 13 = .ok (.getfield 25, 3) := by decide +kernel
theorem dX6_notThere_16 : decode cX6_notThere 16 = .ok (.iload_n 1, 1) := by decide +kernel
theorem dX6_notThere_17 : decode cX6_notThere 17 = .ok (.iaload, 1) := by decide +kernel
theorem dX6_notThere_18 : decode cX6_notThere 18 = .ok (.ifCond .ne 8, 3) := by decide +kernel
theorem dX6_notThere_21 : decode cX6_notThere 21 = .ok (.ldc 214, 2) := by decide +kernel
theorem dX6_notThere_23 : decode cX6_notThere 23 = .ok (.goto 4, 3) := by decide +kernel
theorem dX6_notThere_26 : decode cX6_notThere 26 = .ok (.iconst 0, 1) := by decide +kernel
theorem dX6_notThere_27 : decode cX6_notThere 27 = .ok (.ireturn, 1) := by decide +kernel
theorem dX6_cutTo_0 : decode cX6_cutTo 0 = .ok (.iload_n 0, 1) := by decide +kernel
theorem dX6_cutTo_1 : decode cX6_cutTo 1 = .ok (.bipush 8, 2) := by decide +kernel
theorem dX6_cutTo_3 : decode cX6_cutTo 3 = .ok (.if_icmp .ne 10, 3) := by decide +kernel
theorem dX6_cutTo_6 : decode cX6_cutTo 6 = .ok (.lload_n 1, 1) := by decide +kernel
theorem dX6_cutTo_7 : decode cX6_cutTo 7 = .ok (.l2i, 1) := by decide +kernel
theorem dX6_cutTo_8 : decode cX6_cutTo 8 = .ok (.i2b, 1) := by decide +kernel
theorem dX6_cutTo_9 : decode cX6_cutTo 9 = .ok (.i2l, 1) := by decide +kernel
theorem dX6_cutTo_10 : decode cX6_cutTo 10 = .ok (.goto 17, 3) := by decide +kernel
theorem dX6_cutTo_13 : decode cX6_cutTo 13 = .ok (.iload_n 0, 1) := by decide +kernel
theorem dX6_cutTo_14 : decode cX6_cutTo 14 = .ok (.bipush 16, 2) := by decide +kernel
theorem dX6_cutTo_16 : decode cX6_cutTo 16 = .ok (.if_icmp .ne 10, 3) := by decide +kernel
theorem dX6_cutTo_19 : decode cX6_cutTo 19 = .ok (.lload_n 1, 1) := by decide +kernel
theorem dX6_cutTo_20 : decode cX6_cutTo 20 = .ok (.l2i, 1) := by decide +kernel
theorem dX6_cutTo_21 : decode cX6_cutTo 21 = .ok (.i2s, 1) := by decide +kernel
theorem dX6_cutTo_22 : decode cX6_cutTo 22 = .ok (.i2l, 1) := by decide +kernel
theorem dX6_cutTo_23 : decode cX6_cutTo 23 = .ok (.goto 4, 3) := by decide +kernel
theorem dX6_cutTo_26 : decode cX6_cutTo 26 = .ok (.lload_n 1, 1) := by decide +kernel
theorem dX6_cutTo_27 : decode cX6_cutTo 27 = .ok (.lreturn, 1) := by decide +kernel
theorem dX6_write_0 : decode cX6_write 0 = .ok (.aload_n 0, 1) := by decide +kernel
theorem dX6_write_1 : decode cX6_write 1 = .ok (.iload_n 1, 1) := by decide +kernel
theorem dX6_write_2 : decode cX6_write 2 = .ok (.invokevirtual 215, 3) := by decide +kernel
theorem dX6_write_5 : decode cX6_write 5 = .ok (.istore 5, 2) := by decide +kernel
theorem dX6_write_7 : decode cX6_write 7 = .ok (.iload 5, 2) := by decide +kernel
theorem dX6_write_9 : decode cX6_write 9 = .ok (.ifCond .ne 24, 3) := by decide +kernel
theorem dX6_write_12 : decode cX6_write 12 = .ok (.iload_n 2, 1) := by decide +kernel
theorem dX6_write_13 : decode cX6_write 13 = .ok (.i2l, 1) := by decide +kernel
theorem dX6_write_14 : decode cX6_write 14 = .ok (.iconst 0, 1) := by decide +kernel
theorem dX6_write_15 : decode cX6_write 15 = .ok (.aload_n 0, 1) := by decide +kernel
theorem dX6_write_16 : decode cX6_write 16 = .ok (.getfield 28, 3) := by decide +kernel
theorem dX6_write_19 : decode cX6_write 19 = .ok (.iload_n 1, 1) := by decide +kernel
theorem dX6_write_20 : decode cX6_write 20 = .ok (.iaload, 1) := by decide +kernel
theorem dX6_write_21 : decode cX6_write 21 = .ok (.iconst 1, 1) := by decide +kernel
theorem dX6_write_22 : decode cX6_write 22 = .ok (.isub, 1) := by decide +kernel
theorem dX6_write_23 : decode cX6_write 23 = .ok (.invokestatic 41, 3) := by decide +kernel
theorem dX6_write_26 : decode cX6_write 26 = .ok (.ifCond .ne 7, 3) := by decide +kernel
theorem dX6_write_29 : decode cX6_write 29 = .ok (.ldc 35, 2) := by decide +kernel
theorem dX6_write_31 : decode cX6_write 31 = .ok (.istore 5, 2) := by decide +kernel
theorem dX6_write_33 : decode cX6_write 33 = .ok (.iload 5, 2) := by decide +kernel
theorem dX6_write_35 : decode cX6_write 35 = .ok (.ifCond .eq 11, 3) := by decide +kernel
theorem dX6_write_38 : decode cX6_write 38 = .ok (.aload_n 0, 1) := by decide +kernel
theorem dX6_write_39 : decode cX6_write 39 = .ok (.iload 5, 2) := by decide +kernel
theorem dX6_write_41 : decode cX6_write 41 = .ok (.invokevirtual 37, 3) := by decide +kernel
theorem dX6_write_44 : decode cX6_write 44 = .ok (.i2l, 1) := by decide +kernel
theorem dX6_write_45 : decode cX6_write 45 = .ok (.lreturn, 1) := by decide +kernel
theorem dX6_write_46 : decode cX6_write 46 = .ok (.aload_n 0, 1) := by decide +kernel
theorem dX6_write_47 : decode cX6_write 47 = .ok (.getfield 31, 3) := by decide +kernel
theorem dX6_write_50 : decode cX6_write 50 = .ok (.bipush 40, 2) := by decide +kernel
theorem dX6_write_52 : decode cX6_write 52 = .ok (.iload_n 1, 1) := by decide +kernel
theorem dX6_write_53 : decode cX6_write 53 = .ok (.imul, 1) := by decide +kernel
theorem dX6_write_54 : decode cX6_write 54 = .ok (.iload_n 2, 1) := by decide +kernel
theorem dX6_write_55 : decode cX6_write 55 = .ok (.iadd, 1) := by decide +kernel
theorem dX6_write_56 : decode cX6_write 56 = .ok (.laload, 1) := by decide +kernel
theorem dX6_write_57 : decode cX6_write 57 = .ok (.lstore 6, 2) := by decide +kernel
theorem dX6_write_59 : decode cX6_write 59 = .ok (.aload_n 0, 1) := by decide +kernel
theorem dX6_write_60 : decode cX6_write 60 = .ok (.getfield 31, 3) := by decide +kernel
theorem dX6_write_63 : decode cX6_write 63 = .ok (.bipush 40, 2) := by decide +kernel
theorem dX6_write_65 : decode cX6_write 65 = .ok (.iload_n 1, 1) := by decide +kernel
theorem dX6_write_66 : decode cX6_write 66 = .ok (.imul, 1) := by decide +kernel
theorem dX6_write_67 : decode cX6_write 67 = .ok (.iload_n 2, 1) := by decide +kernel
theorem dX6_write_68 : decode cX6_write 68 = .ok (.iadd, 1) := by decide +kernel
theorem dX6_write_69 : decode cX6_write 69 = .ok (.aload_n 0, 1) := by decide +kernel
theorem dX6_write_70 : decode cX6_write 70 = .ok (.getfield 25, 3) := by decide +kernel
theorem dX6_write_73 : decode cX6_write 73 = .ok (.iload_n 1, 1) := by decide +kernel
theorem dX6_write_74 : decode cX6_write 74 = .ok (.iaload, 1) := by decide +kernel
theorem dX6_write_75 : decode cX6_write 75 = .ok (.lload_n 3, 1) := by decide +kernel
theorem dX6_write_76 : decode cX6_write 76 = .ok (.invokestatic 218, 3) := by decide +kernel
theorem dX6_write_79 : decode cX6_write 79 = .ok (.lastore, 1) := by decide +kernel
theorem dX6_write_80 : decode cX6_write 80 = .ok (.lload 6, 2) := by decide +kernel
theorem dX6_write_82 : decode cX6_write 82 = .ok (.lreturn, 1) := by decide +kernel
theorem dX6_notCopied_0 : decode cX6_notCopied 0 = .ok (.iload_n 1, 1) := by decide +kernel
theorem dX6_notCopied_1 : decode cX6_notCopied 1 = .ok (.invokestatic 210, 3) := by decide +kernel
theorem dX6_notCopied_4 : decode cX6_notCopied 4 = .ok (.ifCond .eq 10, 3) := by decide +kernel
theorem dX6_notCopied_7 : decode cX6_notCopied 7 = .ok (.iload_n 3, 1) := by decide +kernel
theorem dX6_notCopied_8 : decode cX6_notCopied 8 = .ok (.invokestatic 210, 3) := by decide +kernel
theorem dX6_notCopied_11 : decode cX6_notCopied 11 = .ok (.ifCond .ne 6, 3) := by decide +kernel
theorem dX6_notCopied_14 : decode cX6_notCopied 14 = .ok (.ldc 35, 2) := by decide +kernel
theorem dX6_notCopied_16 : decode cX6_notCopied 16 = .ok (.ireturn, 1) := by decide +kernel
theorem dX6_notCopied_17 : decode cX6_notCopied 17 = .ok (.aload_n 0, 1) := by decide +kernel
theorem dX6_notCopied_18 : decode cX6_notCopied 18 = .ok (.getfield 25, 3) := by decide +kernel
theorem dX6_notCopied_21 : decode cX6_notCopied 21 = .ok (.iload_n 1, 1) := by decide +kernel
theorem dX6_notCopied_22 : decode cX6_notCopied 22 = .ok (.iaload, 1) := by decide +kernel
theorem dX6_notCopied_23 : decode cX6_notCopied 23 = .ok (.ifCond .eq 12, 3) := by decide +kernel
theorem dX6_notCopied_26 : decode cX6_notCopied 26 = .ok (.aload_n 0, 1) := by decide +kernel
theorem dX6_notCopied_27 : decode cX6_notCopied 27 = .ok (.getfield 25, 3) := by decide +kernel
theorem dX6_notCopied_30 : decode cX6_notCopied 30 = .ok (.iload_n 3, 1) := by decide +kernel
theorem dX6_notCopied_31 : decode cX6_notCopied 31 = .ok (.iaload, 1) := by decide +kernel
theorem dX6_notCopied_32 : decode cX6_notCopied 32 = .ok (.ifCond .ne 6, 3) := by decide +kernel
theorem dX6_notCopied_35 : decode cX6_notCopied 35 = .ok (.ldc 214, 2) := by decide +kernel
theorem dX6_notCopied_37 : decode cX6_notCopied 37 = .ok (.ireturn, 1) := by decide +kernel
theorem dX6_notCopied_38 : decode cX6_notCopied 38 = .ok (.aload_n 0, 1) := by decide +kernel
theorem dX6_notCopied_39 : decode cX6_notCopied 39 = .ok (.getfield 25, 3) := by decide +kernel
theorem dX6_notCopied_42 : decode cX6_notCopied 42 = .ok (.iload_n 1, 1) := by decide +kernel
theorem dX6_notCopied_43 : decode cX6_notCopied 43 = .ok (.iaload, 1) := by decide +kernel
theorem dX6_notCopied_44 : decode cX6_notCopied 44 = .ok (.aload_n 0, 1) := by decide +kernel
theorem dX6_notCopied_45 : decode cX6_notCopied 45 = .ok (.getfield 25, 3) := by decide +kernel
theorem dX6_notCopied_48 : decode cX6_notCopied 48 = .ok (.iload_n 3, 1) := by decide +kernel
theorem dX6_notCopied_49 : decode cX6_notCopied 49 = .ok (.iaload, 1) := by decide +kernel
theorem dX6_notCopied_50 : decode cX6_notCopied 50 = .ok (.if_icmp .eq 6, 3) := by decide +kernel
theorem dX6_notCopied_53 : decode cX6_notCopied 53 = .ok (.ldc 104, 2) := by decide +kernel
theorem dX6_notCopied_55 : decode cX6_notCopied 55 = .ok (.ireturn, 1) := by decide +kernel
theorem dX6_notCopied_56 : decode cX6_notCopied 56 = .ok (.iload 5, 2) := by decide +kernel
theorem dX6_notCopied_58 : decode cX6_notCopied 58 = .ok (.ifCond .lt 43, 3) := by decide +kernel
theorem dX6_notCopied_61 : decode cX6_notCopied 61 = .ok (.iload_n 2, 1) := by decide +kernel
theorem dX6_notCopied_62 : decode cX6_notCopied 62 = .ok (.ifCond .lt 39, 3) := by decide +kernel
theorem dX6_notCopied_65 : decode cX6_notCopied 65 = .ok (.iload 4, 2) := by decide +kernel
theorem dX6_notCopied_67 : decode cX6_notCopied 67 = .ok (.ifCond .lt 34, 3) := by decide +kernel
theorem dX6_notCopied_70 : decode cX6_notCopied 70 = .ok (.iload 5, 2) := by decide +kernel
theorem dX6_notCopied_72 : decode cX6_notCopied 72 = .ok (.aload_n 0, 1) := by decide +kernel
theorem dX6_notCopied_73 : decode cX6_notCopied 73 = .ok (.getfield 28, 3) := by decide +kernel
theorem dX6_notCopied_76 : decode cX6_notCopied 76 = .ok (.iload_n 1, 1) := by decide +kernel
theorem dX6_notCopied_77 : decode cX6_notCopied 77 = .ok (.iaload, 1) := by decide +kernel
theorem dX6_notCopied_78 : decode cX6_notCopied 78 = .ok (.iload_n 2, 1) := by decide +kernel
theorem dX6_notCopied_79 : decode cX6_notCopied 79 = .ok (.isub, 1) := by decide +kernel
theorem dX6_notCopied_80 : decode cX6_notCopied 80 = .ok (.if_icmp .gt 21, 3) := by decide +kernel
theorem dX6_notCopied_83 : decode cX6_notCopied 83 = .ok (.iload 5, 2) := by decide +kernel
theorem dX6_notCopied_85 : decode cX6_notCopied 85 = .ok (.aload_n 0, 1) := by decide +kernel
theorem dX6_notCopied_86 : decode cX6_notCopied 86 = .ok (.getfield 28, 3) := by decide +kernel
theorem dX6_notCopied_89 : decode cX6_notCopied 89 = .ok (.iload_n 3, 1) := by decide +kernel
theorem dX6_notCopied_90 : decode cX6_notCopied 90 = .ok (.iaload, 1) := by decide +kernel
theorem dX6_notCopied_91 : decode cX6_notCopied 91 = .ok (.iload 4, 2) := by decide +kernel
theorem dX6_notCopied_93 : decode cX6_notCopied 93 = .ok (.isub, 1) := by decide +kernel
theorem dX6_notCopied_94 : decode cX6_notCopied 94 = .ok (.if_icmp .gt 7, 3) := by decide +kernel
theorem dX6_notCopied_97 : decode cX6_notCopied 97 = .ok (.iconst 1, 1) := by decide +kernel
theorem dX6_notCopied_98 : decode cX6_notCopied 98 = .ok (.goto 4, 3) := by decide +kernel
theorem dX6_notCopied_101 : decode cX6_notCopied 101 = .ok (.iconst 0, 1) := by decide +kernel
theorem dX6_notCopied_102 : decode cX6_notCopied 102 = .ok (.istore 6, 2) := by decide +kernel
theorem dX6_notCopied_104 : decode cX6_notCopied 104 = .ok (.iload 6, 2) := by decide +kernel
theorem dX6_notCopied_106 : decode cX6_notCopied 106 = .ok (.ifCond .eq 7, 3) := by decide +kernel
theorem dX6_notCopied_109 : decode cX6_notCopied 109 = .ok (.iconst 0, 1) := by decide +kernel
theorem dX6_notCopied_110 : decode cX6_notCopied 110 = .ok (.goto 5, 3) := by decide +kernel
theorem dX6_notCopied_113 : decode cX6_notCopied 113 = .ok (.ldc 35, 2) := by decide +kernel
theorem dX6_notCopied_115 : decode cX6_notCopied 115 = .ok (.ireturn, 1) := by decide +kernel
theorem dX6_copy_0 : decode cX6_copy 0 = .ok (.aload_n 0, 1) := by decide +kernel
theorem dX6_copy_1 : decode cX6_copy 1 = .ok (.iload_n 1, 1) := by decide +kernel
theorem dX6_copy_2 : decode cX6_copy 2 = .ok (.iload_n 2, 1) := by decide +kernel
theorem dX6_copy_3 : decode cX6_copy 3 = .ok (.iload_n 3, 1) := by decide +kernel
theorem dX6_copy_4 : decode cX6_copy 4 = .ok (.iload 4, 2) := by decide +kernel
theorem dX6_copy_6 : decode cX6_copy 6 = .ok (.iload 5, 2) := by decide +kernel
theorem dX6_copy_8 : decode cX6_copy 8 = .ok (.invokevirtual 222, 3) := by decide +kernel
theorem dX6_copy_11 : decode cX6_copy 11 = .ok (.istore 6, 2) := by decide +kernel
theorem dX6_copy_13 : decode cX6_copy 13 = .ok (.iload 6, 2) := by decide +kernel
theorem dX6_copy_15 : decode cX6_copy 15 = .ok (.ifCond .eq 10, 3) := by decide +kernel
theorem dX6_copy_18 : decode cX6_copy 18 = .ok (.aload_n 0, 1) := by decide +kernel
theorem dX6_copy_19 : decode cX6_copy 19 = .ok (.iload 6, 2) := by decide +kernel
theorem dX6_copy_21 : decode cX6_copy 21 = .ok (.invokevirtual 37, 3) := by decide +kernel
theorem dX6_copy_24 : decode cX6_copy 24 = .ok (.ireturn, 1) := by decide +kernel
theorem dX6_copy_25 : decode cX6_copy 25 = .ok (.iconst 0, 1) := by decide +kernel
theorem dX6_copy_26 : decode cX6_copy 26 = .ok (.istore 7, 2) := by decide +kernel
theorem dX6_copy_28 : decode cX6_copy 28 = .ok (.iload 7, 2) := by decide +kernel
theorem dX6_copy_30 : decode cX6_copy 30 = .ok (.iload 5, 2) := by decide +kernel
theorem dX6_copy_32 : decode cX6_copy 32 = .ok (.if_icmp .ge 58, 3) := by decide +kernel
theorem dX6_copy_35 : decode cX6_copy 35 = .ok (.iload_n 2, 1) := by decide +kernel
theorem dX6_copy_36 : decode cX6_copy 36 = .ok (.iload 4, 2) := by decide +kernel
theorem dX6_copy_38 : decode cX6_copy 38 = .ok (.if_icmp .ge 13, 3) := by decide +kernel
theorem dX6_copy_41 : decode cX6_copy 41 = .ok (.iload 5, 2) := by decide +kernel
theorem dX6_copy_43 : decode cX6_copy 43 = .ok (.iconst 1, 1) := by decide +kernel
theorem dX6_copy_44 : decode cX6_copy 44 = .ok (.isub, 1) := by decide +kernel
theorem dX6_copy_45 : decode cX6_copy 45 = .ok (.iload 7, 2) := by decide +kernel
theorem dX6_copy_47 : decode cX6_copy 47 = .ok (.isub, 1) := by decide +kernel
theorem dX6_copy_48 : decode cX6_copy 48 = .ok (.goto 5, 3) := by decide +kernel
theorem dX6_copy_51 : decode cX6_copy 51 = .ok (.iload 7, 2) := by decide +kernel
theorem dX6_copy_53 : decode cX6_copy 53 = .ok (.istore 8, 2) := by decide +kernel
theorem dX6_copy_55 : decode cX6_copy 55 = .ok (.aload_n 0, 1) := by decide +kernel
theorem dX6_copy_56 : decode cX6_copy 56 = .ok (.getfield 31, 3) := by decide +kernel
theorem dX6_copy_59 : decode cX6_copy 59 = .ok (.bipush 40, 2) := by decide +kernel
theorem dX6_copy_61 : decode cX6_copy 61 = .ok (.iload_n 3, 1) := by decide +kernel
theorem dX6_copy_62 : decode cX6_copy 62 = .ok (.imul, 1) := by decide +kernel
theorem dX6_copy_63 : decode cX6_copy 63 = .ok (.iload 4, 2) := by decide +kernel
theorem dX6_copy_65 : decode cX6_copy 65 = .ok (.iadd, 1) := by decide +kernel
theorem dX6_copy_66 : decode cX6_copy 66 = .ok (.iload 8, 2) := by decide +kernel
theorem dX6_copy_68 : decode cX6_copy 68 = .ok (.iadd, 1) := by decide +kernel
theorem dX6_copy_69 : decode cX6_copy 69 = .ok (.aload_n 0, 1) := by decide +kernel
theorem dX6_copy_70 : decode cX6_copy 70 = .ok (.getfield 31, 3) := by decide +kernel
theorem dX6_copy_73 : decode cX6_copy 73 = .ok (.bipush 40, 2) := by decide +kernel
theorem dX6_copy_75 : decode cX6_copy 75 = .ok (.iload_n 1, 1) := by decide +kernel
theorem dX6_copy_76 : decode cX6_copy 76 = .ok (.imul, 1) := by decide +kernel
theorem dX6_copy_77 : decode cX6_copy 77 = .ok (.iload_n 2, 1) := by decide +kernel
theorem dX6_copy_78 : decode cX6_copy 78 = .ok (.iadd, 1) := by decide +kernel
theorem dX6_copy_79 : decode cX6_copy 79 = .ok (.iload 8, 2) := by decide +kernel
theorem dX6_copy_81 : decode cX6_copy 81 = .ok (.iadd, 1) := by decide +kernel
theorem dX6_copy_82 : decode cX6_copy 82 = .ok (.laload, 1) := by decide +kernel
theorem dX6_copy_83 : decode cX6_copy 83 = .ok (.lastore, 1) := by decide +kernel
theorem dX6_copy_84 : decode cX6_copy 84 = .ok (.iinc 7 1, 3) := by decide +kernel
theorem dX6_copy_87 : decode cX6_copy 87 = .ok (.goto (-59), 3) := by decide +kernel
theorem dX6_copy_90 : decode cX6_copy 90 = .ok (.iload 5, 2) := by decide +kernel
theorem dX6_copy_92 : decode cX6_copy 92 = .ok (.ireturn, 1) := by decide +kernel
theorem dX6_lays_0 : decode cX6_lays 0 = .ok (.aload_n 0, 1) := by decide +kernel
theorem dX6_lays_1 : decode cX6_lays 1 = .ok (.iload_n 1, 1) := by decide +kernel
theorem dX6_lays_2 : decode cX6_lays 2 = .ok (.invokevirtual 215, 3) := by decide +kernel
theorem dX6_lays_5 : decode cX6_lays 5 = .ok (.istore_n 2, 1) := by decide +kernel
theorem dX6_lays_6 : decode cX6_lays 6 = .ok (.iload_n 2, 1) := by decide +kernel
theorem dX6_lays_7 : decode cX6_lays 7 = .ok (.ifCond .eq 9, 3) := by decide +kernel
theorem dX6_lays_10 : decode cX6_lays 10 = .ok (.aload_n 0, 1) := by decide +kernel
theorem dX6_lays_11 : decode cX6_lays 11 = .ok (.iload_n 2, 1) := by decide +kernel
theorem dX6_lays_12 : decode cX6_lays 12 = .ok (.invokevirtual 37, 3) := by decide +kernel
theorem dX6_lays_15 : decode cX6_lays 15 = .ok (.ireturn, 1) := by decide +kernel
theorem dX6_lays_16 : decode cX6_lays 16 = .ok (.iconst 0, 1) := by decide +kernel
theorem dX6_lays_17 : decode cX6_lays 17 = .ok (.istore_n 3, 1) := by decide +kernel
theorem dX6_lays_18 : decode cX6_lays 18 = .ok (.iconst 0, 1) := by decide +kernel
theorem dX6_lays_19 : decode cX6_lays 19 = .ok (.istore 4, 2) := by decide +kernel
theorem dX6_lays_21 : decode cX6_lays 21 = .ok (.iload 4, 2) := by decide +kernel
theorem dX6_lays_23 : decode cX6_lays 23 = .ok (.aload_n 0, 1) := by decide +kernel
theorem dX6_lays_24 : decode cX6_lays 24 = .ok (.getfield 28, 3) := by decide +kernel
theorem dX6_lays_27 : decode cX6_lays 27 = .ok (.iload_n 1, 1) := by decide +kernel
theorem dX6_lays_28 : decode cX6_lays 28 = .ok (.iaload, 1) := by decide +kernel
theorem dX6_lays_29 : decode cX6_lays 29 = .ok (.if_icmp .ge 62, 3) := by decide +kernel
theorem dX6_lays_32 : decode cX6_lays 32 = .ok (.iload 4, 2) := by decide +kernel
theorem dX6_lays_34 : decode cX6_lays 34 = .ok (.bipush 8, 2) := by decide +kernel
theorem dX6_lays_36 : decode cX6_lays 36 = .ok (.if_icmp .ge 55, 3) := by decide +kernel
theorem dX6_lays_39 : decode cX6_lays 39 = .ok (.aload_n 0, 1) := by decide +kernel
theorem dX6_lays_40 : decode cX6_lays 40 = .ok (.getfield 31, 3) := by decide +kernel
theorem dX6_lays_43 : decode cX6_lays 43 = .ok (.bipush 40, 2) := by decide +kernel
theorem dX6_lays_45 : decode cX6_lays 45 = .ok (.iload_n 1, 1) := by decide +kernel
theorem dX6_lays_46 : decode cX6_lays 46 = .ok (.imul, 1) := by decide +kernel
theorem dX6_lays_47 : decode cX6_lays 47 = .ok (.iload 4, 2) := by decide +kernel
theorem dX6_lays_49 : decode cX6_lays 49 = .ok (.iadd, 1) := by decide +kernel
theorem dX6_lays_50 : decode cX6_lays 50 = .ok (.laload, 1) := by decide +kernel
theorem dX6_lays_51 : decode cX6_lays 51 = .ok (.iconst 0, 1) := by decide +kernel
theorem dX6_lays_52 : decode cX6_lays 52 = .ok (.bipush 99, 2) := by decide +kernel
theorem dX6_lays_54 : decode cX6_lays 54 = .ok (.invokestatic 41, 3) := by decide +kernel
theorem dX6_lays_57 : decode cX6_lays 57 = .ok (.ifCond .eq 28, 3) := by decide +kernel
theorem dX6_lays_60 : decode cX6_lays 60 = .ok (.aload_n 0, 1) := by decide +kernel
theorem dX6_lays_61 : decode cX6_lays 61 = .ok (.getfield 9, 3) := by decide +kernel
theorem dX6_lays_64 : decode cX6_lays 64 = .ok (.iconst 5, 1) := by decide +kernel
theorem dX6_lays_65 : decode cX6_lays 65 = .ok (.iload 4, 2) := by decide +kernel
theorem dX6_lays_67 : decode cX6_lays 67 = .ok (.iadd, 1) := by decide +kernel
theorem dX6_lays_68 : decode cX6_lays 68 = .ok (.aload_n 0, 1) := by decide +kernel
theorem dX6_lays_69 : decode cX6_lays 69 = .ok (.getfield 31, 3) := by decide +kernel
theorem dX6_lays_72 : decode cX6_lays 72 = .ok (.bipush 40, 2) := by decide +kernel
theorem dX6_lays_74 : decode cX6_lays 74 = .ok (.iload_n 1, 1) := by decide +kernel
theorem dX6_lays_75 : decode cX6_lays 75 = .ok (.imul, 1) := by decide +kernel
theorem dX6_lays_76 : decode cX6_lays 76 = .ok (.iload 4, 2) := by decide +kernel
theorem dX6_lays_78 : decode cX6_lays 78 = .ok (.iadd, 1) := by decide +kernel
theorem dX6_lays_79 : decode cX6_lays 79 = .ok (.laload, 1) := by decide +kernel
theorem dX6_lays_80 : decode cX6_lays 80 = .ok (.l2i, 1) := by decide +kernel
theorem dX6_lays_81 : decode cX6_lays 81 = .ok (.iastore, 1) := by decide +kernel
theorem dX6_lays_82 : decode cX6_lays 82 = .ok (.iinc 3 1, 3) := by decide +kernel
theorem dX6_lays_85 : decode cX6_lays 85 = .ok (.iinc 4 1, 3) := by decide +kernel
theorem dX6_lays_88 : decode cX6_lays 88 = .ok (.goto (-67), 3) := by decide +kernel
theorem dX6_lays_91 : decode cX6_lays 91 = .ok (.iload_n 3, 1) := by decide +kernel
theorem dX6_lays_92 : decode cX6_lays 92 = .ok (.ireturn, 1) := by decide +kernel
theorem dX6_book_0 : decode cX6_book 0 = .ok (.aload_n 0, 1) := by decide +kernel
theorem dX6_book_1 : decode cX6_book 1 = .ok (.iload_n 1, 1) := by decide +kernel
theorem dX6_book_2 : decode cX6_book 2 = .ok (.invokevirtual 215, 3) := by decide +kernel
theorem dX6_book_5 : decode cX6_book 5 = .ok (.istore_n 2, 1) := by decide +kernel
theorem dX6_book_6 : decode cX6_book 6 = .ok (.iload_n 2, 1) := by decide +kernel
theorem dX6_book_7 : decode cX6_book 7 = .ok (.ifCond .eq 9, 3) := by decide +kernel
theorem dX6_book_10 : decode cX6_book 10 = .ok (.aload_n 0, 1) := by decide +kernel
theorem dX6_book_11 : decode cX6_book 11 = .ok (.iload_n 2, 1) := by decide +kernel
theorem dX6_book_12 : decode cX6_book 12 = .ok (.invokevirtual 37, 3) := by decide +kernel
theorem dX6_book_15 : decode cX6_book 15 = .ok (.ireturn, 1) := by decide +kernel
theorem dX6_book_16 : decode cX6_book 16 = .ok (.aload_n 0, 1) := by decide +kernel
theorem dX6_book_17 : decode cX6_book 17 = .ok (.invokevirtual 134, 3) := by decide +kernel
theorem dX6_book_20 : decode cX6_book 20 = .ok (.iconst 0, 1) := by decide +kernel
theorem dX6_book_21 : decode cX6_book 21 = .ok (.istore_n 3, 1) := by decide +kernel
theorem dX6_book_22 : decode cX6_book 22 = .ok (.iload_n 3, 1) := by decide +kernel
theorem dX6_book_23 : decode cX6_book 23 = .ok (.aload_n 0, 1) := by decide +kernel
theorem dX6_book_24 : decode cX6_book 24 = .ok (.getfield 28, 3) := by decide +kernel
theorem dX6_book_27 : decode cX6_book 27 = .ok (.iload_n 1, 1) := by decide +kernel
theorem dX6_book_28 : decode cX6_book 28 = .ok (.iaload, 1) := by decide +kernel
theorem dX6_book_29 : decode cX6_book 29 = .ok (.if_icmp .ge 40, 3) := by decide +kernel
theorem dX6_book_32 : decode cX6_book 32 = .ok (.aload_n 0, 1) := by decide +kernel
theorem dX6_book_33 : decode cX6_book 33 = .ok (.getfield 31, 3) := by decide +kernel
theorem dX6_book_36 : decode cX6_book 36 = .ok (.bipush 40, 2) := by decide +kernel
theorem dX6_book_38 : decode cX6_book 38 = .ok (.iload_n 1, 1) := by decide +kernel
theorem dX6_book_39 : decode cX6_book 39 = .ok (.imul, 1) := by decide +kernel
theorem dX6_book_40 : decode cX6_book 40 = .ok (.iload_n 3, 1) := by decide +kernel
theorem dX6_book_41 : decode cX6_book 41 = .ok (.iadd, 1) := by decide +kernel
theorem dX6_book_42 : decode cX6_book 42 = .ok (.aload_n 0, 1) := by decide +kernel
theorem dX6_book_43 : decode cX6_book 43 = .ok (.getfield 25, 3) := by decide +kernel
theorem dX6_book_46 : decode cX6_book 46 = .ok (.iload_n 1, 1) := by decide +kernel
theorem dX6_book_47 : decode cX6_book 47 = .ok (.iaload, 1) := by decide +kernel
theorem dX6_book_48 : decode cX6_book 48 = .ok (.aload_n 0, 1) := by decide +kernel
theorem dX6_book_49 : decode cX6_book 49 = .ok (.getfield 9, 3) := by decide +kernel
theorem dX6_book_52 : decode cX6_book 52 = .ok (.iconst 1, 1) := by decide +kernel
theorem dX6_book_53 : decode cX6_book 53 = .ok (.iaload, 1) := by decide +kernel
theorem dX6_book_54 : decode cX6_book 54 = .ok (.i2l, 1) := by decide +kernel
theorem dX6_book_55 : decode cX6_book 55 = .ok (.invokestatic 218, 3) := by decide +kernel
theorem dX6_book_58 : decode cX6_book 58 = .ok (.lastore, 1) := by decide +kernel
theorem dX6_book_59 : decode cX6_book 59 = .ok (.aload_n 0, 1) := by decide +kernel
theorem dX6_book_60 : decode cX6_book 60 = .ok (.invokevirtual 122, 3) := by decide +kernel
theorem dX6_book_63 : decode cX6_book 63 = .ok (.iinc 3 1, 3) := by decide +kernel
theorem dX6_book_66 : decode cX6_book 66 = .ok (.goto (-44), 3) := by decide +kernel
theorem dX6_book_69 : decode cX6_book 69 = .ok (.aload_n 0, 1) := by decide +kernel
theorem dX6_book_70 : decode cX6_book 70 = .ok (.invokevirtual 137, 3) := by decide +kernel
theorem dX6_book_73 : decode cX6_book 73 = .ok (.aload_n 0, 1) := by decide +kernel
theorem dX6_book_74 : decode cX6_book 74 = .ok (.getfield 28, 3) := by decide +kernel
theorem dX6_book_77 : decode cX6_book 77 = .ok (.iload_n 1, 1) := by decide +kernel
theorem dX6_book_78 : decode cX6_book 78 = .ok (.iaload, 1) := by decide +kernel
theorem dX6_book_79 : decode cX6_book 79 = .ok (.ireturn, 1) := by decide +kernel
theorem dX6_isBook_0 : decode cX6_isBook 0 = .ok (.iconst 1, 1) := by decide +kernel
theorem dX6_isBook_1 : decode cX6_isBook 1 = .ok (.istore_n 2, 1) := by decide +kernel
theorem dX6_isBook_2 : decode cX6_isBook 2 = .ok (.iconst 0, 1) := by decide +kernel
theorem dX6_isBook_3 : decode cX6_isBook 3 = .ok (.istore_n 3, 1) := by decide +kernel
theorem dX6_isBook_4 : decode cX6_isBook 4 = .ok (.iload_n 3, 1) := by decide +kernel
theorem dX6_isBook_5 : decode cX6_isBook 5 = .ok (.aload_n 0, 1) := by decide +kernel
theorem dX6_isBook_6 : decode cX6_isBook 6 = .ok (.getfield 28, 3) := by decide +kernel
theorem dX6_isBook_9 : decode cX6_isBook 9 = .ok (.iload_n 1, 1) := by decide +kernel
theorem dX6_isBook_10 : decode cX6_isBook 10 = .ok (.iaload, 1) := by decide +kernel
theorem dX6_isBook_11 : decode cX6_isBook 11 = .ok (.if_icmp .ge 45, 3) := by decide +kernel
theorem dX6_isBook_14 : decode cX6_isBook 14 = .ok (.iload_n 2, 1) := by decide +kernel
theorem dX6_isBook_15 : decode cX6_isBook 15 = .ok (.ifCond .eq 41, 3) := by decide +kernel
theorem dX6_isBook_18 : decode cX6_isBook 18 = .ok (.aload_n 0, 1) := by decide +kernel
theorem dX6_isBook_19 : decode cX6_isBook 19 = .ok (.getfield 31, 3) := by decide +kernel
theorem dX6_isBook_22 : decode cX6_isBook 22 = .ok (.bipush 40, 2) := by decide +kernel
theorem dX6_isBook_24 : decode cX6_isBook 24 = .ok (.iload_n 1, 1) := by decide +kernel
theorem dX6_isBook_25 : decode cX6_isBook 25 = .ok (.imul, 1) := by decide +kernel
theorem dX6_isBook_26 : decode cX6_isBook 26 = .ok (.iload_n 3, 1) := by decide +kernel
theorem dX6_isBook_27 : decode cX6_isBook 27 = .ok (.iadd, 1) := by decide +kernel
theorem dX6_isBook_28 : decode cX6_isBook 28 = .ok (.laload, 1) := by decide +kernel
theorem dX6_isBook_29 : decode cX6_isBook 29 = .ok (.aload_n 0, 1) := by decide +kernel
theorem dX6_isBook_30 : decode cX6_isBook 30 = .ok (.getfield 9, 3) := by decide +kernel
theorem dX6_isBook_33 : decode cX6_isBook 33 = .ok (.iconst 1, 1) := by decide +kernel
theorem dX6_isBook_34 : decode cX6_isBook 34 = .ok (.iaload, 1) := by decide +kernel
theorem dX6_isBook_35 : decode cX6_isBook 35 = .ok (.i2l, 1) := by decide +kernel
theorem dX6_isBook_36 : decode cX6_isBook 36 = .ok (.lcmp, 1) := by decide +kernel
theorem dX6_isBook_37 : decode cX6_isBook 37 = .ok (.ifCond .ne 7, 3) := by decide +kernel
theorem dX6_isBook_40 : decode cX6_isBook 40 = .ok (.iconst 1, 1) := by decide +kernel
theorem dX6_isBook_41 : decode cX6_isBook 41 = .ok (.goto 4, 3) := by decide +kernel
theorem dX6_isBook_44 : decode cX6_isBook 44 = .ok (.iconst 0, 1) := by decide +kernel
theorem dX6_isBook_45 : decode cX6_isBook 45 = .ok (.istore_n 2, 1) := by decide +kernel
theorem dX6_isBook_46 : decode cX6_isBook 46 = .ok (.aload_n 0, 1) := by decide +kernel
theorem dX6_isBook_47 : decode cX6_isBook 47 = .ok (.invokevirtual 122, 3) := by decide +kernel
theorem dX6_isBook_50 : decode cX6_isBook 50 = .ok (.iinc 3 1, 3) := by decide +kernel
theorem dX6_isBook_53 : decode cX6_isBook 53 = .ok (.goto (-49), 3) := by decide +kernel
theorem dX6_isBook_56 : decode cX6_isBook 56 = .ok (.aload_n 0, 1) := by decide +kernel
theorem dX6_isBook_57 : decode cX6_isBook 57 = .ok (.invokevirtual 137, 3) := by decide +kernel
theorem dX6_isBook_60 : decode cX6_isBook 60 = .ok (.iload_n 2, 1) := by decide +kernel
theorem dX6_isBook_61 : decode cX6_isBook 61 = .ok (.ireturn, 1) := by decide +kernel
theorem dX6_read_0 : decode cX6_read 0 = .ok (.aload_n 0, 1) := by decide +kernel
theorem dX6_read_1 : decode cX6_read 1 = .ok (.iload_n 1, 1) := by decide +kernel
theorem dX6_read_2 : decode cX6_read 2 = .ok (.invokevirtual 215, 3) := by decide +kernel
theorem dX6_read_5 : decode cX6_read 5 = .ok (.istore_n 3, 1) := by decide +kernel
theorem dX6_read_6 : decode cX6_read 6 = .ok (.iload_n 3, 1) := by decide +kernel
theorem dX6_read_7 : decode cX6_read 7 = .ok (.ifCond .ne 16, 3) := by decide +kernel
theorem dX6_read_10 : decode cX6_read 10 = .ok (.aload_n 0, 1) := by decide +kernel
theorem dX6_read_11 : decode cX6_read 11 = .ok (.iload_n 2, 1) := by decide +kernel
theorem dX6_read_12 : decode cX6_read 12 = .ok (.invokevirtual 95, 3) := by decide +kernel
theorem dX6_read_15 : decode cX6_read 15 = .ok (.ifCond .ne 8, 3) := by decide +kernel
theorem dX6_read_18 : decode cX6_read 18 = .ok (.ldc 35, 2) := by decide +kernel
theorem dX6_read_20 : decode cX6_read 20 = .ok (.goto 4, 3) := by decide +kernel
theorem dX6_read_23 : decode cX6_read 23 = .ok (.iload_n 3, 1) := by decide +kernel
theorem dX6_read_24 : decode cX6_read 24 = .ok (.istore_n 3, 1) := by decide +kernel
theorem dX6_read_25 : decode cX6_read 25 = .ok (.iload_n 3, 1) := by decide +kernel
theorem dX6_read_26 : decode cX6_read 26 = .ok (.ifCond .eq 9, 3) := by decide +kernel
theorem dX6_read_29 : decode cX6_read 29 = .ok (.aload_n 0, 1) := by decide +kernel
theorem dX6_read_30 : decode cX6_read 30 = .ok (.iload_n 3, 1) := by decide +kernel
theorem dX6_read_31 : decode cX6_read 31 = .ok (.invokevirtual 37, 3) := by decide +kernel
theorem dX6_read_34 : decode cX6_read 34 = .ok (.ireturn, 1) := by decide +kernel
theorem dX6_read_35 : decode cX6_read 35 = .ok (.aload_n 0, 1) := by decide +kernel
theorem dX6_read_36 : decode cX6_read 36 = .ok (.invokevirtual 134, 3) := by decide +kernel
theorem dX6_read_39 : decode cX6_read 39 = .ok (.iconst 0, 1) := by decide +kernel
theorem dX6_read_40 : decode cX6_read 40 = .ok (.istore 4, 2) := by decide +kernel
theorem dX6_read_42 : decode cX6_read 42 = .ok (.iconst 0, 1) := by decide +kernel
theorem dX6_read_43 : decode cX6_read 43 = .ok (.istore 5, 2) := by decide +kernel
theorem dX6_read_45 : decode cX6_read 45 = .ok (.iload 5, 2) := by decide +kernel
theorem dX6_read_47 : decode cX6_read 47 = .ok (.sipush 240, 3) := by decide +kernel
theorem dX6_read_50 : decode cX6_read 50 = .ok (.if_icmp .ge 51, 3) := by decide +kernel
theorem dX6_read_53 : decode cX6_read 53 = .ok (.aload_n 0, 1) := by decide +kernel
theorem dX6_read_54 : decode cX6_read 54 = .ok (.iload_n 2, 1) := by decide +kernel
theorem dX6_read_55 : decode cX6_read 55 = .ok (.iconst 0, 1) := by decide +kernel
theorem dX6_read_56 : decode cX6_read 56 = .ok (.iload 5, 2) := by decide +kernel
theorem dX6_read_58 : decode cX6_read 58 = .ok (.bipush 40, 2) := by decide +kernel
theorem dX6_read_60 : decode cX6_read 60 = .ok (.idiv, 1) := by decide +kernel
theorem dX6_read_61 : decode cX6_read 61 = .ok (.invokevirtual 86, 3) := by decide +kernel
theorem dX6_read_64 : decode cX6_read 64 = .ok (.aload_n 0, 1) := by decide +kernel
theorem dX6_read_65 : decode cX6_read 65 = .ok (.iload_n 2, 1) := by decide +kernel
theorem dX6_read_66 : decode cX6_read 66 = .ok (.iconst 1, 1) := by decide +kernel
theorem dX6_read_67 : decode cX6_read 67 = .ok (.iconst 1, 1) := by decide +kernel
theorem dX6_read_68 : decode cX6_read 68 = .ok (.iload 5, 2) := by decide +kernel
theorem dX6_read_70 : decode cX6_read 70 = .ok (.bipush 40, 2) := by decide +kernel
theorem dX6_read_72 : decode cX6_read 72 = .ok (.irem, 1) := by decide +kernel
theorem dX6_read_73 : decode cX6_read 73 = .ok (.iadd, 1) := by decide +kernel
theorem dX6_read_74 : decode cX6_read 74 = .ok (.invokevirtual 86, 3) := by decide +kernel
theorem dX6_read_77 : decode cX6_read 77 = .ok (.iload 4, 2) := by decide +kernel
theorem dX6_read_79 : decode cX6_read 79 = .ok (.aload_n 0, 1) := by decide +kernel
theorem dX6_read_80 : decode cX6_read 80 = .ok (.iload_n 1, 1) := by decide +kernel
theorem dX6_read_81 : decode cX6_read 81 = .ok (.invokevirtual 226, 3) := by decide +kernel
theorem dX6_read_84 : decode cX6_read 84 = .ok (.ifCond .eq 7, 3) := by decide +kernel
theorem dX6_read_87 : decode cX6_read 87 = .ok (.iconst 1, 1) := by decide +kernel
theorem dX6_read_88 : decode cX6_read 88 = .ok (.goto 4, 3) := by decide +kernel
theorem dX6_read_91 : decode cX6_read 91 = .ok (.iconst 0, 1) := by decide +kernel
theorem dX6_read_92 : decode cX6_read 92 = .ok (.iadd, 1) := by decide +kernel
theorem dX6_read_93 : decode cX6_read 93 = .ok (.istore 4, 2) := by decide +kernel
theorem dX6_read_95 : decode cX6_read 95 = .ok (.iinc 5 1, 3) := by decide +kernel
theorem dX6_read_98 : decode cX6_read 98 = .ok (.goto (-53), 3) := by decide +kernel
theorem dX6_read_101 : decode cX6_read 101 = .ok (.iload 4, 2) := by decide +kernel
theorem dX6_read_103 : decode cX6_read 103 = .ok (.ireturn, 1) := by decide +kernel
theorem dX6_image_0 : decode cX6_image 0 = .ok (.aload_n 0, 1) := by decide +kernel
theorem dX6_image_1 : decode cX6_image 1 = .ok (.getfield 9, 3) := by decide +kernel
theorem dX6_image_4 : decode cX6_image 4 = .ok (.aload_n 0, 1) := by decide +kernel
theorem dX6_image_5 : decode cX6_image 5 = .ok (.getfield 13, 3) := by decide +kernel
theorem dX6_image_8 : decode cX6_image 8 = .ok (.invokestatic 130, 3) := by decide +kernel
theorem dX6_image_11 : decode cX6_image 11 = .ok (.aload_n 0, 1) := by decide +kernel
theorem dX6_image_12 : decode cX6_image 12 = .ok (.iconst 1, 1) := by decide +kernel
theorem dX6_image_13 : decode cX6_image 13 = .ok (.putfield 229, 3) := by decide +kernel
theorem dX6_image_16 : decode cX6_image 16 = .ok (.iconst 1, 1) := by decide +kernel
theorem dX6_image_17 : decode cX6_image 17 = .ok (.ireturn, 1) := by decide +kernel
theorem dX6_undo_0 : decode cX6_undo 0 = .ok (.aload_n 0, 1) := by decide +kernel
theorem dX6_undo_1 : decode cX6_undo 1 = .ok (.getfield 229, 3) := by decide +kernel
theorem dX6_undo_4 : decode cX6_undo 4 = .ok (.ifCond .ne 10, 3) := by decide +kernel
theorem dX6_undo_7 : decode cX6_undo 7 = .ok (.aload_n 0, 1) := by decide +kernel
theorem dX6_undo_8 : decode cX6_undo 8 = .ok (.ldc 36, 2) := by decide +kernel
theorem dX6_undo_10 : decode cX6_undo 10 = .ok (.invokevirtual 37, 3) := by decide +kernel
theorem dX6_undo_13 : decode cX6_undo 13 = .ok (.ireturn, 1) := by decide +kernel
theorem dX6_undo_14 : decode cX6_undo 14 = .ok (.aload_n 0, 1) := by decide +kernel
theorem dX6_undo_15 : decode cX6_undo 15 = .ok (.getfield 13, 3) := by decide +kernel
theorem dX6_undo_18 : decode cX6_undo 18 = .ok (.aload_n 0, 1) := by decide +kernel
theorem dX6_undo_19 : decode cX6_undo 19 = .ok (.getfield 9, 3) := by decide +kernel
theorem dX6_undo_22 : decode cX6_undo 22 = .ok (.invokestatic 130, 3) := by decide +kernel
theorem dX6_undo_25 : decode cX6_undo 25 = .ok (.aload_n 0, 1) := by decide +kernel
theorem dX6_undo_26 : decode cX6_undo 26 = .ok (.getfield 9, 3) := by decide +kernel
theorem dX6_undo_29 : decode cX6_undo 29 = .ok (.iconst 4, 1) := by decide +kernel
theorem dX6_undo_30 : decode cX6_undo 30 = .ok (.iaload, 1) := by decide +kernel
theorem dX6_undo_31 : decode cX6_undo 31 = .ok (.ireturn, 1) := by decide +kernel
theorem dX6_tear_0 : decode cX6_tear 0 = .ok (.aload_n 0, 1) := by decide +kernel
theorem dX6_tear_1 : decode cX6_tear 1 = .ok (.getfield 229, 3) := by decide +kernel
theorem dX6_tear_4 : decode cX6_tear 4 = .ok (.ifCond .eq 7, 3) := by decide +kernel
theorem dX6_tear_7 : decode cX6_tear 7 = .ok (.iconst 1, 1) := by decide +kernel
theorem dX6_tear_8 : decode cX6_tear 8 = .ok (.goto 4, 3) := by decide +kernel
theorem dX6_tear_11 : decode cX6_tear 11 = .ok (.iconst 0, 1) := by decide +kernel
theorem dX6_tear_12 : decode cX6_tear 12 = .ok (.istore_n 1, 1) := by decide +kernel
theorem dX6_tear_13 : decode cX6_tear 13 = .ok (.aload_n 0, 1) := by decide +kernel
theorem dX6_tear_14 : decode cX6_tear 14 = .ok (.iconst 0, 1) := by decide +kernel
theorem dX6_tear_15 : decode cX6_tear 15 = .ok (.putfield 229, 3) := by decide +kernel
theorem dX6_tear_18 : decode cX6_tear 18 = .ok (.iload_n 1, 1) := by decide +kernel
theorem dX6_tear_19 : decode cX6_tear 19 = .ok (.ireturn, 1) := by decide +kernel
theorem dX6_count_0 : decode cX6_count 0 = .ok (.iload_n 1, 1) := by decide +kernel
theorem dX6_count_1 : decode cX6_count 1 = .ok (.tableswitch 56 0 3 #[31, 38, 43, 51], 31) := by decide +kernel
theorem dX6_count_32 : decode cX6_count 32 = .ok (.aload_n 0, 1) := by decide +kernel
theorem dX6_count_33 : decode cX6_count 33 = .ok (.getfield 9, 3) := by decide +kernel
theorem dX6_count_36 : decode cX6_count 36 = .ok (.iconst 4, 1) := by decide +kernel
theorem dX6_count_37 : decode cX6_count 37 = .ok (.iaload, 1) := by decide +kernel
theorem dX6_count_38 : decode cX6_count 38 = .ok (.ireturn, 1) := by decide +kernel
theorem dX6_count_39 : decode cX6_count 39 = .ok (.aload_n 0, 1) := by decide +kernel
theorem dX6_count_40 : decode cX6_count 40 = .ok (.getfield 153, 3) := by decide +kernel
theorem dX6_count_43 : decode cX6_count 43 = .ok (.ireturn, 1) := by decide +kernel
theorem dX6_count_44 : decode cX6_count 44 = .ok (.aload_n 0, 1) := by decide +kernel
theorem dX6_count_45 : decode cX6_count 45 = .ok (.invokevirtual 77, 3) := by decide +kernel
theorem dX6_count_48 : decode cX6_count 48 = .ok (.invokestatic 232, 3) := by decide +kernel
theorem dX6_count_51 : decode cX6_count 51 = .ok (.ireturn, 1) := by decide +kernel
theorem dX6_count_52 : decode cX6_count 52 = .ok (.aload_n 0, 1) := by decide +kernel
theorem dX6_count_53 : decode cX6_count 53 = .ok (.invokevirtual 143, 3) := by decide +kernel
theorem dX6_count_56 : decode cX6_count 56 = .ok (.ireturn, 1) := by decide +kernel
theorem dX6_count_57 : decode cX6_count 57 = .ok (.aload_n 0, 1) := by decide +kernel
theorem dX6_count_58 : decode cX6_count 58 = .ok (.ldc 35, 2) := by decide +kernel
theorem dX6_count_60 : decode cX6_count 60 = .ok (.invokevirtual 37, 3) := by decide +kernel
theorem dX6_count_63 : decode cX6_count 63 = .ok (.ireturn, 1) := by decide +kernel
theorem dX6_status_0 : decode cX6_status 0 = .ok (.iload_n 1, 1) := by decide +kernel
theorem dX6_status_1 : decode cX6_status 1 = .ok (.i2l, 1) := by decide +kernel
theorem dX6_status_2 : decode cX6_status 2 = .ok (.iconst (-1), 1) := by decide +kernel
theorem dX6_status_3 : decode cX6_status 3 = .ok (.bipush 6, 2) := by decide +kernel
theorem dX6_status_5 : decode cX6_status 5 = .ok (.invokestatic 41, 3) := by decide +kernel
theorem dX6_status_8 : decode cX6_status 8 = .ok (.ifCond .ne 10, 3) := by decide +kernel
theorem dX6_status_11 : decode cX6_status 11 = .ok (.aload_n 0, 1) := by decide +kernel
theorem dX6_status_12 : decode cX6_status 12 = .ok (.ldc 35, 2) := by decide +kernel
theorem dX6_status_14 : decode cX6_status 14 = .ok (.invokevirtual 37, 3) := by decide +kernel
theorem dX6_status_17 : decode cX6_status 17 = .ok (.ireturn, 1) := by decide +kernel
theorem dX6_status_18 : decode cX6_status 18 = .ok (.iconst 0, 1) := by decide +kernel
theorem dX6_status_19 : decode cX6_status 19 = .ok (.istore_n 2, 1) := by decide +kernel
theorem dX6_status_20 : decode cX6_status 20 = .ok (.iconst 0, 1) := by decide +kernel
theorem dX6_status_21 : decode cX6_status 21 = .ok (.istore_n 3, 1) := by decide +kernel
theorem dX6_status_22 : decode cX6_status 22 = .ok (.iload_n 3, 1) := by decide +kernel
theorem dX6_status_23 : decode cX6_status 23 = .ok (.bipush 7, 2) := by decide +kernel
theorem dX6_status_25 : decode cX6_status 25 = .ok (.if_icmp .ge 31, 3) := by decide +kernel
theorem dX6_status_28 : decode cX6_status 28 = .ok (.iload_n 2, 1) := by decide +kernel
theorem dX6_status_29 : decode cX6_status 29 = .ok (.iload_n 1, 1) := by decide +kernel
theorem dX6_status_30 : decode cX6_status 30 = .ok (.ifCond .lt 8, 3) := by decide +kernel
theorem dX6_status_33 : decode cX6_status 33 = .ok (.iload_n 1, 1) := by decide +kernel
theorem dX6_status_34 : decode cX6_status 34 = .ok (.iload_n 3, 1) := by decide +kernel
theorem dX6_status_35 : decode cX6_status 35 = .ok (.if_icmp .ne 12, 3) := by decide +kernel
theorem dX6_status_38 : decode cX6_status 38 = .ok (.aload_n 0, 1) := by decide +kernel
theorem dX6_status_39 : decode cX6_status 39 = .ok (.getfield 19, 3) := by decide +kernel
theorem dX6_status_42 : decode cX6_status 42 = .ok (.iload_n 3, 1) := by decide +kernel
theorem dX6_status_43 : decode cX6_status 43 = .ok (.iaload, 1) := by decide +kernel
theorem dX6_status_44 : decode cX6_status 44 = .ok (.goto 4, 3) := by decide +kernel
theorem dX6_status_47 : decode cX6_status 47 = .ok (.iconst 0, 1) := by decide +kernel
theorem dX6_status_48 : decode cX6_status 48 = .ok (.iadd, 1) := by decide +kernel
theorem dX6_status_49 : decode cX6_status 49 = .ok (.istore_n 2, 1) := by decide +kernel
theorem dX6_status_50 : decode cX6_status 50 = .ok (.iinc 3 1, 3) := by decide +kernel
theorem dX6_status_53 : decode cX6_status 53 = .ok (.goto (-31), 3) := by decide +kernel
theorem dX6_status_56 : decode cX6_status 56 = .ok (.iload_n 2, 1) := by decide +kernel
theorem dX6_status_57 : decode cX6_status 57 = .ok (.ireturn, 1) := by decide +kernel
end
section
/-! base: whole numbers as Int, the uniform words, the judgement JX and its rows -/
def iI (z : Int) : Int32 := Int32.ofInt z
def lI (z : Int) : Int64 := Int64.ofInt z
def inR (z : Int) : Prop := -2147483648 ≤ z ∧ z ≤ 2147483647
def inL (z : Int) : Prop := -9223372036854775808 ≤ z ∧ z ≤ 9223372036854775807
abbrev vI (z : Int) : Value := .int (iI z)
abbrev vL (z : Int) : Value := .long (lI z)
theorem iI_toInt {z : Int} (h : inR z) : (iI z).toInt = z := Int32.toInt_ofInt_of_le (by have := h.1; omega) (by have := h.2; omega)
theorem lI_toInt {z : Int} (h : inL z) : (lI z).toInt = z := Int64.toInt_ofInt_of_le (by have := h.1; omega) (by have := h.2; omega)
theorem iI_of (x : Int32) : x = iI x.toInt := (Int32.ofInt_toInt x).symm
theorem lI_of (x : Int64) : x = lI x.toInt := (Int64.ofInt_toInt x).symm
theorem iI_inR (x : Int32) : inR x.toInt := ⟨by have := Int32.le_toInt x; omega, by have := Int32.toInt_lt x; omega⟩
theorem lI_inL (x : Int64) : inL x.toInt := ⟨by have := Int64.le_toInt x; omega, by have := Int64.toInt_lt x; omega⟩
theorem iI_lt {x y : Int} (hx : inR x) (hy : inR y) : iI x < iI y ↔ x < y := by rw [Int32.lt_iff_toInt_lt, iI_toInt hx, iI_toInt hy]
theorem iI_le {x y : Int} (hx : inR x) (hy : inR y) : iI x ≤ iI y ↔ x ≤ y := by rw [Int32.le_iff_toInt_le, iI_toInt hx, iI_toInt hy]
theorem iI_eq {x y : Int} (hx : inR x) (hy : inR y) : iI x = iI y ↔ x = y := ⟨fun h => by have := congrArg Int32.toInt h; rwa [iI_toInt hx, iI_toInt hy] at this, fun h => h ▸ rfl⟩
theorem lI_lt {x y : Int} (hx : inL x) (hy : inL y) : lI x < lI y ↔ x < y := by rw [Int64.lt_iff_toInt_lt, lI_toInt hx, lI_toInt hy]
theorem lI_le {x y : Int} (hx : inL x) (hy : inL y) : lI x ≤ lI y ↔ x ≤ y := by rw [Int64.le_iff_toInt_le, lI_toInt hx, lI_toInt hy]
theorem lI_eq {x y : Int} (hx : inL x) (hy : inL y) : lI x = lI y ↔ x = y := ⟨fun h => by have := congrArg Int64.toInt h; rwa [lI_toInt hx, lI_toInt hy] at this, fun h => h ▸ rfl⟩
theorem iI_add (x y : Int) : iI x + iI y = iI (x + y) := (Int32.ofInt_add x y).symm
theorem iI_sub (x y : Int) : iI x - iI y = iI (x - y) := (Int32.ofInt_sub x y).symm
theorem iI_mul (x y : Int) : iI x * iI y = iI (x * y) := (Int32.ofInt_mul x y).symm
theorem iI_neg (x : Int) : - iI x = iI (-x) := (Int32.ofInt_neg x).symm
theorem iI_div {x y : Int} (hx : inR x) (hy : inR y) : iI x / iI y = iI (x.tdiv y) := (Int32.ofInt_tdiv (by have := hx.1; show -2147483648 ≤ x; omega) (by have := hx.2; show x ≤ 2147483647; omega) (by have := hy.1; show -2147483648 ≤ y; omega) (by have := hy.2; show y ≤ 2147483647; omega)).symm
theorem iI_rem {x y : Int} (hx : inR x) (hy : inR y) : iI x - iI x / iI y * iI y = iI (x.tmod y) := by
  rw [iI_div hx hy, iI_mul, iI_sub]
  congr 1
  have := Int.mul_tdiv_add_tmod x y
  rw [Int.mul_comm] at this
  omega
theorem iI_0 : iI 0 = 0 := rfl
theorem iI_l {x : Int} (hx : inR x) : (iI x).toInt64 = lI x := Int32.toInt64_ofInt (by have := hx.1; show -2147483648 ≤ x; omega) (by have := hx.2; show x ≤ 2147483647; omega)
theorem lI_i (x : Int) : (lI x).toInt32 = iI x := Int64.toInt32_ofInt
theorem iI_b (x : Int) : (iI x).toInt8.toInt32 = iI (x.bmod 256) := by
  apply Int32.toInt_inj.1
  have h1 : -128 ≤ x.bmod 256 := by have := @Int.le_bmod x 256 (by decide); omega
  have h2 : x.bmod 256 < 128 := by have := @Int.bmod_lt x 256 (by decide); omega
  rw [Int8.toInt_toInt32, iI_toInt ⟨by omega, by omega⟩]
  show (Int32.ofInt x).toInt8.toInt = _
  rw [Int32.toInt8_ofInt, Int8.toInt_ofInt]
theorem iI_s (x : Int) : (iI x).toInt16.toInt32 = iI (x.bmod 65536) := by
  apply Int32.toInt_inj.1
  have h1 : -32768 ≤ x.bmod 65536 := by have := @Int.le_bmod x 65536 (by decide); omega
  have h2 : x.bmod 65536 < 32768 := by have := @Int.bmod_lt x 65536 (by decide); omega
  rw [Int16.toInt_toInt32, iI_toInt ⟨by omega, by omega⟩]
  show (Int32.ofInt x).toInt16.toInt = _
  rw [Int32.toInt16_ofInt, Int16.toInt_ofInt]
theorem iI_cl {z : Int} (h0 : 0 ≤ z) (h1 : z ≤ 2147483647) : (iI z).toNatClampNeg = z.toNat := by
  show (iI z).toInt.toNat = _
  rw [iI_toInt ⟨by omega, h1⟩]
theorem iI_in {z : Int} {n : Nat} (h0 : 0 ≤ z) (h1 : z < n) (hn : n ≤ 2147483647) : vp_in (iI z) n :=
  vp_in_iff.mpr (by rw [iI_toInt ⟨by omega, by omega⟩]; exact ⟨h0, h1⟩)
/-- a row of numbers, one place changed -/
def updI (f : Int → Int) (k v : Int) : Int → Int := fun j => if j = k then v else f j
/-- the rows of a system's numbers, one row changed -/
def setc (x : Nat → Int → Int) (c : Nat) (f : Int → Int) : Nat → Int → Int := fun d => if d = c then f else x d
theorem updI_at (f : Int → Int) (k v : Int) : updI f k v k = v := by simp [updI]
theorem updI_ne (f : Int → Int) {k j : Int} (v : Int) (h : j ≠ k) : updI f k v j = f j := by simp [updI, h]
theorem setc_at (x : Nat → Int → Int) (c : Nat) (f : Int → Int) : setc x c f c = f := by simp [setc]
theorem setc_ne (x : Nat → Int → Int) {c d : Nat} (f : Int → Int) (h : d ≠ c) : setc x c f d = x d := by simp [setc, h]
theorem setc_setc (x : Nat → Int → Int) (c : Nat) (f g : Int → Int) : setc (setc x c f) c g = setc x c g := by
  funext d; by_cases h : d = c <;> simp [setc, h]
theorem setc_self (x : Nat → Int → Int) (c : Nat) : setc x c (x c) = x := by
  funext d; by_cases h : d = c <;> simp [setc, h]
theorem setc_comm (x : Nat → Int → Int) {c d : Nat} (f g : Int → Int) (h : c ≠ d) : setc (setc x c f) d g = setc (setc x d g) c f := by
  funext q; simp only [setc]; split <;> split <;> simp_all
abbrev MS : Type := Nat → Int → Int
abbrev GT : Type := va_G × (Nat → ClassId) × (Nat → Nat)
def tysG (G : GT) : List (ClassId × FieldType) := [(G.2.1 0, .int), (G.2.1 1, .long), (G.2.1 2, .object RX0), (G.2.1 3, .object RX1)]
def TB : List Cond := lw_tbl.filter goodWord
theorem tb_of {w : Cond} (h : w ∈ lw_tbl) (hg : goodWord w = true) : w ∈ TB := List.mem_filter.mpr ⟨h, hg⟩
theorem tb_good {ws : List Cond} (h : ∀ w ∈ ws, w ∈ TB) : GoodIn TB ws := fun w hw => ⟨h w hw, good_of_word (List.mem_filter.mp (h w hw)).2⟩
/-- a class of the worlds, with its words -/
def FC (ci : Nat) (C : String) (T : u_T) (N : Nat) (ty : Nat → FieldType) : Prop :=
  vwCl[ci]? = some (C, T, N) ∧ (∀ w ∈ u_ws C T N, w ∈ TB) ∧ (∀ k, k < N → (T k).1 = C) ∧ (∀ k, k < N → parseFieldDescriptor (T k).2.2.1 = some (ty k)) ∧ (∀ a, a < N → ∀ b, b < N → a ≠ b → (T a).2.1 ≠ (T b).2.1)
/-- a method's own words -/
def MB (y : MethodName) (bytes : ByteArray) (maxL : Nat) (ret : Option FieldType) (n : Nat) : Prop :=
  Cond.initialized y.cls ∈ TB ∧ Cond.code y bytes maxL ret ∈ TB ∧ (y.cls ≠ "java/lang/invoke/MethodHandle" ∧ y.cls ≠ "java/lang/invoke/VarHandle" ∧ (parseMethodDescriptor y.desc).map (fun d => d.parameters.length) = some n)
def MV (y : MethodName) : Prop := Cond.instanceMethod y ∈ TB ∧ Cond.selects y.cls y y ∈ TB
def rmL (d : Nat) : Room := { frames := d, cells := 0, slots := 0, locals := 40 * d }
/-- the rows that stand outside the systems' cells -/
def ka_row : List Int := [-1, 0, 0, 0, 1, 3]
def nm_row : List Int := [106, 101, 116, 0, 0, 0, 0, 109, 97, 121, 111, 114, 0, 0, 119, 105, 102, 101, 0, 0, 0, 98, 97, 115, 105, 110, 0, 0, 98, 105, 115, 104, 111, 112, 0, 98, 111, 121, 0, 0, 0, 0, 104, 105, 103, 104, 0, 0, 0, 108, 111, 118, 101, 100, 0, 0, 111, 102, 102, 0, 0, 0, 0, 114, 97, 105, 110, 0, 0, 0, 99, 111, 108, 100, 0, 0, 0, 109, 105, 108, 100, 0, 0, 0, 116, 97, 110, 107, 0, 0, 0]
/-- the words of the text, in the order of the reference's names; their places in the reader's class file -/
def sw_pool : List Nat := [72, 77, 79, 81, 83, 85, 99, 105, 109, 46, 55, 60, 62]
def sw_text : List String := ["jet", "mayor", "wife", "basin", "bishop", "boy", "high", "loved", "off", "rain", "cold", "mild", "tank"]
def sw_byt : List (List Int32) := [[106, 101, 116], [109, 97, 121, 111, 114], [119, 105, 102, 101], [98, 97, 115, 105, 110], [98, 105, 115, 104, 111, 112], [98, 111, 121], [104, 105, 103, 104], [108, 111, 118, 101, 100], [111, 102, 102], [114, 97, 105, 110], [99, 111, 108, 100], [109, 105, 108, 100], [116, 97, 110, 107]]
def sw_len : List Nat := [3, 5, 4, 5, 6, 3, 4, 5, 3, 4, 4, 4, 4]
def SW (G : GT) (A : Nat → Prop) (U : State) (H : Heap) : Prop :=
  va_Z "NamedFountains" "KIND_ABOVE" "[I" (.ref (G.2.2 0)) A U H ∧ va_T .int (G.2.2 0) 6 (fun j => vI (ka_row.getD j 0)) A U H ∧
  va_Z "NamedFountainsModel" "NAMES" "[I" (.ref (G.2.2 1)) A U H ∧ va_T .int (G.2.2 1) 91 (fun j => vI (nm_row.getD j 0)) A U H ∧
  vk_S 13 sw_len sw_byt (fun i => G.2.2 (2 + i)) (fun i => G.2.2 (20 + i)) A U H ∧
  va_Z "java/lang/String" "COMPACT_STRINGS" "Z" (.int 1) A U H ∧
  ∀ i : Nat, i < 13 → vk_R RX3 (sw_pool.getD i 0) (sw_text.getD i "") (G.2.2 (2 + i)) U
theorem SW.kept {G : GT} {A : Nat → Prop} {U : State} {H H1 : Heap} (h : SW G A U H) (hq : ∀ a : Nat, a < H.size → ¬ A a → H1[a]? = H[a]?) : SW G A U H1 :=
  ⟨h.1.kept hq, h.2.1.kept hq, h.2.2.1.kept hq, h.2.2.2.1.kept hq, h.2.2.2.2.1.kept hq, h.2.2.2.2.2.1.kept hq, h.2.2.2.2.2.2⟩
theorem SW.narrow {G : GT} {A B : Nat → Prop} {U : State} {H : Heap} (h : SW G A U H) (hAB : ∀ q, B q → A q) : SW G B U H :=
  ⟨h.1.narrow hAB, h.2.1.narrow hAB, h.2.2.1.narrow hAB, h.2.2.2.1.narrow hAB, h.2.2.2.2.1.narrow hAB, h.2.2.2.2.2.1.narrow hAB, h.2.2.2.2.2.2⟩
theorem SW.warm {G : GT} {A : Nat → Prop} {s U : State} {H : Heap} (hW : s.WarmedH U.vm) (h : SW G A s H) : SW G A U H :=
  ⟨h.1.moved hW.alike, h.2.1.moved hW.alike, h.2.2.1.moved hW.alike, h.2.2.2.1.moved hW.alike, h.2.2.2.2.1.moved hW.alike, h.2.2.2.2.2.1.moved hW.alike, fun i hi => (h.2.2.2.2.2.2 i hi).warm hW⟩
theorem SW.same {G : GT} {A : Nat → Prop} {s U : State} {H : Heap} (hv : U.vm = s.vm) (h : SW G A s H) : SW G A U H :=
  have ha : s.vm.Alike U.vm := by rw [hv]; exact Vm.Alike.refl s.vm
  ⟨h.1.moved ha, h.2.1.moved ha, h.2.2.1.moved ha, h.2.2.2.1.moved ha, h.2.2.2.2.1.moved ha, h.2.2.2.2.2.1.moved ha, fun i hi => (h.2.2.2.2.2.2 i hi).same hv⟩
/-- what stands still within a method -/
def CT (p : Program) (s : State) (m : MethodId) (args : Array Value) (meth : Method) (c : Code) (nL : Nat) (G : GT) (A : Nat → Prop) (cc : ByteArray) (own : String) : Prop :=
  p.tables.exec = Jvm.exec ∧ c.code = cc ∧ c.maxLocals = nL ∧ s.vm.findClass own = some m.cls ∧ (∀ w ∈ TB, w.before args s = true) ∧ va_K G.1 vwCl (tysG G) s ∧ (∀ q, s.heap.size ≤ q → A q) ∧ SW G A s s.heap ∧ meth.locks = false
/-- the machine at pc, with these locals and this stack, over the world ws, comes to Q -/
def JX (p : Program) (l : Launch) (e : Env) (R : Room) (s : State) (m : MethodId) (args : Array Value) (below : List Frame) (meth : Method) (c : Code) (nL : Nat) (G : GT) (A : Nat → Prop) (kc ks : Nat) (Q : State → Prop) (ws : va_W) (pc : Nat) (lv : List (Nat × Value)) (st : List Value) : Prop :=
  va_D A ws → ∀ (H : Heap) (locs : List Loc) (ls : Array Slot), va_P G.1 vwCl ws H → va_S A s.heap H locs → lv_has ls nL lv → W p l e R s m args below meth c H locs kc ks Q (F0 m pc ls st)
end
section
/-! the words of the tables, by their places -/
theorem wz_L : Cond.initialized RL ∈ TB := tb_of (List.mem_append_right _ (List.mem_of_getElem? (i := 0) (by decide +kernel))) (by decide +kernel)
theorem wz_X5 : Cond.initialized RX5 ∈ TB := tb_of (List.mem_append_right _ (List.mem_of_getElem? (i := 1) (by decide +kernel))) (by decide +kernel)
theorem wz_X4 : Cond.initialized RX4 ∈ TB := tb_of (List.mem_append_right _ (List.mem_of_getElem? (i := 2) (by decide +kernel))) (by decide +kernel)
theorem wz_X0 : Cond.initialized RX0 ∈ TB := tb_of (List.mem_append_right _ (List.mem_of_getElem? (i := 3) (by decide +kernel))) (by decide +kernel)
theorem wz_X2 : Cond.initialized RX2 ∈ TB := tb_of (List.mem_append_right _ (List.mem_of_getElem? (i := 4) (by decide +kernel))) (by decide +kernel)
theorem wz_X3 : Cond.initialized RX3 ∈ TB := tb_of (List.mem_append_right _ (List.mem_of_getElem? (i := 5) (by decide +kernel))) (by decide +kernel)
theorem wz_X1 : Cond.initialized RX1 ∈ TB := tb_of (List.mem_append_right _ (List.mem_of_getElem? (i := 6) (by decide +kernel))) (by decide +kernel)
theorem wz_X6 : Cond.initialized RX6 ∈ TB := tb_of (List.mem_append_right _ (List.mem_of_getElem? (i := 7) (by decide +kernel))) (by decide +kernel)
theorem wz_J9 : Cond.initialized RJ9 ∈ TB := tb_of (List.mem_append_right _ (List.mem_of_getElem? (i := 8) (by decide +kernel))) (by decide +kernel)
theorem wz_J10 : Cond.initialized RJ10 ∈ TB := tb_of (List.mem_append_right _ (List.mem_of_getElem? (i := 9) (by decide +kernel))) (by decide +kernel)
theorem wz_J0 : Cond.initialized RJ0 ∈ TB := tb_of (List.mem_append_right _ (List.mem_of_getElem? (i := 10) (by decide +kernel))) (by decide +kernel)
theorem wz_J1 : Cond.initialized RJ1 ∈ TB := tb_of (List.mem_append_right _ (List.mem_of_getElem? (i := 11) (by decide +kernel))) (by decide +kernel)
theorem wz_J3 : Cond.initialized RJ3 ∈ TB := tb_of (List.mem_append_right _ (List.mem_of_getElem? (i := 12) (by decide +kernel))) (by decide +kernel)
theorem wz_J2 : Cond.initialized RJ2 ∈ TB := tb_of (List.mem_append_right _ (List.mem_of_getElem? (i := 13) (by decide +kernel))) (by decide +kernel)
theorem wz_J7 : Cond.initialized RJ7 ∈ TB := tb_of (List.mem_append_right _ (List.mem_of_getElem? (i := 14) (by decide +kernel))) (by decide +kernel)
theorem wz_J6 : Cond.initialized RJ6 ∈ TB := tb_of (List.mem_append_right _ (List.mem_of_getElem? (i := 15) (by decide +kernel))) (by decide +kernel)
theorem wk_L_7 : Cond.classLink RL 7 RX5 ∈ TB := tb_of (List.mem_append_right _ (List.mem_of_getElem? (i := 16) (by decide +kernel))) (by decide +kernel)
theorem wi_X5 : Cond.instantiable RX5 8 ∈ TB := tb_of (List.mem_append_right _ (List.mem_of_getElem? (i := 17) (by decide +kernel))) (by decide +kernel)
theorem wl_L_9 : Cond.methodLink RL 9 yX5_init ∈ TB := tb_of (List.mem_append_right _ (List.mem_of_getElem? (i := 18) (by decide +kernel))) (by decide +kernel)
theorem wl_X5_1 : Cond.methodLink RX5 1 objectInit ∈ TB := tb_of (List.mem_append_right _ (List.mem_of_getElem? (i := 21) (by decide +kernel))) (by decide +kernel)
theorem wk_X5_7 : Cond.classLink RX5 7 RX4 ∈ TB := tb_of (List.mem_append_right _ (List.mem_of_getElem? (i := 24) (by decide +kernel))) (by decide +kernel)
theorem wi_X4 : Cond.instantiable RX4 8 ∈ TB := tb_of (List.mem_append_right _ (List.mem_of_getElem? (i := 25) (by decide +kernel))) (by decide +kernel)
theorem wl_X5_9 : Cond.methodLink RX5 9 yX4_init ∈ TB := tb_of (List.mem_append_right _ (List.mem_of_getElem? (i := 26) (by decide +kernel))) (by decide +kernel)
theorem wl_X4_3 : Cond.methodLink RX4 3 objectInit ∈ TB := tb_of (List.mem_append_right _ (List.mem_of_getElem? (i := 29) (by decide +kernel))) (by decide +kernel)
theorem wk_X4_31 : Cond.classLink RX4 31 RX0 ∈ TB := tb_of (List.mem_append_right _ (List.mem_of_getElem? (i := 30) (by decide +kernel))) (by decide +kernel)
-- 31 arrayOver (Jvm.ClassFile.FieldType.object "NamedFountains$Fountain")
theorem wi_X0 : Cond.instantiable RX0 5 ∈ TB := tb_of (List.mem_append_right _ (List.mem_of_getElem? (i := 32) (by decide +kernel))) (by decide +kernel)
theorem wn_X4_40 : Cond.methodLinkNest RX4 40 yX0_init "NamedFountains" ∈ lw_tbl := List.mem_append_right _ (List.mem_of_getElem? (i := 33) (by decide +kernel))
theorem wl_X0_3 : Cond.methodLink RX0 3 objectInit ∈ TB := tb_of (List.mem_append_right _ (List.mem_of_getElem? (i := 36) (by decide +kernel))) (by decide +kernel)
theorem wf_X0_9 : Cond.fieldLink RX0 9 "NamedFountains$Fountain" "kind" "I" ∈ TB := tb_of (List.mem_append_right _ (List.mem_of_getElem? (i := 37) (by decide +kernel))) (by decide +kernel)
theorem wf_X5_112 : Cond.fieldLink RX5 112 "NamedFountains$Fountain" "kind" "I" ∈ TB := tb_of (List.mem_append_right _ (List.mem_of_getElem? (i := 38) (by decide +kernel))) (by decide +kernel)
theorem wf_X4_115 : Cond.fieldLink RX4 115 "NamedFountains$Fountain" "kind" "I" ∈ TB := tb_of (List.mem_append_right _ (List.mem_of_getElem? (i := 39) (by decide +kernel))) (by decide +kernel)
theorem wf_X0_15 : Cond.fieldLink RX0 15 "NamedFountains$Fountain" "high" "I" ∈ TB := tb_of (List.mem_append_right _ (List.mem_of_getElem? (i := 40) (by decide +kernel))) (by decide +kernel)
theorem wf_X3_101 : Cond.fieldLink RX3 101 "NamedFountains$Fountain" "high" "I" ∈ TB := tb_of (List.mem_append_right _ (List.mem_of_getElem? (i := 41) (by decide +kernel))) (by decide +kernel)
theorem wf_X5_117 : Cond.fieldLink RX5 117 "NamedFountains$Fountain" "high" "I" ∈ TB := tb_of (List.mem_append_right _ (List.mem_of_getElem? (i := 42) (by decide +kernel))) (by decide +kernel)
theorem wf_X0_18 : Cond.fieldLink RX0 18 "NamedFountains$Fountain" "off" "I" ∈ TB := tb_of (List.mem_append_right _ (List.mem_of_getElem? (i := 43) (by decide +kernel))) (by decide +kernel)
theorem wf_X3_111 : Cond.fieldLink RX3 111 "NamedFountains$Fountain" "off" "I" ∈ TB := tb_of (List.mem_append_right _ (List.mem_of_getElem? (i := 44) (by decide +kernel))) (by decide +kernel)
theorem wf_X5_120 : Cond.fieldLink RX5 120 "NamedFountains$Fountain" "off" "I" ∈ TB := tb_of (List.mem_append_right _ (List.mem_of_getElem? (i := 45) (by decide +kernel))) (by decide +kernel)
theorem wf_X4_65 : Cond.fieldLink RX4 65 "NamedFountains$Fountain" "off" "I" ∈ TB := tb_of (List.mem_append_right _ (List.mem_of_getElem? (i := 46) (by decide +kernel))) (by decide +kernel)
theorem wf_X0_21 : Cond.fieldLink RX0 21 "NamedFountains$Fountain" "loved" "I" ∈ TB := tb_of (List.mem_append_right _ (List.mem_of_getElem? (i := 47) (by decide +kernel))) (by decide +kernel)
theorem wf_X3_107 : Cond.fieldLink RX3 107 "NamedFountains$Fountain" "loved" "I" ∈ TB := tb_of (List.mem_append_right _ (List.mem_of_getElem? (i := 48) (by decide +kernel))) (by decide +kernel)
theorem wf_X5_123 : Cond.fieldLink RX5 123 "NamedFountains$Fountain" "loved" "I" ∈ TB := tb_of (List.mem_append_right _ (List.mem_of_getElem? (i := 49) (by decide +kernel))) (by decide +kernel)
theorem wf_X0_24 : Cond.fieldLink RX0 24 "NamedFountains$Fountain" "stooped" "I" ∈ TB := tb_of (List.mem_append_right _ (List.mem_of_getElem? (i := 50) (by decide +kernel))) (by decide +kernel)
theorem wf_X5_126 : Cond.fieldLink RX5 126 "NamedFountains$Fountain" "stooped" "I" ∈ TB := tb_of (List.mem_append_right _ (List.mem_of_getElem? (i := 51) (by decide +kernel))) (by decide +kernel)
theorem wf_X4_79 : Cond.fieldLink RX4 79 "NamedFountains$Fountain" "stooped" "I" ∈ TB := tb_of (List.mem_append_right _ (List.mem_of_getElem? (i := 52) (by decide +kernel))) (by decide +kernel)
-- 63 superclass "NamedFountains$Fountain" "java/lang/Object"
-- 64 arrayClass Jvm.ClassFile.FieldType.int
theorem wf_X4_9 : Cond.fieldLink RX4 9 "NamedFountains$Town" "day" "I" ∈ TB := tb_of (List.mem_append_right _ (List.mem_of_getElem? (i := 65) (by decide +kernel))) (by decide +kernel)
theorem wf_X5_74 : Cond.fieldLink RX5 74 "NamedFountains$Town" "day" "I" ∈ TB := tb_of (List.mem_append_right _ (List.mem_of_getElem? (i := 66) (by decide +kernel))) (by decide +kernel)
theorem wf_X4_15 : Cond.fieldLink RX4 15 "NamedFountains$Town" "tank" "I" ∈ TB := tb_of (List.mem_append_right _ (List.mem_of_getElem? (i := 67) (by decide +kernel))) (by decide +kernel)
theorem wf_X5_58 : Cond.fieldLink RX5 58 "NamedFountains$Town" "tank" "I" ∈ TB := tb_of (List.mem_append_right _ (List.mem_of_getElem? (i := 68) (by decide +kernel))) (by decide +kernel)
theorem wf_X3_68 : Cond.fieldLink RX3 68 "NamedFountains$Town" "tank" "I" ∈ TB := tb_of (List.mem_append_right _ (List.mem_of_getElem? (i := 69) (by decide +kernel))) (by decide +kernel)
theorem wf_X4_18 : Cond.fieldLink RX4 18 "NamedFountains$Town" "drought" "I" ∈ TB := tb_of (List.mem_append_right _ (List.mem_of_getElem? (i := 70) (by decide +kernel))) (by decide +kernel)
theorem wf_X5_62 : Cond.fieldLink RX5 62 "NamedFountains$Town" "drought" "I" ∈ TB := tb_of (List.mem_append_right _ (List.mem_of_getElem? (i := 71) (by decide +kernel))) (by decide +kernel)
theorem wf_X4_21 : Cond.fieldLink RX4 21 "NamedFountains$Town" "plenty" "I" ∈ TB := tb_of (List.mem_append_right _ (List.mem_of_getElem? (i := 72) (by decide +kernel))) (by decide +kernel)
theorem wf_X5_65 : Cond.fieldLink RX5 65 "NamedFountains$Town" "plenty" "I" ∈ TB := tb_of (List.mem_append_right _ (List.mem_of_getElem? (i := 73) (by decide +kernel))) (by decide +kernel)
theorem wf_X4_24 : Cond.fieldLink RX4 24 "NamedFountains$Town" "rains" "[I" ∈ TB := tb_of (List.mem_append_right _ (List.mem_of_getElem? (i := 74) (by decide +kernel))) (by decide +kernel)
theorem wf_X5_68 : Cond.fieldLink RX5 68 "NamedFountains$Town" "rains" "[I" ∈ TB := tb_of (List.mem_append_right _ (List.mem_of_getElem? (i := 75) (by decide +kernel))) (by decide +kernel)
theorem wf_X3_113 : Cond.fieldLink RX3 113 "NamedFountains$Town" "rains" "[I" ∈ TB := tb_of (List.mem_append_right _ (List.mem_of_getElem? (i := 76) (by decide +kernel))) (by decide +kernel)
theorem wf_X4_28 : Cond.fieldLink RX4 28 "NamedFountains$Town" "colds" "[I" ∈ TB := tb_of (List.mem_append_right _ (List.mem_of_getElem? (i := 77) (by decide +kernel))) (by decide +kernel)
theorem wf_X5_71 : Cond.fieldLink RX5 71 "NamedFountains$Town" "colds" "[I" ∈ TB := tb_of (List.mem_append_right _ (List.mem_of_getElem? (i := 78) (by decide +kernel))) (by decide +kernel)
theorem wf_X3_117 : Cond.fieldLink RX3 117 "NamedFountains$Town" "colds" "[I" ∈ TB := tb_of (List.mem_append_right _ (List.mem_of_getElem? (i := 79) (by decide +kernel))) (by decide +kernel)
theorem wf_X4_33 : Cond.fieldLink RX4 33 "NamedFountains$Town" "row" "[LNamedFountains$Fountain;" ∈ TB := tb_of (List.mem_append_right _ (List.mem_of_getElem? (i := 80) (by decide +kernel))) (by decide +kernel)
theorem wf_X3_95 : Cond.fieldLink RX3 95 "NamedFountains$Town" "row" "[LNamedFountains$Fountain;" ∈ TB := tb_of (List.mem_append_right _ (List.mem_of_getElem? (i := 81) (by decide +kernel))) (by decide +kernel)
theorem wf_X5_104 : Cond.fieldLink RX5 104 "NamedFountains$Town" "row" "[LNamedFountains$Fountain;" ∈ TB := tb_of (List.mem_append_right _ (List.mem_of_getElem? (i := 82) (by decide +kernel))) (by decide +kernel)
theorem wf_X4_37 : Cond.fieldLink RX4 37 "NamedFountains$Town" "size" "I" ∈ TB := tb_of (List.mem_append_right _ (List.mem_of_getElem? (i := 83) (by decide +kernel))) (by decide +kernel)
theorem wf_X5_94 : Cond.fieldLink RX5 94 "NamedFountains$Town" "size" "I" ∈ TB := tb_of (List.mem_append_right _ (List.mem_of_getElem? (i := 84) (by decide +kernel))) (by decide +kernel)
-- 101 superclass "NamedFountains$Town" "java/lang/Object"
theorem wk_X5_26 : Cond.classLink RX5 26 RX2 ∈ TB := tb_of (List.mem_append_right _ (List.mem_of_getElem? (i := 102) (by decide +kernel))) (by decide +kernel)
theorem wi_X2 : Cond.instantiable RX2 2 ∈ TB := tb_of (List.mem_append_right _ (List.mem_of_getElem? (i := 103) (by decide +kernel))) (by decide +kernel)
theorem wn_X5_28 : Cond.methodLinkNest RX5 28 yX2_init "NamedFountains" ∈ lw_tbl := List.mem_append_right _ (List.mem_of_getElem? (i := 104) (by decide +kernel))
theorem wl_X2_3 : Cond.methodLink RX2 3 objectInit ∈ TB := tb_of (List.mem_append_right _ (List.mem_of_getElem? (i := 107) (by decide +kernel))) (by decide +kernel)
theorem wf_X2_9 : Cond.fieldLink RX2 9 "NamedFountains$Tape" "bytes" "[I" ∈ TB := tb_of (List.mem_append_right _ (List.mem_of_getElem? (i := 108) (by decide +kernel))) (by decide +kernel)
theorem wf_X3_148 : Cond.fieldLink RX3 148 "NamedFountains$Tape" "bytes" "[I" ∈ TB := tb_of (List.mem_append_right _ (List.mem_of_getElem? (i := 109) (by decide +kernel))) (by decide +kernel)
theorem wf_X2_15 : Cond.fieldLink RX2 15 "NamedFountains$Tape" "length" "I" ∈ TB := tb_of (List.mem_append_right _ (List.mem_of_getElem? (i := 110) (by decide +kernel))) (by decide +kernel)
theorem wf_X3_132 : Cond.fieldLink RX3 132 "NamedFountains$Tape" "length" "I" ∈ TB := tb_of (List.mem_append_right _ (List.mem_of_getElem? (i := 111) (by decide +kernel))) (by decide +kernel)
theorem wf_X5_194 : Cond.fieldLink RX5 194 "NamedFountains$Tape" "length" "I" ∈ TB := tb_of (List.mem_append_right _ (List.mem_of_getElem? (i := 112) (by decide +kernel))) (by decide +kernel)
-- 117 superclass "NamedFountains$Tape" "java/lang/Object"
theorem wk_X5_33 : Cond.classLink RX5 33 RX3 ∈ TB := tb_of (List.mem_append_right _ (List.mem_of_getElem? (i := 118) (by decide +kernel))) (by decide +kernel)
theorem wi_X3 : Cond.instantiable RX3 6 ∈ TB := tb_of (List.mem_append_right _ (List.mem_of_getElem? (i := 119) (by decide +kernel))) (by decide +kernel)
theorem wl_X5_35 : Cond.methodLink RX5 35 yX3_init ∈ TB := tb_of (List.mem_append_right _ (List.mem_of_getElem? (i := 120) (by decide +kernel))) (by decide +kernel)
theorem wl_X3_3 : Cond.methodLink RX3 3 objectInit ∈ TB := tb_of (List.mem_append_right _ (List.mem_of_getElem? (i := 123) (by decide +kernel))) (by decide +kernel)
theorem wf_X3_27 : Cond.fieldLink RX3 27 "NamedFountains$TextReader" "tape" "LNamedFountains$Tape;" ∈ TB := tb_of (List.mem_append_right _ (List.mem_of_getElem? (i := 124) (by decide +kernel))) (by decide +kernel)
theorem wf_X3_11 : Cond.fieldLink RX3 11 "NamedFountains$TextReader" "sort" "I" ∈ TB := tb_of (List.mem_append_right _ (List.mem_of_getElem? (i := 125) (by decide +kernel))) (by decide +kernel)
theorem wf_X3_15 : Cond.fieldLink RX3 15 "NamedFountains$TextReader" "start" "I" ∈ TB := tb_of (List.mem_append_right _ (List.mem_of_getElem? (i := 126) (by decide +kernel))) (by decide +kernel)
theorem wf_X3_18 : Cond.fieldLink RX3 18 "NamedFountains$TextReader" "end" "I" ∈ TB := tb_of (List.mem_append_right _ (List.mem_of_getElem? (i := 127) (by decide +kernel))) (by decide +kernel)
theorem wf_X3_21 : Cond.fieldLink RX3 21 "NamedFountains$TextReader" "number" "I" ∈ TB := tb_of (List.mem_append_right _ (List.mem_of_getElem? (i := 128) (by decide +kernel))) (by decide +kernel)
theorem wf_X3_24 : Cond.fieldLink RX3 24 "NamedFountains$TextReader" "taken" "I" ∈ TB := tb_of (List.mem_append_right _ (List.mem_of_getElem? (i := 129) (by decide +kernel))) (by decide +kernel)
-- 142 superclass "NamedFountains$TextReader" "java/lang/Object"
theorem wk_X5_42 : Cond.classLink RX5 42 RX1 ∈ TB := tb_of (List.mem_append_right _ (List.mem_of_getElem? (i := 143) (by decide +kernel))) (by decide +kernel)
-- 144 arrayOver (Jvm.ClassFile.FieldType.object "NamedFountains$Sheet")
theorem wi_X1 : Cond.instantiable RX1 3 ∈ TB := tb_of (List.mem_append_right _ (List.mem_of_getElem? (i := 145) (by decide +kernel))) (by decide +kernel)
theorem wn_X5_44 : Cond.methodLinkNest RX5 44 yX1_init "NamedFountains" ∈ lw_tbl := List.mem_append_right _ (List.mem_of_getElem? (i := 146) (by decide +kernel))
theorem wl_X1_3 : Cond.methodLink RX1 3 objectInit ∈ TB := tb_of (List.mem_append_right _ (List.mem_of_getElem? (i := 149) (by decide +kernel))) (by decide +kernel)
theorem wf_X1_9 : Cond.fieldLink RX1 9 "NamedFountains$Sheet" "bits" "I" ∈ TB := tb_of (List.mem_append_right _ (List.mem_of_getElem? (i := 150) (by decide +kernel))) (by decide +kernel)
theorem wf_X5_228 : Cond.fieldLink RX5 228 "NamedFountains$Sheet" "bits" "I" ∈ TB := tb_of (List.mem_append_right _ (List.mem_of_getElem? (i := 151) (by decide +kernel))) (by decide +kernel)
theorem wf_X1_15 : Cond.fieldLink RX1 15 "NamedFountains$Sheet" "length" "I" ∈ TB := tb_of (List.mem_append_right _ (List.mem_of_getElem? (i := 152) (by decide +kernel))) (by decide +kernel)
theorem wf_X4_125 : Cond.fieldLink RX4 125 "NamedFountains$Sheet" "length" "I" ∈ TB := tb_of (List.mem_append_right _ (List.mem_of_getElem? (i := 153) (by decide +kernel))) (by decide +kernel)
theorem wf_X5_212 : Cond.fieldLink RX5 212 "NamedFountains$Sheet" "length" "I" ∈ TB := tb_of (List.mem_append_right _ (List.mem_of_getElem? (i := 154) (by decide +kernel))) (by decide +kernel)
theorem wf_X1_18 : Cond.fieldLink RX1 18 "NamedFountains$Sheet" "numbers" "[J" ∈ TB := tb_of (List.mem_append_right _ (List.mem_of_getElem? (i := 155) (by decide +kernel))) (by decide +kernel)
theorem wf_X4_130 : Cond.fieldLink RX4 130 "NamedFountains$Sheet" "numbers" "[J" ∈ TB := tb_of (List.mem_append_right _ (List.mem_of_getElem? (i := 156) (by decide +kernel))) (by decide +kernel)
theorem wf_X5_216 : Cond.fieldLink RX5 216 "NamedFountains$Sheet" "numbers" "[J" ∈ TB := tb_of (List.mem_append_right _ (List.mem_of_getElem? (i := 157) (by decide +kernel))) (by decide +kernel)
-- 164 superclass "NamedFountains$Sheet" "java/lang/Object"
-- 165 arrayClass Jvm.ClassFile.FieldType.long
theorem wf_X5_10 : Cond.fieldLink RX5 10 "NamedFountains" "here" "LNamedFountains$Town;" ∈ TB := tb_of (List.mem_append_right _ (List.mem_of_getElem? (i := 166) (by decide +kernel))) (by decide +kernel)
theorem wf_X5_16 : Cond.fieldLink RX5 16 "NamedFountains" "trial" "LNamedFountains$Town;" ∈ TB := tb_of (List.mem_append_right _ (List.mem_of_getElem? (i := 167) (by decide +kernel))) (by decide +kernel)
theorem wf_X5_19 : Cond.fieldLink RX5 19 "NamedFountains" "kept" "LNamedFountains$Town;" ∈ TB := tb_of (List.mem_append_right _ (List.mem_of_getElem? (i := 168) (by decide +kernel))) (by decide +kernel)
theorem wf_X5_22 : Cond.fieldLink RX5 22 "NamedFountains" "keeps" "Z" ∈ TB := tb_of (List.mem_append_right _ (List.mem_of_getElem? (i := 169) (by decide +kernel))) (by decide +kernel)
theorem wf_X5_29 : Cond.fieldLink RX5 29 "NamedFountains" "tape" "LNamedFountains$Tape;" ∈ TB := tb_of (List.mem_append_right _ (List.mem_of_getElem? (i := 170) (by decide +kernel))) (by decide +kernel)
theorem wf_X5_38 : Cond.fieldLink RX5 38 "NamedFountains" "reader" "LNamedFountains$TextReader;" ∈ TB := tb_of (List.mem_append_right _ (List.mem_of_getElem? (i := 171) (by decide +kernel))) (by decide +kernel)
theorem wf_X5_45 : Cond.fieldLink RX5 45 "NamedFountains" "sheets" "[LNamedFountains$Sheet;" ∈ TB := tb_of (List.mem_append_right _ (List.mem_of_getElem? (i := 172) (by decide +kernel))) (by decide +kernel)
theorem wf_X5_49 : Cond.fieldLink RX5 49 "NamedFountains" "tally" "[I" ∈ TB := tb_of (List.mem_append_right _ (List.mem_of_getElem? (i := 173) (by decide +kernel))) (by decide +kernel)
-- 190 superclass "NamedFountains" "java/lang/Object"
theorem wl_L_13 : Cond.methodLink RL 13 yX5_water ∈ TB := tb_of (List.mem_append_right _ (List.mem_of_getElem? (i := 191) (by decide +kernel))) (by decide +kernel)
theorem wc_X5_53 : Cond.constant RX5 53 (iI (-1000000001)) ∈ TB := tb_of (List.mem_append_right _ (List.mem_of_getElem? (i := 195) (by decide +kernel))) (by decide +kernel)
theorem wl_X5_54 : Cond.methodLink RX5 54 yX5_found ∈ TB := tb_of (List.mem_append_right _ (List.mem_of_getElem? (i := 196) (by decide +kernel))) (by decide +kernel)
theorem wl_L_18 : Cond.methodLink RL 18 yX5_week ∈ TB := tb_of (List.mem_append_right _ (List.mem_of_getElem? (i := 200) (by decide +kernel))) (by decide +kernel)
theorem wl_L_23 : Cond.methodLink RL 23 yX5_now ∈ TB := tb_of (List.mem_append_right _ (List.mem_of_getElem? (i := 204) (by decide +kernel))) (by decide +kernel)
theorem wl_X5_77 : Cond.methodLink RX5 77 yX4_weekOfDay ∈ TB := tb_of (List.mem_append_right _ (List.mem_of_getElem? (i := 208) (by decide +kernel))) (by decide +kernel)
theorem wl_X4_55 : Cond.methodLink RX4 55 yJ9_floorMod_7cf53 ∈ TB := tb_of (List.mem_append_right _ (List.mem_of_getElem? (i := 212) (by decide +kernel))) (by decide +kernel)
theorem wl_X5_81 : Cond.methodLink RX5 81 yX4_setOfOff ∈ TB := tb_of (List.mem_append_right _ (List.mem_of_getElem? (i := 215) (by decide +kernel))) (by decide +kernel)
theorem wl_X5_84 : Cond.methodLink RX5 84 yX4_noise ∈ TB := tb_of (List.mem_append_right _ (List.mem_of_getElem? (i := 219) (by decide +kernel))) (by decide +kernel)
theorem wl_X4_68 : Cond.methodLink RX4 68 yX0_heard ∈ TB := tb_of (List.mem_append_right _ (List.mem_of_getElem? (i := 223) (by decide +kernel))) (by decide +kernel)
theorem wl_X0_27 : Cond.methodLink RX0 27 yX0_isStill ∈ TB := tb_of (List.mem_append_right _ (List.mem_of_getElem? (i := 227) (by decide +kernel))) (by decide +kernel)
theorem wl_X0_41 : Cond.methodLink RX0 41 yX0_heardGoing ∈ TB := tb_of (List.mem_append_right _ (List.mem_of_getElem? (i := 231) (by decide +kernel))) (by decide +kernel)
theorem wl_X5_87 : Cond.methodLink RX5 87 yX4_usesTogether ∈ TB := tb_of (List.mem_append_right _ (List.mem_of_getElem? (i := 235) (by decide +kernel))) (by decide +kernel)
theorem wl_X4_71 : Cond.methodLink RX4 71 yX4_isCold ∈ TB := tb_of (List.mem_append_right _ (List.mem_of_getElem? (i := 239) (by decide +kernel))) (by decide +kernel)
theorem wl_X4_61 : Cond.methodLink RX4 61 yX4_weekOfDay ∈ TB := tb_of (List.mem_append_right _ (List.mem_of_getElem? (i := 243) (by decide +kernel))) (by decide +kernel)
theorem wl_X4_75 : Cond.methodLink RX4 75 yX0_uses ∈ TB := tb_of (List.mem_append_right _ (List.mem_of_getElem? (i := 244) (by decide +kernel))) (by decide +kernel)
theorem wl_X0_31 : Cond.methodLink RX0 31 yX0_usesGoing ∈ TB := tb_of (List.mem_append_right _ (List.mem_of_getElem? (i := 248) (by decide +kernel))) (by decide +kernel)
theorem wl_X0_35 : Cond.methodLink RX0 35 Lib.Math.max.name ∈ TB := tb_of (List.mem_append_right _ (List.mem_of_getElem? (i := 252) (by decide +kernel))) (by decide +kernel)
theorem wl_L_28 : Cond.methodLink RL 28 yX5_fountain ∈ TB := tb_of (List.mem_append_right _ (List.mem_of_getElem? (i := 255) (by decide +kernel))) (by decide +kernel)
theorem wl_X5_90 : Cond.methodLink RX5 90 yX5_isKind ∈ TB := tb_of (List.mem_append_right _ (List.mem_of_getElem? (i := 259) (by decide +kernel))) (by decide +kernel)
theorem wc_X5_97 : Cond.constant RX5 97 (iI (-1000000002)) ∈ TB := tb_of (List.mem_append_right _ (List.mem_of_getElem? (i := 262) (by decide +kernel))) (by decide +kernel)
theorem wl_X5_98 : Cond.methodLink RX5 98 yX4_addOne ∈ TB := tb_of (List.mem_append_right _ (List.mem_of_getElem? (i := 263) (by decide +kernel))) (by decide +kernel)
theorem wl_X4_51 : Cond.methodLink RX4 51 yX0_begin ∈ TB := tb_of (List.mem_append_right _ (List.mem_of_getElem? (i := 267) (by decide +kernel))) (by decide +kernel)
theorem wl_L_32 : Cond.methodLink RL 32 yX5_of ∈ TB := tb_of (List.mem_append_right _ (List.mem_of_getElem? (i := 271) (by decide +kernel))) (by decide +kernel)
theorem wl_X5_101 : Cond.methodLink RX5 101 yX4_has ∈ TB := tb_of (List.mem_append_right _ (List.mem_of_getElem? (i := 275) (by decide +kernel))) (by decide +kernel)
theorem wl_X5_108 : Cond.methodLink RX5 108 yX4_isCold ∈ TB := tb_of (List.mem_append_right _ (List.mem_of_getElem? (i := 279) (by decide +kernel))) (by decide +kernel)
theorem wl_X5_129 : Cond.methodLink RX5 129 yX0_uses ∈ TB := tb_of (List.mem_append_right _ (List.mem_of_getElem? (i := 280) (by decide +kernel))) (by decide +kernel)
theorem wl_X5_133 : Cond.methodLink RX5 133 yX0_heard ∈ TB := tb_of (List.mem_append_right _ (List.mem_of_getElem? (i := 281) (by decide +kernel))) (by decide +kernel)
theorem wl_X5_136 : Cond.methodLink RX5 136 yX0_gains ∈ TB := tb_of (List.mem_append_right _ (List.mem_of_getElem? (i := 282) (by decide +kernel))) (by decide +kernel)
theorem wl_X5_139 : Cond.methodLink RX5 139 yX0_givesWay ∈ TB := tb_of (List.mem_append_right _ (List.mem_of_getElem? (i := 286) (by decide +kernel))) (by decide +kernel)
theorem wl_L_36 : Cond.methodLink RL 36 yX5_set ∈ TB := tb_of (List.mem_append_right _ (List.mem_of_getElem? (i := 290) (by decide +kernel))) (by decide +kernel)
theorem wl_X5_142 : Cond.methodLink RX5 142 yX5_maySet ∈ TB := tb_of (List.mem_append_right _ (List.mem_of_getElem? (i := 294) (by decide +kernel))) (by decide +kernel)
theorem wl_L_40 : Cond.methodLink RL 40 yX5_turn ∈ TB := tb_of (List.mem_append_right _ (List.mem_of_getElem? (i := 297) (by decide +kernel))) (by decide +kernel)
theorem wl_L_44 : Cond.methodLink RL 44 yX5_as ∈ TB := tb_of (List.mem_append_right _ (List.mem_of_getElem? (i := 301) (by decide +kernel))) (by decide +kernel)
theorem wl_X5_146 : Cond.methodLink RX5 146 yX5_isUnder ∈ TB := tb_of (List.mem_append_right _ (List.mem_of_getElem? (i := 305) (by decide +kernel))) (by decide +kernel)
theorem wf_X5_249 : Cond.fieldLink RX5 249 "NamedFountains" "KIND_ABOVE" "[I" ∈ TB := tb_of (List.mem_append_right _ (List.mem_of_getElem? (i := 308) (by decide +kernel))) (by decide +kernel)
-- 309 laysStatic "NamedFountains" "KIND_ABOVE" "[I"
theorem wc_X5_149 : Cond.constant RX5 149 (iI (-1000000003)) ∈ TB := tb_of (List.mem_append_right _ (List.mem_of_getElem? (i := 310) (by decide +kernel))) (by decide +kernel)
theorem wl_L_48 : Cond.methodLink RL 48 yX5_next ∈ TB := tb_of (List.mem_append_right _ (List.mem_of_getElem? (i := 311) (by decide +kernel))) (by decide +kernel)
theorem wl_X5_150 : Cond.methodLink RX5 150 yX4_givesWayMost ∈ TB := tb_of (List.mem_append_right _ (List.mem_of_getElem? (i := 315) (by decide +kernel))) (by decide +kernel)
theorem wc_X4_84 : Cond.constant RX4 84 (iI (-2147483648)) ∈ TB := tb_of (List.mem_append_right _ (List.mem_of_getElem? (i := 319) (by decide +kernel))) (by decide +kernel)
theorem wl_X4_85 : Cond.methodLink RX4 85 yX0_givesWay ∈ TB := tb_of (List.mem_append_right _ (List.mem_of_getElem? (i := 320) (by decide +kernel))) (by decide +kernel)
theorem wc_X5_153 : Cond.constant RX5 153 (iI (-1000000004)) ∈ TB := tb_of (List.mem_append_right _ (List.mem_of_getElem? (i := 321) (by decide +kernel))) (by decide +kernel)
theorem wl_L_53 : Cond.methodLink RL 53 yX5_days ∈ TB := tb_of (List.mem_append_right _ (List.mem_of_getElem? (i := 322) (by decide +kernel))) (by decide +kernel)
theorem wl_X5_154 : Cond.methodLink RX5 154 yX5_isTried ∈ TB := tb_of (List.mem_append_right _ (List.mem_of_getElem? (i := 326) (by decide +kernel))) (by decide +kernel)
theorem wc_X5_157 : Cond.constant RX5 157 (iI (99999)) ∈ TB := tb_of (List.mem_append_right _ (List.mem_of_getElem? (i := 329) (by decide +kernel))) (by decide +kernel)
theorem wc_X5_158 : Cond.constant RX5 158 (iI (-1000000005)) ∈ TB := tb_of (List.mem_append_right _ (List.mem_of_getElem? (i := 330) (by decide +kernel))) (by decide +kernel)
theorem wl_X5_159 : Cond.methodLink RX5 159 yX4_passDays ∈ TB := tb_of (List.mem_append_right _ (List.mem_of_getElem? (i := 331) (by decide +kernel))) (by decide +kernel)
theorem wl_X4_89 : Cond.methodLink RX4 89 yX4_passDay ∈ TB := tb_of (List.mem_append_right _ (List.mem_of_getElem? (i := 335) (by decide +kernel))) (by decide +kernel)
theorem wl_X4_92 : Cond.methodLink RX4 92 Lib.Math.min.name ∈ TB := tb_of (List.mem_append_right _ (List.mem_of_getElem? (i := 339) (by decide +kernel))) (by decide +kernel)
theorem wl_X4_95 : Cond.methodLink RX4 95 yX4_sendCommittee ∈ TB := tb_of (List.mem_append_right _ (List.mem_of_getElem? (i := 342) (by decide +kernel))) (by decide +kernel)
theorem wl_X4_106 : Cond.methodLink RX4 106 yX4_givesWayMost ∈ TB := tb_of (List.mem_append_right _ (List.mem_of_getElem? (i := 346) (by decide +kernel))) (by decide +kernel)
theorem wl_X4_109 : Cond.methodLink RX4 109 yX0_stoop ∈ TB := tb_of (List.mem_append_right _ (List.mem_of_getElem? (i := 347) (by decide +kernel))) (by decide +kernel)
theorem wl_X0_44 : Cond.methodLink RX0 44 Lib.Math.min.name ∈ TB := tb_of (List.mem_append_right _ (List.mem_of_getElem? (i := 351) (by decide +kernel))) (by decide +kernel)
theorem wl_X4_112 : Cond.methodLink RX4 112 yX4_givesWayLeast ∈ TB := tb_of (List.mem_append_right _ (List.mem_of_getElem? (i := 352) (by decide +kernel))) (by decide +kernel)
theorem wc_X4_88 : Cond.constant RX4 88 (iI (2147483647)) ∈ TB := tb_of (List.mem_append_right _ (List.mem_of_getElem? (i := 356) (by decide +kernel))) (by decide +kernel)
theorem wl_X4_98 : Cond.methodLink RX4 98 yX4_letRun ∈ TB := tb_of (List.mem_append_right _ (List.mem_of_getElem? (i := 357) (by decide +kernel))) (by decide +kernel)
theorem wl_X4_102 : Cond.methodLink RX4 102 yX0_endDay ∈ TB := tb_of (List.mem_append_right _ (List.mem_of_getElem? (i := 361) (by decide +kernel))) (by decide +kernel)
theorem wl_X0_47 : Cond.methodLink RX0 47 yX0_gains ∈ TB := tb_of (List.mem_append_right _ (List.mem_of_getElem? (i := 365) (by decide +kernel))) (by decide +kernel)
theorem wl_L_57 : Cond.methodLink RL 57 yX5_on ∈ TB := tb_of (List.mem_append_right _ (List.mem_of_getElem? (i := 366) (by decide +kernel))) (by decide +kernel)
theorem wl_X5_163 : Cond.methodLink RX5 163 yX5_isAhead ∈ TB := tb_of (List.mem_append_right _ (List.mem_of_getElem? (i := 370) (by decide +kernel))) (by decide +kernel)
theorem wl_X5_166 : Cond.methodLink RX5 166 yX4_become ∈ TB := tb_of (List.mem_append_right _ (List.mem_of_getElem? (i := 373) (by decide +kernel))) (by decide +kernel)
-- 379 native ({ cls := "java/lang/System", name := "arraycopy", desc := "(Ljava/lang/Object;ILjava/lang/Object;II)V" } : Jvm.MethodName)
theorem wl_X4_47 : Cond.methodLink RX4 47 yX0_become ∈ TB := tb_of (List.mem_append_right _ (List.mem_of_getElem? (i := 380) (by decide +kernel))) (by decide +kernel)
theorem wl_L_61 : Cond.methodLink RL 61 yX5_then ∈ TB := tb_of (List.mem_append_right _ (List.mem_of_getElem? (i := 384) (by decide +kernel))) (by decide +kernel)
theorem wl_L_65 : Cond.methodLink RL 65 yX5_falls ∈ TB := tb_of (List.mem_append_right _ (List.mem_of_getElem? (i := 388) (by decide +kernel))) (by decide +kernel)
theorem wl_X5_170 : Cond.methodLink RX5 170 yX4_passDay ∈ TB := tb_of (List.mem_append_right _ (List.mem_of_getElem? (i := 392) (by decide +kernel))) (by decide +kernel)
theorem wl_L_69 : Cond.methodLink RL 69 yX5_off ∈ TB := tb_of (List.mem_append_right _ (List.mem_of_getElem? (i := 393) (by decide +kernel))) (by decide +kernel)
theorem wl_X5_173 : Cond.methodLink RX5 173 yX4_daysTillOff ∈ TB := tb_of (List.mem_append_right _ (List.mem_of_getElem? (i := 397) (by decide +kernel))) (by decide +kernel)
theorem wl_X4_118 : Cond.methodLink RX4 118 yX4_has ∈ TB := tb_of (List.mem_append_right _ (List.mem_of_getElem? (i := 401) (by decide +kernel))) (by decide +kernel)
theorem wl_L_73 : Cond.methodLink RL 73 yX5_quiet ∈ TB := tb_of (List.mem_append_right _ (List.mem_of_getElem? (i := 402) (by decide +kernel))) (by decide +kernel)
theorem wl_L_77 : Cond.methodLink RL 77 yX5_best ∈ TB := tb_of (List.mem_append_right _ (List.mem_of_getElem? (i := 406) (by decide +kernel))) (by decide +kernel)
theorem wl_L_81 : Cond.methodLink RL 81 yX5_high ∈ TB := tb_of (List.mem_append_right _ (List.mem_of_getElem? (i := 410) (by decide +kernel))) (by decide +kernel)
theorem wl_X5_176 : Cond.methodLink RX5 176 yX4_letsGo ∈ TB := tb_of (List.mem_append_right _ (List.mem_of_getElem? (i := 414) (by decide +kernel))) (by decide +kernel)
theorem wl_L_85 : Cond.methodLink RL 85 yX5_loved ∈ TB := tb_of (List.mem_append_right _ (List.mem_of_getElem? (i := 418) (by decide +kernel))) (by decide +kernel)
theorem wl_L_89 : Cond.methodLink RL 89 yX5_kind ∈ TB := tb_of (List.mem_append_right _ (List.mem_of_getElem? (i := 422) (by decide +kernel))) (by decide +kernel)
theorem wl_L_93 : Cond.methodLink RL 93 yX5_rain ∈ TB := tb_of (List.mem_append_right _ (List.mem_of_getElem? (i := 426) (by decide +kernel))) (by decide +kernel)
theorem wl_X5_179 : Cond.methodLink RX5 179 Lib.Math.min.name ∈ TB := tb_of (List.mem_append_right _ (List.mem_of_getElem? (i := 430) (by decide +kernel))) (by decide +kernel)
theorem wl_L_97 : Cond.methodLink RL 97 yX5_enough ∈ TB := tb_of (List.mem_append_right _ (List.mem_of_getElem? (i := 431) (by decide +kernel))) (by decide +kernel)
theorem wl_X5_185 : Cond.methodLink RX5 185 yX4_letsAllGo ∈ TB := tb_of (List.mem_append_right _ (List.mem_of_getElem? (i := 435) (by decide +kernel))) (by decide +kernel)
theorem wl_X4_122 : Cond.methodLink RX4 122 yX4_stoopedTogether ∈ TB := tb_of (List.mem_append_right _ (List.mem_of_getElem? (i := 439) (by decide +kernel))) (by decide +kernel)
theorem wl_L_101 : Cond.methodLink RL 101 yX5_rule ∈ TB := tb_of (List.mem_append_right _ (List.mem_of_getElem? (i := 443) (by decide +kernel))) (by decide +kernel)
theorem wc_X5_190 : Cond.constant RX5 190 (iI (2147483647)) ∈ TB := tb_of (List.mem_append_right _ (List.mem_of_getElem? (i := 447) (by decide +kernel))) (by decide +kernel)
theorem wl_X5_191 : Cond.methodLink RX5 191 yX4_stoopedTogether ∈ TB := tb_of (List.mem_append_right _ (List.mem_of_getElem? (i := 448) (by decide +kernel))) (by decide +kernel)
theorem wl_L_105 : Cond.methodLink RL 105 yX5_feed ∈ TB := tb_of (List.mem_append_right _ (List.mem_of_getElem? (i := 449) (by decide +kernel))) (by decide +kernel)
theorem wl_X5_197 : Cond.methodLink RX5 197 yX2_add ∈ TB := tb_of (List.mem_append_right _ (List.mem_of_getElem? (i := 453) (by decide +kernel))) (by decide +kernel)
theorem wl_L_109 : Cond.methodLink RL 109 yX5_wipe ∈ TB := tb_of (List.mem_append_right _ (List.mem_of_getElem? (i := 457) (by decide +kernel))) (by decide +kernel)
theorem wl_L_113 : Cond.methodLink RL 113 yX5_town ∈ TB := tb_of (List.mem_append_right _ (List.mem_of_getElem? (i := 461) (by decide +kernel))) (by decide +kernel)
theorem wl_X5_200 : Cond.methodLink RX5 200 yX3_readInto ∈ TB := tb_of (List.mem_append_right _ (List.mem_of_getElem? (i := 465) (by decide +kernel))) (by decide +kernel)
theorem wl_X3_31 : Cond.methodLink RX3 31 yX3_step ∈ TB := tb_of (List.mem_append_right _ (List.mem_of_getElem? (i := 469) (by decide +kernel))) (by decide +kernel)
theorem wl_X3_125 : Cond.methodLink RX3 125 yX3_byteAt ∈ TB := tb_of (List.mem_append_right _ (List.mem_of_getElem? (i := 473) (by decide +kernel))) (by decide +kernel)
theorem wl_X3_136 : Cond.methodLink RX3 136 yX3_isLetter ∈ TB := tb_of (List.mem_append_right _ (List.mem_of_getElem? (i := 477) (by decide +kernel))) (by decide +kernel)
theorem wl_X3_139 : Cond.methodLink RX3 139 yX3_isDigit ∈ TB := tb_of (List.mem_append_right _ (List.mem_of_getElem? (i := 480) (by decide +kernel))) (by decide +kernel)
theorem wl_X3_142 : Cond.methodLink RX3 142 Lib.Math.min.name ∈ TB := tb_of (List.mem_append_right _ (List.mem_of_getElem? (i := 483) (by decide +kernel))) (by decide +kernel)
theorem wl_X3_34 : Cond.methodLink RX3 34 yX3_takeItem ∈ TB := tb_of (List.mem_append_right _ (List.mem_of_getElem? (i := 484) (by decide +kernel))) (by decide +kernel)
theorem wl_X3_38 : Cond.methodLink RX3 38 yX3_kindNamed ∈ TB := tb_of (List.mem_append_right _ (List.mem_of_getElem? (i := 488) (by decide +kernel))) (by decide +kernel)
-- 492 stringRef "NamedFountains$TextReader" (72 : Nat) "jet"
theorem wl_X3_74 : Cond.methodLink RX3 74 yX3_isWord ∈ TB := tb_of (List.mem_append_right _ (List.mem_of_getElem? (i := 493) (by decide +kernel))) (by decide +kernel)
theorem wl_X3_120 : Cond.methodLink RX3 120 yJ0_length_8abf5 ∈ TB := tb_of (List.mem_append_right _ (List.mem_of_getElem? (i := 497) (by decide +kernel))) (by decide +kernel)
theorem wl_J0_335 : Cond.methodLink RJ0 335 yJ0_coder_7d493 ∈ TB := tb_of (List.mem_append_right _ (List.mem_of_getElem? (i := 501) (by decide +kernel))) (by decide +kernel)
theorem wf_J0_38 : Cond.fieldLink RJ0 38 "java/lang/String" "COMPACT_STRINGS" "Z" ∈ TB := tb_of (List.mem_append_right _ (List.mem_of_getElem? (i := 505) (by decide +kernel))) (by decide +kernel)
-- 506 laysStatic "java/lang/String" "COMPACT_STRINGS" "Z"
theorem wl_X3_128 : Cond.methodLink RX3 128 yJ0_charAt_5068e ∈ TB := tb_of (List.mem_append_right _ (List.mem_of_getElem? (i := 507) (by decide +kernel))) (by decide +kernel)
theorem wl_J0_492 : Cond.methodLink RJ0 492 yJ0_isLatin1_aae02 ∈ TB := tb_of (List.mem_append_right _ (List.mem_of_getElem? (i := 511) (by decide +kernel))) (by decide +kernel)
theorem wl_J0_495 : Cond.methodLink RJ0 495 yJ1_charAt_3b067 ∈ TB := tb_of (List.mem_append_right _ (List.mem_of_getElem? (i := 515) (by decide +kernel))) (by decide +kernel)
theorem wl_J1_9 : Cond.methodLink RJ1 9 yJ0_checkIndex_df160 ∈ TB := tb_of (List.mem_append_right _ (List.mem_of_getElem? (i := 518) (by decide +kernel))) (by decide +kernel)
theorem wf_J0_1053 : Cond.fieldLink RJ0 1053 "jdk/internal/util/Preconditions" "SIOOBE_FORMATTER" "Ljava/util/function/BiFunction;" ∈ TB := tb_of (List.mem_append_right _ (List.mem_of_getElem? (i := 521) (by decide +kernel))) (by decide +kernel)
-- 522 laysStatic "jdk/internal/util/Preconditions" "SIOOBE_FORMATTER" "Ljava/util/function/BiFunction;"
theorem wl_J0_1059 : Cond.methodLink RJ0 1059 yJ3_checkIndex_8e157 ∈ TB := tb_of (List.mem_append_right _ (List.mem_of_getElem? (i := 523) (by decide +kernel))) (by decide +kernel)
theorem wl_J0_498 : Cond.methodLink RJ0 498 yJ2_charAt_3b067 ∈ TB := tb_of (List.mem_append_right _ (List.mem_of_getElem? (i := 526) (by decide +kernel))) (by decide +kernel)
theorem wl_J2_67 : Cond.methodLink RJ2 67 yJ2_checkIndex_2214a ∈ TB := tb_of (List.mem_append_right _ (List.mem_of_getElem? (i := 529) (by decide +kernel))) (by decide +kernel)
theorem wl_J2_48 : Cond.methodLink RJ2 48 yJ2_length_9d52b ∈ TB := tb_of (List.mem_append_right _ (List.mem_of_getElem? (i := 532) (by decide +kernel))) (by decide +kernel)
theorem wl_J2_414 : Cond.methodLink RJ2 414 yJ0_checkIndex_df160 ∈ TB := tb_of (List.mem_append_right _ (List.mem_of_getElem? (i := 535) (by decide +kernel))) (by decide +kernel)
theorem wl_J2_71 : Cond.methodLink RJ2 71 yJ2_getChar_3b067 ∈ TB := tb_of (List.mem_append_right _ (List.mem_of_getElem? (i := 536) (by decide +kernel))) (by decide +kernel)
theorem wf_J2_44 : Cond.fieldLink RJ2 44 "java/lang/StringUTF16" "$assertionsDisabled" "Z" ∈ TB := tb_of (List.mem_append_right _ (List.mem_of_getElem? (i := 539) (by decide +kernel))) (by decide +kernel)
-- 540 laysStatic "java/lang/StringUTF16" "$assertionsDisabled" "Z"
theorem wf_J2_59 : Cond.fieldLink RJ2 59 "java/lang/StringUTF16" "HI_BYTE_SHIFT" "I" ∈ TB := tb_of (List.mem_append_right _ (List.mem_of_getElem? (i := 541) (by decide +kernel))) (by decide +kernel)
-- 542 laysStatic "java/lang/StringUTF16" "HI_BYTE_SHIFT" "I"
theorem wf_J2_63 : Cond.fieldLink RJ2 63 "java/lang/StringUTF16" "LO_BYTE_SHIFT" "I" ∈ TB := tb_of (List.mem_append_right _ (List.mem_of_getElem? (i := 543) (by decide +kernel))) (by decide +kernel)
-- 544 laysStatic "java/lang/StringUTF16" "LO_BYTE_SHIFT" "I"
-- 545 stringRef "NamedFountains$TextReader" (77 : Nat) "mayor"
-- 546 stringRef "NamedFountains$TextReader" (79 : Nat) "wife"
-- 547 stringRef "NamedFountains$TextReader" (81 : Nat) "basin"
-- 548 stringRef "NamedFountains$TextReader" (83 : Nat) "bishop"
-- 549 stringRef "NamedFountains$TextReader" (85 : Nat) "boy"
theorem wl_X3_42 : Cond.methodLink RX3 42 yX3_takeFountain ∈ TB := tb_of (List.mem_append_right _ (List.mem_of_getElem? (i := 550) (by decide +kernel))) (by decide +kernel)
theorem wl_X3_87 : Cond.methodLink RX3 87 yX4_addOne ∈ TB := tb_of (List.mem_append_right _ (List.mem_of_getElem? (i := 554) (by decide +kernel))) (by decide +kernel)
theorem wl_X3_91 : Cond.methodLink RX3 91 yX4_has ∈ TB := tb_of (List.mem_append_right _ (List.mem_of_getElem? (i := 555) (by decide +kernel))) (by decide +kernel)
-- 556 stringRef "NamedFountains$TextReader" (99 : Nat) "high"
theorem wl_X3_48 : Cond.methodLink RX3 48 yX3_takeWord ∈ TB := tb_of (List.mem_append_right _ (List.mem_of_getElem? (i := 557) (by decide +kernel))) (by decide +kernel)
theorem wl_X3_64 : Cond.methodLink RX3 64 yX3_takeNumber ∈ TB := tb_of (List.mem_append_right _ (List.mem_of_getElem? (i := 561) (by decide +kernel))) (by decide +kernel)
-- 565 stringRef "NamedFountains$TextReader" (105 : Nat) "loved"
-- 566 stringRef "NamedFountains$TextReader" (109 : Nat) "off"
-- 567 stringRef "NamedFountains$TextReader" (46 : Nat) "rain"
theorem wl_X3_52 : Cond.methodLink RX3 52 yX3_takeRain ∈ TB := tb_of (List.mem_append_right _ (List.mem_of_getElem? (i := 568) (by decide +kernel))) (by decide +kernel)
-- 572 stringRef "NamedFountains$TextReader" (55 : Nat) "cold"
theorem wl_X3_57 : Cond.methodLink RX3 57 yX3_takeFrost ∈ TB := tb_of (List.mem_append_right _ (List.mem_of_getElem? (i := 573) (by decide +kernel))) (by decide +kernel)
-- 577 stringRef "NamedFountains$TextReader" (60 : Nat) "mild"
-- 578 stringRef "NamedFountains$TextReader" (62 : Nat) "tank"
-- 579 arrayClass Jvm.ClassFile.FieldType.byte
theorem wl_L_117 : Cond.methodLink RL 117 yX5_sheet ∈ TB := tb_of (List.mem_append_right _ (List.mem_of_getElem? (i := 580) (by decide +kernel))) (by decide +kernel)
theorem wl_X5_204 : Cond.methodLink RX5 204 yX5_isSheet ∈ TB := tb_of (List.mem_append_right _ (List.mem_of_getElem? (i := 584) (by decide +kernel))) (by decide +kernel)
theorem wc_X5_207 : Cond.constant RX5 207 (iI (-1000000007)) ∈ TB := tb_of (List.mem_append_right _ (List.mem_of_getElem? (i := 587) (by decide +kernel))) (by decide +kernel)
theorem wl_X5_208 : Cond.methodLink RX5 208 yX1_lay ∈ TB := tb_of (List.mem_append_right _ (List.mem_of_getElem? (i := 588) (by decide +kernel))) (by decide +kernel)
theorem wl_X1_22 : Cond.methodLink RX1 22 Lib.Math.min.name ∈ TB := tb_of (List.mem_append_right _ (List.mem_of_getElem? (i := 592) (by decide +kernel))) (by decide +kernel)
theorem wl_X1_28 : Cond.methodLink RX1 28 Lib.Math.max.name ∈ TB := tb_of (List.mem_append_right _ (List.mem_of_getElem? (i := 593) (by decide +kernel))) (by decide +kernel)
theorem wl_X1_31 : Cond.methodLink RX1 31 yJ7_fill_d0a16 ∈ TB := tb_of (List.mem_append_right _ (List.mem_of_getElem? (i := 594) (by decide +kernel))) (by decide +kernel)
theorem wl_L_123 : Cond.methodLink RL 123 yX5_write ∈ TB := tb_of (List.mem_append_right _ (List.mem_of_getElem? (i := 597) (by decide +kernel))) (by decide +kernel)
theorem wl_X5_213 : Cond.methodLink RX5 213 yX5_askSheet ∈ TB := tb_of (List.mem_append_right _ (List.mem_of_getElem? (i := 601) (by decide +kernel))) (by decide +kernel)
theorem wl_X5_224 : Cond.methodLink RX5 224 yX1_isMissing ∈ TB := tb_of (List.mem_append_right _ (List.mem_of_getElem? (i := 605) (by decide +kernel))) (by decide +kernel)
theorem wc_X5_227 : Cond.constant RX5 227 (iI (-1000000006)) ∈ TB := tb_of (List.mem_append_right _ (List.mem_of_getElem? (i := 609) (by decide +kernel))) (by decide +kernel)
theorem wl_X5_220 : Cond.methodLink RX5 220 yX1_put ∈ TB := tb_of (List.mem_append_right _ (List.mem_of_getElem? (i := 610) (by decide +kernel))) (by decide +kernel)
theorem wl_L_128 : Cond.methodLink RL 128 yX5_copy ∈ TB := tb_of (List.mem_append_right _ (List.mem_of_getElem? (i := 614) (by decide +kernel))) (by decide +kernel)
theorem wl_X5_231 : Cond.methodLink RX5 231 yX1_hasFrom ∈ TB := tb_of (List.mem_append_right _ (List.mem_of_getElem? (i := 618) (by decide +kernel))) (by decide +kernel)
theorem wl_L_133 : Cond.methodLink RL 133 yX5_lays ∈ TB := tb_of (List.mem_append_right _ (List.mem_of_getElem? (i := 623) (by decide +kernel))) (by decide +kernel)
theorem wc_X5_240 : Cond.constantLong RX5 240 (lI (99)) ∈ TB := tb_of (List.mem_append_right _ (List.mem_of_getElem? (i := 627) (by decide +kernel))) (by decide +kernel)
theorem wl_L_137 : Cond.methodLink RL 137 yX5_book ∈ TB := tb_of (List.mem_append_right _ (List.mem_of_getElem? (i := 628) (by decide +kernel))) (by decide +kernel)
theorem wl_L_141 : Cond.methodLink RL 141 yX5_read ∈ TB := tb_of (List.mem_append_right _ (List.mem_of_getElem? (i := 632) (by decide +kernel))) (by decide +kernel)
theorem wl_X5_242 : Cond.methodLink RX5 242 yX4_goesBy ∈ TB := tb_of (List.mem_append_right _ (List.mem_of_getElem? (i := 636) (by decide +kernel))) (by decide +kernel)
theorem wl_L_145 : Cond.methodLink RL 145 yX5_image ∈ TB := tb_of (List.mem_append_right _ (List.mem_of_getElem? (i := 640) (by decide +kernel))) (by decide +kernel)
theorem wl_L_149 : Cond.methodLink RL 149 yX5_undo ∈ TB := tb_of (List.mem_append_right _ (List.mem_of_getElem? (i := 644) (by decide +kernel))) (by decide +kernel)
theorem wl_L_153 : Cond.methodLink RL 153 yX5_tear ∈ TB := tb_of (List.mem_append_right _ (List.mem_of_getElem? (i := 648) (by decide +kernel))) (by decide +kernel)
theorem wl_L_157 : Cond.methodLink RL 157 yX5_count ∈ TB := tb_of (List.mem_append_right _ (List.mem_of_getElem? (i := 652) (by decide +kernel))) (by decide +kernel)
theorem wl_X5_246 : Cond.methodLink RX5 246 yJ6_bitCount_0f7a4 ∈ TB := tb_of (List.mem_append_right _ (List.mem_of_getElem? (i := 656) (by decide +kernel))) (by decide +kernel)
theorem wc_J6_265 : Cond.constant RJ6 265 (iI (1431655765)) ∈ TB := tb_of (List.mem_append_right _ (List.mem_of_getElem? (i := 659) (by decide +kernel))) (by decide +kernel)
theorem wc_J6_266 : Cond.constant RJ6 266 (iI (858993459)) ∈ TB := tb_of (List.mem_append_right _ (List.mem_of_getElem? (i := 660) (by decide +kernel))) (by decide +kernel)
theorem wc_J6_267 : Cond.constant RJ6 267 (iI (252645135)) ∈ TB := tb_of (List.mem_append_right _ (List.mem_of_getElem? (i := 661) (by decide +kernel))) (by decide +kernel)
theorem wl_L_161 : Cond.methodLink RL 161 yX5_status ∈ TB := tb_of (List.mem_append_right _ (List.mem_of_getElem? (i := 662) (by decide +kernel))) (by decide +kernel)
theorem wk_L_10 : Cond.classLink RL 10 RX6 ∈ TB := tb_of (List.mem_append_right _ (List.mem_of_getElem? (i := 666) (by decide +kernel))) (by decide +kernel)
theorem wi_X6 : Cond.instantiable RX6 15 ∈ TB := tb_of (List.mem_append_right _ (List.mem_of_getElem? (i := 667) (by decide +kernel))) (by decide +kernel)
theorem wl_L_12 : Cond.methodLink RL 12 yX6_init ∈ TB := tb_of (List.mem_append_right _ (List.mem_of_getElem? (i := 668) (by decide +kernel))) (by decide +kernel)
theorem wl_X6_3 : Cond.methodLink RX6 3 objectInit ∈ TB := tb_of (List.mem_append_right _ (List.mem_of_getElem? (i := 671) (by decide +kernel))) (by decide +kernel)
theorem wf_X6_9 : Cond.fieldLink RX6 9 "NamedFountainsModel" "m" "[I" ∈ TB := tb_of (List.mem_append_right _ (List.mem_of_getElem? (i := 672) (by decide +kernel))) (by decide +kernel)
theorem wf_X6_13 : Cond.fieldLink RX6 13 "NamedFountainsModel" "kept" "[I" ∈ TB := tb_of (List.mem_append_right _ (List.mem_of_getElem? (i := 673) (by decide +kernel))) (by decide +kernel)
theorem wf_X6_16 : Cond.fieldLink RX6 16 "NamedFountainsModel" "was" "[I" ∈ TB := tb_of (List.mem_append_right _ (List.mem_of_getElem? (i := 674) (by decide +kernel))) (by decide +kernel)
theorem wf_X6_229 : Cond.fieldLink RX6 229 "NamedFountainsModel" "isKept" "Z" ∈ TB := tb_of (List.mem_append_right _ (List.mem_of_getElem? (i := 675) (by decide +kernel))) (by decide +kernel)
theorem wf_X6_19 : Cond.fieldLink RX6 19 "NamedFountainsModel" "found" "[I" ∈ TB := tb_of (List.mem_append_right _ (List.mem_of_getElem? (i := 676) (by decide +kernel))) (by decide +kernel)
theorem wf_X6_22 : Cond.fieldLink RX6 22 "NamedFountainsModel" "tape" "[I" ∈ TB := tb_of (List.mem_append_right _ (List.mem_of_getElem? (i := 677) (by decide +kernel))) (by decide +kernel)
theorem wf_X6_153 : Cond.fieldLink RX6 153 "NamedFountainsModel" "taped" "I" ∈ TB := tb_of (List.mem_append_right _ (List.mem_of_getElem? (i := 678) (by decide +kernel))) (by decide +kernel)
theorem wf_X6_176 : Cond.fieldLink RX6 176 "NamedFountainsModel" "token" "I" ∈ TB := tb_of (List.mem_append_right _ (List.mem_of_getElem? (i := 679) (by decide +kernel))) (by decide +kernel)
theorem wf_X6_160 : Cond.fieldLink RX6 160 "NamedFountainsModel" "begin" "I" ∈ TB := tb_of (List.mem_append_right _ (List.mem_of_getElem? (i := 680) (by decide +kernel))) (by decide +kernel)
theorem wf_X6_163 : Cond.fieldLink RX6 163 "NamedFountainsModel" "at" "I" ∈ TB := tb_of (List.mem_append_right _ (List.mem_of_getElem? (i := 681) (by decide +kernel))) (by decide +kernel)
theorem wf_X6_173 : Cond.fieldLink RX6 173 "NamedFountainsModel" "value" "I" ∈ TB := tb_of (List.mem_append_right _ (List.mem_of_getElem? (i := 682) (by decide +kernel))) (by decide +kernel)
theorem wf_X6_182 : Cond.fieldLink RX6 182 "NamedFountainsModel" "bad" "Z" ∈ TB := tb_of (List.mem_append_right _ (List.mem_of_getElem? (i := 683) (by decide +kernel))) (by decide +kernel)
theorem wf_X6_25 : Cond.fieldLink RX6 25 "NamedFountainsModel" "bitsOf" "[I" ∈ TB := tb_of (List.mem_append_right _ (List.mem_of_getElem? (i := 684) (by decide +kernel))) (by decide +kernel)
theorem wf_X6_28 : Cond.fieldLink RX6 28 "NamedFountainsModel" "sizeOf" "[I" ∈ TB := tb_of (List.mem_append_right _ (List.mem_of_getElem? (i := 685) (by decide +kernel))) (by decide +kernel)
theorem wf_X6_31 : Cond.fieldLink RX6 31 "NamedFountainsModel" "cells" "[J" ∈ TB := tb_of (List.mem_append_right _ (List.mem_of_getElem? (i := 686) (by decide +kernel))) (by decide +kernel)
-- 717 superclass "NamedFountainsModel" "java/lang/Object"
theorem wl_L_17 : Cond.methodLink RL 17 yX6_water ∈ TB := tb_of (List.mem_append_right _ (List.mem_of_getElem? (i := 718) (by decide +kernel))) (by decide +kernel)
theorem wl_X6_41 : Cond.methodLink RX6 41 yX6_in ∈ TB := tb_of (List.mem_append_right _ (List.mem_of_getElem? (i := 722) (by decide +kernel))) (by decide +kernel)
theorem wl_X6_68 : Cond.methodLink RX6 68 yX6_becomes ∈ TB := tb_of (List.mem_append_right _ (List.mem_of_getElem? (i := 725) (by decide +kernel))) (by decide +kernel)
theorem wc_X6_35 : Cond.constant RX6 35 (iI (-1000000001)) ∈ TB := tb_of (List.mem_append_right _ (List.mem_of_getElem? (i := 729) (by decide +kernel))) (by decide +kernel)
theorem wl_X6_37 : Cond.methodLink RX6 37 yX6_finds ∈ TB := tb_of (List.mem_append_right _ (List.mem_of_getElem? (i := 730) (by decide +kernel))) (by decide +kernel)
theorem wl_L_22 : Cond.methodLink RL 22 yX6_week ∈ TB := tb_of (List.mem_append_right _ (List.mem_of_getElem? (i := 734) (by decide +kernel))) (by decide +kernel)
theorem wl_L_27 : Cond.methodLink RL 27 yX6_now ∈ TB := tb_of (List.mem_append_right _ (List.mem_of_getElem? (i := 738) (by decide +kernel))) (by decide +kernel)
theorem wl_X6_45 : Cond.methodLink RX6 45 yX6_weekNow ∈ TB := tb_of (List.mem_append_right _ (List.mem_of_getElem? (i := 742) (by decide +kernel))) (by decide +kernel)
theorem wl_X6_77 : Cond.methodLink RX6 77 yX6_offOnes ∈ TB := tb_of (List.mem_append_right _ (List.mem_of_getElem? (i := 746) (by decide +kernel))) (by decide +kernel)
theorem wl_X6_49 : Cond.methodLink RX6 49 yX6_it ∈ TB := tb_of (List.mem_append_right _ (List.mem_of_getElem? (i := 750) (by decide +kernel))) (by decide +kernel)
theorem wl_X6_80 : Cond.methodLink RX6 80 yX6_noise ∈ TB := tb_of (List.mem_append_right _ (List.mem_of_getElem? (i := 754) (by decide +kernel))) (by decide +kernel)
theorem wl_X6_71 : Cond.methodLink RX6 71 yX6_heard ∈ TB := tb_of (List.mem_append_right _ (List.mem_of_getElem? (i := 758) (by decide +kernel))) (by decide +kernel)
theorem wl_X6_57 : Cond.methodLink RX6 57 yX6_isOff ∈ TB := tb_of (List.mem_append_right _ (List.mem_of_getElem? (i := 762) (by decide +kernel))) (by decide +kernel)
theorem wl_X6_83 : Cond.methodLink RX6 83 yX6_allUses ∈ TB := tb_of (List.mem_append_right _ (List.mem_of_getElem? (i := 766) (by decide +kernel))) (by decide +kernel)
theorem wl_X6_74 : Cond.methodLink RX6 74 yX6_uses ∈ TB := tb_of (List.mem_append_right _ (List.mem_of_getElem? (i := 770) (by decide +kernel))) (by decide +kernel)
theorem wl_X6_53 : Cond.methodLink RX6 53 yX6_held ∈ TB := tb_of (List.mem_append_right _ (List.mem_of_getElem? (i := 774) (by decide +kernel))) (by decide +kernel)
theorem wl_X6_61 : Cond.methodLink RX6 61 yX6_isCold ∈ TB := tb_of (List.mem_append_right _ (List.mem_of_getElem? (i := 777) (by decide +kernel))) (by decide +kernel)
theorem wl_L_31 : Cond.methodLink RL 31 yX6_fountain ∈ TB := tb_of (List.mem_append_right _ (List.mem_of_getElem? (i := 781) (by decide +kernel))) (by decide +kernel)
theorem wc_X6_90 : Cond.constant RX6 90 (iI (-1000000002)) ∈ TB := tb_of (List.mem_append_right _ (List.mem_of_getElem? (i := 785) (by decide +kernel))) (by decide +kernel)
theorem wl_X6_91 : Cond.methodLink RX6 91 yX6_comesAs ∈ TB := tb_of (List.mem_append_right _ (List.mem_of_getElem? (i := 786) (by decide +kernel))) (by decide +kernel)
theorem wl_X6_86 : Cond.methodLink RX6 86 yX6_put ∈ TB := tb_of (List.mem_append_right _ (List.mem_of_getElem? (i := 790) (by decide +kernel))) (by decide +kernel)
theorem wl_L_35 : Cond.methodLink RL 35 yX6_of ∈ TB := tb_of (List.mem_append_right _ (List.mem_of_getElem? (i := 794) (by decide +kernel))) (by decide +kernel)
theorem wl_X6_95 : Cond.methodLink RX6 95 yX6_isFountain ∈ TB := tb_of (List.mem_append_right _ (List.mem_of_getElem? (i := 798) (by decide +kernel))) (by decide +kernel)
theorem wl_X6_98 : Cond.methodLink RX6 98 yX6_gains ∈ TB := tb_of (List.mem_append_right _ (List.mem_of_getElem? (i := 802) (by decide +kernel))) (by decide +kernel)
theorem wl_X6_65 : Cond.methodLink RX6 65 yX6_givesWay ∈ TB := tb_of (List.mem_append_right _ (List.mem_of_getElem? (i := 806) (by decide +kernel))) (by decide +kernel)
theorem wl_L_39 : Cond.methodLink RL 39 yX6_set ∈ TB := tb_of (List.mem_append_right _ (List.mem_of_getElem? (i := 810) (by decide +kernel))) (by decide +kernel)
theorem wl_X6_101 : Cond.methodLink RX6 101 yX6_mostOf ∈ TB := tb_of (List.mem_append_right _ (List.mem_of_getElem? (i := 814) (by decide +kernel))) (by decide +kernel)
theorem wl_L_43 : Cond.methodLink RL 43 yX6_turn ∈ TB := tb_of (List.mem_append_right _ (List.mem_of_getElem? (i := 817) (by decide +kernel))) (by decide +kernel)
theorem wl_L_47 : Cond.methodLink RL 47 yX6_as ∈ TB := tb_of (List.mem_append_right _ (List.mem_of_getElem? (i := 821) (by decide +kernel))) (by decide +kernel)
theorem wc_X6_104 : Cond.constant RX6 104 (iI (-1000000003)) ∈ TB := tb_of (List.mem_append_right _ (List.mem_of_getElem? (i := 825) (by decide +kernel))) (by decide +kernel)
theorem wl_L_52 : Cond.methodLink RL 52 yX6_next ∈ TB := tb_of (List.mem_append_right _ (List.mem_of_getElem? (i := 826) (by decide +kernel))) (by decide +kernel)
theorem wl_X6_105 : Cond.methodLink RX6 105 yX6_first ∈ TB := tb_of (List.mem_append_right _ (List.mem_of_getElem? (i := 830) (by decide +kernel))) (by decide +kernel)
theorem wl_X6_109 : Cond.methodLink RX6 109 yX6_orNone ∈ TB := tb_of (List.mem_append_right _ (List.mem_of_getElem? (i := 834) (by decide +kernel))) (by decide +kernel)
theorem wc_X6_36 : Cond.constant RX6 36 (iI (-1000000004)) ∈ TB := tb_of (List.mem_append_right _ (List.mem_of_getElem? (i := 838) (by decide +kernel))) (by decide +kernel)
theorem wl_L_56 : Cond.methodLink RL 56 yX6_days ∈ TB := tb_of (List.mem_append_right _ (List.mem_of_getElem? (i := 839) (by decide +kernel))) (by decide +kernel)
theorem wc_X6_125 : Cond.constant RX6 125 (iI (99999)) ∈ TB := tb_of (List.mem_append_right _ (List.mem_of_getElem? (i := 843) (by decide +kernel))) (by decide +kernel)
theorem wc_X6_126 : Cond.constant RX6 126 (iI (-1000000005)) ∈ TB := tb_of (List.mem_append_right _ (List.mem_of_getElem? (i := 844) (by decide +kernel))) (by decide +kernel)
theorem wl_X6_127 : Cond.methodLink RX6 127 yX6_goesFor ∈ TB := tb_of (List.mem_append_right _ (List.mem_of_getElem? (i := 845) (by decide +kernel))) (by decide +kernel)
theorem wl_X6_122 : Cond.methodLink RX6 122 yX6_goes ∈ TB := tb_of (List.mem_append_right _ (List.mem_of_getElem? (i := 849) (by decide +kernel))) (by decide +kernel)
theorem wl_X6_116 : Cond.methodLink RX6 116 yX6_committee ∈ TB := tb_of (List.mem_append_right _ (List.mem_of_getElem? (i := 853) (by decide +kernel))) (by decide +kernel)
theorem wl_X6_112 : Cond.methodLink RX6 112 yX6_turnsOff ∈ TB := tb_of (List.mem_append_right _ (List.mem_of_getElem? (i := 857) (by decide +kernel))) (by decide +kernel)
theorem wl_X6_119 : Cond.methodLink RX6 119 yX6_flows ∈ TB := tb_of (List.mem_append_right _ (List.mem_of_getElem? (i := 861) (by decide +kernel))) (by decide +kernel)
theorem wl_L_60 : Cond.methodLink RL 60 yX6_on ∈ TB := tb_of (List.mem_append_right _ (List.mem_of_getElem? (i := 865) (by decide +kernel))) (by decide +kernel)
theorem wl_X6_134 : Cond.methodLink RX6 134 yX6_thinks ∈ TB := tb_of (List.mem_append_right _ (List.mem_of_getElem? (i := 869) (by decide +kernel))) (by decide +kernel)
theorem wl_X6_130 : Cond.methodLink RX6 130 yX6_copyAll ∈ TB := tb_of (List.mem_append_right _ (List.mem_of_getElem? (i := 873) (by decide +kernel))) (by decide +kernel)
theorem wl_X6_137 : Cond.methodLink RX6 137 yX6_putsBack ∈ TB := tb_of (List.mem_append_right _ (List.mem_of_getElem? (i := 876) (by decide +kernel))) (by decide +kernel)
theorem wl_L_64 : Cond.methodLink RL 64 yX6_then ∈ TB := tb_of (List.mem_append_right _ (List.mem_of_getElem? (i := 880) (by decide +kernel))) (by decide +kernel)
theorem wl_L_68 : Cond.methodLink RL 68 yX6_falls ∈ TB := tb_of (List.mem_append_right _ (List.mem_of_getElem? (i := 884) (by decide +kernel))) (by decide +kernel)
theorem wl_L_72 : Cond.methodLink RL 72 yX6_off ∈ TB := tb_of (List.mem_append_right _ (List.mem_of_getElem? (i := 888) (by decide +kernel))) (by decide +kernel)
theorem wl_X6_140 : Cond.methodLink RX6 140 yX6_offIn ∈ TB := tb_of (List.mem_append_right _ (List.mem_of_getElem? (i := 892) (by decide +kernel))) (by decide +kernel)
theorem wl_L_76 : Cond.methodLink RL 76 yX6_quiet ∈ TB := tb_of (List.mem_append_right _ (List.mem_of_getElem? (i := 896) (by decide +kernel))) (by decide +kernel)
theorem wl_L_80 : Cond.methodLink RL 80 yX6_best ∈ TB := tb_of (List.mem_append_right _ (List.mem_of_getElem? (i := 900) (by decide +kernel))) (by decide +kernel)
theorem wl_L_84 : Cond.methodLink RL 84 yX6_high ∈ TB := tb_of (List.mem_append_right _ (List.mem_of_getElem? (i := 904) (by decide +kernel))) (by decide +kernel)
theorem wl_X6_146 : Cond.methodLink RX6 146 yX6_staysUp ∈ TB := tb_of (List.mem_append_right _ (List.mem_of_getElem? (i := 908) (by decide +kernel))) (by decide +kernel)
theorem wl_L_88 : Cond.methodLink RL 88 yX6_loved ∈ TB := tb_of (List.mem_append_right _ (List.mem_of_getElem? (i := 912) (by decide +kernel))) (by decide +kernel)
theorem wl_L_92 : Cond.methodLink RL 92 yX6_kind ∈ TB := tb_of (List.mem_append_right _ (List.mem_of_getElem? (i := 916) (by decide +kernel))) (by decide +kernel)
theorem wl_L_96 : Cond.methodLink RL 96 yX6_rain ∈ TB := tb_of (List.mem_append_right _ (List.mem_of_getElem? (i := 920) (by decide +kernel))) (by decide +kernel)
theorem wl_L_100 : Cond.methodLink RL 100 yX6_enough ∈ TB := tb_of (List.mem_append_right _ (List.mem_of_getElem? (i := 924) (by decide +kernel))) (by decide +kernel)
theorem wl_X6_143 : Cond.methodLink RX6 143 yX6_allStooped ∈ TB := tb_of (List.mem_append_right _ (List.mem_of_getElem? (i := 928) (by decide +kernel))) (by decide +kernel)
theorem wl_X6_150 : Cond.methodLink RX6 150 yX6_stoopedOn ∈ TB := tb_of (List.mem_append_right _ (List.mem_of_getElem? (i := 932) (by decide +kernel))) (by decide +kernel)
theorem wl_L_104 : Cond.methodLink RL 104 yX6_rule ∈ TB := tb_of (List.mem_append_right _ (List.mem_of_getElem? (i := 936) (by decide +kernel))) (by decide +kernel)
theorem wl_L_108 : Cond.methodLink RL 108 yX6_feed ∈ TB := tb_of (List.mem_append_right _ (List.mem_of_getElem? (i := 940) (by decide +kernel))) (by decide +kernel)
theorem wl_L_112 : Cond.methodLink RL 112 yX6_wipe ∈ TB := tb_of (List.mem_append_right _ (List.mem_of_getElem? (i := 944) (by decide +kernel))) (by decide +kernel)
theorem wl_L_116 : Cond.methodLink RL 116 yX6_town ∈ TB := tb_of (List.mem_append_right _ (List.mem_of_getElem? (i := 948) (by decide +kernel))) (by decide +kernel)
theorem wl_X6_186 : Cond.methodLink RX6 186 yX6_reads ∈ TB := tb_of (List.mem_append_right _ (List.mem_of_getElem? (i := 952) (by decide +kernel))) (by decide +kernel)
theorem wl_X6_169 : Cond.methodLink RX6 169 yX6_isByte ∈ TB := tb_of (List.mem_append_right _ (List.mem_of_getElem? (i := 956) (by decide +kernel))) (by decide +kernel)
theorem wl_X6_179 : Cond.methodLink RX6 179 yX6_wordHere ∈ TB := tb_of (List.mem_append_right _ (List.mem_of_getElem? (i := 960) (by decide +kernel))) (by decide +kernel)
theorem wl_X6_166 : Cond.methodLink RX6 166 yX6_isName ∈ TB := tb_of (List.mem_append_right _ (List.mem_of_getElem? (i := 964) (by decide +kernel))) (by decide +kernel)
theorem wf_X6_157 : Cond.fieldLink RX6 157 "NamedFountainsModel" "NAMES" "[I" ∈ TB := tb_of (List.mem_append_right _ (List.mem_of_getElem? (i := 968) (by decide +kernel))) (by decide +kernel)
-- 969 laysStatic "NamedFountainsModel" "NAMES" "[I"
theorem wl_X6_207 : Cond.methodLink RX6 207 yX6_item ∈ TB := tb_of (List.mem_append_right _ (List.mem_of_getElem? (i := 970) (by decide +kernel))) (by decide +kernel)
theorem wl_X6_198 : Cond.methodLink RX6 198 yX6_fountainItem ∈ TB := tb_of (List.mem_append_right _ (List.mem_of_getElem? (i := 974) (by decide +kernel))) (by decide +kernel)
theorem wl_X6_195 : Cond.methodLink RX6 195 yX6_perhaps ∈ TB := tb_of (List.mem_append_right _ (List.mem_of_getElem? (i := 978) (by decide +kernel))) (by decide +kernel)
theorem wl_X6_189 : Cond.methodLink RX6 189 yX6_passes ∈ TB := tb_of (List.mem_append_right _ (List.mem_of_getElem? (i := 982) (by decide +kernel))) (by decide +kernel)
theorem wl_X6_192 : Cond.methodLink RX6 192 yX6_number ∈ TB := tb_of (List.mem_append_right _ (List.mem_of_getElem? (i := 986) (by decide +kernel))) (by decide +kernel)
theorem wl_X6_201 : Cond.methodLink RX6 201 yX6_rainItem ∈ TB := tb_of (List.mem_append_right _ (List.mem_of_getElem? (i := 990) (by decide +kernel))) (by decide +kernel)
theorem wl_X6_204 : Cond.methodLink RX6 204 yX6_coldItem ∈ TB := tb_of (List.mem_append_right _ (List.mem_of_getElem? (i := 994) (by decide +kernel))) (by decide +kernel)
theorem wl_L_120 : Cond.methodLink RL 120 yX6_sheet ∈ TB := tb_of (List.mem_append_right _ (List.mem_of_getElem? (i := 998) (by decide +kernel))) (by decide +kernel)
theorem wl_X6_210 : Cond.methodLink RX6 210 yX6_isSheet ∈ TB := tb_of (List.mem_append_right _ (List.mem_of_getElem? (i := 1002) (by decide +kernel))) (by decide +kernel)
theorem wc_X6_213 : Cond.constant RX6 213 (iI (-1000000007)) ∈ TB := tb_of (List.mem_append_right _ (List.mem_of_getElem? (i := 1005) (by decide +kernel))) (by decide +kernel)
theorem wl_L_127 : Cond.methodLink RL 127 yX6_write ∈ TB := tb_of (List.mem_append_right _ (List.mem_of_getElem? (i := 1006) (by decide +kernel))) (by decide +kernel)
theorem wl_X6_215 : Cond.methodLink RX6 215 yX6_notThere ∈ TB := tb_of (List.mem_append_right _ (List.mem_of_getElem? (i := 1010) (by decide +kernel))) (by decide +kernel)
theorem wc_X6_214 : Cond.constant RX6 214 (iI (-1000000006)) ∈ TB := tb_of (List.mem_append_right _ (List.mem_of_getElem? (i := 1014) (by decide +kernel))) (by decide +kernel)
theorem wl_X6_218 : Cond.methodLink RX6 218 yX6_cutTo ∈ TB := tb_of (List.mem_append_right _ (List.mem_of_getElem? (i := 1015) (by decide +kernel))) (by decide +kernel)
theorem wl_L_132 : Cond.methodLink RL 132 yX6_copy ∈ TB := tb_of (List.mem_append_right _ (List.mem_of_getElem? (i := 1018) (by decide +kernel))) (by decide +kernel)
theorem wl_X6_222 : Cond.methodLink RX6 222 yX6_notCopied ∈ TB := tb_of (List.mem_append_right _ (List.mem_of_getElem? (i := 1022) (by decide +kernel))) (by decide +kernel)
theorem wl_L_136 : Cond.methodLink RL 136 yX6_lays ∈ TB := tb_of (List.mem_append_right _ (List.mem_of_getElem? (i := 1026) (by decide +kernel))) (by decide +kernel)
theorem wl_L_140 : Cond.methodLink RL 140 yX6_book ∈ TB := tb_of (List.mem_append_right _ (List.mem_of_getElem? (i := 1030) (by decide +kernel))) (by decide +kernel)
theorem wl_L_144 : Cond.methodLink RL 144 yX6_read ∈ TB := tb_of (List.mem_append_right _ (List.mem_of_getElem? (i := 1034) (by decide +kernel))) (by decide +kernel)
theorem wl_X6_226 : Cond.methodLink RX6 226 yX6_isBook ∈ TB := tb_of (List.mem_append_right _ (List.mem_of_getElem? (i := 1038) (by decide +kernel))) (by decide +kernel)
theorem wl_L_148 : Cond.methodLink RL 148 yX6_image ∈ TB := tb_of (List.mem_append_right _ (List.mem_of_getElem? (i := 1042) (by decide +kernel))) (by decide +kernel)
theorem wl_L_152 : Cond.methodLink RL 152 yX6_undo ∈ TB := tb_of (List.mem_append_right _ (List.mem_of_getElem? (i := 1046) (by decide +kernel))) (by decide +kernel)
theorem wl_L_156 : Cond.methodLink RL 156 yX6_tear ∈ TB := tb_of (List.mem_append_right _ (List.mem_of_getElem? (i := 1050) (by decide +kernel))) (by decide +kernel)
theorem wl_L_160 : Cond.methodLink RL 160 yX6_count ∈ TB := tb_of (List.mem_append_right _ (List.mem_of_getElem? (i := 1054) (by decide +kernel))) (by decide +kernel)
theorem wl_X6_232 : Cond.methodLink RX6 232 yX6_bits ∈ TB := tb_of (List.mem_append_right _ (List.mem_of_getElem? (i := 1058) (by decide +kernel))) (by decide +kernel)
theorem wl_L_164 : Cond.methodLink RL 164 yX6_status ∈ TB := tb_of (List.mem_append_right _ (List.mem_of_getElem? (i := 1061) (by decide +kernel))) (by decide +kernel)
theorem wc_L_121 : Cond.constantLong RL 121 (lI (4294967295)) ∈ TB := tb_of (List.mem_append_right _ (List.mem_of_getElem? (i := 1065) (by decide +kernel))) (by decide +kernel)
theorem wf_J0_9 : Cond.fieldLink RJ0 9 "java/lang/String" "value" "[B" ∈ TB := tb_of (List.mem_append_right _ (List.mem_of_getElem? (i := 1066) (by decide +kernel))) (by decide +kernel)
theorem wf_J0_15 : Cond.fieldLink RJ0 15 "java/lang/String" "coder" "B" ∈ TB := tb_of (List.mem_append_right _ (List.mem_of_getElem? (i := 1067) (by decide +kernel))) (by decide +kernel)
theorem mb_X5_init : MB yX5_init cX5_init 1 none 0 := ⟨tb_of (List.mem_append_right _ (List.mem_of_getElem? (i := 1) (by decide +kernel))) (by decide +kernel), tb_of (List.mem_append_right _ (List.mem_of_getElem? (i := 20) (by decide +kernel))) (by decide +kernel), by decide +kernel⟩
theorem mi_X5_init : Cond.instanceMethod yX5_init ∈ TB := tb_of (List.mem_append_right _ (List.mem_of_getElem? (i := 19) (by decide +kernel))) (by decide +kernel)
theorem mb_X4_init : MB yX4_init cX4_init 2 none 0 := ⟨tb_of (List.mem_append_right _ (List.mem_of_getElem? (i := 2) (by decide +kernel))) (by decide +kernel), tb_of (List.mem_append_right _ (List.mem_of_getElem? (i := 28) (by decide +kernel))) (by decide +kernel), by decide +kernel⟩
theorem mi_X4_init : Cond.instanceMethod yX4_init ∈ TB := tb_of (List.mem_append_right _ (List.mem_of_getElem? (i := 27) (by decide +kernel))) (by decide +kernel)
theorem mb_X0_init : MB yX0_init cX0_init 1 none 0 := ⟨tb_of (List.mem_append_right _ (List.mem_of_getElem? (i := 3) (by decide +kernel))) (by decide +kernel), tb_of (List.mem_append_right _ (List.mem_of_getElem? (i := 35) (by decide +kernel))) (by decide +kernel), by decide +kernel⟩
theorem mi_X0_init : Cond.instanceMethod yX0_init ∈ TB := tb_of (List.mem_append_right _ (List.mem_of_getElem? (i := 34) (by decide +kernel))) (by decide +kernel)
theorem mb_X2_init : MB yX2_init cX2_init 1 none 0 := ⟨tb_of (List.mem_append_right _ (List.mem_of_getElem? (i := 4) (by decide +kernel))) (by decide +kernel), tb_of (List.mem_append_right _ (List.mem_of_getElem? (i := 106) (by decide +kernel))) (by decide +kernel), by decide +kernel⟩
theorem mi_X2_init : Cond.instanceMethod yX2_init ∈ TB := tb_of (List.mem_append_right _ (List.mem_of_getElem? (i := 105) (by decide +kernel))) (by decide +kernel)
theorem mb_X3_init : MB yX3_init cX3_init 2 none 1 := ⟨tb_of (List.mem_append_right _ (List.mem_of_getElem? (i := 5) (by decide +kernel))) (by decide +kernel), tb_of (List.mem_append_right _ (List.mem_of_getElem? (i := 122) (by decide +kernel))) (by decide +kernel), by decide +kernel⟩
theorem mi_X3_init : Cond.instanceMethod yX3_init ∈ TB := tb_of (List.mem_append_right _ (List.mem_of_getElem? (i := 121) (by decide +kernel))) (by decide +kernel)
theorem mb_X1_init : MB yX1_init cX1_init 1 none 0 := ⟨tb_of (List.mem_append_right _ (List.mem_of_getElem? (i := 6) (by decide +kernel))) (by decide +kernel), tb_of (List.mem_append_right _ (List.mem_of_getElem? (i := 148) (by decide +kernel))) (by decide +kernel), by decide +kernel⟩
theorem mi_X1_init : Cond.instanceMethod yX1_init ∈ TB := tb_of (List.mem_append_right _ (List.mem_of_getElem? (i := 147) (by decide +kernel))) (by decide +kernel)
theorem mb_X5_water : MB yX5_water cX5_water 4 (some .int) 2 := ⟨tb_of (List.mem_append_right _ (List.mem_of_getElem? (i := 1) (by decide +kernel))) (by decide +kernel), tb_of (List.mem_append_right _ (List.mem_of_getElem? (i := 194) (by decide +kernel))) (by decide +kernel), by decide +kernel⟩
theorem mv_X5_water : MV yX5_water := ⟨tb_of (List.mem_append_right _ (List.mem_of_getElem? (i := 192) (by decide +kernel))) (by decide +kernel), tb_of (List.mem_append_right _ (List.mem_of_getElem? (i := 193) (by decide +kernel))) (by decide +kernel)⟩
theorem mb_X5_found : MB yX5_found cX5_found 3 (some .int) 1 := ⟨tb_of (List.mem_append_right _ (List.mem_of_getElem? (i := 1) (by decide +kernel))) (by decide +kernel), tb_of (List.mem_append_right _ (List.mem_of_getElem? (i := 199) (by decide +kernel))) (by decide +kernel), by decide +kernel⟩
theorem mv_X5_found : MV yX5_found := ⟨tb_of (List.mem_append_right _ (List.mem_of_getElem? (i := 198) (by decide +kernel))) (by decide +kernel), tb_of (List.mem_append_left _ (List.mem_of_getElem? (i := 0) (by decide +kernel))) (by decide +kernel)⟩
theorem mb_X5_week : MB yX5_week cX5_week 6 (some .int) 3 := ⟨tb_of (List.mem_append_right _ (List.mem_of_getElem? (i := 1) (by decide +kernel))) (by decide +kernel), tb_of (List.mem_append_right _ (List.mem_of_getElem? (i := 203) (by decide +kernel))) (by decide +kernel), by decide +kernel⟩
theorem mv_X5_week : MV yX5_week := ⟨tb_of (List.mem_append_right _ (List.mem_of_getElem? (i := 201) (by decide +kernel))) (by decide +kernel), tb_of (List.mem_append_right _ (List.mem_of_getElem? (i := 202) (by decide +kernel))) (by decide +kernel)⟩
theorem mb_X5_now : MB yX5_now cX5_now 2 (some .int) 1 := ⟨tb_of (List.mem_append_right _ (List.mem_of_getElem? (i := 1) (by decide +kernel))) (by decide +kernel), tb_of (List.mem_append_right _ (List.mem_of_getElem? (i := 207) (by decide +kernel))) (by decide +kernel), by decide +kernel⟩
theorem mv_X5_now : MV yX5_now := ⟨tb_of (List.mem_append_right _ (List.mem_of_getElem? (i := 205) (by decide +kernel))) (by decide +kernel), tb_of (List.mem_append_right _ (List.mem_of_getElem? (i := 206) (by decide +kernel))) (by decide +kernel)⟩
theorem mb_X4_weekOfDay : MB yX4_weekOfDay cX4_weekOfDay 1 (some .int) 0 := ⟨tb_of (List.mem_append_right _ (List.mem_of_getElem? (i := 2) (by decide +kernel))) (by decide +kernel), tb_of (List.mem_append_right _ (List.mem_of_getElem? (i := 211) (by decide +kernel))) (by decide +kernel), by decide +kernel⟩
theorem mv_X4_weekOfDay : MV yX4_weekOfDay := ⟨tb_of (List.mem_append_right _ (List.mem_of_getElem? (i := 209) (by decide +kernel))) (by decide +kernel), tb_of (List.mem_append_right _ (List.mem_of_getElem? (i := 210) (by decide +kernel))) (by decide +kernel)⟩
theorem mb_J9_floorMod_7cf53 : MB yJ9_floorMod_7cf53 cJ9_floorMod_7cf53 3 (some .int) 2 := ⟨tb_of (List.mem_append_right _ (List.mem_of_getElem? (i := 8) (by decide +kernel))) (by decide +kernel), tb_of (List.mem_append_right _ (List.mem_of_getElem? (i := 214) (by decide +kernel))) (by decide +kernel), by decide +kernel⟩
theorem ms_J9_floorMod_7cf53 : Cond.static yJ9_floorMod_7cf53 ∈ TB := tb_of (List.mem_append_right _ (List.mem_of_getElem? (i := 213) (by decide +kernel))) (by decide +kernel)
theorem mb_X4_setOfOff : MB yX4_setOfOff cX4_setOfOff 3 (some .int) 0 := ⟨tb_of (List.mem_append_right _ (List.mem_of_getElem? (i := 2) (by decide +kernel))) (by decide +kernel), tb_of (List.mem_append_right _ (List.mem_of_getElem? (i := 218) (by decide +kernel))) (by decide +kernel), by decide +kernel⟩
theorem mv_X4_setOfOff : MV yX4_setOfOff := ⟨tb_of (List.mem_append_right _ (List.mem_of_getElem? (i := 216) (by decide +kernel))) (by decide +kernel), tb_of (List.mem_append_right _ (List.mem_of_getElem? (i := 217) (by decide +kernel))) (by decide +kernel)⟩
theorem mb_X4_noise : MB yX4_noise cX4_noise 3 (some .int) 0 := ⟨tb_of (List.mem_append_right _ (List.mem_of_getElem? (i := 2) (by decide +kernel))) (by decide +kernel), tb_of (List.mem_append_right _ (List.mem_of_getElem? (i := 222) (by decide +kernel))) (by decide +kernel), by decide +kernel⟩
theorem mv_X4_noise : MV yX4_noise := ⟨tb_of (List.mem_append_right _ (List.mem_of_getElem? (i := 220) (by decide +kernel))) (by decide +kernel), tb_of (List.mem_append_right _ (List.mem_of_getElem? (i := 221) (by decide +kernel))) (by decide +kernel)⟩
theorem mb_X0_heard : MB yX0_heard cX0_heard 1 (some .int) 0 := ⟨tb_of (List.mem_append_right _ (List.mem_of_getElem? (i := 3) (by decide +kernel))) (by decide +kernel), tb_of (List.mem_append_right _ (List.mem_of_getElem? (i := 226) (by decide +kernel))) (by decide +kernel), by decide +kernel⟩
theorem mv_X0_heard : MV yX0_heard := ⟨tb_of (List.mem_append_right _ (List.mem_of_getElem? (i := 224) (by decide +kernel))) (by decide +kernel), tb_of (List.mem_append_right _ (List.mem_of_getElem? (i := 225) (by decide +kernel))) (by decide +kernel)⟩
theorem mb_X0_isStill : MB yX0_isStill cX0_isStill 1 (some .boolean) 0 := ⟨tb_of (List.mem_append_right _ (List.mem_of_getElem? (i := 3) (by decide +kernel))) (by decide +kernel), tb_of (List.mem_append_right _ (List.mem_of_getElem? (i := 230) (by decide +kernel))) (by decide +kernel), by decide +kernel⟩
theorem mv_X0_isStill : MV yX0_isStill := ⟨tb_of (List.mem_append_right _ (List.mem_of_getElem? (i := 229) (by decide +kernel))) (by decide +kernel), tb_of (List.mem_append_left _ (List.mem_of_getElem? (i := 1) (by decide +kernel))) (by decide +kernel)⟩
theorem mb_X0_heardGoing : MB yX0_heardGoing cX0_heardGoing 1 (some .int) 0 := ⟨tb_of (List.mem_append_right _ (List.mem_of_getElem? (i := 3) (by decide +kernel))) (by decide +kernel), tb_of (List.mem_append_right _ (List.mem_of_getElem? (i := 234) (by decide +kernel))) (by decide +kernel), by decide +kernel⟩
theorem mv_X0_heardGoing : MV yX0_heardGoing := ⟨tb_of (List.mem_append_right _ (List.mem_of_getElem? (i := 233) (by decide +kernel))) (by decide +kernel), tb_of (List.mem_append_left _ (List.mem_of_getElem? (i := 2) (by decide +kernel))) (by decide +kernel)⟩
theorem mb_X4_usesTogether : MB yX4_usesTogether cX4_usesTogether 4 (some .int) 0 := ⟨tb_of (List.mem_append_right _ (List.mem_of_getElem? (i := 2) (by decide +kernel))) (by decide +kernel), tb_of (List.mem_append_right _ (List.mem_of_getElem? (i := 238) (by decide +kernel))) (by decide +kernel), by decide +kernel⟩
theorem mv_X4_usesTogether : MV yX4_usesTogether := ⟨tb_of (List.mem_append_right _ (List.mem_of_getElem? (i := 236) (by decide +kernel))) (by decide +kernel), tb_of (List.mem_append_right _ (List.mem_of_getElem? (i := 237) (by decide +kernel))) (by decide +kernel)⟩
theorem mb_X4_isCold : MB yX4_isCold cX4_isCold 1 (some .boolean) 0 := ⟨tb_of (List.mem_append_right _ (List.mem_of_getElem? (i := 2) (by decide +kernel))) (by decide +kernel), tb_of (List.mem_append_right _ (List.mem_of_getElem? (i := 242) (by decide +kernel))) (by decide +kernel), by decide +kernel⟩
theorem mv_X4_isCold : MV yX4_isCold := ⟨tb_of (List.mem_append_right _ (List.mem_of_getElem? (i := 240) (by decide +kernel))) (by decide +kernel), tb_of (List.mem_append_right _ (List.mem_of_getElem? (i := 241) (by decide +kernel))) (by decide +kernel)⟩
theorem mb_X0_uses : MB yX0_uses cX0_uses 2 (some .int) 1 := ⟨tb_of (List.mem_append_right _ (List.mem_of_getElem? (i := 3) (by decide +kernel))) (by decide +kernel), tb_of (List.mem_append_right _ (List.mem_of_getElem? (i := 247) (by decide +kernel))) (by decide +kernel), by decide +kernel⟩
theorem mv_X0_uses : MV yX0_uses := ⟨tb_of (List.mem_append_right _ (List.mem_of_getElem? (i := 245) (by decide +kernel))) (by decide +kernel), tb_of (List.mem_append_right _ (List.mem_of_getElem? (i := 246) (by decide +kernel))) (by decide +kernel)⟩
theorem mb_X0_usesGoing : MB yX0_usesGoing cX0_usesGoing 1 (some .int) 0 := ⟨tb_of (List.mem_append_right _ (List.mem_of_getElem? (i := 3) (by decide +kernel))) (by decide +kernel), tb_of (List.mem_append_right _ (List.mem_of_getElem? (i := 251) (by decide +kernel))) (by decide +kernel), by decide +kernel⟩
theorem mv_X0_usesGoing : MV yX0_usesGoing := ⟨tb_of (List.mem_append_right _ (List.mem_of_getElem? (i := 250) (by decide +kernel))) (by decide +kernel), tb_of (List.mem_append_left _ (List.mem_of_getElem? (i := 3) (by decide +kernel))) (by decide +kernel)⟩
theorem mb_X5_fountain : MB yX5_fountain cX5_fountain 2 (some .int) 1 := ⟨tb_of (List.mem_append_right _ (List.mem_of_getElem? (i := 1) (by decide +kernel))) (by decide +kernel), tb_of (List.mem_append_right _ (List.mem_of_getElem? (i := 258) (by decide +kernel))) (by decide +kernel), by decide +kernel⟩
theorem mv_X5_fountain : MV yX5_fountain := ⟨tb_of (List.mem_append_right _ (List.mem_of_getElem? (i := 256) (by decide +kernel))) (by decide +kernel), tb_of (List.mem_append_right _ (List.mem_of_getElem? (i := 257) (by decide +kernel))) (by decide +kernel)⟩
theorem mb_X5_isKind : MB yX5_isKind cX5_isKind 1 (some .boolean) 1 := ⟨tb_of (List.mem_append_right _ (List.mem_of_getElem? (i := 1) (by decide +kernel))) (by decide +kernel), tb_of (List.mem_append_right _ (List.mem_of_getElem? (i := 261) (by decide +kernel))) (by decide +kernel), by decide +kernel⟩
theorem ms_X5_isKind : Cond.static yX5_isKind ∈ TB := tb_of (List.mem_append_right _ (List.mem_of_getElem? (i := 260) (by decide +kernel))) (by decide +kernel)
theorem mb_X4_addOne : MB yX4_addOne cX4_addOne 2 (some .int) 1 := ⟨tb_of (List.mem_append_right _ (List.mem_of_getElem? (i := 2) (by decide +kernel))) (by decide +kernel), tb_of (List.mem_append_right _ (List.mem_of_getElem? (i := 266) (by decide +kernel))) (by decide +kernel), by decide +kernel⟩
theorem mv_X4_addOne : MV yX4_addOne := ⟨tb_of (List.mem_append_right _ (List.mem_of_getElem? (i := 264) (by decide +kernel))) (by decide +kernel), tb_of (List.mem_append_right _ (List.mem_of_getElem? (i := 265) (by decide +kernel))) (by decide +kernel)⟩
theorem mb_X0_begin : MB yX0_begin cX0_begin 2 none 1 := ⟨tb_of (List.mem_append_right _ (List.mem_of_getElem? (i := 3) (by decide +kernel))) (by decide +kernel), tb_of (List.mem_append_right _ (List.mem_of_getElem? (i := 270) (by decide +kernel))) (by decide +kernel), by decide +kernel⟩
theorem mv_X0_begin : MV yX0_begin := ⟨tb_of (List.mem_append_right _ (List.mem_of_getElem? (i := 268) (by decide +kernel))) (by decide +kernel), tb_of (List.mem_append_right _ (List.mem_of_getElem? (i := 269) (by decide +kernel))) (by decide +kernel)⟩
theorem mb_X5_of : MB yX5_of cX5_of 5 (some .int) 2 := ⟨tb_of (List.mem_append_right _ (List.mem_of_getElem? (i := 1) (by decide +kernel))) (by decide +kernel), tb_of (List.mem_append_right _ (List.mem_of_getElem? (i := 274) (by decide +kernel))) (by decide +kernel), by decide +kernel⟩
theorem mv_X5_of : MV yX5_of := ⟨tb_of (List.mem_append_right _ (List.mem_of_getElem? (i := 272) (by decide +kernel))) (by decide +kernel), tb_of (List.mem_append_right _ (List.mem_of_getElem? (i := 273) (by decide +kernel))) (by decide +kernel)⟩
theorem mb_X4_has : MB yX4_has cX4_has 2 (some .boolean) 1 := ⟨tb_of (List.mem_append_right _ (List.mem_of_getElem? (i := 2) (by decide +kernel))) (by decide +kernel), tb_of (List.mem_append_right _ (List.mem_of_getElem? (i := 278) (by decide +kernel))) (by decide +kernel), by decide +kernel⟩
theorem mv_X4_has : MV yX4_has := ⟨tb_of (List.mem_append_right _ (List.mem_of_getElem? (i := 276) (by decide +kernel))) (by decide +kernel), tb_of (List.mem_append_right _ (List.mem_of_getElem? (i := 277) (by decide +kernel))) (by decide +kernel)⟩
theorem mb_X0_gains : MB yX0_gains cX0_gains 5 (some .int) 1 := ⟨tb_of (List.mem_append_right _ (List.mem_of_getElem? (i := 3) (by decide +kernel))) (by decide +kernel), tb_of (List.mem_append_right _ (List.mem_of_getElem? (i := 285) (by decide +kernel))) (by decide +kernel), by decide +kernel⟩
theorem mv_X0_gains : MV yX0_gains := ⟨tb_of (List.mem_append_right _ (List.mem_of_getElem? (i := 283) (by decide +kernel))) (by decide +kernel), tb_of (List.mem_append_right _ (List.mem_of_getElem? (i := 284) (by decide +kernel))) (by decide +kernel)⟩
theorem mb_X0_givesWay : MB yX0_givesWay cX0_givesWay 4 (some .int) 0 := ⟨tb_of (List.mem_append_right _ (List.mem_of_getElem? (i := 3) (by decide +kernel))) (by decide +kernel), tb_of (List.mem_append_right _ (List.mem_of_getElem? (i := 289) (by decide +kernel))) (by decide +kernel), by decide +kernel⟩
theorem mv_X0_givesWay : MV yX0_givesWay := ⟨tb_of (List.mem_append_right _ (List.mem_of_getElem? (i := 287) (by decide +kernel))) (by decide +kernel), tb_of (List.mem_append_right _ (List.mem_of_getElem? (i := 288) (by decide +kernel))) (by decide +kernel)⟩
theorem mb_X5_set : MB yX5_set cX5_set 6 (some .int) 3 := ⟨tb_of (List.mem_append_right _ (List.mem_of_getElem? (i := 1) (by decide +kernel))) (by decide +kernel), tb_of (List.mem_append_right _ (List.mem_of_getElem? (i := 293) (by decide +kernel))) (by decide +kernel), by decide +kernel⟩
theorem mv_X5_set : MV yX5_set := ⟨tb_of (List.mem_append_right _ (List.mem_of_getElem? (i := 291) (by decide +kernel))) (by decide +kernel), tb_of (List.mem_append_right _ (List.mem_of_getElem? (i := 292) (by decide +kernel))) (by decide +kernel)⟩
theorem mb_X5_maySet : MB yX5_maySet cX5_maySet 2 (some .boolean) 2 := ⟨tb_of (List.mem_append_right _ (List.mem_of_getElem? (i := 1) (by decide +kernel))) (by decide +kernel), tb_of (List.mem_append_right _ (List.mem_of_getElem? (i := 296) (by decide +kernel))) (by decide +kernel), by decide +kernel⟩
theorem ms_X5_maySet : Cond.static yX5_maySet ∈ TB := tb_of (List.mem_append_right _ (List.mem_of_getElem? (i := 295) (by decide +kernel))) (by decide +kernel)
theorem mb_X5_turn : MB yX5_turn cX5_turn 5 (some .int) 2 := ⟨tb_of (List.mem_append_right _ (List.mem_of_getElem? (i := 1) (by decide +kernel))) (by decide +kernel), tb_of (List.mem_append_right _ (List.mem_of_getElem? (i := 300) (by decide +kernel))) (by decide +kernel), by decide +kernel⟩
theorem mv_X5_turn : MV yX5_turn := ⟨tb_of (List.mem_append_right _ (List.mem_of_getElem? (i := 298) (by decide +kernel))) (by decide +kernel), tb_of (List.mem_append_right _ (List.mem_of_getElem? (i := 299) (by decide +kernel))) (by decide +kernel)⟩
theorem mb_X5_as : MB yX5_as cX5_as 4 (some .int) 2 := ⟨tb_of (List.mem_append_right _ (List.mem_of_getElem? (i := 1) (by decide +kernel))) (by decide +kernel), tb_of (List.mem_append_right _ (List.mem_of_getElem? (i := 304) (by decide +kernel))) (by decide +kernel), by decide +kernel⟩
theorem mv_X5_as : MV yX5_as := ⟨tb_of (List.mem_append_right _ (List.mem_of_getElem? (i := 302) (by decide +kernel))) (by decide +kernel), tb_of (List.mem_append_right _ (List.mem_of_getElem? (i := 303) (by decide +kernel))) (by decide +kernel)⟩
theorem mb_X5_isUnder : MB yX5_isUnder cX5_isUnder 4 (some .boolean) 2 := ⟨tb_of (List.mem_append_right _ (List.mem_of_getElem? (i := 1) (by decide +kernel))) (by decide +kernel), tb_of (List.mem_append_right _ (List.mem_of_getElem? (i := 307) (by decide +kernel))) (by decide +kernel), by decide +kernel⟩
theorem ms_X5_isUnder : Cond.static yX5_isUnder ∈ TB := tb_of (List.mem_append_right _ (List.mem_of_getElem? (i := 306) (by decide +kernel))) (by decide +kernel)
theorem mb_X5_next : MB yX5_next cX5_next 2 (some .int) 0 := ⟨tb_of (List.mem_append_right _ (List.mem_of_getElem? (i := 1) (by decide +kernel))) (by decide +kernel), tb_of (List.mem_append_right _ (List.mem_of_getElem? (i := 314) (by decide +kernel))) (by decide +kernel), by decide +kernel⟩
theorem mv_X5_next : MV yX5_next := ⟨tb_of (List.mem_append_right _ (List.mem_of_getElem? (i := 312) (by decide +kernel))) (by decide +kernel), tb_of (List.mem_append_right _ (List.mem_of_getElem? (i := 313) (by decide +kernel))) (by decide +kernel)⟩
theorem mb_X4_givesWayMost : MB yX4_givesWayMost cX4_givesWayMost 4 (some .int) 0 := ⟨tb_of (List.mem_append_right _ (List.mem_of_getElem? (i := 2) (by decide +kernel))) (by decide +kernel), tb_of (List.mem_append_right _ (List.mem_of_getElem? (i := 318) (by decide +kernel))) (by decide +kernel), by decide +kernel⟩
theorem mv_X4_givesWayMost : MV yX4_givesWayMost := ⟨tb_of (List.mem_append_right _ (List.mem_of_getElem? (i := 316) (by decide +kernel))) (by decide +kernel), tb_of (List.mem_append_right _ (List.mem_of_getElem? (i := 317) (by decide +kernel))) (by decide +kernel)⟩
theorem mb_X5_days : MB yX5_days cX5_days 2 (some .int) 1 := ⟨tb_of (List.mem_append_right _ (List.mem_of_getElem? (i := 1) (by decide +kernel))) (by decide +kernel), tb_of (List.mem_append_right _ (List.mem_of_getElem? (i := 325) (by decide +kernel))) (by decide +kernel), by decide +kernel⟩
theorem mv_X5_days : MV yX5_days := ⟨tb_of (List.mem_append_right _ (List.mem_of_getElem? (i := 323) (by decide +kernel))) (by decide +kernel), tb_of (List.mem_append_right _ (List.mem_of_getElem? (i := 324) (by decide +kernel))) (by decide +kernel)⟩
theorem mb_X5_isTried : MB yX5_isTried cX5_isTried 1 (some .boolean) 1 := ⟨tb_of (List.mem_append_right _ (List.mem_of_getElem? (i := 1) (by decide +kernel))) (by decide +kernel), tb_of (List.mem_append_right _ (List.mem_of_getElem? (i := 328) (by decide +kernel))) (by decide +kernel), by decide +kernel⟩
theorem ms_X5_isTried : Cond.static yX5_isTried ∈ TB := tb_of (List.mem_append_right _ (List.mem_of_getElem? (i := 327) (by decide +kernel))) (by decide +kernel)
theorem mb_X4_passDays : MB yX4_passDays cX4_passDays 3 none 1 := ⟨tb_of (List.mem_append_right _ (List.mem_of_getElem? (i := 2) (by decide +kernel))) (by decide +kernel), tb_of (List.mem_append_right _ (List.mem_of_getElem? (i := 334) (by decide +kernel))) (by decide +kernel), by decide +kernel⟩
theorem mv_X4_passDays : MV yX4_passDays := ⟨tb_of (List.mem_append_right _ (List.mem_of_getElem? (i := 332) (by decide +kernel))) (by decide +kernel), tb_of (List.mem_append_right _ (List.mem_of_getElem? (i := 333) (by decide +kernel))) (by decide +kernel)⟩
theorem mb_X4_passDay : MB yX4_passDay cX4_passDay 3 none 0 := ⟨tb_of (List.mem_append_right _ (List.mem_of_getElem? (i := 2) (by decide +kernel))) (by decide +kernel), tb_of (List.mem_append_right _ (List.mem_of_getElem? (i := 338) (by decide +kernel))) (by decide +kernel), by decide +kernel⟩
theorem mv_X4_passDay : MV yX4_passDay := ⟨tb_of (List.mem_append_right _ (List.mem_of_getElem? (i := 336) (by decide +kernel))) (by decide +kernel), tb_of (List.mem_append_right _ (List.mem_of_getElem? (i := 337) (by decide +kernel))) (by decide +kernel)⟩
theorem mb_X4_sendCommittee : MB yX4_sendCommittee cX4_sendCommittee 2 none 0 := ⟨tb_of (List.mem_append_right _ (List.mem_of_getElem? (i := 2) (by decide +kernel))) (by decide +kernel), tb_of (List.mem_append_right _ (List.mem_of_getElem? (i := 345) (by decide +kernel))) (by decide +kernel), by decide +kernel⟩
theorem mv_X4_sendCommittee : MV yX4_sendCommittee := ⟨tb_of (List.mem_append_right _ (List.mem_of_getElem? (i := 344) (by decide +kernel))) (by decide +kernel), tb_of (List.mem_append_left _ (List.mem_of_getElem? (i := 4) (by decide +kernel))) (by decide +kernel)⟩
theorem mb_X0_stoop : MB yX0_stoop cX0_stoop 1 none 0 := ⟨tb_of (List.mem_append_right _ (List.mem_of_getElem? (i := 3) (by decide +kernel))) (by decide +kernel), tb_of (List.mem_append_right _ (List.mem_of_getElem? (i := 350) (by decide +kernel))) (by decide +kernel), by decide +kernel⟩
theorem mv_X0_stoop : MV yX0_stoop := ⟨tb_of (List.mem_append_right _ (List.mem_of_getElem? (i := 348) (by decide +kernel))) (by decide +kernel), tb_of (List.mem_append_right _ (List.mem_of_getElem? (i := 349) (by decide +kernel))) (by decide +kernel)⟩
theorem mb_X4_givesWayLeast : MB yX4_givesWayLeast cX4_givesWayLeast 4 (some .int) 0 := ⟨tb_of (List.mem_append_right _ (List.mem_of_getElem? (i := 2) (by decide +kernel))) (by decide +kernel), tb_of (List.mem_append_right _ (List.mem_of_getElem? (i := 355) (by decide +kernel))) (by decide +kernel), by decide +kernel⟩
theorem mv_X4_givesWayLeast : MV yX4_givesWayLeast := ⟨tb_of (List.mem_append_right _ (List.mem_of_getElem? (i := 354) (by decide +kernel))) (by decide +kernel), tb_of (List.mem_append_left _ (List.mem_of_getElem? (i := 5) (by decide +kernel))) (by decide +kernel)⟩
theorem mb_X4_letRun : MB yX4_letRun cX4_letRun 4 none 2 := ⟨tb_of (List.mem_append_right _ (List.mem_of_getElem? (i := 2) (by decide +kernel))) (by decide +kernel), tb_of (List.mem_append_right _ (List.mem_of_getElem? (i := 360) (by decide +kernel))) (by decide +kernel), by decide +kernel⟩
theorem mv_X4_letRun : MV yX4_letRun := ⟨tb_of (List.mem_append_right _ (List.mem_of_getElem? (i := 359) (by decide +kernel))) (by decide +kernel), tb_of (List.mem_append_left _ (List.mem_of_getElem? (i := 6) (by decide +kernel))) (by decide +kernel)⟩
theorem mb_X0_endDay : MB yX0_endDay cX0_endDay 2 none 1 := ⟨tb_of (List.mem_append_right _ (List.mem_of_getElem? (i := 3) (by decide +kernel))) (by decide +kernel), tb_of (List.mem_append_right _ (List.mem_of_getElem? (i := 364) (by decide +kernel))) (by decide +kernel), by decide +kernel⟩
theorem mv_X0_endDay : MV yX0_endDay := ⟨tb_of (List.mem_append_right _ (List.mem_of_getElem? (i := 362) (by decide +kernel))) (by decide +kernel), tb_of (List.mem_append_right _ (List.mem_of_getElem? (i := 363) (by decide +kernel))) (by decide +kernel)⟩
theorem mb_X5_on : MB yX5_on cX5_on 3 (some .int) 2 := ⟨tb_of (List.mem_append_right _ (List.mem_of_getElem? (i := 1) (by decide +kernel))) (by decide +kernel), tb_of (List.mem_append_right _ (List.mem_of_getElem? (i := 369) (by decide +kernel))) (by decide +kernel), by decide +kernel⟩
theorem mv_X5_on : MV yX5_on := ⟨tb_of (List.mem_append_right _ (List.mem_of_getElem? (i := 367) (by decide +kernel))) (by decide +kernel), tb_of (List.mem_append_right _ (List.mem_of_getElem? (i := 368) (by decide +kernel))) (by decide +kernel)⟩
theorem mb_X5_isAhead : MB yX5_isAhead cX5_isAhead 1 (some .boolean) 1 := ⟨tb_of (List.mem_append_right _ (List.mem_of_getElem? (i := 1) (by decide +kernel))) (by decide +kernel), tb_of (List.mem_append_right _ (List.mem_of_getElem? (i := 372) (by decide +kernel))) (by decide +kernel), by decide +kernel⟩
theorem ms_X5_isAhead : Cond.static yX5_isAhead ∈ TB := tb_of (List.mem_append_right _ (List.mem_of_getElem? (i := 371) (by decide +kernel))) (by decide +kernel)
theorem mb_X4_become : MB yX4_become cX4_become 3 none 1 := ⟨tb_of (List.mem_append_right _ (List.mem_of_getElem? (i := 2) (by decide +kernel))) (by decide +kernel), tb_of (List.mem_append_right _ (List.mem_of_getElem? (i := 376) (by decide +kernel))) (by decide +kernel), by decide +kernel⟩
theorem mv_X4_become : MV yX4_become := ⟨tb_of (List.mem_append_right _ (List.mem_of_getElem? (i := 374) (by decide +kernel))) (by decide +kernel), tb_of (List.mem_append_right _ (List.mem_of_getElem? (i := 375) (by decide +kernel))) (by decide +kernel)⟩
theorem mb_X0_become : MB yX0_become cX0_become 2 none 1 := ⟨tb_of (List.mem_append_right _ (List.mem_of_getElem? (i := 3) (by decide +kernel))) (by decide +kernel), tb_of (List.mem_append_right _ (List.mem_of_getElem? (i := 383) (by decide +kernel))) (by decide +kernel), by decide +kernel⟩
theorem mv_X0_become : MV yX0_become := ⟨tb_of (List.mem_append_right _ (List.mem_of_getElem? (i := 381) (by decide +kernel))) (by decide +kernel), tb_of (List.mem_append_right _ (List.mem_of_getElem? (i := 382) (by decide +kernel))) (by decide +kernel)⟩
theorem mb_X5_then : MB yX5_then cX5_then 5 (some .int) 3 := ⟨tb_of (List.mem_append_right _ (List.mem_of_getElem? (i := 1) (by decide +kernel))) (by decide +kernel), tb_of (List.mem_append_right _ (List.mem_of_getElem? (i := 387) (by decide +kernel))) (by decide +kernel), by decide +kernel⟩
theorem mv_X5_then : MV yX5_then := ⟨tb_of (List.mem_append_right _ (List.mem_of_getElem? (i := 385) (by decide +kernel))) (by decide +kernel), tb_of (List.mem_append_right _ (List.mem_of_getElem? (i := 386) (by decide +kernel))) (by decide +kernel)⟩
theorem mb_X5_falls : MB yX5_falls cX5_falls 3 (some .int) 1 := ⟨tb_of (List.mem_append_right _ (List.mem_of_getElem? (i := 1) (by decide +kernel))) (by decide +kernel), tb_of (List.mem_append_right _ (List.mem_of_getElem? (i := 391) (by decide +kernel))) (by decide +kernel), by decide +kernel⟩
theorem mv_X5_falls : MV yX5_falls := ⟨tb_of (List.mem_append_right _ (List.mem_of_getElem? (i := 389) (by decide +kernel))) (by decide +kernel), tb_of (List.mem_append_right _ (List.mem_of_getElem? (i := 390) (by decide +kernel))) (by decide +kernel)⟩
theorem mb_X5_off : MB yX5_off cX5_off 3 (some .int) 1 := ⟨tb_of (List.mem_append_right _ (List.mem_of_getElem? (i := 1) (by decide +kernel))) (by decide +kernel), tb_of (List.mem_append_right _ (List.mem_of_getElem? (i := 396) (by decide +kernel))) (by decide +kernel), by decide +kernel⟩
theorem mv_X5_off : MV yX5_off := ⟨tb_of (List.mem_append_right _ (List.mem_of_getElem? (i := 394) (by decide +kernel))) (by decide +kernel), tb_of (List.mem_append_right _ (List.mem_of_getElem? (i := 395) (by decide +kernel))) (by decide +kernel)⟩
theorem mb_X4_daysTillOff : MB yX4_daysTillOff cX4_daysTillOff 3 (some .int) 1 := ⟨tb_of (List.mem_append_right _ (List.mem_of_getElem? (i := 2) (by decide +kernel))) (by decide +kernel), tb_of (List.mem_append_right _ (List.mem_of_getElem? (i := 400) (by decide +kernel))) (by decide +kernel), by decide +kernel⟩
theorem mv_X4_daysTillOff : MV yX4_daysTillOff := ⟨tb_of (List.mem_append_right _ (List.mem_of_getElem? (i := 398) (by decide +kernel))) (by decide +kernel), tb_of (List.mem_append_right _ (List.mem_of_getElem? (i := 399) (by decide +kernel))) (by decide +kernel)⟩
theorem mb_X5_quiet : MB yX5_quiet cX5_quiet 2 (some .int) 0 := ⟨tb_of (List.mem_append_right _ (List.mem_of_getElem? (i := 1) (by decide +kernel))) (by decide +kernel), tb_of (List.mem_append_right _ (List.mem_of_getElem? (i := 405) (by decide +kernel))) (by decide +kernel), by decide +kernel⟩
theorem mv_X5_quiet : MV yX5_quiet := ⟨tb_of (List.mem_append_right _ (List.mem_of_getElem? (i := 403) (by decide +kernel))) (by decide +kernel), tb_of (List.mem_append_right _ (List.mem_of_getElem? (i := 404) (by decide +kernel))) (by decide +kernel)⟩
theorem mb_X5_best : MB yX5_best cX5_best 5 (some .int) 1 := ⟨tb_of (List.mem_append_right _ (List.mem_of_getElem? (i := 1) (by decide +kernel))) (by decide +kernel), tb_of (List.mem_append_right _ (List.mem_of_getElem? (i := 409) (by decide +kernel))) (by decide +kernel), by decide +kernel⟩
theorem mv_X5_best : MV yX5_best := ⟨tb_of (List.mem_append_right _ (List.mem_of_getElem? (i := 407) (by decide +kernel))) (by decide +kernel), tb_of (List.mem_append_right _ (List.mem_of_getElem? (i := 408) (by decide +kernel))) (by decide +kernel)⟩
theorem mb_X5_high : MB yX5_high cX5_high 4 (some .int) 2 := ⟨tb_of (List.mem_append_right _ (List.mem_of_getElem? (i := 1) (by decide +kernel))) (by decide +kernel), tb_of (List.mem_append_right _ (List.mem_of_getElem? (i := 413) (by decide +kernel))) (by decide +kernel), by decide +kernel⟩
theorem mv_X5_high : MV yX5_high := ⟨tb_of (List.mem_append_right _ (List.mem_of_getElem? (i := 411) (by decide +kernel))) (by decide +kernel), tb_of (List.mem_append_right _ (List.mem_of_getElem? (i := 412) (by decide +kernel))) (by decide +kernel)⟩
theorem mb_X4_letsGo : MB yX4_letsGo cX4_letsGo 5 (some .boolean) 2 := ⟨tb_of (List.mem_append_right _ (List.mem_of_getElem? (i := 2) (by decide +kernel))) (by decide +kernel), tb_of (List.mem_append_right _ (List.mem_of_getElem? (i := 417) (by decide +kernel))) (by decide +kernel), by decide +kernel⟩
theorem mv_X4_letsGo : MV yX4_letsGo := ⟨tb_of (List.mem_append_right _ (List.mem_of_getElem? (i := 415) (by decide +kernel))) (by decide +kernel), tb_of (List.mem_append_right _ (List.mem_of_getElem? (i := 416) (by decide +kernel))) (by decide +kernel)⟩
theorem mb_X5_loved : MB yX5_loved cX5_loved 4 (some .int) 2 := ⟨tb_of (List.mem_append_right _ (List.mem_of_getElem? (i := 1) (by decide +kernel))) (by decide +kernel), tb_of (List.mem_append_right _ (List.mem_of_getElem? (i := 421) (by decide +kernel))) (by decide +kernel), by decide +kernel⟩
theorem mv_X5_loved : MV yX5_loved := ⟨tb_of (List.mem_append_right _ (List.mem_of_getElem? (i := 419) (by decide +kernel))) (by decide +kernel), tb_of (List.mem_append_right _ (List.mem_of_getElem? (i := 420) (by decide +kernel))) (by decide +kernel)⟩
theorem mb_X5_kind : MB yX5_kind cX5_kind 6 (some .int) 1 := ⟨tb_of (List.mem_append_right _ (List.mem_of_getElem? (i := 1) (by decide +kernel))) (by decide +kernel), tb_of (List.mem_append_right _ (List.mem_of_getElem? (i := 425) (by decide +kernel))) (by decide +kernel), by decide +kernel⟩
theorem mv_X5_kind : MV yX5_kind := ⟨tb_of (List.mem_append_right _ (List.mem_of_getElem? (i := 423) (by decide +kernel))) (by decide +kernel), tb_of (List.mem_append_right _ (List.mem_of_getElem? (i := 424) (by decide +kernel))) (by decide +kernel)⟩
theorem mb_X5_rain : MB yX5_rain cX5_rain 6 (some .int) 1 := ⟨tb_of (List.mem_append_right _ (List.mem_of_getElem? (i := 1) (by decide +kernel))) (by decide +kernel), tb_of (List.mem_append_right _ (List.mem_of_getElem? (i := 429) (by decide +kernel))) (by decide +kernel), by decide +kernel⟩
theorem mv_X5_rain : MV yX5_rain := ⟨tb_of (List.mem_append_right _ (List.mem_of_getElem? (i := 427) (by decide +kernel))) (by decide +kernel), tb_of (List.mem_append_right _ (List.mem_of_getElem? (i := 428) (by decide +kernel))) (by decide +kernel)⟩
theorem mb_X5_enough : MB yX5_enough cX5_enough 3 (some .int) 1 := ⟨tb_of (List.mem_append_right _ (List.mem_of_getElem? (i := 1) (by decide +kernel))) (by decide +kernel), tb_of (List.mem_append_right _ (List.mem_of_getElem? (i := 434) (by decide +kernel))) (by decide +kernel), by decide +kernel⟩
theorem mv_X5_enough : MV yX5_enough := ⟨tb_of (List.mem_append_right _ (List.mem_of_getElem? (i := 432) (by decide +kernel))) (by decide +kernel), tb_of (List.mem_append_right _ (List.mem_of_getElem? (i := 433) (by decide +kernel))) (by decide +kernel)⟩
theorem mb_X4_letsAllGo : MB yX4_letsAllGo cX4_letsAllGo 4 (some .boolean) 1 := ⟨tb_of (List.mem_append_right _ (List.mem_of_getElem? (i := 2) (by decide +kernel))) (by decide +kernel), tb_of (List.mem_append_right _ (List.mem_of_getElem? (i := 438) (by decide +kernel))) (by decide +kernel), by decide +kernel⟩
theorem mv_X4_letsAllGo : MV yX4_letsAllGo := ⟨tb_of (List.mem_append_right _ (List.mem_of_getElem? (i := 436) (by decide +kernel))) (by decide +kernel), tb_of (List.mem_append_right _ (List.mem_of_getElem? (i := 437) (by decide +kernel))) (by decide +kernel)⟩
theorem mb_X4_stoopedTogether : MB yX4_stoopedTogether cX4_stoopedTogether 3 (some .int) 0 := ⟨tb_of (List.mem_append_right _ (List.mem_of_getElem? (i := 2) (by decide +kernel))) (by decide +kernel), tb_of (List.mem_append_right _ (List.mem_of_getElem? (i := 442) (by decide +kernel))) (by decide +kernel), by decide +kernel⟩
theorem mv_X4_stoopedTogether : MV yX4_stoopedTogether := ⟨tb_of (List.mem_append_right _ (List.mem_of_getElem? (i := 440) (by decide +kernel))) (by decide +kernel), tb_of (List.mem_append_right _ (List.mem_of_getElem? (i := 441) (by decide +kernel))) (by decide +kernel)⟩
theorem mb_X5_rule : MB yX5_rule cX5_rule 6 (some .int) 1 := ⟨tb_of (List.mem_append_right _ (List.mem_of_getElem? (i := 1) (by decide +kernel))) (by decide +kernel), tb_of (List.mem_append_right _ (List.mem_of_getElem? (i := 446) (by decide +kernel))) (by decide +kernel), by decide +kernel⟩
theorem mv_X5_rule : MV yX5_rule := ⟨tb_of (List.mem_append_right _ (List.mem_of_getElem? (i := 444) (by decide +kernel))) (by decide +kernel), tb_of (List.mem_append_right _ (List.mem_of_getElem? (i := 445) (by decide +kernel))) (by decide +kernel)⟩
theorem mb_X5_feed : MB yX5_feed cX5_feed 4 (some .int) 2 := ⟨tb_of (List.mem_append_right _ (List.mem_of_getElem? (i := 1) (by decide +kernel))) (by decide +kernel), tb_of (List.mem_append_right _ (List.mem_of_getElem? (i := 452) (by decide +kernel))) (by decide +kernel), by decide +kernel⟩
theorem mv_X5_feed : MV yX5_feed := ⟨tb_of (List.mem_append_right _ (List.mem_of_getElem? (i := 450) (by decide +kernel))) (by decide +kernel), tb_of (List.mem_append_right _ (List.mem_of_getElem? (i := 451) (by decide +kernel))) (by decide +kernel)⟩
theorem mb_X2_add : MB yX2_add cX2_add 2 none 1 := ⟨tb_of (List.mem_append_right _ (List.mem_of_getElem? (i := 4) (by decide +kernel))) (by decide +kernel), tb_of (List.mem_append_right _ (List.mem_of_getElem? (i := 456) (by decide +kernel))) (by decide +kernel), by decide +kernel⟩
theorem mv_X2_add : MV yX2_add := ⟨tb_of (List.mem_append_right _ (List.mem_of_getElem? (i := 454) (by decide +kernel))) (by decide +kernel), tb_of (List.mem_append_right _ (List.mem_of_getElem? (i := 455) (by decide +kernel))) (by decide +kernel)⟩
theorem mb_X5_wipe : MB yX5_wipe cX5_wipe 2 (some .int) 0 := ⟨tb_of (List.mem_append_right _ (List.mem_of_getElem? (i := 1) (by decide +kernel))) (by decide +kernel), tb_of (List.mem_append_right _ (List.mem_of_getElem? (i := 460) (by decide +kernel))) (by decide +kernel), by decide +kernel⟩
theorem mv_X5_wipe : MV yX5_wipe := ⟨tb_of (List.mem_append_right _ (List.mem_of_getElem? (i := 458) (by decide +kernel))) (by decide +kernel), tb_of (List.mem_append_right _ (List.mem_of_getElem? (i := 459) (by decide +kernel))) (by decide +kernel)⟩
theorem mb_X5_town : MB yX5_town cX5_town 2 (some .int) 0 := ⟨tb_of (List.mem_append_right _ (List.mem_of_getElem? (i := 1) (by decide +kernel))) (by decide +kernel), tb_of (List.mem_append_right _ (List.mem_of_getElem? (i := 464) (by decide +kernel))) (by decide +kernel), by decide +kernel⟩
theorem mv_X5_town : MV yX5_town := ⟨tb_of (List.mem_append_right _ (List.mem_of_getElem? (i := 462) (by decide +kernel))) (by decide +kernel), tb_of (List.mem_append_right _ (List.mem_of_getElem? (i := 463) (by decide +kernel))) (by decide +kernel)⟩
theorem mb_X3_readInto : MB yX3_readInto cX3_readInto 3 (some .int) 1 := ⟨tb_of (List.mem_append_right _ (List.mem_of_getElem? (i := 5) (by decide +kernel))) (by decide +kernel), tb_of (List.mem_append_right _ (List.mem_of_getElem? (i := 468) (by decide +kernel))) (by decide +kernel), by decide +kernel⟩
theorem mv_X3_readInto : MV yX3_readInto := ⟨tb_of (List.mem_append_right _ (List.mem_of_getElem? (i := 466) (by decide +kernel))) (by decide +kernel), tb_of (List.mem_append_right _ (List.mem_of_getElem? (i := 467) (by decide +kernel))) (by decide +kernel)⟩
theorem mb_X3_step : MB yX3_step cX3_step 1 none 0 := ⟨tb_of (List.mem_append_right _ (List.mem_of_getElem? (i := 5) (by decide +kernel))) (by decide +kernel), tb_of (List.mem_append_right _ (List.mem_of_getElem? (i := 472) (by decide +kernel))) (by decide +kernel), by decide +kernel⟩
theorem mv_X3_step : MV yX3_step := ⟨tb_of (List.mem_append_right _ (List.mem_of_getElem? (i := 471) (by decide +kernel))) (by decide +kernel), tb_of (List.mem_append_left _ (List.mem_of_getElem? (i := 7) (by decide +kernel))) (by decide +kernel)⟩
theorem mb_X3_byteAt : MB yX3_byteAt cX3_byteAt 2 (some .int) 1 := ⟨tb_of (List.mem_append_right _ (List.mem_of_getElem? (i := 5) (by decide +kernel))) (by decide +kernel), tb_of (List.mem_append_right _ (List.mem_of_getElem? (i := 476) (by decide +kernel))) (by decide +kernel), by decide +kernel⟩
theorem mv_X3_byteAt : MV yX3_byteAt := ⟨tb_of (List.mem_append_right _ (List.mem_of_getElem? (i := 475) (by decide +kernel))) (by decide +kernel), tb_of (List.mem_append_left _ (List.mem_of_getElem? (i := 8) (by decide +kernel))) (by decide +kernel)⟩
theorem mb_X3_isLetter : MB yX3_isLetter cX3_isLetter 1 (some .boolean) 1 := ⟨tb_of (List.mem_append_right _ (List.mem_of_getElem? (i := 5) (by decide +kernel))) (by decide +kernel), tb_of (List.mem_append_right _ (List.mem_of_getElem? (i := 479) (by decide +kernel))) (by decide +kernel), by decide +kernel⟩
theorem ms_X3_isLetter : Cond.static yX3_isLetter ∈ TB := tb_of (List.mem_append_right _ (List.mem_of_getElem? (i := 478) (by decide +kernel))) (by decide +kernel)
theorem mb_X3_isDigit : MB yX3_isDigit cX3_isDigit 1 (some .boolean) 1 := ⟨tb_of (List.mem_append_right _ (List.mem_of_getElem? (i := 5) (by decide +kernel))) (by decide +kernel), tb_of (List.mem_append_right _ (List.mem_of_getElem? (i := 482) (by decide +kernel))) (by decide +kernel), by decide +kernel⟩
theorem ms_X3_isDigit : Cond.static yX3_isDigit ∈ TB := tb_of (List.mem_append_right _ (List.mem_of_getElem? (i := 481) (by decide +kernel))) (by decide +kernel)
theorem mb_X3_takeItem : MB yX3_takeItem cX3_takeItem 3 (some .boolean) 1 := ⟨tb_of (List.mem_append_right _ (List.mem_of_getElem? (i := 5) (by decide +kernel))) (by decide +kernel), tb_of (List.mem_append_right _ (List.mem_of_getElem? (i := 487) (by decide +kernel))) (by decide +kernel), by decide +kernel⟩
theorem mv_X3_takeItem : MV yX3_takeItem := ⟨tb_of (List.mem_append_right _ (List.mem_of_getElem? (i := 486) (by decide +kernel))) (by decide +kernel), tb_of (List.mem_append_left _ (List.mem_of_getElem? (i := 9) (by decide +kernel))) (by decide +kernel)⟩
theorem mb_X3_kindNamed : MB yX3_kindNamed cX3_kindNamed 1 (some .int) 0 := ⟨tb_of (List.mem_append_right _ (List.mem_of_getElem? (i := 5) (by decide +kernel))) (by decide +kernel), tb_of (List.mem_append_right _ (List.mem_of_getElem? (i := 491) (by decide +kernel))) (by decide +kernel), by decide +kernel⟩
theorem mv_X3_kindNamed : MV yX3_kindNamed := ⟨tb_of (List.mem_append_right _ (List.mem_of_getElem? (i := 490) (by decide +kernel))) (by decide +kernel), tb_of (List.mem_append_left _ (List.mem_of_getElem? (i := 10) (by decide +kernel))) (by decide +kernel)⟩
theorem mb_X3_isWord : MB yX3_isWord cX3_isWord 3 (some .boolean) 1 := ⟨tb_of (List.mem_append_right _ (List.mem_of_getElem? (i := 5) (by decide +kernel))) (by decide +kernel), tb_of (List.mem_append_right _ (List.mem_of_getElem? (i := 496) (by decide +kernel))) (by decide +kernel), by decide +kernel⟩
theorem mv_X3_isWord : MV yX3_isWord := ⟨tb_of (List.mem_append_right _ (List.mem_of_getElem? (i := 495) (by decide +kernel))) (by decide +kernel), tb_of (List.mem_append_left _ (List.mem_of_getElem? (i := 11) (by decide +kernel))) (by decide +kernel)⟩
theorem mb_J0_length_8abf5 : MB yJ0_length_8abf5 cJ0_length_8abf5 1 (some .int) 0 := ⟨tb_of (List.mem_append_right _ (List.mem_of_getElem? (i := 10) (by decide +kernel))) (by decide +kernel), tb_of (List.mem_append_right _ (List.mem_of_getElem? (i := 500) (by decide +kernel))) (by decide +kernel), by decide +kernel⟩
theorem mv_J0_length_8abf5 : MV yJ0_length_8abf5 := ⟨tb_of (List.mem_append_right _ (List.mem_of_getElem? (i := 498) (by decide +kernel))) (by decide +kernel), tb_of (List.mem_append_right _ (List.mem_of_getElem? (i := 499) (by decide +kernel))) (by decide +kernel)⟩
theorem mb_J0_coder_7d493 : MB yJ0_coder_7d493 cJ0_coder_7d493 1 (some .byte) 0 := ⟨tb_of (List.mem_append_right _ (List.mem_of_getElem? (i := 10) (by decide +kernel))) (by decide +kernel), tb_of (List.mem_append_right _ (List.mem_of_getElem? (i := 504) (by decide +kernel))) (by decide +kernel), by decide +kernel⟩
theorem mv_J0_coder_7d493 : MV yJ0_coder_7d493 := ⟨tb_of (List.mem_append_right _ (List.mem_of_getElem? (i := 502) (by decide +kernel))) (by decide +kernel), tb_of (List.mem_append_right _ (List.mem_of_getElem? (i := 503) (by decide +kernel))) (by decide +kernel)⟩
theorem mb_J0_charAt_5068e : MB yJ0_charAt_5068e cJ0_charAt_5068e 2 (some .char) 1 := ⟨tb_of (List.mem_append_right _ (List.mem_of_getElem? (i := 10) (by decide +kernel))) (by decide +kernel), tb_of (List.mem_append_right _ (List.mem_of_getElem? (i := 510) (by decide +kernel))) (by decide +kernel), by decide +kernel⟩
theorem mv_J0_charAt_5068e : MV yJ0_charAt_5068e := ⟨tb_of (List.mem_append_right _ (List.mem_of_getElem? (i := 508) (by decide +kernel))) (by decide +kernel), tb_of (List.mem_append_right _ (List.mem_of_getElem? (i := 509) (by decide +kernel))) (by decide +kernel)⟩
theorem mb_J0_isLatin1_aae02 : MB yJ0_isLatin1_aae02 cJ0_isLatin1_aae02 1 (some .boolean) 0 := ⟨tb_of (List.mem_append_right _ (List.mem_of_getElem? (i := 10) (by decide +kernel))) (by decide +kernel), tb_of (List.mem_append_right _ (List.mem_of_getElem? (i := 514) (by decide +kernel))) (by decide +kernel), by decide +kernel⟩
theorem mv_J0_isLatin1_aae02 : MV yJ0_isLatin1_aae02 := ⟨tb_of (List.mem_append_right _ (List.mem_of_getElem? (i := 512) (by decide +kernel))) (by decide +kernel), tb_of (List.mem_append_right _ (List.mem_of_getElem? (i := 513) (by decide +kernel))) (by decide +kernel)⟩
theorem mb_J1_charAt_3b067 : MB yJ1_charAt_3b067 cJ1_charAt_3b067 2 (some .char) 2 := ⟨tb_of (List.mem_append_right _ (List.mem_of_getElem? (i := 11) (by decide +kernel))) (by decide +kernel), tb_of (List.mem_append_right _ (List.mem_of_getElem? (i := 517) (by decide +kernel))) (by decide +kernel), by decide +kernel⟩
theorem ms_J1_charAt_3b067 : Cond.static yJ1_charAt_3b067 ∈ TB := tb_of (List.mem_append_right _ (List.mem_of_getElem? (i := 516) (by decide +kernel))) (by decide +kernel)
theorem mb_J0_checkIndex_df160 : MB yJ0_checkIndex_df160 cJ0_checkIndex_df160 2 none 2 := ⟨tb_of (List.mem_append_right _ (List.mem_of_getElem? (i := 10) (by decide +kernel))) (by decide +kernel), tb_of (List.mem_append_right _ (List.mem_of_getElem? (i := 520) (by decide +kernel))) (by decide +kernel), by decide +kernel⟩
theorem ms_J0_checkIndex_df160 : Cond.static yJ0_checkIndex_df160 ∈ TB := tb_of (List.mem_append_right _ (List.mem_of_getElem? (i := 519) (by decide +kernel))) (by decide +kernel)
theorem mb_J3_checkIndex_8e157 : MB yJ3_checkIndex_8e157 cJ3_checkIndex_8e157 3 (some .int) 3 := ⟨tb_of (List.mem_append_right _ (List.mem_of_getElem? (i := 12) (by decide +kernel))) (by decide +kernel), tb_of (List.mem_append_right _ (List.mem_of_getElem? (i := 525) (by decide +kernel))) (by decide +kernel), by decide +kernel⟩
theorem ms_J3_checkIndex_8e157 : Cond.static yJ3_checkIndex_8e157 ∈ TB := tb_of (List.mem_append_right _ (List.mem_of_getElem? (i := 524) (by decide +kernel))) (by decide +kernel)
theorem mb_J2_charAt_3b067 : MB yJ2_charAt_3b067 cJ2_charAt_3b067 2 (some .char) 2 := ⟨tb_of (List.mem_append_right _ (List.mem_of_getElem? (i := 13) (by decide +kernel))) (by decide +kernel), tb_of (List.mem_append_right _ (List.mem_of_getElem? (i := 528) (by decide +kernel))) (by decide +kernel), by decide +kernel⟩
theorem ms_J2_charAt_3b067 : Cond.static yJ2_charAt_3b067 ∈ TB := tb_of (List.mem_append_right _ (List.mem_of_getElem? (i := 527) (by decide +kernel))) (by decide +kernel)
theorem mb_J2_checkIndex_2214a : MB yJ2_checkIndex_2214a cJ2_checkIndex_2214a 2 none 2 := ⟨tb_of (List.mem_append_right _ (List.mem_of_getElem? (i := 13) (by decide +kernel))) (by decide +kernel), tb_of (List.mem_append_right _ (List.mem_of_getElem? (i := 531) (by decide +kernel))) (by decide +kernel), by decide +kernel⟩
theorem ms_J2_checkIndex_2214a : Cond.static yJ2_checkIndex_2214a ∈ TB := tb_of (List.mem_append_right _ (List.mem_of_getElem? (i := 530) (by decide +kernel))) (by decide +kernel)
theorem mb_J2_length_9d52b : MB yJ2_length_9d52b cJ2_length_9d52b 1 (some .int) 1 := ⟨tb_of (List.mem_append_right _ (List.mem_of_getElem? (i := 13) (by decide +kernel))) (by decide +kernel), tb_of (List.mem_append_right _ (List.mem_of_getElem? (i := 534) (by decide +kernel))) (by decide +kernel), by decide +kernel⟩
theorem ms_J2_length_9d52b : Cond.static yJ2_length_9d52b ∈ TB := tb_of (List.mem_append_right _ (List.mem_of_getElem? (i := 533) (by decide +kernel))) (by decide +kernel)
theorem mb_J2_getChar_3b067 : MB yJ2_getChar_3b067 cJ2_getChar_3b067 2 (some .char) 2 := ⟨tb_of (List.mem_append_right _ (List.mem_of_getElem? (i := 13) (by decide +kernel))) (by decide +kernel), tb_of (List.mem_append_right _ (List.mem_of_getElem? (i := 538) (by decide +kernel))) (by decide +kernel), by decide +kernel⟩
theorem ms_J2_getChar_3b067 : Cond.static yJ2_getChar_3b067 ∈ TB := tb_of (List.mem_append_right _ (List.mem_of_getElem? (i := 537) (by decide +kernel))) (by decide +kernel)
theorem mb_X3_takeFountain : MB yX3_takeFountain cX3_takeFountain 5 (some .boolean) 2 := ⟨tb_of (List.mem_append_right _ (List.mem_of_getElem? (i := 5) (by decide +kernel))) (by decide +kernel), tb_of (List.mem_append_right _ (List.mem_of_getElem? (i := 553) (by decide +kernel))) (by decide +kernel), by decide +kernel⟩
theorem mv_X3_takeFountain : MV yX3_takeFountain := ⟨tb_of (List.mem_append_right _ (List.mem_of_getElem? (i := 552) (by decide +kernel))) (by decide +kernel), tb_of (List.mem_append_left _ (List.mem_of_getElem? (i := 12) (by decide +kernel))) (by decide +kernel)⟩
theorem mb_X3_takeWord : MB yX3_takeWord cX3_takeWord 2 (some .boolean) 1 := ⟨tb_of (List.mem_append_right _ (List.mem_of_getElem? (i := 5) (by decide +kernel))) (by decide +kernel), tb_of (List.mem_append_right _ (List.mem_of_getElem? (i := 560) (by decide +kernel))) (by decide +kernel), by decide +kernel⟩
theorem mv_X3_takeWord : MV yX3_takeWord := ⟨tb_of (List.mem_append_right _ (List.mem_of_getElem? (i := 559) (by decide +kernel))) (by decide +kernel), tb_of (List.mem_append_left _ (List.mem_of_getElem? (i := 13) (by decide +kernel))) (by decide +kernel)⟩
theorem mb_X3_takeNumber : MB yX3_takeNumber cX3_takeNumber 3 (some .boolean) 2 := ⟨tb_of (List.mem_append_right _ (List.mem_of_getElem? (i := 5) (by decide +kernel))) (by decide +kernel), tb_of (List.mem_append_right _ (List.mem_of_getElem? (i := 564) (by decide +kernel))) (by decide +kernel), by decide +kernel⟩
theorem mv_X3_takeNumber : MV yX3_takeNumber := ⟨tb_of (List.mem_append_right _ (List.mem_of_getElem? (i := 563) (by decide +kernel))) (by decide +kernel), tb_of (List.mem_append_left _ (List.mem_of_getElem? (i := 14) (by decide +kernel))) (by decide +kernel)⟩
theorem mb_X3_takeRain : MB yX3_takeRain cX3_takeRain 3 (some .boolean) 1 := ⟨tb_of (List.mem_append_right _ (List.mem_of_getElem? (i := 5) (by decide +kernel))) (by decide +kernel), tb_of (List.mem_append_right _ (List.mem_of_getElem? (i := 571) (by decide +kernel))) (by decide +kernel), by decide +kernel⟩
theorem mv_X3_takeRain : MV yX3_takeRain := ⟨tb_of (List.mem_append_right _ (List.mem_of_getElem? (i := 570) (by decide +kernel))) (by decide +kernel), tb_of (List.mem_append_left _ (List.mem_of_getElem? (i := 15) (by decide +kernel))) (by decide +kernel)⟩
theorem mb_X3_takeFrost : MB yX3_takeFrost cX3_takeFrost 3 (some .boolean) 2 := ⟨tb_of (List.mem_append_right _ (List.mem_of_getElem? (i := 5) (by decide +kernel))) (by decide +kernel), tb_of (List.mem_append_right _ (List.mem_of_getElem? (i := 576) (by decide +kernel))) (by decide +kernel), by decide +kernel⟩
theorem mv_X3_takeFrost : MV yX3_takeFrost := ⟨tb_of (List.mem_append_right _ (List.mem_of_getElem? (i := 575) (by decide +kernel))) (by decide +kernel), tb_of (List.mem_append_left _ (List.mem_of_getElem? (i := 16) (by decide +kernel))) (by decide +kernel)⟩
theorem mb_X5_sheet : MB yX5_sheet cX5_sheet 4 (some .int) 3 := ⟨tb_of (List.mem_append_right _ (List.mem_of_getElem? (i := 1) (by decide +kernel))) (by decide +kernel), tb_of (List.mem_append_right _ (List.mem_of_getElem? (i := 583) (by decide +kernel))) (by decide +kernel), by decide +kernel⟩
theorem mv_X5_sheet : MV yX5_sheet := ⟨tb_of (List.mem_append_right _ (List.mem_of_getElem? (i := 581) (by decide +kernel))) (by decide +kernel), tb_of (List.mem_append_right _ (List.mem_of_getElem? (i := 582) (by decide +kernel))) (by decide +kernel)⟩
theorem mb_X5_isSheet : MB yX5_isSheet cX5_isSheet 1 (some .boolean) 1 := ⟨tb_of (List.mem_append_right _ (List.mem_of_getElem? (i := 1) (by decide +kernel))) (by decide +kernel), tb_of (List.mem_append_right _ (List.mem_of_getElem? (i := 586) (by decide +kernel))) (by decide +kernel), by decide +kernel⟩
theorem ms_X5_isSheet : Cond.static yX5_isSheet ∈ TB := tb_of (List.mem_append_right _ (List.mem_of_getElem? (i := 585) (by decide +kernel))) (by decide +kernel)
theorem mb_X1_lay : MB yX1_lay cX1_lay 3 none 2 := ⟨tb_of (List.mem_append_right _ (List.mem_of_getElem? (i := 6) (by decide +kernel))) (by decide +kernel), tb_of (List.mem_append_right _ (List.mem_of_getElem? (i := 591) (by decide +kernel))) (by decide +kernel), by decide +kernel⟩
theorem mv_X1_lay : MV yX1_lay := ⟨tb_of (List.mem_append_right _ (List.mem_of_getElem? (i := 589) (by decide +kernel))) (by decide +kernel), tb_of (List.mem_append_right _ (List.mem_of_getElem? (i := 590) (by decide +kernel))) (by decide +kernel)⟩
theorem mb_J7_fill_d0a16 : MB yJ7_fill_d0a16 cJ7_fill_d0a16 5 none 2 := ⟨tb_of (List.mem_append_right _ (List.mem_of_getElem? (i := 14) (by decide +kernel))) (by decide +kernel), tb_of (List.mem_append_right _ (List.mem_of_getElem? (i := 596) (by decide +kernel))) (by decide +kernel), by decide +kernel⟩
theorem ms_J7_fill_d0a16 : Cond.static yJ7_fill_d0a16 ∈ TB := tb_of (List.mem_append_right _ (List.mem_of_getElem? (i := 595) (by decide +kernel))) (by decide +kernel)
theorem mb_X5_write : MB yX5_write cX5_write 9 (some .long) 3 := ⟨tb_of (List.mem_append_right _ (List.mem_of_getElem? (i := 1) (by decide +kernel))) (by decide +kernel), tb_of (List.mem_append_right _ (List.mem_of_getElem? (i := 600) (by decide +kernel))) (by decide +kernel), by decide +kernel⟩
theorem mv_X5_write : MV yX5_write := ⟨tb_of (List.mem_append_right _ (List.mem_of_getElem? (i := 598) (by decide +kernel))) (by decide +kernel), tb_of (List.mem_append_right _ (List.mem_of_getElem? (i := 599) (by decide +kernel))) (by decide +kernel)⟩
theorem mb_X5_askSheet : MB yX5_askSheet cX5_askSheet 2 (some .int) 1 := ⟨tb_of (List.mem_append_right _ (List.mem_of_getElem? (i := 1) (by decide +kernel))) (by decide +kernel), tb_of (List.mem_append_right _ (List.mem_of_getElem? (i := 604) (by decide +kernel))) (by decide +kernel), by decide +kernel⟩
theorem mv_X5_askSheet : MV yX5_askSheet := ⟨tb_of (List.mem_append_right _ (List.mem_of_getElem? (i := 603) (by decide +kernel))) (by decide +kernel), tb_of (List.mem_append_left _ (List.mem_of_getElem? (i := 17) (by decide +kernel))) (by decide +kernel)⟩
theorem mb_X1_isMissing : MB yX1_isMissing cX1_isMissing 1 (some .boolean) 0 := ⟨tb_of (List.mem_append_right _ (List.mem_of_getElem? (i := 6) (by decide +kernel))) (by decide +kernel), tb_of (List.mem_append_right _ (List.mem_of_getElem? (i := 608) (by decide +kernel))) (by decide +kernel), by decide +kernel⟩
theorem mv_X1_isMissing : MV yX1_isMissing := ⟨tb_of (List.mem_append_right _ (List.mem_of_getElem? (i := 606) (by decide +kernel))) (by decide +kernel), tb_of (List.mem_append_right _ (List.mem_of_getElem? (i := 607) (by decide +kernel))) (by decide +kernel)⟩
theorem mb_X1_put : MB yX1_put cX1_put 4 none 2 := ⟨tb_of (List.mem_append_right _ (List.mem_of_getElem? (i := 6) (by decide +kernel))) (by decide +kernel), tb_of (List.mem_append_right _ (List.mem_of_getElem? (i := 613) (by decide +kernel))) (by decide +kernel), by decide +kernel⟩
theorem mv_X1_put : MV yX1_put := ⟨tb_of (List.mem_append_right _ (List.mem_of_getElem? (i := 611) (by decide +kernel))) (by decide +kernel), tb_of (List.mem_append_right _ (List.mem_of_getElem? (i := 612) (by decide +kernel))) (by decide +kernel)⟩
theorem mb_X5_copy : MB yX5_copy cX5_copy 8 (some .int) 5 := ⟨tb_of (List.mem_append_right _ (List.mem_of_getElem? (i := 1) (by decide +kernel))) (by decide +kernel), tb_of (List.mem_append_right _ (List.mem_of_getElem? (i := 617) (by decide +kernel))) (by decide +kernel), by decide +kernel⟩
theorem mv_X5_copy : MV yX5_copy := ⟨tb_of (List.mem_append_right _ (List.mem_of_getElem? (i := 615) (by decide +kernel))) (by decide +kernel), tb_of (List.mem_append_right _ (List.mem_of_getElem? (i := 616) (by decide +kernel))) (by decide +kernel)⟩
theorem mb_X1_hasFrom : MB yX1_hasFrom cX1_hasFrom 3 (some .boolean) 2 := ⟨tb_of (List.mem_append_right _ (List.mem_of_getElem? (i := 6) (by decide +kernel))) (by decide +kernel), tb_of (List.mem_append_right _ (List.mem_of_getElem? (i := 621) (by decide +kernel))) (by decide +kernel), by decide +kernel⟩
theorem mv_X1_hasFrom : MV yX1_hasFrom := ⟨tb_of (List.mem_append_right _ (List.mem_of_getElem? (i := 619) (by decide +kernel))) (by decide +kernel), tb_of (List.mem_append_right _ (List.mem_of_getElem? (i := 620) (by decide +kernel))) (by decide +kernel)⟩
theorem mb_X5_lays : MB yX5_lays cX5_lays 8 (some .int) 1 := ⟨tb_of (List.mem_append_right _ (List.mem_of_getElem? (i := 1) (by decide +kernel))) (by decide +kernel), tb_of (List.mem_append_right _ (List.mem_of_getElem? (i := 626) (by decide +kernel))) (by decide +kernel), by decide +kernel⟩
theorem mv_X5_lays : MV yX5_lays := ⟨tb_of (List.mem_append_right _ (List.mem_of_getElem? (i := 624) (by decide +kernel))) (by decide +kernel), tb_of (List.mem_append_right _ (List.mem_of_getElem? (i := 625) (by decide +kernel))) (by decide +kernel)⟩
theorem mb_X5_book : MB yX5_book cX5_book 5 (some .int) 1 := ⟨tb_of (List.mem_append_right _ (List.mem_of_getElem? (i := 1) (by decide +kernel))) (by decide +kernel), tb_of (List.mem_append_right _ (List.mem_of_getElem? (i := 631) (by decide +kernel))) (by decide +kernel), by decide +kernel⟩
theorem mv_X5_book : MV yX5_book := ⟨tb_of (List.mem_append_right _ (List.mem_of_getElem? (i := 629) (by decide +kernel))) (by decide +kernel), tb_of (List.mem_append_right _ (List.mem_of_getElem? (i := 630) (by decide +kernel))) (by decide +kernel)⟩
theorem mb_X5_read : MB yX5_read cX5_read 7 (some .int) 2 := ⟨tb_of (List.mem_append_right _ (List.mem_of_getElem? (i := 1) (by decide +kernel))) (by decide +kernel), tb_of (List.mem_append_right _ (List.mem_of_getElem? (i := 635) (by decide +kernel))) (by decide +kernel), by decide +kernel⟩
theorem mv_X5_read : MV yX5_read := ⟨tb_of (List.mem_append_right _ (List.mem_of_getElem? (i := 633) (by decide +kernel))) (by decide +kernel), tb_of (List.mem_append_right _ (List.mem_of_getElem? (i := 634) (by decide +kernel))) (by decide +kernel)⟩
theorem mb_X4_goesBy : MB yX4_goesBy cX4_goesBy 3 (some .boolean) 1 := ⟨tb_of (List.mem_append_right _ (List.mem_of_getElem? (i := 2) (by decide +kernel))) (by decide +kernel), tb_of (List.mem_append_right _ (List.mem_of_getElem? (i := 639) (by decide +kernel))) (by decide +kernel), by decide +kernel⟩
theorem mv_X4_goesBy : MV yX4_goesBy := ⟨tb_of (List.mem_append_right _ (List.mem_of_getElem? (i := 637) (by decide +kernel))) (by decide +kernel), tb_of (List.mem_append_right _ (List.mem_of_getElem? (i := 638) (by decide +kernel))) (by decide +kernel)⟩
theorem mb_X5_image : MB yX5_image cX5_image 1 (some .int) 0 := ⟨tb_of (List.mem_append_right _ (List.mem_of_getElem? (i := 1) (by decide +kernel))) (by decide +kernel), tb_of (List.mem_append_right _ (List.mem_of_getElem? (i := 643) (by decide +kernel))) (by decide +kernel), by decide +kernel⟩
theorem mv_X5_image : MV yX5_image := ⟨tb_of (List.mem_append_right _ (List.mem_of_getElem? (i := 641) (by decide +kernel))) (by decide +kernel), tb_of (List.mem_append_right _ (List.mem_of_getElem? (i := 642) (by decide +kernel))) (by decide +kernel)⟩
theorem mb_X5_undo : MB yX5_undo cX5_undo 1 (some .int) 0 := ⟨tb_of (List.mem_append_right _ (List.mem_of_getElem? (i := 1) (by decide +kernel))) (by decide +kernel), tb_of (List.mem_append_right _ (List.mem_of_getElem? (i := 647) (by decide +kernel))) (by decide +kernel), by decide +kernel⟩
theorem mv_X5_undo : MV yX5_undo := ⟨tb_of (List.mem_append_right _ (List.mem_of_getElem? (i := 645) (by decide +kernel))) (by decide +kernel), tb_of (List.mem_append_right _ (List.mem_of_getElem? (i := 646) (by decide +kernel))) (by decide +kernel)⟩
theorem mb_X5_tear : MB yX5_tear cX5_tear 2 (some .int) 0 := ⟨tb_of (List.mem_append_right _ (List.mem_of_getElem? (i := 1) (by decide +kernel))) (by decide +kernel), tb_of (List.mem_append_right _ (List.mem_of_getElem? (i := 651) (by decide +kernel))) (by decide +kernel), by decide +kernel⟩
theorem mv_X5_tear : MV yX5_tear := ⟨tb_of (List.mem_append_right _ (List.mem_of_getElem? (i := 649) (by decide +kernel))) (by decide +kernel), tb_of (List.mem_append_right _ (List.mem_of_getElem? (i := 650) (by decide +kernel))) (by decide +kernel)⟩
theorem mb_X5_count : MB yX5_count cX5_count 2 (some .int) 1 := ⟨tb_of (List.mem_append_right _ (List.mem_of_getElem? (i := 1) (by decide +kernel))) (by decide +kernel), tb_of (List.mem_append_right _ (List.mem_of_getElem? (i := 655) (by decide +kernel))) (by decide +kernel), by decide +kernel⟩
theorem mv_X5_count : MV yX5_count := ⟨tb_of (List.mem_append_right _ (List.mem_of_getElem? (i := 653) (by decide +kernel))) (by decide +kernel), tb_of (List.mem_append_right _ (List.mem_of_getElem? (i := 654) (by decide +kernel))) (by decide +kernel)⟩
theorem mb_J6_bitCount_0f7a4 : MB yJ6_bitCount_0f7a4 cJ6_bitCount_0f7a4 1 (some .int) 1 := ⟨tb_of (List.mem_append_right _ (List.mem_of_getElem? (i := 15) (by decide +kernel))) (by decide +kernel), tb_of (List.mem_append_right _ (List.mem_of_getElem? (i := 658) (by decide +kernel))) (by decide +kernel), by decide +kernel⟩
theorem ms_J6_bitCount_0f7a4 : Cond.static yJ6_bitCount_0f7a4 ∈ TB := tb_of (List.mem_append_right _ (List.mem_of_getElem? (i := 657) (by decide +kernel))) (by decide +kernel)
theorem mb_X5_status : MB yX5_status cX5_status 4 (some .int) 1 := ⟨tb_of (List.mem_append_right _ (List.mem_of_getElem? (i := 1) (by decide +kernel))) (by decide +kernel), tb_of (List.mem_append_right _ (List.mem_of_getElem? (i := 665) (by decide +kernel))) (by decide +kernel), by decide +kernel⟩
theorem mv_X5_status : MV yX5_status := ⟨tb_of (List.mem_append_right _ (List.mem_of_getElem? (i := 663) (by decide +kernel))) (by decide +kernel), tb_of (List.mem_append_right _ (List.mem_of_getElem? (i := 664) (by decide +kernel))) (by decide +kernel)⟩
theorem mb_X6_init : MB yX6_init cX6_init 2 none 0 := ⟨tb_of (List.mem_append_right _ (List.mem_of_getElem? (i := 7) (by decide +kernel))) (by decide +kernel), tb_of (List.mem_append_right _ (List.mem_of_getElem? (i := 670) (by decide +kernel))) (by decide +kernel), by decide +kernel⟩
theorem mi_X6_init : Cond.instanceMethod yX6_init ∈ TB := tb_of (List.mem_append_right _ (List.mem_of_getElem? (i := 669) (by decide +kernel))) (by decide +kernel)
theorem mb_X6_water : MB yX6_water cX6_water 3 (some .int) 2 := ⟨tb_of (List.mem_append_right _ (List.mem_of_getElem? (i := 7) (by decide +kernel))) (by decide +kernel), tb_of (List.mem_append_right _ (List.mem_of_getElem? (i := 721) (by decide +kernel))) (by decide +kernel), by decide +kernel⟩
theorem mv_X6_water : MV yX6_water := ⟨tb_of (List.mem_append_right _ (List.mem_of_getElem? (i := 719) (by decide +kernel))) (by decide +kernel), tb_of (List.mem_append_right _ (List.mem_of_getElem? (i := 720) (by decide +kernel))) (by decide +kernel)⟩
theorem mb_X6_in : MB yX6_in cX6_in 4 (some .boolean) 3 := ⟨tb_of (List.mem_append_right _ (List.mem_of_getElem? (i := 7) (by decide +kernel))) (by decide +kernel), tb_of (List.mem_append_right _ (List.mem_of_getElem? (i := 724) (by decide +kernel))) (by decide +kernel), by decide +kernel⟩
theorem ms_X6_in : Cond.static yX6_in ∈ TB := tb_of (List.mem_append_right _ (List.mem_of_getElem? (i := 723) (by decide +kernel))) (by decide +kernel)
theorem mb_X6_becomes : MB yX6_becomes cX6_becomes 4 (some .int) 2 := ⟨tb_of (List.mem_append_right _ (List.mem_of_getElem? (i := 7) (by decide +kernel))) (by decide +kernel), tb_of (List.mem_append_right _ (List.mem_of_getElem? (i := 728) (by decide +kernel))) (by decide +kernel), by decide +kernel⟩
theorem mv_X6_becomes : MV yX6_becomes := ⟨tb_of (List.mem_append_right _ (List.mem_of_getElem? (i := 727) (by decide +kernel))) (by decide +kernel), tb_of (List.mem_append_left _ (List.mem_of_getElem? (i := 18) (by decide +kernel))) (by decide +kernel)⟩
theorem mb_X6_finds : MB yX6_finds cX6_finds 2 (some .int) 1 := ⟨tb_of (List.mem_append_right _ (List.mem_of_getElem? (i := 7) (by decide +kernel))) (by decide +kernel), tb_of (List.mem_append_right _ (List.mem_of_getElem? (i := 733) (by decide +kernel))) (by decide +kernel), by decide +kernel⟩
theorem mv_X6_finds : MV yX6_finds := ⟨tb_of (List.mem_append_right _ (List.mem_of_getElem? (i := 732) (by decide +kernel))) (by decide +kernel), tb_of (List.mem_append_left _ (List.mem_of_getElem? (i := 19) (by decide +kernel))) (by decide +kernel)⟩
theorem mb_X6_week : MB yX6_week cX6_week 5 (some .int) 3 := ⟨tb_of (List.mem_append_right _ (List.mem_of_getElem? (i := 7) (by decide +kernel))) (by decide +kernel), tb_of (List.mem_append_right _ (List.mem_of_getElem? (i := 737) (by decide +kernel))) (by decide +kernel), by decide +kernel⟩
theorem mv_X6_week : MV yX6_week := ⟨tb_of (List.mem_append_right _ (List.mem_of_getElem? (i := 735) (by decide +kernel))) (by decide +kernel), tb_of (List.mem_append_right _ (List.mem_of_getElem? (i := 736) (by decide +kernel))) (by decide +kernel)⟩
theorem mb_X6_now : MB yX6_now cX6_now 2 (some .int) 1 := ⟨tb_of (List.mem_append_right _ (List.mem_of_getElem? (i := 7) (by decide +kernel))) (by decide +kernel), tb_of (List.mem_append_right _ (List.mem_of_getElem? (i := 741) (by decide +kernel))) (by decide +kernel), by decide +kernel⟩
theorem mv_X6_now : MV yX6_now := ⟨tb_of (List.mem_append_right _ (List.mem_of_getElem? (i := 739) (by decide +kernel))) (by decide +kernel), tb_of (List.mem_append_right _ (List.mem_of_getElem? (i := 740) (by decide +kernel))) (by decide +kernel)⟩
theorem mb_X6_weekNow : MB yX6_weekNow cX6_weekNow 1 (some .int) 0 := ⟨tb_of (List.mem_append_right _ (List.mem_of_getElem? (i := 7) (by decide +kernel))) (by decide +kernel), tb_of (List.mem_append_right _ (List.mem_of_getElem? (i := 745) (by decide +kernel))) (by decide +kernel), by decide +kernel⟩
theorem mv_X6_weekNow : MV yX6_weekNow := ⟨tb_of (List.mem_append_right _ (List.mem_of_getElem? (i := 744) (by decide +kernel))) (by decide +kernel), tb_of (List.mem_append_left _ (List.mem_of_getElem? (i := 20) (by decide +kernel))) (by decide +kernel)⟩
theorem mb_X6_offOnes : MB yX6_offOnes cX6_offOnes 3 (some .int) 0 := ⟨tb_of (List.mem_append_right _ (List.mem_of_getElem? (i := 7) (by decide +kernel))) (by decide +kernel), tb_of (List.mem_append_right _ (List.mem_of_getElem? (i := 749) (by decide +kernel))) (by decide +kernel), by decide +kernel⟩
theorem mv_X6_offOnes : MV yX6_offOnes := ⟨tb_of (List.mem_append_right _ (List.mem_of_getElem? (i := 748) (by decide +kernel))) (by decide +kernel), tb_of (List.mem_append_left _ (List.mem_of_getElem? (i := 21) (by decide +kernel))) (by decide +kernel)⟩
theorem mb_X6_it : MB yX6_it cX6_it 3 (some .int) 2 := ⟨tb_of (List.mem_append_right _ (List.mem_of_getElem? (i := 7) (by decide +kernel))) (by decide +kernel), tb_of (List.mem_append_right _ (List.mem_of_getElem? (i := 753) (by decide +kernel))) (by decide +kernel), by decide +kernel⟩
theorem mv_X6_it : MV yX6_it := ⟨tb_of (List.mem_append_right _ (List.mem_of_getElem? (i := 752) (by decide +kernel))) (by decide +kernel), tb_of (List.mem_append_left _ (List.mem_of_getElem? (i := 22) (by decide +kernel))) (by decide +kernel)⟩
theorem mb_X6_noise : MB yX6_noise cX6_noise 3 (some .int) 0 := ⟨tb_of (List.mem_append_right _ (List.mem_of_getElem? (i := 7) (by decide +kernel))) (by decide +kernel), tb_of (List.mem_append_right _ (List.mem_of_getElem? (i := 757) (by decide +kernel))) (by decide +kernel), by decide +kernel⟩
theorem mv_X6_noise : MV yX6_noise := ⟨tb_of (List.mem_append_right _ (List.mem_of_getElem? (i := 756) (by decide +kernel))) (by decide +kernel), tb_of (List.mem_append_left _ (List.mem_of_getElem? (i := 23) (by decide +kernel))) (by decide +kernel)⟩
theorem mb_X6_heard : MB yX6_heard cX6_heard 3 (some .int) 1 := ⟨tb_of (List.mem_append_right _ (List.mem_of_getElem? (i := 7) (by decide +kernel))) (by decide +kernel), tb_of (List.mem_append_right _ (List.mem_of_getElem? (i := 761) (by decide +kernel))) (by decide +kernel), by decide +kernel⟩
theorem mv_X6_heard : MV yX6_heard := ⟨tb_of (List.mem_append_right _ (List.mem_of_getElem? (i := 760) (by decide +kernel))) (by decide +kernel), tb_of (List.mem_append_left _ (List.mem_of_getElem? (i := 24) (by decide +kernel))) (by decide +kernel)⟩
theorem mb_X6_isOff : MB yX6_isOff cX6_isOff 2 (some .boolean) 1 := ⟨tb_of (List.mem_append_right _ (List.mem_of_getElem? (i := 7) (by decide +kernel))) (by decide +kernel), tb_of (List.mem_append_right _ (List.mem_of_getElem? (i := 765) (by decide +kernel))) (by decide +kernel), by decide +kernel⟩
theorem mv_X6_isOff : MV yX6_isOff := ⟨tb_of (List.mem_append_right _ (List.mem_of_getElem? (i := 764) (by decide +kernel))) (by decide +kernel), tb_of (List.mem_append_left _ (List.mem_of_getElem? (i := 25) (by decide +kernel))) (by decide +kernel)⟩
theorem mb_X6_allUses : MB yX6_allUses cX6_allUses 3 (some .int) 0 := ⟨tb_of (List.mem_append_right _ (List.mem_of_getElem? (i := 7) (by decide +kernel))) (by decide +kernel), tb_of (List.mem_append_right _ (List.mem_of_getElem? (i := 769) (by decide +kernel))) (by decide +kernel), by decide +kernel⟩
theorem mv_X6_allUses : MV yX6_allUses := ⟨tb_of (List.mem_append_right _ (List.mem_of_getElem? (i := 768) (by decide +kernel))) (by decide +kernel), tb_of (List.mem_append_left _ (List.mem_of_getElem? (i := 26) (by decide +kernel))) (by decide +kernel)⟩
theorem mb_X6_uses : MB yX6_uses cX6_uses 4 (some .int) 1 := ⟨tb_of (List.mem_append_right _ (List.mem_of_getElem? (i := 7) (by decide +kernel))) (by decide +kernel), tb_of (List.mem_append_right _ (List.mem_of_getElem? (i := 773) (by decide +kernel))) (by decide +kernel), by decide +kernel⟩
theorem mv_X6_uses : MV yX6_uses := ⟨tb_of (List.mem_append_right _ (List.mem_of_getElem? (i := 772) (by decide +kernel))) (by decide +kernel), tb_of (List.mem_append_left _ (List.mem_of_getElem? (i := 27) (by decide +kernel))) (by decide +kernel)⟩
theorem mb_X6_held : MB yX6_held cX6_held 3 (some .int) 3 := ⟨tb_of (List.mem_append_right _ (List.mem_of_getElem? (i := 7) (by decide +kernel))) (by decide +kernel), tb_of (List.mem_append_right _ (List.mem_of_getElem? (i := 776) (by decide +kernel))) (by decide +kernel), by decide +kernel⟩
theorem ms_X6_held : Cond.static yX6_held ∈ TB := tb_of (List.mem_append_right _ (List.mem_of_getElem? (i := 775) (by decide +kernel))) (by decide +kernel)
theorem mb_X6_isCold : MB yX6_isCold cX6_isCold 1 (some .boolean) 0 := ⟨tb_of (List.mem_append_right _ (List.mem_of_getElem? (i := 7) (by decide +kernel))) (by decide +kernel), tb_of (List.mem_append_right _ (List.mem_of_getElem? (i := 780) (by decide +kernel))) (by decide +kernel), by decide +kernel⟩
theorem mv_X6_isCold : MV yX6_isCold := ⟨tb_of (List.mem_append_right _ (List.mem_of_getElem? (i := 779) (by decide +kernel))) (by decide +kernel), tb_of (List.mem_append_left _ (List.mem_of_getElem? (i := 28) (by decide +kernel))) (by decide +kernel)⟩
theorem mb_X6_fountain : MB yX6_fountain cX6_fountain 2 (some .int) 1 := ⟨tb_of (List.mem_append_right _ (List.mem_of_getElem? (i := 7) (by decide +kernel))) (by decide +kernel), tb_of (List.mem_append_right _ (List.mem_of_getElem? (i := 784) (by decide +kernel))) (by decide +kernel), by decide +kernel⟩
theorem mv_X6_fountain : MV yX6_fountain := ⟨tb_of (List.mem_append_right _ (List.mem_of_getElem? (i := 782) (by decide +kernel))) (by decide +kernel), tb_of (List.mem_append_right _ (List.mem_of_getElem? (i := 783) (by decide +kernel))) (by decide +kernel)⟩
theorem mb_X6_comesAs : MB yX6_comesAs cX6_comesAs 6 (some .int) 4 := ⟨tb_of (List.mem_append_right _ (List.mem_of_getElem? (i := 7) (by decide +kernel))) (by decide +kernel), tb_of (List.mem_append_right _ (List.mem_of_getElem? (i := 789) (by decide +kernel))) (by decide +kernel), by decide +kernel⟩
theorem mv_X6_comesAs : MV yX6_comesAs := ⟨tb_of (List.mem_append_right _ (List.mem_of_getElem? (i := 788) (by decide +kernel))) (by decide +kernel), tb_of (List.mem_append_left _ (List.mem_of_getElem? (i := 29) (by decide +kernel))) (by decide +kernel)⟩
theorem mb_X6_put : MB yX6_put cX6_put 4 none 3 := ⟨tb_of (List.mem_append_right _ (List.mem_of_getElem? (i := 7) (by decide +kernel))) (by decide +kernel), tb_of (List.mem_append_right _ (List.mem_of_getElem? (i := 793) (by decide +kernel))) (by decide +kernel), by decide +kernel⟩
theorem mv_X6_put : MV yX6_put := ⟨tb_of (List.mem_append_right _ (List.mem_of_getElem? (i := 792) (by decide +kernel))) (by decide +kernel), tb_of (List.mem_append_left _ (List.mem_of_getElem? (i := 30) (by decide +kernel))) (by decide +kernel)⟩
theorem mb_X6_of : MB yX6_of cX6_of 3 (some .int) 2 := ⟨tb_of (List.mem_append_right _ (List.mem_of_getElem? (i := 7) (by decide +kernel))) (by decide +kernel), tb_of (List.mem_append_right _ (List.mem_of_getElem? (i := 797) (by decide +kernel))) (by decide +kernel), by decide +kernel⟩
theorem mv_X6_of : MV yX6_of := ⟨tb_of (List.mem_append_right _ (List.mem_of_getElem? (i := 795) (by decide +kernel))) (by decide +kernel), tb_of (List.mem_append_right _ (List.mem_of_getElem? (i := 796) (by decide +kernel))) (by decide +kernel)⟩
theorem mb_X6_isFountain : MB yX6_isFountain cX6_isFountain 2 (some .boolean) 1 := ⟨tb_of (List.mem_append_right _ (List.mem_of_getElem? (i := 7) (by decide +kernel))) (by decide +kernel), tb_of (List.mem_append_right _ (List.mem_of_getElem? (i := 801) (by decide +kernel))) (by decide +kernel), by decide +kernel⟩
theorem mv_X6_isFountain : MV yX6_isFountain := ⟨tb_of (List.mem_append_right _ (List.mem_of_getElem? (i := 800) (by decide +kernel))) (by decide +kernel), tb_of (List.mem_append_left _ (List.mem_of_getElem? (i := 31) (by decide +kernel))) (by decide +kernel)⟩
theorem mb_X6_gains : MB yX6_gains cX6_gains 5 (some .int) 1 := ⟨tb_of (List.mem_append_right _ (List.mem_of_getElem? (i := 7) (by decide +kernel))) (by decide +kernel), tb_of (List.mem_append_right _ (List.mem_of_getElem? (i := 805) (by decide +kernel))) (by decide +kernel), by decide +kernel⟩
theorem mv_X6_gains : MV yX6_gains := ⟨tb_of (List.mem_append_right _ (List.mem_of_getElem? (i := 804) (by decide +kernel))) (by decide +kernel), tb_of (List.mem_append_left _ (List.mem_of_getElem? (i := 32) (by decide +kernel))) (by decide +kernel)⟩
theorem mb_X6_givesWay : MB yX6_givesWay cX6_givesWay 3 (some .int) 1 := ⟨tb_of (List.mem_append_right _ (List.mem_of_getElem? (i := 7) (by decide +kernel))) (by decide +kernel), tb_of (List.mem_append_right _ (List.mem_of_getElem? (i := 809) (by decide +kernel))) (by decide +kernel), by decide +kernel⟩
theorem mv_X6_givesWay : MV yX6_givesWay := ⟨tb_of (List.mem_append_right _ (List.mem_of_getElem? (i := 808) (by decide +kernel))) (by decide +kernel), tb_of (List.mem_append_left _ (List.mem_of_getElem? (i := 33) (by decide +kernel))) (by decide +kernel)⟩
theorem mb_X6_set : MB yX6_set cX6_set 5 (some .int) 3 := ⟨tb_of (List.mem_append_right _ (List.mem_of_getElem? (i := 7) (by decide +kernel))) (by decide +kernel), tb_of (List.mem_append_right _ (List.mem_of_getElem? (i := 813) (by decide +kernel))) (by decide +kernel), by decide +kernel⟩
theorem mv_X6_set : MV yX6_set := ⟨tb_of (List.mem_append_right _ (List.mem_of_getElem? (i := 811) (by decide +kernel))) (by decide +kernel), tb_of (List.mem_append_right _ (List.mem_of_getElem? (i := 812) (by decide +kernel))) (by decide +kernel)⟩
theorem mb_X6_mostOf : MB yX6_mostOf cX6_mostOf 1 (some .int) 1 := ⟨tb_of (List.mem_append_right _ (List.mem_of_getElem? (i := 7) (by decide +kernel))) (by decide +kernel), tb_of (List.mem_append_right _ (List.mem_of_getElem? (i := 816) (by decide +kernel))) (by decide +kernel), by decide +kernel⟩
theorem ms_X6_mostOf : Cond.static yX6_mostOf ∈ TB := tb_of (List.mem_append_right _ (List.mem_of_getElem? (i := 815) (by decide +kernel))) (by decide +kernel)
theorem mb_X6_turn : MB yX6_turn cX6_turn 3 (some .int) 2 := ⟨tb_of (List.mem_append_right _ (List.mem_of_getElem? (i := 7) (by decide +kernel))) (by decide +kernel), tb_of (List.mem_append_right _ (List.mem_of_getElem? (i := 820) (by decide +kernel))) (by decide +kernel), by decide +kernel⟩
theorem mv_X6_turn : MV yX6_turn := ⟨tb_of (List.mem_append_right _ (List.mem_of_getElem? (i := 818) (by decide +kernel))) (by decide +kernel), tb_of (List.mem_append_right _ (List.mem_of_getElem? (i := 819) (by decide +kernel))) (by decide +kernel)⟩
theorem mb_X6_as : MB yX6_as cX6_as 5 (some .int) 2 := ⟨tb_of (List.mem_append_right _ (List.mem_of_getElem? (i := 7) (by decide +kernel))) (by decide +kernel), tb_of (List.mem_append_right _ (List.mem_of_getElem? (i := 824) (by decide +kernel))) (by decide +kernel), by decide +kernel⟩
theorem mv_X6_as : MV yX6_as := ⟨tb_of (List.mem_append_right _ (List.mem_of_getElem? (i := 822) (by decide +kernel))) (by decide +kernel), tb_of (List.mem_append_right _ (List.mem_of_getElem? (i := 823) (by decide +kernel))) (by decide +kernel)⟩
theorem mb_X6_next : MB yX6_next cX6_next 1 (some .int) 0 := ⟨tb_of (List.mem_append_right _ (List.mem_of_getElem? (i := 7) (by decide +kernel))) (by decide +kernel), tb_of (List.mem_append_right _ (List.mem_of_getElem? (i := 829) (by decide +kernel))) (by decide +kernel), by decide +kernel⟩
theorem mv_X6_next : MV yX6_next := ⟨tb_of (List.mem_append_right _ (List.mem_of_getElem? (i := 827) (by decide +kernel))) (by decide +kernel), tb_of (List.mem_append_right _ (List.mem_of_getElem? (i := 828) (by decide +kernel))) (by decide +kernel)⟩
theorem mb_X6_first : MB yX6_first cX6_first 7 (some .int) 2 := ⟨tb_of (List.mem_append_right _ (List.mem_of_getElem? (i := 7) (by decide +kernel))) (by decide +kernel), tb_of (List.mem_append_right _ (List.mem_of_getElem? (i := 833) (by decide +kernel))) (by decide +kernel), by decide +kernel⟩
theorem mv_X6_first : MV yX6_first := ⟨tb_of (List.mem_append_right _ (List.mem_of_getElem? (i := 832) (by decide +kernel))) (by decide +kernel), tb_of (List.mem_append_left _ (List.mem_of_getElem? (i := 34) (by decide +kernel))) (by decide +kernel)⟩
theorem mb_X6_orNone : MB yX6_orNone cX6_orNone 2 (some .int) 1 := ⟨tb_of (List.mem_append_right _ (List.mem_of_getElem? (i := 7) (by decide +kernel))) (by decide +kernel), tb_of (List.mem_append_right _ (List.mem_of_getElem? (i := 837) (by decide +kernel))) (by decide +kernel), by decide +kernel⟩
theorem mv_X6_orNone : MV yX6_orNone := ⟨tb_of (List.mem_append_right _ (List.mem_of_getElem? (i := 836) (by decide +kernel))) (by decide +kernel), tb_of (List.mem_append_left _ (List.mem_of_getElem? (i := 35) (by decide +kernel))) (by decide +kernel)⟩
theorem mb_X6_days : MB yX6_days cX6_days 2 (some .int) 1 := ⟨tb_of (List.mem_append_right _ (List.mem_of_getElem? (i := 7) (by decide +kernel))) (by decide +kernel), tb_of (List.mem_append_right _ (List.mem_of_getElem? (i := 842) (by decide +kernel))) (by decide +kernel), by decide +kernel⟩
theorem mv_X6_days : MV yX6_days := ⟨tb_of (List.mem_append_right _ (List.mem_of_getElem? (i := 840) (by decide +kernel))) (by decide +kernel), tb_of (List.mem_append_right _ (List.mem_of_getElem? (i := 841) (by decide +kernel))) (by decide +kernel)⟩
theorem mb_X6_goesFor : MB yX6_goesFor cX6_goesFor 3 none 1 := ⟨tb_of (List.mem_append_right _ (List.mem_of_getElem? (i := 7) (by decide +kernel))) (by decide +kernel), tb_of (List.mem_append_right _ (List.mem_of_getElem? (i := 848) (by decide +kernel))) (by decide +kernel), by decide +kernel⟩
theorem mv_X6_goesFor : MV yX6_goesFor := ⟨tb_of (List.mem_append_right _ (List.mem_of_getElem? (i := 847) (by decide +kernel))) (by decide +kernel), tb_of (List.mem_append_left _ (List.mem_of_getElem? (i := 36) (by decide +kernel))) (by decide +kernel)⟩
theorem mb_X6_goes : MB yX6_goes cX6_goes 2 none 0 := ⟨tb_of (List.mem_append_right _ (List.mem_of_getElem? (i := 7) (by decide +kernel))) (by decide +kernel), tb_of (List.mem_append_right _ (List.mem_of_getElem? (i := 852) (by decide +kernel))) (by decide +kernel), by decide +kernel⟩
theorem mv_X6_goes : MV yX6_goes := ⟨tb_of (List.mem_append_right _ (List.mem_of_getElem? (i := 851) (by decide +kernel))) (by decide +kernel), tb_of (List.mem_append_left _ (List.mem_of_getElem? (i := 37) (by decide +kernel))) (by decide +kernel)⟩
theorem mb_X6_committee : MB yX6_committee cX6_committee 2 none 0 := ⟨tb_of (List.mem_append_right _ (List.mem_of_getElem? (i := 7) (by decide +kernel))) (by decide +kernel), tb_of (List.mem_append_right _ (List.mem_of_getElem? (i := 856) (by decide +kernel))) (by decide +kernel), by decide +kernel⟩
theorem mv_X6_committee : MV yX6_committee := ⟨tb_of (List.mem_append_right _ (List.mem_of_getElem? (i := 855) (by decide +kernel))) (by decide +kernel), tb_of (List.mem_append_left _ (List.mem_of_getElem? (i := 38) (by decide +kernel))) (by decide +kernel)⟩
theorem mb_X6_turnsOff : MB yX6_turnsOff cX6_turnsOff 2 none 1 := ⟨tb_of (List.mem_append_right _ (List.mem_of_getElem? (i := 7) (by decide +kernel))) (by decide +kernel), tb_of (List.mem_append_right _ (List.mem_of_getElem? (i := 860) (by decide +kernel))) (by decide +kernel), by decide +kernel⟩
theorem mv_X6_turnsOff : MV yX6_turnsOff := ⟨tb_of (List.mem_append_right _ (List.mem_of_getElem? (i := 859) (by decide +kernel))) (by decide +kernel), tb_of (List.mem_append_left _ (List.mem_of_getElem? (i := 39) (by decide +kernel))) (by decide +kernel)⟩
theorem mb_X6_flows : MB yX6_flows cX6_flows 2 none 1 := ⟨tb_of (List.mem_append_right _ (List.mem_of_getElem? (i := 7) (by decide +kernel))) (by decide +kernel), tb_of (List.mem_append_right _ (List.mem_of_getElem? (i := 864) (by decide +kernel))) (by decide +kernel), by decide +kernel⟩
theorem mv_X6_flows : MV yX6_flows := ⟨tb_of (List.mem_append_right _ (List.mem_of_getElem? (i := 863) (by decide +kernel))) (by decide +kernel), tb_of (List.mem_append_left _ (List.mem_of_getElem? (i := 40) (by decide +kernel))) (by decide +kernel)⟩
theorem mb_X6_on : MB yX6_on cX6_on 4 (some .int) 2 := ⟨tb_of (List.mem_append_right _ (List.mem_of_getElem? (i := 7) (by decide +kernel))) (by decide +kernel), tb_of (List.mem_append_right _ (List.mem_of_getElem? (i := 868) (by decide +kernel))) (by decide +kernel), by decide +kernel⟩
theorem mv_X6_on : MV yX6_on := ⟨tb_of (List.mem_append_right _ (List.mem_of_getElem? (i := 866) (by decide +kernel))) (by decide +kernel), tb_of (List.mem_append_right _ (List.mem_of_getElem? (i := 867) (by decide +kernel))) (by decide +kernel)⟩
theorem mb_X6_thinks : MB yX6_thinks cX6_thinks 1 none 0 := ⟨tb_of (List.mem_append_right _ (List.mem_of_getElem? (i := 7) (by decide +kernel))) (by decide +kernel), tb_of (List.mem_append_right _ (List.mem_of_getElem? (i := 872) (by decide +kernel))) (by decide +kernel), by decide +kernel⟩
theorem mv_X6_thinks : MV yX6_thinks := ⟨tb_of (List.mem_append_right _ (List.mem_of_getElem? (i := 871) (by decide +kernel))) (by decide +kernel), tb_of (List.mem_append_left _ (List.mem_of_getElem? (i := 41) (by decide +kernel))) (by decide +kernel)⟩
theorem mb_X6_copyAll : MB yX6_copyAll cX6_copyAll 3 none 2 := ⟨tb_of (List.mem_append_right _ (List.mem_of_getElem? (i := 7) (by decide +kernel))) (by decide +kernel), tb_of (List.mem_append_right _ (List.mem_of_getElem? (i := 875) (by decide +kernel))) (by decide +kernel), by decide +kernel⟩
theorem ms_X6_copyAll : Cond.static yX6_copyAll ∈ TB := tb_of (List.mem_append_right _ (List.mem_of_getElem? (i := 874) (by decide +kernel))) (by decide +kernel)
theorem mb_X6_putsBack : MB yX6_putsBack cX6_putsBack 1 none 0 := ⟨tb_of (List.mem_append_right _ (List.mem_of_getElem? (i := 7) (by decide +kernel))) (by decide +kernel), tb_of (List.mem_append_right _ (List.mem_of_getElem? (i := 879) (by decide +kernel))) (by decide +kernel), by decide +kernel⟩
theorem mv_X6_putsBack : MV yX6_putsBack := ⟨tb_of (List.mem_append_right _ (List.mem_of_getElem? (i := 878) (by decide +kernel))) (by decide +kernel), tb_of (List.mem_append_left _ (List.mem_of_getElem? (i := 42) (by decide +kernel))) (by decide +kernel)⟩
theorem mb_X6_then : MB yX6_then cX6_then 5 (some .int) 3 := ⟨tb_of (List.mem_append_right _ (List.mem_of_getElem? (i := 7) (by decide +kernel))) (by decide +kernel), tb_of (List.mem_append_right _ (List.mem_of_getElem? (i := 883) (by decide +kernel))) (by decide +kernel), by decide +kernel⟩
theorem mv_X6_then : MV yX6_then := ⟨tb_of (List.mem_append_right _ (List.mem_of_getElem? (i := 881) (by decide +kernel))) (by decide +kernel), tb_of (List.mem_append_right _ (List.mem_of_getElem? (i := 882) (by decide +kernel))) (by decide +kernel)⟩
theorem mb_X6_falls : MB yX6_falls cX6_falls 3 (some .int) 1 := ⟨tb_of (List.mem_append_right _ (List.mem_of_getElem? (i := 7) (by decide +kernel))) (by decide +kernel), tb_of (List.mem_append_right _ (List.mem_of_getElem? (i := 887) (by decide +kernel))) (by decide +kernel), by decide +kernel⟩
theorem mv_X6_falls : MV yX6_falls := ⟨tb_of (List.mem_append_right _ (List.mem_of_getElem? (i := 885) (by decide +kernel))) (by decide +kernel), tb_of (List.mem_append_right _ (List.mem_of_getElem? (i := 886) (by decide +kernel))) (by decide +kernel)⟩
theorem mb_X6_off : MB yX6_off cX6_off 3 (some .int) 1 := ⟨tb_of (List.mem_append_right _ (List.mem_of_getElem? (i := 7) (by decide +kernel))) (by decide +kernel), tb_of (List.mem_append_right _ (List.mem_of_getElem? (i := 891) (by decide +kernel))) (by decide +kernel), by decide +kernel⟩
theorem mv_X6_off : MV yX6_off := ⟨tb_of (List.mem_append_right _ (List.mem_of_getElem? (i := 889) (by decide +kernel))) (by decide +kernel), tb_of (List.mem_append_right _ (List.mem_of_getElem? (i := 890) (by decide +kernel))) (by decide +kernel)⟩
theorem mb_X6_offIn : MB yX6_offIn cX6_offIn 3 (some .int) 1 := ⟨tb_of (List.mem_append_right _ (List.mem_of_getElem? (i := 7) (by decide +kernel))) (by decide +kernel), tb_of (List.mem_append_right _ (List.mem_of_getElem? (i := 895) (by decide +kernel))) (by decide +kernel), by decide +kernel⟩
theorem mv_X6_offIn : MV yX6_offIn := ⟨tb_of (List.mem_append_right _ (List.mem_of_getElem? (i := 894) (by decide +kernel))) (by decide +kernel), tb_of (List.mem_append_left _ (List.mem_of_getElem? (i := 43) (by decide +kernel))) (by decide +kernel)⟩
theorem mb_X6_quiet : MB yX6_quiet cX6_quiet 2 (some .int) 0 := ⟨tb_of (List.mem_append_right _ (List.mem_of_getElem? (i := 7) (by decide +kernel))) (by decide +kernel), tb_of (List.mem_append_right _ (List.mem_of_getElem? (i := 899) (by decide +kernel))) (by decide +kernel), by decide +kernel⟩
theorem mv_X6_quiet : MV yX6_quiet := ⟨tb_of (List.mem_append_right _ (List.mem_of_getElem? (i := 897) (by decide +kernel))) (by decide +kernel), tb_of (List.mem_append_right _ (List.mem_of_getElem? (i := 898) (by decide +kernel))) (by decide +kernel)⟩
theorem mb_X6_best : MB yX6_best cX6_best 6 (some .int) 1 := ⟨tb_of (List.mem_append_right _ (List.mem_of_getElem? (i := 7) (by decide +kernel))) (by decide +kernel), tb_of (List.mem_append_right _ (List.mem_of_getElem? (i := 903) (by decide +kernel))) (by decide +kernel), by decide +kernel⟩
theorem mv_X6_best : MV yX6_best := ⟨tb_of (List.mem_append_right _ (List.mem_of_getElem? (i := 901) (by decide +kernel))) (by decide +kernel), tb_of (List.mem_append_right _ (List.mem_of_getElem? (i := 902) (by decide +kernel))) (by decide +kernel)⟩
theorem mb_X6_high : MB yX6_high cX6_high 5 (some .int) 2 := ⟨tb_of (List.mem_append_right _ (List.mem_of_getElem? (i := 7) (by decide +kernel))) (by decide +kernel), tb_of (List.mem_append_right _ (List.mem_of_getElem? (i := 907) (by decide +kernel))) (by decide +kernel), by decide +kernel⟩
theorem mv_X6_high : MV yX6_high := ⟨tb_of (List.mem_append_right _ (List.mem_of_getElem? (i := 905) (by decide +kernel))) (by decide +kernel), tb_of (List.mem_append_right _ (List.mem_of_getElem? (i := 906) (by decide +kernel))) (by decide +kernel)⟩
theorem mb_X6_staysUp : MB yX6_staysUp cX6_staysUp 5 (some .boolean) 2 := ⟨tb_of (List.mem_append_right _ (List.mem_of_getElem? (i := 7) (by decide +kernel))) (by decide +kernel), tb_of (List.mem_append_right _ (List.mem_of_getElem? (i := 911) (by decide +kernel))) (by decide +kernel), by decide +kernel⟩
theorem mv_X6_staysUp : MV yX6_staysUp := ⟨tb_of (List.mem_append_right _ (List.mem_of_getElem? (i := 910) (by decide +kernel))) (by decide +kernel), tb_of (List.mem_append_left _ (List.mem_of_getElem? (i := 44) (by decide +kernel))) (by decide +kernel)⟩
theorem mb_X6_loved : MB yX6_loved cX6_loved 5 (some .int) 2 := ⟨tb_of (List.mem_append_right _ (List.mem_of_getElem? (i := 7) (by decide +kernel))) (by decide +kernel), tb_of (List.mem_append_right _ (List.mem_of_getElem? (i := 915) (by decide +kernel))) (by decide +kernel), by decide +kernel⟩
theorem mv_X6_loved : MV yX6_loved := ⟨tb_of (List.mem_append_right _ (List.mem_of_getElem? (i := 913) (by decide +kernel))) (by decide +kernel), tb_of (List.mem_append_right _ (List.mem_of_getElem? (i := 914) (by decide +kernel))) (by decide +kernel)⟩
theorem mb_X6_kind : MB yX6_kind cX6_kind 6 (some .int) 1 := ⟨tb_of (List.mem_append_right _ (List.mem_of_getElem? (i := 7) (by decide +kernel))) (by decide +kernel), tb_of (List.mem_append_right _ (List.mem_of_getElem? (i := 919) (by decide +kernel))) (by decide +kernel), by decide +kernel⟩
theorem mv_X6_kind : MV yX6_kind := ⟨tb_of (List.mem_append_right _ (List.mem_of_getElem? (i := 917) (by decide +kernel))) (by decide +kernel), tb_of (List.mem_append_right _ (List.mem_of_getElem? (i := 918) (by decide +kernel))) (by decide +kernel)⟩
theorem mb_X6_rain : MB yX6_rain cX6_rain 6 (some .int) 1 := ⟨tb_of (List.mem_append_right _ (List.mem_of_getElem? (i := 7) (by decide +kernel))) (by decide +kernel), tb_of (List.mem_append_right _ (List.mem_of_getElem? (i := 923) (by decide +kernel))) (by decide +kernel), by decide +kernel⟩
theorem mv_X6_rain : MV yX6_rain := ⟨tb_of (List.mem_append_right _ (List.mem_of_getElem? (i := 921) (by decide +kernel))) (by decide +kernel), tb_of (List.mem_append_right _ (List.mem_of_getElem? (i := 922) (by decide +kernel))) (by decide +kernel)⟩
theorem mb_X6_enough : MB yX6_enough cX6_enough 5 (some .int) 1 := ⟨tb_of (List.mem_append_right _ (List.mem_of_getElem? (i := 7) (by decide +kernel))) (by decide +kernel), tb_of (List.mem_append_right _ (List.mem_of_getElem? (i := 927) (by decide +kernel))) (by decide +kernel), by decide +kernel⟩
theorem mv_X6_enough : MV yX6_enough := ⟨tb_of (List.mem_append_right _ (List.mem_of_getElem? (i := 925) (by decide +kernel))) (by decide +kernel), tb_of (List.mem_append_right _ (List.mem_of_getElem? (i := 926) (by decide +kernel))) (by decide +kernel)⟩
theorem mb_X6_allStooped : MB yX6_allStooped cX6_allStooped 3 (some .int) 0 := ⟨tb_of (List.mem_append_right _ (List.mem_of_getElem? (i := 7) (by decide +kernel))) (by decide +kernel), tb_of (List.mem_append_right _ (List.mem_of_getElem? (i := 931) (by decide +kernel))) (by decide +kernel), by decide +kernel⟩
theorem mv_X6_allStooped : MV yX6_allStooped := ⟨tb_of (List.mem_append_right _ (List.mem_of_getElem? (i := 930) (by decide +kernel))) (by decide +kernel), tb_of (List.mem_append_left _ (List.mem_of_getElem? (i := 45) (by decide +kernel))) (by decide +kernel)⟩
theorem mb_X6_stoopedOn : MB yX6_stoopedOn cX6_stoopedOn 3 (some .int) 1 := ⟨tb_of (List.mem_append_right _ (List.mem_of_getElem? (i := 7) (by decide +kernel))) (by decide +kernel), tb_of (List.mem_append_right _ (List.mem_of_getElem? (i := 935) (by decide +kernel))) (by decide +kernel), by decide +kernel⟩
theorem mv_X6_stoopedOn : MV yX6_stoopedOn := ⟨tb_of (List.mem_append_right _ (List.mem_of_getElem? (i := 934) (by decide +kernel))) (by decide +kernel), tb_of (List.mem_append_left _ (List.mem_of_getElem? (i := 46) (by decide +kernel))) (by decide +kernel)⟩
theorem mb_X6_rule : MB yX6_rule cX6_rule 7 (some .int) 1 := ⟨tb_of (List.mem_append_right _ (List.mem_of_getElem? (i := 7) (by decide +kernel))) (by decide +kernel), tb_of (List.mem_append_right _ (List.mem_of_getElem? (i := 939) (by decide +kernel))) (by decide +kernel), by decide +kernel⟩
theorem mv_X6_rule : MV yX6_rule := ⟨tb_of (List.mem_append_right _ (List.mem_of_getElem? (i := 937) (by decide +kernel))) (by decide +kernel), tb_of (List.mem_append_right _ (List.mem_of_getElem? (i := 938) (by decide +kernel))) (by decide +kernel)⟩
theorem mb_X6_feed : MB yX6_feed cX6_feed 4 (some .int) 2 := ⟨tb_of (List.mem_append_right _ (List.mem_of_getElem? (i := 7) (by decide +kernel))) (by decide +kernel), tb_of (List.mem_append_right _ (List.mem_of_getElem? (i := 943) (by decide +kernel))) (by decide +kernel), by decide +kernel⟩
theorem mv_X6_feed : MV yX6_feed := ⟨tb_of (List.mem_append_right _ (List.mem_of_getElem? (i := 941) (by decide +kernel))) (by decide +kernel), tb_of (List.mem_append_right _ (List.mem_of_getElem? (i := 942) (by decide +kernel))) (by decide +kernel)⟩
theorem mb_X6_wipe : MB yX6_wipe cX6_wipe 2 (some .int) 0 := ⟨tb_of (List.mem_append_right _ (List.mem_of_getElem? (i := 7) (by decide +kernel))) (by decide +kernel), tb_of (List.mem_append_right _ (List.mem_of_getElem? (i := 947) (by decide +kernel))) (by decide +kernel), by decide +kernel⟩
theorem mv_X6_wipe : MV yX6_wipe := ⟨tb_of (List.mem_append_right _ (List.mem_of_getElem? (i := 945) (by decide +kernel))) (by decide +kernel), tb_of (List.mem_append_right _ (List.mem_of_getElem? (i := 946) (by decide +kernel))) (by decide +kernel)⟩
theorem mb_X6_town : MB yX6_town cX6_town 2 (some .int) 0 := ⟨tb_of (List.mem_append_right _ (List.mem_of_getElem? (i := 7) (by decide +kernel))) (by decide +kernel), tb_of (List.mem_append_right _ (List.mem_of_getElem? (i := 951) (by decide +kernel))) (by decide +kernel), by decide +kernel⟩
theorem mv_X6_town : MV yX6_town := ⟨tb_of (List.mem_append_right _ (List.mem_of_getElem? (i := 949) (by decide +kernel))) (by decide +kernel), tb_of (List.mem_append_right _ (List.mem_of_getElem? (i := 950) (by decide +kernel))) (by decide +kernel)⟩
theorem mb_X6_reads : MB yX6_reads cX6_reads 1 none 0 := ⟨tb_of (List.mem_append_right _ (List.mem_of_getElem? (i := 7) (by decide +kernel))) (by decide +kernel), tb_of (List.mem_append_right _ (List.mem_of_getElem? (i := 955) (by decide +kernel))) (by decide +kernel), by decide +kernel⟩
theorem mv_X6_reads : MV yX6_reads := ⟨tb_of (List.mem_append_right _ (List.mem_of_getElem? (i := 954) (by decide +kernel))) (by decide +kernel), tb_of (List.mem_append_left _ (List.mem_of_getElem? (i := 47) (by decide +kernel))) (by decide +kernel)⟩
theorem mb_X6_isByte : MB yX6_isByte cX6_isByte 4 (some .boolean) 3 := ⟨tb_of (List.mem_append_right _ (List.mem_of_getElem? (i := 7) (by decide +kernel))) (by decide +kernel), tb_of (List.mem_append_right _ (List.mem_of_getElem? (i := 959) (by decide +kernel))) (by decide +kernel), by decide +kernel⟩
theorem mv_X6_isByte : MV yX6_isByte := ⟨tb_of (List.mem_append_right _ (List.mem_of_getElem? (i := 958) (by decide +kernel))) (by decide +kernel), tb_of (List.mem_append_left _ (List.mem_of_getElem? (i := 48) (by decide +kernel))) (by decide +kernel)⟩
theorem mb_X6_wordHere : MB yX6_wordHere cX6_wordHere 2 (some .int) 0 := ⟨tb_of (List.mem_append_right _ (List.mem_of_getElem? (i := 7) (by decide +kernel))) (by decide +kernel), tb_of (List.mem_append_right _ (List.mem_of_getElem? (i := 963) (by decide +kernel))) (by decide +kernel), by decide +kernel⟩
theorem mv_X6_wordHere : MV yX6_wordHere := ⟨tb_of (List.mem_append_right _ (List.mem_of_getElem? (i := 962) (by decide +kernel))) (by decide +kernel), tb_of (List.mem_append_left _ (List.mem_of_getElem? (i := 49) (by decide +kernel))) (by decide +kernel)⟩
theorem mb_X6_isName : MB yX6_isName cX6_isName 5 (some .boolean) 2 := ⟨tb_of (List.mem_append_right _ (List.mem_of_getElem? (i := 7) (by decide +kernel))) (by decide +kernel), tb_of (List.mem_append_right _ (List.mem_of_getElem? (i := 967) (by decide +kernel))) (by decide +kernel), by decide +kernel⟩
theorem mv_X6_isName : MV yX6_isName := ⟨tb_of (List.mem_append_right _ (List.mem_of_getElem? (i := 966) (by decide +kernel))) (by decide +kernel), tb_of (List.mem_append_left _ (List.mem_of_getElem? (i := 50) (by decide +kernel))) (by decide +kernel)⟩
theorem mb_X6_item : MB yX6_item cX6_item 1 none 0 := ⟨tb_of (List.mem_append_right _ (List.mem_of_getElem? (i := 7) (by decide +kernel))) (by decide +kernel), tb_of (List.mem_append_right _ (List.mem_of_getElem? (i := 973) (by decide +kernel))) (by decide +kernel), by decide +kernel⟩
theorem mv_X6_item : MV yX6_item := ⟨tb_of (List.mem_append_right _ (List.mem_of_getElem? (i := 972) (by decide +kernel))) (by decide +kernel), tb_of (List.mem_append_left _ (List.mem_of_getElem? (i := 51) (by decide +kernel))) (by decide +kernel)⟩
theorem mb_X6_fountainItem : MB yX6_fountainItem cX6_fountainItem 6 none 0 := ⟨tb_of (List.mem_append_right _ (List.mem_of_getElem? (i := 7) (by decide +kernel))) (by decide +kernel), tb_of (List.mem_append_right _ (List.mem_of_getElem? (i := 977) (by decide +kernel))) (by decide +kernel), by decide +kernel⟩
theorem mv_X6_fountainItem : MV yX6_fountainItem := ⟨tb_of (List.mem_append_right _ (List.mem_of_getElem? (i := 976) (by decide +kernel))) (by decide +kernel), tb_of (List.mem_append_left _ (List.mem_of_getElem? (i := 52) (by decide +kernel))) (by decide +kernel)⟩
theorem mb_X6_perhaps : MB yX6_perhaps cX6_perhaps 5 (some .int) 4 := ⟨tb_of (List.mem_append_right _ (List.mem_of_getElem? (i := 7) (by decide +kernel))) (by decide +kernel), tb_of (List.mem_append_right _ (List.mem_of_getElem? (i := 981) (by decide +kernel))) (by decide +kernel), by decide +kernel⟩
theorem mv_X6_perhaps : MV yX6_perhaps := ⟨tb_of (List.mem_append_right _ (List.mem_of_getElem? (i := 980) (by decide +kernel))) (by decide +kernel), tb_of (List.mem_append_left _ (List.mem_of_getElem? (i := 53) (by decide +kernel))) (by decide +kernel)⟩
theorem mb_X6_passes : MB yX6_passes cX6_passes 2 (some .boolean) 1 := ⟨tb_of (List.mem_append_right _ (List.mem_of_getElem? (i := 7) (by decide +kernel))) (by decide +kernel), tb_of (List.mem_append_right _ (List.mem_of_getElem? (i := 985) (by decide +kernel))) (by decide +kernel), by decide +kernel⟩
theorem mv_X6_passes : MV yX6_passes := ⟨tb_of (List.mem_append_right _ (List.mem_of_getElem? (i := 984) (by decide +kernel))) (by decide +kernel), tb_of (List.mem_append_left _ (List.mem_of_getElem? (i := 54) (by decide +kernel))) (by decide +kernel)⟩
theorem mb_X6_number : MB yX6_number cX6_number 4 (some .int) 2 := ⟨tb_of (List.mem_append_right _ (List.mem_of_getElem? (i := 7) (by decide +kernel))) (by decide +kernel), tb_of (List.mem_append_right _ (List.mem_of_getElem? (i := 989) (by decide +kernel))) (by decide +kernel), by decide +kernel⟩
theorem mv_X6_number : MV yX6_number := ⟨tb_of (List.mem_append_right _ (List.mem_of_getElem? (i := 988) (by decide +kernel))) (by decide +kernel), tb_of (List.mem_append_left _ (List.mem_of_getElem? (i := 55) (by decide +kernel))) (by decide +kernel)⟩
theorem mb_X6_rainItem : MB yX6_rainItem cX6_rainItem 3 none 0 := ⟨tb_of (List.mem_append_right _ (List.mem_of_getElem? (i := 7) (by decide +kernel))) (by decide +kernel), tb_of (List.mem_append_right _ (List.mem_of_getElem? (i := 993) (by decide +kernel))) (by decide +kernel), by decide +kernel⟩
theorem mv_X6_rainItem : MV yX6_rainItem := ⟨tb_of (List.mem_append_right _ (List.mem_of_getElem? (i := 992) (by decide +kernel))) (by decide +kernel), tb_of (List.mem_append_left _ (List.mem_of_getElem? (i := 56) (by decide +kernel))) (by decide +kernel)⟩
theorem mb_X6_coldItem : MB yX6_coldItem cX6_coldItem 3 none 0 := ⟨tb_of (List.mem_append_right _ (List.mem_of_getElem? (i := 7) (by decide +kernel))) (by decide +kernel), tb_of (List.mem_append_right _ (List.mem_of_getElem? (i := 997) (by decide +kernel))) (by decide +kernel), by decide +kernel⟩
theorem mv_X6_coldItem : MV yX6_coldItem := ⟨tb_of (List.mem_append_right _ (List.mem_of_getElem? (i := 996) (by decide +kernel))) (by decide +kernel), tb_of (List.mem_append_left _ (List.mem_of_getElem? (i := 57) (by decide +kernel))) (by decide +kernel)⟩
theorem mb_X6_sheet : MB yX6_sheet cX6_sheet 5 (some .int) 3 := ⟨tb_of (List.mem_append_right _ (List.mem_of_getElem? (i := 7) (by decide +kernel))) (by decide +kernel), tb_of (List.mem_append_right _ (List.mem_of_getElem? (i := 1001) (by decide +kernel))) (by decide +kernel), by decide +kernel⟩
theorem mv_X6_sheet : MV yX6_sheet := ⟨tb_of (List.mem_append_right _ (List.mem_of_getElem? (i := 999) (by decide +kernel))) (by decide +kernel), tb_of (List.mem_append_right _ (List.mem_of_getElem? (i := 1000) (by decide +kernel))) (by decide +kernel)⟩
theorem mb_X6_isSheet : MB yX6_isSheet cX6_isSheet 1 (some .boolean) 1 := ⟨tb_of (List.mem_append_right _ (List.mem_of_getElem? (i := 7) (by decide +kernel))) (by decide +kernel), tb_of (List.mem_append_right _ (List.mem_of_getElem? (i := 1004) (by decide +kernel))) (by decide +kernel), by decide +kernel⟩
theorem ms_X6_isSheet : Cond.static yX6_isSheet ∈ TB := tb_of (List.mem_append_right _ (List.mem_of_getElem? (i := 1003) (by decide +kernel))) (by decide +kernel)
theorem mb_X6_write : MB yX6_write cX6_write 8 (some .long) 3 := ⟨tb_of (List.mem_append_right _ (List.mem_of_getElem? (i := 7) (by decide +kernel))) (by decide +kernel), tb_of (List.mem_append_right _ (List.mem_of_getElem? (i := 1009) (by decide +kernel))) (by decide +kernel), by decide +kernel⟩
theorem mv_X6_write : MV yX6_write := ⟨tb_of (List.mem_append_right _ (List.mem_of_getElem? (i := 1007) (by decide +kernel))) (by decide +kernel), tb_of (List.mem_append_right _ (List.mem_of_getElem? (i := 1008) (by decide +kernel))) (by decide +kernel)⟩
theorem mb_X6_notThere : MB yX6_notThere cX6_notThere 2 (some .int) 1 := ⟨tb_of (List.mem_append_right _ (List.mem_of_getElem? (i := 7) (by decide +kernel))) (by decide +kernel), tb_of (List.mem_append_right _ (List.mem_of_getElem? (i := 1013) (by decide +kernel))) (by decide +kernel), by decide +kernel⟩
theorem mv_X6_notThere : MV yX6_notThere := ⟨tb_of (List.mem_append_right _ (List.mem_of_getElem? (i := 1012) (by decide +kernel))) (by decide +kernel), tb_of (List.mem_append_left _ (List.mem_of_getElem? (i := 58) (by decide +kernel))) (by decide +kernel)⟩
theorem mb_X6_cutTo : MB yX6_cutTo cX6_cutTo 3 (some .long) 2 := ⟨tb_of (List.mem_append_right _ (List.mem_of_getElem? (i := 7) (by decide +kernel))) (by decide +kernel), tb_of (List.mem_append_right _ (List.mem_of_getElem? (i := 1017) (by decide +kernel))) (by decide +kernel), by decide +kernel⟩
theorem ms_X6_cutTo : Cond.static yX6_cutTo ∈ TB := tb_of (List.mem_append_right _ (List.mem_of_getElem? (i := 1016) (by decide +kernel))) (by decide +kernel)
theorem mb_X6_copy : MB yX6_copy cX6_copy 9 (some .int) 5 := ⟨tb_of (List.mem_append_right _ (List.mem_of_getElem? (i := 7) (by decide +kernel))) (by decide +kernel), tb_of (List.mem_append_right _ (List.mem_of_getElem? (i := 1021) (by decide +kernel))) (by decide +kernel), by decide +kernel⟩
theorem mv_X6_copy : MV yX6_copy := ⟨tb_of (List.mem_append_right _ (List.mem_of_getElem? (i := 1019) (by decide +kernel))) (by decide +kernel), tb_of (List.mem_append_right _ (List.mem_of_getElem? (i := 1020) (by decide +kernel))) (by decide +kernel)⟩
theorem mb_X6_notCopied : MB yX6_notCopied cX6_notCopied 7 (some .int) 5 := ⟨tb_of (List.mem_append_right _ (List.mem_of_getElem? (i := 7) (by decide +kernel))) (by decide +kernel), tb_of (List.mem_append_right _ (List.mem_of_getElem? (i := 1025) (by decide +kernel))) (by decide +kernel), by decide +kernel⟩
theorem mv_X6_notCopied : MV yX6_notCopied := ⟨tb_of (List.mem_append_right _ (List.mem_of_getElem? (i := 1024) (by decide +kernel))) (by decide +kernel), tb_of (List.mem_append_left _ (List.mem_of_getElem? (i := 59) (by decide +kernel))) (by decide +kernel)⟩
theorem mb_X6_lays : MB yX6_lays cX6_lays 5 (some .int) 1 := ⟨tb_of (List.mem_append_right _ (List.mem_of_getElem? (i := 7) (by decide +kernel))) (by decide +kernel), tb_of (List.mem_append_right _ (List.mem_of_getElem? (i := 1029) (by decide +kernel))) (by decide +kernel), by decide +kernel⟩
theorem mv_X6_lays : MV yX6_lays := ⟨tb_of (List.mem_append_right _ (List.mem_of_getElem? (i := 1027) (by decide +kernel))) (by decide +kernel), tb_of (List.mem_append_right _ (List.mem_of_getElem? (i := 1028) (by decide +kernel))) (by decide +kernel)⟩
theorem mb_X6_book : MB yX6_book cX6_book 4 (some .int) 1 := ⟨tb_of (List.mem_append_right _ (List.mem_of_getElem? (i := 7) (by decide +kernel))) (by decide +kernel), tb_of (List.mem_append_right _ (List.mem_of_getElem? (i := 1033) (by decide +kernel))) (by decide +kernel), by decide +kernel⟩
theorem mv_X6_book : MV yX6_book := ⟨tb_of (List.mem_append_right _ (List.mem_of_getElem? (i := 1031) (by decide +kernel))) (by decide +kernel), tb_of (List.mem_append_right _ (List.mem_of_getElem? (i := 1032) (by decide +kernel))) (by decide +kernel)⟩
theorem mb_X6_read : MB yX6_read cX6_read 6 (some .int) 2 := ⟨tb_of (List.mem_append_right _ (List.mem_of_getElem? (i := 7) (by decide +kernel))) (by decide +kernel), tb_of (List.mem_append_right _ (List.mem_of_getElem? (i := 1037) (by decide +kernel))) (by decide +kernel), by decide +kernel⟩
theorem mv_X6_read : MV yX6_read := ⟨tb_of (List.mem_append_right _ (List.mem_of_getElem? (i := 1035) (by decide +kernel))) (by decide +kernel), tb_of (List.mem_append_right _ (List.mem_of_getElem? (i := 1036) (by decide +kernel))) (by decide +kernel)⟩
theorem mb_X6_isBook : MB yX6_isBook cX6_isBook 4 (some .boolean) 1 := ⟨tb_of (List.mem_append_right _ (List.mem_of_getElem? (i := 7) (by decide +kernel))) (by decide +kernel), tb_of (List.mem_append_right _ (List.mem_of_getElem? (i := 1041) (by decide +kernel))) (by decide +kernel), by decide +kernel⟩
theorem mv_X6_isBook : MV yX6_isBook := ⟨tb_of (List.mem_append_right _ (List.mem_of_getElem? (i := 1040) (by decide +kernel))) (by decide +kernel), tb_of (List.mem_append_left _ (List.mem_of_getElem? (i := 60) (by decide +kernel))) (by decide +kernel)⟩
theorem mb_X6_image : MB yX6_image cX6_image 1 (some .int) 0 := ⟨tb_of (List.mem_append_right _ (List.mem_of_getElem? (i := 7) (by decide +kernel))) (by decide +kernel), tb_of (List.mem_append_right _ (List.mem_of_getElem? (i := 1045) (by decide +kernel))) (by decide +kernel), by decide +kernel⟩
theorem mv_X6_image : MV yX6_image := ⟨tb_of (List.mem_append_right _ (List.mem_of_getElem? (i := 1043) (by decide +kernel))) (by decide +kernel), tb_of (List.mem_append_right _ (List.mem_of_getElem? (i := 1044) (by decide +kernel))) (by decide +kernel)⟩
theorem mb_X6_undo : MB yX6_undo cX6_undo 1 (some .int) 0 := ⟨tb_of (List.mem_append_right _ (List.mem_of_getElem? (i := 7) (by decide +kernel))) (by decide +kernel), tb_of (List.mem_append_right _ (List.mem_of_getElem? (i := 1049) (by decide +kernel))) (by decide +kernel), by decide +kernel⟩
theorem mv_X6_undo : MV yX6_undo := ⟨tb_of (List.mem_append_right _ (List.mem_of_getElem? (i := 1047) (by decide +kernel))) (by decide +kernel), tb_of (List.mem_append_right _ (List.mem_of_getElem? (i := 1048) (by decide +kernel))) (by decide +kernel)⟩
theorem mb_X6_tear : MB yX6_tear cX6_tear 2 (some .int) 0 := ⟨tb_of (List.mem_append_right _ (List.mem_of_getElem? (i := 7) (by decide +kernel))) (by decide +kernel), tb_of (List.mem_append_right _ (List.mem_of_getElem? (i := 1053) (by decide +kernel))) (by decide +kernel), by decide +kernel⟩
theorem mv_X6_tear : MV yX6_tear := ⟨tb_of (List.mem_append_right _ (List.mem_of_getElem? (i := 1051) (by decide +kernel))) (by decide +kernel), tb_of (List.mem_append_right _ (List.mem_of_getElem? (i := 1052) (by decide +kernel))) (by decide +kernel)⟩
theorem mb_X6_count : MB yX6_count cX6_count 2 (some .int) 1 := ⟨tb_of (List.mem_append_right _ (List.mem_of_getElem? (i := 7) (by decide +kernel))) (by decide +kernel), tb_of (List.mem_append_right _ (List.mem_of_getElem? (i := 1057) (by decide +kernel))) (by decide +kernel), by decide +kernel⟩
theorem mv_X6_count : MV yX6_count := ⟨tb_of (List.mem_append_right _ (List.mem_of_getElem? (i := 1055) (by decide +kernel))) (by decide +kernel), tb_of (List.mem_append_right _ (List.mem_of_getElem? (i := 1056) (by decide +kernel))) (by decide +kernel)⟩
theorem mb_X6_bits : MB yX6_bits cX6_bits 3 (some .int) 1 := ⟨tb_of (List.mem_append_right _ (List.mem_of_getElem? (i := 7) (by decide +kernel))) (by decide +kernel), tb_of (List.mem_append_right _ (List.mem_of_getElem? (i := 1060) (by decide +kernel))) (by decide +kernel), by decide +kernel⟩
theorem ms_X6_bits : Cond.static yX6_bits ∈ TB := tb_of (List.mem_append_right _ (List.mem_of_getElem? (i := 1059) (by decide +kernel))) (by decide +kernel)
theorem mb_X6_status : MB yX6_status cX6_status 4 (some .int) 1 := ⟨tb_of (List.mem_append_right _ (List.mem_of_getElem? (i := 7) (by decide +kernel))) (by decide +kernel), tb_of (List.mem_append_right _ (List.mem_of_getElem? (i := 1064) (by decide +kernel))) (by decide +kernel), by decide +kernel⟩
theorem mv_X6_status : MV yX6_status := ⟨tb_of (List.mem_append_right _ (List.mem_of_getElem? (i := 1062) (by decide +kernel))) (by decide +kernel), tb_of (List.mem_append_right _ (List.mem_of_getElem? (i := 1063) (by decide +kernel))) (by decide +kernel)⟩
theorem mm_max : Cond.static Lib.Math.max.name ∈ TB ∧ Cond.initialized "java/lang/Math" ∈ TB ∧ Cond.code Lib.Math.max.name Lib.Math.max.code 2 (some .int) ∈ TB := ⟨tb_of (List.mem_append_right _ (List.mem_of_getElem? (i := 253) (by decide +kernel))) (by decide +kernel), tb_of (List.mem_append_right _ (List.mem_of_getElem? (i := 8) (by decide +kernel))) (by decide +kernel), tb_of (List.mem_append_right _ (List.mem_of_getElem? (i := 254) (by decide +kernel))) (by decide +kernel)⟩
theorem mm_min : Cond.static Lib.Math.min.name ∈ TB ∧ Cond.initialized "java/lang/Math" ∈ TB ∧ Cond.code Lib.Math.min.name Lib.Math.min.code 2 (some .int) ∈ TB := ⟨tb_of (List.mem_append_right _ (List.mem_of_getElem? (i := 340) (by decide +kernel))) (by decide +kernel), tb_of (List.mem_append_right _ (List.mem_of_getElem? (i := 8) (by decide +kernel))) (by decide +kernel), tb_of (List.mem_append_right _ (List.mem_of_getElem? (i := 341) (by decide +kernel))) (by decide +kernel)⟩
theorem f_X0 : FC 0 RX0 TX0 5 tyX0 := ⟨rfl, fun w hw => tb_of (by revert w; decide +kernel) (by revert w; decide +kernel), by decide +kernel, tyX0_ok, nmX0⟩
theorem f_X1 : FC 1 RX1 TX1 3 tyX1 := ⟨rfl, fun w hw => tb_of (by revert w; decide +kernel) (by revert w; decide +kernel), by decide +kernel, tyX1_ok, nmX1⟩
theorem f_X2 : FC 2 RX2 TX2 2 tyX2 := ⟨rfl, fun w hw => tb_of (by revert w; decide +kernel) (by revert w; decide +kernel), by decide +kernel, tyX2_ok, nmX2⟩
theorem f_X3 : FC 3 RX3 TX3 6 tyX3 := ⟨rfl, fun w hw => tb_of (by revert w; decide +kernel) (by revert w; decide +kernel), by decide +kernel, tyX3_ok, nmX3⟩
theorem f_X4 : FC 4 RX4 TX4 8 tyX4 := ⟨rfl, fun w hw => tb_of (by revert w; decide +kernel) (by revert w; decide +kernel), by decide +kernel, tyX4_ok, nmX4⟩
theorem f_X5 : FC 5 RX5 TX5 8 tyX5 := ⟨rfl, fun w hw => tb_of (by revert w; decide +kernel) (by revert w; decide +kernel), by decide +kernel, tyX5_ok, nmX5⟩
theorem f_X6 : FC 6 RX6 TX6 15 tyX6 := ⟨rfl, fun w hw => tb_of (by revert w; decide +kernel) (by revert w; decide +kernel), by decide +kernel, tyX6_ok, nmX6⟩
end
section
/-! rows of the judgement JX: plain instructions -/
section JXR
variable {p : Program} {l : Launch} {e : Env} {R : Room} {s : State} {m : MethodId} {args : Array Value} {below : List Frame} {meth : Method} {c : Code} {nL : Nat} {G : GT} {A : Nat → Prop} {kc ks : Nat} {Q : State → Prop} {ws : va_W} {pc : Nat} {lv : List (Nat × Value)} {st : List Value} {cc : ByteArray} {own : String}
theorem jx_iconst (E : CT p s m args meth c nL G A cc own) {n : Int} (hd : decode cc pc = .ok (.iconst n, 1)) (k : JX p l e R s m args below meth c nL G A kc ks Q ws (pc + 1) lv (vI n :: st)) : JX p l e R s m args below meth c nL G A kc ks Q ws pc lv (st) := fun hD H locs ls hP hS hl => lv_iconst E.1 E.2.1 hd rfl (k hD H locs ls hP hS hl)
theorem pb_ {n : Int} (h : -128 ≤ n ∧ n ≤ 127) : (Int8.ofInt n).toInt32 = iI n := Int8.toInt32_ofInt (by show -128 ≤ n; exact h.1) (by show n ≤ 127; exact h.2)
theorem ps_ {n : Int} (h : -32768 ≤ n ∧ n ≤ 32767) : (Int16.ofInt n).toInt32 = iI n := Int16.toInt32_ofInt (by show -32768 ≤ n; exact h.1) (by show n ≤ 32767; exact h.2)
theorem jx_bipush (E : CT p s m args meth c nL G A cc own) {n : Int} (hd : decode cc pc = .ok (.bipush n, 2)) (k : JX p l e R s m args below meth c nL G A kc ks Q ws (pc + 2) lv (vI n :: st)) (h : -128 ≤ n ∧ n ≤ 127 := by decide) : JX p l e R s m args below meth c nL G A kc ks Q ws pc lv (st) := fun hD H locs ls hP hS hl => lv_bipush E.1 E.2.1 hd (pb_ h) (k hD H locs ls hP hS hl)
theorem jx_sipush (E : CT p s m args meth c nL G A cc own) {n : Int} (hd : decode cc pc = .ok (.sipush n, 3)) (k : JX p l e R s m args below meth c nL G A kc ks Q ws (pc + 3) lv (vI n :: st)) (h : -32768 ≤ n ∧ n ≤ 32767 := by decide) : JX p l e R s m args below meth c nL G A kc ks Q ws pc lv (st) := fun hD H locs ls hP hS hl => lv_sipush E.1 E.2.1 hd (ps_ h) (k hD H locs ls hP hS hl)
theorem jx_ldc (E : CT p s m args meth c nL G A cc own) {n : Int} {i : Nat} (hw : Cond.constant own i (iI n) ∈ TB) (hd : decode cc pc = .ok (.ldc i, 2)) (k : JX p l e R s m args below meth c nL G A kc ks Q ws (pc + 2) lv (vI n :: st)) : JX p l e R s m args below meth c nL G A kc ks Q ws pc lv (st) := fun hD H locs ls hP hS hl => lv_ldc E.1 E.2.1 E.2.2.2.1 (E.2.2.2.2.1 _ hw) hd (k hD H locs ls hP hS hl)
theorem jx_ldcw (E : CT p s m args meth c nL G A cc own) {n : Int} {i : Nat} (hw : Cond.constant own i (iI n) ∈ TB) (hd : decode cc pc = .ok (.ldc_w i, 3)) (k : JX p l e R s m args below meth c nL G A kc ks Q ws (pc + 3) lv (vI n :: st)) : JX p l e R s m args below meth c nL G A kc ks Q ws pc lv (st) := fun hD H locs ls hP hS hl => lv_ldcw E.1 E.2.1 E.2.2.2.1 (E.2.2.2.2.1 _ hw) hd (k hD H locs ls hP hS hl)
theorem jx_ldc2 (E : CT p s m args meth c nL G A cc own) {n : Int} {i : Nat} (hw : Cond.constantLong own i (lI n) ∈ TB) (hd : decode cc pc = .ok (.ldc2_w i, 3)) (k : JX p l e R s m args below meth c nL G A kc ks Q ws (pc + 3) lv (vL n :: st)) : JX p l e R s m args below meth c nL G A kc ks Q ws pc lv (st) := fun hD H locs ls hP hS hl => lv_ldc2 E.1 E.2.1 E.2.2.2.1 (E.2.2.2.2.1 _ hw) hd (k hD H locs ls hP hS hl)
theorem jx_lconst0 (E : CT p s m args meth c nL G A cc own)  (hd : decode cc pc = .ok (.lconst 0, 1)) (k : JX p l e R s m args below meth c nL G A kc ks Q ws (pc + 1) lv (vL 0 :: st)) : JX p l e R s m args below meth c nL G A kc ks Q ws pc lv (st) := fun hD H locs ls hP hS hl => lv_lconst E.1 E.2.1 hd rfl (k hD H locs ls hP hS hl)
theorem jx_lconst1 (E : CT p s m args meth c nL G A cc own)  (hd : decode cc pc = .ok (.lconst 1, 1)) (k : JX p l e R s m args below meth c nL G A kc ks Q ws (pc + 1) lv (vL 1 :: st)) : JX p l e R s m args below meth c nL G A kc ks Q ws pc lv (st) := fun hD H locs ls hP hS hl => lv_lconst E.1 E.2.1 hd rfl (k hD H locs ls hP hS hl)
theorem jx_iload_n (E : CT p s m args meth c nL G A cc own) {f : Fin 4} {x : Int32} (i : Nat) (hd : decode cc pc = .ok (.iload_n f, 1)) (hi : lv[i]? = some ((f : Nat), .int x)) (k : JX p l e R s m args below meth c nL G A kc ks Q ws (pc + 1) lv (.int x :: st)) : JX p l e R s m args below meth c nL G A kc ks Q ws pc lv (st) := fun hD H locs ls hP hS hl => lv_iload_n E.1 E.2.1 hd rfl (lv_at hl i hi) (k hD H locs ls hP hS hl)
theorem jx_iload (E : CT p s m args meth c nL G A cc own) {f : Nat} {x : Int32} (i : Nat) (hd : decode cc pc = .ok (.iload f, 2)) (hi : lv[i]? = some (f, .int x)) (k : JX p l e R s m args below meth c nL G A kc ks Q ws (pc + 2) lv (.int x :: st)) : JX p l e R s m args below meth c nL G A kc ks Q ws pc lv (st) := fun hD H locs ls hP hS hl => lv_iload E.1 E.2.1 hd (lv_at hl i hi) (k hD H locs ls hP hS hl)
theorem jx_istore_n (E : CT p s m args meth c nL G A cc own) {f : Fin 4} {x : Int32} (hd : decode cc pc = .ok (.istore_n f, 1)) (hn : (f : Nat) < nL) (lv' : List (Nat × Value)) (hl' : ((f : Nat), Value.int x) :: lv.filter (fun q => !(q.1 == (f : Nat)) && !(q.1 + 1 == (f : Nat) && q.2.category == 2)) = lv') (k : JX p l e R s m args below meth c nL G A kc ks Q ws (pc + 1) lv' st) : JX p l e R s m args below meth c nL G A kc ks Q ws pc lv (.int x :: st) := fun hD H locs ls hP hS hl => lv_istore_n E.1 E.2.1 hd rfl hl hn hl' (fun ls' hl2 => k hD H locs ls' hP hS hl2)
theorem jx_istore (E : CT p s m args meth c nL G A cc own) {f : Nat} {x : Int32} (hd : decode cc pc = .ok (.istore f, 2)) (hn : f < nL) (lv' : List (Nat × Value)) (hl' : (f, Value.int x) :: lv.filter (fun q => !(q.1 == f) && !(q.1 + 1 == f && q.2.category == 2)) = lv') (k : JX p l e R s m args below meth c nL G A kc ks Q ws (pc + 2) lv' st) : JX p l e R s m args below meth c nL G A kc ks Q ws pc lv (.int x :: st) := fun hD H locs ls hP hS hl => lv_istore E.1 E.2.1 hd hl hn hl' (fun ls' hl2 => k hD H locs ls' hP hS hl2)
theorem jx_lload_n (E : CT p s m args meth c nL G A cc own) {f : Fin 4} {x : Int64} (i : Nat) (hd : decode cc pc = .ok (.lload_n f, 1)) (hi : lv[i]? = some ((f : Nat), .long x)) (k : JX p l e R s m args below meth c nL G A kc ks Q ws (pc + 1) lv (.long x :: st)) : JX p l e R s m args below meth c nL G A kc ks Q ws pc lv (st) := fun hD H locs ls hP hS hl => lv_lload_n E.1 E.2.1 hd rfl (lv_at hl i hi) (k hD H locs ls hP hS hl)
theorem jx_lload (E : CT p s m args meth c nL G A cc own) {f : Nat} {x : Int64} (i : Nat) (hd : decode cc pc = .ok (.lload f, 2)) (hi : lv[i]? = some (f, .long x)) (k : JX p l e R s m args below meth c nL G A kc ks Q ws (pc + 2) lv (.long x :: st)) : JX p l e R s m args below meth c nL G A kc ks Q ws pc lv (st) := fun hD H locs ls hP hS hl => lv_lload E.1 E.2.1 hd (lv_at hl i hi) (k hD H locs ls hP hS hl)
theorem jx_aload_n (E : CT p s m args meth c nL G A cc own) {f : Fin 4} {x : Nat} (i : Nat) (hd : decode cc pc = .ok (.aload_n f, 1)) (hi : lv[i]? = some ((f : Nat), .ref x)) (k : JX p l e R s m args below meth c nL G A kc ks Q ws (pc + 1) lv (.ref x :: st)) : JX p l e R s m args below meth c nL G A kc ks Q ws pc lv (st) := fun hD H locs ls hP hS hl => lv_aload_n E.1 E.2.1 hd rfl (lv_at hl i hi) (k hD H locs ls hP hS hl)
theorem jx_aload (E : CT p s m args meth c nL G A cc own) {f : Nat} {x : Nat} (i : Nat) (hd : decode cc pc = .ok (.aload f, 2)) (hi : lv[i]? = some (f, .ref x)) (k : JX p l e R s m args below meth c nL G A kc ks Q ws (pc + 2) lv (.ref x :: st)) : JX p l e R s m args below meth c nL G A kc ks Q ws pc lv (st) := fun hD H locs ls hP hS hl => lv_aload E.1 E.2.1 hd (lv_at hl i hi) (k hD H locs ls hP hS hl)
theorem jx_astore_n (E : CT p s m args meth c nL G A cc own) {f : Fin 4} {x : Nat} (hd : decode cc pc = .ok (.astore_n f, 1)) (hn : (f : Nat) < nL) (lv' : List (Nat × Value)) (hl' : ((f : Nat), Value.ref x) :: lv.filter (fun q => !(q.1 == (f : Nat)) && !(q.1 + 1 == (f : Nat) && q.2.category == 2)) = lv') (k : JX p l e R s m args below meth c nL G A kc ks Q ws (pc + 1) lv' st) : JX p l e R s m args below meth c nL G A kc ks Q ws pc lv (.ref x :: st) := fun hD H locs ls hP hS hl => lv_astore_n E.1 E.2.1 hd rfl hl hn hl' (fun ls' hl2 => k hD H locs ls' hP hS hl2)
theorem jx_astore (E : CT p s m args meth c nL G A cc own) {f : Nat} {x : Nat} (hd : decode cc pc = .ok (.astore f, 2)) (hn : f < nL) (lv' : List (Nat × Value)) (hl' : (f, Value.ref x) :: lv.filter (fun q => !(q.1 == f) && !(q.1 + 1 == f && q.2.category == 2)) = lv') (k : JX p l e R s m args below meth c nL G A kc ks Q ws (pc + 2) lv' st) : JX p l e R s m args below meth c nL G A kc ks Q ws pc lv (.ref x :: st) := fun hD H locs ls hP hS hl => lv_astore E.1 E.2.1 hd hl hn hl' (fun ls' hl2 => k hD H locs ls' hP hS hl2)
theorem jx_iinc (E : CT p s m args meth c nL G A cc own) {f : Nat} {n x : Int} (i : Nat) (hd : decode cc pc = .ok (.iinc f n, 3)) (hi : lv[i]? = some (f, vI x)) (hn : f < nL) (lv' : List (Nat × Value)) (hl' : (f, vI (x + n)) :: lv.filter (fun q => !(q.1 == f) && !(q.1 + 1 == f && q.2.category == 2)) = lv') (k : JX p l e R s m args below meth c nL G A kc ks Q ws (pc + 3) lv' st) : JX p l e R s m args below meth c nL G A kc ks Q ws pc lv st := fun hD H locs ls hP hS hl => lv_iinc E.1 E.2.1 hd hl hi (iI_add x n) hn hl' (fun ls' hl2 => k hD H locs ls' hP hS hl2)
theorem jx_iadd (E : CT p s m args meth c nL G A cc own) {x y : Int} (hd : decode cc pc = .ok (.iadd, 1)) (k : JX p l e R s m args below meth c nL G A kc ks Q ws (pc + 1) lv (vI (x + y) :: st)) : JX p l e R s m args below meth c nL G A kc ks Q ws pc lv (vI y :: vI x :: st) := fun hD H locs ls hP hS hl => lv_iadd E.1 E.2.1 hd (by rw [iI_add x y]; exact k hD H locs ls hP hS hl)
theorem jx_isub (E : CT p s m args meth c nL G A cc own) {x y : Int} (hd : decode cc pc = .ok (.isub, 1)) (k : JX p l e R s m args below meth c nL G A kc ks Q ws (pc + 1) lv (vI (x - y) :: st)) : JX p l e R s m args below meth c nL G A kc ks Q ws pc lv (vI y :: vI x :: st) := fun hD H locs ls hP hS hl => lv_isub E.1 E.2.1 hd (by rw [iI_sub x y]; exact k hD H locs ls hP hS hl)
theorem jx_imul (E : CT p s m args meth c nL G A cc own) {x y : Int} (hd : decode cc pc = .ok (.imul, 1)) (k : JX p l e R s m args below meth c nL G A kc ks Q ws (pc + 1) lv (vI (x * y) :: st)) : JX p l e R s m args below meth c nL G A kc ks Q ws pc lv (vI y :: vI x :: st) := fun hD H locs ls hP hS hl => lv_imul E.1 E.2.1 hd (by rw [iI_mul x y]; exact k hD H locs ls hP hS hl)
theorem jx_ineg (E : CT p s m args meth c nL G A cc own) {x : Int} (hd : decode cc pc = .ok (.ineg, 1)) (k : JX p l e R s m args below meth c nL G A kc ks Q ws (pc + 1) lv (vI (-x) :: st)) : JX p l e R s m args below meth c nL G A kc ks Q ws pc lv (vI x :: st) := fun hD H locs ls hP hS hl => lv_ineg E.1 E.2.1 hd (by rw [iI_neg]; exact k hD H locs ls hP hS hl)
theorem jx_idiv (E : CT p s m args meth c nL G A cc own) {x y : Int} (hd : decode cc pc = .ok (.idiv, 1)) (k : JX p l e R s m args below meth c nL G A kc ks Q ws (pc + 1) lv (vI (x.tdiv y) :: st)) (h0 : y ≠ 0 := by omega) (hx : inR x := by unfold inR; omega) (hy : inR y := by unfold inR; omega) : JX p l e R s m args below meth c nL G A kc ks Q ws pc lv (vI y :: vI x :: st) := fun hD H locs ls hP hS hl => lv_idiv E.1 E.2.1 hd (fun h => h0 ((iI_eq hy ⟨by decide, by decide⟩).mp h)) (by rw [iI_div hx hy]; exact k hD H locs ls hP hS hl)
theorem jx_irem (E : CT p s m args meth c nL G A cc own) {x y : Int} (hd : decode cc pc = .ok (.irem, 1)) (k : JX p l e R s m args below meth c nL G A kc ks Q ws (pc + 1) lv (vI (x.tmod y) :: st)) (h0 : y ≠ 0 := by omega) (hx : inR x := by unfold inR; omega) (hy : inR y := by unfold inR; omega) : JX p l e R s m args below meth c nL G A kc ks Q ws pc lv (vI y :: vI x :: st) := fun hD H locs ls hP hS hl => lv_irem E.1 E.2.1 hd (fun h => h0 ((iI_eq hy ⟨by decide, by decide⟩).mp h)) (by rw [iI_rem hx hy]; exact k hD H locs ls hP hS hl)
theorem tdiv_e {x y : Int} (h : 0 ≤ x) : x.tdiv y = x / y := Int.tdiv_eq_ediv_of_nonneg h
theorem tmod_e {x y : Int} (h : 0 ≤ x) : x.tmod y = x % y := Int.tmod_eq_emod_of_nonneg h
theorem jx_idivp (E : CT p s m args meth c nL G A cc own) {x y : Int} (hd : decode cc pc = .ok (.idiv, 1)) (k : JX p l e R s m args below meth c nL G A kc ks Q ws (pc + 1) lv (vI (x / y) :: st)) (h0 : y ≠ 0 := by omega) (hp : 0 ≤ x := by omega) (hx : inR x := by unfold inR; omega) (hy : inR y := by unfold inR; omega) : JX p l e R s m args below meth c nL G A kc ks Q ws pc lv (vI y :: vI x :: st) := fun hD H locs ls hP hS hl => jx_idiv E hd (by rw [tdiv_e hp]; exact k) h0 hx hy hD H locs ls hP hS hl
theorem jx_iremp (E : CT p s m args meth c nL G A cc own) {x y : Int} (hd : decode cc pc = .ok (.irem, 1)) (k : JX p l e R s m args below meth c nL G A kc ks Q ws (pc + 1) lv (vI (x % y) :: st)) (h0 : y ≠ 0 := by omega) (hp : 0 ≤ x := by omega) (hx : inR x := by unfold inR; omega) (hy : inR y := by unfold inR; omega) : JX p l e R s m args below meth c nL G A kc ks Q ws pc lv (vI y :: vI x :: st) := fun hD H locs ls hP hS hl => jx_irem E hd (by rw [tmod_e hp]; exact k) h0 hx hy hD H locs ls hP hS hl
theorem jx_iand (E : CT p s m args meth c nL G A cc own) {x y z : Int} (hd : decode cc pc = .ok (.iand, 1)) (hz : iI x &&& iI y = iI z) (k : JX p l e R s m args below meth c nL G A kc ks Q ws (pc + 1) lv (vI z :: st)) : JX p l e R s m args below meth c nL G A kc ks Q ws pc lv (vI y :: vI x :: st) := fun hD H locs ls hP hS hl => lv_iand E.1 E.2.1 hd (by rw [hz]; exact k hD H locs ls hP hS hl)
theorem jx_ior (E : CT p s m args meth c nL G A cc own) {x y z : Int} (hd : decode cc pc = .ok (.ior, 1)) (hz : iI x ||| iI y = iI z) (k : JX p l e R s m args below meth c nL G A kc ks Q ws (pc + 1) lv (vI z :: st)) : JX p l e R s m args below meth c nL G A kc ks Q ws pc lv (vI y :: vI x :: st) := fun hD H locs ls hP hS hl => lv_ior E.1 E.2.1 hd (by rw [hz]; exact k hD H locs ls hP hS hl)
theorem jx_ixor (E : CT p s m args meth c nL G A cc own) {x y z : Int} (hd : decode cc pc = .ok (.ixor, 1)) (hz : iI x ^^^ iI y = iI z) (k : JX p l e R s m args below meth c nL G A kc ks Q ws (pc + 1) lv (vI z :: st)) : JX p l e R s m args below meth c nL G A kc ks Q ws pc lv (vI y :: vI x :: st) := fun hD H locs ls hP hS hl => lv_ixor E.1 E.2.1 hd (by rw [hz]; exact k hD H locs ls hP hS hl)
theorem jx_ishl (E : CT p s m args meth c nL G A cc own) {x y z : Int} (hd : decode cc pc = .ok (.ishl, 1)) (hz : iI x <<< (iI y &&& 31) = iI z) (k : JX p l e R s m args below meth c nL G A kc ks Q ws (pc + 1) lv (vI z :: st)) : JX p l e R s m args below meth c nL G A kc ks Q ws pc lv (vI y :: vI x :: st) := fun hD H locs ls hP hS hl => lv_ishl E.1 E.2.1 hd (by rw [hz]; exact k hD H locs ls hP hS hl)
theorem jx_ishr (E : CT p s m args meth c nL G A cc own) {x y z : Int} (hd : decode cc pc = .ok (.ishr, 1)) (hz : iI x >>> (iI y &&& 31) = iI z) (k : JX p l e R s m args below meth c nL G A kc ks Q ws (pc + 1) lv (vI z :: st)) : JX p l e R s m args below meth c nL G A kc ks Q ws pc lv (vI y :: vI x :: st) := fun hD H locs ls hP hS hl => lv_ishr E.1 E.2.1 hd (by rw [hz]; exact k hD H locs ls hP hS hl)
theorem jx_iushr (E : CT p s m args meth c nL G A cc own) {x y z : Int} (hd : decode cc pc = .ok (.iushr, 1)) (hz : ((iI x).toUInt32 >>> ((iI y).toUInt32 &&& Int32.toUInt32 31)).toInt32 = iI z) (k : JX p l e R s m args below meth c nL G A kc ks Q ws (pc + 1) lv (vI z :: st)) : JX p l e R s m args below meth c nL G A kc ks Q ws pc lv (vI y :: vI x :: st) := fun hD H locs ls hP hS hl => lv_iushr E.1 E.2.1 hd hz (k hD H locs ls hP hS hl)
theorem jx_i2l (E : CT p s m args meth c nL G A cc own) {x : Int} (hd : decode cc pc = .ok (.i2l, 1)) (k : JX p l e R s m args below meth c nL G A kc ks Q ws (pc + 1) lv (vL x :: st)) (hx : inR x := by unfold inR; omega) : JX p l e R s m args below meth c nL G A kc ks Q ws pc lv (vI x :: st) := fun hD H locs ls hP hS hl => lv_i2l E.1 E.2.1 hd (iI_l hx) (k hD H locs ls hP hS hl)
theorem jx_l2i (E : CT p s m args meth c nL G A cc own) {x : Int} (hd : decode cc pc = .ok (.l2i, 1)) (k : JX p l e R s m args below meth c nL G A kc ks Q ws (pc + 1) lv (vI x :: st)) : JX p l e R s m args below meth c nL G A kc ks Q ws pc lv (vL x :: st) := fun hD H locs ls hP hS hl => lv_l2i E.1 E.2.1 hd (lI_i x) (k hD H locs ls hP hS hl)
theorem jx_i2b (E : CT p s m args meth c nL G A cc own) {x : Int} (hd : decode cc pc = .ok (.i2b, 1)) (k : JX p l e R s m args below meth c nL G A kc ks Q ws (pc + 1) lv (vI (x.bmod 256) :: st)) : JX p l e R s m args below meth c nL G A kc ks Q ws pc lv (vI x :: st) := fun hD H locs ls hP hS hl => lv_i2b E.1 E.2.1 hd (iI_b x) (k hD H locs ls hP hS hl)
theorem jx_i2s (E : CT p s m args meth c nL G A cc own) {x : Int} (hd : decode cc pc = .ok (.i2s, 1)) (k : JX p l e R s m args below meth c nL G A kc ks Q ws (pc + 1) lv (vI (x.bmod 65536) :: st)) : JX p l e R s m args below meth c nL G A kc ks Q ws pc lv (vI x :: st) := fun hD H locs ls hP hS hl => lv_i2s E.1 E.2.1 hd (iI_s x) (k hD H locs ls hP hS hl)
theorem jx_dup (E : CT p s m args meth c nL G A cc own) {v : Value} (hd : decode cc pc = .ok (.dup, 1)) (k : JX p l e R s m args below meth c nL G A kc ks Q ws (pc + 1) lv (v :: v :: st)) (hv : v.category = 1 := by rfl) : JX p l e R s m args below meth c nL G A kc ks Q ws pc lv (v :: st) := fun hD H locs ls hP hS hl => lv_dup E.1 E.2.1 hd hv (k hD H locs ls hP hS hl)
theorem jx_pop (E : CT p s m args meth c nL G A cc own) {v : Value} (hd : decode cc pc = .ok (.pop, 1)) (k : JX p l e R s m args below meth c nL G A kc ks Q ws (pc + 1) lv (st)) (hv : v.category = 1 := by rfl) : JX p l e R s m args below meth c nL G A kc ks Q ws pc lv (v :: st) := fun hD H locs ls hP hS hl => lv_pop E.1 E.2.1 hd hv (k hD H locs ls hP hS hl)
theorem jx_dup2 (E : CT p s m args meth c nL G A cc own) {v u : Value} (hd : decode cc pc = .ok (.dup2, 1)) (k : JX p l e R s m args below meth c nL G A kc ks Q ws (pc + 1) lv (v :: u :: v :: u :: st)) (hv : v.category = 1 := by rfl) (hu : u.category = 1 := by rfl) : JX p l e R s m args below meth c nL G A kc ks Q ws pc lv (v :: u :: st) := fun hD H locs ls hP hS hl => lv_dup2_11 E.1 E.2.1 hd hv hu (k hD H locs ls hP hS hl)
theorem jx_icmp_eq (E : CT p s m args meth c nL G A cc own) {x y : Int} {off : Int} {tgt : Nat} (hd : decode cc pc = .ok (.if_icmp .eq off, 3)) (ht : (pc : Int) + off = (tgt : Int)) (kt : x = y → JX p l e R s m args below meth c nL G A kc ks Q ws tgt lv st) (kf : x ≠ y → JX p l e R s m args below meth c nL G A kc ks Q ws (pc + 3) lv st) (hx : inR x := by unfold inR; omega) (hy : inR y := by unfold inR; omega) : JX p l e R s m args below meth c nL G A kc ks Q ws pc lv (vI y :: vI x :: st) := fun hD H locs ls hP hS hl => lv_icmp_eq E.1 E.2.1 hd ht (fun h => kt ((iI_eq hx hy).mp h) hD H locs ls hP hS hl) (fun h' => kf (have h := (not_congr (iI_eq hx hy)).mp h'; h) hD H locs ls hP hS hl)
theorem jx_if_eq (E : CT p s m args meth c nL G A cc own) {x : Int} {off : Int} {tgt : Nat} (hd : decode cc pc = .ok (.ifCond .eq off, 3)) (ht : (pc : Int) + off = (tgt : Int)) (kt : x = 0 → JX p l e R s m args below meth c nL G A kc ks Q ws tgt lv st) (kf : x ≠ 0 → JX p l e R s m args below meth c nL G A kc ks Q ws (pc + 3) lv st) (hx : inR x := by unfold inR; omega) : JX p l e R s m args below meth c nL G A kc ks Q ws pc lv (vI x :: st) := fun hD H locs ls hP hS hl => have hy : inR 0 := ⟨by decide, by decide⟩; lv_if_eq E.1 E.2.1 hd ht (fun h => kt ((iI_eq hx hy).mp h) hD H locs ls hP hS hl) (fun h' => kf (have h := (not_congr (iI_eq hx hy)).mp h'; h) hD H locs ls hP hS hl)
theorem jx_icmp_ne (E : CT p s m args meth c nL G A cc own) {x y : Int} {off : Int} {tgt : Nat} (hd : decode cc pc = .ok (.if_icmp .ne off, 3)) (ht : (pc : Int) + off = (tgt : Int)) (kt : x ≠ y → JX p l e R s m args below meth c nL G A kc ks Q ws tgt lv st) (kf : x = y → JX p l e R s m args below meth c nL G A kc ks Q ws (pc + 3) lv st) (hx : inR x := by unfold inR; omega) (hy : inR y := by unfold inR; omega) : JX p l e R s m args below meth c nL G A kc ks Q ws pc lv (vI y :: vI x :: st) := fun hD H locs ls hP hS hl => lv_icmp_ne E.1 E.2.1 hd ht (fun h => kt ((not_congr (iI_eq hx hy)).mp h) hD H locs ls hP hS hl) (fun h' => kf ((iI_eq hx hy).mp h') hD H locs ls hP hS hl)
theorem jx_if_ne (E : CT p s m args meth c nL G A cc own) {x : Int} {off : Int} {tgt : Nat} (hd : decode cc pc = .ok (.ifCond .ne off, 3)) (ht : (pc : Int) + off = (tgt : Int)) (kt : x ≠ 0 → JX p l e R s m args below meth c nL G A kc ks Q ws tgt lv st) (kf : x = 0 → JX p l e R s m args below meth c nL G A kc ks Q ws (pc + 3) lv st) (hx : inR x := by unfold inR; omega) : JX p l e R s m args below meth c nL G A kc ks Q ws pc lv (vI x :: st) := fun hD H locs ls hP hS hl => have hy : inR 0 := ⟨by decide, by decide⟩; lv_if_ne E.1 E.2.1 hd ht (fun h => kt ((not_congr (iI_eq hx hy)).mp h) hD H locs ls hP hS hl) (fun h' => kf ((iI_eq hx hy).mp h') hD H locs ls hP hS hl)
theorem jx_icmp_lt (E : CT p s m args meth c nL G A cc own) {x y : Int} {off : Int} {tgt : Nat} (hd : decode cc pc = .ok (.if_icmp .lt off, 3)) (ht : (pc : Int) + off = (tgt : Int)) (kt : x < y → JX p l e R s m args below meth c nL G A kc ks Q ws tgt lv st) (kf : y ≤ x → JX p l e R s m args below meth c nL G A kc ks Q ws (pc + 3) lv st) (hx : inR x := by unfold inR; omega) (hy : inR y := by unfold inR; omega) : JX p l e R s m args below meth c nL G A kc ks Q ws pc lv (vI y :: vI x :: st) := fun hD H locs ls hP hS hl => lv_icmp_lt E.1 E.2.1 hd ht (fun h => kt ((iI_lt hx hy).mp h) hD H locs ls hP hS hl) (fun h' => kf (have h := (not_congr (iI_lt hx hy)).mp h'; Int.not_lt.mp h) hD H locs ls hP hS hl)
theorem jx_if_lt (E : CT p s m args meth c nL G A cc own) {x : Int} {off : Int} {tgt : Nat} (hd : decode cc pc = .ok (.ifCond .lt off, 3)) (ht : (pc : Int) + off = (tgt : Int)) (kt : x < 0 → JX p l e R s m args below meth c nL G A kc ks Q ws tgt lv st) (kf : 0 ≤ x → JX p l e R s m args below meth c nL G A kc ks Q ws (pc + 3) lv st) (hx : inR x := by unfold inR; omega) : JX p l e R s m args below meth c nL G A kc ks Q ws pc lv (vI x :: st) := fun hD H locs ls hP hS hl => have hy : inR 0 := ⟨by decide, by decide⟩; lv_if_lt E.1 E.2.1 hd ht (fun h => kt ((iI_lt hx hy).mp h) hD H locs ls hP hS hl) (fun h' => kf (have h := (not_congr (iI_lt hx hy)).mp h'; Int.not_lt.mp h) hD H locs ls hP hS hl)
theorem jx_icmp_ge (E : CT p s m args meth c nL G A cc own) {x y : Int} {off : Int} {tgt : Nat} (hd : decode cc pc = .ok (.if_icmp .ge off, 3)) (ht : (pc : Int) + off = (tgt : Int)) (kt : y ≤ x → JX p l e R s m args below meth c nL G A kc ks Q ws tgt lv st) (kf : x < y → JX p l e R s m args below meth c nL G A kc ks Q ws (pc + 3) lv st) (hx : inR x := by unfold inR; omega) (hy : inR y := by unfold inR; omega) : JX p l e R s m args below meth c nL G A kc ks Q ws pc lv (vI y :: vI x :: st) := fun hD H locs ls hP hS hl => lv_icmp_ge E.1 E.2.1 hd ht (fun h => kt ((iI_le hy hx).mp h) hD H locs ls hP hS hl) (fun h' => kf (have h := (not_congr (iI_le hy hx)).mp h'; Int.not_le.mp h) hD H locs ls hP hS hl)
theorem jx_if_ge (E : CT p s m args meth c nL G A cc own) {x : Int} {off : Int} {tgt : Nat} (hd : decode cc pc = .ok (.ifCond .ge off, 3)) (ht : (pc : Int) + off = (tgt : Int)) (kt : 0 ≤ x → JX p l e R s m args below meth c nL G A kc ks Q ws tgt lv st) (kf : x < 0 → JX p l e R s m args below meth c nL G A kc ks Q ws (pc + 3) lv st) (hx : inR x := by unfold inR; omega) : JX p l e R s m args below meth c nL G A kc ks Q ws pc lv (vI x :: st) := fun hD H locs ls hP hS hl => have hy : inR 0 := ⟨by decide, by decide⟩; lv_if_ge E.1 E.2.1 hd ht (fun h => kt ((iI_le hy hx).mp h) hD H locs ls hP hS hl) (fun h' => kf (have h := (not_congr (iI_le hy hx)).mp h'; Int.not_le.mp h) hD H locs ls hP hS hl)
theorem jx_icmp_gt (E : CT p s m args meth c nL G A cc own) {x y : Int} {off : Int} {tgt : Nat} (hd : decode cc pc = .ok (.if_icmp .gt off, 3)) (ht : (pc : Int) + off = (tgt : Int)) (kt : y < x → JX p l e R s m args below meth c nL G A kc ks Q ws tgt lv st) (kf : x ≤ y → JX p l e R s m args below meth c nL G A kc ks Q ws (pc + 3) lv st) (hx : inR x := by unfold inR; omega) (hy : inR y := by unfold inR; omega) : JX p l e R s m args below meth c nL G A kc ks Q ws pc lv (vI y :: vI x :: st) := fun hD H locs ls hP hS hl => lv_icmp_gt E.1 E.2.1 hd ht (fun h => kt ((iI_lt hy hx).mp h) hD H locs ls hP hS hl) (fun h' => kf (have h := (not_congr (iI_lt hy hx)).mp h'; Int.not_lt.mp h) hD H locs ls hP hS hl)
theorem jx_if_gt (E : CT p s m args meth c nL G A cc own) {x : Int} {off : Int} {tgt : Nat} (hd : decode cc pc = .ok (.ifCond .gt off, 3)) (ht : (pc : Int) + off = (tgt : Int)) (kt : 0 < x → JX p l e R s m args below meth c nL G A kc ks Q ws tgt lv st) (kf : x ≤ 0 → JX p l e R s m args below meth c nL G A kc ks Q ws (pc + 3) lv st) (hx : inR x := by unfold inR; omega) : JX p l e R s m args below meth c nL G A kc ks Q ws pc lv (vI x :: st) := fun hD H locs ls hP hS hl => have hy : inR 0 := ⟨by decide, by decide⟩; lv_if_gt E.1 E.2.1 hd ht (fun h => kt ((iI_lt hy hx).mp h) hD H locs ls hP hS hl) (fun h' => kf (have h := (not_congr (iI_lt hy hx)).mp h'; Int.not_lt.mp h) hD H locs ls hP hS hl)
theorem jx_icmp_le (E : CT p s m args meth c nL G A cc own) {x y : Int} {off : Int} {tgt : Nat} (hd : decode cc pc = .ok (.if_icmp .le off, 3)) (ht : (pc : Int) + off = (tgt : Int)) (kt : x ≤ y → JX p l e R s m args below meth c nL G A kc ks Q ws tgt lv st) (kf : y < x → JX p l e R s m args below meth c nL G A kc ks Q ws (pc + 3) lv st) (hx : inR x := by unfold inR; omega) (hy : inR y := by unfold inR; omega) : JX p l e R s m args below meth c nL G A kc ks Q ws pc lv (vI y :: vI x :: st) := fun hD H locs ls hP hS hl => lv_icmp_le E.1 E.2.1 hd ht (fun h => kt ((iI_le hx hy).mp h) hD H locs ls hP hS hl) (fun h' => kf (have h := (not_congr (iI_le hx hy)).mp h'; Int.not_le.mp h) hD H locs ls hP hS hl)
theorem jx_if_le (E : CT p s m args meth c nL G A cc own) {x : Int} {off : Int} {tgt : Nat} (hd : decode cc pc = .ok (.ifCond .le off, 3)) (ht : (pc : Int) + off = (tgt : Int)) (kt : x ≤ 0 → JX p l e R s m args below meth c nL G A kc ks Q ws tgt lv st) (kf : 0 < x → JX p l e R s m args below meth c nL G A kc ks Q ws (pc + 3) lv st) (hx : inR x := by unfold inR; omega) : JX p l e R s m args below meth c nL G A kc ks Q ws pc lv (vI x :: st) := fun hD H locs ls hP hS hl => have hy : inR 0 := ⟨by decide, by decide⟩; lv_if_le E.1 E.2.1 hd ht (fun h => kt ((iI_le hx hy).mp h) hD H locs ls hP hS hl) (fun h' => kf (have h := (not_congr (iI_le hx hy)).mp h'; Int.not_le.mp h) hD H locs ls hP hS hl)
theorem jx_goto (E : CT p s m args meth c nL G A cc own) {off : Int} {tgt : Nat} (hd : decode cc pc = .ok (.goto off, 3)) (ht : (pc : Int) + off = (tgt : Int)) (k : JX p l e R s m args below meth c nL G A kc ks Q ws tgt lv st) : JX p l e R s m args below meth c nL G A kc ks Q ws pc lv st := fun hD H locs ls hP hS hl => lv_goto E.1 E.2.1 hd ht (k hD H locs ls hP hS hl)
theorem jx_tabIn (E : CT p s m args meth c nL G A cc own) {dflt lo hi : Int} {offs : Array Int} {len : Nat} {x : Int} {off : Int} {tgt : Nat} (n : Int) (hd : decode cc pc = .ok (.tableswitch dflt lo hi offs, len)) (hn : x = n) (hr : inR n ∧ ¬ n < lo ∧ ¬ hi < n) (ho : offs[(n - lo).toNat]? = some off) (ht : (pc : Int) + off = (tgt : Int)) (k : JX p l e R s m args below meth c nL G A kc ks Q ws tgt lv st) : JX p l e R s m args below meth c nL G A kc ks Q ws pc lv (vI x :: st) := fun hD H locs ls hP hS hl => lv_tableIn E.1 E.2.1 hd (by rw [hn, iI_toInt hr.1]; exact hr.2.1) (by rw [hn, iI_toInt hr.1]; exact hr.2.2) (by rw [hn, iI_toInt hr.1]; exact ho) ht (k hD H locs ls hP hS hl)
theorem jx_tabOut (E : CT p s m args meth c nL G A cc own) {dflt lo hi : Int} {offs : Array Int} {len : Nat} {x : Int} {tgt : Nat} (hd : decode cc pc = .ok (.tableswitch dflt lo hi offs, len)) (h : x < lo ∨ hi < x) (ht : (pc : Int) + dflt = (tgt : Int)) (k : JX p l e R s m args below meth c nL G A kc ks Q ws tgt lv st) (hx : inR x := by unfold inR; omega) : JX p l e R s m args below meth c nL G A kc ks Q ws pc lv (vI x :: st) := fun hD H locs ls hP hS hl => lv_tableOut E.1 E.2.1 hd (by rw [iI_toInt hx]; exact h) ht (k hD H locs ls hP hS hl)
theorem lg_cmp_lI {x y : Int} (hx : inL x) (hy : inL y) : lg_cmp (lI x) (lI y) = iI (if y < x then 1 else if x = y then 0 else -1) := by
  unfold lg_cmp
  simp only [gt_iff_lt, lI_lt hy hx, lI_eq hx hy]
  split
  · rfl
  · split <;> rfl
theorem jx_lcmp (E : CT p s m args meth c nL G A cc own) {x y : Int} (hd : decode cc pc = .ok (.lcmp, 1)) (k : JX p l e R s m args below meth c nL G A kc ks Q ws (pc + 1) lv (vI (if y < x then 1 else if x = y then 0 else -1) :: st)) (hx : inL x := by unfold inL; omega) (hy : inL y := by unfold inL; omega) : JX p l e R s m args below meth c nL G A kc ks Q ws pc lv (vL y :: vL x :: st) := fun hD H locs ls hP hS hl => W.lcmp E.1 E.2.1 hd (by rw [lg_cmp_lI hx hy]; exact k hD H locs ls hP hS hl)
theorem jx_lcmp_eq (E : CT p s m args meth c nL G A cc own) {x y : Int} {off : Int} {tgt : Nat} (hd : decode cc pc = .ok (.lcmp, 1)) (hd2 : decode cc (pc + 1) = .ok (.ifCond .eq off, 3)) (ht : ((pc + 1 : Nat) : Int) + off = (tgt : Int)) (kt : x = y → JX p l e R s m args below meth c nL G A kc ks Q ws tgt lv st) (kf : x ≠ y → JX p l e R s m args below meth c nL G A kc ks Q ws (pc + 4) lv st) (hx : inL x := by unfold inL; omega) (hy : inL y := by unfold inL; omega) : JX p l e R s m args below meth c nL G A kc ks Q ws pc lv (vL y :: vL x :: st) := jx_lcmp E hd (jx_if_eq E hd2 ht (fun h => kt (by revert h; split <;> (try split) <;> omega)) (fun h => kf (by revert h; split <;> (try split) <;> omega)) (by unfold inR; split <;> (try split) <;> omega)) hx hy
theorem jx_lcmp_ne (E : CT p s m args meth c nL G A cc own) {x y : Int} {off : Int} {tgt : Nat} (hd : decode cc pc = .ok (.lcmp, 1)) (hd2 : decode cc (pc + 1) = .ok (.ifCond .ne off, 3)) (ht : ((pc + 1 : Nat) : Int) + off = (tgt : Int)) (kt : x ≠ y → JX p l e R s m args below meth c nL G A kc ks Q ws tgt lv st) (kf : x = y → JX p l e R s m args below meth c nL G A kc ks Q ws (pc + 4) lv st) (hx : inL x := by unfold inL; omega) (hy : inL y := by unfold inL; omega) : JX p l e R s m args below meth c nL G A kc ks Q ws pc lv (vL y :: vL x :: st) := jx_lcmp E hd (jx_if_ne E hd2 ht (fun h => kt (by revert h; split <;> (try split) <;> omega)) (fun h => kf (by revert h; split <;> (try split) <;> omega)) (by unfold inR; split <;> (try split) <;> omega)) hx hy
theorem jx_lcmp_lt (E : CT p s m args meth c nL G A cc own) {x y : Int} {off : Int} {tgt : Nat} (hd : decode cc pc = .ok (.lcmp, 1)) (hd2 : decode cc (pc + 1) = .ok (.ifCond .lt off, 3)) (ht : ((pc + 1 : Nat) : Int) + off = (tgt : Int)) (kt : x < y → JX p l e R s m args below meth c nL G A kc ks Q ws tgt lv st) (kf : y ≤ x → JX p l e R s m args below meth c nL G A kc ks Q ws (pc + 4) lv st) (hx : inL x := by unfold inL; omega) (hy : inL y := by unfold inL; omega) : JX p l e R s m args below meth c nL G A kc ks Q ws pc lv (vL y :: vL x :: st) := jx_lcmp E hd (jx_if_lt E hd2 ht (fun h => kt (by revert h; split <;> (try split) <;> omega)) (fun h => kf (by revert h; split <;> (try split) <;> omega)) (by unfold inR; split <;> (try split) <;> omega)) hx hy
theorem jx_lcmp_ge (E : CT p s m args meth c nL G A cc own) {x y : Int} {off : Int} {tgt : Nat} (hd : decode cc pc = .ok (.lcmp, 1)) (hd2 : decode cc (pc + 1) = .ok (.ifCond .ge off, 3)) (ht : ((pc + 1 : Nat) : Int) + off = (tgt : Int)) (kt : y ≤ x → JX p l e R s m args below meth c nL G A kc ks Q ws tgt lv st) (kf : x < y → JX p l e R s m args below meth c nL G A kc ks Q ws (pc + 4) lv st) (hx : inL x := by unfold inL; omega) (hy : inL y := by unfold inL; omega) : JX p l e R s m args below meth c nL G A kc ks Q ws pc lv (vL y :: vL x :: st) := jx_lcmp E hd (jx_if_ge E hd2 ht (fun h => kt (by revert h; split <;> (try split) <;> omega)) (fun h => kf (by revert h; split <;> (try split) <;> omega)) (by unfold inR; split <;> (try split) <;> omega)) hx hy
theorem jx_lcmp_gt (E : CT p s m args meth c nL G A cc own) {x y : Int} {off : Int} {tgt : Nat} (hd : decode cc pc = .ok (.lcmp, 1)) (hd2 : decode cc (pc + 1) = .ok (.ifCond .gt off, 3)) (ht : ((pc + 1 : Nat) : Int) + off = (tgt : Int)) (kt : y < x → JX p l e R s m args below meth c nL G A kc ks Q ws tgt lv st) (kf : x ≤ y → JX p l e R s m args below meth c nL G A kc ks Q ws (pc + 4) lv st) (hx : inL x := by unfold inL; omega) (hy : inL y := by unfold inL; omega) : JX p l e R s m args below meth c nL G A kc ks Q ws pc lv (vL y :: vL x :: st) := jx_lcmp E hd (jx_if_gt E hd2 ht (fun h => kt (by revert h; split <;> (try split) <;> omega)) (fun h => kf (by revert h; split <;> (try split) <;> omega)) (by unfold inR; split <;> (try split) <;> omega)) hx hy
theorem jx_lcmp_le (E : CT p s m args meth c nL G A cc own) {x y : Int} {off : Int} {tgt : Nat} (hd : decode cc pc = .ok (.lcmp, 1)) (hd2 : decode cc (pc + 1) = .ok (.ifCond .le off, 3)) (ht : ((pc + 1 : Nat) : Int) + off = (tgt : Int)) (kt : x ≤ y → JX p l e R s m args below meth c nL G A kc ks Q ws tgt lv st) (kf : y < x → JX p l e R s m args below meth c nL G A kc ks Q ws (pc + 4) lv st) (hx : inL x := by unfold inL; omega) (hy : inL y := by unfold inL; omega) : JX p l e R s m args below meth c nL G A kc ks Q ws pc lv (vL y :: vL x :: st) := jx_lcmp E hd (jx_if_le E hd2 ht (fun h => kt (by revert h; split <;> (try split) <;> omega)) (fun h => kf (by revert h; split <;> (try split) <;> omega)) (by unfold inR; split <;> (try split) <;> omega)) hx hy
theorem jx_eq {ws' : va_W} (h : ws = ws') (k : JX p l e R s m args below meth c nL G A kc ks Q ws' pc lv st) : JX p l e R s m args below meth c nL G A kc ks Q ws pc lv st := h ▸ k
theorem jx_lv {lv' : List (Nat × Value)} (is : List Nat) (h : lv_pick lv is = lv') (k : JX p l e R s m args below meth c nL G A kc ks Q ws pc lv' st) : JX p l e R s m args below meth c nL G A kc ks Q ws pc lv st := fun hD H locs ls hP hS hl => k hD H locs ls hP hS (lv_sub hl is h)
theorem jx_st {st' : List Value} (h : st = st') (k : JX p l e R s m args below meth c nL G A kc ks Q ws pc lv st') : JX p l e R s m args below meth c nL G A kc ks Q ws pc lv st := h ▸ k
end JXR
end
section
/-! rows of the judgement JX: fields, arrays, calls, ends -/
def PreC (G : GT) (ws : va_W) (sz : Nat) (U : State) : Prop := U.heap.size = sz ∧ va_P G.1 vwCl ws U.heap ∧ va_K G.1 vwCl (tysG G) U ∧ va_D (fun _ => True) ws ∧ SW G (va_A ws sz) U U.heap
def PosC (G : GT) (A : Nat → Prop) (ws' : va_W) (_ : Unit) (t : State) : Prop := va_P G.1 vwCl ws' t.heap ∧ va_K G.1 vwCl (tysG G) t ∧ va_D A ws'
def CtI (l : Launch) (G : GT) (y : MethodName) (bytes : ByteArray) (maxL : Nat) (ret : Option FieldType) (d : Nat) (av : List Value) (ws : va_W) (r : Int) (ws' : va_W) : Prop :=
  ∀ sz : Nat, Met l y (Cond.code y bytes maxL ret :: TB) (rmL d) (va_Pc av (PreC G ws sz)) (va_Qi (fun (q : Int32) (_ : Unit) => q = iI r) (PosC G (va_A ws sz) ws') (va_A ws sz)) 0 0 (va_A ws sz)
def CtL (l : Launch) (G : GT) (y : MethodName) (bytes : ByteArray) (maxL : Nat) (ret : Option FieldType) (d : Nat) (av : List Value) (ws : va_W) (r : Int) (ws' : va_W) : Prop :=
  ∀ sz : Nat, Met l y (Cond.code y bytes maxL ret :: TB) (rmL d) (va_Pc av (PreC G ws sz)) (va_Ql (fun (q : Int64) (_ : Unit) => q = lI r) (PosC G (va_A ws sz) ws') (va_A ws sz)) 0 0 (va_A ws sz)
def CtV (l : Launch) (G : GT) (y : MethodName) (bytes : ByteArray) (maxL : Nat) (ret : Option FieldType) (d : Nat) (av : List Value) (ws : va_W) (ws' : va_W) : Prop :=
  ∀ sz : Nat, Met l y (Cond.code y bytes maxL ret :: TB) (rmL d) (va_Pc av (PreC G ws sz)) (va_Qv (fun (_ : Unit) => True) (PosC G (va_A ws sz) ws') (va_A ws sz)) 0 0 (va_A ws sz)
/-- where a method of the systems ends -/
abbrev QI (below : List Frame) (args : Array Value) (s : State) (G : GT) (A : Nat → Prop) (r : Int) (ws' : va_W) : State → Prop := MQ below (va_Qi (fun (q : Int32) (_ : Unit) => q = iI r) (PosC G A ws') A) args s 0 0 A
abbrev QL (below : List Frame) (args : Array Value) (s : State) (G : GT) (A : Nat → Prop) (r : Int) (ws' : va_W) : State → Prop := MQ below (va_Ql (fun (q : Int64) (_ : Unit) => q = lI r) (PosC G A ws') A) args s 0 0 A
abbrev QV (below : List Frame) (args : Array Value) (s : State) (G : GT) (A : Nat → Prop) (ws' : va_W) : State → Prop := MQ below (va_Qv (fun (_ : Unit) => True) (PosC G A ws') A) args s 0 0 A
section JXH
variable {p : Program} {l : Launch} {e : Env} {R : Room} {s : State} {m : MethodId} {args : Array Value} {below : List Frame} {meth : Method} {c : Code} {nL : Nat} {G : GT} {A : Nat → Prop} {kc ks : Nat} {Q : State → Prop} {ws : va_W} {pc : Nat} {lv : List (Nat × Value)} {st : List Value} {cc : ByteArray} {own : String}
theorem jx_get (E : CT p s m args meth c nL G A cc own) {C : String} {T : u_T} {N ci i : Nat} {ty : Nat → FieldType} (F : FC ci C T N ty) (f : Nat) {q0 o : Nat} {fs : List Value} (he : ws[q0]? = some (o, .inr (ci, fs))) (hf : f < N) (hw : Cond.fieldLink own i C (T f).2.1 (T f).2.2.1 ∈ TB) {v : Value} (hv : fs[f]? = some v) (hd : decode cc pc = .ok (.getfield i, 3)) (k : JX p l e R s m args below meth c nL G A kc ks Q ws (pc + 3) lv (v :: st)) : JX p l e R s m args below meth c nL G A kc ks Q ws pc lv (.ref o :: st) :=
  fun hD H locs ls hP hS hl => va_get E.1 E.2.1 E.2.2.2.2.1 F.2.1 E.2.2.2.1 E.2.2.2.2.2.1 hP q0 he F.1 f hf (E.2.2.2.2.1 _ hw) (fun x h => by rw [F.2.2.1 f hf] at h; exact h) hv hd (k hD H locs ls hP hS hl)
theorem jx_put (E : CT p s m args meth c nL G A cc own) {C : String} {T : u_T} {N ci i : Nat} {ty : Nat → FieldType} (F : FC ci C T N ty) (f : Nat) {q0 o : Nat} {fs : List Value} (he : ws[q0]? = some (o, .inr (ci, fs))) (hf : f < N) (hw : Cond.fieldLink own i C (T f).2.1 (T f).2.2.1 ∈ TB) (hfin : (T f).2.2.2 = false) {v : Value} (hn : narrow (ty f) v = v) (hfit : fits (ty f) v = true) (hlen : f < fs.length) {ws' : va_W} (hs : ws.set q0 (o, .inr (ci, fs.set f v)) = ws') (hd : decode cc pc = .ok (.putfield i, 3)) (k : JX p l e R s m args below meth c nL G A kc ks Q ws' (pc + 3) lv st) : JX p l e R s m args below meth c nL G A kc ks Q ws pc lv (v :: .ref o :: st) :=
  fun hD H locs ls hP hS hl => va_put E.1 E.2.1 E.2.2.2.2.1 F.2.1 ty F.2.2.2.1 F.2.2.2.2 E.2.2.2.1 E.2.2.2.2.2.1 hP hD hS q0 he F.1 f hf (E.2.2.2.2.1 _ hw) (fun x h => by rw [F.2.2.1 f hf] at h; exact h) hfin (F.2.2.2.1 f hf) hn hfit hlen hd (fun H1 locs1 hP1 hD1 hS1 => k (hs ▸ hD1) H1 locs1 ls (hs ▸ hP1) hS1 hl)
theorem jx_iald (E : CT p s m args meth c nL G A cc own) {q0 o n : Nat} {f : Nat → Int32} {i v : Int} (he : ws[q0]? = some (o, .inl (G.2.1 0, n, .inl f))) (hv : f i.toNat = iI v) (h0 : 0 ≤ i) (h1 : i < n) (hn : n ≤ 2147483647) (hd : decode cc pc = .ok (.iaload, 1)) (k : JX p l e R s m args below meth c nL G A kc ks Q ws (pc + 1) lv (vI v :: st)) : JX p l e R s m args below meth c nL G A kc ks Q ws pc lv (vI i :: .ref o :: st) :=
  fun hD H locs ls hP hS hl => va_iald E.1 E.2.1 E.2.2.2.2.2.1 hP q0 0 he rfl (iI_in h0 h1 hn) hd (by rw [iI_cl h0 (by omega), hv]; exact k hD H locs ls hP hS hl)
theorem jx_lald (E : CT p s m args meth c nL G A cc own) {q0 o n : Nat} {f : Nat → Int64} {i v : Int} (he : ws[q0]? = some (o, .inl (G.2.1 1, n, .inr (.inl f)))) (hv : f i.toNat = lI v) (h0 : 0 ≤ i) (h1 : i < n) (hn : n ≤ 2147483647) (hd : decode cc pc = .ok (.laload, 1)) (k : JX p l e R s m args below meth c nL G A kc ks Q ws (pc + 1) lv (vL v :: st)) : JX p l e R s m args below meth c nL G A kc ks Q ws pc lv (vI i :: .ref o :: st) :=
  fun hD H locs ls hP hS hl => va_lald E.1 E.2.1 E.2.2.2.2.2.1 hP q0 1 he rfl (iI_in h0 h1 hn) hd (by rw [iI_cl h0 (by omega), hv]; exact k hD H locs ls hP hS hl)
theorem jx_aald (E : CT p s m args meth c nL G A cc own) (t0 : Nat) {q0 o n y : Nat} {C : String} {cA : ClassId} {f : Nat → Option Nat} {i : Int} (he : ws[q0]? = some (o, .inl (cA, n, .inr (.inr (.inr (.inr f)))))) (ht : (tysG G)[t0]? = some (cA, .object C)) (hv : f i.toNat = some y) (h0 : 0 ≤ i) (h1 : i < n) (hn : n ≤ 2147483647) (hd : decode cc pc = .ok (.aaload, 1)) (k : JX p l e R s m args below meth c nL G A kc ks Q ws (pc + 1) lv (.ref y :: st)) : JX p l e R s m args below meth c nL G A kc ks Q ws pc lv (vI i :: .ref o :: st) :=
  fun hD H locs ls hP hS hl => va_aldq E.1 E.2.1 E.2.2.2.2.2.1 hP q0 t0 he ht (iI_in h0 h1 hn) hd (by rw [iI_cl h0 (by omega), hv]; exact k hD H locs ls hP hS hl)
theorem jx_iast (E : CT p s m args meth c nL G A cc own) {q0 o n : Nat} {f : Nat → Int32} {i v : Int} (he : ws[q0]? = some (o, .inl (G.2.1 0, n, .inl f))) {ws' : va_W} (hs : ws.set q0 (o, .inl (G.2.1 0, n, .inl (upd f i.toNat (iI v)))) = ws') (h0 : 0 ≤ i) (h1 : i < n) (hn : n ≤ 2147483647) (hd : decode cc pc = .ok (.iastore, 1)) (k : JX p l e R s m args below meth c nL G A kc ks Q ws' (pc + 1) lv st) : JX p l e R s m args below meth c nL G A kc ks Q ws pc lv (vI v :: vI i :: .ref o :: st) :=
  fun hD H locs ls hP hS hl => va_iast E.1 E.2.1 E.2.2.2.2.2.1 hP hD hS q0 0 he rfl (iI_in h0 h1 hn) hd (by rw [iI_cl h0 (by omega), hs]; exact fun H1 locs1 hP1 hD1 hS1 => k hD1 H1 locs1 ls hP1 hS1 hl)
theorem jx_last (E : CT p s m args meth c nL G A cc own) {q0 o n : Nat} {f : Nat → Int64} {i v : Int} (he : ws[q0]? = some (o, .inl (G.2.1 1, n, .inr (.inl f)))) {ws' : va_W} (hs : ws.set q0 (o, .inl (G.2.1 1, n, .inr (.inl (vp_updL f i.toNat (lI v))))) = ws') (h0 : 0 ≤ i) (h1 : i < n) (hn : n ≤ 2147483647) (hd : decode cc pc = .ok (.lastore, 1)) (k : JX p l e R s m args below meth c nL G A kc ks Q ws' (pc + 1) lv st) : JX p l e R s m args below meth c nL G A kc ks Q ws pc lv (vL v :: vI i :: .ref o :: st) :=
  fun hD H locs ls hP hS hl => va_last E.1 E.2.1 E.2.2.2.2.2.1 hP hD hS q0 1 he rfl (iI_in h0 h1 hn) hd (by rw [iI_cl h0 (by omega), hs]; exact fun H1 locs1 hP1 hD1 hS1 => k hD1 H1 locs1 ls hP1 hS1 hl)
/-- ends -/
theorem jx_iret {r : Int} {ws' : va_W} (E : CT p s m args meth c nL G A cc own) {r' : Int} (hr : meth.sig.returnType = some .int) (hd : decode cc pc = .ok (.ireturn, 1)) (h : r' = r) (hw : ws = ws') : JX p l e R s m args below meth c nL G A 0 0 (QI below args s G A r ws') ws pc lv [vI r'] :=
  fun hD H locs ls hP hS hl => W.iret E.1 E.2.1 hr (fun t ht hW => ⟨⟨iI r', (), rfl, by rw [h], by rw [ht, ← hw]; exact hP, va_K.moved hW.alike E.2.2.2.2.2.1, by rw [← hw]; exact hD⟩, hS.F ht⟩) hS.2.2 hd E.2.2.2.2.2.2.2.2
theorem jx_zret {r : Int} {ws' : va_W} (E : CT p s m args meth c nL G A cc own) {r' : Int} (hr : meth.sig.returnType = some .boolean) (hd : decode cc pc = .ok (.ireturn, 1)) (h : r' = r) (hw : ws = ws') (hb : r' = 0 ∨ r' = 1) : JX p l e R s m args below meth c nL G A 0 0 (QI below args s G A r ws') ws pc lv [vI r'] :=
  fun hD H locs ls hP hS hl => W.zret E.1 E.2.1 hr (by rcases hb with h | h <;> rw [h] <;> rfl) (fun t ht hW => ⟨⟨iI r', (), rfl, by rw [h], by rw [ht, ← hw]; exact hP, va_K.moved hW.alike E.2.2.2.2.2.1, by rw [← hw]; exact hD⟩, hS.F ht⟩) hS.2.2 hd E.2.2.2.2.2.2.2.2
theorem jx_lret {r : Int} {ws' : va_W} (E : CT p s m args meth c nL G A cc own) {r' : Int} (hr : meth.sig.returnType = some .long) (hd : decode cc pc = .ok (.lreturn, 1)) (h : r' = r) (hw : ws = ws') : JX p l e R s m args below meth c nL G A 0 0 (QL below args s G A r ws') ws pc lv [vL r'] :=
  fun hD H locs ls hP hS hl => W.lret E.1 E.2.1 hr (fun t ht hW => ⟨⟨lI r', (), rfl, by rw [h], by rw [ht, ← hw]; exact hP, va_K.moved hW.alike E.2.2.2.2.2.1, by rw [← hw]; exact hD⟩, hS.F ht⟩) hS.2.2 hd E.2.2.2.2.2.2.2.2
theorem jx_vret {ws' : va_W} (E : CT p s m args meth c nL G A cc own) (hr : meth.sig.returnType = none) (hd : decode cc pc = .ok (.return_, 1)) (hw : ws = ws') : JX p l e R s m args below meth c nL G A 0 0 (QV below args s G A ws') ws pc lv [] :=
  fun hD H locs ls hP hS hl => W.vret E.1 E.2.1 hr (fun t ht hW => ⟨⟨(), rfl, trivial, by rw [ht, ← hw]; exact hP, va_K.moved hW.alike E.2.2.2.2.2.1, by rw [← hw]; exact hD⟩, hS.F ht⟩) hS.2.2 hd E.2.2.2.2.2.2.2.2
end JXH
/-- what a call needs of the callee's start -/
theorem pre_blind {G : GT} {ws : va_W} {sz : Nat} {av : List Value} : FrameBlind (va_Pc av (PreC G ws sz)) := fun a U g mk q => by
  obtain ⟨q0, q1, q2, q3, q4, q5⟩ := q
  exact ⟨q0, q1, q2, va_K.moved (u := U) (U := U.calling g mk a) (Vm.Alike.refl U.vm) q3, q4, SW.same (s := U) rfl q5⟩
theorem va_A_self {A0 : Nat → Prop} {ws : va_W} {H0 H : Heap} {locs : List Loc} (hD : va_D A0 ws) (hS : va_S A0 H0 H locs) (hA : ∀ q, H0.size ≤ q → A0 q) : ∀ q, va_A ws H.size q → A0 q := by
  intro q h
  rcases h with ⟨k, e, h⟩ | h
  · exact hD.2 k (q, e) h
  · exact hA q (Nat.le_trans hS.1 h)
theorem pre_of {p : Program} {s : State} {m : MethodId} {args : Array Value} {meth : Method} {c : Code} {nL : Nat} {G : GT} {A : Nat → Prop} {cc : ByteArray} {own : String} (E : CT p s m args meth c nL G A cc own) {ws : va_W} {H : Heap} {locs : List Loc} (hD : va_D A ws) (hP : va_P G.1 vwCl ws H) (hS : va_S A s.heap H locs) {U : State} (hU : U.heap = H) (hW : s.WarmedH U.vm) : PreC G ws H.size U :=
  ⟨by rw [hU], by rw [hU]; exact hP, va_K.moved hW.alike E.2.2.2.2.2.1, hD.weaken (fun _ _ _ _ => trivial), by
    rw [hU]
    exact SW.warm hW ((E.2.2.2.2.2.2.2.1.kept (fun a h1 h2 => hS.2.1 a h1 h2)).narrow (va_A_self hD hS E.2.2.2.2.2.2.1))⟩
theorem va_D_up {A B : Nat → Prop} {ws : va_W} (h : va_D A ws) (hAB : ∀ q, A q → B q) : va_D B ws := ⟨h.1, fun k q hq => hAB _ (h.2 k q hq)⟩
theorem tb_ws {ws : List Cond} {y : MethodName} {bytes : ByteArray} {maxL n : Nat} {ret : Option FieldType} (hm : MB y bytes maxL ret n) : GoodIn TB (Cond.code y bytes maxL ret :: TB) := tb_good (fun w hw => (List.mem_cons.mp hw).elim (fun e => e ▸ hm.2.1) id)
section JXC
variable {p : Program} {l : Launch} {e : Env} {R : Room} {s : State} {m : MethodId} {args : Array Value} {below : List Frame} {meth : Method} {c : Code} {nL : Nat} {G : GT} {A : Nat → Prop} {kc ks : Nat} {Q : State → Prop} {ws : va_W} {pc : Nat} {lv : List (Nat × Value)} {st : List Value} {cc : ByteArray} {own : String}
theorem jx_callB (E : CT p s m args meth c nL G A cc own) {y : MethodName} {bytes : ByteArray} {maxL n d i : Nat} {ret : Option FieldType} (hm : MB y bytes maxL ret n) (hlink : Cond.methodLink own i y ∈ TB) (hRf : d + 1 ≤ R.frames) (hRl : 8 + (maxL + 11) + 40 * d ≤ R.locals) : CallB R s args own i y bytes maxL ret (Cond.code y bytes maxL ret :: TB) (rmL d) 0 0 n :=
  callB_of n E.2.2.2.2.1 (tb_ws (ws := TB) hm) rfl rfl rfl (E.2.2.2.2.1 _ hm.1) (E.2.2.2.2.1 _ hlink) hm.2.2 ⟨hRf, hRl⟩
theorem jx_callVi (E : CT p s m args meth c nL G A cc own) {y : MethodName} {bytes : ByteArray} {maxL n d i : Nat} {ret : Option FieldType} {ws' : va_W} {o : Nat} {r : Int} {st0 : List Value} {q0 ci : Nat} {fs : List Value} {T : u_T} {N : Nat} {ty : Nat → FieldType} (As rest : List Value) (hc : CtI l G y bytes maxL ret d (.ref o :: As) ws r ws') (hm : MB y bytes maxL ret n) (hv : MV y) (hlink : Cond.methodLink own i y ∈ TB) (F : FC ci y.cls T N ty) (he : ws[q0]? = some (o, .inr (ci, fs))) (hd : decode cc pc = .ok (.invokevirtual i, 3)) (k : JX p l e R s m args below meth c nL G A kc ks Q ws' (pc + 3) lv (vI r :: rest)) (hst : st0 = As.reverse ++ .ref o :: rest := by rfl) (hn : As.length = n := by rfl) (hrest : (rest.map fun v => v.category).sum ≤ 8 := by exact Nat.le_of_ble_eq_true rfl) (hRf : d + 1 ≤ R.frames := by decide) (hRl : 8 + (maxL + 11) + 40 * d ≤ R.locals := by decide) (hRc : kc ≤ R.cells := by decide) (hRs : ks ≤ R.slots := by decide) : JX p l e R s m args below meth c nL G A kc ks Q ws pc lv st0 := fun hD H locs ls hP hS hl => by
  subst hst
  have hF := va_A_self hD hS E.2.2.2.2.2.2.1
  refine va_calli (va_runV (As := As) (rest := rest) (C := y.cls) ⟨E.1, E.2.1, E.2.2.1, E.2.2.2.1, E.2.2.2.2.1⟩ (hc H.size) ⟨jx_callB E hm hlink hRf hRl, E.2.2.2.2.1 _ hv.1, E.2.2.2.2.1 _ hv.2⟩ ⟨pre_blind, va_recv E.2.2.2.2.2.1 hP (q := (y.cls, T, N)) F.1 he, fun U hU hW => ⟨rfl, pre_of E hD hP hS hU hW⟩⟩ rfl hn hl.1 rfl (lv_room hrest) hd ⟨hRc, hRs⟩) hS (fun q _ h => hF q h) hF (fun q u t H1 locs1 ht hvm hw hB hz1 hk1 hS1 => ?_)
  subst hw
  exact k (va_D_up hB.2.2 hF) H1 locs1 ls (ht ▸ hB.1) hS1 hl
theorem jx_callVl (E : CT p s m args meth c nL G A cc own) {y : MethodName} {bytes : ByteArray} {maxL n d i : Nat} {ret : Option FieldType} {ws' : va_W} {o : Nat} {r : Int} {st0 : List Value} {q0 ci : Nat} {fs : List Value} {T : u_T} {N : Nat} {ty : Nat → FieldType} (As rest : List Value) (hc : CtL l G y bytes maxL ret d (.ref o :: As) ws r ws') (hm : MB y bytes maxL ret n) (hv : MV y) (hlink : Cond.methodLink own i y ∈ TB) (F : FC ci y.cls T N ty) (he : ws[q0]? = some (o, .inr (ci, fs))) (hd : decode cc pc = .ok (.invokevirtual i, 3)) (k : JX p l e R s m args below meth c nL G A kc ks Q ws' (pc + 3) lv (vL r :: rest)) (hst : st0 = As.reverse ++ .ref o :: rest := by rfl) (hn : As.length = n := by rfl) (hrest : (rest.map fun v => v.category).sum ≤ 8 := by exact Nat.le_of_ble_eq_true rfl) (hRf : d + 1 ≤ R.frames := by decide) (hRl : 8 + (maxL + 11) + 40 * d ≤ R.locals := by decide) (hRc : kc ≤ R.cells := by decide) (hRs : ks ≤ R.slots := by decide) : JX p l e R s m args below meth c nL G A kc ks Q ws pc lv st0 := fun hD H locs ls hP hS hl => by
  subst hst
  have hF := va_A_self hD hS E.2.2.2.2.2.2.1
  refine va_calll (va_runV (As := As) (rest := rest) (C := y.cls) ⟨E.1, E.2.1, E.2.2.1, E.2.2.2.1, E.2.2.2.2.1⟩ (hc H.size) ⟨jx_callB E hm hlink hRf hRl, E.2.2.2.2.1 _ hv.1, E.2.2.2.2.1 _ hv.2⟩ ⟨pre_blind, va_recv E.2.2.2.2.2.1 hP (q := (y.cls, T, N)) F.1 he, fun U hU hW => ⟨rfl, pre_of E hD hP hS hU hW⟩⟩ rfl hn hl.1 rfl (lv_room hrest) hd ⟨hRc, hRs⟩) hS (fun q _ h => hF q h) hF (fun q u t H1 locs1 ht hvm hw hB hz1 hk1 hS1 => ?_)
  subst hw
  exact k (va_D_up hB.2.2 hF) H1 locs1 ls (ht ▸ hB.1) hS1 hl
theorem jx_callVv (E : CT p s m args meth c nL G A cc own) {y : MethodName} {bytes : ByteArray} {maxL n d i : Nat} {ret : Option FieldType} {ws' : va_W} {o : Nat} {st0 : List Value} {q0 ci : Nat} {fs : List Value} {T : u_T} {N : Nat} {ty : Nat → FieldType} (As rest : List Value) (hc : CtV l G y bytes maxL ret d (.ref o :: As) ws ws') (hm : MB y bytes maxL ret n) (hv : MV y) (hlink : Cond.methodLink own i y ∈ TB) (F : FC ci y.cls T N ty) (he : ws[q0]? = some (o, .inr (ci, fs))) (hd : decode cc pc = .ok (.invokevirtual i, 3)) (k : JX p l e R s m args below meth c nL G A kc ks Q ws' (pc + 3) lv rest) (hst : st0 = As.reverse ++ .ref o :: rest := by rfl) (hn : As.length = n := by rfl) (hrest : (rest.map fun v => v.category).sum ≤ 8 := by exact Nat.le_of_ble_eq_true rfl) (hRf : d + 1 ≤ R.frames := by decide) (hRl : 8 + (maxL + 11) + 40 * d ≤ R.locals := by decide) (hRc : kc ≤ R.cells := by decide) (hRs : ks ≤ R.slots := by decide) : JX p l e R s m args below meth c nL G A kc ks Q ws pc lv st0 := fun hD H locs ls hP hS hl => by
  subst hst
  have hF := va_A_self hD hS E.2.2.2.2.2.2.1
  refine va_callv (va_runV (As := As) (rest := rest) (C := y.cls) ⟨E.1, E.2.1, E.2.2.1, E.2.2.2.1, E.2.2.2.2.1⟩ (hc H.size) ⟨jx_callB E hm hlink hRf hRl, E.2.2.2.2.1 _ hv.1, E.2.2.2.2.1 _ hv.2⟩ ⟨pre_blind, va_recv E.2.2.2.2.2.1 hP (q := (y.cls, T, N)) F.1 he, fun U hU hW => ⟨rfl, pre_of E hD hP hS hU hW⟩⟩ rfl hn hl.1 rfl (lv_room hrest) hd ⟨hRc, hRs⟩) hS (fun q _ h => hF q h) hF (fun u t H1 locs1 ht hvm hw hB hz1 hk1 hS1 => ?_)
  exact k (va_D_up hB.2.2 hF) H1 locs1 ls (ht ▸ hB.1) hS1 hl
theorem jx_callSi (E : CT p s m args meth c nL G A cc own) {y : MethodName} {bytes : ByteArray} {maxL n d i : Nat} {ret : Option FieldType} {ws' : va_W} {r : Int} {st0 : List Value} (As rest : List Value) (hc : CtI l G y bytes maxL ret d As ws r ws') (hm : MB y bytes maxL ret n) (hv : Cond.static y ∈ TB) (hlink : Cond.methodLink own i y ∈ TB) (hd : decode cc pc = .ok (.invokestatic i, 3)) (k : JX p l e R s m args below meth c nL G A kc ks Q ws' (pc + 3) lv (vI r :: rest)) (hst : st0 = As.reverse ++ rest := by rfl) (hn : As.length = n := by rfl) (hrest : (rest.map fun v => v.category).sum ≤ 8 := by exact Nat.le_of_ble_eq_true rfl) (hRf : d + 1 ≤ R.frames := by decide) (hRl : 8 + (maxL + 11) + 40 * d ≤ R.locals := by decide) (hRc : kc ≤ R.cells := by decide) (hRs : ks ≤ R.slots := by decide) : JX p l e R s m args below meth c nL G A kc ks Q ws pc lv st0 := fun hD H locs ls hP hS hl => by
  subst hst
  have hF := va_A_self hD hS E.2.2.2.2.2.2.1
  refine va_calli (va_runS (As := As) (rest := rest) ⟨E.1, E.2.1, E.2.2.1, E.2.2.2.1, E.2.2.2.2.1⟩ (hc H.size) ⟨jx_callB E hm hlink hRf hRl, E.2.2.2.2.1 _ hv⟩ ⟨pre_blind, fun U hU hW => ⟨rfl, pre_of E hD hP hS hU hW⟩⟩ rfl hn hl.1 rfl (lv_room hrest) hd ⟨hRc, hRs⟩) hS (fun q _ h => hF q h) hF (fun q u t H1 locs1 ht hvm hw hB hz1 hk1 hS1 => ?_)
  subst hw
  exact k (va_D_up hB.2.2 hF) H1 locs1 ls (ht ▸ hB.1) hS1 hl
theorem jx_callSl (E : CT p s m args meth c nL G A cc own) {y : MethodName} {bytes : ByteArray} {maxL n d i : Nat} {ret : Option FieldType} {ws' : va_W} {r : Int} {st0 : List Value} (As rest : List Value) (hc : CtL l G y bytes maxL ret d As ws r ws') (hm : MB y bytes maxL ret n) (hv : Cond.static y ∈ TB) (hlink : Cond.methodLink own i y ∈ TB) (hd : decode cc pc = .ok (.invokestatic i, 3)) (k : JX p l e R s m args below meth c nL G A kc ks Q ws' (pc + 3) lv (vL r :: rest)) (hst : st0 = As.reverse ++ rest := by rfl) (hn : As.length = n := by rfl) (hrest : (rest.map fun v => v.category).sum ≤ 8 := by exact Nat.le_of_ble_eq_true rfl) (hRf : d + 1 ≤ R.frames := by decide) (hRl : 8 + (maxL + 11) + 40 * d ≤ R.locals := by decide) (hRc : kc ≤ R.cells := by decide) (hRs : ks ≤ R.slots := by decide) : JX p l e R s m args below meth c nL G A kc ks Q ws pc lv st0 := fun hD H locs ls hP hS hl => by
  subst hst
  have hF := va_A_self hD hS E.2.2.2.2.2.2.1
  refine va_calll (va_runS (As := As) (rest := rest) ⟨E.1, E.2.1, E.2.2.1, E.2.2.2.1, E.2.2.2.2.1⟩ (hc H.size) ⟨jx_callB E hm hlink hRf hRl, E.2.2.2.2.1 _ hv⟩ ⟨pre_blind, fun U hU hW => ⟨rfl, pre_of E hD hP hS hU hW⟩⟩ rfl hn hl.1 rfl (lv_room hrest) hd ⟨hRc, hRs⟩) hS (fun q _ h => hF q h) hF (fun q u t H1 locs1 ht hvm hw hB hz1 hk1 hS1 => ?_)
  subst hw
  exact k (va_D_up hB.2.2 hF) H1 locs1 ls (ht ▸ hB.1) hS1 hl
theorem jx_callSv (E : CT p s m args meth c nL G A cc own) {y : MethodName} {bytes : ByteArray} {maxL n d i : Nat} {ret : Option FieldType} {ws' : va_W} {st0 : List Value} (As rest : List Value) (hc : CtV l G y bytes maxL ret d As ws ws') (hm : MB y bytes maxL ret n) (hv : Cond.static y ∈ TB) (hlink : Cond.methodLink own i y ∈ TB) (hd : decode cc pc = .ok (.invokestatic i, 3)) (k : JX p l e R s m args below meth c nL G A kc ks Q ws' (pc + 3) lv rest) (hst : st0 = As.reverse ++ rest := by rfl) (hn : As.length = n := by rfl) (hrest : (rest.map fun v => v.category).sum ≤ 8 := by exact Nat.le_of_ble_eq_true rfl) (hRf : d + 1 ≤ R.frames := by decide) (hRl : 8 + (maxL + 11) + 40 * d ≤ R.locals := by decide) (hRc : kc ≤ R.cells := by decide) (hRs : ks ≤ R.slots := by decide) : JX p l e R s m args below meth c nL G A kc ks Q ws pc lv st0 := fun hD H locs ls hP hS hl => by
  subst hst
  have hF := va_A_self hD hS E.2.2.2.2.2.2.1
  refine va_callv (va_runS (As := As) (rest := rest) ⟨E.1, E.2.1, E.2.2.1, E.2.2.2.1, E.2.2.2.2.1⟩ (hc H.size) ⟨jx_callB E hm hlink hRf hRl, E.2.2.2.2.1 _ hv⟩ ⟨pre_blind, fun U hU hW => ⟨rfl, pre_of E hD hP hS hU hW⟩⟩ rfl hn hl.1 rfl (lv_room hrest) hd ⟨hRc, hRs⟩) hS (fun q _ h => hF q h) hF (fun u t H1 locs1 ht hvm hw hB hz1 hk1 hS1 => ?_)
  exact k (va_D_up hB.2.2 hF) H1 locs1 ls (ht ▸ hB.1) hS1 hl
/-- Math.max, Math.min -/
theorem jx_max (E : CT p s m args meth c nL G A cc own) {x y : Int} {i : Nat} (hlink : Cond.methodLink own i Lib.Math.max.name ∈ TB) (hw : Cond.static Lib.Math.max.name ∈ TB ∧ Cond.initialized "java/lang/Math" ∈ TB ∧ Cond.code Lib.Math.max.name Lib.Math.max.code 2 (some .int) ∈ TB) (hd : decode cc pc = .ok (.invokestatic i, 3)) (k : JX p l e R s m args below meth c nL G A kc ks Q ws (pc + 3) lv (vI (max x y) :: st)) (hx : inR x := by unfold inR; omega) (hy : inR y := by unfold inR; omega) (hRf : 1 ≤ R.frames := by decide) (hRl : (st.map fun v => v.category).sum + 13 ≤ R.locals := by exact Nat.le_of_ble_eq_true rfl) (hRc : kc ≤ R.cells := by decide) (hRs : ks ≤ R.slots := by decide) : JX p l e R s m args below meth c nL G A kc ks Q ws pc lv (vI y :: vI x :: st) := fun hD H locs ls hP hS hl =>
  va_mmax E.1 E.2.1 (by rw [E.2.2.1, hl.1]) E.2.2.2.1 (E.2.2.2.2.1 _ hlink) (E.2.2.2.2.1 _ hw.1) (E.2.2.2.2.1 _ hw.2.1) (E.2.2.2.2.1 _ hw.2.2) hRf hRl hRc hRs hd (by
    have h : (if iI x < iI y then iI y else iI x) = iI (max x y) := by
      simp only [iI_lt hx hy]
      split
      · rw [Int.max_eq_right (by omega)]
      · rw [Int.max_eq_left (by omega)]
    rw [h]
    exact k hD H locs ls hP hS hl)
theorem jx_min (E : CT p s m args meth c nL G A cc own) {x y : Int} {i : Nat} (hlink : Cond.methodLink own i Lib.Math.min.name ∈ TB) (hw : Cond.static Lib.Math.min.name ∈ TB ∧ Cond.initialized "java/lang/Math" ∈ TB ∧ Cond.code Lib.Math.min.name Lib.Math.min.code 2 (some .int) ∈ TB) (hd : decode cc pc = .ok (.invokestatic i, 3)) (k : JX p l e R s m args below meth c nL G A kc ks Q ws (pc + 3) lv (vI (min x y) :: st)) (hx : inR x := by unfold inR; omega) (hy : inR y := by unfold inR; omega) (hRf : 1 ≤ R.frames := by decide) (hRl : (st.map fun v => v.category).sum + 13 ≤ R.locals := by exact Nat.le_of_ble_eq_true rfl) (hRc : kc ≤ R.cells := by decide) (hRs : ks ≤ R.slots := by decide) : JX p l e R s m args below meth c nL G A kc ks Q ws pc lv (vI y :: vI x :: st) := fun hD H locs ls hP hS hl =>
  va_mmin E.1 E.2.1 (by rw [E.2.2.1, hl.1]) E.2.2.2.1 (E.2.2.2.2.1 _ hlink) (E.2.2.2.2.1 _ hw.1) (E.2.2.2.2.1 _ hw.2.1) (E.2.2.2.2.1 _ hw.2.2) hRf hRl hRc hRs hd (by
    have h : (if iI y < iI x then iI y else iI x) = iI (min x y) := by
      simp only [iI_lt hy hx]
      split
      · rw [Int.min_eq_right (by omega)]
      · rw [Int.min_eq_left (by omega)]
    rw [h]
    exact k hD H locs ls hP hS hl)
end JXC
/-- a contract out of a walk of the body -/
theorem CtI.of {l : Launch} {G : GT} {y : MethodName} {bytes : ByteArray} {maxL : Nat} {ret : Option FieldType} {d : Nat} {av : List Value} {ws : va_W} {r : Int} {ws' : va_W} (hy : plainName y.cls = true) (hav : (lg_sl av).length ≤ maxL)
    (h : ∀ (p : Program) (e : Env) (s : State) (m : MethodId) (args : Array Value) (below : List Frame) (meth : Method) (c : Code) (A : Nat → Prop), CT p s m args meth c maxL G A bytes y.cls → meth.sig.returnType = ret → JX p l e (rmL d) s m args below meth c maxL G A 0 0 (QI below args s G A r ws') ws 0 (lv_args 0 av) []) : CtI l G y bytes maxL ret d av ws r ws' := by
  intro sz
  refine Met.ofW (cc := bytes) (maxL := maxL) (ret := ret) hy rfl ?_
  intro p e s m args below meth c s₁ B hml hv
  obtain ⟨rfl, hsz, hP, hK, hD0, hSW⟩ := hv
  subst hsz
  have hD := hD0.self (sz := s.heap.size)
  have hts := atoms_spec (ws := Cond.code y bytes maxL ret :: TB) B.pre
  have hl := lv_entry av (n := maxL) hav
  rw [lg_entry_eq]
  generalize (lg_sl av ++ List.replicate (maxL - (lg_sl av).length) Slot.unset).toArray = ls at hl ⊢
  exact h p e s m _ below meth c (va_A ws s.heap.size) ⟨B.exec, B.bytes, hml, findClass_of_methodNamed B.named, fun w hw => hts w (List.mem_cons_of_mem _ hw), hK, fun q hq => Or.inr hq, hSW, B.notSynchronized⟩ B.returns hD s.heap [] ls hP va_S.rf hl
theorem CtL.of {l : Launch} {G : GT} {y : MethodName} {bytes : ByteArray} {maxL : Nat} {ret : Option FieldType} {d : Nat} {av : List Value} {ws : va_W} {r : Int} {ws' : va_W} (hy : plainName y.cls = true) (hav : (lg_sl av).length ≤ maxL)
    (h : ∀ (p : Program) (e : Env) (s : State) (m : MethodId) (args : Array Value) (below : List Frame) (meth : Method) (c : Code) (A : Nat → Prop), CT p s m args meth c maxL G A bytes y.cls → meth.sig.returnType = ret → JX p l e (rmL d) s m args below meth c maxL G A 0 0 (QL below args s G A r ws') ws 0 (lv_args 0 av) []) : CtL l G y bytes maxL ret d av ws r ws' := by
  intro sz
  refine Met.ofW (cc := bytes) (maxL := maxL) (ret := ret) hy rfl ?_
  intro p e s m args below meth c s₁ B hml hv
  obtain ⟨rfl, hsz, hP, hK, hD0, hSW⟩ := hv
  subst hsz
  have hD := hD0.self (sz := s.heap.size)
  have hts := atoms_spec (ws := Cond.code y bytes maxL ret :: TB) B.pre
  have hl := lv_entry av (n := maxL) hav
  rw [lg_entry_eq]
  generalize (lg_sl av ++ List.replicate (maxL - (lg_sl av).length) Slot.unset).toArray = ls at hl ⊢
  exact h p e s m _ below meth c (va_A ws s.heap.size) ⟨B.exec, B.bytes, hml, findClass_of_methodNamed B.named, fun w hw => hts w (List.mem_cons_of_mem _ hw), hK, fun q hq => Or.inr hq, hSW, B.notSynchronized⟩ B.returns hD s.heap [] ls hP va_S.rf hl
theorem CtV.of {l : Launch} {G : GT} {y : MethodName} {bytes : ByteArray} {maxL : Nat} {ret : Option FieldType} {d : Nat} {av : List Value} {ws : va_W} {ws' : va_W} (hy : plainName y.cls = true) (hav : (lg_sl av).length ≤ maxL)
    (h : ∀ (p : Program) (e : Env) (s : State) (m : MethodId) (args : Array Value) (below : List Frame) (meth : Method) (c : Code) (A : Nat → Prop), CT p s m args meth c maxL G A bytes y.cls → meth.sig.returnType = ret → JX p l e (rmL d) s m args below meth c maxL G A 0 0 (QV below args s G A ws') ws 0 (lv_args 0 av) []) : CtV l G y bytes maxL ret d av ws ws' := by
  intro sz
  refine Met.ofW (cc := bytes) (maxL := maxL) (ret := ret) hy rfl ?_
  intro p e s m args below meth c s₁ B hml hv
  obtain ⟨rfl, hsz, hP, hK, hD0, hSW⟩ := hv
  subst hsz
  have hD := hD0.self (sz := s.heap.size)
  have hts := atoms_spec (ws := Cond.code y bytes maxL ret :: TB) B.pre
  have hl := lv_entry av (n := maxL) hav
  rw [lg_entry_eq]
  generalize (lg_sl av ++ List.replicate (maxL - (lg_sl av).length) Slot.unset).toArray = ls at hl ⊢
  exact h p e s m _ below meth c (va_A ws s.heap.size) ⟨B.exec, B.bytes, hml, findClass_of_methodNamed B.named, fun w hw => hts w (List.mem_cons_of_mem _ hw), hK, fun q hq => Or.inr hq, hSW, B.notSynchronized⟩ B.returns hD s.heap [] ls hP va_S.rf hl
end
section
/-! the worlds of the two systems -/
def rowI (t : Int → Int) (b : Int) (n : Nat) : Nat → Int32 := fun k => if k < n then iI (t (b + k)) else 0
def rowL (t : Int → Int) (b : Int) (n : Nat) : Nat → Int64 := fun k => if k < n then lI (t (b + k)) else 0
theorem rowI_at {t : Int → Int} {b i : Int} {n : Nat} (h0 : 0 ≤ i) (h1 : i < n) : rowI t b n i.toNat = iI (t (b + i)) := by
  have h : i.toNat < n := by omega
  have e : ((i.toNat : Nat) : Int) = i := Int.toNat_of_nonneg h0
  simp only [rowI, if_pos h, e]
theorem rowL_at {t : Int → Int} {b i : Int} {n : Nat} (h0 : 0 ≤ i) (h1 : i < n) : rowL t b n i.toNat = lI (t (b + i)) := by
  have h : i.toNat < n := by omega
  have e : ((i.toNat : Nat) : Int) = i := Int.toNat_of_nonneg h0
  simp only [rowL, if_pos h, e]
theorem rowI_upd {t : Int → Int} {b i v : Int} {n : Nat} (h0 : 0 ≤ i) (h1 : i < n) : upd (rowI t b n) i.toNat (iI v) = rowI (updI t (b + i) v) b n := by
  funext k
  simp only [upd, rowI, updI]
  by_cases hk : k = i.toNat
  · subst hk
    rw [if_pos rfl, if_pos (by omega), if_pos (by omega)]
  · rw [if_neg hk]
    split
    · rw [if_neg (by omega)]
    · rfl
theorem rowL_upd {t : Int → Int} {b i v : Int} {n : Nat} (h0 : 0 ≤ i) (h1 : i < n) : vp_updL (rowL t b n) i.toNat (lI v) = rowL (updI t (b + i) v) b n := by
  funext k
  simp only [vp_updL, rowL, updI]
  by_cases hk : k = i.toNat
  · subst hk
    rw [if_pos rfl, if_pos (by omega), if_pos (by omega)]
  · rw [if_neg hk]
    split
    · rw [if_neg (by omega)]
    · rfl
theorem rowI_out {t : Int → Int} {b i v : Int} {n : Nat} (h : i < b ∨ b + n ≤ i) : rowI (updI t i v) b n = rowI t b n := by
  funext k
  simp only [rowI, updI]
  split
  · rw [if_neg (by omega)]
  · rfl
theorem set_l {α : Type} {l r : List α} {k : Nat} {e : α} (h : k < l.length) : (l ++ r).set k e = l.set k e ++ r := List.set_append_left k e h
theorem set_r {α : Type} {l r : List α} {k n : Nat} {e : α} (h : l.length = n) : (l ++ r).set (n + k) e = l ++ r.set k e := by
  subst h
  rw [List.set_append_right _ _ (Nat.le_add_right _ _), Nat.add_sub_cancel_left]
def wsT (G : GT) (a : Nat → Nat) (b : Nat) (t : Int → Int) : va_W := [
  (a b, .inr (4, [vI (t 0), vI (t 1), vI (t 2), vI (t 3), .ref (a (b + 1)), .ref (a (b + 2)), .ref (a (b + 3)), vI (t 4)])),
  (a (b + 1), .inl (G.2.1 0, 8, .inl (rowI t 5 8))),
  (a (b + 2), .inl (G.2.1 0, 8, .inl (rowI t 13 8))),
  (a (b + 3), .inl (G.2.1 2, 8, .inr (.inr (.inr (.inr (fun i => some (a (b + 4 + i)))))))),
  (a (b + 4), .inr (0, [vI (t 21), vI (t 22), vI (t 23), vI (t 24), vI (t 25)])),
  (a (b + 5), .inr (0, [vI (t 26), vI (t 27), vI (t 28), vI (t 29), vI (t 30)])),
  (a (b + 6), .inr (0, [vI (t 31), vI (t 32), vI (t 33), vI (t 34), vI (t 35)])),
  (a (b + 7), .inr (0, [vI (t 36), vI (t 37), vI (t 38), vI (t 39), vI (t 40)])),
  (a (b + 8), .inr (0, [vI (t 41), vI (t 42), vI (t 43), vI (t 44), vI (t 45)])),
  (a (b + 9), .inr (0, [vI (t 46), vI (t 47), vI (t 48), vI (t 49), vI (t 50)])),
  (a (b + 10), .inr (0, [vI (t 51), vI (t 52), vI (t 53), vI (t 54), vI (t 55)])),
  (a (b + 11), .inr (0, [vI (t 56), vI (t 57), vI (t 58), vI (t 59), vI (t 60)]))]
def wsR (G : GT) (a : Nat → Nat) (x : MS) : va_W := [
  (a 37, .inr (2, [.ref (a 38), vI (x 9 1)])),
  (a 38, .inl (G.2.1 0, 120, .inl (rowI (x 3) 0 120))),
  (a 39, .inr (3, [.ref (a 37), vI (x 9 2), vI (x 9 3), vI (x 9 4), vI (x 9 5), vI (x 9 6)])),
  (a 40, .inl (G.2.1 3, 4, .inr (.inr (.inr (.inr (fun i => some (a (41 + 2 * i)))))))),
  (a 41, .inr (1, [vI (x 9 7), vI (x 9 8), .ref (a 42)])),
  (a 42, .inl (G.2.1 1, 40, .inr (.inl (rowL (x 5) 0 40)))),
  (a 43, .inr (1, [vI (x 9 9), vI (x 9 10), .ref (a 44)])),
  (a 44, .inl (G.2.1 1, 40, .inr (.inl (rowL (x 6) 0 40)))),
  (a 45, .inr (1, [vI (x 9 11), vI (x 9 12), .ref (a 46)])),
  (a 46, .inl (G.2.1 1, 40, .inr (.inl (rowL (x 7) 0 40)))),
  (a 47, .inr (1, [vI (x 9 13), vI (x 9 14), .ref (a 48)])),
  (a 48, .inl (G.2.1 1, 40, .inr (.inl (rowL (x 8) 0 40)))),
  (a 49, .inl (G.2.1 0, 7, .inl (rowI (x 4) 0 7)))]
def wsH (a : Nat → Nat) (v : Int) : Nat × va_E := (a 0, .inr (5, [.ref (a 1), .ref (a 13), .ref (a 25), vI v, .ref (a 37), .ref (a 39), .ref (a 40), .ref (a 49)]))
def wsX (G : GT) (a : Nat → Nat) (x : MS) : va_W :=
  wsH a (x 9 0) :: (wsT G a 1 (x 0) ++ (wsT G a 13 (x 1) ++ (wsT G a 25 (x 2) ++ wsR G a x)))
/-- the reference's world: rows m, kept, was, found, tape, bitsOf, sizeOf, cells; row 8: isKept, taped, token, begin, at, value, bad -/
def wsM (G : GT) (b : Nat → Nat) (y : MS) : va_W := [
  (b 0, .inr (6, [.ref (b 1), .ref (b 2), .ref (b 3), vI (y 8 0), .ref (b 4), .ref (b 5), vI (y 8 1), vI (y 8 2), vI (y 8 3), vI (y 8 4), vI (y 8 5), vI (y 8 6), .ref (b 6), .ref (b 7), .ref (b 8)])),
  (b 1, .inl (G.2.1 0, 61, .inl (rowI (y 0) 0 61))),
  (b 2, .inl (G.2.1 0, 61, .inl (rowI (y 1) 0 61))),
  (b 3, .inl (G.2.1 0, 61, .inl (rowI (y 2) 0 61))),
  (b 4, .inl (G.2.1 0, 7, .inl (rowI (y 3) 0 7))),
  (b 5, .inl (G.2.1 0, 120, .inl (rowI (y 4) 0 120))),
  (b 6, .inl (G.2.1 0, 4, .inl (rowI (y 5) 0 4))),
  (b 7, .inl (G.2.1 0, 4, .inl (rowI (y 6) 0 4))),
  (b 8, .inl (G.2.1 1, 160, .inr (.inl (rowL (y 7) 0 160))))]
section WLD
variable {G : GT} {a : Nat → Nat} {x : MS}
theorem wt_town {t : Int → Int} {b : Nat} : (wsT G a b t)[0]? = some (a b, .inr (4, [vI (t 0), vI (t 1), vI (t 2), vI (t 3), .ref (a (b + 1)), .ref (a (b + 2)), .ref (a (b + 3)), vI (t 4)])) := rfl
theorem j3 {P : Nat → Prop} (h0 : P 0) (h1 : P 1) (h2 : P 2) {j : Nat} (hj : j < 3) : P j := by
  match j, hj with
  | 0, _ => exact h0
  | 1, _ => exact h1
  | 2, _ => exact h2
theorem i8 {P : Int → Prop} (h0 : P 0) (h1 : P 1) (h2 : P 2) (h3 : P 3) (h4 : P 4) (h5 : P 5) (h6 : P 6) (h7 : P 7) {i : Int} (hi : 0 ≤ i) (h8 : i < 8) : P i := by
  rcases (show i = 0 ∨ i = 1 ∨ i = 2 ∨ i = 3 ∨ i = 4 ∨ i = 5 ∨ i = 6 ∨ i = 7 by omega) with h | h | h | h | h | h | h | h <;> rw [h] <;> assumption
/-- the cells of town j: its object, its rows, its fountains -/
theorem wx_town {j : Nat} (hj : j < 3) : (wsX G a x)[1 + 12 * j]? = some (a (1 + 12 * j), .inr (4, [vI (x j 0), vI (x j 1), vI (x j 2), vI (x j 3), .ref (a (2 + 12 * j)), .ref (a (3 + 12 * j)), .ref (a (4 + 12 * j)), vI (x j 4)])) := (by match j, hj with | 0, _ => rfl | 1, _ => rfl | 2, _ => rfl)
theorem wx_rain {j : Nat} (hj : j < 3) : (wsX G a x)[2 + 12 * j]? = some (a (2 + 12 * j), .inl (G.2.1 0, 8, .inl (rowI (x j) 5 8))) := (by match j, hj with | 0, _ => rfl | 1, _ => rfl | 2, _ => rfl)
theorem wx_cold {j : Nat} (hj : j < 3) : (wsX G a x)[3 + 12 * j]? = some (a (3 + 12 * j), .inl (G.2.1 0, 8, .inl (rowI (x j) 13 8))) := (by match j, hj with | 0, _ => rfl | 1, _ => rfl | 2, _ => rfl)
theorem wx_row {j : Nat} (hj : j < 3) : (wsX G a x)[4 + 12 * j]? = some (a (4 + 12 * j), .inl (G.2.1 2, 8, .inr (.inr (.inr (.inr (fun i => some (a (5 + 12 * j + i)))))))) := (by match j, hj with | 0, _ => rfl | 1, _ => rfl | 2, _ => rfl)
theorem wx_fou {j : Nat} (hj : j < 3) {i : Int} (h0 : 0 ≤ i) (h8 : i < 8) : (wsX G a x)[5 + 12 * j + i.toNat]? = some (a (5 + 12 * j + i.toNat), .inr (0, [vI (x j (21 + 5 * i)), vI (x j (21 + 5 * i + 1)), vI (x j (21 + 5 * i + 2)), vI (x j (21 + 5 * i + 3)), vI (x j (21 + 5 * i + 4))])) :=
  i8 (P := fun i => (wsX G a x)[5 + 12 * j + i.toNat]? = some (a (5 + 12 * j + i.toNat), .inr (0, [vI (x j (21 + 5 * i)), vI (x j (21 + 5 * i + 1)), vI (x j (21 + 5 * i + 2)), vI (x j (21 + 5 * i + 3)), vI (x j (21 + 5 * i + 4))]))) (by match j, hj with | 0, _ => rfl | 1, _ => rfl | 2, _ => rfl) (by match j, hj with | 0, _ => rfl | 1, _ => rfl | 2, _ => rfl) (by match j, hj with | 0, _ => rfl | 1, _ => rfl | 2, _ => rfl) (by match j, hj with | 0, _ => rfl | 1, _ => rfl | 2, _ => rfl) (by match j, hj with | 0, _ => rfl | 1, _ => rfl | 2, _ => rfl) (by match j, hj with | 0, _ => rfl | 1, _ => rfl | 2, _ => rfl) (by match j, hj with | 0, _ => rfl | 1, _ => rfl | 2, _ => rfl) (by match j, hj with | 0, _ => rfl | 1, _ => rfl | 2, _ => rfl) h0 h8
/-- a town's part changed -/
theorem wx_setT {j k : Nat} (hj : j < 3) (hk : k < 12) {e : Nat × va_E} {t : Int → Int} (h : (wsT G a (1 + 12 * j) (x j)).set k e = wsT G a (1 + 12 * j) t) : (wsX G a x).set (1 + 12 * j + k) e = wsX G a (setc x j t) := by
  have hl : ∀ b t, (wsT G a b t).length = 12 := fun _ _ => rfl
  revert h
  refine j3 (P := fun j => (wsT G a (1 + 12 * j) (x j)).set k e = wsT G a (1 + 12 * j) t → (wsX G a x).set (1 + 12 * j + k) e = wsX G a (setc x j t)) ?_ ?_ ?_ hj
  · intro h
    have h1 : (wsX G a x).set (1 + 12 * 0 + k) e = wsH a (x 9 0) :: (wsT G a 1 (x 0) ++ (wsT G a 13 (x 1) ++ (wsT G a 25 (x 2) ++ wsR G a x))).set k e := by
      rw [show 1 + 12 * 0 + k = k + 1 by omega]; rfl
    rw [h1, set_l (by rw [hl]; exact hk), show wsT G a 1 (x 0) = wsT G a (1 + 12 * 0) (x 0) from rfl, h]
    rfl
  · intro h
    have h1 : (wsX G a x).set (1 + 12 * 1 + k) e = wsH a (x 9 0) :: (wsT G a 1 (x 0) ++ (wsT G a 13 (x 1) ++ (wsT G a 25 (x 2) ++ wsR G a x))).set (12 + k) e := by
      rw [show 1 + 12 * 1 + k = (12 + k) + 1 by omega]; rfl
    rw [h1, set_r (hl _ _), set_l (by rw [hl]; exact hk), show wsT G a 13 (x 1) = wsT G a (1 + 12 * 1) (x 1) from rfl, h]
    rfl
  · intro h
    have h1 : (wsX G a x).set (1 + 12 * 2 + k) e = wsH a (x 9 0) :: (wsT G a 1 (x 0) ++ (wsT G a 13 (x 1) ++ (wsT G a 25 (x 2) ++ wsR G a x))).set (12 + (12 + k)) e := by
      rw [show 1 + 12 * 2 + k = (12 + (12 + k)) + 1 by omega]; rfl
    rw [h1, set_r (hl _ _), set_r (hl _ _), set_l (by rw [hl]; exact hk), show wsT G a 25 (x 2) = wsT G a (1 + 12 * 2) (x 2) from rfl, h]
    rfl
theorem updI_app (f : Int → Int) (k v j : Int) : updI f k v j = if j = k then v else f j := rfl
theorem setc_app (x : MS) (c : Nat) (f : Int → Int) (d : Nat) : setc x c f d = if d = c then f else x d := rfl
theorem wp_town0 {j : Nat} (hj : j < 3) {v : Int} : (wsX G a x).set (1 + 12 * j) (a (1 + 12 * j), .inr (4, ([vI (x j 0), vI (x j 1), vI (x j 2), vI (x j 3), .ref (a (2 + 12 * j)), .ref (a (3 + 12 * j)), .ref (a (4 + 12 * j)), vI (x j 4)] : List Value).set 0 (vI v))) = wsX G a (setc x j (updI (x j) 0 v)) := wx_setT (k := 0) hj (by omega) (by match j, hj with | 0, _ => simp [wsT, updI_app, rowI_out] | 1, _ => simp [wsT, updI_app, rowI_out] | 2, _ => simp [wsT, updI_app, rowI_out])
theorem wp_town1 {j : Nat} (hj : j < 3) {v : Int} : (wsX G a x).set (1 + 12 * j) (a (1 + 12 * j), .inr (4, ([vI (x j 0), vI (x j 1), vI (x j 2), vI (x j 3), .ref (a (2 + 12 * j)), .ref (a (3 + 12 * j)), .ref (a (4 + 12 * j)), vI (x j 4)] : List Value).set 1 (vI v))) = wsX G a (setc x j (updI (x j) 1 v)) := wx_setT (k := 0) hj (by omega) (by match j, hj with | 0, _ => simp [wsT, updI_app, rowI_out] | 1, _ => simp [wsT, updI_app, rowI_out] | 2, _ => simp [wsT, updI_app, rowI_out])
theorem wp_town2 {j : Nat} (hj : j < 3) {v : Int} : (wsX G a x).set (1 + 12 * j) (a (1 + 12 * j), .inr (4, ([vI (x j 0), vI (x j 1), vI (x j 2), vI (x j 3), .ref (a (2 + 12 * j)), .ref (a (3 + 12 * j)), .ref (a (4 + 12 * j)), vI (x j 4)] : List Value).set 2 (vI v))) = wsX G a (setc x j (updI (x j) 2 v)) := wx_setT (k := 0) hj (by omega) (by match j, hj with | 0, _ => simp [wsT, updI_app, rowI_out] | 1, _ => simp [wsT, updI_app, rowI_out] | 2, _ => simp [wsT, updI_app, rowI_out])
theorem wp_town3 {j : Nat} (hj : j < 3) {v : Int} : (wsX G a x).set (1 + 12 * j) (a (1 + 12 * j), .inr (4, ([vI (x j 0), vI (x j 1), vI (x j 2), vI (x j 3), .ref (a (2 + 12 * j)), .ref (a (3 + 12 * j)), .ref (a (4 + 12 * j)), vI (x j 4)] : List Value).set 3 (vI v))) = wsX G a (setc x j (updI (x j) 3 v)) := wx_setT (k := 0) hj (by omega) (by match j, hj with | 0, _ => simp [wsT, updI_app, rowI_out] | 1, _ => simp [wsT, updI_app, rowI_out] | 2, _ => simp [wsT, updI_app, rowI_out])
theorem wp_town7 {j : Nat} (hj : j < 3) {v : Int} : (wsX G a x).set (1 + 12 * j) (a (1 + 12 * j), .inr (4, ([vI (x j 0), vI (x j 1), vI (x j 2), vI (x j 3), .ref (a (2 + 12 * j)), .ref (a (3 + 12 * j)), .ref (a (4 + 12 * j)), vI (x j 4)] : List Value).set 7 (vI v))) = wsX G a (setc x j (updI (x j) 4 v)) := wx_setT (k := 0) hj (by omega) (by match j, hj with | 0, _ => simp [wsT, updI_app, rowI_out] | 1, _ => simp [wsT, updI_app, rowI_out] | 2, _ => simp [wsT, updI_app, rowI_out])
theorem wp_fou0 {j : Nat} (hj : j < 3) {i : Int} (h0 : 0 ≤ i) (h8 : i < 8) {v : Int} : (wsX G a x).set (5 + 12 * j + i.toNat) (a (5 + 12 * j + i.toNat), .inr (0, ([vI (x j (21 + 5 * i)), vI (x j (21 + 5 * i + 1)), vI (x j (21 + 5 * i + 2)), vI (x j (21 + 5 * i + 3)), vI (x j (21 + 5 * i + 4))] : List Value).set 0 (vI v))) = wsX G a (setc x j (updI (x j) (21 + 5 * i) v)) := by
  have h := wx_setT (G := G) (a := a) (x := x) (k := 4 + i.toNat) (e := (a (5 + 12 * j + i.toNat), .inr (0, ([vI (x j (21 + 5 * i)), vI (x j (21 + 5 * i + 1)), vI (x j (21 + 5 * i + 2)), vI (x j (21 + 5 * i + 3)), vI (x j (21 + 5 * i + 4))] : List Value).set 0 (vI v)))) hj (by omega) (i8 (P := fun i => (wsT G a (1 + 12 * j) (x j)).set (4 + i.toNat) (a (5 + 12 * j + i.toNat), .inr (0, ([vI (x j (21 + 5 * i)), vI (x j (21 + 5 * i + 1)), vI (x j (21 + 5 * i + 2)), vI (x j (21 + 5 * i + 3)), vI (x j (21 + 5 * i + 4))] : List Value).set 0 (vI v))) = wsT G a (1 + 12 * j) (updI (x j) (21 + 5 * i) v)) (by match j, hj with | 0, _ => simp [wsT, updI_app, rowI_out] | 1, _ => simp [wsT, updI_app, rowI_out] | 2, _ => simp [wsT, updI_app, rowI_out]) (by match j, hj with | 0, _ => simp [wsT, updI_app, rowI_out] | 1, _ => simp [wsT, updI_app, rowI_out] | 2, _ => simp [wsT, updI_app, rowI_out]) (by match j, hj with | 0, _ => simp [wsT, updI_app, rowI_out] | 1, _ => simp [wsT, updI_app, rowI_out] | 2, _ => simp [wsT, updI_app, rowI_out]) (by match j, hj with | 0, _ => simp [wsT, updI_app, rowI_out] | 1, _ => simp [wsT, updI_app, rowI_out] | 2, _ => simp [wsT, updI_app, rowI_out]) (by match j, hj with | 0, _ => simp [wsT, updI_app, rowI_out] | 1, _ => simp [wsT, updI_app, rowI_out] | 2, _ => simp [wsT, updI_app, rowI_out]) (by match j, hj with | 0, _ => simp [wsT, updI_app, rowI_out] | 1, _ => simp [wsT, updI_app, rowI_out] | 2, _ => simp [wsT, updI_app, rowI_out]) (by match j, hj with | 0, _ => simp [wsT, updI_app, rowI_out] | 1, _ => simp [wsT, updI_app, rowI_out] | 2, _ => simp [wsT, updI_app, rowI_out]) (by match j, hj with | 0, _ => simp [wsT, updI_app, rowI_out] | 1, _ => simp [wsT, updI_app, rowI_out] | 2, _ => simp [wsT, updI_app, rowI_out]) h0 h8)
  rwa [show 1 + 12 * j + (4 + i.toNat) = 5 + 12 * j + i.toNat by omega] at h
theorem wp_fou1 {j : Nat} (hj : j < 3) {i : Int} (h0 : 0 ≤ i) (h8 : i < 8) {v : Int} : (wsX G a x).set (5 + 12 * j + i.toNat) (a (5 + 12 * j + i.toNat), .inr (0, ([vI (x j (21 + 5 * i)), vI (x j (21 + 5 * i + 1)), vI (x j (21 + 5 * i + 2)), vI (x j (21 + 5 * i + 3)), vI (x j (21 + 5 * i + 4))] : List Value).set 1 (vI v))) = wsX G a (setc x j (updI (x j) (21 + 5 * i + 1) v)) := by
  have h := wx_setT (G := G) (a := a) (x := x) (k := 4 + i.toNat) (e := (a (5 + 12 * j + i.toNat), .inr (0, ([vI (x j (21 + 5 * i)), vI (x j (21 + 5 * i + 1)), vI (x j (21 + 5 * i + 2)), vI (x j (21 + 5 * i + 3)), vI (x j (21 + 5 * i + 4))] : List Value).set 1 (vI v)))) hj (by omega) (i8 (P := fun i => (wsT G a (1 + 12 * j) (x j)).set (4 + i.toNat) (a (5 + 12 * j + i.toNat), .inr (0, ([vI (x j (21 + 5 * i)), vI (x j (21 + 5 * i + 1)), vI (x j (21 + 5 * i + 2)), vI (x j (21 + 5 * i + 3)), vI (x j (21 + 5 * i + 4))] : List Value).set 1 (vI v))) = wsT G a (1 + 12 * j) (updI (x j) (21 + 5 * i + 1) v)) (by match j, hj with | 0, _ => simp [wsT, updI_app, rowI_out] | 1, _ => simp [wsT, updI_app, rowI_out] | 2, _ => simp [wsT, updI_app, rowI_out]) (by match j, hj with | 0, _ => simp [wsT, updI_app, rowI_out] | 1, _ => simp [wsT, updI_app, rowI_out] | 2, _ => simp [wsT, updI_app, rowI_out]) (by match j, hj with | 0, _ => simp [wsT, updI_app, rowI_out] | 1, _ => simp [wsT, updI_app, rowI_out] | 2, _ => simp [wsT, updI_app, rowI_out]) (by match j, hj with | 0, _ => simp [wsT, updI_app, rowI_out] | 1, _ => simp [wsT, updI_app, rowI_out] | 2, _ => simp [wsT, updI_app, rowI_out]) (by match j, hj with | 0, _ => simp [wsT, updI_app, rowI_out] | 1, _ => simp [wsT, updI_app, rowI_out] | 2, _ => simp [wsT, updI_app, rowI_out]) (by match j, hj with | 0, _ => simp [wsT, updI_app, rowI_out] | 1, _ => simp [wsT, updI_app, rowI_out] | 2, _ => simp [wsT, updI_app, rowI_out]) (by match j, hj with | 0, _ => simp [wsT, updI_app, rowI_out] | 1, _ => simp [wsT, updI_app, rowI_out] | 2, _ => simp [wsT, updI_app, rowI_out]) (by match j, hj with | 0, _ => simp [wsT, updI_app, rowI_out] | 1, _ => simp [wsT, updI_app, rowI_out] | 2, _ => simp [wsT, updI_app, rowI_out]) h0 h8)
  rwa [show 1 + 12 * j + (4 + i.toNat) = 5 + 12 * j + i.toNat by omega] at h
theorem wp_fou2 {j : Nat} (hj : j < 3) {i : Int} (h0 : 0 ≤ i) (h8 : i < 8) {v : Int} : (wsX G a x).set (5 + 12 * j + i.toNat) (a (5 + 12 * j + i.toNat), .inr (0, ([vI (x j (21 + 5 * i)), vI (x j (21 + 5 * i + 1)), vI (x j (21 + 5 * i + 2)), vI (x j (21 + 5 * i + 3)), vI (x j (21 + 5 * i + 4))] : List Value).set 2 (vI v))) = wsX G a (setc x j (updI (x j) (21 + 5 * i + 2) v)) := by
  have h := wx_setT (G := G) (a := a) (x := x) (k := 4 + i.toNat) (e := (a (5 + 12 * j + i.toNat), .inr (0, ([vI (x j (21 + 5 * i)), vI (x j (21 + 5 * i + 1)), vI (x j (21 + 5 * i + 2)), vI (x j (21 + 5 * i + 3)), vI (x j (21 + 5 * i + 4))] : List Value).set 2 (vI v)))) hj (by omega) (i8 (P := fun i => (wsT G a (1 + 12 * j) (x j)).set (4 + i.toNat) (a (5 + 12 * j + i.toNat), .inr (0, ([vI (x j (21 + 5 * i)), vI (x j (21 + 5 * i + 1)), vI (x j (21 + 5 * i + 2)), vI (x j (21 + 5 * i + 3)), vI (x j (21 + 5 * i + 4))] : List Value).set 2 (vI v))) = wsT G a (1 + 12 * j) (updI (x j) (21 + 5 * i + 2) v)) (by match j, hj with | 0, _ => simp [wsT, updI_app, rowI_out] | 1, _ => simp [wsT, updI_app, rowI_out] | 2, _ => simp [wsT, updI_app, rowI_out]) (by match j, hj with | 0, _ => simp [wsT, updI_app, rowI_out] | 1, _ => simp [wsT, updI_app, rowI_out] | 2, _ => simp [wsT, updI_app, rowI_out]) (by match j, hj with | 0, _ => simp [wsT, updI_app, rowI_out] | 1, _ => simp [wsT, updI_app, rowI_out] | 2, _ => simp [wsT, updI_app, rowI_out]) (by match j, hj with | 0, _ => simp [wsT, updI_app, rowI_out] | 1, _ => simp [wsT, updI_app, rowI_out] | 2, _ => simp [wsT, updI_app, rowI_out]) (by match j, hj with | 0, _ => simp [wsT, updI_app, rowI_out] | 1, _ => simp [wsT, updI_app, rowI_out] | 2, _ => simp [wsT, updI_app, rowI_out]) (by match j, hj with | 0, _ => simp [wsT, updI_app, rowI_out] | 1, _ => simp [wsT, updI_app, rowI_out] | 2, _ => simp [wsT, updI_app, rowI_out]) (by match j, hj with | 0, _ => simp [wsT, updI_app, rowI_out] | 1, _ => simp [wsT, updI_app, rowI_out] | 2, _ => simp [wsT, updI_app, rowI_out]) (by match j, hj with | 0, _ => simp [wsT, updI_app, rowI_out] | 1, _ => simp [wsT, updI_app, rowI_out] | 2, _ => simp [wsT, updI_app, rowI_out]) h0 h8)
  rwa [show 1 + 12 * j + (4 + i.toNat) = 5 + 12 * j + i.toNat by omega] at h
theorem wp_fou3 {j : Nat} (hj : j < 3) {i : Int} (h0 : 0 ≤ i) (h8 : i < 8) {v : Int} : (wsX G a x).set (5 + 12 * j + i.toNat) (a (5 + 12 * j + i.toNat), .inr (0, ([vI (x j (21 + 5 * i)), vI (x j (21 + 5 * i + 1)), vI (x j (21 + 5 * i + 2)), vI (x j (21 + 5 * i + 3)), vI (x j (21 + 5 * i + 4))] : List Value).set 3 (vI v))) = wsX G a (setc x j (updI (x j) (21 + 5 * i + 3) v)) := by
  have h := wx_setT (G := G) (a := a) (x := x) (k := 4 + i.toNat) (e := (a (5 + 12 * j + i.toNat), .inr (0, ([vI (x j (21 + 5 * i)), vI (x j (21 + 5 * i + 1)), vI (x j (21 + 5 * i + 2)), vI (x j (21 + 5 * i + 3)), vI (x j (21 + 5 * i + 4))] : List Value).set 3 (vI v)))) hj (by omega) (i8 (P := fun i => (wsT G a (1 + 12 * j) (x j)).set (4 + i.toNat) (a (5 + 12 * j + i.toNat), .inr (0, ([vI (x j (21 + 5 * i)), vI (x j (21 + 5 * i + 1)), vI (x j (21 + 5 * i + 2)), vI (x j (21 + 5 * i + 3)), vI (x j (21 + 5 * i + 4))] : List Value).set 3 (vI v))) = wsT G a (1 + 12 * j) (updI (x j) (21 + 5 * i + 3) v)) (by match j, hj with | 0, _ => simp [wsT, updI_app, rowI_out] | 1, _ => simp [wsT, updI_app, rowI_out] | 2, _ => simp [wsT, updI_app, rowI_out]) (by match j, hj with | 0, _ => simp [wsT, updI_app, rowI_out] | 1, _ => simp [wsT, updI_app, rowI_out] | 2, _ => simp [wsT, updI_app, rowI_out]) (by match j, hj with | 0, _ => simp [wsT, updI_app, rowI_out] | 1, _ => simp [wsT, updI_app, rowI_out] | 2, _ => simp [wsT, updI_app, rowI_out]) (by match j, hj with | 0, _ => simp [wsT, updI_app, rowI_out] | 1, _ => simp [wsT, updI_app, rowI_out] | 2, _ => simp [wsT, updI_app, rowI_out]) (by match j, hj with | 0, _ => simp [wsT, updI_app, rowI_out] | 1, _ => simp [wsT, updI_app, rowI_out] | 2, _ => simp [wsT, updI_app, rowI_out]) (by match j, hj with | 0, _ => simp [wsT, updI_app, rowI_out] | 1, _ => simp [wsT, updI_app, rowI_out] | 2, _ => simp [wsT, updI_app, rowI_out]) (by match j, hj with | 0, _ => simp [wsT, updI_app, rowI_out] | 1, _ => simp [wsT, updI_app, rowI_out] | 2, _ => simp [wsT, updI_app, rowI_out]) (by match j, hj with | 0, _ => simp [wsT, updI_app, rowI_out] | 1, _ => simp [wsT, updI_app, rowI_out] | 2, _ => simp [wsT, updI_app, rowI_out]) h0 h8)
  rwa [show 1 + 12 * j + (4 + i.toNat) = 5 + 12 * j + i.toNat by omega] at h
theorem wp_fou4 {j : Nat} (hj : j < 3) {i : Int} (h0 : 0 ≤ i) (h8 : i < 8) {v : Int} : (wsX G a x).set (5 + 12 * j + i.toNat) (a (5 + 12 * j + i.toNat), .inr (0, ([vI (x j (21 + 5 * i)), vI (x j (21 + 5 * i + 1)), vI (x j (21 + 5 * i + 2)), vI (x j (21 + 5 * i + 3)), vI (x j (21 + 5 * i + 4))] : List Value).set 4 (vI v))) = wsX G a (setc x j (updI (x j) (21 + 5 * i + 4) v)) := by
  have h := wx_setT (G := G) (a := a) (x := x) (k := 4 + i.toNat) (e := (a (5 + 12 * j + i.toNat), .inr (0, ([vI (x j (21 + 5 * i)), vI (x j (21 + 5 * i + 1)), vI (x j (21 + 5 * i + 2)), vI (x j (21 + 5 * i + 3)), vI (x j (21 + 5 * i + 4))] : List Value).set 4 (vI v)))) hj (by omega) (i8 (P := fun i => (wsT G a (1 + 12 * j) (x j)).set (4 + i.toNat) (a (5 + 12 * j + i.toNat), .inr (0, ([vI (x j (21 + 5 * i)), vI (x j (21 + 5 * i + 1)), vI (x j (21 + 5 * i + 2)), vI (x j (21 + 5 * i + 3)), vI (x j (21 + 5 * i + 4))] : List Value).set 4 (vI v))) = wsT G a (1 + 12 * j) (updI (x j) (21 + 5 * i + 4) v)) (by match j, hj with | 0, _ => simp [wsT, updI_app, rowI_out] | 1, _ => simp [wsT, updI_app, rowI_out] | 2, _ => simp [wsT, updI_app, rowI_out]) (by match j, hj with | 0, _ => simp [wsT, updI_app, rowI_out] | 1, _ => simp [wsT, updI_app, rowI_out] | 2, _ => simp [wsT, updI_app, rowI_out]) (by match j, hj with | 0, _ => simp [wsT, updI_app, rowI_out] | 1, _ => simp [wsT, updI_app, rowI_out] | 2, _ => simp [wsT, updI_app, rowI_out]) (by match j, hj with | 0, _ => simp [wsT, updI_app, rowI_out] | 1, _ => simp [wsT, updI_app, rowI_out] | 2, _ => simp [wsT, updI_app, rowI_out]) (by match j, hj with | 0, _ => simp [wsT, updI_app, rowI_out] | 1, _ => simp [wsT, updI_app, rowI_out] | 2, _ => simp [wsT, updI_app, rowI_out]) (by match j, hj with | 0, _ => simp [wsT, updI_app, rowI_out] | 1, _ => simp [wsT, updI_app, rowI_out] | 2, _ => simp [wsT, updI_app, rowI_out]) (by match j, hj with | 0, _ => simp [wsT, updI_app, rowI_out] | 1, _ => simp [wsT, updI_app, rowI_out] | 2, _ => simp [wsT, updI_app, rowI_out]) (by match j, hj with | 0, _ => simp [wsT, updI_app, rowI_out] | 1, _ => simp [wsT, updI_app, rowI_out] | 2, _ => simp [wsT, updI_app, rowI_out]) h0 h8)
  rwa [show 1 + 12 * j + (4 + i.toNat) = 5 + 12 * j + i.toNat by omega] at h
theorem wp_rain {j : Nat} (hj : j < 3) {i : Int} (h0 : 0 ≤ i) (h8 : i < 8) {v : Int} : (wsX G a x).set (2 + 12 * j) (a (2 + 12 * j), .inl (G.2.1 0, 8, .inl (upd (rowI (x j) 5 8) i.toNat (iI v)))) = wsX G a (setc x j (updI (x j) (5 + i) v)) := by
  rw [rowI_upd h0 (by omega)]
  have h := wx_setT (G := G) (a := a) (x := x) (k := 1) (e := (a (2 + 12 * j), .inl (G.2.1 0, 8, .inl (rowI (updI (x j) (5 + i) v) 5 8)))) (t := updI (x j) (5 + i) v) hj (by omega) (i8 (P := fun i => (wsT G a (1 + 12 * j) (x j)).set 1 (a (2 + 12 * j), .inl (G.2.1 0, 8, .inl (rowI (updI (x j) (5 + i) v) 5 8))) = wsT G a (1 + 12 * j) (updI (x j) (5 + i) v)) (by match j, hj with | 0, _ => simp [wsT, updI_app, rowI_out] | 1, _ => simp [wsT, updI_app, rowI_out] | 2, _ => simp [wsT, updI_app, rowI_out]) (by match j, hj with | 0, _ => simp [wsT, updI_app, rowI_out] | 1, _ => simp [wsT, updI_app, rowI_out] | 2, _ => simp [wsT, updI_app, rowI_out]) (by match j, hj with | 0, _ => simp [wsT, updI_app, rowI_out] | 1, _ => simp [wsT, updI_app, rowI_out] | 2, _ => simp [wsT, updI_app, rowI_out]) (by match j, hj with | 0, _ => simp [wsT, updI_app, rowI_out] | 1, _ => simp [wsT, updI_app, rowI_out] | 2, _ => simp [wsT, updI_app, rowI_out]) (by match j, hj with | 0, _ => simp [wsT, updI_app, rowI_out] | 1, _ => simp [wsT, updI_app, rowI_out] | 2, _ => simp [wsT, updI_app, rowI_out]) (by match j, hj with | 0, _ => simp [wsT, updI_app, rowI_out] | 1, _ => simp [wsT, updI_app, rowI_out] | 2, _ => simp [wsT, updI_app, rowI_out]) (by match j, hj with | 0, _ => simp [wsT, updI_app, rowI_out] | 1, _ => simp [wsT, updI_app, rowI_out] | 2, _ => simp [wsT, updI_app, rowI_out]) (by match j, hj with | 0, _ => simp [wsT, updI_app, rowI_out] | 1, _ => simp [wsT, updI_app, rowI_out] | 2, _ => simp [wsT, updI_app, rowI_out]) h0 h8)
  rwa [show 1 + 12 * j + 1 = 2 + 12 * j by omega] at h
theorem wp_cold {j : Nat} (hj : j < 3) {i : Int} (h0 : 0 ≤ i) (h8 : i < 8) {v : Int} : (wsX G a x).set (3 + 12 * j) (a (3 + 12 * j), .inl (G.2.1 0, 8, .inl (upd (rowI (x j) 13 8) i.toNat (iI v)))) = wsX G a (setc x j (updI (x j) (13 + i) v)) := by
  rw [rowI_upd h0 (by omega)]
  have h := wx_setT (G := G) (a := a) (x := x) (k := 2) (e := (a (3 + 12 * j), .inl (G.2.1 0, 8, .inl (rowI (updI (x j) (13 + i) v) 13 8)))) (t := updI (x j) (13 + i) v) hj (by omega) (i8 (P := fun i => (wsT G a (1 + 12 * j) (x j)).set 2 (a (3 + 12 * j), .inl (G.2.1 0, 8, .inl (rowI (updI (x j) (13 + i) v) 13 8))) = wsT G a (1 + 12 * j) (updI (x j) (13 + i) v)) (by match j, hj with | 0, _ => simp [wsT, updI_app, rowI_out] | 1, _ => simp [wsT, updI_app, rowI_out] | 2, _ => simp [wsT, updI_app, rowI_out]) (by match j, hj with | 0, _ => simp [wsT, updI_app, rowI_out] | 1, _ => simp [wsT, updI_app, rowI_out] | 2, _ => simp [wsT, updI_app, rowI_out]) (by match j, hj with | 0, _ => simp [wsT, updI_app, rowI_out] | 1, _ => simp [wsT, updI_app, rowI_out] | 2, _ => simp [wsT, updI_app, rowI_out]) (by match j, hj with | 0, _ => simp [wsT, updI_app, rowI_out] | 1, _ => simp [wsT, updI_app, rowI_out] | 2, _ => simp [wsT, updI_app, rowI_out]) (by match j, hj with | 0, _ => simp [wsT, updI_app, rowI_out] | 1, _ => simp [wsT, updI_app, rowI_out] | 2, _ => simp [wsT, updI_app, rowI_out]) (by match j, hj with | 0, _ => simp [wsT, updI_app, rowI_out] | 1, _ => simp [wsT, updI_app, rowI_out] | 2, _ => simp [wsT, updI_app, rowI_out]) (by match j, hj with | 0, _ => simp [wsT, updI_app, rowI_out] | 1, _ => simp [wsT, updI_app, rowI_out] | 2, _ => simp [wsT, updI_app, rowI_out]) (by match j, hj with | 0, _ => simp [wsT, updI_app, rowI_out] | 1, _ => simp [wsT, updI_app, rowI_out] | 2, _ => simp [wsT, updI_app, rowI_out]) h0 h8)
  rwa [show 1 + 12 * j + 2 = 3 + 12 * j by omega] at h
end WLD
end
section
/-! the worlds: the class's other cells; the reference's cells -/
section WLR
variable {G : GT} {a : Nat → Nat} {x : MS}
theorem i4 {P : Int → Prop} (h0 : P 0) (h1 : P 1) (h2 : P 2) (h3 : P 3) {i : Int} (hi : 0 ≤ i) (h8 : i < 4) : P i := by
  rcases (show i = 0 ∨ i = 1 ∨ i = 2 ∨ i = 3 by omega) with h | h | h | h <;> rw [h] <;> assumption
theorem wx_setR {k : Nat} {e : Nat × va_E} {y : MS} (h : (wsR G a x).set k e = wsR G a y) (h0 : y 0 = x 0) (h1 : y 1 = x 1) (h2 : y 2 = x 2) (h9 : y 9 0 = x 9 0) : (wsX G a x).set (37 + k) e = wsX G a y := by
  have hl : ∀ b t, (wsT G a b t).length = 12 := fun _ _ => rfl
  have h3 : (wsX G a x).set (37 + k) e = wsH a (x 9 0) :: (wsT G a 1 (x 0) ++ (wsT G a 13 (x 1) ++ (wsT G a 25 (x 2) ++ wsR G a x))).set (12 + (12 + (12 + k))) e := by
    rw [show 37 + k = (12 + (12 + (12 + k))) + 1 by omega]; rfl
  rw [h3, set_r (hl _ _), set_r (hl _ _), set_r (hl _ _), h]
  show _ = wsH a (y 9 0) :: (wsT G a 1 (y 0) ++ (wsT G a 13 (y 1) ++ (wsT G a 25 (y 2) ++ wsR G a y)))
  rw [h0, h1, h2, h9]
theorem wx_obj : (wsX G a x)[0]? = some (a 0, .inr (5, [.ref (a 1), .ref (a 13), .ref (a 25), vI (x 9 0), .ref (a 37), .ref (a 39), .ref (a 40), .ref (a 49)])) := rfl
theorem wx_tape : (wsX G a x)[37]? = some (a 37, .inr (2, [.ref (a 38), vI (x 9 1)])) := rfl
theorem wx_byts : (wsX G a x)[38]? = some (a 38, .inl (G.2.1 0, 120, .inl (rowI (x 3) 0 120))) := rfl
theorem wx_read : (wsX G a x)[39]? = some (a 39, .inr (3, [.ref (a 37), vI (x 9 2), vI (x 9 3), vI (x 9 4), vI (x 9 5), vI (x 9 6)])) := rfl
theorem wx_shts : (wsX G a x)[40]? = some (a 40, .inl (G.2.1 3, 4, .inr (.inr (.inr (.inr (fun i => some (a (41 + 2 * i)))))))) := rfl
theorem wx_sht {i : Int} (h0 : 0 ≤ i) (h4 : i < 4) : (wsX G a x)[41 + 2 * i.toNat]? = some (a (41 + 2 * i.toNat), .inr (1, [vI (x 9 (7 + 2 * i)), vI (x 9 (8 + 2 * i)), .ref (a (42 + 2 * i.toNat))])) := i4 (P := fun i => (wsX G a x)[41 + 2 * i.toNat]? = some (a (41 + 2 * i.toNat), .inr (1, [vI (x 9 (7 + 2 * i)), vI (x 9 (8 + 2 * i)), .ref (a (42 + 2 * i.toNat))]))) rfl rfl rfl rfl h0 h4
theorem wx_nums {i : Int} (h0 : 0 ≤ i) (h4 : i < 4) : (wsX G a x)[42 + 2 * i.toNat]? = some (a (42 + 2 * i.toNat), .inl (G.2.1 1, 40, .inr (.inl (rowL (x (5 + i.toNat)) 0 40)))) := i4 (P := fun i => (wsX G a x)[42 + 2 * i.toNat]? = some (a (42 + 2 * i.toNat), .inl (G.2.1 1, 40, .inr (.inl (rowL (x (5 + i.toNat)) 0 40))))) rfl rfl rfl rfl h0 h4
theorem wx_taly : (wsX G a x)[49]? = some (a 49, .inl (G.2.1 0, 7, .inl (rowI (x 4) 0 7))) := rfl
theorem wp_keeps {v : Int} : (wsX G a x).set 0 (a 0, .inr (5, ([.ref (a 1), .ref (a 13), .ref (a 25), vI (x 9 0), .ref (a 37), .ref (a 39), .ref (a 40), .ref (a 49)] : List Value).set 3 (vI v))) = wsX G a (setc x 9 (updI (x 9) 0 v)) := by simp [wsX, wsH, wsR, setc_app, updI_app]
theorem wp_tlen {v : Int} : (wsX G a x).set 37 (a 37, .inr (2, ([.ref (a 38), vI (x 9 1)] : List Value).set 1 (vI v))) = wsX G a (setc x 9 (updI (x 9) 1 v)) := wx_setR (k := 37 - 37) (by simp [wsR, setc_app, updI_app]) (by simp [setc_app]) (by simp [setc_app]) (by simp [setc_app]) (by simp [setc_app, updI_app])
theorem wp_read1 {v : Int} : (wsX G a x).set 39 (a 39, .inr (3, ([.ref (a 37), vI (x 9 2), vI (x 9 3), vI (x 9 4), vI (x 9 5), vI (x 9 6)] : List Value).set 1 (vI v))) = wsX G a (setc x 9 (updI (x 9) 2 v)) := wx_setR (k := 39 - 37) (by simp [wsR, setc_app, updI_app]) (by simp [setc_app]) (by simp [setc_app]) (by simp [setc_app]) (by simp [setc_app, updI_app])
theorem wp_read2 {v : Int} : (wsX G a x).set 39 (a 39, .inr (3, ([.ref (a 37), vI (x 9 2), vI (x 9 3), vI (x 9 4), vI (x 9 5), vI (x 9 6)] : List Value).set 2 (vI v))) = wsX G a (setc x 9 (updI (x 9) 3 v)) := wx_setR (k := 39 - 37) (by simp [wsR, setc_app, updI_app]) (by simp [setc_app]) (by simp [setc_app]) (by simp [setc_app]) (by simp [setc_app, updI_app])
theorem wp_read3 {v : Int} : (wsX G a x).set 39 (a 39, .inr (3, ([.ref (a 37), vI (x 9 2), vI (x 9 3), vI (x 9 4), vI (x 9 5), vI (x 9 6)] : List Value).set 3 (vI v))) = wsX G a (setc x 9 (updI (x 9) 4 v)) := wx_setR (k := 39 - 37) (by simp [wsR, setc_app, updI_app]) (by simp [setc_app]) (by simp [setc_app]) (by simp [setc_app]) (by simp [setc_app, updI_app])
theorem wp_read4 {v : Int} : (wsX G a x).set 39 (a 39, .inr (3, ([.ref (a 37), vI (x 9 2), vI (x 9 3), vI (x 9 4), vI (x 9 5), vI (x 9 6)] : List Value).set 4 (vI v))) = wsX G a (setc x 9 (updI (x 9) 5 v)) := wx_setR (k := 39 - 37) (by simp [wsR, setc_app, updI_app]) (by simp [setc_app]) (by simp [setc_app]) (by simp [setc_app]) (by simp [setc_app, updI_app])
theorem wp_read5 {v : Int} : (wsX G a x).set 39 (a 39, .inr (3, ([.ref (a 37), vI (x 9 2), vI (x 9 3), vI (x 9 4), vI (x 9 5), vI (x 9 6)] : List Value).set 5 (vI v))) = wsX G a (setc x 9 (updI (x 9) 6 v)) := wx_setR (k := 39 - 37) (by simp [wsR, setc_app, updI_app]) (by simp [setc_app]) (by simp [setc_app]) (by simp [setc_app]) (by simp [setc_app, updI_app])
theorem wp_sht0 {i : Int} (h0 : 0 ≤ i) (h4 : i < 4) {v : Int} : (wsX G a x).set (41 + 2 * i.toNat) (a (41 + 2 * i.toNat), .inr (1, ([vI (x 9 (7 + 2 * i)), vI (x 9 (8 + 2 * i)), .ref (a (42 + 2 * i.toNat))] : List Value).set 0 (vI v))) = wsX G a (setc x 9 (updI (x 9) (7 + 2 * i) v)) := i4 (P := fun i => (wsX G a x).set (41 + 2 * i.toNat) (a (41 + 2 * i.toNat), .inr (1, ([vI (x 9 (7 + 2 * i)), vI (x 9 (8 + 2 * i)), .ref (a (42 + 2 * i.toNat))] : List Value).set 0 (vI v))) = wsX G a (setc x 9 (updI (x 9) (7 + 2 * i) v))) (wx_setR (k := 4) (by simp [wsR, setc_app, updI_app]) (by simp [setc_app]) (by simp [setc_app]) (by simp [setc_app]) (by simp [setc_app, updI_app])) (wx_setR (k := 6) (by simp [wsR, setc_app, updI_app]) (by simp [setc_app]) (by simp [setc_app]) (by simp [setc_app]) (by simp [setc_app, updI_app])) (wx_setR (k := 8) (by simp [wsR, setc_app, updI_app]) (by simp [setc_app]) (by simp [setc_app]) (by simp [setc_app]) (by simp [setc_app, updI_app])) (wx_setR (k := 10) (by simp [wsR, setc_app, updI_app]) (by simp [setc_app]) (by simp [setc_app]) (by simp [setc_app]) (by simp [setc_app, updI_app])) h0 h4
theorem wp_sht1 {i : Int} (h0 : 0 ≤ i) (h4 : i < 4) {v : Int} : (wsX G a x).set (41 + 2 * i.toNat) (a (41 + 2 * i.toNat), .inr (1, ([vI (x 9 (7 + 2 * i)), vI (x 9 (8 + 2 * i)), .ref (a (42 + 2 * i.toNat))] : List Value).set 1 (vI v))) = wsX G a (setc x 9 (updI (x 9) (8 + 2 * i) v)) := i4 (P := fun i => (wsX G a x).set (41 + 2 * i.toNat) (a (41 + 2 * i.toNat), .inr (1, ([vI (x 9 (7 + 2 * i)), vI (x 9 (8 + 2 * i)), .ref (a (42 + 2 * i.toNat))] : List Value).set 1 (vI v))) = wsX G a (setc x 9 (updI (x 9) (8 + 2 * i) v))) (wx_setR (k := 4) (by simp [wsR, setc_app, updI_app]) (by simp [setc_app]) (by simp [setc_app]) (by simp [setc_app]) (by simp [setc_app, updI_app])) (wx_setR (k := 6) (by simp [wsR, setc_app, updI_app]) (by simp [setc_app]) (by simp [setc_app]) (by simp [setc_app]) (by simp [setc_app, updI_app])) (wx_setR (k := 8) (by simp [wsR, setc_app, updI_app]) (by simp [setc_app]) (by simp [setc_app]) (by simp [setc_app]) (by simp [setc_app, updI_app])) (wx_setR (k := 10) (by simp [wsR, setc_app, updI_app]) (by simp [setc_app]) (by simp [setc_app]) (by simp [setc_app]) (by simp [setc_app, updI_app])) h0 h4
theorem wp_nums {s : Int} (h0 : 0 ≤ s) (h4 : s < 4) {i v : Int} (hi : 0 ≤ i) (hj : i < 40) : (wsX G a x).set (42 + 2 * s.toNat) (a (42 + 2 * s.toNat), .inl (G.2.1 1, 40, .inr (.inl (vp_updL (rowL (x (5 + s.toNat)) 0 40) i.toNat (lI v))))) = wsX G a (setc x (5 + s.toNat) (updI (x (5 + s.toNat)) i v)) := by
  rw [rowL_upd hi (by omega), Int.zero_add]
  exact i4 (P := fun s => (wsX G a x).set (42 + 2 * s.toNat) (a (42 + 2 * s.toNat), .inl (G.2.1 1, 40, .inr (.inl (rowL (updI (x (5 + s.toNat)) i v) 0 40)))) = wsX G a (setc x (5 + s.toNat) (updI (x (5 + s.toNat)) i v))) (wx_setR (k := 5) (by simp [wsR, setc_app]) (by simp [setc_app]) (by simp [setc_app]) (by simp [setc_app]) (by simp [setc_app])) (wx_setR (k := 7) (by simp [wsR, setc_app]) (by simp [setc_app]) (by simp [setc_app]) (by simp [setc_app]) (by simp [setc_app])) (wx_setR (k := 9) (by simp [wsR, setc_app]) (by simp [setc_app]) (by simp [setc_app]) (by simp [setc_app]) (by simp [setc_app])) (wx_setR (k := 11) (by simp [wsR, setc_app]) (by simp [setc_app]) (by simp [setc_app]) (by simp [setc_app]) (by simp [setc_app])) h0 h4
theorem wp_byts {i v : Int} (hi : 0 ≤ i) (hj : i < 120) : (wsX G a x).set 38 (a 38, .inl (G.2.1 0, 120, .inl (upd (rowI (x 3) 0 120) i.toNat (iI v)))) = wsX G a (setc x 3 (updI (x 3) i v)) := by
  rw [rowI_upd hi (by omega), Int.zero_add]
  exact wx_setR (k := 1) (by simp [wsR, setc_app]) (by simp [setc_app]) (by simp [setc_app]) (by simp [setc_app]) (by simp [setc_app])
theorem wp_taly {i v : Int} (hi : 0 ≤ i) (hj : i < 7) : (wsX G a x).set 49 (a 49, .inl (G.2.1 0, 7, .inl (upd (rowI (x 4) 0 7) i.toNat (iI v)))) = wsX G a (setc x 4 (updI (x 4) i v)) := by
  rw [rowI_upd hi (by omega), Int.zero_add]
  exact wx_setR (k := 12) (by simp [wsR, setc_app]) (by simp [setc_app]) (by simp [setc_app]) (by simp [setc_app]) (by simp [setc_app])
end WLR
section WLM
variable {G : GT} {b : Nat → Nat} {y : MS}
theorem wm_obj : (wsM G b y)[0]? = some (b 0, .inr (6, [.ref (b 1), .ref (b 2), .ref (b 3), vI (y 8 0), .ref (b 4), .ref (b 5), vI (y 8 1), vI (y 8 2), vI (y 8 3), vI (y 8 4), vI (y 8 5), vI (y 8 6), .ref (b 6), .ref (b 7), .ref (b 8)])) := rfl
theorem wm_m : (wsM G b y)[1]? = some (b 1, .inl (G.2.1 0, 61, .inl (rowI (y 0) 0 61))) := rfl
theorem wq_m {i v : Int} (hi : 0 ≤ i) (hj : i < 61) : (wsM G b y).set 1 (b 1, .inl (G.2.1 0, 61, .inl (upd (rowI (y 0) 0 61) i.toNat (iI v)))) = wsM G b (setc y 0 (updI (y 0) i v)) := by
  rw [rowI_upd hi (by omega), Int.zero_add]
  simp [wsM, setc_app]
theorem wm_kept : (wsM G b y)[2]? = some (b 2, .inl (G.2.1 0, 61, .inl (rowI (y 1) 0 61))) := rfl
theorem wq_kept {i v : Int} (hi : 0 ≤ i) (hj : i < 61) : (wsM G b y).set 2 (b 2, .inl (G.2.1 0, 61, .inl (upd (rowI (y 1) 0 61) i.toNat (iI v)))) = wsM G b (setc y 1 (updI (y 1) i v)) := by
  rw [rowI_upd hi (by omega), Int.zero_add]
  simp [wsM, setc_app]
theorem wm_was : (wsM G b y)[3]? = some (b 3, .inl (G.2.1 0, 61, .inl (rowI (y 2) 0 61))) := rfl
theorem wq_was {i v : Int} (hi : 0 ≤ i) (hj : i < 61) : (wsM G b y).set 3 (b 3, .inl (G.2.1 0, 61, .inl (upd (rowI (y 2) 0 61) i.toNat (iI v)))) = wsM G b (setc y 2 (updI (y 2) i v)) := by
  rw [rowI_upd hi (by omega), Int.zero_add]
  simp [wsM, setc_app]
theorem wm_found : (wsM G b y)[4]? = some (b 4, .inl (G.2.1 0, 7, .inl (rowI (y 3) 0 7))) := rfl
theorem wq_found {i v : Int} (hi : 0 ≤ i) (hj : i < 7) : (wsM G b y).set 4 (b 4, .inl (G.2.1 0, 7, .inl (upd (rowI (y 3) 0 7) i.toNat (iI v)))) = wsM G b (setc y 3 (updI (y 3) i v)) := by
  rw [rowI_upd hi (by omega), Int.zero_add]
  simp [wsM, setc_app]
theorem wm_tape : (wsM G b y)[5]? = some (b 5, .inl (G.2.1 0, 120, .inl (rowI (y 4) 0 120))) := rfl
theorem wq_tape {i v : Int} (hi : 0 ≤ i) (hj : i < 120) : (wsM G b y).set 5 (b 5, .inl (G.2.1 0, 120, .inl (upd (rowI (y 4) 0 120) i.toNat (iI v)))) = wsM G b (setc y 4 (updI (y 4) i v)) := by
  rw [rowI_upd hi (by omega), Int.zero_add]
  simp [wsM, setc_app]
theorem wm_bits : (wsM G b y)[6]? = some (b 6, .inl (G.2.1 0, 4, .inl (rowI (y 5) 0 4))) := rfl
theorem wq_bits {i v : Int} (hi : 0 ≤ i) (hj : i < 4) : (wsM G b y).set 6 (b 6, .inl (G.2.1 0, 4, .inl (upd (rowI (y 5) 0 4) i.toNat (iI v)))) = wsM G b (setc y 5 (updI (y 5) i v)) := by
  rw [rowI_upd hi (by omega), Int.zero_add]
  simp [wsM, setc_app]
theorem wm_size : (wsM G b y)[7]? = some (b 7, .inl (G.2.1 0, 4, .inl (rowI (y 6) 0 4))) := rfl
theorem wq_size {i v : Int} (hi : 0 ≤ i) (hj : i < 4) : (wsM G b y).set 7 (b 7, .inl (G.2.1 0, 4, .inl (upd (rowI (y 6) 0 4) i.toNat (iI v)))) = wsM G b (setc y 6 (updI (y 6) i v)) := by
  rw [rowI_upd hi (by omega), Int.zero_add]
  simp [wsM, setc_app]
theorem wm_cells : (wsM G b y)[8]? = some (b 8, .inl (G.2.1 1, 160, .inr (.inl (rowL (y 7) 0 160)))) := rfl
theorem wq_cells {i v : Int} (hi : 0 ≤ i) (hj : i < 160) : (wsM G b y).set 8 (b 8, .inl (G.2.1 1, 160, .inr (.inl (vp_updL (rowL (y 7) 0 160) i.toNat (lI v))))) = wsM G b (setc y 7 (updI (y 7) i v)) := by
  rw [rowL_upd hi (by omega), Int.zero_add]
  simp [wsM, setc_app]
theorem wq_obj3 {v : Int} : (wsM G b y).set 0 (b 0, .inr (6, ([.ref (b 1), .ref (b 2), .ref (b 3), vI (y 8 0), .ref (b 4), .ref (b 5), vI (y 8 1), vI (y 8 2), vI (y 8 3), vI (y 8 4), vI (y 8 5), vI (y 8 6), .ref (b 6), .ref (b 7), .ref (b 8)] : List Value).set 3 (vI v))) = wsM G b (setc y 8 (updI (y 8) 0 v)) := by simp [wsM, setc_app, updI_app]
theorem wq_obj6 {v : Int} : (wsM G b y).set 0 (b 0, .inr (6, ([.ref (b 1), .ref (b 2), .ref (b 3), vI (y 8 0), .ref (b 4), .ref (b 5), vI (y 8 1), vI (y 8 2), vI (y 8 3), vI (y 8 4), vI (y 8 5), vI (y 8 6), .ref (b 6), .ref (b 7), .ref (b 8)] : List Value).set 6 (vI v))) = wsM G b (setc y 8 (updI (y 8) 1 v)) := by simp [wsM, setc_app, updI_app]
theorem wq_obj7 {v : Int} : (wsM G b y).set 0 (b 0, .inr (6, ([.ref (b 1), .ref (b 2), .ref (b 3), vI (y 8 0), .ref (b 4), .ref (b 5), vI (y 8 1), vI (y 8 2), vI (y 8 3), vI (y 8 4), vI (y 8 5), vI (y 8 6), .ref (b 6), .ref (b 7), .ref (b 8)] : List Value).set 7 (vI v))) = wsM G b (setc y 8 (updI (y 8) 2 v)) := by simp [wsM, setc_app, updI_app]
theorem wq_obj8 {v : Int} : (wsM G b y).set 0 (b 0, .inr (6, ([.ref (b 1), .ref (b 2), .ref (b 3), vI (y 8 0), .ref (b 4), .ref (b 5), vI (y 8 1), vI (y 8 2), vI (y 8 3), vI (y 8 4), vI (y 8 5), vI (y 8 6), .ref (b 6), .ref (b 7), .ref (b 8)] : List Value).set 8 (vI v))) = wsM G b (setc y 8 (updI (y 8) 3 v)) := by simp [wsM, setc_app, updI_app]
theorem wq_obj9 {v : Int} : (wsM G b y).set 0 (b 0, .inr (6, ([.ref (b 1), .ref (b 2), .ref (b 3), vI (y 8 0), .ref (b 4), .ref (b 5), vI (y 8 1), vI (y 8 2), vI (y 8 3), vI (y 8 4), vI (y 8 5), vI (y 8 6), .ref (b 6), .ref (b 7), .ref (b 8)] : List Value).set 9 (vI v))) = wsM G b (setc y 8 (updI (y 8) 4 v)) := by simp [wsM, setc_app, updI_app]
theorem wq_obj10 {v : Int} : (wsM G b y).set 0 (b 0, .inr (6, ([.ref (b 1), .ref (b 2), .ref (b 3), vI (y 8 0), .ref (b 4), .ref (b 5), vI (y 8 1), vI (y 8 2), vI (y 8 3), vI (y 8 4), vI (y 8 5), vI (y 8 6), .ref (b 6), .ref (b 7), .ref (b 8)] : List Value).set 10 (vI v))) = wsM G b (setc y 8 (updI (y 8) 5 v)) := by simp [wsM, setc_app, updI_app]
theorem wq_obj11 {v : Int} : (wsM G b y).set 0 (b 0, .inr (6, ([.ref (b 1), .ref (b 2), .ref (b 3), vI (y 8 0), .ref (b 4), .ref (b 5), vI (y 8 1), vI (y 8 2), vI (y 8 3), vI (y 8 4), vI (y 8 5), vI (y 8 6), .ref (b 6), .ref (b 7), .ref (b 8)] : List Value).set 11 (vI v))) = wsM G b (setc y 8 (updI (y 8) 6 v)) := by simp [wsM, setc_app, updI_app]
theorem row0_at {t : Int → Int} {i : Int} {n : Nat} (h0 : 0 ≤ i) (h1 : i < n) : rowI t 0 n i.toNat = iI (t i) := by rw [rowI_at h0 h1, Int.zero_add]
theorem row0L_at {t : Int → Int} {i : Int} {n : Nat} (h0 : 0 ≤ i) (h1 : i < n) : rowL t 0 n i.toNat = lI (t i) := by rw [rowL_at h0 h1, Int.zero_add]
end WLM
end
section
/-! what the two systems compute, as plain functions of a town t: 0 DAY, 1 TANK, 2 DROUGHT, 3 PLENTY, 4 how many, 5.. RAIN, 13.. COLD, 21 + 5 i: KIND, HIGH, OFF, LOVED, STOOPED -/
theorem narZ {z : Int} (h : z = 0 ∨ z = 1) : narrow .boolean (vI z) = vI z := by rcases h with h | h <;> rw [h] <;> rfl
theorem fitZ {z : Int} (h : z = 0 ∨ z = 1) : fits .boolean (vI z) = true := by rcases h with h | h <;> rw [h] <;> rfl
def VF (t : Int → Int) (i : Int) : Prop := (0 ≤ t (21 + 5 * i) ∧ t (21 + 5 * i) ≤ 5) ∧ (1 ≤ t (21 + 5 * i + 1) ∧ t (21 + 5 * i + 1) ≤ 40) ∧ (0 ≤ t (21 + 5 * i + 2) ∧ t (21 + 5 * i + 2) ≤ 1) ∧ (0 ≤ t (21 + 5 * i + 3) ∧ t (21 + 5 * i + 3) ≤ 99) ∧ (0 ≤ t (21 + 5 * i + 4) ∧ t (21 + 5 * i + 4) ≤ 9999)
def VT (d : Int) (t : Int → Int) : Prop := (0 ≤ t 0 ∧ t 0 ≤ d) ∧ (0 ≤ t 1 ∧ t 1 ≤ 9999) ∧ (0 ≤ t 2 ∧ t 2 ≤ 9999) ∧ (0 ≤ t 3 ∧ t 3 ≤ 9999) ∧ (0 ≤ t 4 ∧ t 4 ≤ 8) ∧ (∀ k, 0 ≤ k → k < 8 → 0 ≤ t (5 + k) ∧ t (5 + k) ≤ 99) ∧ (∀ k, 0 ≤ k → k < 8 → 0 ≤ t (13 + k) ∧ t (13 + k) ≤ 1) ∧ ∀ i, 0 ≤ i → i < t 4 → VF t i
def weekP (t : Int → Int) : Int := t 0 / 7 % 8
def coldP (t : Int → Int) : Int := if t (13 + weekP t) = 1 then 1 else 0
def goP (t : Int → Int) (i : Int) : Int :=
  if t (21 + 5 * i) = 1 then t (21 + 5 * i + 1) * 2 else if t (21 + 5 * i) = 2 then max 1 (t (21 + 5 * i + 1) / 2) else if t (21 + 5 * i) = 3 then 2 else if t (21 + 5 * i) = 4 then max 0 (t (21 + 5 * i + 1) * 2 - t (21 + 5 * i + 3) / 20) else if t (21 + 5 * i) = 5 then 1 else t (21 + 5 * i + 1)
def stillP (t : Int → Int) (i : Int) : Prop := t (21 + 5 * i + 2) = 1 ∧ t (21 + 5 * i) ≠ 5
def usesP (t : Int → Int) (i c : Int) : Int := if t (21 + 5 * i + 2) = 1 ∧ t (21 + 5 * i) ≠ 5 then 0 else if c = 1 then goP t i / 2 else goP t i
def soundP (t : Int → Int) (i : Int) : Int :=
  if t (21 + 5 * i) = 1 then t (21 + 5 * i + 1) + 10 else if t (21 + 5 * i) = 2 then t (21 + 5 * i + 1) / 2 + 5 else if t (21 + 5 * i) = 3 then 1 else if t (21 + 5 * i) = 4 then t (21 + 5 * i + 1) + 10 else if t (21 + 5 * i) = 5 then 1 + t (21 + 5 * i + 3) / 10 else t (21 + 5 * i + 1)
def heardP (t : Int → Int) (i : Int) : Int := if t (21 + 5 * i + 2) = 1 ∧ t (21 + 5 * i) ≠ 5 then 0 else soundP t i
def gainsP (t : Int → Int) (i c : Int) : Int :=
  if t (21 + 5 * i) = 1 then (if 30 < t (21 + 5 * i + 1) then 0 else if t (21 + 5 * i + 2) = 1 then -1 else 1)
  else if t (21 + 5 * i) = 2 then 1
  else if t (21 + 5 * i) = 3 then (if t (21 + 5 * i + 2) = 1 then -1 else 1) + (if c = 1 then 0 else 1)
  else if t (21 + 5 * i) = 4 then (if 30 < t (21 + 5 * i + 1) then 0 else if t (21 + 5 * i + 2) = 1 then -1 else 1) - 1
  else if t (21 + 5 * i) = 5 then max 0 ((if t (21 + 5 * i + 2) = 1 then -1 else 1) + (if c = 1 then 0 else 1))
  else if t (21 + 5 * i + 2) = 1 then -1 else 1
def givesP (t : Int → Int) (i : Int) : Int :=
  if t (21 + 5 * i) = 1 then t (21 + 5 * i + 1) - t (21 + 5 * i + 3) - 20 else if t (21 + 5 * i) = 3 then -200 - t (21 + 5 * i + 3) else if t (21 + 5 * i) = 4 then t (21 + 5 * i + 1) - t (21 + 5 * i + 3) - 15 else if t (21 + 5 * i) = 5 then -400 - t (21 + 5 * i + 3) else t (21 + 5 * i + 1) - t (21 + 5 * i + 3)
/-- sums over the first n -/
def sumP (f : Int → Int) : Nat → Int
  | 0 => 0
  | n + 1 => sumP f n + f n
def noiseP (t : Int → Int) : Int := sumP (heardP t) (t 4).toNat
def allUseP (t : Int → Int) : Int := sumP (fun i => usesP t i (coldP t)) (t 4).toNat
def stoopedP (t : Int → Int) : Int := sumP (fun i => t (21 + 5 * i + 4)) (t 4).toNat
def offsP (t : Int → Int) : Int := sumP (fun i => t (21 + 5 * i + 2) * 2 ^ i.toNat) (t 4).toNat
/-- of the first n that are on the one that gives way most, the least of several; -1: none -/
def mostP (t : Int → Int) : Nat → Int
  | 0 => -1
  | n + 1 => if t (21 + 5 * (n : Int) + 2) = 0 ∧ (mostP t n < 0 ∨ givesP t (mostP t n) < givesP t n) then n else mostP t n
def leastP (t : Int → Int) : Nat → Int
  | 0 => -1
  | n + 1 => if t (21 + 5 * (n : Int) + 2) = 1 ∧ (leastP t n < 0 ∨ givesP t n < givesP t (leastP t n)) then n else leastP t n
def stoopP (t : Int → Int) (i : Int) : Int → Int := updI (updI t (21 + 5 * i + 2) 1) (21 + 5 * i + 4) (min 9999 (t (21 + 5 * i + 4) + 1))
def committeeP (t : Int → Int) : Int → Int :=
  if t 1 < t 2 then (if mostP t (t 4).toNat = -1 then t else stoopP t (mostP t (t 4).toNat))
  else if t 3 ≤ t 1 then (if leastP t (t 4).toNat = -1 then t else updI t (21 + 5 * leastP t (t 4).toNat + 2) 0)
  else t
def flowP (c : Int) (t : Int → Int) (i : Int) : Int → Int :=
  if usesP t i c ≤ t 1 then updI t 1 (t 1 - usesP t i c) else if t (21 + 5 * i) = 5 then t else stoopP t i
def gainP (c : Int) (t : Int → Int) (i : Int) : Int → Int := updI t (21 + 5 * i + 3) (max 0 (min 99 (t (21 + 5 * i + 3) + gainsP t i c)))
def flowsP (c : Int) (t : Int → Int) : Nat → Int → Int
  | 0 => t
  | n + 1 => flowP c (flowsP c t n) n
def gainsAllP (c : Int) (t : Int → Int) : Nat → Int → Int
  | 0 => t
  | n + 1 => gainP c (gainsAllP c t n) n
def rainedP (t : Int → Int) : Int → Int := updI t 1 (min 9999 (t 1 + t (5 + weekP t)))
def eveP (t : Int → Int) : Int → Int := gainsAllP (coldP t) (flowsP (coldP t) (committeeP (rainedP t)) (t 4).toNat) (t 4).toNat
def dayP (t : Int → Int) : Int → Int := updI (eveP t) 0 (t 0 + 1)
def daysP : Nat → (Int → Int) → Int → Int
  | 0, t => t
  | n + 1, t => daysP n (dayP t)
end
section
/-! 10.m1: laid by the walker out of specM1 -/
set_option maxHeartbeats 4000000 in
theorem c_X6_it (l : Launch) (G : GT) (b : Nat → Nat) (y : MS) {f what : Int} (h1 : 0 ≤ f) (h2 : f < 8) (h3 : 0 ≤ what) (h4 : what < 5) : CtI l G yX6_it cX6_it 3 (some .int) 1 [.ref (b 0), vI f, vI what] (wsM G b y) ((y 0) (21 + 5 * f + what)) (wsM G b y) := by
  refine CtI.of (by decide) (Nat.le_of_ble_eq_true rfl) ?_
  intro p e s m args below meth c A E hr
  refine jx_lv (lv' := [(0, .ref (b 0)), (1, vI f), (2, vI what)]) [0, 1, 2] rfl ?_
  refine jx_aload_n E 0 dX6_it_0 rfl ?_
  refine jx_get E f_X6 0 (v := .ref (b 1)) wm_obj (by decide) wf_X6_9 rfl dX6_it_1 ?_
  refine jx_bipush E dX6_it_4 ?_
  refine jx_iconst E dX6_it_6 ?_
  refine jx_iload_n E 1 dX6_it_7 rfl ?_
  refine jx_imul E dX6_it_8 ?_
  refine jx_iadd E dX6_it_9 ?_
  refine jx_iload_n E 2 dX6_it_10 rfl ?_
  refine jx_iadd E dX6_it_11 ?_
  refine jx_iald E (v := (y 0) ((21 + (5 * f)) + what)) wm_m (row0_at (by omega) (by omega)) (by omega) (by omega) (by decide) dX6_it_12 ?_
  exact jx_iret E hr dX6_it_13 (by first | rfl | omega) (by first | rfl | (congr 1; done))
set_option maxHeartbeats 4000000 in
theorem c_X6_put (l : Launch) (G : GT) (b : Nat → Nat) (y : MS) {f what v : Int} (h1 : 0 ≤ f) (h2 : f < 8) (h3 : 0 ≤ what) (h4 : what < 5) : CtV l G yX6_put cX6_put 4 none 1 [.ref (b 0), vI f, vI what, vI v] (wsM G b y) (wsM G b (setc y 0 (updI (y 0) (21 + 5 * f + what) v))) := by
  refine CtV.of (by decide) (Nat.le_of_ble_eq_true rfl) ?_
  intro p e s m args below meth c A E hr
  refine jx_lv (lv' := [(0, .ref (b 0)), (1, vI f), (2, vI what), (3, vI v)]) [0, 1, 2, 3] rfl ?_
  refine jx_aload_n E 0 dX6_put_0 rfl ?_
  refine jx_get E f_X6 0 (v := .ref (b 1)) wm_obj (by decide) wf_X6_9 rfl dX6_put_1 ?_
  refine jx_bipush E dX6_put_4 ?_
  refine jx_iconst E dX6_put_6 ?_
  refine jx_iload_n E 1 dX6_put_7 rfl ?_
  refine jx_imul E dX6_put_8 ?_
  refine jx_iadd E dX6_put_9 ?_
  refine jx_iload_n E 2 dX6_put_10 rfl ?_
  refine jx_iadd E dX6_put_11 ?_
  refine jx_iload_n E 3 dX6_put_12 rfl ?_
  refine jx_iast E wm_m (wq_m (by omega) (by omega)) (by omega) (by omega) (by decide) dX6_put_13 ?_
  exact jx_vret E hr dX6_put_14 (by first | rfl | (congr 1; done))
set_option maxHeartbeats 4000000 in
theorem c_X6_weekNow (l : Launch) (G : GT) (b : Nat → Nat) (y : MS) (h1 : 0 ≤ y 0 0) (h2 : y 0 0 ≤ 2000000) : CtI l G yX6_weekNow cX6_weekNow 1 (some .int) 1 [.ref (b 0)] (wsM G b y) (weekP (y 0)) (wsM G b y) := by
  refine CtI.of (by decide) (Nat.le_of_ble_eq_true rfl) ?_
  intro p e s m args below meth c A E hr
  refine jx_lv (lv' := [(0, .ref (b 0))]) [0] rfl ?_
  refine jx_aload_n E 0 dX6_weekNow_0 rfl ?_
  refine jx_get E f_X6 0 (v := .ref (b 1)) wm_obj (by decide) wf_X6_9 rfl dX6_weekNow_1 ?_
  refine jx_iconst E dX6_weekNow_4 ?_
  refine jx_iald E (v := (y 0) 0) wm_m (row0_at (by omega) (by omega)) (by omega) (by omega) (by decide) dX6_weekNow_5 ?_
  refine jx_bipush E dX6_weekNow_6 ?_
  refine jx_idivp E dX6_weekNow_8 ?_
  refine jx_bipush E dX6_weekNow_9 ?_
  refine jx_iremp E dX6_weekNow_11 ?_
  exact jx_iret E hr dX6_weekNow_12 rfl (by first | rfl | (congr 1; done))
set_option maxHeartbeats 4000000 in
theorem c_X6_isCold (l : Launch) (G : GT) (b : Nat → Nat) (y : MS) (h1 : 0 ≤ y 0 0) (h2 : y 0 0 ≤ 2000000) (h3 : 0 ≤ y 0 (13 + weekP (y 0)) ∧ y 0 (13 + weekP (y 0)) ≤ 1) : CtI l G yX6_isCold cX6_isCold 1 (some .boolean) 2 [.ref (b 0)] (wsM G b y) (coldP (y 0)) (wsM G b y) := by
  have hw : 0 ≤ weekP (y 0) ∧ weekP (y 0) < 8 := by unfold weekP; omega
  refine CtI.of (by decide) (Nat.le_of_ble_eq_true rfl) ?_
  intro p e s m args below meth c A E hr
  refine jx_lv (lv' := [(0, .ref (b 0))]) [0] rfl ?_
  refine jx_aload_n E 0 dX6_isCold_0 rfl ?_
  refine jx_get E f_X6 0 (v := .ref (b 1)) wm_obj (by decide) wf_X6_9 rfl dX6_isCold_1 ?_
  refine jx_bipush E dX6_isCold_4 ?_
  refine jx_aload_n E 0 dX6_isCold_6 rfl ?_
  refine jx_callVi E [] [vI 13, .ref (b 1)] (c_X6_weekNow l G b y  (by omega) (by omega)) mb_X6_weekNow mv_X6_weekNow wl_X6_45 f_X6 wm_obj dX6_isCold_7 ?_
  refine jx_iadd E dX6_isCold_10 ?_
  refine jx_iald E (v := (y 0) (13 + (weekP (y 0)))) wm_m (row0_at (by omega) (by omega)) (by omega) (by omega) (by decide) dX6_isCold_11 ?_
  refine jx_iconst E dX6_isCold_12 ?_
  refine jx_icmp_ne (tgt := 20) E dX6_isCold_13 (by decide) (fun c1 => ?_) (fun c1 => ?_)
  · skip
    refine jx_iconst E dX6_isCold_20 ?_
    exact jx_zret E hr dX6_isCold_21 (by simp only [coldP]; first | rw [if_pos (by assumption)] | rw [if_neg (by assumption)]) (by first | rfl | (congr 1; done)) (by first | exact Or.inl rfl | exact Or.inr rfl | omega)
  · skip
    refine jx_iconst E dX6_isCold_16 ?_
    refine jx_goto (tgt := 21) E dX6_isCold_17 (by decide) ?_
    exact jx_zret E hr dX6_isCold_21 (by simp only [coldP]; first | rw [if_pos (by assumption)] | rw [if_neg (by assumption)]) (by first | rfl | (congr 1; done)) (by first | exact Or.inl rfl | exact Or.inr rfl | omega)
set_option maxHeartbeats 4000000 in
theorem c_X6_isOff (l : Launch) (G : GT) (b : Nat → Nat) (y : MS) {f : Int} (h1 : 0 ≤ f) (h2 : f < 8) (h3 : 0 ≤ y 0 (21 + 5 * f + 2) ∧ y 0 (21 + 5 * f + 2) ≤ 1) : CtI l G yX6_isOff cX6_isOff 2 (some .boolean) 2 [.ref (b 0), vI f] (wsM G b y) (if (y 0) (21 + 5 * f + 2) = 1 then 1 else 0) (wsM G b y) := by
  refine CtI.of (by decide) (Nat.le_of_ble_eq_true rfl) ?_
  intro p e s m args below meth c A E hr
  refine jx_lv (lv' := [(0, .ref (b 0)), (1, vI f)]) [0, 1] rfl ?_
  refine jx_aload_n E 0 dX6_isOff_0 rfl ?_
  refine jx_iload_n E 1 dX6_isOff_1 rfl ?_
  refine jx_iconst E dX6_isOff_2 ?_
  refine jx_callVi E [vI f, vI 2] [] (c_X6_it l G b y (f := f) (what := 2) (by omega) (by omega) (by omega) (by omega)) mb_X6_it mv_X6_it wl_X6_49 f_X6 wm_obj dX6_isOff_3 ?_
  refine jx_iconst E dX6_isOff_6 ?_
  refine jx_icmp_ne (tgt := 14) E dX6_isOff_7 (by decide) (fun c1 => ?_) (fun c1 => ?_)
  · skip
    refine jx_iconst E dX6_isOff_14 ?_
    exact jx_zret E hr dX6_isOff_15 (by first | rw [if_pos (by assumption)] | rw [if_neg (by assumption)]) (by first | rfl | (congr 1; done)) (by first | exact Or.inl rfl | exact Or.inr rfl | omega)
  · skip
    refine jx_iconst E dX6_isOff_10 ?_
    refine jx_goto (tgt := 15) E dX6_isOff_11 (by decide) ?_
    exact jx_zret E hr dX6_isOff_15 (by first | rw [if_pos (by assumption)] | rw [if_neg (by assumption)]) (by first | rfl | (congr 1; done)) (by first | exact Or.inl rfl | exact Or.inr rfl | omega)
end
