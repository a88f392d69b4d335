section
-- ===== PART A: goes FIRST, ahead of the names: the tables' words, and 'selects' of the private methods out of them =====
/-- a private method of a class that the tables say can be made, by its rows of tables_1 -/
def lw_okq (q : MethodName × Nat) : Prop := (q.1.cls ≠ "java/lang/invoke/MethodHandle" ∧ q.1.cls ≠ "java/lang/invoke/VarHandle") ∧ Cond.instantiable q.1.cls q.2 ∈ tables_1 ∧ Cond.privateMethod q.1 ∈ tables_1 ∧ Cond.instanceMethod q.1 ∈ tables_1
theorem lw_p0 : lw_okq (⟨"SpunPlates$Sticks", "sortPlaces", "(LSpunPlates$Stage;)V"⟩, 4) := ⟨⟨by decide +kernel, by decide +kernel⟩, List.mem_of_getElem? (i := 138) (by decide +kernel), List.mem_of_getElem? (i := 445) (by decide +kernel), List.mem_of_getElem? (i := 446) (by decide +kernel)⟩
theorem lw_p1 : lw_okq (⟨"SpunPlates$AllWays", "makeRows", "()V"⟩, 9) := ⟨⟨by decide +kernel, by decide +kernel⟩, List.mem_of_getElem? (i := 172) (by decide +kernel), List.mem_of_getElem? (i := 484) (by decide +kernel), List.mem_of_getElem? (i := 485) (by decide +kernel)⟩
theorem lw_p2 : lw_okq (⟨"SpunPlates$AllWays", "isMarked", "(I)Z"⟩, 9) := ⟨⟨by decide +kernel, by decide +kernel⟩, List.mem_of_getElem? (i := 172) (by decide +kernel), List.mem_of_getElem? (i := 497) (by decide +kernel), List.mem_of_getElem? (i := 498) (by decide +kernel)⟩
theorem lw_p3 : lw_okq (⟨"SpunPlates$AllWays", "valueOf", "(I)I"⟩, 9) := ⟨⟨by decide +kernel, by decide +kernel⟩, List.mem_of_getElem? (i := 172) (by decide +kernel), List.mem_of_getElem? (i := 502) (by decide +kernel), List.mem_of_getElem? (i := 503) (by decide +kernel)⟩
theorem lw_p4 : lw_okq (⟨"SpunPlates$AllWays", "mark", "(II)V"⟩, 9) := ⟨⟨by decide +kernel, by decide +kernel⟩, List.mem_of_getElem? (i := 172) (by decide +kernel), List.mem_of_getElem? (i := 508) (by decide +kernel), List.mem_of_getElem? (i := 509) (by decide +kernel)⟩
theorem lw_p5 : lw_okq (⟨"SpunPlates$AllWays", "raise", "(II)V"⟩, 9) := ⟨⟨by decide +kernel, by decide +kernel⟩, List.mem_of_getElem? (i := 172) (by decide +kernel), List.mem_of_getElem? (i := 513) (by decide +kernel), List.mem_of_getElem? (i := 514) (by decide +kernel)⟩
theorem lw_p6 : lw_okq (⟨"SpunPlates$AllWays", "after", "(II)I"⟩, 9) := ⟨⟨by decide +kernel, by decide +kernel⟩, List.mem_of_getElem? (i := 172) (by decide +kernel), List.mem_of_getElem? (i := 517) (by decide +kernel), List.mem_of_getElem? (i := 518) (by decide +kernel)⟩
theorem lw_p7 : lw_okq (⟨"SpunPlates$AllWays", "put", "(II)I"⟩, 9) := ⟨⟨by decide +kernel, by decide +kernel⟩, List.mem_of_getElem? (i := 172) (by decide +kernel), List.mem_of_getElem? (i := 522) (by decide +kernel), List.mem_of_getElem? (i := 523) (by decide +kernel)⟩
theorem lw_p8 : lw_okq (⟨"SpunPlates$AllWays", "isOpen", "(I)Z"⟩, 9) := ⟨⟨by decide +kernel, by decide +kernel⟩, List.mem_of_getElem? (i := 172) (by decide +kernel), List.mem_of_getElem? (i := 526) (by decide +kernel), List.mem_of_getElem? (i := 527) (by decide +kernel)⟩
theorem lw_p9 : lw_okq (⟨"SpunPlates$AllWays", "markPath", "(I)I"⟩, 9) := ⟨⟨by decide +kernel, by decide +kernel⟩, List.mem_of_getElem? (i := 172) (by decide +kernel), List.mem_of_getElem? (i := 530) (by decide +kernel), List.mem_of_getElem? (i := 531) (by decide +kernel)⟩
theorem lw_p10 : lw_okq (⟨"SpunPlates$AllWays", "bears", "(II)Z"⟩, 9) := ⟨⟨by decide +kernel, by decide +kernel⟩, List.mem_of_getElem? (i := 172) (by decide +kernel), List.mem_of_getElem? (i := 557) (by decide +kernel), List.mem_of_getElem? (i := 558) (by decide +kernel)⟩
theorem lw_p11 : lw_okq (⟨"SpunPlates$AllWays", "addUnseen", "(II)I"⟩, 9) := ⟨⟨by decide +kernel, by decide +kernel⟩, List.mem_of_getElem? (i := 172) (by decide +kernel), List.mem_of_getElem? (i := 561) (by decide +kernel), List.mem_of_getElem? (i := 562) (by decide +kernel)⟩
theorem lw_p12 : lw_okq (⟨"SpunPlates$AllWays", "gaspsAt", "(I)I"⟩, 9) := ⟨⟨by decide +kernel, by decide +kernel⟩, List.mem_of_getElem? (i := 172) (by decide +kernel), List.mem_of_getElem? (i := 573) (by decide +kernel), List.mem_of_getElem? (i := 574) (by decide +kernel)⟩
theorem lw_p13 : lw_okq (⟨"SpunPlates$AllWays", "keepBest", "([IIII)I"⟩, 9) := ⟨⟨by decide +kernel, by decide +kernel⟩, List.mem_of_getElem? (i := 172) (by decide +kernel), List.mem_of_getElem? (i := 577) (by decide +kernel), List.mem_of_getElem? (i := 578) (by decide +kernel)⟩
theorem lw_p14 : lw_okq (⟨"SpunPlates$SettingUp", "asNumber", "(I)I"⟩, 2) := ⟨⟨by decide +kernel, by decide +kernel⟩, List.mem_of_getElem? (i := 159) (by decide +kernel), List.mem_of_getElem? (i := 622) (by decide +kernel), List.mem_of_getElem? (i := 623) (by decide +kernel)⟩
theorem lw_p15 : lw_okq (⟨"SpunPlates", "ticksLike", "(II)I"⟩, 8) := ⟨⟨by decide +kernel, by decide +kernel⟩, List.mem_of_getElem? (i := 14) (by decide +kernel), List.mem_of_getElem? (i := 631) (by decide +kernel), List.mem_of_getElem? (i := 632) (by decide +kernel)⟩
def lw_privs_1 : List (MethodName × Nat) := [(⟨"SpunPlates$Sticks", "sortPlaces", "(LSpunPlates$Stage;)V"⟩, 4), (⟨"SpunPlates$AllWays", "makeRows", "()V"⟩, 9), (⟨"SpunPlates$AllWays", "isMarked", "(I)Z"⟩, 9), (⟨"SpunPlates$AllWays", "valueOf", "(I)I"⟩, 9), (⟨"SpunPlates$AllWays", "mark", "(II)V"⟩, 9), (⟨"SpunPlates$AllWays", "raise", "(II)V"⟩, 9), (⟨"SpunPlates$AllWays", "after", "(II)I"⟩, 9), (⟨"SpunPlates$AllWays", "put", "(II)I"⟩, 9), (⟨"SpunPlates$AllWays", "isOpen", "(I)Z"⟩, 9), (⟨"SpunPlates$AllWays", "markPath", "(I)I"⟩, 9), (⟨"SpunPlates$AllWays", "bears", "(II)Z"⟩, 9), (⟨"SpunPlates$AllWays", "addUnseen", "(II)I"⟩, 9), (⟨"SpunPlates$AllWays", "gaspsAt", "(I)I"⟩, 9), (⟨"SpunPlates$AllWays", "keepBest", "([IIII)I"⟩, 9), (⟨"SpunPlates$SettingUp", "asNumber", "(I)I"⟩, 2), (⟨"SpunPlates", "ticksLike", "(II)I"⟩, 8)]
theorem lw_r1 : ∀ q ∈ lw_privs_1, lw_okq q := List.forall_mem_cons.mpr ⟨lw_p0, List.forall_mem_cons.mpr ⟨lw_p1, List.forall_mem_cons.mpr ⟨lw_p2, List.forall_mem_cons.mpr ⟨lw_p3, List.forall_mem_cons.mpr ⟨lw_p4, List.forall_mem_cons.mpr ⟨lw_p5, List.forall_mem_cons.mpr ⟨lw_p6, List.forall_mem_cons.mpr ⟨lw_p7, List.forall_mem_cons.mpr ⟨lw_p8, List.forall_mem_cons.mpr ⟨lw_p9, List.forall_mem_cons.mpr ⟨lw_p10, List.forall_mem_cons.mpr ⟨lw_p11, List.forall_mem_cons.mpr ⟨lw_p12, List.forall_mem_cons.mpr ⟨lw_p13, List.forall_mem_cons.mpr ⟨lw_p14, List.forall_mem_cons.mpr ⟨lw_p15, fun _ h => absurd h List.not_mem_nil⟩⟩⟩⟩⟩⟩⟩⟩⟩⟩⟩⟩⟩⟩⟩⟩
theorem lw_p16 : lw_okq (⟨"SpunPlatesModel", "plateAt", "(I)I"⟩, 40) := ⟨⟨by decide +kernel, by decide +kernel⟩, List.mem_of_getElem? (i := 651) (by decide +kernel), List.mem_of_getElem? (i := 792) (by decide +kernel), List.mem_of_getElem? (i := 793) (by decide +kernel)⟩
theorem lw_p17 : lw_okq (⟨"SpunPlatesModel", "isPlate", "(I)Z"⟩, 40) := ⟨⟨by decide +kernel, by decide +kernel⟩, List.mem_of_getElem? (i := 651) (by decide +kernel), List.mem_of_getElem? (i := 800) (by decide +kernel), List.mem_of_getElem? (i := 801) (by decide +kernel)⟩
theorem lw_p18 : lw_okq (⟨"SpunPlatesModel", "setNow", "(I)I"⟩, 40) := ⟨⟨by decide +kernel, by decide +kernel⟩, List.mem_of_getElem? (i := 651) (by decide +kernel), List.mem_of_getElem? (i := 809) (by decide +kernel), List.mem_of_getElem? (i := 810) (by decide +kernel)⟩
theorem lw_p19 : lw_okq (⟨"SpunPlatesModel", "begin", "()V"⟩, 40) := ⟨⟨by decide +kernel, by decide +kernel⟩, List.mem_of_getElem? (i := 651) (by decide +kernel), List.mem_of_getElem? (i := 821) (by decide +kernel), List.mem_of_getElem? (i := 822) (by decide +kernel)⟩
theorem lw_p20 : lw_okq (⟨"SpunPlatesModel", "note", "()V"⟩, 40) := ⟨⟨by decide +kernel, by decide +kernel⟩, List.mem_of_getElem? (i := 651) (by decide +kernel), List.mem_of_getElem? (i := 825) (by decide +kernel), List.mem_of_getElem? (i := 826) (by decide +kernel)⟩
theorem lw_p21 : lw_okq (⟨"SpunPlatesModel", "can", "(I)Z"⟩, 40) := ⟨⟨by decide +kernel, by decide +kernel⟩, List.mem_of_getElem? (i := 651) (by decide +kernel), List.mem_of_getElem? (i := 829) (by decide +kernel), List.mem_of_getElem? (i := 830) (by decide +kernel)⟩
theorem lw_p22 : lw_okq (⟨"SpunPlatesModel", "simHere", "()I"⟩, 40) := ⟨⟨by decide +kernel, by decide +kernel⟩, List.mem_of_getElem? (i := 651) (by decide +kernel), List.mem_of_getElem? (i := 833) (by decide +kernel), List.mem_of_getElem? (i := 834) (by decide +kernel)⟩
theorem lw_p23 : lw_okq (⟨"SpunPlatesModel", "doThing", "(I)V"⟩, 40) := ⟨⟨by decide +kernel, by decide +kernel⟩, List.mem_of_getElem? (i := 651) (by decide +kernel), List.mem_of_getElem? (i := 837) (by decide +kernel), List.mem_of_getElem? (i := 838) (by decide +kernel)⟩
theorem lw_p24 : lw_okq (⟨"SpunPlatesModel", "wind", "(I)V"⟩, 40) := ⟨⟨by decide +kernel, by decide +kernel⟩, List.mem_of_getElem? (i := 651) (by decide +kernel), List.mem_of_getElem? (i := 841) (by decide +kernel), List.mem_of_getElem? (i := 842) (by decide +kernel)⟩
theorem lw_p25 : lw_okq (⟨"SpunPlatesModel", "takeOver", "()V"⟩, 40) := ⟨⟨by decide +kernel, by decide +kernel⟩, List.mem_of_getElem? (i := 651) (by decide +kernel), List.mem_of_getElem? (i := 845) (by decide +kernel), List.mem_of_getElem? (i := 846) (by decide +kernel)⟩
theorem lw_p26 : lw_okq (⟨"SpunPlatesModel", "standing", "()I"⟩, 40) := ⟨⟨by decide +kernel, by decide +kernel⟩, List.mem_of_getElem? (i := 651) (by decide +kernel), List.mem_of_getElem? (i := 849) (by decide +kernel), List.mem_of_getElem? (i := 850) (by decide +kernel)⟩
theorem lw_p27 : lw_okq (⟨"SpunPlatesModel", "judgeAll", "()V"⟩, 40) := ⟨⟨by decide +kernel, by decide +kernel⟩, List.mem_of_getElem? (i := 651) (by decide +kernel), List.mem_of_getElem? (i := 878) (by decide +kernel), List.mem_of_getElem? (i := 879) (by decide +kernel)⟩
theorem lw_p28 : lw_okq (⟨"SpunPlatesModel", "simStanding", "()I"⟩, 40) := ⟨⟨by decide +kernel, by decide +kernel⟩, List.mem_of_getElem? (i := 651) (by decide +kernel), List.mem_of_getElem? (i := 882) (by decide +kernel), List.mem_of_getElem? (i := 883) (by decide +kernel)⟩
theorem lw_p29 : lw_okq (⟨"SpunPlatesModel", "sumOfTurns", "()I"⟩, 40) := ⟨⟨by decide +kernel, by decide +kernel⟩, List.mem_of_getElem? (i := 651) (by decide +kernel), List.mem_of_getElem? (i := 886) (by decide +kernel), List.mem_of_getElem? (i := 887) (by decide +kernel)⟩
theorem lw_p30 : lw_okq (⟨"SpunPlatesModel", "lastsOf", "(I)I"⟩, 40) := ⟨⟨by decide +kernel, by decide +kernel⟩, List.mem_of_getElem? (i := 651) (by decide +kernel), List.mem_of_getElem? (i := 901) (by decide +kernel), List.mem_of_getElem? (i := 902) (by decide +kernel)⟩
theorem lw_p31 : lw_okq (⟨"SpunPlatesModel", "goBy", "(I)V"⟩, 40) := ⟨⟨by decide +kernel, by decide +kernel⟩, List.mem_of_getElem? (i := 651) (by decide +kernel), List.mem_of_getElem? (i := 905) (by decide +kernel), List.mem_of_getElem? (i := 906) (by decide +kernel)⟩
def lw_privs_2 : List (MethodName × Nat) := [(⟨"SpunPlatesModel", "plateAt", "(I)I"⟩, 40), (⟨"SpunPlatesModel", "isPlate", "(I)Z"⟩, 40), (⟨"SpunPlatesModel", "setNow", "(I)I"⟩, 40), (⟨"SpunPlatesModel", "begin", "()V"⟩, 40), (⟨"SpunPlatesModel", "note", "()V"⟩, 40), (⟨"SpunPlatesModel", "can", "(I)Z"⟩, 40), (⟨"SpunPlatesModel", "simHere", "()I"⟩, 40), (⟨"SpunPlatesModel", "doThing", "(I)V"⟩, 40), (⟨"SpunPlatesModel", "wind", "(I)V"⟩, 40), (⟨"SpunPlatesModel", "takeOver", "()V"⟩, 40), (⟨"SpunPlatesModel", "standing", "()I"⟩, 40), (⟨"SpunPlatesModel", "judgeAll", "()V"⟩, 40), (⟨"SpunPlatesModel", "simStanding", "()I"⟩, 40), (⟨"SpunPlatesModel", "sumOfTurns", "()I"⟩, 40), (⟨"SpunPlatesModel", "lastsOf", "(I)I"⟩, 40), (⟨"SpunPlatesModel", "goBy", "(I)V"⟩, 40)]
theorem lw_r2 : ∀ q ∈ lw_privs_2, lw_okq q := List.forall_mem_cons.mpr ⟨lw_p16, List.forall_mem_cons.mpr ⟨lw_p17, List.forall_mem_cons.mpr ⟨lw_p18, List.forall_mem_cons.mpr ⟨lw_p19, List.forall_mem_cons.mpr ⟨lw_p20, List.forall_mem_cons.mpr ⟨lw_p21, List.forall_mem_cons.mpr ⟨lw_p22, List.forall_mem_cons.mpr ⟨lw_p23, List.forall_mem_cons.mpr ⟨lw_p24, List.forall_mem_cons.mpr ⟨lw_p25, List.forall_mem_cons.mpr ⟨lw_p26, List.forall_mem_cons.mpr ⟨lw_p27, List.forall_mem_cons.mpr ⟨lw_p28, List.forall_mem_cons.mpr ⟨lw_p29, List.forall_mem_cons.mpr ⟨lw_p30, List.forall_mem_cons.mpr ⟨lw_p31, fun _ h => absurd h List.not_mem_nil⟩⟩⟩⟩⟩⟩⟩⟩⟩⟩⟩⟩⟩⟩⟩⟩
theorem lw_p32 : lw_okq (⟨"SpunPlatesModel", "thingBy", "(I)I"⟩, 40) := ⟨⟨by decide +kernel, by decide +kernel⟩, List.mem_of_getElem? (i := 651) (by decide +kernel), List.mem_of_getElem? (i := 909) (by decide +kernel), List.mem_of_getElem? (i := 910) (by decide +kernel)⟩
theorem lw_p33 : lw_okq (⟨"SpunPlatesModel", "worst", "()I"⟩, 40) := ⟨⟨by decide +kernel, by decide +kernel⟩, List.mem_of_getElem? (i := 651) (by decide +kernel), List.mem_of_getElem? (i := 913) (by decide +kernel), List.mem_of_getElem? (i := 914) (by decide +kernel)⟩
theorem lw_p34 : lw_okq (⟨"SpunPlatesModel", "seen", "(I)I"⟩, 40) := ⟨⟨by decide +kernel, by decide +kernel⟩, List.mem_of_getElem? (i := 651) (by decide +kernel), List.mem_of_getElem? (i := 917) (by decide +kernel), List.mem_of_getElem? (i := 918) (by decide +kernel)⟩
theorem lw_p35 : lw_okq (⟨"SpunPlatesModel", "near", "()I"⟩, 40) := ⟨⟨by decide +kernel, by decide +kernel⟩, List.mem_of_getElem? (i := 651) (by decide +kernel), List.mem_of_getElem? (i := 921) (by decide +kernel), List.mem_of_getElem? (i := 922) (by decide +kernel)⟩
theorem lw_p36 : lw_okq (⟨"SpunPlatesModel", "far", "(I)I"⟩, 40) := ⟨⟨by decide +kernel, by decide +kernel⟩, List.mem_of_getElem? (i := 651) (by decide +kernel), List.mem_of_getElem? (i := 925) (by decide +kernel), List.mem_of_getElem? (i := 926) (by decide +kernel)⟩
theorem lw_p37 : lw_okq (⟨"SpunPlatesModel", "following", "()I"⟩, 40) := ⟨⟨by decide +kernel, by decide +kernel⟩, List.mem_of_getElem? (i := 651) (by decide +kernel), List.mem_of_getElem? (i := 932) (by decide +kernel), List.mem_of_getElem? (i := 933) (by decide +kernel)⟩
theorem lw_p38 : lw_okq (⟨"SpunPlatesModel", "left", "()I"⟩, 40) := ⟨⟨by decide +kernel, by decide +kernel⟩, List.mem_of_getElem? (i := 651) (by decide +kernel), List.mem_of_getElem? (i := 936) (by decide +kernel), List.mem_of_getElem? (i := 937) (by decide +kernel)⟩
theorem lw_p39 : lw_okq (⟨"SpunPlatesModel", "isAs", "(II)Z"⟩, 40) := ⟨⟨by decide +kernel, by decide +kernel⟩, List.mem_of_getElem? (i := 651) (by decide +kernel), List.mem_of_getElem? (i := 949) (by decide +kernel), List.mem_of_getElem? (i := 950) (by decide +kernel)⟩
theorem lw_p40 : lw_okq (⟨"SpunPlatesModel", "findSticks", "(I)I"⟩, 40) := ⟨⟨by decide +kernel, by decide +kernel⟩, List.mem_of_getElem? (i := 651) (by decide +kernel), List.mem_of_getElem? (i := 957) (by decide +kernel), List.mem_of_getElem? (i := 958) (by decide +kernel)⟩
theorem lw_p41 : lw_okq (⟨"SpunPlatesModel", "sortPlaces", "()V"⟩, 40) := ⟨⟨by decide +kernel, by decide +kernel⟩, List.mem_of_getElem? (i := 651) (by decide +kernel), List.mem_of_getElem? (i := 961) (by decide +kernel), List.mem_of_getElem? (i := 962) (by decide +kernel)⟩
theorem lw_p42 : lw_okq (⟨"SpunPlatesModel", "layOrder", "()V"⟩, 40) := ⟨⟨by decide +kernel, by decide +kernel⟩, List.mem_of_getElem? (i := 651) (by decide +kernel), List.mem_of_getElem? (i := 965) (by decide +kernel), List.mem_of_getElem? (i := 966) (by decide +kernel)⟩
theorem lw_p43 : lw_okq (⟨"SpunPlatesModel", "nextOrder", "()Z"⟩, 40) := ⟨⟨by decide +kernel, by decide +kernel⟩, List.mem_of_getElem? (i := 651) (by decide +kernel), List.mem_of_getElem? (i := 969) (by decide +kernel), List.mem_of_getElem? (i := 970) (by decide +kernel)⟩
theorem lw_p44 : lw_okq (⟨"SpunPlatesModel", "findExact", "()Z"⟩, 40) := ⟨⟨by decide +kernel, by decide +kernel⟩, List.mem_of_getElem? (i := 651) (by decide +kernel), List.mem_of_getElem? (i := 977) (by decide +kernel), List.mem_of_getElem? (i := 978) (by decide +kernel)⟩
theorem lw_p45 : lw_okq (⟨"SpunPlatesModel", "layLives", "()V"⟩, 40) := ⟨⟨by decide +kernel, by decide +kernel⟩, List.mem_of_getElem? (i := 651) (by decide +kernel), List.mem_of_getElem? (i := 981) (by decide +kernel), List.mem_of_getElem? (i := 982) (by decide +kernel)⟩
theorem lw_p46 : lw_okq (⟨"SpunPlatesModel", "isState", "(I)Z"⟩, 40) := ⟨⟨by decide +kernel, by decide +kernel⟩, List.mem_of_getElem? (i := 651) (by decide +kernel), List.mem_of_getElem? (i := 985) (by decide +kernel), List.mem_of_getElem? (i := 986) (by decide +kernel)⟩
theorem lw_p47 : lw_okq (⟨"SpunPlatesModel", "endsIn", "(II)Z"⟩, 40) := ⟨⟨by decide +kernel, by decide +kernel⟩, List.mem_of_getElem? (i := 651) (by decide +kernel), List.mem_of_getElem? (i := 992) (by decide +kernel), List.mem_of_getElem? (i := 993) (by decide +kernel)⟩
def lw_privs_3 : List (MethodName × Nat) := [(⟨"SpunPlatesModel", "thingBy", "(I)I"⟩, 40), (⟨"SpunPlatesModel", "worst", "()I"⟩, 40), (⟨"SpunPlatesModel", "seen", "(I)I"⟩, 40), (⟨"SpunPlatesModel", "near", "()I"⟩, 40), (⟨"SpunPlatesModel", "far", "(I)I"⟩, 40), (⟨"SpunPlatesModel", "following", "()I"⟩, 40), (⟨"SpunPlatesModel", "left", "()I"⟩, 40), (⟨"SpunPlatesModel", "isAs", "(II)Z"⟩, 40), (⟨"SpunPlatesModel", "findSticks", "(I)I"⟩, 40), (⟨"SpunPlatesModel", "sortPlaces", "()V"⟩, 40), (⟨"SpunPlatesModel", "layOrder", "()V"⟩, 40), (⟨"SpunPlatesModel", "nextOrder", "()Z"⟩, 40), (⟨"SpunPlatesModel", "findExact", "()Z"⟩, 40), (⟨"SpunPlatesModel", "layLives", "()V"⟩, 40), (⟨"SpunPlatesModel", "isState", "(I)Z"⟩, 40), (⟨"SpunPlatesModel", "endsIn", "(II)Z"⟩, 40)]
theorem lw_r3 : ∀ q ∈ lw_privs_3, lw_okq q := List.forall_mem_cons.mpr ⟨lw_p32, List.forall_mem_cons.mpr ⟨lw_p33, List.forall_mem_cons.mpr ⟨lw_p34, List.forall_mem_cons.mpr ⟨lw_p35, List.forall_mem_cons.mpr ⟨lw_p36, List.forall_mem_cons.mpr ⟨lw_p37, List.forall_mem_cons.mpr ⟨lw_p38, List.forall_mem_cons.mpr ⟨lw_p39, List.forall_mem_cons.mpr ⟨lw_p40, List.forall_mem_cons.mpr ⟨lw_p41, List.forall_mem_cons.mpr ⟨lw_p42, List.forall_mem_cons.mpr ⟨lw_p43, List.forall_mem_cons.mpr ⟨lw_p44, List.forall_mem_cons.mpr ⟨lw_p45, List.forall_mem_cons.mpr ⟨lw_p46, List.forall_mem_cons.mpr ⟨lw_p47, fun _ h => absurd h List.not_mem_nil⟩⟩⟩⟩⟩⟩⟩⟩⟩⟩⟩⟩⟩⟩⟩⟩
theorem lw_p48 : lw_okq (⟨"SpunPlatesModel", "nextState", "(II)I"⟩, 40) := ⟨⟨by decide +kernel, by decide +kernel⟩, List.mem_of_getElem? (i := 651) (by decide +kernel), List.mem_of_getElem? (i := 996) (by decide +kernel), List.mem_of_getElem? (i := 997) (by decide +kernel)⟩
theorem lw_p49 : lw_okq (⟨"SpunPlatesModel", "stateNow", "()I"⟩, 40) := ⟨⟨by decide +kernel, by decide +kernel⟩, List.mem_of_getElem? (i := 651) (by decide +kernel), List.mem_of_getElem? (i := 1000) (by decide +kernel), List.mem_of_getElem? (i := 1001) (by decide +kernel)⟩
theorem lw_p50 : lw_okq (⟨"SpunPlatesModel", "canBow", "(II)Z"⟩, 40) := ⟨⟨by decide +kernel, by decide +kernel⟩, List.mem_of_getElem? (i := 651) (by decide +kernel), List.mem_of_getElem? (i := 1017) (by decide +kernel), List.mem_of_getElem? (i := 1018) (by decide +kernel)⟩
theorem lw_p51 : lw_okq (⟨"SpunPlatesModel", "gaspsBy", "(III)I"⟩, 40) := ⟨⟨by decide +kernel, by decide +kernel⟩, List.mem_of_getElem? (i := 651) (by decide +kernel), List.mem_of_getElem? (i := 1026) (by decide +kernel), List.mem_of_getElem? (i := 1027) (by decide +kernel)⟩
theorem lw_p52 : lw_okq (⟨"SpunPlatesModel", "gaspsIn", "(I)I"⟩, 40) := ⟨⟨by decide +kernel, by decide +kernel⟩, List.mem_of_getElem? (i := 651) (by decide +kernel), List.mem_of_getElem? (i := 1030) (by decide +kernel), List.mem_of_getElem? (i := 1031) (by decide +kernel)⟩
theorem lw_p53 : lw_okq (⟨"SpunPlatesModel", "layTold", "(I)Z"⟩, 40) := ⟨⟨by decide +kernel, by decide +kernel⟩, List.mem_of_getElem? (i := 651) (by decide +kernel), List.mem_of_getElem? (i := 1042) (by decide +kernel), List.mem_of_getElem? (i := 1043) (by decide +kernel)⟩
theorem lw_p54 : lw_okq (⟨"SpunPlatesModel", "setUpOf", "()I"⟩, 40) := ⟨⟨by decide +kernel, by decide +kernel⟩, List.mem_of_getElem? (i := 651) (by decide +kernel), List.mem_of_getElem? (i := 1046) (by decide +kernel), List.mem_of_getElem? (i := 1047) (by decide +kernel)⟩
theorem lw_p55 : lw_okq (⟨"SpunPlatesModel", "likeOf", "(I)I"⟩, 40) := ⟨⟨by decide +kernel, by decide +kernel⟩, List.mem_of_getElem? (i := 651) (by decide +kernel), List.mem_of_getElem? (i := 1058) (by decide +kernel), List.mem_of_getElem? (i := 1059) (by decide +kernel)⟩
theorem lw_p56 : lw_okq (⟨"SpunPlatesModel", "passAll", "()V"⟩, 40) := ⟨⟨by decide +kernel, by decide +kernel⟩, List.mem_of_getElem? (i := 651) (by decide +kernel), List.mem_of_getElem? (i := 1070) (by decide +kernel), List.mem_of_getElem? (i := 1071) (by decide +kernel)⟩
theorem lw_p57 : lw_okq (⟨"SpunPlatesModel", "pass", "(I)I"⟩, 40) := ⟨⟨by decide +kernel, by decide +kernel⟩, List.mem_of_getElem? (i := 651) (by decide +kernel), List.mem_of_getElem? (i := 1074) (by decide +kernel), List.mem_of_getElem? (i := 1075) (by decide +kernel)⟩
def lw_privs_4 : List (MethodName × Nat) := [(⟨"SpunPlatesModel", "nextState", "(II)I"⟩, 40), (⟨"SpunPlatesModel", "stateNow", "()I"⟩, 40), (⟨"SpunPlatesModel", "canBow", "(II)Z"⟩, 40), (⟨"SpunPlatesModel", "gaspsBy", "(III)I"⟩, 40), (⟨"SpunPlatesModel", "gaspsIn", "(I)I"⟩, 40), (⟨"SpunPlatesModel", "layTold", "(I)Z"⟩, 40), (⟨"SpunPlatesModel", "setUpOf", "()I"⟩, 40), (⟨"SpunPlatesModel", "likeOf", "(I)I"⟩, 40), (⟨"SpunPlatesModel", "passAll", "()V"⟩, 40), (⟨"SpunPlatesModel", "pass", "(I)I"⟩, 40)]
theorem lw_r4 : ∀ q ∈ lw_privs_4, lw_okq q := List.forall_mem_cons.mpr ⟨lw_p48, List.forall_mem_cons.mpr ⟨lw_p49, List.forall_mem_cons.mpr ⟨lw_p50, List.forall_mem_cons.mpr ⟨lw_p51, List.forall_mem_cons.mpr ⟨lw_p52, List.forall_mem_cons.mpr ⟨lw_p53, List.forall_mem_cons.mpr ⟨lw_p54, List.forall_mem_cons.mpr ⟨lw_p55, List.forall_mem_cons.mpr ⟨lw_p56, List.forall_mem_cons.mpr ⟨lw_p57, fun _ h => absurd h List.not_mem_nil⟩⟩⟩⟩⟩⟩⟩⟩⟩⟩
def lw_privs : List (MethodName × Nat) := lw_privs_1 ++ (lw_privs_2 ++ (lw_privs_3 ++ (lw_privs_4)))
def lw_tbl : List Cond := k2_sels lw_privs ++ tables_1
theorem lw_privs_ok : ∀ q ∈ lw_privs, lw_okq q := by
  show ∀ q ∈ lw_privs_1 ++ (lw_privs_2 ++ (lw_privs_3 ++ (lw_privs_4))), lw_okq q
  exact List.forall_mem_append.mpr ⟨lw_r1, List.forall_mem_append.mpr ⟨lw_r2, List.forall_mem_append.mpr ⟨lw_r3, lw_r4⟩⟩⟩
end
section
def RX0 : String := "SpunPlates$AllWays"
def TX0 : u_T := fun k => match k with
  | 0 => ("SpunPlates$AllWays", "count", "I", false)
  | 1 => ("SpunPlates$AllWays", "gives", "I", false)
  | 2 => ("SpunPlates$AllWays", "fulls", "[I", true)
  | 3 => ("SpunPlates$AllWays", "falls", "[I", true)
  | 4 => ("SpunPlates$AllWays", "onPlace", "[I", true)
  | 5 => ("SpunPlates$AllWays", "page", "I", false)
  | 6 => ("SpunPlates$AllWays", "marks", "[I", false)
  | 7 => ("SpunPlates$AllWays", "list", "[I", false)
  | _ => ("SpunPlates$AllWays", "otherList", "[I", false)
def tyX0 : Nat → FieldType := fun k => match k with
  | 0 => .int
  | 1 => .int
  | 2 => .array .int
  | 3 => .array .int
  | 4 => .array .int
  | 5 => .int
  | 6 => .array .int
  | 7 => .array .int
  | _ => .array .int
abbrev wsX00 : List Cond := u_ws RX0 TX0 9
theorem nmX0 : ∀ a, a < 9 → ∀ b, b < 9 → a ≠ b → (TX0 a).2.1 ≠ (TX0 b).2.1 := by decide +kernel
theorem tyX0_ok : ∀ k, k < 9 → parseFieldDescriptor (TX0 k).2.2.1 = some (tyX0 k) := by decide +kernel
abbrev cX0_init : ByteArray := prog_2_method_1_code
def yX0_init : MethodName := ⟨RX0, "<init>", "()V"⟩
abbrev cX0_take : ByteArray := prog_2_method_2_code
def yX0_take : MethodName := ⟨RX0, "take", "(LSpunPlates$Stage;)I"⟩
abbrev cX0_shiftOf : ByteArray := prog_2_method_3_code
def yX0_shiftOf : MethodName := ⟨RX0, "shiftOf", "(I)I"⟩
abbrev cX0_makeRows : ByteArray := prog_2_method_4_code
def yX0_makeRows : MethodName := ⟨RX0, "makeRows", "()V"⟩
abbrev cX0_openPage : ByteArray := prog_2_method_5_code
def yX0_openPage : MethodName := ⟨RX0, "openPage", "()V"⟩
abbrev cX0_isMarked : ByteArray := prog_2_method_6_code
def yX0_isMarked : MethodName := ⟨RX0, "isMarked", "(I)Z"⟩
abbrev cX0_mark : ByteArray := prog_2_method_7_code
def yX0_mark : MethodName := ⟨RX0, "mark", "(II)V"⟩
abbrev cX0_valueOf : ByteArray := prog_2_method_8_code
def yX0_valueOf : MethodName := ⟨RX0, "valueOf", "(I)I"⟩
abbrev cX0_isOpen : ByteArray := prog_2_method_9_code
def yX0_isOpen : MethodName := ⟨RX0, "isOpen", "(I)Z"⟩
abbrev cX0_after : ByteArray := prog_2_method_10_code
def yX0_after : MethodName := ⟨RX0, "after", "(II)I"⟩
abbrev cX0_measure : ByteArray := prog_2_method_11_code
def yX0_measure : MethodName := ⟨RX0, "measure", "(I)I"⟩
abbrev cX0_put : ByteArray := prog_2_method_12_code
def yX0_put : MethodName := ⟨RX0, "put", "(II)I"⟩
abbrev cX0_raise : ByteArray := prog_2_method_13_code
def yX0_raise : MethodName := ⟨RX0, "raise", "(II)V"⟩
abbrev cX0_markPath : ByteArray := prog_2_method_14_code
def yX0_markPath : MethodName := ⟨RX0, "markPath", "(I)I"⟩
abbrev cX0_bestThing : ByteArray := prog_2_method_15_code
def yX0_bestThing : MethodName := ⟨RX0, "bestThing", "(I)I"⟩
abbrev cX0_soonestBow : ByteArray := prog_2_method_16_code
def yX0_soonestBow : MethodName := ⟨RX0, "soonestBow", "(II)I"⟩
abbrev cX0_bears : ByteArray := prog_2_method_17_code
def yX0_bears : MethodName := ⟨RX0, "bears", "(II)Z"⟩
abbrev cX0_addUnseen : ByteArray := prog_2_method_18_code
def yX0_addUnseen : MethodName := ⟨RX0, "addUnseen", "(II)I"⟩
abbrev cX0_gaspsOf : ByteArray := prog_2_method_19_code
def yX0_gaspsOf : MethodName := ⟨RX0, "gaspsOf", "(I)I"⟩
abbrev cX0_firstThingOf : ByteArray := prog_2_method_20_code
def yX0_firstThingOf : MethodName := ⟨RX0, "firstThingOf", "(I)I"⟩
abbrev cX0_mostWorth : ByteArray := prog_2_method_21_code
def yX0_mostWorth : MethodName := ⟨RX0, "mostWorth", "(II)I"⟩
abbrev cX0_keepBest : ByteArray := prog_2_method_22_code
def yX0_keepBest : MethodName := ⟨RX0, "keepBest", "([IIII)I"⟩
abbrev cX0_gaspsAt : ByteArray := prog_2_method_23_code
def yX0_gaspsAt : MethodName := ⟨RX0, "gaspsAt", "(I)I"⟩
def RX1 : String := "SpunPlates$Pad"
def TX1 : u_T := fun k => match k with
  | 0 => ("SpunPlates$Pad", "length", "I", false)
  | 1 => ("SpunPlates$Pad", "signs", "[I", true)
  | _ => ("SpunPlates$Pad", "things", "[I", true)
def tyX1 : Nat → FieldType := fun k => match k with
  | 0 => .int
  | 1 => .array .int
  | _ => .array .int
abbrev wsX10 : List Cond := u_ws RX1 TX1 3
theorem nmX1 : ∀ a, a < 3 → ∀ b, b < 3 → a ≠ b → (TX1 a).2.1 ≠ (TX1 b).2.1 := by decide +kernel
theorem tyX1_ok : ∀ k, k < 3 → parseFieldDescriptor (TX1 k).2.2.1 = some (tyX1 k) := by decide +kernel
abbrev cX1_init : ByteArray := prog_3_method_1_code
def yX1_init : MethodName := ⟨RX1, "<init>", "()V"⟩
abbrev cX1_add : ByteArray := prog_3_method_2_code
def yX1_add : MethodName := ⟨RX1, "add", "(I)Z"⟩
abbrev cX1_thingOf : ByteArray := prog_3_method_3_code
def yX1_thingOf : MethodName := ⟨RX1, "thingOf", "(I)I"⟩
abbrev cX1_isTimes : ByteArray := prog_3_method_4_code
def yX1_isTimes : MethodName := ⟨RX1, "isTimes", "(I)Z"⟩
abbrev cX1_firstFault : ByteArray := prog_3_method_5_code
def yX1_firstFault : MethodName := ⟨RX1, "firstFault", "()I"⟩
abbrev cX1_read : ByteArray := prog_3_method_6_code
def yX1_read : MethodName := ⟨RX1, "read", "()I"⟩
def RX2 : String := "SpunPlates$SettingUp"
def TX2 : u_T := fun k => match k with
  | 0 => ("SpunPlates$SettingUp", "order", "[I", true)
  | _ => ("SpunPlates$SettingUp", "upAt", "[I", true)
def tyX2 : Nat → FieldType := fun k => match k with
  | 0 => .array .int
  | _ => .array .int
abbrev wsX20 : List Cond := u_ws RX2 TX2 2
theorem nmX2 : ∀ a, a < 2 → ∀ b, b < 2 → a ≠ b → (TX2 a).2.1 ≠ (TX2 b).2.1 := by decide +kernel
theorem tyX2_ok : ∀ k, k < 2 → parseFieldDescriptor (TX2 k).2.2.1 = some (tyX2 k) := by decide +kernel
abbrev cX2_init : ByteArray := prog_4_method_1_code
def yX2_init : MethodName := ⟨RX2, "<init>", "()V"⟩
abbrev cX2_readOrder : ByteArray := prog_4_method_2_code
def yX2_readOrder : MethodName := ⟨RX2, "readOrder", "(II)Z"⟩
abbrev cX2_leastTurn : ByteArray := prog_4_method_3_code
def yX2_leastTurn : MethodName := ⟨RX2, "leastTurn", "(LSpunPlates$Stage;)I"⟩
abbrev cX2_findBest : ByteArray := prog_4_method_4_code
def yX2_findBest : MethodName := ⟨RX2, "findBest", "(LSpunPlates$Stage;)I"⟩
abbrev cX2_asNumber : ByteArray := prog_4_method_5_code
def yX2_asNumber : MethodName := ⟨RX2, "asNumber", "(I)I"⟩
def RX3 : String := "SpunPlates$Stage"
def TX3 : u_T := fun k => match k with
  | 0 => ("SpunPlates$Stage", "count", "I", false)
  | 1 => ("SpunPlates$Stage", "places", "[I", true)
  | 2 => ("SpunPlates$Stage", "fulls", "[I", true)
  | 3 => ("SpunPlates$Stage", "falls", "[I", true)
  | 4 => ("SpunPlates$Stage", "turns", "[I", true)
  | _ => ("SpunPlates$Stage", "settings", "[I", true)
def tyX3 : Nat → FieldType := fun k => match k with
  | 0 => .int
  | 1 => .array .int
  | 2 => .array .int
  | 3 => .array .int
  | 4 => .array .int
  | _ => .array .int
abbrev wsX30 : List Cond := u_ws RX3 TX3 6
theorem nmX3 : ∀ a, a < 6 → ∀ b, b < 6 → a ≠ b → (TX3 a).2.1 ≠ (TX3 b).2.1 := by decide +kernel
theorem tyX3_ok : ∀ k, k < 6 → parseFieldDescriptor (TX3 k).2.2.1 = some (tyX3 k) := by decide +kernel
abbrev cX3_init : ByteArray := prog_5_method_1_code
def yX3_init : MethodName := ⟨RX3, "<init>", "()V"⟩
abbrev cX3_copyFrom : ByteArray := prog_5_method_2_code
def yX3_copyFrom : MethodName := ⟨RX3, "copyFrom", "(LSpunPlates$Stage;)V"⟩
abbrev cX3_has : ByteArray := prog_5_method_3_code
def yX3_has : MethodName := ⟨RX3, "has", "(I)Z"⟩
abbrev cX3_add : ByteArray := prog_5_method_4_code
def yX3_add : MethodName := ⟨RX3, "add", "(III)I"⟩
abbrev cX3_plateOn : ByteArray := prog_5_method_5_code
def yX3_plateOn : MethodName := ⟨RX3, "plateOn", "(I)I"⟩
abbrev cX3_can : ByteArray := prog_5_method_6_code
def yX3_can : MethodName := ⟨RX3, "can", "(I)Z"⟩
abbrev cX3_act : ByteArray := prog_5_method_7_code
def yX3_act : MethodName := ⟨RX3, "act", "(I)V"⟩
abbrev cX3_move : ByteArray := prog_5_method_8_code
def yX3_move : MethodName := ⟨RX3, "move", "(I)V"⟩
abbrev cX3_runDown : ByteArray := prog_5_method_9_code
def yX3_runDown : MethodName := ⟨RX3, "runDown", "()V"⟩
abbrev cX3_standing : ByteArray := prog_5_method_10_code
def yX3_standing : MethodName := ⟨RX3, "standing", "()I"⟩
abbrev cX3_sumOfTurns : ByteArray := prog_5_method_11_code
def yX3_sumOfTurns : MethodName := ⟨RX3, "sumOfTurns", "()I"⟩
abbrev cX3_packedTurns : ByteArray := prog_5_method_12_code
def yX3_packedTurns : MethodName := ⟨RX3, "packedTurns", "()I"⟩
def RX4 : String := "SpunPlates$Sticks"
def TX4 : u_T := fun k => match k with
  | 0 => ("SpunPlates$Sticks", "lasting", "I", false)
  | 1 => ("SpunPlates$Sticks", "order", "[I", true)
  | 2 => ("SpunPlates$Sticks", "tried", "[I", true)
  | _ => ("SpunPlates$Sticks", "fromLeft", "[I", true)
def tyX4 : Nat → FieldType := fun k => match k with
  | 0 => .int
  | 1 => .array .int
  | 2 => .array .int
  | _ => .array .int
abbrev wsX40 : List Cond := u_ws RX4 TX4 4
theorem nmX4 : ∀ a, a < 4 → ∀ b, b < 4 → a ≠ b → (TX4 a).2.1 ≠ (TX4 b).2.1 := by decide +kernel
theorem tyX4_ok : ∀ k, k < 4 → parseFieldDescriptor (TX4 k).2.2.1 = some (tyX4 k) := by decide +kernel
abbrev cX4_init : ByteArray := prog_6_method_1_code
def yX4_init : MethodName := ⟨RX4, "<init>", "()V"⟩
abbrev cX4_find : ByteArray := prog_6_method_2_code
def yX4_find : MethodName := ⟨RX4, "find", "(LSpunPlates$Stage;LSpunPlates$Walker;I)V"⟩
abbrev cX4_sortPlaces : ByteArray := prog_6_method_3_code
def yX4_sortPlaces : MethodName := ⟨RX4, "sortPlaces", "(LSpunPlates$Stage;)V"⟩
def RX5 : String := "SpunPlates$Walker"
def TX5 : u_T := fun k => match k with
  | 0 => ("SpunPlates$Walker", "on", "LSpunPlates$Stage;", true)
  | 1 => ("SpunPlates$Walker", "ticks", "I", false)
  | 2 => ("SpunPlates$Walker", "goal", "I", false)
  | 3 => ("SpunPlates$Walker", "wound", "I", false)
  | 4 => ("SpunPlates$Walker", "lastGoal", "I", false)
  | 5 => ("SpunPlates$Walker", "lateTurns", "I", false)
  | 6 => ("SpunPlates$Walker", "turnsLog", "[I", true)
  | _ => ("SpunPlates$Walker", "manLog", "[I", true)
def tyX5 : Nat → FieldType := fun k => match k with
  | 0 => .object "SpunPlates$Stage"
  | 1 => .int
  | 2 => .int
  | 3 => .int
  | 4 => .int
  | 5 => .int
  | 6 => .array .int
  | _ => .array .int
abbrev wsX50 : List Cond := u_ws RX5 TX5 8
theorem nmX5 : ∀ a, a < 8 → ∀ b, b < 8 → a ≠ b → (TX5 a).2.1 ≠ (TX5 b).2.1 := by decide +kernel
theorem tyX5_ok : ∀ k, k < 8 → parseFieldDescriptor (TX5 k).2.2.1 = some (tyX5 k) := by decide +kernel
abbrev cX5_init : ByteArray := prog_7_method_1_code
def yX5_init : MethodName := ⟨RX5, "<init>", "()V"⟩
abbrev cX5_begin : ByteArray := prog_7_method_2_code
def yX5_begin : MethodName := ⟨RX5, "begin", "(LSpunPlates$Stage;)V"⟩
abbrev cX5_beginHere : ByteArray := prog_7_method_3_code
def yX5_beginHere : MethodName := ⟨RX5, "beginHere", "()V"⟩
abbrev cX5_writeLog : ByteArray := prog_7_method_4_code
def yX5_writeLog : MethodName := ⟨RX5, "writeLog", "()V"⟩
abbrev cX5_choose : ByteArray := prog_7_method_5_code
def yX5_choose : MethodName := ⟨RX5, "choose", "(I)I"⟩
abbrev cX5_act : ByteArray := prog_7_method_6_code
def yX5_act : MethodName := ⟨RX5, "act", "(I)V"⟩
abbrev cX5_takeGoal : ByteArray := prog_7_method_7_code
def yX5_takeGoal : MethodName := ⟨RX5, "takeGoal", "(I)I"⟩
abbrev cX5_worst : ByteArray := prog_7_method_8_code
def yX5_worst : MethodName := ⟨RX5, "worst", "()I"⟩
abbrev cX5_near : ByteArray := prog_7_method_9_code
def yX5_near : MethodName := ⟨RX5, "near", "()I"⟩
abbrev cX5_nextByNumber : ByteArray := prog_7_method_10_code
def yX5_nextByNumber : MethodName := ⟨RX5, "nextByNumber", "()I"⟩
abbrev cX5_leastLeft : ByteArray := prog_7_method_11_code
def yX5_leastLeft : MethodName := ⟨RX5, "leastLeft", "()I"⟩
abbrev cX5_far : ByteArray := prog_7_method_12_code
def yX5_far : MethodName := ⟨RX5, "far", "(I)I"⟩
abbrev cX5_seen : ByteArray := prog_7_method_13_code
def yX5_seen : MethodName := ⟨RX5, "seen", "(I)I"⟩
abbrev cX5_logged : ByteArray := prog_7_method_14_code
def yX5_logged : MethodName := ⟨RX5, "logged", "(I)I"⟩
abbrev cX5_ticksToFirstFall : ByteArray := prog_7_method_15_code
def yX5_ticksToFirstFall : MethodName := ⟨RX5, "ticksToFirstFall", "(I)I"⟩
abbrev cX5_goUntilItComesAgain : ByteArray := prog_7_method_16_code
def yX5_goUntilItComesAgain : MethodName := ⟨RX5, "goUntilItComesAgain", "(I)I"⟩
abbrev cX5_alike : ByteArray := prog_7_method_17_code
def yX5_alike : MethodName := ⟨RX5, "alike", "(II)Z"⟩
def RX6 : String := "SpunPlates"
def TX6 : u_T := fun k => match k with
  | 0 => ("SpunPlates", "stage", "LSpunPlates$Stage;", true)
  | 1 => ("SpunPlates", "trial", "LSpunPlates$Stage;", true)
  | 2 => ("SpunPlates", "images", "[LSpunPlates$Stage;", true)
  | 3 => ("SpunPlates", "pad", "LSpunPlates$Pad;", true)
  | 4 => ("SpunPlates", "walker", "LSpunPlates$Walker;", true)
  | 5 => ("SpunPlates", "best", "LSpunPlates$Sticks;", true)
  | 6 => ("SpunPlates", "settingUp", "LSpunPlates$SettingUp;", true)
  | _ => ("SpunPlates", "ways", "LSpunPlates$AllWays;", true)
def tyX6 : Nat → FieldType := fun k => match k with
  | 0 => .object "SpunPlates$Stage"
  | 1 => .object "SpunPlates$Stage"
  | 2 => .array (.object "SpunPlates$Stage")
  | 3 => .object "SpunPlates$Pad"
  | 4 => .object "SpunPlates$Walker"
  | 5 => .object "SpunPlates$Sticks"
  | 6 => .object "SpunPlates$SettingUp"
  | _ => .object "SpunPlates$AllWays"
abbrev wsX60 : List Cond := u_ws RX6 TX6 8
theorem nmX6 : ∀ a, a < 8 → ∀ b, b < 8 → a ≠ b → (TX6 a).2.1 ≠ (TX6 b).2.1 := by decide +kernel
theorem tyX6_ok : ∀ k, k < 8 → parseFieldDescriptor (TX6 k).2.2.1 = some (tyX6 k) := by decide +kernel
abbrev cX6_init : ByteArray := prog_1_method_1_code
def yX6_init : MethodName := ⟨RX6, "<init>", "()V"⟩
abbrev cX6_plate : ByteArray := prog_1_method_2_code
def yX6_plate : MethodName := ⟨RX6, "plate", "(III)I"⟩
abbrev cX6_turn : ByteArray := prog_1_method_3_code
def yX6_turn : MethodName := ⟨RX6, "turn", "(II)I"⟩
abbrev cX6_set : ByteArray := prog_1_method_4_code
def yX6_set : MethodName := ⟨RX6, "set", "(II)I"⟩
abbrev cX6_about : ByteArray := prog_1_method_5_code
def yX6_about : MethodName := ⟨RX6, "about", "(II)I"⟩
abbrev cX6_tick : ByteArray := prog_1_method_6_code
def yX6_tick : MethodName := ⟨RX6, "tick", "(I)I"⟩
abbrev cX6_say : ByteArray := prog_1_method_7_code
def yX6_say : MethodName := ⟨RX6, "say", "(I)I"⟩
abbrev cX6_wipe : ByteArray := prog_1_method_8_code
def yX6_wipe : MethodName := ⟨RX6, "wipe", "()I"⟩
abbrev cX6_fault : ByteArray := prog_1_method_9_code
def yX6_fault : MethodName := ⟨RX6, "fault", "()I"⟩
abbrev cX6_judge : ByteArray := prog_1_method_10_code
def yX6_judge : MethodName := ⟨RX6, "judge", "(I)I"⟩
abbrev cX6_show : ByteArray := prog_1_method_11_code
def yX6_show : MethodName := ⟨RX6, "show", "()I"⟩
abbrev cX6_lasts : ByteArray := prog_1_method_12_code
def yX6_lasts : MethodName := ⟨RX6, "lasts", "(I)I"⟩
abbrev cX6_at : ByteArray := prog_1_method_13_code
def yX6_at : MethodName := ⟨RX6, "at", "(III)I"⟩
abbrev cX6_round : ByteArray := prog_1_method_14_code
def yX6_round : MethodName := ⟨RX6, "round", "(II)I"⟩
abbrev cX6_sticks : ByteArray := prog_1_method_15_code
def yX6_sticks : MethodName := ⟨RX6, "sticks", "(II)I"⟩
abbrev cX6_kept : ByteArray := prog_1_method_16_code
def yX6_kept : MethodName := ⟨RX6, "kept", "()I"⟩
abbrev cX6_longest : ByteArray := prog_1_method_17_code
def yX6_longest : MethodName := ⟨RX6, "longest", "()I"⟩
abbrev cX6_step : ByteArray := prog_1_method_18_code
def yX6_step : MethodName := ⟨RX6, "step", "()I"⟩
abbrev cX6_bow : ByteArray := prog_1_method_19_code
def yX6_bow : MethodName := ⟨RX6, "bow", "(I)I"⟩
abbrev cX6_gasps : ByteArray := prog_1_method_20_code
def yX6_gasps : MethodName := ⟨RX6, "gasps", "(II)I"⟩
abbrev cX6_load : ByteArray := prog_1_method_21_code
def yX6_load : MethodName := ⟨RX6, "load", "(I)I"⟩
abbrev cX6_setUp : ByteArray := prog_1_method_22_code
def yX6_setUp : MethodName := ⟨RX6, "setUp", "(I)I"⟩
abbrev cX6_bestOrder : ByteArray := prog_1_method_23_code
def yX6_bestOrder : MethodName := ⟨RX6, "bestOrder", "()I"⟩
abbrev cX6_film : ByteArray := prog_1_method_24_code
def yX6_film : MethodName := ⟨RX6, "film", "(I)I"⟩
abbrev cX6_whose : ByteArray := prog_1_method_25_code
def yX6_whose : MethodName := ⟨RX6, "whose", "()I"⟩
abbrev cX6_image : ByteArray := prog_1_method_26_code
def yX6_image : MethodName := ⟨RX6, "image", "(I)I"⟩
abbrev cX6_restore : ByteArray := prog_1_method_27_code
def yX6_restore : MethodName := ⟨RX6, "restore", "(I)I"⟩
abbrev cX6_told : ByteArray := prog_1_method_28_code
def yX6_told : MethodName := ⟨RX6, "told", "(I)I"⟩
abbrev cX6_within : ByteArray := prog_1_method_29_code
def yX6_within : MethodName := ⟨RX6, "within", "(III)Z"⟩
abbrev cX6_isRule : ByteArray := prog_1_method_30_code
def yX6_isRule : MethodName := ⟨RX6, "isRule", "(I)Z"⟩
abbrev cX6_orNone : ByteArray := prog_1_method_31_code
def yX6_orNone : MethodName := ⟨RX6, "orNone", "(I)I"⟩
abbrev cX6_commonDivisor : ByteArray := prog_1_method_32_code
def yX6_commonDivisor : MethodName := ⟨RX6, "commonDivisor", "(II)I"⟩
abbrev cX6_nextOrder : ByteArray := prog_1_method_33_code
def yX6_nextOrder : MethodName := ⟨RX6, "nextOrder", "([II)Z"⟩
abbrev cX6_swap : ByteArray := prog_1_method_34_code
def yX6_swap : MethodName := ⟨RX6, "swap", "([III)V"⟩
abbrev cX6_firstOrder : ByteArray := prog_1_method_35_code
def yX6_firstOrder : MethodName := ⟨RX6, "firstOrder", "([I)V"⟩
abbrev cX6_ticksLike : ByteArray := prog_1_method_36_code
def yX6_ticksLike : MethodName := ⟨RX6, "ticksLike", "(II)I"⟩
def RX7 : String := "SpunPlatesModel"
def TX7 : u_T := fun k => match k with
  | 0 => ("SpunPlatesModel", "place", "[I", true)
  | 1 => ("SpunPlatesModel", "full", "[I", true)
  | 2 => ("SpunPlatesModel", "falls", "[I", true)
  | 3 => ("SpunPlatesModel", "turn", "[I", true)
  | 4 => ("SpunPlatesModel", "plates", "I", false)
  | 5 => ("SpunPlatesModel", "man", "I", false)
  | 6 => ("SpunPlatesModel", "gives", "I", false)
  | 7 => ("SpunPlatesModel", "patience", "I", false)
  | 8 => ("SpunPlatesModel", "lag", "I", false)
  | 9 => ("SpunPlatesModel", "sets", "I", false)
  | 10 => ("SpunPlatesModel", "simPlace", "[I", true)
  | 11 => ("SpunPlatesModel", "simTurn", "[I", true)
  | 12 => ("SpunPlatesModel", "simMan", "I", false)
  | 13 => ("SpunPlatesModel", "goal", "I", false)
  | 14 => ("SpunPlatesModel", "wound", "I", false)
  | 15 => ("SpunPlatesModel", "lastGoal", "I", false)
  | 16 => ("SpunPlatesModel", "done", "I", false)
  | 17 => ("SpunPlatesModel", "turnsAt", "[I", true)
  | 18 => ("SpunPlatesModel", "restAt", "[I", true)
  | 19 => ("SpunPlatesModel", "signs", "[I", true)
  | 20 => ("SpunPlatesModel", "signMany", "I", false)
  | 21 => ("SpunPlatesModel", "showThing", "[I", true)
  | 22 => ("SpunPlatesModel", "showMany", "I", false)
  | 23 => ("SpunPlatesModel", "badTick", "I", false)
  | 24 => ("SpunPlatesModel", "fallTick", "I", false)
  | 25 => ("SpunPlatesModel", "sorted", "[I", true)
  | 26 => ("SpunPlatesModel", "order", "[I", true)
  | 27 => ("SpunPlatesModel", "bestSticks", "[I", true)
  | 28 => ("SpunPlatesModel", "exact", "[I", true)
  | 29 => ("SpunPlatesModel", "exactMany", "I", false)
  | 30 => ("SpunPlatesModel", "lives", "[I", true)
  | 31 => ("SpunPlatesModel", "laidFor", "I", false)
  | 32 => ("SpunPlatesModel", "farTo", "[I", true)
  | 33 => ("SpunPlatesModel", "queue", "[I", true)
  | 34 => ("SpunPlatesModel", "gaspsOf", "[I", true)
  | 35 => ("SpunPlatesModel", "upAt", "[I", true)
  | 36 => ("SpunPlatesModel", "kept", "[I", true)
  | 37 => ("SpunPlatesModel", "isKept", "[Z", true)
  | 38 => ("SpunPlatesModel", "keptAt", "I", false)
  | _ => ("SpunPlatesModel", "isWriting", "Z", false)
def tyX7 : Nat → FieldType := fun k => match k with
  | 0 => .array .int
  | 1 => .array .int
  | 2 => .array .int
  | 3 => .array .int
  | 4 => .int
  | 5 => .int
  | 6 => .int
  | 7 => .int
  | 8 => .int
  | 9 => .int
  | 10 => .array .int
  | 11 => .array .int
  | 12 => .int
  | 13 => .int
  | 14 => .int
  | 15 => .int
  | 16 => .int
  | 17 => .array .int
  | 18 => .array .int
  | 19 => .array .int
  | 20 => .int
  | 21 => .array .int
  | 22 => .int
  | 23 => .int
  | 24 => .int
  | 25 => .array .int
  | 26 => .array .int
  | 27 => .array .int
  | 28 => .array .int
  | 29 => .int
  | 30 => .array .int
  | 31 => .int
  | 32 => .array .int
  | 33 => .array .int
  | 34 => .array .int
  | 35 => .array .int
  | 36 => .array .int
  | 37 => .array .boolean
  | 38 => .int
  | _ => .boolean
abbrev wsX70 : List Cond := u_ws RX7 TX7 40
theorem nmX7 : ∀ a, a < 40 → ∀ b, b < 40 → a ≠ b → (TX7 a).2.1 ≠ (TX7 b).2.1 := by decide +kernel
theorem tyX7_ok : ∀ k, k < 40 → parseFieldDescriptor (TX7 k).2.2.1 = some (tyX7 k) := by decide +kernel
abbrev cX7_init : ByteArray := prog_9_method_1_code
def yX7_init : MethodName := ⟨RX7, "<init>", "()V"⟩
abbrev cX7_in : ByteArray := prog_9_method_3_code
def yX7_in : MethodName := ⟨RX7, "in", "(JJJ)Z"⟩
abbrev cX7_apart : ByteArray := prog_9_method_4_code
def yX7_apart : MethodName := ⟨RX7, "apart", "(II)I"⟩
abbrev cX7_isPlate : ByteArray := prog_9_method_5_code
def yX7_isPlate : MethodName := ⟨RX7, "isPlate", "(I)Z"⟩
abbrev cX7_plateAt : ByteArray := prog_9_method_6_code
def yX7_plateAt : MethodName := ⟨RX7, "plateAt", "(I)I"⟩
abbrev cX7_plate : ByteArray := prog_9_method_7_code
def yX7_plate : MethodName := ⟨RX7, "plate", "(III)I"⟩
abbrev cX7_turn : ByteArray := prog_9_method_8_code
def yX7_turn : MethodName := ⟨RX7, "turn", "(II)I"⟩
abbrev cX7_set : ByteArray := prog_9_method_9_code
def yX7_set : MethodName := ⟨RX7, "set", "(II)I"⟩
abbrev cX7_setNow : ByteArray := prog_9_method_10_code
def yX7_setNow : MethodName := ⟨RX7, "setNow", "(I)I"⟩
abbrev cX7_about : ByteArray := prog_9_method_11_code
def yX7_about : MethodName := ⟨RX7, "about", "(II)I"⟩
abbrev cX7_standing : ByteArray := prog_9_method_12_code
def yX7_standing : MethodName := ⟨RX7, "standing", "()I"⟩
abbrev cX7_begin : ByteArray := prog_9_method_13_code
def yX7_begin : MethodName := ⟨RX7, "begin", "()V"⟩
abbrev cX7_note : ByteArray := prog_9_method_14_code
def yX7_note : MethodName := ⟨RX7, "note", "()V"⟩
abbrev cX7_simStanding : ByteArray := prog_9_method_15_code
def yX7_simStanding : MethodName := ⟨RX7, "simStanding", "()I"⟩
abbrev cX7_simHere : ByteArray := prog_9_method_16_code
def yX7_simHere : MethodName := ⟨RX7, "simHere", "()I"⟩
abbrev cX7_can : ByteArray := prog_9_method_17_code
def yX7_can : MethodName := ⟨RX7, "can", "(I)Z"⟩
abbrev cX7_doThing : ByteArray := prog_9_method_18_code
def yX7_doThing : MethodName := ⟨RX7, "doThing", "(I)V"⟩
abbrev cX7_wind : ByteArray := prog_9_method_19_code
def yX7_wind : MethodName := ⟨RX7, "wind", "(I)V"⟩
abbrev cX7_seen : ByteArray := prog_9_method_20_code
def yX7_seen : MethodName := ⟨RX7, "seen", "(I)I"⟩
abbrev cX7_far : ByteArray := prog_9_method_21_code
def yX7_far : MethodName := ⟨RX7, "far", "(I)I"⟩
abbrev cX7_worst : ByteArray := prog_9_method_22_code
def yX7_worst : MethodName := ⟨RX7, "worst", "()I"⟩
abbrev cX7_near : ByteArray := prog_9_method_23_code
def yX7_near : MethodName := ⟨RX7, "near", "()I"⟩
abbrev cX7_following : ByteArray := prog_9_method_24_code
def yX7_following : MethodName := ⟨RX7, "following", "()I"⟩
abbrev cX7_left : ByteArray := prog_9_method_25_code
def yX7_left : MethodName := ⟨RX7, "left", "()I"⟩
abbrev cX7_thingBy : ByteArray := prog_9_method_26_code
def yX7_thingBy : MethodName := ⟨RX7, "thingBy", "(I)I"⟩
abbrev cX7_goBy : ByteArray := prog_9_method_27_code
def yX7_goBy : MethodName := ⟨RX7, "goBy", "(I)V"⟩
abbrev cX7_tick : ByteArray := prog_9_method_28_code
def yX7_tick : MethodName := ⟨RX7, "tick", "(I)I"⟩
abbrev cX7_takeOver : ByteArray := prog_9_method_29_code
def yX7_takeOver : MethodName := ⟨RX7, "takeOver", "()V"⟩
abbrev cX7_say : ByteArray := prog_9_method_30_code
def yX7_say : MethodName := ⟨RX7, "say", "(I)I"⟩
abbrev cX7_wipe : ByteArray := prog_9_method_31_code
def yX7_wipe : MethodName := ⟨RX7, "wipe", "()I"⟩
abbrev cX7_thingOf : ByteArray := prog_9_method_32_code
def yX7_thingOf : MethodName := ⟨RX7, "thingOf", "(I)I"⟩
abbrev cX7_fault : ByteArray := prog_9_method_33_code
def yX7_fault : MethodName := ⟨RX7, "fault", "()I"⟩
abbrev cX7_judgeAll : ByteArray := prog_9_method_34_code
def yX7_judgeAll : MethodName := ⟨RX7, "judgeAll", "()V"⟩
abbrev cX7_judge : ByteArray := prog_9_method_35_code
def yX7_judge : MethodName := ⟨RX7, "judge", "(I)I"⟩
abbrev cX7_sumOfTurns : ByteArray := prog_9_method_36_code
def yX7_sumOfTurns : MethodName := ⟨RX7, "sumOfTurns", "()I"⟩
abbrev cX7_show : ByteArray := prog_9_method_37_code
def yX7_show : MethodName := ⟨RX7, "show", "()I"⟩
abbrev cX7_isRule : ByteArray := prog_9_method_38_code
def yX7_isRule : MethodName := ⟨RX7, "isRule", "(I)Z"⟩
abbrev cX7_lastsOf : ByteArray := prog_9_method_39_code
def yX7_lastsOf : MethodName := ⟨RX7, "lastsOf", "(I)I"⟩
abbrev cX7_lasts : ByteArray := prog_9_method_40_code
def yX7_lasts : MethodName := ⟨RX7, "lasts", "(I)I"⟩
abbrev cX7_at : ByteArray := prog_9_method_41_code
def yX7_at : MethodName := ⟨RX7, "at", "(III)I"⟩
abbrev cX7_isAs : ByteArray := prog_9_method_42_code
def yX7_isAs : MethodName := ⟨RX7, "isAs", "(II)Z"⟩
abbrev cX7_round : ByteArray := prog_9_method_43_code
def yX7_round : MethodName := ⟨RX7, "round", "(II)I"⟩
abbrev cX7_sortPlaces : ByteArray := prog_9_method_44_code
def yX7_sortPlaces : MethodName := ⟨RX7, "sortPlaces", "()V"⟩
abbrev cX7_layOrder : ByteArray := prog_9_method_45_code
def yX7_layOrder : MethodName := ⟨RX7, "layOrder", "()V"⟩
abbrev cX7_nextOrder : ByteArray := prog_9_method_46_code
def yX7_nextOrder : MethodName := ⟨RX7, "nextOrder", "()Z"⟩
abbrev cX7_findSticks : ByteArray := prog_9_method_47_code
def yX7_findSticks : MethodName := ⟨RX7, "findSticks", "(I)I"⟩
abbrev cX7_sticks : ByteArray := prog_9_method_48_code
def yX7_sticks : MethodName := ⟨RX7, "sticks", "(II)I"⟩
abbrev cX7_findExact : ByteArray := prog_9_method_49_code
def yX7_findExact : MethodName := ⟨RX7, "findExact", "()Z"⟩
abbrev cX7_stateNow : ByteArray := prog_9_method_50_code
def yX7_stateNow : MethodName := ⟨RX7, "stateNow", "()I"⟩
abbrev cX7_turnIn : ByteArray := prog_9_method_51_code
def yX7_turnIn : MethodName := ⟨RX7, "turnIn", "(II)I"⟩
abbrev cX7_isState : ByteArray := prog_9_method_52_code
def yX7_isState : MethodName := ⟨RX7, "isState", "(I)Z"⟩
abbrev cX7_nextState : ByteArray := prog_9_method_53_code
def yX7_nextState : MethodName := ⟨RX7, "nextState", "(II)I"⟩
abbrev cX7_layLives : ByteArray := prog_9_method_54_code
def yX7_layLives : MethodName := ⟨RX7, "layLives", "()V"⟩
abbrev cX7_endsIn : ByteArray := prog_9_method_55_code
def yX7_endsIn : MethodName := ⟨RX7, "endsIn", "(II)Z"⟩
abbrev cX7_kept : ByteArray := prog_9_method_56_code
def yX7_kept : MethodName := ⟨RX7, "kept", "()I"⟩
abbrev cX7_longest : ByteArray := prog_9_method_57_code
def yX7_longest : MethodName := ⟨RX7, "longest", "()I"⟩
abbrev cX7_step : ByteArray := prog_9_method_58_code
def yX7_step : MethodName := ⟨RX7, "step", "()I"⟩
abbrev cX7_canBow : ByteArray := prog_9_method_59_code
def yX7_canBow : MethodName := ⟨RX7, "canBow", "(II)Z"⟩
abbrev cX7_bow : ByteArray := prog_9_method_60_code
def yX7_bow : MethodName := ⟨RX7, "bow", "(I)I"⟩
abbrev cX7_gaspsIn : ByteArray := prog_9_method_61_code
def yX7_gaspsIn : MethodName := ⟨RX7, "gaspsIn", "(I)I"⟩
abbrev cX7_gaspsBy : ByteArray := prog_9_method_62_code
def yX7_gaspsBy : MethodName := ⟨RX7, "gaspsBy", "(III)I"⟩
abbrev cX7_gasps : ByteArray := prog_9_method_63_code
def yX7_gasps : MethodName := ⟨RX7, "gasps", "(II)I"⟩
abbrev cX7_load : ByteArray := prog_9_method_64_code
def yX7_load : MethodName := ⟨RX7, "load", "(I)I"⟩
abbrev cX7_setUpOf : ByteArray := prog_9_method_65_code
def yX7_setUpOf : MethodName := ⟨RX7, "setUpOf", "()I"⟩
abbrev cX7_layTold : ByteArray := prog_9_method_66_code
def yX7_layTold : MethodName := ⟨RX7, "layTold", "(I)Z"⟩
abbrev cX7_setUp : ByteArray := prog_9_method_67_code
def yX7_setUp : MethodName := ⟨RX7, "setUp", "(I)I"⟩
abbrev cX7_bestOrder : ByteArray := prog_9_method_68_code
def yX7_bestOrder : MethodName := ⟨RX7, "bestOrder", "()I"⟩
abbrev cX7_likeOf : ByteArray := prog_9_method_69_code
def yX7_likeOf : MethodName := ⟨RX7, "likeOf", "(I)I"⟩
abbrev cX7_film : ByteArray := prog_9_method_70_code
def yX7_film : MethodName := ⟨RX7, "film", "(I)I"⟩
abbrev cX7_whose : ByteArray := prog_9_method_71_code
def yX7_whose : MethodName := ⟨RX7, "whose", "()I"⟩
abbrev cX7_pass : ByteArray := prog_9_method_72_code
def yX7_pass : MethodName := ⟨RX7, "pass", "(I)I"⟩
abbrev cX7_passAll : ByteArray := prog_9_method_73_code
def yX7_passAll : MethodName := ⟨RX7, "passAll", "()V"⟩
abbrev cX7_image : ByteArray := prog_9_method_74_code
def yX7_image : MethodName := ⟨RX7, "image", "(I)I"⟩
abbrev cX7_restore : ByteArray := prog_9_method_75_code
def yX7_restore : MethodName := ⟨RX7, "restore", "(I)I"⟩
abbrev cX7_told : ByteArray := prog_9_method_76_code
def yX7_told : MethodName := ⟨RX7, "told", "(I)I"⟩
def RJx8e188 : String := "java/lang/Cloneable"
def TJx8e188 : u_T := fun k => match k with
  | _ => ("", "", "", false)
def tyJx8e188 : Nat → FieldType := fun k => match k with
  | _ => .int
abbrev wsJx8e1880 : List Cond := u_ws RJx8e188 TJx8e188 0
theorem nmJx8e188 : ∀ a, a < 0 → ∀ b, b < 0 → a ≠ b → (TJx8e188 a).2.1 ≠ (TJx8e188 b).2.1 := by decide +kernel
theorem tyJx8e188_ok : ∀ k, k < 0 → parseFieldDescriptor (TJx8e188 k).2.2.1 = some (tyJx8e188 k) := by decide +kernel
def RJ6 : String := "java/lang/Integer"
def TJ6 : u_T := fun k => match k with
  | _ => ("", "", "", false)
def tyJ6 : Nat → FieldType := fun k => match k with
  | _ => .int
abbrev wsJ60 : List Cond := u_ws RJ6 TJ6 0
theorem nmJ6 : ∀ a, a < 0 → ∀ b, b < 0 → a ≠ b → (TJ6 a).2.1 ≠ (TJ6 b).2.1 := by decide +kernel
theorem tyJ6_ok : ∀ k, k < 0 → parseFieldDescriptor (TJ6 k).2.2.1 = some (tyJ6 k) := by decide +kernel
abbrev cJ6_bitCount_0f7a4 : ByteArray := prog_11_method_49_code
def yJ6_bitCount_0f7a4 : MethodName := ⟨RJ6, "bitCount", "(I)I"⟩
def RJ9 : String := "java/lang/Math"
def TJ9 : u_T := fun k => match k with
  | _ => ("", "", "", false)
def tyJ9 : Nat → FieldType := fun k => match k with
  | _ => .int
abbrev wsJ90 : List Cond := u_ws RJ9 TJ9 0
theorem nmJ9 : ∀ a, a < 0 → ∀ b, b < 0 → a ≠ b → (TJ9 a).2.1 ≠ (TJ9 b).2.1 := by decide +kernel
theorem tyJ9_ok : ∀ k, k < 0 → parseFieldDescriptor (TJ9 k).2.2.1 = some (tyJ9 k) := by decide +kernel
abbrev cJ9_abs_0f7a4 : ByteArray := prog_12_method_59_code
def yJ9_abs_0f7a4 : MethodName := ⟨RJ9, "abs", "(I)I"⟩
abbrev cJ9_max_7cf53 : ByteArray := prog_12_method_65_code
def yJ9_max_7cf53 : MethodName := ⟨RJ9, "max", "(II)I"⟩
abbrev cJ9_min_7cf53 : ByteArray := prog_12_method_69_code
def yJ9_min_7cf53 : MethodName := ⟨RJ9, "min", "(II)I"⟩
def RJ10 : String := "java/lang/System"
def TJ10 : u_T := fun k => match k with
  | _ => ("", "", "", false)
def tyJ10 : Nat → FieldType := fun k => match k with
  | _ => .int
abbrev wsJ100 : List Cond := u_ws RJ10 TJ10 0
theorem nmJ10 : ∀ a, a < 0 → ∀ b, b < 0 → a ≠ b → (TJ10 a).2.1 ≠ (TJ10 b).2.1 := by decide +kernel
theorem tyJ10_ok : ∀ k, k < 0 → parseFieldDescriptor (TJ10 k).2.2.1 = some (tyJ10 k) := by decide +kernel
def RJ7 : String := "java/util/Arrays"
def TJ7 : u_T := fun k => match k with
  | _ => ("", "", "", false)
def tyJ7 : Nat → FieldType := fun k => match k with
  | _ => .int
abbrev wsJ70 : List Cond := u_ws RJ7 TJ7 0
theorem nmJ7 : ∀ a, a < 0 → ∀ b, b < 0 → a ≠ b → (TJ7 a).2.1 ≠ (TJ7 b).2.1 := by decide +kernel
theorem tyJ7_ok : ∀ k, k < 0 → parseFieldDescriptor (TJ7 k).2.2.1 = some (tyJ7 k) := by decide +kernel
abbrev cJ7_fill_53178 : ByteArray := prog_14_method_103_code
def yJ7_fill_53178 : MethodName := ⟨RJ7, "fill", "([II)V"⟩
def RL : String := "SpunPlatesLaw"
abbrev cL_law : ByteArray := code
def yL_law : MethodName := ⟨RL, "law", "([I)Z"⟩
end
section
/-! ===== own: the abstract machine V over the kit's W ===== -/
def vTb : List Cond := lw_tbl.filter goodWord
theorem vTb_in {w : Cond} (h : w ∈ lw_tbl) (hg : goodWord w = true) : w ∈ vTb := List.mem_filter.mpr ⟨h, hg⟩
theorem vTb_t {w : Cond} (i : Nat) (h : tables_1[i]? = some w) (hg : goodWord w = true) : w ∈ vTb := vTb_in (List.mem_append_right _ (List.mem_of_getElem? h)) hg
theorem vTb_p {q : MethodName × Nat} (i : Nat) (h : lw_privs[i]? = some q) : Cond.selects q.1.cls q.1 q.1 ∈ vTb :=
  vTb_in (List.mem_append_left _ (List.mem_map.mpr ⟨q, List.mem_of_getElem? h, rfl⟩)) rfl
def vWs (y : MethodName) (cc : ByteArray) (n : Nat) (ret : Option FieldType) : List Cond := Cond.code y cc n ret :: vTb
theorem vGood {y : MethodName} {cc : ByteArray} {n : Nat} {ret : Option FieldType} (h : Cond.code y cc n ret ∈ vTb) {Ts : List Cond} (hT : ∀ w ∈ vTb, w ∈ Ts) : GoodIn Ts (vWs y cc n ret) := by
  intro w hw
  have hw' : w ∈ vTb := by
    rcases List.mem_cons.mp hw with rfl | h2
    · exact h
    · exact h2
  exact ⟨hT w hw', good_of_word (List.mem_filter.mp hw').2⟩
-- abstract values
abbrev vA : Type := Int ⊕ (Option Nat ⊕ Int)
abbrev vI (x : Int) : vA := Sum.inl x
abbrev vR (k : Nat) : vA := Sum.inr (Sum.inl (some k))
abbrev vRo (r : Option Nat) : vA := Sum.inr (Sum.inl r)
abbrev vL (x : Int) : vA := Sum.inr (Sum.inr x)
abbrev vT : Type := Nat → Nat → Option Nat
abbrev vM : Type := Nat → Int → Int
abbrev vIn (x : Int) : Prop := -2147483648 ≤ x ∧ x < 2147483648
def vc (ρ : Nat → Nat) : vA → Value
  | .inl x => .int (Int32.ofInt x)
  | .inr (.inl r) => va_rf (r.map ρ)
  | .inr (.inr x) => .long (Int64.ofInt x)
def vOk (d : List Nat) : vA → Prop
  | .inl x => vIn x
  | .inr (.inl r) => ∀ k, r = some k → k ∈ d
  | .inr (.inr x) => vIn x
def vLg : vA → Bool
  | .inr (.inr _) => true
  | _ => false
def vCat (v : vA) : Nat := if vLg v then 2 else 1
theorem vc_cat (ρ : Nat → Nat) (v : vA) : (vc ρ v).category = vCat v := by
  rcases v with x | r | x
  · rfl
  · cases r <;> rfl
  · rfl
theorem vc_mono {ρ ρ' : Nat → Nat} {d : List Nat} (h : ∀ k ∈ d, ρ' k = ρ k) {v : vA} (hv : vOk d v) : vc ρ' v = vc ρ v := by
  rcases v with x | r | x
  · rfl
  · cases r with
    | none => rfl
    | some k => show va_rf (some (ρ' k)) = va_rf (some (ρ k)); rw [h k (hv k rfl)]
  · rfl
theorem vc_monoL {ρ ρ' : Nat → Nat} {d : List Nat} (h : ∀ k ∈ d, ρ' k = ρ k) {S : List vA} (hv : ∀ v ∈ S, vOk d v) : S.map (vc ρ') = S.map (vc ρ) :=
  List.map_congr_left fun v hm => vc_mono h (hv v hm)
theorem vOk_mono {d d' : List Nat} (h : ∀ k ∈ d, k ∈ d') {v : vA} (hv : vOk d v) : vOk d' v := by
  rcases v with x | r | x
  · exact hv
  · exact fun k hk => h k (hv k hk)
  · exact hv
-- locals
def vl (ρ : Nat → Nat) (L : List (Option vA)) : List (Nat × Value) := (List.range L.length).filterMap fun i => match L[i]? with
  | some (some v) => some (i, vc ρ v)
  | _ => none
theorem vl_mem {ρ : Nat → Nat} {L : List (Option vA)} {q : Nat × Value} : q ∈ vl ρ L ↔ ∃ v, L[q.1]? = some (some v) ∧ q.2 = vc ρ v := by
  constructor
  · intro h
    obtain ⟨i, -, hi⟩ := List.mem_filterMap.mp h
    split at hi
    · rename_i v hv
      cases hi
      exact ⟨v, hv, rfl⟩
    · cases hi
  · rintro ⟨v, h1, h2⟩
    refine List.mem_filterMap.mpr ⟨q.1, List.mem_range.mpr (List.getElem?_eq_some_iff.mp h1).1, ?_⟩
    rw [h1]
    show some (q.1, vc ρ v) = some q
    rw [← h2]
def vLok (d : List Nat) (L : List (Option vA)) : Prop := ∀ (i : Nat) (v : vA), L[i]? = some (some v) → vOk d v ∧ vLg v = false
theorem vl_at {ls : Array Slot} {n : Nat} {ρ : Nat → Nat} {L : List (Option vA)} (h : lv_has ls n (vl ρ L)) {i : Nat} {v : vA} (hi : L[i]? = some (some v)) : ls[i]? = some (.val (vc ρ v)) :=
  h.2.2 (i, vc ρ v) (vl_mem.mpr ⟨v, hi, rfl⟩)
theorem vl_set {ls : Array Slot} {n : Nat} {ρ : Nat → Nat} {L : List (Option vA)} {d : List Nat} (hL : vLok d L) {i : Nat} {v : vA} (h : lv_has ls n ((i, vc ρ v) :: (vl ρ L).filter (fun q => !(q.1 == i) && !(q.1 + 1 == i && q.2.category == 2)))) : lv_has ls n (vl ρ (L.set i (some v))) := by
  refine ⟨h.1, h.2.1, fun q hq => h.2.2 q ?_⟩
  obtain ⟨w, h1, h2⟩ := vl_mem.mp hq
  by_cases hi : q.1 = i
  · have hlt : i < L.length := by
      have := (List.getElem?_eq_some_iff.mp h1).1
      rw [List.length_set] at this
      omega
    rw [hi, List.getElem?_set_self hlt] at h1
    cases h1
    refine List.mem_cons.mpr (Or.inl ?_)
    rw [← hi, ← h2]
  · rw [List.getElem?_set_ne (fun z => hi z.symm)] at h1
    refine List.mem_cons.mpr (Or.inr (List.mem_filter.mpr ⟨vl_mem.mpr ⟨w, h1, h2⟩, ?_⟩))
    have hc : q.2.category = 1 := by rw [h2, vc_cat]; simp [vCat, (hL _ _ h1).2]
    simp [hi, hc]
theorem vLok_set {d : List Nat} {L : List (Option vA)} (hL : vLok d L) {i : Nat} {v : vA} (hv : vOk d v) (hl : vLg v = false) : vLok d (L.set i (some v)) := by
  intro j w hj
  by_cases hi : i = j
  · subst hi
    have hlt : i < L.length := by
      have := (List.getElem?_eq_some_iff.mp hj).1
      rwa [List.length_set] at this
    rw [List.getElem?_set_self hlt] at hj
    cases hj
    exact ⟨hv, hl⟩
  · rw [List.getElem?_set_ne hi] at hj
    exact hL j w hj
theorem vl_monoL {ρ ρ' : Nat → Nat} {d : List Nat} (h : ∀ k ∈ d, ρ' k = ρ k) {L : List (Option vA)} (hL : vLok d L) {ls : Array Slot} {n : Nat} (hh : lv_has ls n (vl ρ L)) : lv_has ls n (vl ρ' L) := by
  refine ⟨hh.1, hh.2.1, fun q hq => ?_⟩
  obtain ⟨w, h1, h2⟩ := vl_mem.mp hq
  rw [h2, vc_mono h (hL _ _ h1).1]
  exact vl_at hh h1
theorem vLok_mono {d d' : List Nat} (h : ∀ k ∈ d, k ∈ d') {L : List (Option vA)} (hL : vLok d L) : vLok d' L := fun i v hi => ⟨vOk_mono h (hL i v hi).1, (hL i v hi).2⟩
-- the cells
abbrev vCl : List vw_C := [(RX0, TX0, 9), (RX1, TX1, 3), (RX2, TX2, 2), (RX3, TX3, 6), (RX4, TX4, 4), (RX5, TX5, 8), (RX6, TX6, 8), (RX7, TX7, 40)]
def vNf (ci : Nat) : Nat := match ci with
  | 0 => 9 | 1 => 3 | 2 => 2 | 3 => 6 | 4 => 4 | 5 => 8 | 6 => 8 | 7 => 40 | _ => 0
def vTy (ci k : Nat) : FieldType := match ci with
  | 0 => tyX0 k | 1 => tyX1 k | 2 => tyX2 k | 3 => tyX3 k | 4 => tyX4 k | 5 => tyX5 k | 6 => tyX6 k | _ => tyX7 k
def vKt : List (Nat × Nat × Nat) := [(0,0,6),(1,3,2),(10,0,3),(11,1,6),(12,1,6),(13,1,6),(14,1,6),(15,1,5),(20,0,3),(21,1,6),(22,1,6),(23,1,6),(24,1,6),(25,1,5),(30,0,3),(31,1,6),(32,1,6),(33,1,6),(34,1,6),(35,1,5),
  (40,0,3),(41,1,6),(42,1,6),(43,1,6),(44,1,6),(45,1,5),(50,0,3),(51,1,6),(52,1,6),(53,1,6),(54,1,6),(55,1,5),(60,0,1),(61,1,40),(62,1,180),(70,0,5),(76,1,601),(77,1,601),(80,0,4),(81,1,6),(82,1,6),(83,1,6),(90,0,2),(91,1,6),(92,1,6),
  (100,0,0),(102,1,3),(103,1,3),(104,1,8),(106,1,32768),(107,1,32768),(108,1,32768),(200,0,7),(201,1,6),(202,1,6),(203,1,6),(204,1,6),(211,1,6),(212,1,6),(218,1,601),(219,1,601),(220,1,40),(222,1,400),(226,1,6),(227,1,6),(228,1,6),(229,1,3),
  (231,1,32768),(233,1,32768),(234,1,32768),(235,1,65536),(236,1,6),(237,1,80),(238,2,2)]
def vKK (k : Nat) : Nat × Nat := (vKt.lookup k).getD (9, 0)
def vSl (k : Nat) : Nat := match vKK k with
  | (0, ci) => vNf ci
  | (_, n) => n
def vSz (d : List Nat) : Nat := (d.map vSl).sum
def vFv (ρ : Nat → Nat) (T : vT) (M : vM) (k ci j : Nat) : Value := match vTy ci j with
  | .int => .int (Int32.ofInt (M k j))
  | .boolean => .int (Int32.ofInt (M k j))
  | _ => va_rf ((T k j).map ρ)
abbrev vQc : Type := ClassId × ClassId × ClassId
def vCe (q : vQc) (ρ : Nat → Nat) (T : vT) (M : vM) (k : Nat) : va_E := match vKK k with
  | (0, ci) => .inr (ci, (List.range (vNf ci)).map (vFv ρ T M k ci))
  | (1, n) => .inl (q.1, n, .inl (fun j => Int32.ofInt (M k j)))
  | (2, n) => .inl (q.2.1, n, .inl (fun j => Int32.ofInt (M k j)))
  | (_, n) => .inl (q.2.2, n, .inr (.inr (.inr (.inr (fun j => (T k j).map ρ)))))
def vW (q : vQc) (ρ : Nat → Nat) (d : List Nat) (T : vT) (M : vM) : va_W := d.map fun k => (ρ k, vCe q ρ T M k)
theorem vCe_o {q : vQc} {ρ : Nat → Nat} {T : vT} {M : vM} {k ci : Nat} (h : vKK k = (0, ci)) : vCe q ρ T M k = .inr (ci, (List.range (vNf ci)).map (vFv ρ T M k ci)) := by simp only [vCe, h]
theorem vCe_i {q : vQc} {ρ : Nat → Nat} {T : vT} {M : vM} {k n : Nat} (h : vKK k = (1, n)) : vCe q ρ T M k = .inl (q.1, n, .inl (fun j => Int32.ofInt (M k j))) := by simp only [vCe, h]
theorem vCe_z {q : vQc} {ρ : Nat → Nat} {T : vT} {M : vM} {k n : Nat} (h : vKK k = (2, n)) : vCe q ρ T M k = .inl (q.2.1, n, .inl (fun j => Int32.ofInt (M k j))) := by simp only [vCe, h]
theorem vCe_r {q : vQc} {ρ : Nat → Nat} {T : vT} {M : vM} {k n : Nat} (h : vKK k = (3, n)) : vCe q ρ T M k = .inl (q.2.2, n, .inr (.inr (.inr (.inr (fun j => (T k j).map ρ))))) := by simp only [vCe, h]
theorem vW_at {q : vQc} {ρ : Nat → Nat} {d : List Nat} {T : vT} {M : vM} {k : Nat} (h : k ∈ d) : ∃ i : Nat, d[i]? = some k ∧ (vW q ρ d T M)[i]? = some (ρ k, vCe q ρ T M k) := by
  obtain ⟨i, hi⟩ := List.getElem?_of_mem h
  exact ⟨i, hi, by simp [vW, hi]⟩
/-- the places of the world are apart: so are the names -/
theorem vW_nd {q : vQc} {ρ : Nat → Nat} {d : List Nat} {T : vT} {M : vM} {A : Nat → Prop} (hD : va_D A (vW q ρ d T M)) {i j k : Nat} (hi : d[i]? = some k) (hj : d[j]? = some k) : i = j :=
  hD.1 i j (ρ k, vCe q ρ T M k) (ρ k, vCe q ρ T M k) (by simp [vW, hi]) (by simp [vW, hj]) rfl
/-- one cell changes: the world with the new numbers -/
theorem vW_set {q : vQc} {ρ : Nat → Nat} {d : List Nat} {T T' : vT} {M M' : vM} {A : Nat → Prop} (hD : va_D A (vW q ρ d T M)) {i k : Nat} {e : va_E} (hi : d[i]? = some k) (he : vCe q ρ T' M' k = e) (ho : ∀ k', k' ≠ k → vCe q ρ T' M' k' = vCe q ρ T M k') :
    (vW q ρ d T M).set i (ρ k, e) = vW q ρ d T' M' := by
  apply List.ext_getElem?
  intro j
  by_cases hj : i = j
  · subst hj
    have hl : i < (vW q ρ d T M).length := by simp only [vW, List.length_map]; exact (List.getElem?_eq_some_iff.mp hi).1
    rw [List.getElem?_set_self hl]
    simp [vW, hi, he]
  · rw [List.getElem?_set_ne hj]
    simp only [vW, List.getElem?_map]
    cases hk : d[j]? with
    | none => rfl
    | some k' =>
      have hne : k' ≠ k := fun z => hj (vW_nd hD hi (z ▸ hk))
      simp [ho k' hne]
def vUpd (M : vM) (k : Nat) (i x : Int) : vM := fun a j => if a = k ∧ j = i then x else M a j
def vUpT (T : vT) (k i : Nat) (r : Option Nat) : vT := fun a j => if a = k ∧ j = i then r else T a j
theorem vUpd_in {M : vM} {k : Nat} {i x : Int} (hM : ∀ a j, vIn (M a j)) (hx : vIn x) : ∀ a j, vIn (vUpd M k i x a j) := by
  intro a j
  unfold vUpd
  split
  · exact hx
  · exact hM a j
theorem vUpd_row {M : vM} {k k' : Nat} {i x : Int} (h : k' ≠ k) : vUpd M k i x k' = M k' := by
  funext j; simp [vUpd, h]
theorem vUpT_row {T : vT} {k k' i : Nat} {r : Option Nat} (h : k' ≠ k) : vUpT T k i r k' = T k' := by
  funext j; simp [vUpT, h]
theorem vFv_row {ρ : Nat → Nat} {T T' : vT} {M M' : vM} {k ci : Nat} (hM : M' k = M k) (hT : T' k = T k) : vFv ρ T' M' k ci = vFv ρ T M k ci := by
  funext j; unfold vFv; rw [hM, hT]
theorem vCe_row {q : vQc} {ρ : Nat → Nat} {T T' : vT} {M M' : vM} {k : Nat} (hM : M' k = M k) (hT : T' k = T k) : vCe q ρ T' M' k = vCe q ρ T M k := by
  unfold vCe
  split
  · rw [vFv_row hM hT]
  · rw [hM]
  · rw [hM]
  · rw [hT]
theorem vCe_mono {q : vQc} {ρ ρ' : Nat → Nat} {T : vT} {M : vM} {d : List Nat} (h : ∀ k ∈ d, ρ' k = ρ k) (hT : ∀ k j v, T k j = some v → v ∈ d) (k : Nat) : vCe q ρ' T M k = vCe q ρ T M k := by
  have hm : ∀ j, (T k j).map ρ' = (T k j).map ρ := by
    intro j
    cases hz : T k j with
    | none => rfl
    | some v => show some (ρ' v) = some (ρ v); rw [h v (hT k j v hz)]
  unfold vCe
  split
  · have : vFv ρ' T M k = vFv ρ T M k := by
      funext ci j; unfold vFv; rw [hm]
    rw [this]
  · rfl
  · rfl
  · simp only [hm]
theorem vW_mono {q : vQc} {ρ ρ' : Nat → Nat} {T : vT} {M : vM} {d d' : List Nat} (h : ∀ k ∈ d, ρ' k = ρ k) (hT : ∀ k j v, T k j = some v → v ∈ d) (hd : ∀ k ∈ d', k ∈ d) : vW q ρ' d' T M = vW q ρ d' T M := by
  unfold vW
  refine List.map_congr_left fun k hk => ?_
  rw [h k (hd k hk), vCe_mono h hT]
end
section
/-! ===== own: the judgement V ===== -/
abbrev vMt : Type := MethodName × ByteArray × Nat × Option FieldType × Nat × Nat
def vTs (q : vQc) : List (ClassId × FieldType) := [(q.1, .int), (q.2.1, .boolean), (q.2.2, .object RX3)]
def vLeI (j : Nat) : Int := match j with
  | 0 => 0 | 1 => 1 | 2 => 1 | 3 => 0 | _ => 1
def vMoI (j : Nat) : Int := match j with
  | 0 => 7 | 1 => 6 | 2 => 9 | 3 => 3 | _ => 6
def vFiI (j : Nat) : Int := match j with
  | 0 => 0 | 1 => 3 | 2 => 4 | 3 => 0 | _ => 2
def vSt1 (n : String) (f : Nat → Int) (q : vQc) (A : Nat → Prop) (U : State) (H : Heap) : Prop := ∃ t : Nat, va_Z "SpunPlates" n "[I" (.ref t) A U H ∧ va_T .int t 5 (fun j => .int (Int32.ofInt (f j))) A U H ∧
  ∃ cell : Cell, H[t]? = some cell ∧ cell.cls = q.1 ∧ cell.slots.size = 5 ∧ (∀ k, cell.vm ≠ .statics k) ∧ cell.vm ≠ .unknown
def vSt (q : vQc) (A : Nat → Prop) (U : State) (H : Heap) : Prop := vSt1 "SETTING_LEAST" vLeI q A U H ∧ vSt1 "SETTING_MOST" vMoI q A U H ∧ vSt1 "SETTING_FIRST" vFiI q A U H
theorem vSt1.go {n : String} {f : Nat → Int} {q : vQc} {A B : Nat → Prop} {u U : State} {H H1 : Heap} (h : vSt1 n f q A u H) (hvm : u.vm.Alike U.vm) (hq : ∀ a : Nat, a < H.size → ¬ A a → H1[a]? = H[a]?) (hAB : ∀ z, B z → A z) : vSt1 n f q B U H1 := by
  obtain ⟨t, h1, h2, cell, h3, h4⟩ := h
  refine ⟨t, ((h1.moved hvm).kept hq).narrow hAB, ((h2.moved hvm).kept hq).narrow hAB, cell, ?_, h4⟩
  rw [hq t (Array.getElem?_eq_some_iff.mp h3).1 h2.out]
  exact h3
theorem vSt.go {q : vQc} {A B : Nat → Prop} {u U : State} {H H1 : Heap} (h : vSt q A u H) (hvm : u.vm.Alike U.vm) (hq : ∀ a : Nat, a < H.size → ¬ A a → H1[a]? = H[a]?) (hAB : ∀ z, B z → A z) : vSt q B U H1 :=
  ⟨h.1.go hvm hq hAB, h.2.1.go hvm hq hAB, h.2.2.go hvm hq hAB⟩
/-- links among nest mates, and what else isn't a word that a contract may bear -/
def vNm : List (String × Nat × MethodName) := [(RX6, 9, yX3_init), (RX6, 25, yX1_init), (RX6, 32, yX5_init), (RX5, 11, yX3_init), (RX6, 39, yX4_init), (RX6, 46, yX2_init), (RX6, 53, yX0_init), (RX4, 31, yX6_firstOrder), (RX4, 63, yX6_nextOrder), (RX2, 49, yX6_firstOrder), (RX2, 60, yX6_nextOrder)]
def vNw (s : State) : Prop := (∀ z ∈ vNm, va_Nw (.methodLinkNest z.1 z.2.1 z.2.2 "SpunPlates") s) ∧ va_Nw (.fieldLinkNest RX3 24 "SpunPlates" "SETTING_FIRST" "[I" "SpunPlates") s ∧ va_Nw (.castable "[I" "java/lang/Cloneable") s ∧ va_AO RX3 s
theorem vNw.warm {s U : State} (hW : s.WarmedH U.vm) (h : vNw s) : vNw U := ⟨fun z hz => (h.1 z hz).warmM hW, h.2.1.warmF hW, h.2.2.1.warmC hW, h.2.2.2.moved hW.alike⟩
theorem vNw.same {u U : State} (hv : u.vm = U.vm) (h : vNw u) : vNw U := ⟨fun z hz => (h.1 z hz).same rfl hv, h.2.1.same rfl hv, h.2.2.1.same rfl hv, h.2.2.2.moved (by rw [hv]; exact Vm.Alike.refl U.vm)⟩
def vX (mt : vMt) (p : Program) (s : State) (m : MethodId) (args : Array Value) (meth : Method) (c : Code) (D : va_G) (q : vQc) (A : Nat → Prop) : Prop :=
  p.tables.exec = Jvm.exec ∧ c.code = mt.2.1 ∧ c.maxLocals = mt.2.2.1 ∧ s.vm.findClass mt.1.cls = some m.cls ∧ (∀ w ∈ vTb, w.before args s = true) ∧ meth.sig.returnType = mt.2.2.2.1 ∧ meth.locks = false ∧ meth.name = mt.1.name ∧ va_K D vCl (vTs q) s ∧ (∀ z, s.heap.size ≤ z → A z) ∧ vSt q A s s.heap ∧ vNw s
/-- the numbers and names of a state are sound -/
def vN (d : List Nat) (T : vT) (M : vM) : Prop := (∀ k j, vIn (M k j)) ∧ ∀ k j v, T k j = some v → v ∈ d
def vS (D : va_G) (q : vQc) (A : Nat → Prop) (H0 : Heap) (ρ0 : Nat → Nat) (d0 : List Nat) (ρ : Nat → Nat) (d : List Nat) (T : vT) (M : vM) (H : Heap) (locs : List Loc) : Prop :=
  va_P D vCl (vW q ρ d T M) H ∧ va_D A (vW q ρ d T M) ∧ va_S A H0 H locs ∧ vN d T M ∧ ∀ k ∈ d0, k ∈ d ∧ ρ k = ρ0 k
def vRm (mt : vMt) (d0 dF : List Nat) : Room := { frames := mt.2.2.2.2.1, cells := dF.length - d0.length, slots := vSz dF - vSz d0, locals := mt.2.2.2.2.2 }
def vQq (q : vQc) (D : va_G) (A : Nat → Prop) (ρ0 : Nat → Nat) (d0 dF : List Nat) (Q : Option vA → vT → vM → Prop) : Array Value → State → Outcome → State → Prop := fun _ st o t =>
  (∃ (r : Option vA) (T' : vT) (M' : vM) (ρ' : Nat → Nat), o = .returned (r.map (vc ρ')) ∧ Q r T' M' ∧ va_P D vCl (vW q ρ' dF T' M') t.heap ∧ va_D A (vW q ρ' dF T' M') ∧ vN dF T' M' ∧ (∀ k ∈ d0, k ∈ dF ∧ ρ' k = ρ0 k) ∧ ∀ v, r = some v → vOk dF v) ∧ va_F A st t
/-- the room: what is made lies between the start's cells and the end's -/
def vLe (d0 d dF : List Nat) : Prop := d0.length ≤ d.length ∧ vSz d0 ≤ vSz d ∧ d.length ≤ dF.length ∧ vSz d ≤ vSz dF
def vV (mt : vMt) (d0 dF : List Nat) (Q : Option vA → vT → vM → Prop) (pc : Nat) (L : List (Option vA)) (S : List vA) (d : List Nat) (T : vT) (M : vM) : Prop :=
  ∀ (l : Launch) (p : Program) (e : Env) (s : State) (m : MethodId) (args : Array Value) (below : List Frame) (meth : Method) (c : Code) (D : va_G) (q : vQc) (A : Nat → Prop) (ρ0 ρ : Nat → Nat) (H : Heap) (locs : List Loc) (ls : Array Slot),
    vX mt p s m args meth c D q A → vS D q A s.heap ρ0 d0 ρ d T M H locs → lv_has ls mt.2.2.1 (vl ρ L) → vLok d L → (∀ v ∈ S, vOk d v) → vLe d0 d dF →
    W p l e (vRm mt d0 dF) s m args below meth c H locs (d.length - d0.length) (vSz d - vSz d0) (MQ below (vQq q D A ρ0 d0 dF Q) args s (dF.length - d0.length) (vSz dF - vSz d0) A) (F0 m pc ls (S.map (vc ρ)))
section VR
variable {mt : vMt} {d0 dF : List Nat} {Q : Option vA → vT → vM → Prop} {pc : Nat} {L : List (Option vA)} {S : List vA} {d : List Nat} {T : vT} {M : vM}
/-- an instruction that moves the stack alone -/
theorem vV.pure {pc' : Nat} {S' : List vA} (k : vV mt d0 dF Q pc' L S' d T M) (hok : vLok d L → (∀ v ∈ S, vOk d v) → ∀ v ∈ S', vOk d v)
    (hW : ∀ (p : Program) (l : Launch) (e : Env) (R : Room) (s : State) (m : MethodId) (args : Array Value) (below : List Frame) (meth : Method) (c : Code) (H : Heap) (locs : List Loc) (cells slots : Nat) (Z : State → Prop) (ls : Array Slot) (ρ : Nat → Nat), p.tables.exec = Jvm.exec → c.code = mt.2.1 → s.vm.findClass mt.1.cls = some m.cls → (∀ w ∈ vTb, w.before args s = true) → lv_has ls mt.2.2.1 (vl ρ L) → (∀ v ∈ S, vOk d v) →
      W p l e R s m args below meth c H locs cells slots Z (F0 m pc' ls (S'.map (vc ρ))) → W p l e R s m args below meth c H locs cells slots Z (F0 m pc ls (S.map (vc ρ)))) : vV mt d0 dF Q pc L S d T M := by
  intro l p e s m args below meth c D q A ρ0 ρ H locs ls hX hS hl hL hs hn
  exact hW p l e _ s m args below meth c H locs _ _ _ ls ρ hX.1 hX.2.1 hX.2.2.2.1 hX.2.2.2.2.1 hl hs (k l p e s m args below meth c D q A ρ0 ρ H locs ls hX hS hl hL (hok hL hs) hn)
theorem vOk_t {v : vA} {S : List vA} (h : ∀ w ∈ v :: S, vOk d w) : ∀ w ∈ S, vOk d w := fun w hw => h w (List.mem_cons_of_mem _ hw)
theorem vOk_h {v : vA} {S : List vA} (h : ∀ w ∈ v :: S, vOk d w) : vOk d v := h v List.mem_cons_self
theorem vOk_c {v : vA} {S : List vA} (hv : vOk d v) (h : ∀ w ∈ S, vOk d w) : ∀ w ∈ v :: S, vOk d w := fun w hw => by
  rcases List.mem_cons.mp hw with rfl | h2
  · exact hv
  · exact h w h2
theorem i32_in {x : Int} (h : vIn x) : (Int32.ofInt x).toInt = x := Int32.toInt_ofInt_of_le (by have := h.1; omega) (by have := h.2; omega)
theorem i32_eq {x y : Int} (hx : vIn x) (hy : vIn y) : Int32.ofInt x = Int32.ofInt y ↔ x = y := ⟨fun h => by rw [← i32_in hx, ← i32_in hy, h], fun h => by rw [h]⟩
theorem i32_le {x y : Int} (hx : vIn x) (hy : vIn y) : Int32.ofInt x ≤ Int32.ofInt y ↔ x ≤ y := by rw [Int32.le_iff_toInt_le, i32_in hx, i32_in hy]
theorem i32_lt {x y : Int} (hx : vIn x) (hy : vIn y) : Int32.ofInt x < Int32.ofInt y ↔ x < y := by rw [Int32.lt_iff_toInt_lt, i32_in hx, i32_in hy]
theorem i32_of (z : Int32) : Int32.ofInt z.toInt = z := Int32.ofInt_toInt z
theorem i32_rg (z : Int32) : vIn z.toInt := ⟨by have := Int32.le_toInt z; omega, by have := Int32.toInt_lt z; omega⟩
-- constants
theorem vV.iconst {n : Int} (hd : decode mt.2.1 pc = .ok (.iconst n, 1)) (h : vIn n) (k : vV mt d0 dF Q (pc + 1) L (vI n :: S) d T M) : vV mt d0 dF Q pc L S d T M :=
  k.pure (fun _ hs => vOk_c h hs) (fun p l e R s m args below meth c H locs cells slots Z ls ρ hx hb ho ht hl hs kk => lv_iconst hx hb hd rfl kk)
theorem vV.bipush {n v : Int} (hd : decode mt.2.1 pc = .ok (.bipush n, 2)) (hv : (Int8.ofInt n).toInt32 = Int32.ofInt v) (h : vIn v) (k : vV mt d0 dF Q (pc + 2) L (vI v :: S) d T M) : vV mt d0 dF Q pc L S d T M :=
  k.pure (fun _ hs => vOk_c h hs) (fun p l e R s m args below meth c H locs cells slots Z ls ρ hx hb ho ht hl hs kk => lv_bipush hx hb hd hv kk)
theorem vV.sipush {n v : Int} (hd : decode mt.2.1 pc = .ok (.sipush n, 3)) (hv : (Int16.ofInt n).toInt32 = Int32.ofInt v) (h : vIn v) (k : vV mt d0 dF Q (pc + 3) L (vI v :: S) d T M) : vV mt d0 dF Q pc L S d T M :=
  k.pure (fun _ hs => vOk_c h hs) (fun p l e R s m args below meth c H locs cells slots Z ls ρ hx hb ho ht hl hs kk => lv_sipush hx hb hd hv kk)
theorem vV.ldc {i : Nat} {w : Int32} {v : Int} (hd : decode mt.2.1 pc = .ok (.ldc i, 2)) (hw : Cond.constant mt.1.cls i w ∈ vTb) (hv : w = Int32.ofInt v) (h : vIn v) (k : vV mt d0 dF Q (pc + 2) L (vI v :: S) d T M) : vV mt d0 dF Q pc L S d T M :=
  k.pure (fun _ hs => vOk_c h hs) (fun p l e R s m args below meth c H locs cells slots Z ls ρ hx hb ho ht hl hs kk => lv_ldc hx hb ho (ht _ hw) hd (by rw [hv]; exact kk))
theorem vV.ldcw {i : Nat} {w : Int32} {v : Int} (hd : decode mt.2.1 pc = .ok (.ldc_w i, 3)) (hw : Cond.constant mt.1.cls i w ∈ vTb) (hv : w = Int32.ofInt v) (h : vIn v) (k : vV mt d0 dF Q (pc + 3) L (vI v :: S) d T M) : vV mt d0 dF Q pc L S d T M :=
  k.pure (fun _ hs => vOk_c h hs) (fun p l e R s m args below meth c H locs cells slots Z ls ρ hx hb ho ht hl hs kk => lv_ldcw hx hb ho (ht _ hw) hd (by rw [hv]; exact kk))
theorem vV.ldc2 {i : Nat} {w : Int64} {v : Int} (hd : decode mt.2.1 pc = .ok (.ldc2_w i, 3)) (hw : Cond.constantLong mt.1.cls i w ∈ vTb) (hv : w = Int64.ofInt v) (h : vIn v) (k : vV mt d0 dF Q (pc + 3) L (vL v :: S) d T M) : vV mt d0 dF Q pc L S d T M :=
  k.pure (fun _ hs => vOk_c (v := vL v) h hs) (fun p l e R s m args below meth c H locs cells slots Z ls ρ hx hb ho ht hl hs kk => lv_ldc2 hx hb ho (ht _ hw) hd (by rw [hv]; exact kk))
theorem vV.lconst {n : Fin 2} {v : Int} (hd : decode mt.2.1 pc = .ok (.lconst n, 1)) (hv : Int64.ofNat (n : Nat) = Int64.ofInt v) (h : vIn v) (k : vV mt d0 dF Q (pc + 1) L (vL v :: S) d T M) : vV mt d0 dF Q pc L S d T M :=
  k.pure (fun _ hs => vOk_c (v := vL v) h hs) (fun p l e R s m args below meth c H locs cells slots Z ls ρ hx hb ho ht hl hs kk => lv_lconst hx hb hd hv kk)
theorem vV.i2l {x : Int} (hd : decode mt.2.1 pc = .ok (.i2l, 1)) (k : vV mt d0 dF Q (pc + 1) L (vL x :: S) d T M) : vV mt d0 dF Q pc L (vI x :: S) d T M :=
  k.pure (fun _ hs => vOk_c (v := vL x) (show vIn x from vOk_h (v := vI x) hs) (vOk_t hs)) (fun p l e R s m args below meth c H locs cells slots Z ls ρ hx hb ho ht hl hs kk => lv_i2l hx hb hd (by
    have hr : vIn x := vOk_h hs
    apply Int64.toInt_inj.mp
    rw [Int32.toInt_toInt64, i32_in hr, Int64.toInt_ofInt_of_le (by have := hr.1; omega) (by have := hr.2; omega)]) kk)
-- locals
theorem vV.iload_n {i : Fin 4} {x : Int} (hd : decode mt.2.1 pc = .ok (.iload_n i, 1)) (hi : L[(i : Nat)]? = some (some (vI x))) (k : vV mt d0 dF Q (pc + 1) L (vI x :: S) d T M) : vV mt d0 dF Q pc L S d T M :=
  k.pure (fun hL hs => vOk_c (hL _ _ hi).1 hs) (fun p l e R s m args below meth c H locs cells slots Z ls ρ hx hb ho ht hl hs kk => lv_iload_n hx hb hd rfl (vl_at hl hi) kk)
theorem vV.iload {i : Nat} {x : Int} (hd : decode mt.2.1 pc = .ok (.iload i, 2)) (hi : L[i]? = some (some (vI x))) (k : vV mt d0 dF Q (pc + 2) L (vI x :: S) d T M) : vV mt d0 dF Q pc L S d T M :=
  k.pure (fun hL hs => vOk_c (hL _ _ hi).1 hs) (fun p l e R s m args below meth c H locs cells slots Z ls ρ hx hb ho ht hl hs kk => lv_iload hx hb hd (vl_at hl hi) kk)
theorem vV.aload_n {i : Fin 4} {a : Nat} (hd : decode mt.2.1 pc = .ok (.aload_n i, 1)) (hi : L[(i : Nat)]? = some (some (vR a))) (k : vV mt d0 dF Q (pc + 1) L (vR a :: S) d T M) : vV mt d0 dF Q pc L S d T M :=
  k.pure (fun hL hs => vOk_c (hL _ _ hi).1 hs) (fun p l e R s m args below meth c H locs cells slots Z ls ρ hx hb ho ht hl hs kk => lv_aload_n hx hb hd rfl (vl_at hl hi) kk)
theorem vV.aload {i : Nat} {a : Nat} (hd : decode mt.2.1 pc = .ok (.aload i, 2)) (hi : L[i]? = some (some (vR a))) (k : vV mt d0 dF Q (pc + 2) L (vR a :: S) d T M) : vV mt d0 dF Q pc L S d T M :=
  k.pure (fun hL hs => vOk_c (hL _ _ hi).1 hs) (fun p l e R s m args below meth c H locs cells slots Z ls ρ hx hb ho ht hl hs kk => lv_aload hx hb hd (vl_at hl hi) kk)
theorem vV.istore_n {i : Fin 4} {x : Int} {L' : List (Option vA)} (hd : decode mt.2.1 pc = .ok (.istore_n i, 1)) (hlt : (i : Nat) < mt.2.2.1) (hL' : L.set (i : Nat) (some (vI x)) = L') (k : vV mt d0 dF Q (pc + 1) L' S d T M) : vV mt d0 dF Q pc L (vI x :: S) d T M := by
  intro l p e s m args below meth c D q A ρ0 ρ H locs ls hX hS hl hL hs hn
  subst hL'
  exact lv_istore_n hX.1 hX.2.1 hd rfl hl hlt rfl fun ls' hl' => k l p e s m args below meth c D q A ρ0 ρ H locs ls' hX hS (vl_set (v := vI x) hL hl') (vLok_set hL (vOk_h hs) rfl) (vOk_t hs) hn
theorem vV.istore {i : Nat} {x : Int} {L' : List (Option vA)} (hd : decode mt.2.1 pc = .ok (.istore i, 2)) (hlt : i < mt.2.2.1) (hL' : L.set i (some (vI x)) = L') (k : vV mt d0 dF Q (pc + 2) L' S d T M) : vV mt d0 dF Q pc L (vI x :: S) d T M := by
  intro l p e s m args below meth c D q A ρ0 ρ H locs ls hX hS hl hL hs hn
  subst hL'
  exact lv_istore hX.1 hX.2.1 hd hl hlt rfl fun ls' hl' => k l p e s m args below meth c D q A ρ0 ρ H locs ls' hX hS (vl_set (v := vI x) hL hl') (vLok_set hL (vOk_h hs) rfl) (vOk_t hs) hn
theorem vV.astore_n {i : Fin 4} {a : Nat} {L' : List (Option vA)} (hd : decode mt.2.1 pc = .ok (.astore_n i, 1)) (hlt : (i : Nat) < mt.2.2.1) (hL' : L.set (i : Nat) (some (vR a)) = L') (k : vV mt d0 dF Q (pc + 1) L' S d T M) : vV mt d0 dF Q pc L (vR a :: S) d T M := by
  intro l p e s m args below meth c D q A ρ0 ρ H locs ls hX hS hl hL hs hn
  subst hL'
  exact lv_astore_n hX.1 hX.2.1 hd rfl hl hlt rfl fun ls' hl' => k l p e s m args below meth c D q A ρ0 ρ H locs ls' hX hS (vl_set (v := vR a) hL hl') (vLok_set hL (vOk_h hs) rfl) (vOk_t hs) hn
theorem vV.astore {i : Nat} {a : Nat} {L' : List (Option vA)} (hd : decode mt.2.1 pc = .ok (.astore i, 2)) (hlt : i < mt.2.2.1) (hL' : L.set i (some (vR a)) = L') (k : vV mt d0 dF Q (pc + 2) L' S d T M) : vV mt d0 dF Q pc L (vR a :: S) d T M := by
  intro l p e s m args below meth c D q A ρ0 ρ H locs ls hX hS hl hL hs hn
  subst hL'
  exact lv_astore hX.1 hX.2.1 hd hl hlt rfl fun ls' hl' => k l p e s m args below meth c D q A ρ0 ρ H locs ls' hX hS (vl_set (v := vR a) hL hl') (vLok_set hL (vOk_h hs) rfl) (vOk_t hs) hn
theorem vV.iinc {i : Nat} {n x : Int} {L' : List (Option vA)} (hd : decode mt.2.1 pc = .ok (.iinc i n, 3)) (hlt : i < mt.2.2.1) (hi : L[i]? = some (some (vI x))) (h : vIn (x + n)) (hL' : L.set i (some (vI (x + n))) = L') (k : vV mt d0 dF Q (pc + 3) L' S d T M) : vV mt d0 dF Q pc L S d T M := by
  intro l p e s m args below meth c D q A ρ0 ρ H locs ls hX hS hl hL hs hn
  subst hL'
  obtain ⟨j, hj⟩ := List.getElem?_of_mem (vl_mem (ρ := ρ) (q := (i, vc ρ (vI x))).mpr ⟨vI x, hi, rfl⟩)
  exact lv_iinc (v := Int32.ofInt (x + n)) hX.1 hX.2.1 hd hl hj (by rw [Int32.ofInt_add]) hlt rfl fun ls' hl' => k l p e s m args below meth c D q A ρ0 ρ H locs ls' hX hS (vl_set (v := vI (x + n)) hL hl') (vLok_set hL (v := vI (x + n)) h rfl) hs hn
-- stack
theorem vV.dup {v : vA} (hd : decode mt.2.1 pc = .ok (.dup, 1)) (hv : vLg v = false) (k : vV mt d0 dF Q (pc + 1) L (v :: v :: S) d T M) : vV mt d0 dF Q pc L (v :: S) d T M :=
  k.pure (fun _ hs => vOk_c (vOk_h hs) hs) (fun p l e R s m args below meth c H locs cells slots Z ls ρ hx hb ho ht hl hs kk => lv_dup hx hb hd (by rw [vc_cat]; simp [vCat, hv]) kk)
theorem vV.dup2 {v w : vA} (hd : decode mt.2.1 pc = .ok (.dup2, 1)) (hv : vLg v = false) (hw : vLg w = false) (k : vV mt d0 dF Q (pc + 1) L (v :: w :: v :: w :: S) d T M) : vV mt d0 dF Q pc L (v :: w :: S) d T M :=
  k.pure (fun _ hs => vOk_c (vOk_h hs) (vOk_c (vOk_h (vOk_t hs)) hs)) (fun p l e R s m args below meth c H locs cells slots Z ls ρ hx hb ho ht hl hs kk => lv_dup2_11 hx hb hd (by rw [vc_cat]; simp [vCat, hv]) (by rw [vc_cat]; simp [vCat, hw]) kk)
theorem vV.pop {v : vA} (hd : decode mt.2.1 pc = .ok (.pop, 1)) (hv : vLg v = false) (k : vV mt d0 dF Q (pc + 1) L S d T M) : vV mt d0 dF Q pc L (v :: S) d T M :=
  k.pure (fun _ hs => vOk_t hs) (fun p l e R s m args below meth c H locs cells slots Z ls ρ hx hb ho ht hl hs kk => lv_pop hx hb hd (by rw [vc_cat]; simp [vCat, hv]) kk)
-- arithmetic
theorem vV.iadd {x y : Int} (hd : decode mt.2.1 pc = .ok (.iadd, 1)) (h : vIn (x + y)) (k : vV mt d0 dF Q (pc + 1) L (vI (x + y) :: S) d T M) : vV mt d0 dF Q pc L (vI y :: vI x :: S) d T M :=
  k.pure (fun _ hs => vOk_c (v := vI (x + y)) h (vOk_t (vOk_t hs))) (fun p l e R s m args below meth c H locs cells slots Z ls ρ hx hb ho ht hl hs kk => lv_iadd hx hb hd (by rw [← Int32.ofInt_add]; exact kk))
theorem vV.isub {x y : Int} (hd : decode mt.2.1 pc = .ok (.isub, 1)) (h : vIn (x - y)) (k : vV mt d0 dF Q (pc + 1) L (vI (x - y) :: S) d T M) : vV mt d0 dF Q pc L (vI y :: vI x :: S) d T M :=
  k.pure (fun _ hs => vOk_c (v := vI (x - y)) h (vOk_t (vOk_t hs))) (fun p l e R s m args below meth c H locs cells slots Z ls ρ hx hb ho ht hl hs kk => lv_isub hx hb hd (by rw [← Int32.ofInt_sub]; exact kk))
theorem vV.imul {x y : Int} (hd : decode mt.2.1 pc = .ok (.imul, 1)) (h : vIn (x * y)) (k : vV mt d0 dF Q (pc + 1) L (vI (x * y) :: S) d T M) : vV mt d0 dF Q pc L (vI y :: vI x :: S) d T M :=
  k.pure (fun _ hs => vOk_c (v := vI (x * y)) h (vOk_t (vOk_t hs))) (fun p l e R s m args below meth c H locs cells slots Z ls ρ hx hb ho ht hl hs kk => lv_imul hx hb hd (by rw [← Int32.ofInt_mul]; exact kk))
theorem vV.ineg {x : Int} (hd : decode mt.2.1 pc = .ok (.ineg, 1)) (h : vIn (-x)) (k : vV mt d0 dF Q (pc + 1) L (vI (-x) :: S) d T M) : vV mt d0 dF Q pc L (vI x :: S) d T M :=
  k.pure (fun _ hs => vOk_c (v := vI (-x)) h (vOk_t hs)) (fun p l e R s m args below meth c H locs cells slots Z ls ρ hx hb ho ht hl hs kk => lv_ineg hx hb hd (by rw [← Int32.ofInt_neg]; exact kk))
theorem i32_div {x y : Int} (hx : vIn x) (hy : vIn y) (h : vIn (x.tdiv y)) : Int32.ofInt x / Int32.ofInt y = Int32.ofInt (x.tdiv y) := by
  apply Int32.toInt_inj.mp
  rw [Int32.toInt_div, i32_in hx, i32_in hy, i32_in h]
  exact Int.bmod_eq_of_le (by have := h.1; omega) (by have := h.2; omega)
theorem vV.idiv {x y : Int} (hd : decode mt.2.1 pc = .ok (.idiv, 1)) (hy : y ≠ 0) (h : vIn (x.tdiv y)) (k : vV mt d0 dF Q (pc + 1) L (vI (x.tdiv y) :: S) d T M) : vV mt d0 dF Q pc L (vI y :: vI x :: S) d T M :=
  k.pure (fun _ hs => vOk_c (v := vI (x.tdiv y)) h (vOk_t (vOk_t hs))) (fun p l e R s m args below meth c H locs cells slots Z ls ρ hx hb ho ht hl hs kk => lv_idiv hx hb hd (fun z => hy ((i32_eq (x := y) (y := 0) (vOk_h hs) (by decide)).mp z)) (by rw [i32_div (vOk_h (vOk_t hs)) (vOk_h hs) h]; exact kk))
theorem vV.irem {x y : Int} (hd : decode mt.2.1 pc = .ok (.irem, 1)) (hy : y ≠ 0) (h : vIn (x.tdiv y)) (k : vV mt d0 dF Q (pc + 1) L (vI (x.tmod y) :: S) d T M) : vV mt d0 dF Q pc L (vI y :: vI x :: S) d T M := by
  refine k.pure (fun _ hs => vOk_c (v := vI (x.tmod y)) ?_ (vOk_t (vOk_t hs))) (fun p l e R s m args below meth c H locs cells slots Z ls ρ hx hb ho ht hl hs kk => lv_irem hx hb hd (fun z => hy ((i32_eq (x := y) (y := 0) (vOk_h hs) (by decide)).mp z)) ?_)
  · have hx : vIn x := vOk_h (vOk_t hs)
    have hy' : vIn y := vOk_h hs
    have a1 : (x.tmod y).natAbs ≤ x.natAbs := by rw [Int.natAbs_tmod]; exact Nat.mod_le _ _
    have a2 : (x.tmod y).natAbs < y.natAbs := by rw [Int.natAbs_tmod]; exact Nat.mod_lt _ (by omega)
    show vIn _
    have := hx.1; have := hx.2; have := hy'.1; have := hy'.2
    constructor <;> omega
  · rw [i32_div (vOk_h (vOk_t hs)) (vOk_h hs) h, ← Int32.ofInt_mul, ← Int32.ofInt_sub]
    have e : x - x.tdiv y * y = x.tmod y := by rw [Int.tmod_def, Int.mul_comm]
    rw [e]; exact kk
def vAnd (x y : Int) : Int := (Int32.ofInt x &&& Int32.ofInt y).toInt
def vOr (x y : Int) : Int := (Int32.ofInt x ||| Int32.ofInt y).toInt
def vShl (x y : Int) : Int := (Int32.ofInt x <<< (Int32.ofInt y &&& 31)).toInt
def vShr (x y : Int) : Int := (Int32.ofInt x >>> (Int32.ofInt y &&& 31)).toInt
def vUsh (x y : Int) : Int := ((Int32.ofInt x).toUInt32 >>> ((Int32.ofInt y).toUInt32 &&& Int32.toUInt32 31)).toInt32.toInt
theorem vV.iand {x y : Int} (hd : decode mt.2.1 pc = .ok (.iand, 1)) (k : vV mt d0 dF Q (pc + 1) L (vI (vAnd x y) :: S) d T M) : vV mt d0 dF Q pc L (vI y :: vI x :: S) d T M :=
  k.pure (fun _ hs => vOk_c (v := vI (vAnd x y)) (i32_rg _) (vOk_t (vOk_t hs))) (fun p l e R s m args below meth c H locs cells slots Z ls ρ hx hb ho ht hl hs kk => lv_iand hx hb hd (by rw [show Int32.ofInt x &&& Int32.ofInt y = Int32.ofInt (vAnd x y) from (i32_of _).symm]; exact kk))
theorem vV.ior {x y : Int} (hd : decode mt.2.1 pc = .ok (.ior, 1)) (k : vV mt d0 dF Q (pc + 1) L (vI (vOr x y) :: S) d T M) : vV mt d0 dF Q pc L (vI y :: vI x :: S) d T M :=
  k.pure (fun _ hs => vOk_c (v := vI (vOr x y)) (i32_rg _) (vOk_t (vOk_t hs))) (fun p l e R s m args below meth c H locs cells slots Z ls ρ hx hb ho ht hl hs kk => lv_ior hx hb hd (by rw [show Int32.ofInt x ||| Int32.ofInt y = Int32.ofInt (vOr x y) from (i32_of _).symm]; exact kk))
theorem vV.ishl {x y : Int} (hd : decode mt.2.1 pc = .ok (.ishl, 1)) (k : vV mt d0 dF Q (pc + 1) L (vI (vShl x y) :: S) d T M) : vV mt d0 dF Q pc L (vI y :: vI x :: S) d T M :=
  k.pure (fun _ hs => vOk_c (v := vI (vShl x y)) (i32_rg _) (vOk_t (vOk_t hs))) (fun p l e R s m args below meth c H locs cells slots Z ls ρ hx hb ho ht hl hs kk => lv_ishl hx hb hd (by rw [show Int32.ofInt x <<< (Int32.ofInt y &&& 31) = Int32.ofInt (vShl x y) from (i32_of _).symm]; exact kk))
theorem vV.ishr {x y : Int} (hd : decode mt.2.1 pc = .ok (.ishr, 1)) (k : vV mt d0 dF Q (pc + 1) L (vI (vShr x y) :: S) d T M) : vV mt d0 dF Q pc L (vI y :: vI x :: S) d T M :=
  k.pure (fun _ hs => vOk_c (v := vI (vShr x y)) (i32_rg _) (vOk_t (vOk_t hs))) (fun p l e R s m args below meth c H locs cells slots Z ls ρ hx hb ho ht hl hs kk => lv_ishr hx hb hd (by rw [show Int32.ofInt x >>> (Int32.ofInt y &&& 31) = Int32.ofInt (vShr x y) from (i32_of _).symm]; exact kk))
theorem vV.iushr {x y : Int} (hd : decode mt.2.1 pc = .ok (.iushr, 1)) (k : vV mt d0 dF Q (pc + 1) L (vI (vUsh x y) :: S) d T M) : vV mt d0 dF Q pc L (vI y :: vI x :: S) d T M :=
  k.pure (fun _ hs => vOk_c (v := vI (vUsh x y)) (i32_rg _) (vOk_t (vOk_t hs))) (fun p l e R s m args below meth c H locs cells slots Z ls ρ hx hb ho ht hl hs kk => lv_iushr hx hb hd (i32_of _).symm kk)
-- jumps
theorem vV.goto {off : Int} {tgt : Nat} (hd : decode mt.2.1 pc = .ok (.goto off, 3)) (ht : (pc : Int) + off = (tgt : Int)) (k : vV mt d0 dF Q tgt L S d T M) : vV mt d0 dF Q pc L S d T M :=
  k.pure (fun _ hs => hs) (fun p l e R s m args below meth c H locs cells slots Z ls ρ hx hb ho htb hl hs kk => lv_goto hx hb hd ht kk)
theorem vV.cmp {c1 c2 : Prop} {op : Instr} {x y : Int} {tgt : Nat} (kt : c1 → vV mt d0 dF Q tgt L S d T M) (kf : c2 → vV mt d0 dF Q (pc + 3) L S d T M) (hd : decode mt.2.1 pc = .ok (op, 3))
    (hW : ∀ (p : Program) (l : Launch) (e : Env) (R : Room) (s : State) (m : MethodId) (args : Array Value) (below : List Frame) (meth : Method) (c : Code) (H : Heap) (locs : List Loc) (cells slots : Nat) (Z : State → Prop) (ls : Array Slot) (st : List Value), p.tables.exec = Jvm.exec → c.code = mt.2.1 → vIn x → vIn y →
      (c1 → W p l e R s m args below meth c H locs cells slots Z (F0 m tgt ls st)) → (c2 → W p l e R s m args below meth c H locs cells slots Z (F0 m (pc + 3) ls st)) → W p l e R s m args below meth c H locs cells slots Z (F0 m pc ls (.int (Int32.ofInt y) :: .int (Int32.ofInt x) :: st))) : vV mt d0 dF Q pc L (vI y :: vI x :: S) d T M := by
  intro l p e s m args below meth c D q A ρ0 ρ H locs ls hX hS hl hL hs hn
  exact hW p l e _ s m args below meth c H locs _ _ _ ls _ hX.1 hX.2.1 (vOk_h (vOk_t hs)) (vOk_h hs) (fun h => kt h l p e s m args below meth c D q A ρ0 ρ H locs ls hX hS hl hL (vOk_t (vOk_t hs)) hn) (fun h => kf h l p e s m args below meth c D q A ρ0 ρ H locs ls hX hS hl hL (vOk_t (vOk_t hs)) hn)
theorem vV.icmp_eq {off x y : Int} {tgt : Nat} (hd : decode mt.2.1 pc = .ok (.if_icmp .eq off, 3)) (ht : (pc : Int) + off = (tgt : Int)) (kt : x = y → vV mt d0 dF Q tgt L S d T M) (kf : x ≠ y → vV mt d0 dF Q (pc + 3) L S d T M) : vV mt d0 dF Q pc L (vI y :: vI x :: S) d T M :=
  vV.cmp kt kf hd (fun p l e R s m args below meth c H locs cells slots Z ls st hx hb h1 h2 a b => lv_icmp_eq hx hb hd ht (fun z => a ((i32_eq h1 h2).mp z)) (fun z => b (fun q => z ((i32_eq h1 h2).mpr q))))
theorem vV.icmp_ne {off x y : Int} {tgt : Nat} (hd : decode mt.2.1 pc = .ok (.if_icmp .ne off, 3)) (ht : (pc : Int) + off = (tgt : Int)) (kt : x ≠ y → vV mt d0 dF Q tgt L S d T M) (kf : x = y → vV mt d0 dF Q (pc + 3) L S d T M) : vV mt d0 dF Q pc L (vI y :: vI x :: S) d T M :=
  vV.cmp kt kf hd (fun p l e R s m args below meth c H locs cells slots Z ls st hx hb h1 h2 a b => lv_icmp_ne hx hb hd ht (fun z => a (fun q => z ((i32_eq h1 h2).mpr q))) (fun z => b ((i32_eq h1 h2).mp z)))
theorem vV.icmp_ge {off x y : Int} {tgt : Nat} (hd : decode mt.2.1 pc = .ok (.if_icmp .ge off, 3)) (ht : (pc : Int) + off = (tgt : Int)) (kt : y ≤ x → vV mt d0 dF Q tgt L S d T M) (kf : x < y → vV mt d0 dF Q (pc + 3) L S d T M) : vV mt d0 dF Q pc L (vI y :: vI x :: S) d T M :=
  vV.cmp kt kf hd (fun p l e R s m args below meth c H locs cells slots Z ls st hx hb h1 h2 a b => lv_icmp_ge hx hb hd ht (fun z => a ((i32_le h2 h1).mp z)) (fun z => b (Int.not_le.mp (fun q => z ((i32_le h2 h1).mpr q)))))
theorem vV.icmp_gt {off x y : Int} {tgt : Nat} (hd : decode mt.2.1 pc = .ok (.if_icmp .gt off, 3)) (ht : (pc : Int) + off = (tgt : Int)) (kt : y < x → vV mt d0 dF Q tgt L S d T M) (kf : x ≤ y → vV mt d0 dF Q (pc + 3) L S d T M) : vV mt d0 dF Q pc L (vI y :: vI x :: S) d T M :=
  vV.cmp kt kf hd (fun p l e R s m args below meth c H locs cells slots Z ls st hx hb h1 h2 a b => lv_icmp_gt hx hb hd ht (fun z => a ((i32_lt h2 h1).mp z)) (fun z => b (Int.not_lt.mp (fun q => z ((i32_lt h2 h1).mpr q)))))
theorem vV.icmp_le {off x y : Int} {tgt : Nat} (hd : decode mt.2.1 pc = .ok (.if_icmp .le off, 3)) (ht : (pc : Int) + off = (tgt : Int)) (kt : x ≤ y → vV mt d0 dF Q tgt L S d T M) (kf : y < x → vV mt d0 dF Q (pc + 3) L S d T M) : vV mt d0 dF Q pc L (vI y :: vI x :: S) d T M :=
  vV.cmp kt kf hd (fun p l e R s m args below meth c H locs cells slots Z ls st hx hb h1 h2 a b => lv_icmp_le hx hb hd ht (fun z => a ((i32_le h1 h2).mp z)) (fun z => b (Int.not_le.mp (fun q => z ((i32_le h1 h2).mpr q)))))
theorem vV.icmp_lt {off x y : Int} {tgt : Nat} (hd : decode mt.2.1 pc = .ok (.if_icmp .lt off, 3)) (ht : (pc : Int) + off = (tgt : Int)) (kt : x < y → vV mt d0 dF Q tgt L S d T M) (kf : y ≤ x → vV mt d0 dF Q (pc + 3) L S d T M) : vV mt d0 dF Q pc L (vI y :: vI x :: S) d T M :=
  vV.cmp kt kf hd (fun p l e R s m args below meth c H locs cells slots Z ls st hx hb h1 h2 a b => lv_icmp_lt hx hb hd ht (fun z => a ((i32_lt h1 h2).mp z)) (fun z => b (Int.not_lt.mp (fun q => z ((i32_lt h1 h2).mpr q)))))
theorem vV.cmpz {c1 c2 : Prop} {op : Instr} {x : Int} {tgt : Nat} (kt : c1 → vV mt d0 dF Q tgt L S d T M) (kf : c2 → vV mt d0 dF Q (pc + 3) L S d T M) (hd : decode mt.2.1 pc = .ok (op, 3))
    (hW : ∀ (p : Program) (l : Launch) (e : Env) (R : Room) (s : State) (m : MethodId) (args : Array Value) (below : List Frame) (meth : Method) (c : Code) (H : Heap) (locs : List Loc) (cells slots : Nat) (Z : State → Prop) (ls : Array Slot) (st : List Value), p.tables.exec = Jvm.exec → c.code = mt.2.1 → vIn x →
      (c1 → W p l e R s m args below meth c H locs cells slots Z (F0 m tgt ls st)) → (c2 → W p l e R s m args below meth c H locs cells slots Z (F0 m (pc + 3) ls st)) → W p l e R s m args below meth c H locs cells slots Z (F0 m pc ls (.int (Int32.ofInt x) :: st))) : vV mt d0 dF Q pc L (vI x :: S) d T M := by
  intro l p e s m args below meth c D q A ρ0 ρ H locs ls hX hS hl hL hs hn
  exact hW p l e _ s m args below meth c H locs _ _ _ ls _ hX.1 hX.2.1 (vOk_h hs) (fun h => kt h l p e s m args below meth c D q A ρ0 ρ H locs ls hX hS hl hL (vOk_t hs) hn) (fun h => kf h l p e s m args below meth c D q A ρ0 ρ H locs ls hX hS hl hL (vOk_t hs) hn)
theorem i32_0 : Int32.ofInt 0 = 0 := rfl
theorem i32_z : vIn 0 := by decide
theorem vV.if_eq {off x : Int} {tgt : Nat} (hd : decode mt.2.1 pc = .ok (.ifCond .eq off, 3)) (ht : (pc : Int) + off = (tgt : Int)) (kt : x = 0 → vV mt d0 dF Q tgt L S d T M) (kf : x ≠ 0 → vV mt d0 dF Q (pc + 3) L S d T M) : vV mt d0 dF Q pc L (vI x :: S) d T M :=
  vV.cmpz kt kf hd (fun p l e R s m args below meth c H locs cells slots Z ls st hx hb h1 a b => lv_if_eq hx hb hd ht (fun z => a ((i32_eq h1 i32_z).mp z)) (fun z => b (fun q => z ((i32_eq h1 i32_z).mpr q))))
theorem vV.if_ne {off x : Int} {tgt : Nat} (hd : decode mt.2.1 pc = .ok (.ifCond .ne off, 3)) (ht : (pc : Int) + off = (tgt : Int)) (kt : x ≠ 0 → vV mt d0 dF Q tgt L S d T M) (kf : x = 0 → vV mt d0 dF Q (pc + 3) L S d T M) : vV mt d0 dF Q pc L (vI x :: S) d T M :=
  vV.cmpz kt kf hd (fun p l e R s m args below meth c H locs cells slots Z ls st hx hb h1 a b => lv_if_ne hx hb hd ht (fun z => a (fun q => z ((i32_eq h1 i32_z).mpr q))) (fun z => b ((i32_eq h1 i32_z).mp z)))
theorem vV.if_ge {off x : Int} {tgt : Nat} (hd : decode mt.2.1 pc = .ok (.ifCond .ge off, 3)) (ht : (pc : Int) + off = (tgt : Int)) (kt : 0 ≤ x → vV mt d0 dF Q tgt L S d T M) (kf : x < 0 → vV mt d0 dF Q (pc + 3) L S d T M) : vV mt d0 dF Q pc L (vI x :: S) d T M :=
  vV.cmpz kt kf hd (fun p l e R s m args below meth c H locs cells slots Z ls st hx hb h1 a b => lv_if_ge hx hb hd ht (fun z => a ((i32_le i32_z h1).mp z)) (fun z => b (Int.not_le.mp (fun q => z ((i32_le i32_z h1).mpr q)))))
theorem vV.if_gt {off x : Int} {tgt : Nat} (hd : decode mt.2.1 pc = .ok (.ifCond .gt off, 3)) (ht : (pc : Int) + off = (tgt : Int)) (kt : 0 < x → vV mt d0 dF Q tgt L S d T M) (kf : x ≤ 0 → vV mt d0 dF Q (pc + 3) L S d T M) : vV mt d0 dF Q pc L (vI x :: S) d T M :=
  vV.cmpz kt kf hd (fun p l e R s m args below meth c H locs cells slots Z ls st hx hb h1 a b => lv_if_gt hx hb hd ht (fun z => a ((i32_lt i32_z h1).mp z)) (fun z => b (Int.not_lt.mp (fun q => z ((i32_lt i32_z h1).mpr q)))))
theorem vV.if_le {off x : Int} {tgt : Nat} (hd : decode mt.2.1 pc = .ok (.ifCond .le off, 3)) (ht : (pc : Int) + off = (tgt : Int)) (kt : x ≤ 0 → vV mt d0 dF Q tgt L S d T M) (kf : 0 < x → vV mt d0 dF Q (pc + 3) L S d T M) : vV mt d0 dF Q pc L (vI x :: S) d T M :=
  vV.cmpz kt kf hd (fun p l e R s m args below meth c H locs cells slots Z ls st hx hb h1 a b => lv_if_le hx hb hd ht (fun z => a ((i32_le h1 i32_z).mp z)) (fun z => b (Int.not_le.mp (fun q => z ((i32_le h1 i32_z).mpr q)))))
theorem vV.if_lt {off x : Int} {tgt : Nat} (hd : decode mt.2.1 pc = .ok (.ifCond .lt off, 3)) (ht : (pc : Int) + off = (tgt : Int)) (kt : x < 0 → vV mt d0 dF Q tgt L S d T M) (kf : 0 ≤ x → vV mt d0 dF Q (pc + 3) L S d T M) : vV mt d0 dF Q pc L (vI x :: S) d T M :=
  vV.cmpz kt kf hd (fun p l e R s m args below meth c H locs cells slots Z ls st hx hb h1 a b => lv_if_lt hx hb hd ht (fun z => a ((i32_lt h1 i32_z).mp z)) (fun z => b (Int.not_lt.mp (fun q => z ((i32_lt h1 i32_z).mpr q)))))
theorem vV.nn1 {off : Int} {tgt k : Nat} (hd : decode mt.2.1 pc = .ok (.ifnonnull off, 3)) (ht : (pc : Int) + off = (tgt : Int)) (kt : vV mt d0 dF Q tgt L S d T M) : vV mt d0 dF Q pc L (vR k :: S) d T M :=
  kt.pure (fun _ hs => vOk_t hs) (fun p l e R s m args below meth c H locs cells slots Z ls ρ hx hb ho htb hl hs kk => lv_ifnonnull hx hb hd ht kk)
theorem vV.tsw {dflt lo hi : Int} {offs : Array Int} {len : Nat} {x off : Int} {tgt : Nat} (hd : decode mt.2.1 pc = .ok (.tableswitch dflt lo hi offs, len)) (v : Int) (hx : x = v) (h1 : lo ≤ v) (h2 : v ≤ hi) (ho : offs[(v - lo).toNat]? = some off) (ht : (pc : Int) + off = (tgt : Int)) (k : vV mt d0 dF Q tgt L S d T M) : vV mt d0 dF Q pc L (vI x :: S) d T M := by
  subst hx
  exact k.pure (fun _ hs => vOk_t hs) (fun p l e R s m args below meth c H locs cells slots Z ls ρ hx hb hown htb hl hs kk => by
    have hr := i32_in (x := x) (vOk_h hs)
    exact lv_tableIn hx hb hd (by rw [hr]; omega) (by rw [hr]; omega) (by rw [hr]; exact ho) ht kk)
theorem vV.tswD {dflt lo hi : Int} {offs : Array Int} {len : Nat} {x : Int} {tgt : Nat} (hd : decode mt.2.1 pc = .ok (.tableswitch dflt lo hi offs, len)) (h : x < lo ∨ hi < x) (ht : (pc : Int) + dflt = (tgt : Int)) (k : vV mt d0 dF Q tgt L S d T M) : vV mt d0 dF Q pc L (vI x :: S) d T M :=
  k.pure (fun _ hs => vOk_t hs) (fun p l e R s m args below meth c H locs cells slots Z ls ρ hx hb hown htb hl hs kk => by
    have hr := i32_in (x := x) (vOk_h hs)
    exact lv_tableOut hx hb hd (by rw [hr]; exact h) ht kk)
theorem vV.lsw {dflt : Int} {ps : Array (Int × Int)} {len : Nat} {x off : Int} {tgt : Nat} (hd : decode mt.2.1 pc = .ok (.lookupswitch dflt ps, len)) (hp : (ps.toList.zip (ps.toList.drop 1)).all (fun (a, next) => a.1 < next.1) = true) (ho : Op.lookupswitch.offset ps.toList dflt x = off) (ht : (pc : Int) + off = (tgt : Int)) (k : vV mt d0 dF Q tgt L S d T M) : vV mt d0 dF Q pc L (vI x :: S) d T M :=
  k.pure (fun _ hs => vOk_t hs) (fun p l e R s m args below meth c H locs cells slots Z ls ρ hx hb hown htb hl hs kk => by
    have hr := i32_in (x := x) (vOk_h hs)
    exact lv_lookup hx hb hd hp (by rw [hr]; exact ho) ht kk)
/-- what is known of every number of the state -/
theorem vV.rng (k : (∀ a j, vIn (M a j)) → vV mt d0 dF Q pc L S d T M) : vV mt d0 dF Q pc L S d T M := by
  intro l p e s m args below meth c D q A ρ0 ρ H locs ls hX hS hl hL hs hn
  exact k hS.2.2.2.1.1 l p e s m args below meth c D q A ρ0 ρ H locs ls hX hS hl hL hs hn
/-- what is known of a number in a local -/
theorem vV.rngL (i : Nat) {x : Int} (hi : L[i]? = some (some (vI x))) (k : vIn x → vV mt d0 dF Q pc L S d T M) : vV mt d0 dF Q pc L S d T M := by
  intro l p e s m args below meth c D q A ρ0 ρ H locs ls hX hS hl hL hs hn
  exact k (hL i _ hi).1 l p e s m args below meth c D q A ρ0 ρ H locs ls hX hS hl hL hs hn
end VR
end
section
/-! ===== own: V over the heap ===== -/
theorem vTb_all {ws : List Cond} (ps : List Nat) (h : ws.map some = ps.map (fun i => tables_1[i]?)) (hg : ws.all goodWord = true) : ∀ w ∈ ws, w ∈ vTb := by
  intro w hw
  have h1 : some w ∈ ws.map some := List.mem_map.mpr ⟨w, hw, rfl⟩
  rw [h] at h1
  obtain ⟨i, -, hi⟩ := List.mem_map.mp h1
  exact vTb_t i hi (List.all_eq_true.mp hg w hw)
/-- what the tables say of our classes -/
def vClOk (ci : Nat) (C : String) (T : u_T) (N : Nat) : Prop := N = vNf ci ∧ (∀ w ∈ u_ws C T N, w ∈ vTb) ∧ (∀ k, k < N → parseFieldDescriptor (T k).2.2.1 = some (vTy ci k)) ∧ (∀ a, a < N → ∀ b, b < N → a ≠ b → (T a).2.1 ≠ (T b).2.1) ∧ Cond.instantiable C N ∈ vTb ∧ Cond.initialized C ∈ vTb ∧ ∀ k, k < N → (T k).1 = C
theorem vClOk_0 : vClOk 0 RX0 TX0 9 := ⟨rfl, vTb_all [186, 188, 190, 192, 194, 196, 198, 200, 202] (by decide +kernel) (by decide +kernel), tyX0_ok, nmX0, vTb_t 172 (by decide +kernel) (by decide +kernel), vTb_t 7 (by decide +kernel) (by decide +kernel), by decide +kernel⟩
theorem vClOk_1 : vClOk 1 RX1 TX1 3 := ⟨rfl, vTb_all [93, 95, 97] (by decide +kernel) (by decide +kernel), tyX1_ok, nmX1, vTb_t 83 (by decide +kernel) (by decide +kernel), vTb_t 3 (by decide +kernel) (by decide +kernel), by decide +kernel⟩
theorem vClOk_2 : vClOk 2 RX2 TX2 2 := ⟨rfl, vTb_all [166, 168] (by decide +kernel) (by decide +kernel), tyX2_ok, nmX2, vTb_t 159 (by decide +kernel) (by decide +kernel), vTb_t 6 (by decide +kernel) (by decide +kernel), by decide +kernel⟩
theorem vClOk_3 : vClOk 3 RX3 TX3 6 := ⟨rfl, vTb_all [67, 69, 71, 73, 75, 77] (by decide +kernel) (by decide +kernel), tyX3_ok, nmX3, vTb_t 22 (by decide +kernel) (by decide +kernel), vTb_t 2 (by decide +kernel) (by decide +kernel), by decide +kernel⟩
theorem vClOk_4 : vClOk 4 RX4 TX4 4 := ⟨rfl, vTb_all [149, 151, 153, 155] (by decide +kernel) (by decide +kernel), tyX4_ok, nmX4, vTb_t 138 (by decide +kernel) (by decide +kernel), vTb_t 5 (by decide +kernel) (by decide +kernel), by decide +kernel⟩
theorem vClOk_5 : vClOk 5 RX5 TX5 8 := ⟨rfl, vTb_all [120, 122, 124, 126, 128, 130, 132, 134] (by decide +kernel) (by decide +kernel), tyX5_ok, nmX5, vTb_t 101 (by decide +kernel) (by decide +kernel), vTb_t 4 (by decide +kernel) (by decide +kernel), by decide +kernel⟩
theorem vClOk_6 : vClOk 6 RX6 TX6 8 := ⟨rfl, vTb_all [213, 215, 217, 219, 221, 223, 225, 227] (by decide +kernel) (by decide +kernel), tyX6_ok, nmX6, vTb_t 14 (by decide +kernel) (by decide +kernel), vTb_t 1 (by decide +kernel) (by decide +kernel), by decide +kernel⟩
theorem vClOk_7 : vClOk 7 RX7 TX7 40 := ⟨rfl, vTb_all [698, 700, 702, 704, 706, 708, 710, 712, 714, 716, 718, 720, 722, 724, 726, 728, 730, 732, 734, 736, 738, 740, 742, 744, 746, 748, 750, 752, 754, 756, 758, 760, 762, 764, 766, 768, 770, 772, 774, 776] (by decide +kernel) (by decide +kernel), tyX7_ok, nmX7, vTb_t 651 (by decide +kernel) (by decide +kernel), vTb_t 8 (by decide +kernel) (by decide +kernel), by decide +kernel⟩
theorem vCl_ok {ci : Nat} {C : String} {T : u_T} {N : Nat} (h : vCl[ci]? = some (C, T, N)) : vClOk ci C T N := by
  match ci, h with
  | 0, h => cases h; exact vClOk_0
  | 1, h => cases h; exact vClOk_1
  | 2, h => cases h; exact vClOk_2
  | 3, h => cases h; exact vClOk_3
  | 4, h => cases h; exact vClOk_4
  | 5, h => cases h; exact vClOk_5
  | 6, h => cases h; exact vClOk_6
  | 7, h => cases h; exact vClOk_7
  | n + 8, h => simp [vCl] at h
/-- the entry idx of the class own names field k of class ci; fin: a final field -/
def vFl (own : String) (idx ci k : Nat) (fin : Bool) : Prop := ∃ (C : String) (T : u_T) (N : Nat), vCl[ci]? = some (C, T, N) ∧ k < N ∧ Cond.fieldLink own idx C (T k).2.1 (T k).2.2.1 ∈ vTb ∧ (T k).2.2.2 = fin
theorem vRange_at {α : Type} (f : Nat → α) {n j : Nat} (h : j < n) : ((List.range n).map f)[j]? = some (f j) := by simp [h]
theorem vRange_set {α : Type} {f f' : Nat → α} {n j : Nat} {v : α} (ho : ∀ i, i ≠ j → f' i = f i) (hj : f' j = v) (hn : j < n) : ((List.range n).map f).set j v = (List.range n).map f' := by
  apply List.ext_getElem?
  intro i
  by_cases hi : j = i
  · subst hi
    rw [List.getElem?_set_self (by simpa using hn)]
    simp [hn, hj]
  · rw [List.getElem?_set_ne hi]
    by_cases hl : i < n
    · rw [vRange_at f hl, vRange_at f' hl, ho i (fun z => hi z.symm)]
    · simp [hl]
theorem i32_ix {i : Int} {n : Nat} (h0 : 0 ≤ i) (h1 : i < n) (hn : vIn i) : vp_in (Int32.ofInt i) n ∧ (Int32.ofInt i).toNatClampNeg = i.toNat ∧ ((i.toNat : Nat) : Int) = i := by
  have hr := i32_in hn
  refine ⟨vp_in_iff.mpr ⟨by rw [hr]; exact h0, by rw [hr]; exact h1⟩, ?_, by omega⟩
  show (Int32.ofInt i).toInt.toNat = i.toNat
  rw [hr]
section VH
variable {mt : vMt} {d0 dF : List Nat} {Q : Option vA → vT → vM → Prop} {pc : Nat} {L : List (Option vA)} {S : List vA} {d : List Nat} {T : vT} {M : vM}
theorem vV.geti {idx ci j k : Nat} {fin : Bool} {z : Int} (hd : decode mt.2.1 pc = .ok (.getfield idx, 3)) (hf : vFl mt.1.cls idx ci j fin) (hk : vKK k = (0, ci)) (ht : vTy ci j = .int) (hz : (j : Int) = z) (kk : vV mt d0 dF Q (pc + 3) L (vI (M k z) :: S) d T M) : vV mt d0 dF Q pc L (vR k :: S) d T M := by
  intro l p e s m args below meth c D q A ρ0 ρ H locs ls hX hS hl hL hs hn
  obtain ⟨hx, hb, hml, ho, htb, hr, hlk, hnm, hK, hA, hst⟩ := id hX
  obtain ⟨hP, hD, hSS, hN, h0⟩ := id hS
  obtain ⟨C, TT, N, hc, hj, hw, -⟩ := hf
  obtain ⟨e1, e2, e3, e4, e5, e6, e7⟩ := vCl_ok hc
  obtain ⟨i, hi, hwi⟩ := vW_at (q := q) (ρ := ρ) (T := T) (M := M) (vOk_h hs k rfl)
  rw [vCe_o hk] at hwi
  subst hz
  refine va_get hx hb htb e2 ho hK hP i hwi hc j hj (htb _ hw) (fun x hx => by rw [e7 j hj] at hx; exact hx) (v := .int (Int32.ofInt (M k j))) ?_ hd (kk l p e s m args below meth c D q A ρ0 ρ H locs ls hX hS hl hL (vOk_c (v := vI (M k j)) (hN.1 k j) (vOk_t hs)) hn)
  rw [← e1, vRange_at _ hj]
  unfold vFv; rw [ht]
theorem vV.getz {idx ci j k : Nat} {fin : Bool} {z : Int} (hd : decode mt.2.1 pc = .ok (.getfield idx, 3)) (hf : vFl mt.1.cls idx ci j fin) (hk : vKK k = (0, ci)) (ht : vTy ci j = .boolean) (hz : (j : Int) = z) (kk : vV mt d0 dF Q (pc + 3) L (vI (M k z) :: S) d T M) : vV mt d0 dF Q pc L (vR k :: S) d T M := by
  intro l p e s m args below meth c D q A ρ0 ρ H locs ls hX hS hl hL hs hn
  obtain ⟨hx, hb, hml, ho, htb, hr, hlk, hnm, hK, hA, hst⟩ := id hX
  obtain ⟨hP, hD, hSS, hN, h0⟩ := id hS
  obtain ⟨C, TT, N, hc, hj, hw, -⟩ := hf
  obtain ⟨e1, e2, e3, e4, e5, e6, e7⟩ := vCl_ok hc
  obtain ⟨i, hi, hwi⟩ := vW_at (q := q) (ρ := ρ) (T := T) (M := M) (vOk_h hs k rfl)
  rw [vCe_o hk] at hwi
  subst hz
  refine va_get hx hb htb e2 ho hK hP i hwi hc j hj (htb _ hw) (fun x hx => by rw [e7 j hj] at hx; exact hx) (v := .int (Int32.ofInt (M k j))) ?_ hd (kk l p e s m args below meth c D q A ρ0 ρ H locs ls hX hS hl hL (vOk_c (v := vI (M k j)) (hN.1 k j) (vOk_t hs)) hn)
  rw [← e1, vRange_at _ hj]
  unfold vFv; rw [ht]
def vIsR : FieldType → Bool
  | .object _ => true
  | .array _ => true
  | _ => false
theorem vFv_r {ρ : Nat → Nat} {k ci j : Nat} (h : vIsR (vTy ci j) = true) : vFv ρ T M k ci j = va_rf ((T k j).map ρ) := by
  unfold vFv
  cases hz : vTy ci j <;> rw [hz] at h <;> first | rfl | cases h
theorem vV.getr {idx ci j k : Nat} {fin : Bool} {r : Option Nat} (hd : decode mt.2.1 pc = .ok (.getfield idx, 3)) (hf : vFl mt.1.cls idx ci j fin) (hk : vKK k = (0, ci)) (ht : vIsR (vTy ci j) = true) (hr : T k j = r) (kk : vV mt d0 dF Q (pc + 3) L (vRo r :: S) d T M) : vV mt d0 dF Q pc L (vR k :: S) d T M := by
  intro l p e s m args below meth c D q A ρ0 ρ H locs ls hX hS hl hL hs hn
  obtain ⟨hx, hb, hml, ho, htb, hrt, hlk, hnm, hK, hA, hst⟩ := id hX
  obtain ⟨hP, hD, hSS, hN, h0⟩ := id hS
  obtain ⟨C, TT, N, hc, hj, hw, -⟩ := hf
  obtain ⟨e1, e2, e3, e4, e5, e6, e7⟩ := vCl_ok hc
  obtain ⟨i, hi, hwi⟩ := vW_at (q := q) (ρ := ρ) (T := T) (M := M) (vOk_h hs k rfl)
  rw [vCe_o hk] at hwi
  subst hr
  refine va_get hx hb htb e2 ho hK hP i hwi hc j hj (htb _ hw) (fun x hx => by rw [e7 j hj] at hx; exact hx) (v := va_rf ((T k j).map ρ)) ?_ hd (kk l p e s m args below meth c D q A ρ0 ρ H locs ls hX hS hl hL (vOk_c (v := vRo (T k j)) (fun v hv => hN.2 k j v hv) (vOk_t hs)) hn)
  rw [← e1, vRange_at _ hj, vFv_r ht]
theorem vN_upd {k : Nat} {z x : Int} (h : vN d T M) (hx : vIn x) : vN d T (vUpd M k z x) := ⟨vUpd_in h.1 hx, h.2⟩
theorem vV.puti {idx ci j k : Nat} {z x : Int} (hd : decode mt.2.1 pc = .ok (.putfield idx, 3)) (hf : vFl mt.1.cls idx ci j false) (hk : vKK k = (0, ci)) (ht : vTy ci j = .int) (hz : (j : Int) = z) (kk : vV mt d0 dF Q (pc + 3) L S d T (vUpd M k z x)) : vV mt d0 dF Q pc L (vI x :: vR k :: S) d T M := by
  intro l p e s m args below meth c D q A ρ0 ρ H locs ls hX hS hl hL hs hn
  obtain ⟨hx, hb, hml, ho, htb, hr, hlk, hnm, hK, hA, hst⟩ := id hX
  obtain ⟨hP, hD, hSS, hN, h0⟩ := id hS
  obtain ⟨C, TT, N, hc, hj, hw, hfin⟩ := hf
  obtain ⟨e1, e2, e3, e4, e5, e6, e7⟩ := vCl_ok hc
  obtain ⟨i, hi, hwi⟩ := vW_at (q := q) (ρ := ρ) (T := T) (M := M) (vOk_h (vOk_t hs) k rfl)
  rw [vCe_o hk] at hwi
  subst hz
  have hset : (vW q ρ d T M).set i (ρ k, .inr (ci, ((List.range (vNf ci)).map (vFv ρ T M k ci)).set j (.int (Int32.ofInt x)))) = vW q ρ d T (vUpd M k j x) := by
    refine vW_set hD hi ?_ (fun k' hne => vCe_row (vUpd_row hne) rfl)
    have hh := vRange_set (f := vFv ρ T M k ci) (f' := vFv ρ T (vUpd M k j x) k ci) (n := vNf ci) (j := j) (v := .int (Int32.ofInt x)) (fun i' hi' => by
      unfold vFv
      have : vUpd M k j x k i' = M k i' := by unfold vUpd; rw [if_neg]; rintro ⟨-, z⟩; omega
      rw [this]) (by unfold vFv; rw [ht]; simp [vUpd]) (by rw [← e1]; exact hj)
    rw [vCe_o hk, hh]
  refine va_put hx hb htb e2 (vTy ci) e3 e4 ho hK hP hD hSS i hwi hc j hj (htb _ hw) (fun x hx => by rw [e7 j hj] at hx; exact hx) hfin (e3 j hj) (by rw [ht]; rfl) (by rw [ht]; rfl) (by simp; rw [← e1]; exact hj) hd fun H1 locs1 a1 a2 a3 => ?_
  have a1 : va_P D vCl (vW q ρ d T (vUpd M k j x)) H1 := by rw [← hset]; exact a1
  have a2 : va_D A (vW q ρ d T (vUpd M k j x)) := by rw [← hset]; exact a2
  exact kk l p e s m args below meth c D q A ρ0 ρ H1 locs1 ls hX ⟨a1, a2, a3, vN_upd hN (vOk_h hs), h0⟩ hl hL (vOk_t (vOk_t hs)) hn
theorem vV.putz {idx ci j k : Nat} {z x : Int} (hd : decode mt.2.1 pc = .ok (.putfield idx, 3)) (hf : vFl mt.1.cls idx ci j false) (hk : vKK k = (0, ci)) (ht : vTy ci j = .boolean) (hz : (j : Int) = z) (h01 : x = 0 ∨ x = 1) (kk : vV mt d0 dF Q (pc + 3) L S d T (vUpd M k z x)) : vV mt d0 dF Q pc L (vI x :: vR k :: S) d T M := by
  intro l p e s m args below meth c D q A ρ0 ρ H locs ls hX hS hl hL hs hn
  obtain ⟨hx, hb, hml, ho, htb, hr, hlk, hnm, hK, hA, hst⟩ := id hX
  obtain ⟨hP, hD, hSS, hN, h0⟩ := id hS
  obtain ⟨C, TT, N, hc, hj, hw, hfin⟩ := hf
  obtain ⟨e1, e2, e3, e4, e5, e6, e7⟩ := vCl_ok hc
  obtain ⟨i, hi, hwi⟩ := vW_at (q := q) (ρ := ρ) (T := T) (M := M) (vOk_h (vOk_t hs) k rfl)
  rw [vCe_o hk] at hwi
  subst hz
  have hset : (vW q ρ d T M).set i (ρ k, .inr (ci, ((List.range (vNf ci)).map (vFv ρ T M k ci)).set j (.int (Int32.ofInt x)))) = vW q ρ d T (vUpd M k j x) := by
    refine vW_set hD hi ?_ (fun k' hne => vCe_row (vUpd_row hne) rfl)
    have hh := vRange_set (f := vFv ρ T M k ci) (f' := vFv ρ T (vUpd M k j x) k ci) (n := vNf ci) (j := j) (v := .int (Int32.ofInt x)) (fun i' hi' => by
      unfold vFv
      have : vUpd M k j x k i' = M k i' := by unfold vUpd; rw [if_neg]; rintro ⟨-, z⟩; omega
      rw [this]) (by unfold vFv; rw [ht]; simp [vUpd]) (by rw [← e1]; exact hj)
    rw [vCe_o hk, hh]
  refine va_put hx hb htb e2 (vTy ci) e3 e4 ho hK hP hD hSS i hwi hc j hj (htb _ hw) (fun x hx => by rw [e7 j hj] at hx; exact hx) hfin (e3 j hj) (by rw [ht]; rcases h01 with rfl | rfl <;> rfl) (by rw [ht]; rcases h01 with rfl | rfl <;> rfl) (by simp; rw [← e1]; exact hj) hd fun H1 locs1 a1 a2 a3 => ?_
  have a1 : va_P D vCl (vW q ρ d T (vUpd M k j x)) H1 := by rw [← hset]; exact a1
  have a2 : va_D A (vW q ρ d T (vUpd M k j x)) := by rw [← hset]; exact a2
  exact kk l p e s m args below meth c D q A ρ0 ρ H1 locs1 ls hX ⟨a1, a2, a3, vN_upd hN (vOk_h hs), h0⟩ hl hL (vOk_t (vOk_t hs)) hn
theorem vN_upT {k j v : Nat} (h : vN d T M) (hv : v ∈ d) : vN d (vUpT T k j (some v)) M := by
  refine ⟨h.1, fun a i w hw => ?_⟩
  unfold vUpT at hw
  split at hw
  · cases hw; exact hv
  · exact h.2 a i w hw
theorem vW_setR {q : vQc} {ρ : Nat → Nat} {A : Nat → Prop} {i k ci j v : Nat} (hD : va_D A (vW q ρ d T M)) (hi : d[i]? = some k) (hk : vKK k = (0, ci)) (ht : vIsR (vTy ci j) = true) (hj : j < vNf ci) :
    (vW q ρ d T M).set i (ρ k, .inr (ci, ((List.range (vNf ci)).map (vFv ρ T M k ci)).set j (.ref (ρ v)))) = vW q ρ d (vUpT T k j (some v)) M := by
  refine vW_set hD hi ?_ (fun k' hne => vCe_row rfl (vUpT_row hne))
  have hh := vRange_set (f := vFv ρ T M k ci) (f' := vFv ρ (vUpT T k j (some v)) M k ci) (n := vNf ci) (j := j) (v := .ref (ρ v)) (fun i' hi' => by
    unfold vFv
    have : vUpT T k j (some v) k i' = T k i' := by unfold vUpT; rw [if_neg]; rintro ⟨-, z⟩; exact hi' z
    rw [this]) (by rw [vFv_r ht]; simp [vUpT, va_rf]) hj
  rw [vCe_o hk, hh]
theorem vIsR_n {ty : FieldType} (h : vIsR ty = true) (a : Nat) : narrow ty (.ref a) = .ref a ∧ fits ty (.ref a) = true := by
  cases ty <;> first | exact ⟨rfl, rfl⟩ | cases h
theorem vV.putr {idx ci j k v : Nat} (hd : decode mt.2.1 pc = .ok (.putfield idx, 3)) (hf : vFl mt.1.cls idx ci j false) (hk : vKK k = (0, ci)) (ht : vIsR (vTy ci j) = true) (kk : vV mt d0 dF Q (pc + 3) L S d (vUpT T k j (some v)) M) : vV mt d0 dF Q pc L (vR v :: vR k :: S) d T M := by
  intro l p e s m args below meth c D q A ρ0 ρ H locs ls hX hS hl hL hs hn
  obtain ⟨hx, hb, hml, ho, htb, hr, hlk, hnm, hK, hA, hst⟩ := id hX
  obtain ⟨hP, hD, hSS, hN, h0⟩ := id hS
  obtain ⟨C, TT, N, hc, hj, hw, hfin⟩ := hf
  obtain ⟨e1, e2, e3, e4, e5, e6, e7⟩ := vCl_ok hc
  obtain ⟨i, hi, hwi⟩ := vW_at (q := q) (ρ := ρ) (T := T) (M := M) (vOk_h (vOk_t hs) k rfl)
  rw [vCe_o hk] at hwi
  refine va_put hx hb htb e2 (vTy ci) e3 e4 ho hK hP hD hSS i hwi hc j hj (htb _ hw) (fun x hx => by rw [e7 j hj] at hx; exact hx) hfin (e3 j hj) (vIsR_n ht _).1 (vIsR_n ht _).2 (by simp; rw [← e1]; exact hj) hd fun H1 locs1 a1 a2 a3 => ?_
  have hset := vW_setR (v := v) hD hi hk ht (by rw [← e1]; exact hj)
  have a1 : va_P D vCl (vW q ρ d (vUpT T k j (some v)) M) H1 := by rw [← hset]; exact a1
  have a2 : va_D A (vW q ρ d (vUpT T k j (some v)) M) := by rw [← hset]; exact a2
  exact kk l p e s m args below meth c D q A ρ0 ρ H1 locs1 ls hX ⟨a1, a2, a3, vN_upT hN (vOk_h hs v rfl), h0⟩ hl hL (vOk_t (vOk_t hs)) hn
theorem vV.putF {idx ci j k v : Nat} (hd : decode mt.2.1 pc = .ok (.putfield idx, 3)) (hf : vFl mt.1.cls idx ci j true) (hi0 : mt.1.name = "<init>") (hC : ∀ C T N, vCl[ci]? = some (C, T, N) → C = mt.1.cls) (hk : vKK k = (0, ci)) (ht : vIsR (vTy ci j) = true) (kk : vV mt d0 dF Q (pc + 3) L S d (vUpT T k j (some v)) M) : vV mt d0 dF Q pc L (vR v :: vR k :: S) d T M := by
  intro l p e s m args below meth c D q A ρ0 ρ H locs ls hX hS hl hL hs hn
  obtain ⟨hx, hb, hml, ho, htb, hr, hlk, hnm, hK, hA, hst⟩ := id hX
  obtain ⟨hP, hD, hSS, hN, h0⟩ := id hS
  obtain ⟨C, TT, N, hc, hj, hw, hfin⟩ := hf
  obtain ⟨e1, e2, e3, e4, e5, e6, e7⟩ := vCl_ok hc
  obtain ⟨i, hi, hwi⟩ := vW_at (q := q) (ρ := ρ) (T := T) (M := M) (vOk_h (vOk_t hs) k rfl)
  rw [vCe_o hk] at hwi
  refine va_putF hx hb htb e2 (vTy ci) e3 e4 ho hK hP hD hSS i hwi hc j hj (htb _ hw) (fun x hx => by rw [e7 j hj] at hx; exact hx) hfin (hnm.trans hi0) (by rw [e7 j hj]; exact hC _ _ _ hc) (e3 j hj) (vIsR_n ht _).1 (vIsR_n ht _).2 (by simp; rw [← e1]; exact hj) hd fun H1 locs1 a1 a2 a3 => ?_
  have hset := vW_setR (v := v) hD hi hk ht (by rw [← e1]; exact hj)
  have a1 : va_P D vCl (vW q ρ d (vUpT T k j (some v)) M) H1 := by rw [← hset]; exact a1
  have a2 : va_D A (vW q ρ d (vUpT T k j (some v)) M) := by rw [← hset]; exact a2
  exact kk l p e s m args below meth c D q A ρ0 ρ H1 locs1 ls hX ⟨a1, a2, a3, vN_upT hN (vOk_h hs v rfl), h0⟩ hl hL (vOk_t (vOk_t hs)) hn
-- arrays
theorem vV.iald {k n : Nat} {i : Int} (hd : decode mt.2.1 pc = .ok (.iaload, 1)) (hk : vKK k = (1, n)) (h0 : 0 ≤ i) (hlt : i < n) (kk : vV mt d0 dF Q (pc + 1) L (vI (M k i) :: S) d T M) : vV mt d0 dF Q pc L (vI i :: vR k :: S) d T M := by
  intro l p e s m args below meth c D q A ρ0 ρ H locs ls hX hS hl hL hs hn
  obtain ⟨hx, hb, hml, ho, htb, hr, hlk, hnm, hK, hA, hst⟩ := id hX
  obtain ⟨hP, hD, hSS, hN, hag⟩ := id hS
  obtain ⟨j, hj, hwi⟩ := vW_at (q := q) (ρ := ρ) (T := T) (M := M) (vOk_h (vOk_t hs) k rfl)
  rw [vCe_i hk] at hwi
  obtain ⟨a1, a2, a3⟩ := i32_ix h0 hlt (vOk_h hs)
  have kk' := kk l p e s m args below meth c D q A ρ0 ρ H locs ls hX hS hl hL (vOk_c (v := vI (M k i)) (hN.1 k i) (vOk_t (vOk_t hs))) hn
  refine va_iald hx hb hK hP j 0 hwi rfl a1 hd ?_
  rw [a2, a3]
  exact kk'
theorem vV.iast {k n : Nat} {i x : Int} (hd : decode mt.2.1 pc = .ok (.iastore, 1)) (hk : vKK k = (1, n)) (h0 : 0 ≤ i) (hlt : i < n) (kk : vV mt d0 dF Q (pc + 1) L S d T (vUpd M k i x)) : vV mt d0 dF Q pc L (vI x :: vI i :: vR k :: S) d T M := by
  intro l p e s m args below meth c D q A ρ0 ρ H locs ls hX hS hl hL hs hn
  obtain ⟨hx, hb, hml, ho, htb, hr, hlk, hnm, hK, hA, hst⟩ := id hX
  obtain ⟨hP, hD, hSS, hN, hag⟩ := id hS
  obtain ⟨j, hj, hwi⟩ := vW_at (q := q) (ρ := ρ) (T := T) (M := M) (vOk_h (vOk_t (vOk_t hs)) k rfl)
  rw [vCe_i hk] at hwi
  obtain ⟨a1, a2, a3⟩ := i32_ix h0 hlt (vOk_h (vOk_t hs))
  refine va_iast hx hb hK hP hD hSS j 0 hwi rfl a1 hd fun H1 locs1 b1 b2 b3 => ?_
  have hset : (vW q ρ d T M).set j (ρ k, .inl (q.1, n, .inl (upd (fun j => Int32.ofInt (M k j)) (Int32.ofInt i).toNatClampNeg (Int32.ofInt x)))) = vW q ρ d T (vUpd M k i x) := by
    refine vW_set hD hj ?_ (fun k' hne => vCe_row (vUpd_row hne) rfl)
    rw [vCe_i hk, a2]
    congr 4
    funext z
    by_cases hz : z = i.toNat
    · subst hz; rw [pk_us, a3]; simp [vUpd]
    · rw [pk_un hz]; unfold vUpd; rw [if_neg]; rintro ⟨-, y⟩; omega
  have b1 : va_P D vCl (vW q ρ d T (vUpd M k i x)) H1 := by rw [← hset]; exact b1
  have b2 : va_D A (vW q ρ d T (vUpd M k i x)) := by rw [← hset]; exact b2
  exact kk l p e s m args below meth c D q A ρ0 ρ H1 locs1 ls hX ⟨b1, b2, b3, vN_upd hN (vOk_h hs), hag⟩ hl hL (vOk_t (vOk_t (vOk_t hs))) hn
theorem vV.zald {k n : Nat} {i : Int} (hd : decode mt.2.1 pc = .ok (.baload, 1)) (hk : vKK k = (2, n)) (h0 : 0 ≤ i) (hlt : i < n) (kk : vV mt d0 dF Q (pc + 1) L (vI (M k i) :: S) d T M) : vV mt d0 dF Q pc L (vI i :: vR k :: S) d T M := by
  intro l p e s m args below meth c D q A ρ0 ρ H locs ls hX hS hl hL hs hn
  obtain ⟨hx, hb, hml, ho, htb, hr, hlk, hnm, hK, hA, hst⟩ := id hX
  obtain ⟨hP, hD, hSS, hN, hag⟩ := id hS
  obtain ⟨j, hj, hwi⟩ := vW_at (q := q) (ρ := ρ) (T := T) (M := M) (vOk_h (vOk_t hs) k rfl)
  rw [vCe_z hk] at hwi
  obtain ⟨a1, a2, a3⟩ := i32_ix h0 hlt (vOk_h hs)
  have kk' := kk l p e s m args below meth c D q A ρ0 ρ H locs ls hX hS hl hL (vOk_c (v := vI (M k i)) (hN.1 k i) (vOk_t (vOk_t hs))) hn
  refine va_zald hx hb hK hP j 1 hwi rfl a1 hd ?_
  rw [a2, a3]
  exact kk'
theorem vV.zast {k n : Nat} {i x : Int} (hd : decode mt.2.1 pc = .ok (.bastore, 1)) (hk : vKK k = (2, n)) (h0 : 0 ≤ i) (hlt : i < n) (h01 : x = 0 ∨ x = 1) (kk : vV mt d0 dF Q (pc + 1) L S d T (vUpd M k i x)) : vV mt d0 dF Q pc L (vI x :: vI i :: vR k :: S) d T M := by
  intro l p e s m args below meth c D q A ρ0 ρ H locs ls hX hS hl hL hs hn
  obtain ⟨hx, hb, hml, ho, htb, hr, hlk, hnm, hK, hA, hst⟩ := id hX
  obtain ⟨hP, hD, hSS, hN, hag⟩ := id hS
  obtain ⟨j, hj, hwi⟩ := vW_at (q := q) (ρ := ρ) (T := T) (M := M) (vOk_h (vOk_t (vOk_t hs)) k rfl)
  rw [vCe_z hk] at hwi
  obtain ⟨a1, a2, a3⟩ := i32_ix h0 hlt (vOk_h (vOk_t hs))
  have hnar : vp_nar .boolean (Int32.ofInt x) = Int32.ofInt x := by rcases h01 with rfl | rfl <;> rfl
  refine va_zast hx hb hK hP hD hSS j 1 hwi rfl a1 hd fun H1 locs1 b1 b2 b3 => ?_
  rw [hnar] at b1 b2
  have hset : (vW q ρ d T M).set j (ρ k, .inl (q.2.1, n, .inl (upd (fun j => Int32.ofInt (M k j)) (Int32.ofInt i).toNatClampNeg (Int32.ofInt x)))) = vW q ρ d T (vUpd M k i x) := by
    refine vW_set hD hj ?_ (fun k' hne => vCe_row (vUpd_row hne) rfl)
    rw [vCe_z hk, a2]
    congr 4
    funext z
    by_cases hz : z = i.toNat
    · subst hz; rw [pk_us, a3]; simp [vUpd]
    · rw [pk_un hz]; unfold vUpd; rw [if_neg]; rintro ⟨-, y⟩; omega
  have b1 : va_P D vCl (vW q ρ d T (vUpd M k i x)) H1 := by rw [← hset]; exact b1
  have b2 : va_D A (vW q ρ d T (vUpd M k i x)) := by rw [← hset]; exact b2
  exact kk l p e s m args below meth c D q A ρ0 ρ H1 locs1 ls hX ⟨b1, b2, b3, vN_upd hN (vOk_h hs), hag⟩ hl hL (vOk_t (vOk_t (vOk_t hs))) hn
theorem vV.aald {k n j : Nat} {i : Int} {r : Option Nat} (hd : decode mt.2.1 pc = .ok (.aaload, 1)) (hk : vKK k = (3, n)) (hj : i = (j : Int)) (hlt : j < n) (hr : T k j = r) (kk : vV mt d0 dF Q (pc + 1) L (vRo r :: S) d T M) : vV mt d0 dF Q pc L (vI i :: vR k :: S) d T M := by
  intro l p e s m args below meth c D q A ρ0 ρ H locs ls hX hS hl hL hs hn
  obtain ⟨hx, hb, hml, ho, htb, hrt, hlk, hnm, hK, hA, hst⟩ := id hX
  obtain ⟨hP, hD, hSS, hN, hag⟩ := id hS
  obtain ⟨jj, hjj, hwi⟩ := vW_at (q := q) (ρ := ρ) (T := T) (M := M) (vOk_h (vOk_t hs) k rfl)
  rw [vCe_r hk] at hwi
  obtain ⟨a1, a2, a3⟩ := i32_ix (i := i) (n := n) (by omega) (by omega) (vOk_h hs)
  subst hr
  have kk' := kk l p e s m args below meth c D q A ρ0 ρ H locs ls hX hS hl hL (vOk_c (v := vRo (T k j)) (fun v hv => hN.2 k j v hv) (vOk_t (vOk_t hs))) hn
  refine va_aldq (C := RX3) hx hb hK hP jj 2 hwi rfl a1 hd ?_
  rw [a2, show i.toNat = j by omega]
  exact kk'
theorem vV.aast {k n j v : Nat} {i : Int} (hd : decode mt.2.1 pc = .ok (.aastore, 1)) (hk : vKK k = (3, n)) (hv : vKK v = (0, 3)) (hj : i = (j : Int)) (hlt : j < n) (kk : vV mt d0 dF Q (pc + 1) L S d (vUpT T k j (some v)) M) : vV mt d0 dF Q pc L (vR v :: vI i :: vR k :: S) d T M := by
  intro l p e s m args below meth c D q A ρ0 ρ H locs ls hX hS hl hL hs hn
  obtain ⟨hx, hb, hml, ho, htb, hrt, hlk, hnm, hK, hA, hst⟩ := id hX
  obtain ⟨hP, hD, hSS, hN, hag⟩ := id hS
  obtain ⟨jj, hjj, hwi⟩ := vW_at (q := q) (ρ := ρ) (T := T) (M := M) (vOk_h (vOk_t (vOk_t hs)) k rfl)
  obtain ⟨jv, hjv, hwv⟩ := vW_at (q := q) (ρ := ρ) (T := T) (M := M) (vOk_h hs v rfl)
  rw [vCe_r hk] at hwi
  rw [vCe_o hv] at hwv
  obtain ⟨a1, a2, a3⟩ := i32_ix (i := i) (n := n) (by omega) (by omega) (vOk_h (vOk_t hs))
  refine va_astq (r := (RX3, TX3, 6)) hx hb hK hP hD hSS jj 2 jv 3 hwi rfl hwv rfl a1 hd fun H1 locs1 b1 b2 b3 => ?_
  have hset : (vW q ρ d T M).set jj (ρ k, .inl (q.2.2, n, .inr (.inr (.inr (.inr (va_up (fun j => (T k j).map ρ) (Int32.ofInt i).toNatClampNeg (some (ρ v)))))))) = vW q ρ d (vUpT T k j (some v)) M := by
    refine vW_set hD hjj ?_ (fun k' hne => vCe_row rfl (vUpT_row hne))
    rw [vCe_r hk, a2, show i.toNat = j by omega]
    congr 7
    funext z
    by_cases hz : z = j
    · subst hz; simp [va_up, vUpT]
    · simp [va_up, vUpT, hz]
  have b1 : va_P D vCl (vW q ρ d (vUpT T k j (some v)) M) H1 := by rw [← hset]; exact b1
  have b2 : va_D A (vW q ρ d (vUpT T k j (some v)) M) := by rw [← hset]; exact b2
  exact kk l p e s m args below meth c D q A ρ0 ρ H1 locs1 ls hX ⟨b1, b2, b3, vN_upT hN (vOk_h hs v rfl), hag⟩ hl hL (vOk_t (vOk_t (vOk_t hs))) hn
theorem vV.alen {k n : Nat} {v : Int} (hd : decode mt.2.1 pc = .ok (.arraylength, 1)) (hk : vKK k = (1, n)) (hv : (n : Int) = v) (hin : vIn v) (kk : vV mt d0 dF Q (pc + 1) L (vI v :: S) d T M) : vV mt d0 dF Q pc L (vR k :: S) d T M := by
  intro l p e s m args below meth c D q A ρ0 ρ H locs ls hX hS hl hL hs hn
  obtain ⟨hx, hb, hml, ho, htb, hrt, hlk, hnm, hK, hA, hst⟩ := id hX
  obtain ⟨hP, hD, hSS, hN, hag⟩ := id hS
  obtain ⟨j, hj, hwi⟩ := vW_at (q := q) (ρ := ρ) (T := T) (M := M) (vOk_h hs k rfl)
  rw [vCe_i hk] at hwi
  exact va_alen hx hb hK hP j 0 hwi (ty := .int) rfl (v := Int32.ofInt v) (by rw [← hv]; rfl) hd (kk l p e s m args below meth c D q A ρ0 ρ H locs ls hX hS hl hL (vOk_c (v := vI v) hin (vOk_t hs)) hn)
theorem vV.nn0 {off : Int} (hd : decode mt.2.1 pc = .ok (.ifnonnull off, 3)) (kk : vV mt d0 dF Q (pc + 3) L S d T M) : vV mt d0 dF Q pc L (vRo none :: S) d T M :=
  kk.pure (fun _ hs => vOk_t hs) (fun p l e R s m args below meth c H locs cells slots Z ls ρ hx hb ho htb hl hs kk => lv_ifnonnullN hx hb hd kk)
-- ends
theorem vV.iret {x : Int} (hd : decode mt.2.1 pc = .ok (.ireturn, 1)) (hr : mt.2.2.2.1 = some .int) (hq : Q (some (vI x)) T M) : vV mt d0 d Q pc L [vI x] d T M := by
  intro l p e s m args below meth c D q A ρ0 ρ H locs ls hX hS hl hL hs hn
  obtain ⟨hx, hb, hml, ho, htb, hrt, hlk, hnm, hK, hA, hst⟩ := id hX
  obtain ⟨hP, hD, hSS, hN, hag⟩ := id hS
  exact W.iret hx hb (hrt.trans hr) (fun t ht hW => ⟨⟨some (vI x), T, M, ρ, rfl, hq, by rw [ht]; exact hP, hD, hN, hag, fun v hv => by cases hv; exact vOk_h hs⟩, hSS.F ht⟩) hSS.2.2 hd hlk
theorem vV.zret {x : Int} (hd : decode mt.2.1 pc = .ok (.ireturn, 1)) (hr : mt.2.2.2.1 = some .boolean) (h01 : x = 0 ∨ x = 1) (hq : Q (some (vI x)) T M) : vV mt d0 d Q pc L [vI x] d T M := by
  intro l p e s m args below meth c D q A ρ0 ρ H locs ls hX hS hl hL hs hn
  obtain ⟨hx, hb, hml, ho, htb, hrt, hlk, hnm, hK, hA, hst⟩ := id hX
  obtain ⟨hP, hD, hSS, hN, hag⟩ := id hS
  exact W.zret hx hb (hrt.trans hr) (by rcases h01 with rfl | rfl <;> rfl) (fun t ht hW => ⟨⟨some (vI x), T, M, ρ, rfl, hq, by rw [ht]; exact hP, hD, hN, hag, fun v hv => by cases hv; exact vOk_h hs⟩, hSS.F ht⟩) hSS.2.2 hd hlk
theorem vV.vret (hd : decode mt.2.1 pc = .ok (.return_, 1)) (hr : mt.2.2.2.1 = none) (hq : Q none T M) : vV mt d0 d Q pc L [] d T M := by
  intro l p e s m args below meth c D q A ρ0 ρ H locs ls hX hS hl hL hs hn
  obtain ⟨hx, hb, hml, ho, htb, hrt, hlk, hnm, hK, hA, hst⟩ := id hX
  obtain ⟨hP, hD, hSS, hN, hag⟩ := id hS
  exact W.vret hx hb (hrt.trans hr) (fun t ht hW => ⟨⟨none, T, M, ρ, rfl, hq, by rw [ht]; exact hP, hD, hN, hag, fun v hv => by cases hv⟩, hSS.F ht⟩) hSS.2.2 hd hlk
end VH
end
section
/-! ===== own: contracts and calls in V ===== -/
def vPre (D : va_G) (q : vQc) (ρ : Nat → Nat) (d : List Nat) (T : vT) (M : vM) (sz : Nat) (U : State) : Prop :=
  U.heap.size = sz ∧ va_P D vCl (vW q ρ d T M) U.heap ∧ va_K D vCl (vTs q) U ∧ va_D (fun _ => True) (vW q ρ d T M) ∧ vSt q (va_A (vW q ρ d T M) sz) U U.heap ∧ vN d T M ∧ vNw U
/-- a method's contract: from the state (T, M) over the names d, called with As, it comes back over the names dF with Q -/
def vCon (mt : vMt) (d dF : List Nat) (As : List vA) (T : vT) (M : vM) (Q : Option vA → vT → vM → Prop) : Prop :=
  ∀ (l : Launch) (D : va_G) (q : vQc) (ρ : Nat → Nat) (sz : Nat), (∀ v ∈ As, vOk d v) → vLe d d dF →
    Met l mt.1 (vWs mt.1 mt.2.1 mt.2.2.1 mt.2.2.2.1) (vRm mt d dF) (va_Pc (As.map (vc ρ)) (vPre D q ρ d T M sz)) (vQq q D (va_A (vW q ρ d T M) sz) ρ d dF Q) (dF.length - d.length) (vSz dF - vSz d) (va_A (vW q ρ d T M) sz)
theorem vLe_rf (d : List Nat) : vLe d d d := ⟨Nat.le_refl _, Nat.le_refl _, Nat.le_refl _, Nat.le_refl _⟩
theorem lv_args_at : ∀ (vs : List Value) (o : Nat), (∀ v ∈ vs, v.category = 1) → ∀ (i : Nat) (v : Value), vs[i]? = some v → (o + i, v) ∈ lv_args o vs
  | [], _, _, i, v, h => by simp at h
  | w :: vs, o, hc, 0, v, h => by
    simp at h; subst h; exact List.mem_cons_self
  | w :: vs, o, hc, i + 1, v, h => by
    have hw : ¬ w.category = 2 := by rw [hc w List.mem_cons_self]; decide
    simp only [lv_args, if_neg hw]
    refine List.mem_cons_of_mem _ ?_
    have := lv_args_at vs (o + 1) (fun x hx => hc x (List.mem_cons_of_mem _ hx)) i v (by simpa using h)
    rw [show o + (i + 1) = o + 1 + i by omega]
    exact this
theorem lg_sl_len : ∀ (vs : List Value), (∀ v ∈ vs, v.category = 1) → (lg_sl vs).length = vs.length
  | [], _ => rfl
  | v :: vs, h => by
    have hv := h v List.mem_cons_self
    have := lg_sl_len vs (fun x hx => h x (List.mem_cons_of_mem _ hx))
    have hn : ¬ v.category = 2 := by rw [hv]; decide
    simp only [lg_sl, List.flatMap_cons, List.length_append] at this ⊢
    rw [this]
    simp [hn]; omega
/-- V from the entry on gives the contract -/
theorem vCon.of {mt : vMt} {d dF : List Nat} {As : List vA} {T : vT} {M : vM} {Q : Option vA → vT → vM → Prop} {L : List (Option vA)} (hp : plainName mt.1.cls = true) (hlg : As.all (fun v => !vLg v) = true) (hL : L = As.map some ++ List.replicate (mt.2.2.1 - As.length) none) (hn : As.length ≤ mt.2.2.1)
    (hv : vV mt d dF Q 0 L [] d T M) : vCon mt d dF As T M Q := by
  intro l D q ρ sz hok hle
  refine Met.ofW (cc := mt.2.1) (maxL := mt.2.2.1) (ret := mt.2.2.2.1) hp rfl ?_
  intro p e s m args below meth c s₁ B hml hpre
  obtain ⟨rfl, hsz, hP, hK, hD0, hst, hN, hnw⟩ := hpre
  have hts := atoms_spec (ws := vWs mt.1 mt.2.1 mt.2.2.1 mt.2.2.2.1) B.pre
  have hcat : ∀ v ∈ As.map (vc ρ), v.category = 1 := by
    intro v hv
    obtain ⟨w, hw, rfl⟩ := List.mem_map.mp hv
    rw [vc_cat]
    have := List.all_eq_true.mp hlg w hw
    simp at this
    simp [vCat, this]
  subst hsz
  have hD := hD0.self (sz := s.heap.size)
  have hlen : (lg_sl (As.map (vc ρ))).length ≤ mt.2.2.1 := by rw [lg_sl_len _ hcat, List.length_map]; exact hn
  have hl := lv_entry (As.map (vc ρ)) hlen
  rw [lg_entry_eq]
  have hLat : ∀ (i : Nat) (v : vA), L[i]? = some (some v) → As[i]? = some v := by
    intro i v hi
    rw [hL] at hi
    by_cases hlt : i < As.length
    · rw [List.getElem?_append_left (by simpa using hlt), List.getElem?_map] at hi
      cases hx : As[i]? with
      | none => rw [hx] at hi; cases hi
      | some w => rw [hx] at hi; cases hi; rfl
    · rw [List.getElem?_append_right (by simpa using hlt), List.getElem?_replicate] at hi
      split at hi <;> cases hi
  have hl1 : lv_has ((lg_sl (As.map (vc ρ)) ++ List.replicate (mt.2.2.1 - (lg_sl (As.map (vc ρ))).length) Slot.unset).toArray) mt.2.2.1 (vl ρ L) := by
    refine ⟨hl.1, hl.2.1, fun z hz => hl.2.2 z ?_⟩
    obtain ⟨w, h1, h2⟩ := vl_mem.mp hz
    have := lv_args_at (As.map (vc ρ)) 0 hcat z.1 (vc ρ w) (by rw [List.getElem?_map, hLat _ _ h1]; rfl)
    rw [Nat.zero_add, ← h2] at this
    exact this
  have hl2 : vLok d L := by
    intro i v hi
    have h3 := List.mem_of_getElem? (hLat i v hi)
    exact ⟨hok v h3, by have := List.all_eq_true.mp hlg v h3; simpa using this⟩
  have h := hv l p e s m _ below meth c D q (va_A (vW q ρ d T M) s.heap.size) ρ ρ s.heap [] _ ⟨B.exec, B.bytes, hml, findClass_of_methodNamed B.named, fun w hw => hts w (List.mem_cons_of_mem _ hw), B.returns, B.notSynchronized, (name_of_methodNamed B.named B.method).1, hK, fun z hz => Or.inr hz, hst, hnw⟩ ⟨hP, hD, va_S.rf, hN, fun k hk => ⟨hk, rfl⟩⟩ hl1 hl2 (fun v hv => by cases hv) hle
  rw [Nat.sub_self, Nat.sub_self] at h
  exact h
theorem vPre_blind {D : va_G} {q : vQc} {ρ : Nat → Nat} {d : List Nat} {T : vT} {M : vM} {sz : Nat} {av : List Value} : FrameBlind (va_Pc av (vPre D q ρ d T M sz)) := by
  rintro a U g mk ⟨h0, h1, h2, h3, h4, h5, h6, h7⟩
  have hal : U.vm.Alike (U.calling g mk a).vm := Vm.Alike.refl U.vm
  exact ⟨h0, h1, h2, va_K.moved hal h3, h4, h5.go hal (fun _ _ _ => rfl) (fun _ h => h), h6, vNw.same rfl h7⟩
section VCL
variable {mt mt' : vMt} {d0 dF : List Nat} {Q Q1 : Option vA → vT → vM → Prop} {pc idx : Nat} {L : List (Option vA)} {S rest As : List vA} {d d1 : List Nat} {T : vT} {M : vM}
/-- behind a call -/
theorem vV.after {st0 : List Value} {l : Launch} {p : Program} {e : Env} {s : State} {m : MethodId} {args a1 : Array Value} {below : List Frame} {meth : Method} {c : Code} {D : va_G} {q : vQc} {A : Nat → Prop} {ρ0 ρ : Nat → Nat} {H : Heap} {locs : List Loc} {ls : Array Slot}
    (hX : vX mt p s m args meth c D q A) (hS : vS D q A s.heap ρ0 d0 ρ d T M H locs) (hl : lv_has ls mt.2.2.1 (vl ρ L)) (hL : vLok d L) (hs : ∀ v ∈ rest, vOk d v) (hn : vLe d0 d dF) (hn1 : vLe d d1 dF)
    (hrun : va_Run p l e (vRm mt d0 dF) s m args below meth c H locs (d.length - d0.length) (vSz d - vSz d0) (d1.length - d.length) (vSz d1 - vSz d) (F0 m pc ls st0) (rest.map (vc ρ)) (vQq q D (va_A (vW q ρ d T M) H.size) ρ d d1 Q1 a1) (va_A (vW q ρ d T M) H.size))
    (kk : ∀ r T' M', Q1 r T' M' → vV mt d0 dF Q (pc + 3) L (r.toList ++ rest) d1 T' M') :
    W p l e (vRm mt d0 dF) s m args below meth c H locs (d.length - d0.length) (vSz d - vSz d0) (MQ below (vQq q D A ρ0 d0 dF Q) args s (dF.length - d0.length) (vSz dF - vSz d0) A) (F0 m pc ls st0) := by
  obtain ⟨hx, hb, hml, ho, htb, hrt, hlk, hnm, hK, hA, hst⟩ := id hX
  obtain ⟨hP, hD, hSS, hN, hag⟩ := id hS
  have hFc : ∀ z, va_A (vW q ρ d T M) H.size z → A z := by
    rintro z (⟨k, e, h⟩ | h)
    · exact hD.2 k _ h
    · exact hA z (Nat.le_trans hSS.1 h)
  intro TT hT X
  obtain ⟨v, st₀, t, T', L', h0, X', hL', e1, e2, ⟨⟨r, T1, M1, ρ1, ho1, hq, hP1, hD1, hN1, hag1, hr⟩, hz, hkp⟩, st⟩ := hrun TT hT X
  cases ho1
  rw [h0] at hz hkp
  have hS1 : vS D q A s.heap ρ0 d0 ρ1 d1 T1 M1 T'.heap (locs ++ L') := by
    refine ⟨by rw [e1]; exact hP1, hD1.weaken (fun _ _ _ h => hFc _ h), ⟨Nat.le_trans hSS.1 (by rw [e1]; exact hz), fun z a b => by rw [e1, hkp z (Nat.lt_of_lt_of_le a hSS.1) (fun y => b (hFc z y))]; exact hSS.2.1 z a b, fun z hz' => ?_⟩, hN1, fun k hk => ⟨(hag1 k (hag k hk).1).1, (hag1 k (hag k hk).1).2.trans (hag k hk).2⟩⟩
    rcases List.mem_append.mp hz' with h | h
    · exact hSS.2.2 z h
    · exact hFc _ (hL' z h)
  have hm : ∀ k ∈ d, ρ1 k = ρ k := fun k hk => (hag1 k hk).2
  have hdm : ∀ k ∈ d, k ∈ d1 := fun k hk => (hag1 k hk).1
  have hs1 : ∀ v ∈ r.toList ++ rest, vOk d1 v := by
    intro v hv
    rcases List.mem_append.mp hv with h | h
    · exact hr v (by simpa using h)
    · exact vOk_mono hdm (hs v h)
  have W1 := kk r T1 M1 hq l p e s m args below meth c D q A ρ0 ρ1 T'.heap (locs ++ L') ls hX hS1 (vl_monoL hm hL hl) (vLok_mono hdm hL) hs1 ⟨by have := hn.1; have := hn1.1; omega, by have := hn.2.1; have := hn1.2.1; omega, hn1.2.2⟩
  have ec : d.length - d0.length + (d1.length - d.length) = d1.length - d0.length := by have := hn.1; have := hn1.1; omega
  have es : vSz d - vSz d0 + (vSz d1 - vSz d) = vSz d1 - vSz d0 := by have := hn.2.1; have := hn1.2.1; omega
  rw [ec, es] at X'
  obtain ⟨t2, a2, b2⟩ := W1 T' rfl X'
  refine ⟨t2, st t2 ?_, b2⟩
  have hst : (r.map (vc ρ1)).toList ++ rest.map (vc ρ) = (r.toList ++ rest).map (vc ρ1) := by
    rw [List.map_append, vc_monoL hm hs]
    cases r <;> rfl
  rw [hst]
  exact a2
/-- the words of a call -/
def vCw (mt' : vMt) (n : Nat) : Prop := Cond.code mt'.1 mt'.2.1 mt'.2.2.1 mt'.2.2.2.1 ∈ vTb ∧ Cond.initialized mt'.1.cls ∈ vTb ∧ (mt'.1.cls ≠ "java/lang/invoke/MethodHandle" ∧ mt'.1.cls ≠ "java/lang/invoke/VarHandle") ∧ (parseMethodDescriptor mt'.1.desc).map (fun d => d.parameters.length) = some n
def vRoom (mt mt' : vMt) : Prop := mt'.2.2.2.2.1 + 1 ≤ mt.2.2.2.2.1 ∧ 8 + (mt'.2.2.1 + 11) + mt'.2.2.2.2.2 ≤ mt.2.2.2.2.2
theorem vCallB {R : Room} {s : State} {args : Array Value} {own : String} {n : Nat} (hw : vCw mt' n) (htb : ∀ w ∈ vTb, w.before args s = true) (hl : Cond.methodLink own idx mt'.1 ∈ vTb) (hr : (vRm mt' d d1).frames + 1 ≤ R.frames ∧ 8 + (mt'.2.2.1 + 11) + (vRm mt' d d1).locals ≤ R.locals) :
    CallB R s args own idx mt'.1 mt'.2.1 mt'.2.2.1 mt'.2.2.2.1 (vWs mt'.1 mt'.2.1 mt'.2.2.1 mt'.2.2.2.1) (vRm mt' d d1) (d1.length - d.length) (vSz d1 - vSz d) n :=
  callB_of n htb (vGood hw.1 (fun _ h => h)) rfl rfl rfl (htb _ hw.2.1) (htb _ hl) ⟨hw.2.2.1.1, hw.2.2.1.2, hw.2.2.2⟩ hr
theorem vCat_sum {ρ : Nat → Nat} {rest : List vA} (h : (rest.map vCat).sum ≤ 8) {m : MethodId} {ls : Array Slot} {st : List Value} : 2 * (F0 m pc ls st).monitorRoom + ((rest.map (vc ρ)).map fun v => v.category).sum ≤ 8 := by
  have : ((rest.map (vc ρ)).map fun v => v.category) = rest.map vCat := by
    rw [List.map_map]; exact List.map_congr_left fun v _ => vc_cat ρ v
  exact lv_room (by rw [this]; exact h)
theorem vPre_of {l : Launch} {p : Program} {e : Env} {s : State} {m : MethodId} {args : Array Value} {meth : Method} {c : Code} {D : va_G} {q : vQc} {A : Nat → Prop} {ρ0 ρ : Nat → Nat} {H : Heap} {locs : List Loc} (hX : vX mt p s m args meth c D q A) (hS : vS D q A s.heap ρ0 d0 ρ d T M H locs) (av : List Value) :
    ∀ U : State, U.heap = H → s.WarmedH U.vm → va_Pc av (vPre D q ρ d T M H.size) av.toArray U := by
  obtain ⟨hx, hb, hml, ho, htb, hrt, hlk, hnm, hK, hA, hst, hnw⟩ := id hX
  obtain ⟨hP, hD, hSS, hN, hag⟩ := id hS
  intro U hU hW
  refine ⟨rfl, by rw [hU], by rw [hU]; exact hP, va_K.moved hW.alike hK, hD.weaken (fun _ _ _ _ => trivial), ?_, hN, hnw.warm hW⟩
  rw [hU]
  refine hst.go hW.alike (fun a h1 h2 => hSS.2.1 a h1 h2) ?_
  rintro z (⟨k, e, h⟩ | h)
  · exact hD.2 k _ h
  · exact hA z (Nat.le_trans hSS.1 h)
theorem vV.callV {b ci n : Nat} (hd : decode mt.2.1 pc = .ok (.invokevirtual idx, 3)) (hlk : Cond.methodLink mt.1.cls idx mt'.1 ∈ vTb) (hw : vCw mt' n) (hw2 : Cond.instanceMethod mt'.1 ∈ vTb ∧ Cond.selects mt'.1.cls mt'.1 mt'.1 ∈ vTb) (hb0 : vKK b = (0, ci)) (hC : (vCl[ci]?).map (fun q => q.1) = some mt'.1.cls)
    (hc : vCon mt' d d1 (vR b :: As) T M Q1) (hlen : As.length = n) (hS0 : S = As.reverse ++ vR b :: rest) (hrm : vRoom mt mt') (hcat : (rest.map vCat).sum ≤ 8) (hn1 : vLe d d1 dF) (kk : ∀ r T' M', Q1 r T' M' → vV mt d0 dF Q (pc + 3) L (r.toList ++ rest) d1 T' M') : vV mt d0 dF Q pc L S d T M := by
  intro l p e s m args below meth c D q A ρ0 ρ H locs ls hX hS hl hL hs hn
  obtain ⟨hx, hb, hml, ho, htb, hrt, hlk2, hnm, hK, hA, hst⟩ := id hX
  obtain ⟨hP, hD, hSS, hN, hag⟩ := id hS
  subst hS0
  have hsA : ∀ v ∈ As, vOk d v := fun v hv => hs v (List.mem_append_left _ (List.mem_reverse.mpr hv))
  have hsb : b ∈ d := hs (vR b) (List.mem_append_right _ List.mem_cons_self) b rfl
  have hsr : ∀ v ∈ rest, vOk d v := fun v hv => hs v (List.mem_append_right _ (List.mem_cons_of_mem _ hv))
  obtain ⟨i, hi, hwi⟩ := vW_at (q := q) (ρ := ρ) (T := T) (M := M) hsb
  rw [vCe_o hb0] at hwi
  cases hci : vCl[ci]? with
  | none => rw [hci] at hC; cases hC
  | some qc =>
    rw [hci] at hC
    have hCe : qc.1 = mt'.1.cls := Option.some.inj hC
    have hrecv := va_recv hK hP (ci := ci) (q0 := i) hci hwi
    rw [hCe] at hrecv
    have hM := hc l D q ρ H.size (vOk_c (v := vR b) (fun k hk => by cases hk; exact hsb) hsA) ⟨Nat.le_refl _, Nat.le_refl _, hn1.1, hn1.2.1⟩
    refine vV.after (a1 := (Value.ref (ρ b) :: As.map (vc ρ)).toArray) (Q1 := Q1) hX hS hl hL hsr hn hn1 (va_runV (As := As.map (vc ρ)) (rest := rest.map (vc ρ)) (C := mt'.1.cls) ⟨hx, hb, hml, ho, htb⟩ hM ⟨vCallB hw htb hlk hrm, htb _ hw2.1, htb _ hw2.2⟩ ⟨vPre_blind, hrecv, vPre_of (l := l) (e := e) hX hS _⟩ rfl (by rw [List.length_map]; exact hlen) hl.1 (by simp [vc, va_rf]) (vCat_sum hcat) hd ?_) kk
    have a1 := hn.1; have a2 := hn1.1; have a3 := hn1.2.2.1; have b1 := hn.2.1; have b2 := hn1.2.1; have b3 := hn1.2.2.2
    constructor
    · show d.length - d0.length + (d1.length - d.length) ≤ dF.length - d0.length; omega
    · show vSz d - vSz d0 + (vSz d1 - vSz d) ≤ vSz dF - vSz d0; omega
theorem vV.callS {n : Nat} (hd : decode mt.2.1 pc = .ok (.invokestatic idx, 3)) (hlk : Cond.methodLink mt.1.cls idx mt'.1 ∈ vTb) (hw : vCw mt' n) (hw2 : Cond.static mt'.1 ∈ vTb)
    (hc : vCon mt' d d1 As T M Q1) (hlen : As.length = n) (hS0 : S = As.reverse ++ rest) (hrm : vRoom mt mt') (hcat : (rest.map vCat).sum ≤ 8) (hn1 : vLe d d1 dF) (kk : ∀ r T' M', Q1 r T' M' → vV mt d0 dF Q (pc + 3) L (r.toList ++ rest) d1 T' M') : vV mt d0 dF Q pc L S d T M := by
  intro l p e s m args below meth c D q A ρ0 ρ H locs ls hX hS hl hL hs hn
  obtain ⟨hx, hb, hml, ho, htb, hrt, hlk2, hnm, hK, hA, hst⟩ := id hX
  obtain ⟨hP, hD, hSS, hN, hag⟩ := id hS
  subst hS0
  have hsA : ∀ v ∈ As, vOk d v := fun v hv => hs v (List.mem_append_left _ (List.mem_reverse.mpr hv))
  have hsr : ∀ v ∈ rest, vOk d v := fun v hv => hs v (List.mem_append_right _ hv)
  have hM := hc l D q ρ H.size hsA ⟨Nat.le_refl _, Nat.le_refl _, hn1.1, hn1.2.1⟩
  refine vV.after (a1 := (As.map (vc ρ)).toArray) (Q1 := Q1) hX hS hl hL hsr hn hn1 (va_runS (As := As.map (vc ρ)) (rest := rest.map (vc ρ)) ⟨hx, hb, hml, ho, htb⟩ hM ⟨vCallB hw htb hlk hrm, htb _ hw2⟩ ⟨vPre_blind, vPre_of (l := l) (e := e) hX hS _⟩ rfl (by rw [List.length_map]; exact hlen) hl.1 (by simp) (vCat_sum hcat) hd ?_) kk
  have a1 := hn.1; have a2 := hn1.1; have a3 := hn1.2.2.1; have b1 := hn.2.1; have b2 := hn1.2.1; have b3 := hn1.2.2.2
  constructor
  · show d.length - d0.length + (d1.length - d.length) ≤ dF.length - d0.length; omega
  · show vSz d - vSz d0 + (vSz d1 - vSz d) ≤ vSz dF - vSz d0; omega
theorem vNest {R : Room} {s : State} {args : Array Value} {own host : String} {n : Nat} (hw : vCw mt' n) (htb : ∀ w ∈ vTb, w.before args s = true) (hl : (Cond.methodLinkNest own idx mt'.1 host).before args s = true) (hr : (vRm mt' d d1).frames + 1 ≤ R.frames ∧ 8 + (mt'.2.2.1 + 11) + (vRm mt' d d1).locals ≤ R.locals) :
    va_CN R s args own idx mt'.1 host mt'.2.1 mt'.2.2.1 mt'.2.2.2.1 (vWs mt'.1 mt'.2.1 mt'.2.2.1 mt'.2.2.2.1) (vRm mt' d d1) (d1.length - d.length) (vSz d1 - vSz d) n := by
  have hG : GoodIn vTb (vWs mt'.1 mt'.2.1 mt'.2.2.1 mt'.2.2.2.1) := vGood hw.1 (fun _ h => h)
  refine ⟨⟨rfl, rfl, hr.1, hr.2, pay_in htb hG, List.mem_cons_self⟩, htb _ hw.1, htb _ hw.2.1, hw.2.2.1, fun sig h => ?_, hl⟩
  have h2 := hw.2.2.2
  rw [h] at h2
  exact (Option.some.inj h2).symm
theorem vV.callSN {n : Nat} (hd : decode mt.2.1 pc = .ok (.invokestatic idx, 3)) (hlk : (mt.1.cls, idx, mt'.1) ∈ vNm) (hw : vCw mt' n) (hw2 : Cond.static mt'.1 ∈ vTb)
    (hc : vCon mt' d d1 As T M Q1) (hlen : As.length = n) (hS0 : S = As.reverse ++ rest) (hrm : vRoom mt mt') (hcat : (rest.map vCat).sum ≤ 8) (hn1 : vLe d d1 dF) (kk : ∀ r T' M', Q1 r T' M' → vV mt d0 dF Q (pc + 3) L (r.toList ++ rest) d1 T' M') : vV mt d0 dF Q pc L S d T M := by
  intro l p e s m args below meth c D q A ρ0 ρ H locs ls hX hS hl hL hs hn
  obtain ⟨hx, hb, hml, ho, htb, hrt, hlk2, hnm, hK, hA, hst, hnw⟩ := id hX
  obtain ⟨hP, hD, hSS, hN, hag⟩ := id hS
  subst hS0
  have hsA : ∀ v ∈ As, vOk d v := fun v hv => hs v (List.mem_append_left _ (List.mem_reverse.mpr hv))
  have hsr : ∀ v ∈ rest, vOk d v := fun v hv => hs v (List.mem_append_right _ hv)
  have hM := hc l D q ρ H.size hsA ⟨Nat.le_refl _, Nat.le_refl _, hn1.1, hn1.2.1⟩
  refine vV.after (a1 := (As.map (vc ρ)).toArray) (Q1 := Q1) hX hS hl hL hsr hn hn1 (va_runSN (As := As.map (vc ρ)) (rest := rest.map (vc ρ)) ⟨hx, hb, hml, ho, htb⟩ hM ⟨vNest hw htb (va_Nw.use rfl (hnw.1 _ hlk)) hrm, htb _ hw2, trivial⟩ ⟨vPre_blind, vPre_of (l := l) (e := e) hX hS _⟩ rfl (by rw [List.length_map]; exact hlen) hl.1 (by simp) (vCat_sum hcat) hd ?_) kk
  have a1 := hn.1; have a2 := hn1.1; have a3 := hn1.2.2.1; have b1 := hn.2.1; have b2 := hn1.2.1; have b3 := hn1.2.2.2
  constructor
  · show d.length - d0.length + (d1.length - d.length) ≤ dF.length - d0.length; omega
  · show vSz d - vSz d0 + (vSz d1 - vSz d) ≤ vSz dF - vSz d0; omega
theorem vV.callIN {b : Nat} (hd : decode mt.2.1 pc = .ok (.invokespecial idx, 3)) (hlk : (mt.1.cls, idx, mt'.1) ∈ vNm) (hw : vCw mt' 0) (hret : mt'.2.2.2.1 = none) (hw2 : mt'.1.name = "<init>" ∧ Cond.instanceMethod mt'.1 ∈ vTb)
    (hc : vCon mt' d d1 [vR b] T M Q1) (hS0 : S = vR b :: rest) (hrm : vRoom mt mt') (hcat : (rest.map vCat).sum ≤ 8) (hn1 : vLe d d1 dF) (kk : ∀ r T' M', Q1 r T' M' → vV mt d0 dF Q (pc + 3) L (r.toList ++ rest) d1 T' M') : vV mt d0 dF Q pc L S d T M := by
  intro l p e s m args below meth c D q A ρ0 ρ H locs ls hX hS hl hL hs hn
  obtain ⟨hx, hb, hml, ho, htb, hrt, hlk2, hnm, hK, hA, hst, hnw⟩ := id hX
  obtain ⟨hP, hD, hSS, hN, hag⟩ := id hS
  subst hS0
  have hsb : b ∈ d := vOk_h hs b rfl
  have hM := hc l D q ρ H.size (vOk_c (v := vR b) (fun k hk => by cases hk; exact hsb) (fun v hv => by cases hv)) ⟨Nat.le_refl _, Nat.le_refl _, hn1.1, hn1.2.1⟩
  have hN1 := vNest (R := vRm mt d0 dF) (d := d) (d1 := d1) (args := args) (s := s) hw htb (va_Nw.use rfl (hnw.1 _ hlk)) hrm
  rw [hret] at hM hN1
  refine vV.after (a1 := (Value.ref (ρ b) :: []).toArray) (Q1 := Q1) hX hS hl hL (vOk_t hs) hn hn1 (va_runIN (As := []) (rest := rest.map (vc ρ)) ⟨hx, hb, hml, ho, htb⟩ hM ⟨hN1, hw2.1, htb _ hw2.2⟩ ⟨vPre_blind, vPre_of (l := l) (e := e) hX hS _⟩ rfl rfl hl.1 (by simp [vc, va_rf]) (vCat_sum hcat) hd ?_) kk
  have a1 := hn.1; have a2 := hn1.1; have a3 := hn1.2.2.1; have b1 := hn.2.1; have b2 := hn1.2.1; have b3 := hn1.2.2.2
  constructor
  · show d.length - d0.length + (d1.length - d.length) ≤ dF.length - d0.length; omega
  · show vSz d - vSz d0 + (vSz d1 - vSz d) ≤ vSz dF - vSz d0; omega
end VCL
end
section
/-! ===== own: V: new cells, arraycopy, Math ===== -/
def vClr (M : vM) (k : Nat) : vM := fun a j => if a = k then 0 else M a j
def vClT (T : vT) (k : Nat) : vT := fun a j => if a = k then none else T a j
def vCpy (M : vM) (a : Nat) (sp : Int) (b : Nat) (dp n : Int) : vM := fun k j => if k = b ∧ dp ≤ j ∧ j < dp + n then M a (sp + (j - dp)) else M k j
theorem vSz_app (d : List Nat) (k : Nat) : vSz (d ++ [k]) = vSz d + vSl k := by simp [vSz]
theorem vSl_o {k ci : Nat} (h : vKK k = (0, ci)) : vSl k = vNf ci := by simp only [vSl, h]
theorem vSl_a {k t n : Nat} (ht : t ≠ 0) (h : vKK k = (t, n)) : vSl k = n := by
  unfold vSl; rw [h]
  split
  · rename_i h'; cases h'; exact absurd rfl ht
  · rename_i h'; cases h'; rfl
def vTyB : FieldType → Bool
  | .int => true
  | .boolean => true
  | .object _ => true
  | .array _ => true
  | _ => false
theorem vTy_b {ci : Nat} {C : String} {TT : u_T} {N j : Nat} (h : vCl[ci]? = some (C, TT, N)) (hj : j < N) : vTyB (vTy ci j) = true := by
  match ci, h with
  | 0, h => cases h; revert j; decide +kernel
  | 1, h => cases h; revert j; decide +kernel
  | 2, h => cases h; revert j; decide +kernel
  | 3, h => cases h; revert j; decide +kernel
  | 4, h => cases h; revert j; decide +kernel
  | 5, h => cases h; revert j; decide +kernel
  | 6, h => cases h; revert j; decide +kernel
  | 7, h => cases h; revert j; decide +kernel
  | n + 8, h => simp [vCl] at h
section VNW
variable {mt : vMt} {d0 dF : List Nat} {Q : Option vA → vT → vM → Prop} {pc idx : Nat} {L : List (Option vA)} {S : List vA} {d : List Nat} {T : vT} {M : vM}
/-- a new cell of the name k: the world and what is known of the old values -/
theorem vNew {q : vQc} {ρ : Nat → Nat} {k a : Nat} (hk : k ∉ d) (hT : ∀ k' j v, T k' j = some v → v ∈ d) {e : va_E} (he : vCe q (fun z => if z = k then a else ρ z) (vClT T k) (vClr M k) k = e) :
    vW q ρ d T M ++ [(a, e)] = vW q (fun z => if z = k then a else ρ z) (d ++ [k]) (vClT T k) (vClr M k) := by
  have hm : ∀ z ∈ d, (if z = k then a else ρ z) = ρ z := fun z hz => if_neg (fun h : z = k => hk (h ▸ hz))
  unfold vW
  rw [List.map_append, List.map_singleton, he]
  congr 1
  · refine List.map_congr_left fun z hz => ?_
    have hne : z ≠ k := fun h => hk (h ▸ hz)
    show (ρ z, vCe q ρ T M z) = ((if z = k then a else ρ z), vCe q (fun z => if z = k then a else ρ z) (vClT T k) (vClr M k) z)
    rw [hm z hz, vCe_mono (d := d) (ρ := ρ) hm (fun k' j v h => by unfold vClT at h; split at h; cases h; exact hT k' j v h)]
    rw [vCe_row (T := T) (M := M) (T' := vClT T k) (M' := vClr M k) (by funext j; simp [vClr, hne]) (by funext j; simp [vClT, hne])]
  · simp
theorem vNew_N {k : Nat} (h : vN d T M) : vN (d ++ [k]) (vClT T k) (vClr M k) := by
  refine ⟨fun a j => ?_, fun a j v hv => ?_⟩
  · unfold vClr; split
    · exact i32_z
    · exact h.1 a j
  · unfold vClT at hv; split at hv
    · cases hv
    · exact List.mem_append_left _ (h.2 a j v hv)
/-- behind a new cell -/
theorem vV.made {k a : Nat} {l : Launch} {p : Program} {e : Env} {s : State} {m : MethodId} {args : Array Value} {below : List Frame} {meth : Method} {c : Code} {D : va_G} {q : vQc} {A : Nat → Prop} {ρ0 ρ : Nat → Nat} {H1 : Heap} {locs : List Loc} {ls : Array Slot} {pc' : Nat} {ex : va_E}
    (hX : vX mt p s m args meth c D q A) (hN : vN d T M) (hag : ∀ k ∈ d0, k ∈ d ∧ ρ k = ρ0 k) (hl : lv_has ls mt.2.2.1 (vl ρ L)) (hL : vLok d L) (hs : ∀ v ∈ S, vOk d v) (hn : vLe d0 d dF) (hk : k ∉ d) (hn1 : vLe d (d ++ [k]) dF)
    (he : vCe q (fun z => if z = k then a else ρ z) (vClT T k) (vClr M k) k = ex)
    (h1 : va_P D vCl (vW q ρ d T M ++ [(a, ex)]) H1) (h2 : va_D A (vW q ρ d T M ++ [(a, ex)])) (h3 : va_S A s.heap H1 locs)
    (kk : vV mt d0 dF Q pc' L (vR k :: S) (d ++ [k]) (vClT T k) (vClr M k)) :
    W p l e (vRm mt d0 dF) s m args below meth c H1 locs (d.length - d0.length + 1) (vSz d - vSz d0 + vSl k) (MQ below (vQq q D A ρ0 d0 dF Q) args s (dF.length - d0.length) (vSz dF - vSz d0) A) (F0 m pc' ls (.ref a :: S.map (vc ρ))) := by
  have hm : ∀ z ∈ d, (if z = k then a else ρ z) = ρ z := fun z hz => if_neg (fun h : z = k => hk (h ▸ hz))
  have hin : ∀ z ∈ d, z ∈ d ++ [k] := fun z hz => List.mem_append_left _ hz
  rw [vNew hk hN.2 he] at h1 h2
  have W1 := kk l p e s m args below meth c D q A ρ0 (fun z => if z = k then a else ρ z) H1 locs ls hX ⟨h1, h2, h3, vNew_N hN, fun z hz => ⟨hin z (hag z hz).1, (hm z (hag z hz).1).trans (hag z hz).2⟩⟩ (vl_monoL hm hL hl) (vLok_mono hin hL) (vOk_c (v := vR k) (fun z hz => by cases hz; simp) (fun v hv => vOk_mono hin (hs v hv))) ⟨by have := hn.1; have := hn1.1; omega, by have := hn.2.1; have := hn1.2.1; omega, hn1.2.2⟩
  have ec : d.length - d0.length + 1 = (d ++ [k]).length - d0.length := by have := hn.1; simp; omega
  have es : vSz d - vSz d0 + vSl k = vSz (d ++ [k]) - vSz d0 := by have := hn.2.1; rw [vSz_app]; omega
  rw [ec, es]
  have est : (vR k :: S).map (vc (fun z => if z = k then a else ρ z)) = .ref a :: S.map (vc ρ) := by
    rw [List.map_cons, vc_monoL hm hs]; simp [vc, va_rf]
  rw [est] at W1
  exact W1
theorem vV.newO {k ci : Nat} {C : String} {TT : u_T} {N : Nat} (hd : decode mt.2.1 pc = .ok (.new idx, 3)) (hc : vCl[ci]? = some (C, TT, N)) (hw : Cond.classLink mt.1.cls idx C ∈ vTb) (hk : vKK k = (0, ci)) (hf : k ∉ d) (hn1 : vLe d (d ++ [k]) dF)
    (kk : vV mt d0 dF Q (pc + 3) L (vR k :: S) (d ++ [k]) (vClT T k) (vClr M k)) : vV mt d0 dF Q pc L S d T M := by
  intro l p e s m args below meth c D q A ρ0 ρ H locs ls hX hS hl hL hs hn
  obtain ⟨hx, hb, hml, ho, htb, hrt, hlk, hnm, hK, hA, hst⟩ := id hX
  obtain ⟨hP, hD, hSS, hN, hag⟩ := id hS
  obtain ⟨e1, e2, e3, e4, e5, e6, e7⟩ := vCl_ok hc
  have hsl := vSl_o hk
  refine va_new hx hb htb e2 (vTy ci) e3 ho (htb _ hw) (htb _ e5) (htb _ e6) hK hP hD hSS hA hc (fs := (List.range N).map (vFv ρ (vClT T k) (vClr M k) k ci)) (fun j hj => ?_) ?_ ?_ hd fun a H1 h1 h2 h3 => ?_
  · show _ = List.getD _ j Value.null
    rw [List.getD_eq_getElem?_getD, vRange_at _ hj]
    show _ = vFv _ _ _ _ _ _
    have hb := vTy_b hc hj
    unfold vFv vClr vClT
    cases hz : vTy ci j <;> rw [hz] at hb <;> first | (exfalso; simp [vTyB] at hb; done) | (simp [defaultValue, va_rf]; done) | (simp [defaultValue, va_rf]; rfl)
  · show d.length - d0.length + 1 ≤ dF.length - d0.length
    have a1 := hn.1; have a2 := hn1.2.2.1; simp at a2; omega
  · show vSz d - vSz d0 + N ≤ vSz dF - vSz d0
    have a1 := hn.2.1; have a2 := hn1.2.2.2; rw [vSz_app, hsl, ← e1] at a2; omega
  · have := vV.made (l := l) (e := e) (below := below) (a := a) (H1 := H1) (pc' := pc + 3) hX hN hag hl hL hs hn hf hn1 (ex := .inr (ci, (List.range N).map (vFv ρ (vClT T k) (vClr M k) k ci))) (by
      rw [vCe_o hk, e1]
      have : ∀ j, vFv (fun z => if z = k then a else ρ z) (vClT T k) (vClr M k) k ci j = vFv ρ (vClT T k) (vClr M k) k ci j := by
        intro j; unfold vFv vClT; simp
      rw [show vFv (fun z => if z = k then a else ρ z) (vClT T k) (vClr M k) k ci = vFv ρ (vClT T k) (vClr M k) k ci from funext this]) h1 h2 h3 kk
    rw [hsl, ← e1] at this
    exact this
theorem vV.newI {k n : Nat} {x : Int} (hd : decode mt.2.1 pc = .ok (.newarray .int, 2)) (hx0 : x = (n : Int)) (hk : vKK k = (1, n)) (hf : k ∉ d) (hbg : n ≤ 134217728) (hn1 : vLe d (d ++ [k]) dF) (hw : Cond.arrayClass .int ∈ vTb)
    (kk : vV mt d0 dF Q (pc + 2) L (vR k :: S) (d ++ [k]) (vClT T k) (vClr M k)) : vV mt d0 dF Q pc L (vI x :: S) d T M := by
  intro l p e s m args below meth c D q A ρ0 ρ H locs ls hX hS hl hL hs hn
  obtain ⟨hx, hb, hml, ho, htb, hrt, hlk, hnm, hK, hA, hst⟩ := id hX
  obtain ⟨hP, hD, hSS, hN, hag⟩ := id hS
  have hsl := vSl_a (by decide) hk
  have hxr : vIn x := vOk_h hs
  have hnt : (Int32.ofInt x).toInt = x := i32_in hxr
  refine va_newa (atype := .int) hx hb (htb _ hw) rfl hK hP hD hSS hA (N' := n) (a0 := (n, .inl (fun _ => Int32.ofInt 0))) (fun cA => by rfl) ?_ ?_ ?_ ?_ ?_ hd fun a cA H1 hK1 h1 h2 h3 => ?_
  · rw [Int32.lt_iff_toInt_lt, hnt]; simp; omega
  · show (Int32.ofInt x).toInt.toNat = n; rw [hnt]; omega
  · show n * 4 ≤ _; omega
  · show d.length - d0.length + 1 ≤ dF.length - d0.length
    have a1 := hn.1; have a2 := hn1.2.2.1; simp at a2; omega
  · show vSz d - vSz d0 + n ≤ vSz dF - vSz d0
    have a1 := hn.2.1; have a2 := hn1.2.2.2; rw [vSz_app, hsl] at a2; omega
  · have hcA : cA = q.1 := by
      have r1 : s.vm.findClass ("[" ++ (FieldType.int).toString) = some cA := (hK1.2 3 (cA, .int) rfl).2
      have r2 : s.vm.findClass ("[" ++ (FieldType.int).toString) = some q.1 := (hK1.2 0 (q.1, .int) rfl).2
      exact Option.some.inj (r1.symm.trans r2)
    subst hcA
    have := vV.made (l := l) (e := e) (below := below) (a := a) (H1 := H1) (pc' := pc + 2) hX hN hag hl hL (vOk_t hs) hn hf hn1 (ex := .inl (q.1, n, .inl (fun _ => Int32.ofInt 0))) (by rw [vCe_i hk]; congr 4; funext j; simp [vClr]) h1 h2 h3 kk
    rw [hsl] at this
    exact this
theorem vV.newZ {k n : Nat} {x : Int} (hd : decode mt.2.1 pc = .ok (.newarray .boolean, 2)) (hx0 : x = (n : Int)) (hk : vKK k = (2, n)) (hf : k ∉ d) (hbg : n ≤ 134217728) (hn1 : vLe d (d ++ [k]) dF) (hw : Cond.arrayClass .boolean ∈ vTb)
    (kk : vV mt d0 dF Q (pc + 2) L (vR k :: S) (d ++ [k]) (vClT T k) (vClr M k)) : vV mt d0 dF Q pc L (vI x :: S) d T M := by
  intro l p e s m args below meth c D q A ρ0 ρ H locs ls hX hS hl hL hs hn
  obtain ⟨hx, hb, hml, ho, htb, hrt, hlk, hnm, hK, hA, hst⟩ := id hX
  obtain ⟨hP, hD, hSS, hN, hag⟩ := id hS
  have hsl := vSl_a (by decide) hk
  have hxr : vIn x := vOk_h hs
  have hnt : (Int32.ofInt x).toInt = x := i32_in hxr
  refine va_newa (atype := .boolean) hx hb (htb _ hw) rfl hK hP hD hSS hA (N' := n) (a0 := (n, .inl (fun _ => Int32.ofInt 0))) (fun cA => by rfl) ?_ ?_ ?_ ?_ ?_ hd fun a cA H1 hK1 h1 h2 h3 => ?_
  · rw [Int32.lt_iff_toInt_lt, hnt]; simp; omega
  · show (Int32.ofInt x).toInt.toNat = n; rw [hnt]; omega
  · show n * 1 ≤ _; omega
  · show d.length - d0.length + 1 ≤ dF.length - d0.length
    have a1 := hn.1; have a2 := hn1.2.2.1; simp at a2; omega
  · show vSz d - vSz d0 + n ≤ vSz dF - vSz d0
    have a1 := hn.2.1; have a2 := hn1.2.2.2; rw [vSz_app, hsl] at a2; omega
  · have hcA : cA = q.2.1 := by
      have r1 : s.vm.findClass ("[" ++ (FieldType.boolean).toString) = some cA := (hK1.2 3 (cA, .boolean) rfl).2
      have r2 : s.vm.findClass ("[" ++ (FieldType.boolean).toString) = some q.2.1 := (hK1.2 1 (q.2.1, .boolean) rfl).2
      exact Option.some.inj (r1.symm.trans r2)
    subst hcA
    have := vV.made (l := l) (e := e) (below := below) (a := a) (H1 := H1) (pc' := pc + 2) hX hN hag hl hL (vOk_t hs) hn hf hn1 (ex := .inl (q.2.1, n, .inl (fun _ => Int32.ofInt 0))) (by rw [vCe_z hk]; congr 4; funext j; simp [vClr]) h1 h2 h3 kk
    rw [hsl] at this
    exact this
theorem vV.newQ {k n : Nat} {x : Int} (hd : decode mt.2.1 pc = .ok (.anewarray idx, 3)) (hx0 : x = (n : Int)) (hk : vKK k = (3, n)) (hf : k ∉ d) (hbg : n ≤ 134217728) (hn1 : vLe d (d ++ [k]) dF) (hw2 : Cond.classLink mt.1.cls idx RX3 ∈ vTb)
    (kk : vV mt d0 dF Q (pc + 3) L (vR k :: S) (d ++ [k]) (vClT T k) (vClr M k)) : vV mt d0 dF Q pc L (vI x :: S) d T M := by
  intro l p e s m args below meth c D q A ρ0 ρ H locs ls hX hS hl hL hs hn
  obtain ⟨hx, hb, hml, ho, htb, hrt, hlk, hnm, hK, hA, hst, hnw⟩ := id hX
  obtain ⟨hP, hD, hSS, hN, hag⟩ := id hS
  have hsl := vSl_a (by decide) hk
  have hxr : vIn x := vOk_h hs
  have hnt : (Int32.ofInt x).toInt = x := i32_in hxr
  refine va_newq hx hb ho (htb _ hw2) hnw.2.2.2 hK hP hD hSS hA (N' := n) ?_ ?_ ?_ ?_ ?_ hd fun a cA H1 hK1 h1 h2 h3 => ?_
  · rw [Int32.lt_iff_toInt_lt, hnt]; simp; omega
  · show (Int32.ofInt x).toInt.toNat = n; rw [hnt]; omega
  · omega
  · show d.length - d0.length + 1 ≤ dF.length - d0.length
    have a1 := hn.1; have a2 := hn1.2.2.1; simp at a2; omega
  · show vSz d - vSz d0 + n ≤ vSz dF - vSz d0
    have a1 := hn.2.1; have a2 := hn1.2.2.2; rw [vSz_app, hsl] at a2; omega
  · have hcA : cA = q.2.2 := by
      obtain ⟨-, -, -, -, -, r1⟩ := (hK1.2 3 (cA, .object RX3) rfl).2
      obtain ⟨-, -, -, -, -, r2⟩ := (hK1.2 2 (q.2.2, .object RX3) rfl).2
      exact Option.some.inj (r1.symm.trans r2)
    subst hcA
    have := vV.made (l := l) (e := e) (below := below) (a := a) (H1 := H1) (pc' := pc + 3) hX hN hag hl hL (vOk_t hs) hn hf hn1 (ex := .inl (q.2.2, n, .inr (.inr (.inr (.inr (fun _ => none)))))) (by rw [vCe_r hk]; congr 7; funext j; simp [vClT]) h1 h2 h3 kk
    rw [hsl] at this
    exact this
theorem vV.objInit {k : Nat} (hd : decode mt.2.1 pc = .ok (.invokespecial idx, 3)) (hw : Cond.methodLink mt.1.cls idx Lib.objectInit ∈ vTb) (hw2 : Cond.instanceMethod Lib.objectInit ∈ vTb ∧ Cond.code Lib.objectInit ⟨#[0xb1]⟩ 1 none ∈ vTb) (hfr : 1 ≤ mt.2.2.2.2.1) (hlo : (S.map vCat).sum + 12 ≤ mt.2.2.2.2.2)
    (kk : vV mt d0 dF Q (pc + 3) L S d T M) : vV mt d0 dF Q pc L (vR k :: S) d T M := by
  intro l p e s m args below meth c D q A ρ0 ρ H locs ls hX hS hl hL hs hn
  obtain ⟨hx, hb, hml, ho, htb, hrt, hlk, hnm, hK, hA, hst⟩ := id hX
  refine W.objInit hx hb ho (htb _ hw) (htb _ hw2.1) (htb _ hw2.2) (g := F0 m pc ls ((vR k :: S).map (vc ρ))) rfl (hl.1.trans hml.symm) (a := ρ k) (rest := S.map (vc ρ)) rfl hd hfr ?_ (kk l p e s m args below meth c D q A ρ0 ρ H locs ls hX hS hl hL (vOk_t hs) hn)
  have : ((S.map (vc ρ)).map fun v => v.category) = S.map vCat := by rw [List.map_map]; exact List.map_congr_left fun v _ => vc_cat ρ v
  show 2 * 0 + _ + 12 ≤ _
  rw [this]; show _ ≤ mt.2.2.2.2.2; omega
theorem vCatL {ρ : Nat → Nat} {S : List vA} : ((S.map (vc ρ)).map fun v => v.category) = S.map vCat := by rw [List.map_map]; exact List.map_congr_left fun v _ => vc_cat ρ v
theorem vV.mmin {x y : Int} (hd : decode mt.2.1 pc = .ok (.invokestatic idx, 3)) (hw : Cond.methodLink mt.1.cls idx Lib.Math.min.name ∈ vTb) (hw2 : Cond.static Lib.Math.min.name ∈ vTb ∧ Cond.initialized "java/lang/Math" ∈ vTb ∧ Cond.code Lib.Math.min.name Lib.Math.min.code 2 (some .int) ∈ vTb) (hfr : 1 ≤ mt.2.2.2.2.1) (hlo : (S.map vCat).sum + 13 ≤ mt.2.2.2.2.2)
    (kk : vV mt d0 dF Q (pc + 3) L (vI (min x y) :: S) d T M) : vV mt d0 dF Q pc L (vI y :: vI x :: S) d T M := by
  intro l p e s m args below meth c D q A ρ0 ρ H locs ls hX hS hl hL hs hn
  obtain ⟨hx, hb, hml, ho, htb, hrt, hlk, hnm, hK, hA, hst⟩ := id hX
  have hxr : vIn x := vOk_h (vOk_t hs)
  have hyr : vIn y := vOk_h hs
  have a1 := hn.1; have a2 := hn.2.1; have a3 := hn.2.2.1; have a4 := hn.2.2.2
  refine va_mmin hx hb (hml.trans hl.1.symm) ho (htb _ hw) (htb _ hw2.1) (htb _ hw2.2.1) (htb _ hw2.2.2) hfr (by rw [vCatL]; exact hlo) (by show d.length - d0.length ≤ dF.length - d0.length; omega) (by show vSz d - vSz d0 ≤ vSz dF - vSz d0; omega) hd ?_
  have e9 : (if Int32.ofInt y < Int32.ofInt x then Int32.ofInt y else Int32.ofInt x) = Int32.ofInt (min x y) := by
    by_cases h : y < x
    · rw [if_pos ((i32_lt hyr hxr).mpr h), show min x y = y by omega]
    · rw [if_neg (fun z => h ((i32_lt hyr hxr).mp z)), show min x y = x by omega]
  rw [e9]
  exact kk l p e s m args below meth c D q A ρ0 ρ H locs ls hX hS hl hL (vOk_c (v := vI (min x y)) (by show vIn _; rcases (show min x y = x ∨ min x y = y by omega) with z | z <;> rw [z] <;> assumption) (vOk_t (vOk_t hs))) hn
theorem vV.mmax {x y : Int} (hd : decode mt.2.1 pc = .ok (.invokestatic idx, 3)) (hw : Cond.methodLink mt.1.cls idx Lib.Math.max.name ∈ vTb) (hw2 : Cond.static Lib.Math.max.name ∈ vTb ∧ Cond.initialized "java/lang/Math" ∈ vTb ∧ Cond.code Lib.Math.max.name Lib.Math.max.code 2 (some .int) ∈ vTb) (hfr : 1 ≤ mt.2.2.2.2.1) (hlo : (S.map vCat).sum + 13 ≤ mt.2.2.2.2.2)
    (kk : vV mt d0 dF Q (pc + 3) L (vI (max x y) :: S) d T M) : vV mt d0 dF Q pc L (vI y :: vI x :: S) d T M := by
  intro l p e s m args below meth c D q A ρ0 ρ H locs ls hX hS hl hL hs hn
  obtain ⟨hx, hb, hml, ho, htb, hrt, hlk, hnm, hK, hA, hst⟩ := id hX
  have hxr : vIn x := vOk_h (vOk_t hs)
  have hyr : vIn y := vOk_h hs
  have a1 := hn.1; have a2 := hn.2.1; have a3 := hn.2.2.1; have a4 := hn.2.2.2
  refine va_mmax hx hb (hml.trans hl.1.symm) ho (htb _ hw) (htb _ hw2.1) (htb _ hw2.2.1) (htb _ hw2.2.2) hfr (by rw [vCatL]; exact hlo) (by show d.length - d0.length ≤ dF.length - d0.length; omega) (by show vSz d - vSz d0 ≤ vSz dF - vSz d0; omega) hd ?_
  have e9 : (if Int32.ofInt x < Int32.ofInt y then Int32.ofInt y else Int32.ofInt x) = Int32.ofInt (max x y) := by
    by_cases h : x < y
    · rw [if_pos ((i32_lt hxr hyr).mpr h), show max x y = y by omega]
    · rw [if_neg (fun z => h ((i32_lt hxr hyr).mp z)), show max x y = x by omega]
  rw [e9]
  exact kk l p e s m args below meth c D q A ρ0 ρ H locs ls hX hS hl hL (vOk_c (v := vI (max x y)) (by show vIn _; rcases (show max x y = x ∨ max x y = y by omega) with z | z <;> rw [z] <;> assumption) (vOk_t (vOk_t hs))) hn
theorem vV.mabs {x : Int} (hd : decode mt.2.1 pc = .ok (.invokestatic idx, 3)) (hw : Cond.methodLink mt.1.cls idx Lib.Math.abs.name ∈ vTb) (hw2 : Cond.static Lib.Math.abs.name ∈ vTb ∧ Cond.initialized "java/lang/Math" ∈ vTb ∧ Cond.code Lib.Math.abs.name Lib.Math.abs.code 1 (some .int) ∈ vTb) (hfr : 1 ≤ mt.2.2.2.2.1) (hlo : (S.map vCat).sum + 13 ≤ mt.2.2.2.2.2) (h : vIn (-x))
    (kk : vV mt d0 dF Q (pc + 3) L (vI (max x (-x)) :: S) d T M) : vV mt d0 dF Q pc L (vI x :: S) d T M := by
  intro l p e s m args below meth c D q A ρ0 ρ H locs ls hX hS hl hL hs hn
  obtain ⟨hx, hb, hml, ho, htb, hrt, hlk, hnm, hK, hA, hst⟩ := id hX
  have hxr : vIn x := vOk_h hs
  have a1 := hn.1; have a2 := hn.2.1; have a3 := hn.2.2.1; have a4 := hn.2.2.2
  refine va_mabs hx hb (hml.trans hl.1.symm) ho (htb _ hw) (htb _ hw2.1) (htb _ hw2.2.1) (htb _ hw2.2.2) hfr (by rw [vCatL]; exact hlo) (by show d.length - d0.length ≤ dF.length - d0.length; omega) (by show vSz d - vSz d0 ≤ vSz dF - vSz d0; omega) hd ?_
  have e9 : (if 0 ≤ Int32.ofInt x then Int32.ofInt x else 0 - Int32.ofInt x) = Int32.ofInt (max x (-x)) := by
    show (if Int32.ofInt 0 ≤ Int32.ofInt x then Int32.ofInt x else Int32.ofInt 0 - Int32.ofInt x) = _
    by_cases h : 0 ≤ x
    · rw [if_pos ((i32_le i32_z hxr).mpr h), show max x (-x) = x by omega]
    · rw [if_neg (fun z => h ((i32_le i32_z hxr).mp z)), show max x (-x) = 0 - x by omega, Int32.ofInt_sub]
  rw [e9]
  exact kk l p e s m args below meth c D q A ρ0 ρ H locs ls hX hS hl hL (vOk_c (v := vI (max x (-x))) (by show vIn _; rcases (show max x (-x) = x ∨ max x (-x) = -x by omega) with z | z <;> rw [z] <;> assumption) (vOk_t hs)) hn
theorem vV.copy {a b na nb : Nat} {sp dp n : Int} (hd : decode mt.2.1 pc = .ok (.invokestatic idx, 3)) (hw : Cond.methodLink mt.1.cls idx arraycopyName ∈ vTb) (hw2 : Cond.native arraycopyName ∈ vTb ∧ Cond.static arraycopyName ∈ vTb ∧ Cond.initialized "java/lang/System" ∈ vTb) (hka : vKK a = (1, na)) (hkb : vKK b = (1, nb)) (h1 : 0 ≤ sp) (h2 : 0 ≤ dp) (h3 : 0 ≤ n) (h4 : sp + n ≤ na) (h5 : dp + n ≤ nb)
    (hfr : 1 ≤ mt.2.2.2.2.1) (hlo : (S.map vCat).sum + 18 ≤ mt.2.2.2.2.2) (kk : vV mt d0 dF Q (pc + 3) L S d T (vCpy M a sp b dp n)) : vV mt d0 dF Q pc L (vI n :: vI dp :: vR b :: vI sp :: vR a :: S) d T M := by
  intro l p e s m args below meth c D q A ρ0 ρ H locs ls hX hS hl hL hs hn
  obtain ⟨hx, hb, hml, ho, htb, hrt, hlk, hnm, hK, hA, hst⟩ := id hX
  obtain ⟨hP, hD, hSS, hN, hag⟩ := id hS
  have r1 : vIn n := vOk_h hs
  have r2 : vIn dp := vOk_h (vOk_t hs)
  have r3 : vIn sp := vOk_h (vOk_t (vOk_t (vOk_t hs)))
  obtain ⟨i, hi, hwi⟩ := vW_at (q := q) (ρ := ρ) (T := T) (M := M) (vOk_h (vOk_t (vOk_t (vOk_t (vOk_t hs)))) a rfl)
  obtain ⟨j, hj, hwj⟩ := vW_at (q := q) (ρ := ρ) (T := T) (M := M) (vOk_h (vOk_t (vOk_t hs)) b rfl)
  rw [vCe_i hka] at hwi
  rw [vCe_i hkb] at hwj
  have c1 : (Int32.ofInt n).toNatClampNeg = n.toNat := by show (Int32.ofInt n).toInt.toNat = _; rw [i32_in r1]
  have c2 : (Int32.ofInt dp).toNatClampNeg = dp.toNat := by show (Int32.ofInt dp).toInt.toNat = _; rw [i32_in r2]
  have c3 : (Int32.ofInt sp).toNatClampNeg = sp.toNat := by show (Int32.ofInt sp).toInt.toNat = _; rw [i32_in r3]
  have nneg : ∀ z : Int, vIn z → 0 ≤ z → ¬ Int32.ofInt z < 0 := fun z hz h0 h => by have := (i32_lt hz i32_z).mp h; omega
  refine va_copyi hx hb (hml.trans hl.1.symm) ho (htb _ hw) (htb _ hw2.1) (htb _ hw2.2.1) (htb _ hw2.2.2) hK hP hD hSS i j 0 0 hwi hwj rfl rfl rfl (nneg sp r3 h1) (nneg dp r2 h2) (nneg n r1 h3) (by rw [c1, c3]; omega) (by rw [c1, c2]; omega) (fun _ _ => rfl) hfr (by rw [vCatL]; show _ + 18 ≤ _; exact hlo) hd fun H1 locs1 b1 b2 b3 => ?_
  have hset : (vW q ρ d T M).set j (ρ b, .inl (q.1, nb, .inl (va_cpy (fun j => Int32.ofInt (M a j)) (fun j => Int32.ofInt (M b j)) (Int32.ofInt sp).toNatClampNeg (Int32.ofInt dp).toNatClampNeg (Int32.ofInt n).toNatClampNeg))) = vW q ρ d T (vCpy M a sp b dp n) := by
    refine vW_set hD hj ?_ (fun k' hne => vCe_row (by funext z; simp [vCpy, hne]) rfl)
    rw [vCe_i hkb, c1, c2, c3]
    congr 4
    funext z
    unfold va_cpy vCpy
    by_cases hz : dp.toNat ≤ z ∧ z < dp.toNat + n.toNat
    · rw [if_pos hz, if_pos ⟨rfl, by omega, by omega⟩]
      congr 2; omega
    · rw [if_neg hz, if_neg]; rintro ⟨-, y1, y2⟩; omega
  have b1 : va_P D vCl (vW q ρ d T (vCpy M a sp b dp n)) H1 := by rw [← hset]; exact b1
  have b2 : va_D A (vW q ρ d T (vCpy M a sp b dp n)) := by rw [← hset]; exact b2
  refine kk l p e s m args below meth c D q A ρ0 ρ H1 locs1 ls hX ⟨b1, b2, b3, ⟨fun k z => ?_, hN.2⟩, hag⟩ hl hL (vOk_t (vOk_t (vOk_t (vOk_t (vOk_t hs))))) hn
  unfold vCpy; split
  · exact hN.1 _ _
  · exact hN.1 _ _
end VNW
-- the posts
def vPi (P : Int → vT → vM → Prop) : Option vA → vT → vM → Prop := fun r T M => ∃ x : Int, r = some (vI x) ∧ vIn x ∧ P x T M
def vPv (P : vT → vM → Prop) : Option vA → vT → vM → Prop := fun r T M => r = none ∧ P T M
end
section
abbrev m_X0_init : vMt := (yX0_init, cX0_init, 1, none, 1, 20)
abbrev m_X0_take : vMt := (yX0_take, cX0_take, 5, (some .int), 1, 23)
abbrev m_X0_shiftOf : vMt := (yX0_shiftOf, cX0_shiftOf, 1, (some .int), 0, 0)
abbrev m_X0_makeRows : vMt := (yX0_makeRows, cX0_makeRows, 1, none, 0, 0)
abbrev m_X0_openPage : vMt := (yX0_openPage, cX0_openPage, 1, none, 1, 23)
abbrev m_X0_isMarked : vMt := (yX0_isMarked, cX0_isMarked, 2, (some .boolean), 0, 0)
abbrev m_X0_mark : vMt := (yX0_mark, cX0_mark, 3, none, 0, 0)
abbrev m_X0_valueOf : vMt := (yX0_valueOf, cX0_valueOf, 2, (some .int), 0, 0)
abbrev m_X0_isOpen : vMt := (yX0_isOpen, cX0_isOpen, 2, (some .boolean), 0, 0)
abbrev m_X0_after : vMt := (yX0_after, cX0_after, 8, (some .int), 1, 21)
abbrev m_X0_measure : vMt := (yX0_measure, cX0_measure, 7, (some .int), 2, 48)
abbrev m_X0_put : vMt := (yX0_put, cX0_put, 3, (some .int), 0, 0)
abbrev m_X0_raise : vMt := (yX0_raise, cX0_raise, 3, none, 1, 22)
abbrev m_X0_markPath : vMt := (yX0_markPath, cX0_markPath, 3, (some .int), 1, 22)
abbrev m_X0_bestThing : vMt := (yX0_bestThing, cX0_bestThing, 7, (some .int), 3, 74)
abbrev m_X0_soonestBow : vMt := (yX0_soonestBow, cX0_soonestBow, 8, (some .int), 3, 73)
abbrev m_X0_bears : vMt := (yX0_bears, cX0_bears, 4, (some .boolean), 1, 20)
abbrev m_X0_addUnseen : vMt := (yX0_addUnseen, cX0_addUnseen, 6, (some .int), 2, 48)
abbrev m_X0_gaspsOf : vMt := (yX0_gaspsOf, cX0_gaspsOf, 1, (some .int), 0, 0)
abbrev m_X0_firstThingOf : vMt := (yX0_firstThingOf, cX0_firstThingOf, 1, (some .int), 0, 0)
abbrev m_X0_mostWorth : vMt := (yX0_mostWorth, cX0_mostWorth, 14, (some .int), 2, 48)
abbrev m_X0_keepBest : vMt := (yX0_keepBest, cX0_keepBest, 7, (some .int), 1, 22)
abbrev m_X0_gaspsAt : vMt := (yX0_gaspsAt, cX0_gaspsAt, 4, (some .int), 1, 20)
abbrev m_X1_init : vMt := (yX1_init, cX1_init, 1, none, 1, 20)
abbrev m_X1_add : vMt := (yX1_add, cX1_add, 2, (some .boolean), 0, 0)
abbrev m_X1_thingOf : vMt := (yX1_thingOf, cX1_thingOf, 1, (some .int), 0, 0)
abbrev m_X1_isTimes : vMt := (yX1_isTimes, cX1_isTimes, 1, (some .boolean), 0, 0)
abbrev m_X1_firstFault : vMt := (yX1_firstFault, cX1_firstFault, 3, (some .int), 1, 20)
abbrev m_X1_read : vMt := (yX1_read, cX1_read, 6, (some .int), 1, 20)
abbrev m_X2_init : vMt := (yX2_init, cX2_init, 1, none, 1, 20)
abbrev m_X2_readOrder : vMt := (yX2_readOrder, cX2_readOrder, 7, (some .boolean), 0, 0)
abbrev m_X2_leastTurn : vMt := (yX2_leastTurn, cX2_leastTurn, 8, (some .int), 1, 21)
abbrev m_X2_findBest : vMt := (yX2_findBest, cX2_findBest, 7, (some .int), 2, 48)
abbrev m_X2_asNumber : vMt := (yX2_asNumber, cX2_asNumber, 4, (some .int), 0, 0)
abbrev m_X3_init : vMt := (yX3_init, cX3_init, 1, none, 1, 22)
abbrev m_X3_copyFrom : vMt := (yX3_copyFrom, cX3_copyFrom, 2, none, 1, 26)
abbrev m_X3_has : vMt := (yX3_has, cX3_has, 2, (some .boolean), 0, 0)
abbrev m_X3_add : vMt := (yX3_add, cX3_add, 5, (some .int), 0, 0)
abbrev m_X3_plateOn : vMt := (yX3_plateOn, cX3_plateOn, 3, (some .int), 0, 0)
abbrev m_X3_can : vMt := (yX3_can, cX3_can, 4, (some .boolean), 1, 22)
abbrev m_X3_act : vMt := (yX3_act, cX3_act, 2, none, 2, 44)
abbrev m_X3_move : vMt := (yX3_move, cX3_move, 3, none, 1, 22)
abbrev m_X3_runDown : vMt := (yX3_runDown, cX3_runDown, 2, none, 1, 21)
abbrev m_X3_standing : vMt := (yX3_standing, cX3_standing, 3, (some .int), 0, 0)
abbrev m_X3_sumOfTurns : vMt := (yX3_sumOfTurns, cX3_sumOfTurns, 3, (some .int), 0, 0)
abbrev m_X3_packedTurns : vMt := (yX3_packedTurns, cX3_packedTurns, 3, (some .int), 0, 0)
abbrev m_X4_init : vMt := (yX4_init, cX4_init, 1, none, 1, 20)
abbrev m_X4_find : vMt := (yX4_find, cX4_find, 8, none, 5, 113)
abbrev m_X4_sortPlaces : vMt := (yX4_sortPlaces, cX4_sortPlaces, 4, none, 1, 22)
abbrev m_X5_init : vMt := (yX5_init, cX5_init, 1, none, 2, 42)
abbrev m_X5_begin : vMt := (yX5_begin, cX5_begin, 2, none, 3, 62)
abbrev m_X5_beginHere : vMt := (yX5_beginHere, cX5_beginHere, 1, none, 2, 42)
abbrev m_X5_writeLog : vMt := (yX5_writeLog, cX5_writeLog, 1, none, 1, 22)
abbrev m_X5_choose : vMt := (yX5_choose, cX5_choose, 3, (some .int), 3, 68)
abbrev m_X5_act : vMt := (yX5_act, cX5_act, 2, none, 2, 44)
abbrev m_X5_takeGoal : vMt := (yX5_takeGoal, cX5_takeGoal, 3, (some .int), 2, 46)
abbrev m_X5_worst : vMt := (yX5_worst, cX5_worst, 4, (some .int), 1, 21)
abbrev m_X5_near : vMt := (yX5_near, cX5_near, 3, (some .int), 1, 22)
abbrev m_X5_nextByNumber : vMt := (yX5_nextByNumber, cX5_nextByNumber, 3, (some .int), 0, 0)
abbrev m_X5_leastLeft : vMt := (yX5_leastLeft, cX5_leastLeft, 5, (some .int), 1, 22)
abbrev m_X5_far : vMt := (yX5_far, cX5_far, 3, (some .int), 0, 0)
abbrev m_X5_seen : vMt := (yX5_seen, cX5_seen, 2, (some .int), 0, 0)
abbrev m_X5_logged : vMt := (yX5_logged, cX5_logged, 1, (some .int), 0, 0)
abbrev m_X5_ticksToFirstFall : vMt := (yX5_ticksToFirstFall, cX5_ticksToFirstFall, 4, (some .int), 4, 90)
abbrev m_X5_goUntilItComesAgain : vMt := (yX5_goUntilItComesAgain, cX5_goUntilItComesAgain, 5, (some .int), 4, 90)
abbrev m_X5_alike : vMt := (yX5_alike, cX5_alike, 4, (some .boolean), 1, 20)
abbrev m_X6_init : vMt := (yX6_init, cX6_init, 1, none, 3, 62)
abbrev m_X6_plate : vMt := (yX6_plate, cX6_plate, 4, (some .int), 1, 24)
abbrev m_X6_turn : vMt := (yX6_turn, cX6_turn, 4, (some .int), 1, 22)
abbrev m_X6_set : vMt := (yX6_set, cX6_set, 4, (some .int), 1, 22)
abbrev m_X6_about : vMt := (yX6_about, cX6_about, 3, (some .int), 1, 21)
abbrev m_X6_tick : vMt := (yX6_tick, cX6_tick, 2, (some .int), 3, 65)
abbrev m_X6_say : vMt := (yX6_say, cX6_say, 2, (some .int), 1, 22)
abbrev m_X6_wipe : vMt := (yX6_wipe, cX6_wipe, 2, (some .int), 0, 0)
abbrev m_X6_fault : vMt := (yX6_fault, cX6_fault, 2, (some .int), 2, 42)
abbrev m_X6_judge : vMt := (yX6_judge, cX6_judge, 6, (some .int), 3, 65)
abbrev m_X6_show : vMt := (yX6_show, cX6_show, 3, (some .int), 3, 65)
abbrev m_X6_lasts : vMt := (yX6_lasts, cX6_lasts, 2, (some .int), 5, 113)
abbrev m_X6_at : vMt := (yX6_at, cX6_at, 5, (some .int), 4, 90)
abbrev m_X6_round : vMt := (yX6_round, cX6_round, 4, (some .int), 5, 114)
abbrev m_X6_sticks : vMt := (yX6_sticks, cX6_sticks, 3, (some .int), 6, 140)
abbrev m_X6_kept : vMt := (yX6_kept, cX6_kept, 2, (some .int), 3, 74)
abbrev m_X6_longest : vMt := (yX6_longest, cX6_longest, 3, (some .int), 3, 74)
abbrev m_X6_step : vMt := (yX6_step, cX6_step, 3, (some .int), 4, 100)
abbrev m_X6_bow : vMt := (yX6_bow, cX6_bow, 4, (some .int), 4, 100)
abbrev m_X6_gasps : vMt := (yX6_gasps, cX6_gasps, 5, (some .int), 3, 81)
abbrev m_X6_load : vMt := (yX6_load, cX6_load, 5, (some .int), 1, 25)
abbrev m_X6_setUp : vMt := (yX6_setUp, cX6_setUp, 2, (some .int), 2, 48)
abbrev m_X6_bestOrder : vMt := (yX6_bestOrder, cX6_bestOrder, 2, (some .int), 3, 74)
abbrev m_X6_film : vMt := (yX6_film, cX6_film, 2, (some .int), 5, 114)
abbrev m_X6_whose : vMt := (yX6_whose, cX6_whose, 6, (some .int), 5, 114)
abbrev m_X6_image : vMt := (yX6_image, cX6_image, 2, (some .int), 2, 47)
abbrev m_X6_restore : vMt := (yX6_restore, cX6_restore, 2, (some .int), 2, 47)
abbrev m_X6_told : vMt := (yX6_told, cX6_told, 2, (some .int), 1, 22)
abbrev m_X6_within : vMt := (yX6_within, cX6_within, 3, (some .boolean), 0, 0)
abbrev m_X6_isRule : vMt := (yX6_isRule, cX6_isRule, 1, (some .boolean), 1, 22)
abbrev m_X6_orNone : vMt := (yX6_orNone, cX6_orNone, 1, (some .int), 0, 0)
abbrev m_X6_commonDivisor : vMt := (yX6_commonDivisor, cX6_commonDivisor, 6, (some .int), 0, 0)
abbrev m_X6_nextOrder : vMt := (yX6_nextOrder, cX6_nextOrder, 6, (some .boolean), 1, 23)
abbrev m_X6_swap : vMt := (yX6_swap, cX6_swap, 4, none, 0, 0)
abbrev m_X6_firstOrder : vMt := (yX6_firstOrder, cX6_firstOrder, 2, none, 0, 0)
abbrev m_X6_ticksLike : vMt := (yX6_ticksLike, cX6_ticksLike, 5, (some .int), 4, 90)
abbrev m_X7_init : vMt := (yX7_init, cX7_init, 1, none, 1, 20)
abbrev m_X7_in : vMt := (yX7_in, cX7_in, 6, (some .boolean), 0, 0)
abbrev m_X7_apart : vMt := (yX7_apart, cX7_apart, 2, (some .int), 0, 0)
abbrev m_X7_isPlate : vMt := (yX7_isPlate, cX7_isPlate, 2, (some .boolean), 1, 25)
abbrev m_X7_plateAt : vMt := (yX7_plateAt, cX7_plateAt, 3, (some .int), 0, 0)
abbrev m_X7_plate : vMt := (yX7_plate, cX7_plate, 4, (some .int), 1, 25)
abbrev m_X7_turn : vMt := (yX7_turn, cX7_turn, 4, (some .int), 2, 46)
abbrev m_X7_set : vMt := (yX7_set, cX7_set, 6, (some .int), 1, 25)
abbrev m_X7_setNow : vMt := (yX7_setNow, cX7_setNow, 2, (some .int), 0, 0)
abbrev m_X7_about : vMt := (yX7_about, cX7_about, 3, (some .int), 2, 46)
abbrev m_X7_standing : vMt := (yX7_standing, cX7_standing, 3, (some .int), 0, 0)
abbrev m_X7_begin : vMt := (yX7_begin, cX7_begin, 2, none, 1, 22)
abbrev m_X7_note : vMt := (yX7_note, cX7_note, 3, none, 0, 0)
abbrev m_X7_simStanding : vMt := (yX7_simStanding, cX7_simStanding, 3, (some .int), 0, 0)
abbrev m_X7_simHere : vMt := (yX7_simHere, cX7_simHere, 2, (some .int), 0, 0)
abbrev m_X7_can : vMt := (yX7_can, cX7_can, 2, (some .boolean), 1, 21)
abbrev m_X7_doThing : vMt := (yX7_doThing, cX7_doThing, 3, none, 1, 22)
abbrev m_X7_wind : vMt := (yX7_wind, cX7_wind, 2, none, 0, 0)
abbrev m_X7_seen : vMt := (yX7_seen, cX7_seen, 3, (some .int), 0, 0)
abbrev m_X7_far : vMt := (yX7_far, cX7_far, 2, (some .int), 1, 21)
abbrev m_X7_worst : vMt := (yX7_worst, cX7_worst, 3, (some .int), 1, 22)
abbrev m_X7_near : vMt := (yX7_near, cX7_near, 3, (some .int), 2, 44)
abbrev m_X7_following : vMt := (yX7_following, cX7_following, 3, (some .int), 0, 0)
abbrev m_X7_left : vMt := (yX7_left, cX7_left, 5, (some .int), 2, 42)
abbrev m_X7_thingBy : vMt := (yX7_thingBy, cX7_thingBy, 2, (some .int), 3, 66)
abbrev m_X7_goBy : vMt := (yX7_goBy, cX7_goBy, 2, none, 4, 87)
abbrev m_X7_tick : vMt := (yX7_tick, cX7_tick, 2, (some .int), 2, 44)
abbrev m_X7_takeOver : vMt := (yX7_takeOver, cX7_takeOver, 2, none, 0, 0)
abbrev m_X7_say : vMt := (yX7_say, cX7_say, 2, (some .int), 1, 25)
abbrev m_X7_wipe : vMt := (yX7_wipe, cX7_wipe, 2, (some .int), 0, 0)
abbrev m_X7_thingOf : vMt := (yX7_thingOf, cX7_thingOf, 1, (some .int), 0, 0)
abbrev m_X7_fault : vMt := (yX7_fault, cX7_fault, 5, (some .int), 1, 25)
abbrev m_X7_judgeAll : vMt := (yX7_judgeAll, cX7_judgeAll, 3, none, 2, 44)
abbrev m_X7_judge : vMt := (yX7_judge, cX7_judge, 2, (some .int), 3, 66)
abbrev m_X7_sumOfTurns : vMt := (yX7_sumOfTurns, cX7_sumOfTurns, 3, (some .int), 0, 0)
abbrev m_X7_show : vMt := (yX7_show, cX7_show, 1, (some .int), 3, 66)
abbrev m_X7_isRule : vMt := (yX7_isRule, cX7_isRule, 1, (some .boolean), 1, 25)
abbrev m_X7_lastsOf : vMt := (yX7_lastsOf, cX7_lastsOf, 3, (some .int), 5, 108)
abbrev m_X7_lasts : vMt := (yX7_lasts, cX7_lasts, 2, (some .int), 6, 130)
abbrev m_X7_at : vMt := (yX7_at, cX7_at, 5, (some .int), 5, 108)
abbrev m_X7_isAs : vMt := (yX7_isAs, cX7_isAs, 5, (some .boolean), 0, 0)
abbrev m_X7_round : vMt := (yX7_round, cX7_round, 5, (some .int), 6, 130)
abbrev m_X7_sortPlaces : vMt := (yX7_sortPlaces, cX7_sortPlaces, 3, none, 0, 0)
abbrev m_X7_layOrder : vMt := (yX7_layOrder, cX7_layOrder, 2, none, 0, 0)
abbrev m_X7_nextOrder : vMt := (yX7_nextOrder, cX7_nextOrder, 6, (some .boolean), 0, 0)
abbrev m_X7_findSticks : vMt := (yX7_findSticks, cX7_findSticks, 7, (some .int), 6, 130)
abbrev m_X7_sticks : vMt := (yX7_sticks, cX7_sticks, 4, (some .int), 7, 156)
abbrev m_X7_findExact : vMt := (yX7_findExact, cX7_findExact, 3, (some .boolean), 1, 25)
abbrev m_X7_stateNow : vMt := (yX7_stateNow, cX7_stateNow, 3, (some .int), 0, 0)
abbrev m_X7_turnIn : vMt := (yX7_turnIn, cX7_turnIn, 2, (some .int), 0, 0)
abbrev m_X7_isState : vMt := (yX7_isState, cX7_isState, 5, (some .boolean), 1, 21)
abbrev m_X7_nextState : vMt := (yX7_nextState, cX7_nextState, 10, (some .int), 1, 21)
abbrev m_X7_layLives : vMt := (yX7_layLives, cX7_layLives, 4, none, 3, 75)
abbrev m_X7_endsIn : vMt := (yX7_endsIn, cX7_endsIn, 6, (some .boolean), 2, 50)
abbrev m_X7_kept : vMt := (yX7_kept, cX7_kept, 1, (some .int), 4, 98)
abbrev m_X7_longest : vMt := (yX7_longest, cX7_longest, 1, (some .int), 4, 98)
abbrev m_X7_step : vMt := (yX7_step, cX7_step, 4, (some .int), 4, 98)
abbrev m_X7_canBow : vMt := (yX7_canBow, cX7_canBow, 5, (some .boolean), 1, 21)
abbrev m_X7_bow : vMt := (yX7_bow, cX7_bow, 7, (some .int), 2, 50)
abbrev m_X7_gaspsIn : vMt := (yX7_gaspsIn, cX7_gaspsIn, 4, (some .int), 1, 21)
abbrev m_X7_gaspsBy : vMt := (yX7_gaspsBy, cX7_gaspsBy, 5, (some .int), 2, 50)
abbrev m_X7_gasps : vMt := (yX7_gasps, cX7_gasps, 9, (some .int), 3, 74)
abbrev m_X7_load : vMt := (yX7_load, cX7_load, 6, (some .int), 1, 25)
abbrev m_X7_setUpOf : vMt := (yX7_setUpOf, cX7_setUpOf, 6, (some .int), 1, 21)
abbrev m_X7_layTold : vMt := (yX7_layTold, cX7_layTold, 5, (some .boolean), 0, 0)
abbrev m_X7_setUp : vMt := (yX7_setUp, cX7_setUp, 2, (some .int), 2, 46)
abbrev m_X7_bestOrder : vMt := (yX7_bestOrder, cX7_bestOrder, 6, (some .int), 2, 46)
abbrev m_X7_likeOf : vMt := (yX7_likeOf, cX7_likeOf, 4, (some .int), 4, 87)
abbrev m_X7_film : vMt := (yX7_film, cX7_film, 2, (some .int), 5, 110)
abbrev m_X7_whose : vMt := (yX7_whose, cX7_whose, 5, (some .int), 5, 110)
abbrev m_X7_pass : vMt := (yX7_pass, cX7_pass, 3, (some .int), 0, 0)
abbrev m_X7_passAll : vMt := (yX7_passAll, cX7_passAll, 2, none, 1, 22)
abbrev m_X7_image : vMt := (yX7_image, cX7_image, 2, (some .int), 2, 43)
abbrev m_X7_restore : vMt := (yX7_restore, cX7_restore, 2, (some .int), 2, 43)
abbrev m_X7_told : vMt := (yX7_told, cX7_told, 2, (some .int), 1, 25)
abbrev m_J6_bitCount_0f7a4 : vMt := (yJ6_bitCount_0f7a4, cJ6_bitCount_0f7a4, 1, (some .int), 0, 0)
abbrev m_J9_abs_0f7a4 : vMt := (yJ9_abs_0f7a4, cJ9_abs_0f7a4, 1, (some .int), 0, 0)
abbrev m_J9_max_7cf53 : vMt := (yJ9_max_7cf53, cJ9_max_7cf53, 2, (some .int), 0, 0)
abbrev m_J9_min_7cf53 : vMt := (yJ9_min_7cf53, cJ9_min_7cf53, 2, (some .int), 0, 0)
abbrev m_J7_fill_53178 : vMt := (yJ7_fill_53178, cJ7_fill_53178, 4, none, 0, 0)
abbrev m_L_law : vMt := (yL_law, cL_law, 4, (some .boolean), 8, 179)
theorem cw_X0_init : vCw m_X0_init 0 := ⟨vTb_t 175 (by decide +kernel) (by decide +kernel), vTb_t 7 (by decide +kernel) (by decide +kernel), ⟨by decide +kernel, by decide +kernel⟩, by decide +kernel⟩
theorem iw_X0_init : (m_X0_init).1.name = "<init>" ∧ Cond.instanceMethod (m_X0_init).1 ∈ vTb := ⟨rfl, vTb_t 174 (by decide +kernel) (by decide +kernel)⟩
theorem cw_X0_take : vCw m_X0_take 1 := ⟨vTb_t 469 (by decide +kernel) (by decide +kernel), vTb_t 7 (by decide +kernel) (by decide +kernel), ⟨by decide +kernel, by decide +kernel⟩, by decide +kernel⟩
theorem iw_X0_take : Cond.instanceMethod (m_X0_take).1 ∈ vTb ∧ Cond.selects (m_X0_take).1.cls (m_X0_take).1 (m_X0_take).1 ∈ vTb := ⟨vTb_t 467 (by decide +kernel) (by decide +kernel), vTb_t 468 (by decide +kernel) (by decide +kernel)⟩
theorem cw_X0_shiftOf : vCw m_X0_shiftOf 1 := ⟨vTb_t 482 (by decide +kernel) (by decide +kernel), vTb_t 7 (by decide +kernel) (by decide +kernel), ⟨by decide +kernel, by decide +kernel⟩, by decide +kernel⟩
theorem sw_X0_shiftOf : Cond.static (m_X0_shiftOf).1 ∈ vTb := vTb_t 481 (by decide +kernel) (by decide +kernel)
theorem cw_X0_makeRows : vCw m_X0_makeRows 0 := ⟨vTb_t 486 (by decide +kernel) (by decide +kernel), vTb_t 7 (by decide +kernel) (by decide +kernel), ⟨by decide +kernel, by decide +kernel⟩, by decide +kernel⟩
theorem iw_X0_makeRows : Cond.instanceMethod (m_X0_makeRows).1 ∈ vTb ∧ Cond.selects (m_X0_makeRows).1.cls (m_X0_makeRows).1 (m_X0_makeRows).1 ∈ vTb := ⟨vTb_t 485 (by decide +kernel) (by decide +kernel), vTb_p (q := (yX0_makeRows, 9)) 1 (by decide +kernel)⟩
theorem cw_X0_openPage : vCw m_X0_openPage 0 := ⟨vTb_t 491 (by decide +kernel) (by decide +kernel), vTb_t 7 (by decide +kernel) (by decide +kernel), ⟨by decide +kernel, by decide +kernel⟩, by decide +kernel⟩
theorem iw_X0_openPage : Cond.instanceMethod (m_X0_openPage).1 ∈ vTb ∧ Cond.selects (m_X0_openPage).1.cls (m_X0_openPage).1 (m_X0_openPage).1 ∈ vTb := ⟨vTb_t 489 (by decide +kernel) (by decide +kernel), vTb_t 490 (by decide +kernel) (by decide +kernel)⟩
theorem cw_X0_isMarked : vCw m_X0_isMarked 1 := ⟨vTb_t 499 (by decide +kernel) (by decide +kernel), vTb_t 7 (by decide +kernel) (by decide +kernel), ⟨by decide +kernel, by decide +kernel⟩, by decide +kernel⟩
theorem iw_X0_isMarked : Cond.instanceMethod (m_X0_isMarked).1 ∈ vTb ∧ Cond.selects (m_X0_isMarked).1.cls (m_X0_isMarked).1 (m_X0_isMarked).1 ∈ vTb := ⟨vTb_t 498 (by decide +kernel) (by decide +kernel), vTb_p (q := (yX0_isMarked, 9)) 2 (by decide +kernel)⟩
theorem cw_X0_mark : vCw m_X0_mark 2 := ⟨vTb_t 510 (by decide +kernel) (by decide +kernel), vTb_t 7 (by decide +kernel) (by decide +kernel), ⟨by decide +kernel, by decide +kernel⟩, by decide +kernel⟩
theorem iw_X0_mark : Cond.instanceMethod (m_X0_mark).1 ∈ vTb ∧ Cond.selects (m_X0_mark).1.cls (m_X0_mark).1 (m_X0_mark).1 ∈ vTb := ⟨vTb_t 509 (by decide +kernel) (by decide +kernel), vTb_p (q := (yX0_mark, 9)) 4 (by decide +kernel)⟩
theorem cw_X0_valueOf : vCw m_X0_valueOf 1 := ⟨vTb_t 504 (by decide +kernel) (by decide +kernel), vTb_t 7 (by decide +kernel) (by decide +kernel), ⟨by decide +kernel, by decide +kernel⟩, by decide +kernel⟩
theorem iw_X0_valueOf : Cond.instanceMethod (m_X0_valueOf).1 ∈ vTb ∧ Cond.selects (m_X0_valueOf).1.cls (m_X0_valueOf).1 (m_X0_valueOf).1 ∈ vTb := ⟨vTb_t 503 (by decide +kernel) (by decide +kernel), vTb_p (q := (yX0_valueOf, 9)) 3 (by decide +kernel)⟩
theorem cw_X0_isOpen : vCw m_X0_isOpen 1 := ⟨vTb_t 528 (by decide +kernel) (by decide +kernel), vTb_t 7 (by decide +kernel) (by decide +kernel), ⟨by decide +kernel, by decide +kernel⟩, by decide +kernel⟩
theorem iw_X0_isOpen : Cond.instanceMethod (m_X0_isOpen).1 ∈ vTb ∧ Cond.selects (m_X0_isOpen).1.cls (m_X0_isOpen).1 (m_X0_isOpen).1 ∈ vTb := ⟨vTb_t 527 (by decide +kernel) (by decide +kernel), vTb_p (q := (yX0_isOpen, 9)) 8 (by decide +kernel)⟩
theorem cw_X0_after : vCw m_X0_after 2 := ⟨vTb_t 519 (by decide +kernel) (by decide +kernel), vTb_t 7 (by decide +kernel) (by decide +kernel), ⟨by decide +kernel, by decide +kernel⟩, by decide +kernel⟩
theorem iw_X0_after : Cond.instanceMethod (m_X0_after).1 ∈ vTb ∧ Cond.selects (m_X0_after).1.cls (m_X0_after).1 (m_X0_after).1 ∈ vTb := ⟨vTb_t 518 (by decide +kernel) (by decide +kernel), vTb_p (q := (yX0_after, 9)) 6 (by decide +kernel)⟩
theorem cw_X0_measure : vCw m_X0_measure 1 := ⟨vTb_t 495 (by decide +kernel) (by decide +kernel), vTb_t 7 (by decide +kernel) (by decide +kernel), ⟨by decide +kernel, by decide +kernel⟩, by decide +kernel⟩
theorem iw_X0_measure : Cond.instanceMethod (m_X0_measure).1 ∈ vTb ∧ Cond.selects (m_X0_measure).1.cls (m_X0_measure).1 (m_X0_measure).1 ∈ vTb := ⟨vTb_t 493 (by decide +kernel) (by decide +kernel), vTb_t 494 (by decide +kernel) (by decide +kernel)⟩
theorem cw_X0_put : vCw m_X0_put 2 := ⟨vTb_t 524 (by decide +kernel) (by decide +kernel), vTb_t 7 (by decide +kernel) (by decide +kernel), ⟨by decide +kernel, by decide +kernel⟩, by decide +kernel⟩
theorem iw_X0_put : Cond.instanceMethod (m_X0_put).1 ∈ vTb ∧ Cond.selects (m_X0_put).1.cls (m_X0_put).1 (m_X0_put).1 ∈ vTb := ⟨vTb_t 523 (by decide +kernel) (by decide +kernel), vTb_p (q := (yX0_put, 9)) 7 (by decide +kernel)⟩
theorem cw_X0_raise : vCw m_X0_raise 2 := ⟨vTb_t 515 (by decide +kernel) (by decide +kernel), vTb_t 7 (by decide +kernel) (by decide +kernel), ⟨by decide +kernel, by decide +kernel⟩, by decide +kernel⟩
theorem iw_X0_raise : Cond.instanceMethod (m_X0_raise).1 ∈ vTb ∧ Cond.selects (m_X0_raise).1.cls (m_X0_raise).1 (m_X0_raise).1 ∈ vTb := ⟨vTb_t 514 (by decide +kernel) (by decide +kernel), vTb_p (q := (yX0_raise, 9)) 5 (by decide +kernel)⟩
theorem cw_X0_markPath : vCw m_X0_markPath 1 := ⟨vTb_t 532 (by decide +kernel) (by decide +kernel), vTb_t 7 (by decide +kernel) (by decide +kernel), ⟨by decide +kernel, by decide +kernel⟩, by decide +kernel⟩
theorem iw_X0_markPath : Cond.instanceMethod (m_X0_markPath).1 ∈ vTb ∧ Cond.selects (m_X0_markPath).1.cls (m_X0_markPath).1 (m_X0_markPath).1 ∈ vTb := ⟨vTb_t 531 (by decide +kernel) (by decide +kernel), vTb_p (q := (yX0_markPath, 9)) 9 (by decide +kernel)⟩
theorem cw_X0_bestThing : vCw m_X0_bestThing 1 := ⟨vTb_t 545 (by decide +kernel) (by decide +kernel), vTb_t 7 (by decide +kernel) (by decide +kernel), ⟨by decide +kernel, by decide +kernel⟩, by decide +kernel⟩
theorem iw_X0_bestThing : Cond.instanceMethod (m_X0_bestThing).1 ∈ vTb ∧ Cond.selects (m_X0_bestThing).1.cls (m_X0_bestThing).1 (m_X0_bestThing).1 ∈ vTb := ⟨vTb_t 543 (by decide +kernel) (by decide +kernel), vTb_t 544 (by decide +kernel) (by decide +kernel)⟩
theorem cw_X0_soonestBow : vCw m_X0_soonestBow 2 := ⟨vTb_t 555 (by decide +kernel) (by decide +kernel), vTb_t 7 (by decide +kernel) (by decide +kernel), ⟨by decide +kernel, by decide +kernel⟩, by decide +kernel⟩
theorem iw_X0_soonestBow : Cond.instanceMethod (m_X0_soonestBow).1 ∈ vTb ∧ Cond.selects (m_X0_soonestBow).1.cls (m_X0_soonestBow).1 (m_X0_soonestBow).1 ∈ vTb := ⟨vTb_t 553 (by decide +kernel) (by decide +kernel), vTb_t 554 (by decide +kernel) (by decide +kernel)⟩
theorem cw_X0_bears : vCw m_X0_bears 2 := ⟨vTb_t 559 (by decide +kernel) (by decide +kernel), vTb_t 7 (by decide +kernel) (by decide +kernel), ⟨by decide +kernel, by decide +kernel⟩, by decide +kernel⟩
theorem iw_X0_bears : Cond.instanceMethod (m_X0_bears).1 ∈ vTb ∧ Cond.selects (m_X0_bears).1.cls (m_X0_bears).1 (m_X0_bears).1 ∈ vTb := ⟨vTb_t 558 (by decide +kernel) (by decide +kernel), vTb_p (q := (yX0_bears, 9)) 10 (by decide +kernel)⟩
theorem cw_X0_addUnseen : vCw m_X0_addUnseen 2 := ⟨vTb_t 563 (by decide +kernel) (by decide +kernel), vTb_t 7 (by decide +kernel) (by decide +kernel), ⟨by decide +kernel, by decide +kernel⟩, by decide +kernel⟩
theorem iw_X0_addUnseen : Cond.instanceMethod (m_X0_addUnseen).1 ∈ vTb ∧ Cond.selects (m_X0_addUnseen).1.cls (m_X0_addUnseen).1 (m_X0_addUnseen).1 ∈ vTb := ⟨vTb_t 562 (by decide +kernel) (by decide +kernel), vTb_p (q := (yX0_addUnseen, 9)) 11 (by decide +kernel)⟩
theorem cw_X0_gaspsOf : vCw m_X0_gaspsOf 1 := ⟨vTb_t 583 (by decide +kernel) (by decide +kernel), vTb_t 7 (by decide +kernel) (by decide +kernel), ⟨by decide +kernel, by decide +kernel⟩, by decide +kernel⟩
theorem sw_X0_gaspsOf : Cond.static (m_X0_gaspsOf).1 ∈ vTb := vTb_t 582 (by decide +kernel) (by decide +kernel)
theorem cw_X0_firstThingOf : vCw m_X0_firstThingOf 1 := ⟨vTb_t 586 (by decide +kernel) (by decide +kernel), vTb_t 7 (by decide +kernel) (by decide +kernel), ⟨by decide +kernel, by decide +kernel⟩, by decide +kernel⟩
theorem sw_X0_firstThingOf : Cond.static (m_X0_firstThingOf).1 ∈ vTb := vTb_t 585 (by decide +kernel) (by decide +kernel)
theorem cw_X0_mostWorth : vCw m_X0_mostWorth 2 := ⟨vTb_t 571 (by decide +kernel) (by decide +kernel), vTb_t 7 (by decide +kernel) (by decide +kernel), ⟨by decide +kernel, by decide +kernel⟩, by decide +kernel⟩
theorem iw_X0_mostWorth : Cond.instanceMethod (m_X0_mostWorth).1 ∈ vTb ∧ Cond.selects (m_X0_mostWorth).1.cls (m_X0_mostWorth).1 (m_X0_mostWorth).1 ∈ vTb := ⟨vTb_t 569 (by decide +kernel) (by decide +kernel), vTb_t 570 (by decide +kernel) (by decide +kernel)⟩
theorem cw_X0_keepBest : vCw m_X0_keepBest 4 := ⟨vTb_t 579 (by decide +kernel) (by decide +kernel), vTb_t 7 (by decide +kernel) (by decide +kernel), ⟨by decide +kernel, by decide +kernel⟩, by decide +kernel⟩
theorem iw_X0_keepBest : Cond.instanceMethod (m_X0_keepBest).1 ∈ vTb ∧ Cond.selects (m_X0_keepBest).1.cls (m_X0_keepBest).1 (m_X0_keepBest).1 ∈ vTb := ⟨vTb_t 578 (by decide +kernel) (by decide +kernel), vTb_p (q := (yX0_keepBest, 9)) 13 (by decide +kernel)⟩
theorem cw_X0_gaspsAt : vCw m_X0_gaspsAt 1 := ⟨vTb_t 575 (by decide +kernel) (by decide +kernel), vTb_t 7 (by decide +kernel) (by decide +kernel), ⟨by decide +kernel, by decide +kernel⟩, by decide +kernel⟩
theorem iw_X0_gaspsAt : Cond.instanceMethod (m_X0_gaspsAt).1 ∈ vTb ∧ Cond.selects (m_X0_gaspsAt).1.cls (m_X0_gaspsAt).1 (m_X0_gaspsAt).1 ∈ vTb := ⟨vTb_t 574 (by decide +kernel) (by decide +kernel), vTb_p (q := (yX0_gaspsAt, 9)) 12 (by decide +kernel)⟩
theorem cw_X1_init : vCw m_X1_init 0 := ⟨vTb_t 86 (by decide +kernel) (by decide +kernel), vTb_t 3 (by decide +kernel) (by decide +kernel), ⟨by decide +kernel, by decide +kernel⟩, by decide +kernel⟩
theorem iw_X1_init : (m_X1_init).1.name = "<init>" ∧ Cond.instanceMethod (m_X1_init).1 ∈ vTb := ⟨rfl, vTb_t 85 (by decide +kernel) (by decide +kernel)⟩
theorem cw_X1_add : vCw m_X1_add 1 := ⟨vTb_t 303 (by decide +kernel) (by decide +kernel), vTb_t 3 (by decide +kernel) (by decide +kernel), ⟨by decide +kernel, by decide +kernel⟩, by decide +kernel⟩
theorem iw_X1_add : Cond.instanceMethod (m_X1_add).1 ∈ vTb ∧ Cond.selects (m_X1_add).1.cls (m_X1_add).1 (m_X1_add).1 ∈ vTb := ⟨vTb_t 301 (by decide +kernel) (by decide +kernel), vTb_t 302 (by decide +kernel) (by decide +kernel)⟩
theorem cw_X1_thingOf : vCw m_X1_thingOf 1 := ⟨vTb_t 318 (by decide +kernel) (by decide +kernel), vTb_t 3 (by decide +kernel) (by decide +kernel), ⟨by decide +kernel, by decide +kernel⟩, by decide +kernel⟩
theorem sw_X1_thingOf : Cond.static (m_X1_thingOf).1 ∈ vTb := vTb_t 317 (by decide +kernel) (by decide +kernel)
theorem cw_X1_isTimes : vCw m_X1_isTimes 1 := ⟨vTb_t 321 (by decide +kernel) (by decide +kernel), vTb_t 3 (by decide +kernel) (by decide +kernel), ⟨by decide +kernel, by decide +kernel⟩, by decide +kernel⟩
theorem sw_X1_isTimes : Cond.static (m_X1_isTimes).1 ∈ vTb := vTb_t 320 (by decide +kernel) (by decide +kernel)
theorem cw_X1_firstFault : vCw m_X1_firstFault 0 := ⟨vTb_t 315 (by decide +kernel) (by decide +kernel), vTb_t 3 (by decide +kernel) (by decide +kernel), ⟨by decide +kernel, by decide +kernel⟩, by decide +kernel⟩
theorem iw_X1_firstFault : Cond.instanceMethod (m_X1_firstFault).1 ∈ vTb ∧ Cond.selects (m_X1_firstFault).1.cls (m_X1_firstFault).1 (m_X1_firstFault).1 ∈ vTb := ⟨vTb_t 313 (by decide +kernel) (by decide +kernel), vTb_t 314 (by decide +kernel) (by decide +kernel)⟩
theorem cw_X1_read : vCw m_X1_read 0 := ⟨vTb_t 336 (by decide +kernel) (by decide +kernel), vTb_t 3 (by decide +kernel) (by decide +kernel), ⟨by decide +kernel, by decide +kernel⟩, by decide +kernel⟩
theorem iw_X1_read : Cond.instanceMethod (m_X1_read).1 ∈ vTb ∧ Cond.selects (m_X1_read).1.cls (m_X1_read).1 (m_X1_read).1 ∈ vTb := ⟨vTb_t 334 (by decide +kernel) (by decide +kernel), vTb_t 335 (by decide +kernel) (by decide +kernel)⟩
theorem cw_X2_init : vCw m_X2_init 0 := ⟨vTb_t 162 (by decide +kernel) (by decide +kernel), vTb_t 6 (by decide +kernel) (by decide +kernel), ⟨by decide +kernel, by decide +kernel⟩, by decide +kernel⟩
theorem iw_X2_init : (m_X2_init).1.name = "<init>" ∧ Cond.instanceMethod (m_X2_init).1 ∈ vTb := ⟨rfl, vTb_t 161 (by decide +kernel) (by decide +kernel)⟩
theorem cw_X2_readOrder : vCw m_X2_readOrder 2 := ⟨vTb_t 601 (by decide +kernel) (by decide +kernel), vTb_t 6 (by decide +kernel) (by decide +kernel), ⟨by decide +kernel, by decide +kernel⟩, by decide +kernel⟩
theorem iw_X2_readOrder : Cond.instanceMethod (m_X2_readOrder).1 ∈ vTb ∧ Cond.selects (m_X2_readOrder).1.cls (m_X2_readOrder).1 (m_X2_readOrder).1 ∈ vTb := ⟨vTb_t 599 (by decide +kernel) (by decide +kernel), vTb_t 600 (by decide +kernel) (by decide +kernel)⟩
theorem cw_X2_leastTurn : vCw m_X2_leastTurn 1 := ⟨vTb_t 605 (by decide +kernel) (by decide +kernel), vTb_t 6 (by decide +kernel) (by decide +kernel), ⟨by decide +kernel, by decide +kernel⟩, by decide +kernel⟩
theorem iw_X2_leastTurn : Cond.instanceMethod (m_X2_leastTurn).1 ∈ vTb ∧ Cond.selects (m_X2_leastTurn).1.cls (m_X2_leastTurn).1 (m_X2_leastTurn).1 ∈ vTb := ⟨vTb_t 603 (by decide +kernel) (by decide +kernel), vTb_t 604 (by decide +kernel) (by decide +kernel)⟩
theorem cw_X2_findBest : vCw m_X2_findBest 1 := ⟨vTb_t 618 (by decide +kernel) (by decide +kernel), vTb_t 6 (by decide +kernel) (by decide +kernel), ⟨by decide +kernel, by decide +kernel⟩, by decide +kernel⟩
theorem iw_X2_findBest : Cond.instanceMethod (m_X2_findBest).1 ∈ vTb ∧ Cond.selects (m_X2_findBest).1.cls (m_X2_findBest).1 (m_X2_findBest).1 ∈ vTb := ⟨vTb_t 616 (by decide +kernel) (by decide +kernel), vTb_t 617 (by decide +kernel) (by decide +kernel)⟩
theorem cw_X2_asNumber : vCw m_X2_asNumber 1 := ⟨vTb_t 624 (by decide +kernel) (by decide +kernel), vTb_t 6 (by decide +kernel) (by decide +kernel), ⟨by decide +kernel, by decide +kernel⟩, by decide +kernel⟩
theorem iw_X2_asNumber : Cond.instanceMethod (m_X2_asNumber).1 ∈ vTb ∧ Cond.selects (m_X2_asNumber).1.cls (m_X2_asNumber).1 (m_X2_asNumber).1 ∈ vTb := ⟨vTb_t 623 (by decide +kernel) (by decide +kernel), vTb_p (q := (yX2_asNumber, 2)) 14 (by decide +kernel)⟩
theorem cw_X3_init : vCw m_X3_init 0 := ⟨vTb_t 25 (by decide +kernel) (by decide +kernel), vTb_t 2 (by decide +kernel) (by decide +kernel), ⟨by decide +kernel, by decide +kernel⟩, by decide +kernel⟩
theorem iw_X3_init : (m_X3_init).1.name = "<init>" ∧ Cond.instanceMethod (m_X3_init).1 ∈ vTb := ⟨rfl, vTb_t 24 (by decide +kernel) (by decide +kernel)⟩
theorem cw_X3_copyFrom : vCw m_X3_copyFrom 1 := ⟨vTb_t 329 (by decide +kernel) (by decide +kernel), vTb_t 2 (by decide +kernel) (by decide +kernel), ⟨by decide +kernel, by decide +kernel⟩, by decide +kernel⟩
theorem iw_X3_copyFrom : Cond.instanceMethod (m_X3_copyFrom).1 ∈ vTb ∧ Cond.selects (m_X3_copyFrom).1.cls (m_X3_copyFrom).1 (m_X3_copyFrom).1 ∈ vTb := ⟨vTb_t 327 (by decide +kernel) (by decide +kernel), vTb_t 328 (by decide +kernel) (by decide +kernel)⟩
theorem cw_X3_has : vCw m_X3_has 1 := ⟨vTb_t 252 (by decide +kernel) (by decide +kernel), vTb_t 2 (by decide +kernel) (by decide +kernel), ⟨by decide +kernel, by decide +kernel⟩, by decide +kernel⟩
theorem iw_X3_has : Cond.instanceMethod (m_X3_has).1 ∈ vTb ∧ Cond.selects (m_X3_has).1.cls (m_X3_has).1 (m_X3_has).1 ∈ vTb := ⟨vTb_t 250 (by decide +kernel) (by decide +kernel), vTb_t 251 (by decide +kernel) (by decide +kernel)⟩
theorem cw_X3_add : vCw m_X3_add 3 := ⟨vTb_t 244 (by decide +kernel) (by decide +kernel), vTb_t 2 (by decide +kernel) (by decide +kernel), ⟨by decide +kernel, by decide +kernel⟩, by decide +kernel⟩
theorem iw_X3_add : Cond.instanceMethod (m_X3_add).1 ∈ vTb ∧ Cond.selects (m_X3_add).1.cls (m_X3_add).1 (m_X3_add).1 ∈ vTb := ⟨vTb_t 242 (by decide +kernel) (by decide +kernel), vTb_t 243 (by decide +kernel) (by decide +kernel)⟩
theorem cw_X3_plateOn : vCw m_X3_plateOn 1 := ⟨vTb_t 240 (by decide +kernel) (by decide +kernel), vTb_t 2 (by decide +kernel) (by decide +kernel), ⟨by decide +kernel, by decide +kernel⟩, by decide +kernel⟩
theorem iw_X3_plateOn : Cond.instanceMethod (m_X3_plateOn).1 ∈ vTb ∧ Cond.selects (m_X3_plateOn).1.cls (m_X3_plateOn).1 (m_X3_plateOn).1 ∈ vTb := ⟨vTb_t 238 (by decide +kernel) (by decide +kernel), vTb_t 239 (by decide +kernel) (by decide +kernel)⟩
theorem cw_X3_can : vCw m_X3_can 1 := ⟨vTb_t 272 (by decide +kernel) (by decide +kernel), vTb_t 2 (by decide +kernel) (by decide +kernel), ⟨by decide +kernel, by decide +kernel⟩, by decide +kernel⟩
theorem iw_X3_can : Cond.instanceMethod (m_X3_can).1 ∈ vTb ∧ Cond.selects (m_X3_can).1.cls (m_X3_can).1 (m_X3_can).1 ∈ vTb := ⟨vTb_t 270 (by decide +kernel) (by decide +kernel), vTb_t 271 (by decide +kernel) (by decide +kernel)⟩
theorem cw_X3_act : vCw m_X3_act 1 := ⟨vTb_t 277 (by decide +kernel) (by decide +kernel), vTb_t 2 (by decide +kernel) (by decide +kernel), ⟨by decide +kernel, by decide +kernel⟩, by decide +kernel⟩
theorem iw_X3_act : Cond.instanceMethod (m_X3_act).1 ∈ vTb ∧ Cond.selects (m_X3_act).1.cls (m_X3_act).1 (m_X3_act).1 ∈ vTb := ⟨vTb_t 275 (by decide +kernel) (by decide +kernel), vTb_t 276 (by decide +kernel) (by decide +kernel)⟩
theorem cw_X3_move : vCw m_X3_move 1 := ⟨vTb_t 281 (by decide +kernel) (by decide +kernel), vTb_t 2 (by decide +kernel) (by decide +kernel), ⟨by decide +kernel, by decide +kernel⟩, by decide +kernel⟩
theorem iw_X3_move : Cond.instanceMethod (m_X3_move).1 ∈ vTb ∧ Cond.selects (m_X3_move).1.cls (m_X3_move).1 (m_X3_move).1 ∈ vTb := ⟨vTb_t 279 (by decide +kernel) (by decide +kernel), vTb_t 280 (by decide +kernel) (by decide +kernel)⟩
theorem cw_X3_runDown : vCw m_X3_runDown 0 := ⟨vTb_t 288 (by decide +kernel) (by decide +kernel), vTb_t 2 (by decide +kernel) (by decide +kernel), ⟨by decide +kernel, by decide +kernel⟩, by decide +kernel⟩
theorem iw_X3_runDown : Cond.instanceMethod (m_X3_runDown).1 ∈ vTb ∧ Cond.selects (m_X3_runDown).1.cls (m_X3_runDown).1 (m_X3_runDown).1 ∈ vTb := ⟨vTb_t 286 (by decide +kernel) (by decide +kernel), vTb_t 287 (by decide +kernel) (by decide +kernel)⟩
theorem cw_X3_standing : vCw m_X3_standing 0 := ⟨vTb_t 295 (by decide +kernel) (by decide +kernel), vTb_t 2 (by decide +kernel) (by decide +kernel), ⟨by decide +kernel, by decide +kernel⟩, by decide +kernel⟩
theorem iw_X3_standing : Cond.instanceMethod (m_X3_standing).1 ∈ vTb ∧ Cond.selects (m_X3_standing).1.cls (m_X3_standing).1 (m_X3_standing).1 ∈ vTb := ⟨vTb_t 293 (by decide +kernel) (by decide +kernel), vTb_t 294 (by decide +kernel) (by decide +kernel)⟩
theorem cw_X3_sumOfTurns : vCw m_X3_sumOfTurns 0 := ⟨vTb_t 340 (by decide +kernel) (by decide +kernel), vTb_t 2 (by decide +kernel) (by decide +kernel), ⟨by decide +kernel, by decide +kernel⟩, by decide +kernel⟩
theorem iw_X3_sumOfTurns : Cond.instanceMethod (m_X3_sumOfTurns).1 ∈ vTb ∧ Cond.selects (m_X3_sumOfTurns).1.cls (m_X3_sumOfTurns).1 (m_X3_sumOfTurns).1 ∈ vTb := ⟨vTb_t 338 (by decide +kernel) (by decide +kernel), vTb_t 339 (by decide +kernel) (by decide +kernel)⟩
theorem cw_X3_packedTurns : vCw m_X3_packedTurns 0 := ⟨vTb_t 368 (by decide +kernel) (by decide +kernel), vTb_t 2 (by decide +kernel) (by decide +kernel), ⟨by decide +kernel, by decide +kernel⟩, by decide +kernel⟩
theorem iw_X3_packedTurns : Cond.instanceMethod (m_X3_packedTurns).1 ∈ vTb ∧ Cond.selects (m_X3_packedTurns).1.cls (m_X3_packedTurns).1 (m_X3_packedTurns).1 ∈ vTb := ⟨vTb_t 366 (by decide +kernel) (by decide +kernel), vTb_t 367 (by decide +kernel) (by decide +kernel)⟩
theorem cw_X4_init : vCw m_X4_init 0 := ⟨vTb_t 141 (by decide +kernel) (by decide +kernel), vTb_t 5 (by decide +kernel) (by decide +kernel), ⟨by decide +kernel, by decide +kernel⟩, by decide +kernel⟩
theorem iw_X4_init : (m_X4_init).1.name = "<init>" ∧ Cond.instanceMethod (m_X4_init).1 ∈ vTb := ⟨rfl, vTb_t 140 (by decide +kernel) (by decide +kernel)⟩
theorem cw_X4_find : vCw m_X4_find 3 := ⟨vTb_t 443 (by decide +kernel) (by decide +kernel), vTb_t 5 (by decide +kernel) (by decide +kernel), ⟨by decide +kernel, by decide +kernel⟩, by decide +kernel⟩
theorem iw_X4_find : Cond.instanceMethod (m_X4_find).1 ∈ vTb ∧ Cond.selects (m_X4_find).1.cls (m_X4_find).1 (m_X4_find).1 ∈ vTb := ⟨vTb_t 441 (by decide +kernel) (by decide +kernel), vTb_t 442 (by decide +kernel) (by decide +kernel)⟩
theorem cw_X4_sortPlaces : vCw m_X4_sortPlaces 1 := ⟨vTb_t 447 (by decide +kernel) (by decide +kernel), vTb_t 5 (by decide +kernel) (by decide +kernel), ⟨by decide +kernel, by decide +kernel⟩, by decide +kernel⟩
theorem iw_X4_sortPlaces : Cond.instanceMethod (m_X4_sortPlaces).1 ∈ vTb ∧ Cond.selects (m_X4_sortPlaces).1.cls (m_X4_sortPlaces).1 (m_X4_sortPlaces).1 ∈ vTb := ⟨vTb_t 446 (by decide +kernel) (by decide +kernel), vTb_p (q := (yX4_sortPlaces, 4)) 0 (by decide +kernel)⟩
theorem cw_X5_init : vCw m_X5_init 0 := ⟨vTb_t 104 (by decide +kernel) (by decide +kernel), vTb_t 4 (by decide +kernel) (by decide +kernel), ⟨by decide +kernel, by decide +kernel⟩, by decide +kernel⟩
theorem iw_X5_init : (m_X5_init).1.name = "<init>" ∧ Cond.instanceMethod (m_X5_init).1 ∈ vTb := ⟨rfl, vTb_t 103 (by decide +kernel) (by decide +kernel)⟩
theorem cw_X5_begin : vCw m_X5_begin 1 := ⟨vTb_t 355 (by decide +kernel) (by decide +kernel), vTb_t 4 (by decide +kernel) (by decide +kernel), ⟨by decide +kernel, by decide +kernel⟩, by decide +kernel⟩
theorem iw_X5_begin : Cond.instanceMethod (m_X5_begin).1 ∈ vTb ∧ Cond.selects (m_X5_begin).1.cls (m_X5_begin).1 (m_X5_begin).1 ∈ vTb := ⟨vTb_t 353 (by decide +kernel) (by decide +kernel), vTb_t 354 (by decide +kernel) (by decide +kernel)⟩
theorem cw_X5_beginHere : vCw m_X5_beginHere 0 := ⟨vTb_t 360 (by decide +kernel) (by decide +kernel), vTb_t 4 (by decide +kernel) (by decide +kernel), ⟨by decide +kernel, by decide +kernel⟩, by decide +kernel⟩
theorem iw_X5_beginHere : Cond.instanceMethod (m_X5_beginHere).1 ∈ vTb ∧ Cond.selects (m_X5_beginHere).1.cls (m_X5_beginHere).1 (m_X5_beginHere).1 ∈ vTb := ⟨vTb_t 358 (by decide +kernel) (by decide +kernel), vTb_t 359 (by decide +kernel) (by decide +kernel)⟩
theorem cw_X5_writeLog : vCw m_X5_writeLog 0 := ⟨vTb_t 364 (by decide +kernel) (by decide +kernel), vTb_t 4 (by decide +kernel) (by decide +kernel), ⟨by decide +kernel, by decide +kernel⟩, by decide +kernel⟩
theorem iw_X5_writeLog : Cond.instanceMethod (m_X5_writeLog).1 ∈ vTb ∧ Cond.selects (m_X5_writeLog).1.cls (m_X5_writeLog).1 (m_X5_writeLog).1 ∈ vTb := ⟨vTb_t 362 (by decide +kernel) (by decide +kernel), vTb_t 363 (by decide +kernel) (by decide +kernel)⟩
theorem cw_X5_choose : vCw m_X5_choose 1 := ⟨vTb_t 377 (by decide +kernel) (by decide +kernel), vTb_t 4 (by decide +kernel) (by decide +kernel), ⟨by decide +kernel, by decide +kernel⟩, by decide +kernel⟩
theorem iw_X5_choose : Cond.instanceMethod (m_X5_choose).1 ∈ vTb ∧ Cond.selects (m_X5_choose).1.cls (m_X5_choose).1 (m_X5_choose).1 ∈ vTb := ⟨vTb_t 375 (by decide +kernel) (by decide +kernel), vTb_t 376 (by decide +kernel) (by decide +kernel)⟩
theorem cw_X5_act : vCw m_X5_act 1 := ⟨vTb_t 412 (by decide +kernel) (by decide +kernel), vTb_t 4 (by decide +kernel) (by decide +kernel), ⟨by decide +kernel, by decide +kernel⟩, by decide +kernel⟩
theorem iw_X5_act : Cond.instanceMethod (m_X5_act).1 ∈ vTb ∧ Cond.selects (m_X5_act).1.cls (m_X5_act).1 (m_X5_act).1 ∈ vTb := ⟨vTb_t 410 (by decide +kernel) (by decide +kernel), vTb_t 411 (by decide +kernel) (by decide +kernel)⟩
theorem cw_X5_takeGoal : vCw m_X5_takeGoal 1 := ⟨vTb_t 381 (by decide +kernel) (by decide +kernel), vTb_t 4 (by decide +kernel) (by decide +kernel), ⟨by decide +kernel, by decide +kernel⟩, by decide +kernel⟩
theorem iw_X5_takeGoal : Cond.instanceMethod (m_X5_takeGoal).1 ∈ vTb ∧ Cond.selects (m_X5_takeGoal).1.cls (m_X5_takeGoal).1 (m_X5_takeGoal).1 ∈ vTb := ⟨vTb_t 379 (by decide +kernel) (by decide +kernel), vTb_t 380 (by decide +kernel) (by decide +kernel)⟩
theorem cw_X5_worst : vCw m_X5_worst 0 := ⟨vTb_t 388 (by decide +kernel) (by decide +kernel), vTb_t 4 (by decide +kernel) (by decide +kernel), ⟨by decide +kernel, by decide +kernel⟩, by decide +kernel⟩
theorem iw_X5_worst : Cond.instanceMethod (m_X5_worst).1 ∈ vTb ∧ Cond.selects (m_X5_worst).1.cls (m_X5_worst).1 (m_X5_worst).1 ∈ vTb := ⟨vTb_t 386 (by decide +kernel) (by decide +kernel), vTb_t 387 (by decide +kernel) (by decide +kernel)⟩
theorem cw_X5_near : vCw m_X5_near 0 := ⟨vTb_t 396 (by decide +kernel) (by decide +kernel), vTb_t 4 (by decide +kernel) (by decide +kernel), ⟨by decide +kernel, by decide +kernel⟩, by decide +kernel⟩
theorem iw_X5_near : Cond.instanceMethod (m_X5_near).1 ∈ vTb ∧ Cond.selects (m_X5_near).1.cls (m_X5_near).1 (m_X5_near).1 ∈ vTb := ⟨vTb_t 394 (by decide +kernel) (by decide +kernel), vTb_t 395 (by decide +kernel) (by decide +kernel)⟩
theorem cw_X5_nextByNumber : vCw m_X5_nextByNumber 0 := ⟨vTb_t 404 (by decide +kernel) (by decide +kernel), vTb_t 4 (by decide +kernel) (by decide +kernel), ⟨by decide +kernel, by decide +kernel⟩, by decide +kernel⟩
theorem iw_X5_nextByNumber : Cond.instanceMethod (m_X5_nextByNumber).1 ∈ vTb ∧ Cond.selects (m_X5_nextByNumber).1.cls (m_X5_nextByNumber).1 (m_X5_nextByNumber).1 ∈ vTb := ⟨vTb_t 402 (by decide +kernel) (by decide +kernel), vTb_t 403 (by decide +kernel) (by decide +kernel)⟩
theorem cw_X5_leastLeft : vCw m_X5_leastLeft 0 := ⟨vTb_t 408 (by decide +kernel) (by decide +kernel), vTb_t 4 (by decide +kernel) (by decide +kernel), ⟨by decide +kernel, by decide +kernel⟩, by decide +kernel⟩
theorem iw_X5_leastLeft : Cond.instanceMethod (m_X5_leastLeft).1 ∈ vTb ∧ Cond.selects (m_X5_leastLeft).1.cls (m_X5_leastLeft).1 (m_X5_leastLeft).1 ∈ vTb := ⟨vTb_t 406 (by decide +kernel) (by decide +kernel), vTb_t 407 (by decide +kernel) (by decide +kernel)⟩
theorem cw_X5_far : vCw m_X5_far 1 := ⟨vTb_t 400 (by decide +kernel) (by decide +kernel), vTb_t 4 (by decide +kernel) (by decide +kernel), ⟨by decide +kernel, by decide +kernel⟩, by decide +kernel⟩
theorem iw_X5_far : Cond.instanceMethod (m_X5_far).1 ∈ vTb ∧ Cond.selects (m_X5_far).1.cls (m_X5_far).1 (m_X5_far).1 ∈ vTb := ⟨vTb_t 398 (by decide +kernel) (by decide +kernel), vTb_t 399 (by decide +kernel) (by decide +kernel)⟩
theorem cw_X5_seen : vCw m_X5_seen 1 := ⟨vTb_t 392 (by decide +kernel) (by decide +kernel), vTb_t 4 (by decide +kernel) (by decide +kernel), ⟨by decide +kernel, by decide +kernel⟩, by decide +kernel⟩
theorem iw_X5_seen : Cond.instanceMethod (m_X5_seen).1 ∈ vTb ∧ Cond.selects (m_X5_seen).1.cls (m_X5_seen).1 (m_X5_seen).1 ∈ vTb := ⟨vTb_t 390 (by decide +kernel) (by decide +kernel), vTb_t 391 (by decide +kernel) (by decide +kernel)⟩
theorem cw_X5_logged : vCw m_X5_logged 1 := ⟨vTb_t 384 (by decide +kernel) (by decide +kernel), vTb_t 4 (by decide +kernel) (by decide +kernel), ⟨by decide +kernel, by decide +kernel⟩, by decide +kernel⟩
theorem sw_X5_logged : Cond.static (m_X5_logged).1 ∈ vTb := vTb_t 383 (by decide +kernel) (by decide +kernel)
theorem cw_X5_ticksToFirstFall : vCw m_X5_ticksToFirstFall 1 := ⟨vTb_t 372 (by decide +kernel) (by decide +kernel), vTb_t 4 (by decide +kernel) (by decide +kernel), ⟨by decide +kernel, by decide +kernel⟩, by decide +kernel⟩
theorem iw_X5_ticksToFirstFall : Cond.instanceMethod (m_X5_ticksToFirstFall).1 ∈ vTb ∧ Cond.selects (m_X5_ticksToFirstFall).1.cls (m_X5_ticksToFirstFall).1 (m_X5_ticksToFirstFall).1 ∈ vTb := ⟨vTb_t 370 (by decide +kernel) (by decide +kernel), vTb_t 371 (by decide +kernel) (by decide +kernel)⟩
theorem cw_X5_goUntilItComesAgain : vCw m_X5_goUntilItComesAgain 1 := ⟨vTb_t 431 (by decide +kernel) (by decide +kernel), vTb_t 4 (by decide +kernel) (by decide +kernel), ⟨by decide +kernel, by decide +kernel⟩, by decide +kernel⟩
theorem iw_X5_goUntilItComesAgain : Cond.instanceMethod (m_X5_goUntilItComesAgain).1 ∈ vTb ∧ Cond.selects (m_X5_goUntilItComesAgain).1.cls (m_X5_goUntilItComesAgain).1 (m_X5_goUntilItComesAgain).1 ∈ vTb := ⟨vTb_t 429 (by decide +kernel) (by decide +kernel), vTb_t 430 (by decide +kernel) (by decide +kernel)⟩
theorem cw_X5_alike : vCw m_X5_alike 2 := ⟨vTb_t 435 (by decide +kernel) (by decide +kernel), vTb_t 4 (by decide +kernel) (by decide +kernel), ⟨by decide +kernel, by decide +kernel⟩, by decide +kernel⟩
theorem iw_X5_alike : Cond.instanceMethod (m_X5_alike).1 ∈ vTb ∧ Cond.selects (m_X5_alike).1.cls (m_X5_alike).1 (m_X5_alike).1 ∈ vTb := ⟨vTb_t 433 (by decide +kernel) (by decide +kernel), vTb_t 434 (by decide +kernel) (by decide +kernel)⟩
theorem cw_X6_init : vCw m_X6_init 0 := ⟨vTb_t 17 (by decide +kernel) (by decide +kernel), vTb_t 1 (by decide +kernel) (by decide +kernel), ⟨by decide +kernel, by decide +kernel⟩, by decide +kernel⟩
theorem iw_X6_init : (m_X6_init).1.name = "<init>" ∧ Cond.instanceMethod (m_X6_init).1 ∈ vTb := ⟨rfl, vTb_t 16 (by decide +kernel) (by decide +kernel)⟩
theorem cw_X6_plate : vCw m_X6_plate 3 := ⟨vTb_t 233 (by decide +kernel) (by decide +kernel), vTb_t 1 (by decide +kernel) (by decide +kernel), ⟨by decide +kernel, by decide +kernel⟩, by decide +kernel⟩
theorem iw_X6_plate : Cond.instanceMethod (m_X6_plate).1 ∈ vTb ∧ Cond.selects (m_X6_plate).1.cls (m_X6_plate).1 (m_X6_plate).1 ∈ vTb := ⟨vTb_t 231 (by decide +kernel) (by decide +kernel), vTb_t 232 (by decide +kernel) (by decide +kernel)⟩
theorem cw_X6_turn : vCw m_X6_turn 2 := ⟨vTb_t 248 (by decide +kernel) (by decide +kernel), vTb_t 1 (by decide +kernel) (by decide +kernel), ⟨by decide +kernel, by decide +kernel⟩, by decide +kernel⟩
theorem iw_X6_turn : Cond.instanceMethod (m_X6_turn).1 ∈ vTb ∧ Cond.selects (m_X6_turn).1.cls (m_X6_turn).1 (m_X6_turn).1 ∈ vTb := ⟨vTb_t 246 (by decide +kernel) (by decide +kernel), vTb_t 247 (by decide +kernel) (by decide +kernel)⟩
theorem cw_X6_set : vCw m_X6_set 2 := ⟨vTb_t 256 (by decide +kernel) (by decide +kernel), vTb_t 1 (by decide +kernel) (by decide +kernel), ⟨by decide +kernel, by decide +kernel⟩, by decide +kernel⟩
theorem iw_X6_set : Cond.instanceMethod (m_X6_set).1 ∈ vTb ∧ Cond.selects (m_X6_set).1.cls (m_X6_set).1 (m_X6_set).1 ∈ vTb := ⟨vTb_t 254 (by decide +kernel) (by decide +kernel), vTb_t 255 (by decide +kernel) (by decide +kernel)⟩
theorem cw_X6_about : vCw m_X6_about 2 := ⟨vTb_t 264 (by decide +kernel) (by decide +kernel), vTb_t 1 (by decide +kernel) (by decide +kernel), ⟨by decide +kernel, by decide +kernel⟩, by decide +kernel⟩
theorem iw_X6_about : Cond.instanceMethod (m_X6_about).1 ∈ vTb ∧ Cond.selects (m_X6_about).1.cls (m_X6_about).1 (m_X6_about).1 ∈ vTb := ⟨vTb_t 262 (by decide +kernel) (by decide +kernel), vTb_t 263 (by decide +kernel) (by decide +kernel)⟩
theorem cw_X6_tick : vCw m_X6_tick 1 := ⟨vTb_t 268 (by decide +kernel) (by decide +kernel), vTb_t 1 (by decide +kernel) (by decide +kernel), ⟨by decide +kernel, by decide +kernel⟩, by decide +kernel⟩
theorem iw_X6_tick : Cond.instanceMethod (m_X6_tick).1 ∈ vTb ∧ Cond.selects (m_X6_tick).1.cls (m_X6_tick).1 (m_X6_tick).1 ∈ vTb := ⟨vTb_t 266 (by decide +kernel) (by decide +kernel), vTb_t 267 (by decide +kernel) (by decide +kernel)⟩
theorem cw_X6_say : vCw m_X6_say 1 := ⟨vTb_t 299 (by decide +kernel) (by decide +kernel), vTb_t 1 (by decide +kernel) (by decide +kernel), ⟨by decide +kernel, by decide +kernel⟩, by decide +kernel⟩
theorem iw_X6_say : Cond.instanceMethod (m_X6_say).1 ∈ vTb ∧ Cond.selects (m_X6_say).1.cls (m_X6_say).1 (m_X6_say).1 ∈ vTb := ⟨vTb_t 297 (by decide +kernel) (by decide +kernel), vTb_t 298 (by decide +kernel) (by decide +kernel)⟩
theorem cw_X6_wipe : vCw m_X6_wipe 0 := ⟨vTb_t 307 (by decide +kernel) (by decide +kernel), vTb_t 1 (by decide +kernel) (by decide +kernel), ⟨by decide +kernel, by decide +kernel⟩, by decide +kernel⟩
theorem iw_X6_wipe : Cond.instanceMethod (m_X6_wipe).1 ∈ vTb ∧ Cond.selects (m_X6_wipe).1.cls (m_X6_wipe).1 (m_X6_wipe).1 ∈ vTb := ⟨vTb_t 305 (by decide +kernel) (by decide +kernel), vTb_t 306 (by decide +kernel) (by decide +kernel)⟩
theorem cw_X6_fault : vCw m_X6_fault 0 := ⟨vTb_t 311 (by decide +kernel) (by decide +kernel), vTb_t 1 (by decide +kernel) (by decide +kernel), ⟨by decide +kernel, by decide +kernel⟩, by decide +kernel⟩
theorem iw_X6_fault : Cond.instanceMethod (m_X6_fault).1 ∈ vTb ∧ Cond.selects (m_X6_fault).1.cls (m_X6_fault).1 (m_X6_fault).1 ∈ vTb := ⟨vTb_t 309 (by decide +kernel) (by decide +kernel), vTb_t 310 (by decide +kernel) (by decide +kernel)⟩
theorem cw_X6_judge : vCw m_X6_judge 1 := ⟨vTb_t 325 (by decide +kernel) (by decide +kernel), vTb_t 1 (by decide +kernel) (by decide +kernel), ⟨by decide +kernel, by decide +kernel⟩, by decide +kernel⟩
theorem iw_X6_judge : Cond.instanceMethod (m_X6_judge).1 ∈ vTb ∧ Cond.selects (m_X6_judge).1.cls (m_X6_judge).1 (m_X6_judge).1 ∈ vTb := ⟨vTb_t 323 (by decide +kernel) (by decide +kernel), vTb_t 324 (by decide +kernel) (by decide +kernel)⟩
theorem cw_X6_show : vCw m_X6_show 0 := ⟨vTb_t 344 (by decide +kernel) (by decide +kernel), vTb_t 1 (by decide +kernel) (by decide +kernel), ⟨by decide +kernel, by decide +kernel⟩, by decide +kernel⟩
theorem iw_X6_show : Cond.instanceMethod (m_X6_show).1 ∈ vTb ∧ Cond.selects (m_X6_show).1.cls (m_X6_show).1 (m_X6_show).1 ∈ vTb := ⟨vTb_t 342 (by decide +kernel) (by decide +kernel), vTb_t 343 (by decide +kernel) (by decide +kernel)⟩
theorem cw_X6_lasts : vCw m_X6_lasts 1 := ⟨vTb_t 348 (by decide +kernel) (by decide +kernel), vTb_t 1 (by decide +kernel) (by decide +kernel), ⟨by decide +kernel, by decide +kernel⟩, by decide +kernel⟩
theorem iw_X6_lasts : Cond.instanceMethod (m_X6_lasts).1 ∈ vTb ∧ Cond.selects (m_X6_lasts).1.cls (m_X6_lasts).1 (m_X6_lasts).1 ∈ vTb := ⟨vTb_t 346 (by decide +kernel) (by decide +kernel), vTb_t 347 (by decide +kernel) (by decide +kernel)⟩
theorem cw_X6_at : vCw m_X6_at 3 := ⟨vTb_t 421 (by decide +kernel) (by decide +kernel), vTb_t 1 (by decide +kernel) (by decide +kernel), ⟨by decide +kernel, by decide +kernel⟩, by decide +kernel⟩
theorem iw_X6_at : Cond.instanceMethod (m_X6_at).1 ∈ vTb ∧ Cond.selects (m_X6_at).1.cls (m_X6_at).1 (m_X6_at).1 ∈ vTb := ⟨vTb_t 419 (by decide +kernel) (by decide +kernel), vTb_t 420 (by decide +kernel) (by decide +kernel)⟩
theorem cw_X6_round : vCw m_X6_round 2 := ⟨vTb_t 427 (by decide +kernel) (by decide +kernel), vTb_t 1 (by decide +kernel) (by decide +kernel), ⟨by decide +kernel, by decide +kernel⟩, by decide +kernel⟩
theorem iw_X6_round : Cond.instanceMethod (m_X6_round).1 ∈ vTb ∧ Cond.selects (m_X6_round).1.cls (m_X6_round).1 (m_X6_round).1 ∈ vTb := ⟨vTb_t 425 (by decide +kernel) (by decide +kernel), vTb_t 426 (by decide +kernel) (by decide +kernel)⟩
theorem cw_X6_sticks : vCw m_X6_sticks 2 := ⟨vTb_t 439 (by decide +kernel) (by decide +kernel), vTb_t 1 (by decide +kernel) (by decide +kernel), ⟨by decide +kernel, by decide +kernel⟩, by decide +kernel⟩
theorem iw_X6_sticks : Cond.instanceMethod (m_X6_sticks).1 ∈ vTb ∧ Cond.selects (m_X6_sticks).1.cls (m_X6_sticks).1 (m_X6_sticks).1 ∈ vTb := ⟨vTb_t 437 (by decide +kernel) (by decide +kernel), vTb_t 438 (by decide +kernel) (by decide +kernel)⟩
theorem cw_X6_kept : vCw m_X6_kept 0 := ⟨vTb_t 465 (by decide +kernel) (by decide +kernel), vTb_t 1 (by decide +kernel) (by decide +kernel), ⟨by decide +kernel, by decide +kernel⟩, by decide +kernel⟩
theorem iw_X6_kept : Cond.instanceMethod (m_X6_kept).1 ∈ vTb ∧ Cond.selects (m_X6_kept).1.cls (m_X6_kept).1 (m_X6_kept).1 ∈ vTb := ⟨vTb_t 463 (by decide +kernel) (by decide +kernel), vTb_t 464 (by decide +kernel) (by decide +kernel)⟩
theorem cw_X6_longest : vCw m_X6_longest 0 := ⟨vTb_t 537 (by decide +kernel) (by decide +kernel), vTb_t 1 (by decide +kernel) (by decide +kernel), ⟨by decide +kernel, by decide +kernel⟩, by decide +kernel⟩
theorem iw_X6_longest : Cond.instanceMethod (m_X6_longest).1 ∈ vTb ∧ Cond.selects (m_X6_longest).1.cls (m_X6_longest).1 (m_X6_longest).1 ∈ vTb := ⟨vTb_t 535 (by decide +kernel) (by decide +kernel), vTb_t 536 (by decide +kernel) (by decide +kernel)⟩
theorem cw_X6_step : vCw m_X6_step 0 := ⟨vTb_t 541 (by decide +kernel) (by decide +kernel), vTb_t 1 (by decide +kernel) (by decide +kernel), ⟨by decide +kernel, by decide +kernel⟩, by decide +kernel⟩
theorem iw_X6_step : Cond.instanceMethod (m_X6_step).1 ∈ vTb ∧ Cond.selects (m_X6_step).1.cls (m_X6_step).1 (m_X6_step).1 ∈ vTb := ⟨vTb_t 539 (by decide +kernel) (by decide +kernel), vTb_t 540 (by decide +kernel) (by decide +kernel)⟩
theorem cw_X6_bow : vCw m_X6_bow 1 := ⟨vTb_t 551 (by decide +kernel) (by decide +kernel), vTb_t 1 (by decide +kernel) (by decide +kernel), ⟨by decide +kernel, by decide +kernel⟩, by decide +kernel⟩
theorem iw_X6_bow : Cond.instanceMethod (m_X6_bow).1 ∈ vTb ∧ Cond.selects (m_X6_bow).1.cls (m_X6_bow).1 (m_X6_bow).1 ∈ vTb := ⟨vTb_t 549 (by decide +kernel) (by decide +kernel), vTb_t 550 (by decide +kernel) (by decide +kernel)⟩
theorem cw_X6_gasps : vCw m_X6_gasps 2 := ⟨vTb_t 567 (by decide +kernel) (by decide +kernel), vTb_t 1 (by decide +kernel) (by decide +kernel), ⟨by decide +kernel, by decide +kernel⟩, by decide +kernel⟩
theorem iw_X6_gasps : Cond.instanceMethod (m_X6_gasps).1 ∈ vTb ∧ Cond.selects (m_X6_gasps).1.cls (m_X6_gasps).1 (m_X6_gasps).1 ∈ vTb := ⟨vTb_t 565 (by decide +kernel) (by decide +kernel), vTb_t 566 (by decide +kernel) (by decide +kernel)⟩
theorem cw_X6_load : vCw m_X6_load 1 := ⟨vTb_t 590 (by decide +kernel) (by decide +kernel), vTb_t 1 (by decide +kernel) (by decide +kernel), ⟨by decide +kernel, by decide +kernel⟩, by decide +kernel⟩
theorem iw_X6_load : Cond.instanceMethod (m_X6_load).1 ∈ vTb ∧ Cond.selects (m_X6_load).1.cls (m_X6_load).1 (m_X6_load).1 ∈ vTb := ⟨vTb_t 588 (by decide +kernel) (by decide +kernel), vTb_t 589 (by decide +kernel) (by decide +kernel)⟩
theorem cw_X6_setUp : vCw m_X6_setUp 1 := ⟨vTb_t 597 (by decide +kernel) (by decide +kernel), vTb_t 1 (by decide +kernel) (by decide +kernel), ⟨by decide +kernel, by decide +kernel⟩, by decide +kernel⟩
theorem iw_X6_setUp : Cond.instanceMethod (m_X6_setUp).1 ∈ vTb ∧ Cond.selects (m_X6_setUp).1.cls (m_X6_setUp).1 (m_X6_setUp).1 ∈ vTb := ⟨vTb_t 595 (by decide +kernel) (by decide +kernel), vTb_t 596 (by decide +kernel) (by decide +kernel)⟩
theorem cw_X6_bestOrder : vCw m_X6_bestOrder 0 := ⟨vTb_t 614 (by decide +kernel) (by decide +kernel), vTb_t 1 (by decide +kernel) (by decide +kernel), ⟨by decide +kernel, by decide +kernel⟩, by decide +kernel⟩
theorem iw_X6_bestOrder : Cond.instanceMethod (m_X6_bestOrder).1 ∈ vTb ∧ Cond.selects (m_X6_bestOrder).1.cls (m_X6_bestOrder).1 (m_X6_bestOrder).1 ∈ vTb := ⟨vTb_t 612 (by decide +kernel) (by decide +kernel), vTb_t 613 (by decide +kernel) (by decide +kernel)⟩
theorem cw_X6_film : vCw m_X6_film 1 := ⟨vTb_t 629 (by decide +kernel) (by decide +kernel), vTb_t 1 (by decide +kernel) (by decide +kernel), ⟨by decide +kernel, by decide +kernel⟩, by decide +kernel⟩
theorem iw_X6_film : Cond.instanceMethod (m_X6_film).1 ∈ vTb ∧ Cond.selects (m_X6_film).1.cls (m_X6_film).1 (m_X6_film).1 ∈ vTb := ⟨vTb_t 627 (by decide +kernel) (by decide +kernel), vTb_t 628 (by decide +kernel) (by decide +kernel)⟩
theorem cw_X6_whose : vCw m_X6_whose 0 := ⟨vTb_t 637 (by decide +kernel) (by decide +kernel), vTb_t 1 (by decide +kernel) (by decide +kernel), ⟨by decide +kernel, by decide +kernel⟩, by decide +kernel⟩
theorem iw_X6_whose : Cond.instanceMethod (m_X6_whose).1 ∈ vTb ∧ Cond.selects (m_X6_whose).1.cls (m_X6_whose).1 (m_X6_whose).1 ∈ vTb := ⟨vTb_t 635 (by decide +kernel) (by decide +kernel), vTb_t 636 (by decide +kernel) (by decide +kernel)⟩
theorem cw_X6_image : vCw m_X6_image 1 := ⟨vTb_t 641 (by decide +kernel) (by decide +kernel), vTb_t 1 (by decide +kernel) (by decide +kernel), ⟨by decide +kernel, by decide +kernel⟩, by decide +kernel⟩
theorem iw_X6_image : Cond.instanceMethod (m_X6_image).1 ∈ vTb ∧ Cond.selects (m_X6_image).1.cls (m_X6_image).1 (m_X6_image).1 ∈ vTb := ⟨vTb_t 639 (by decide +kernel) (by decide +kernel), vTb_t 640 (by decide +kernel) (by decide +kernel)⟩
theorem cw_X6_restore : vCw m_X6_restore 1 := ⟨vTb_t 645 (by decide +kernel) (by decide +kernel), vTb_t 1 (by decide +kernel) (by decide +kernel), ⟨by decide +kernel, by decide +kernel⟩, by decide +kernel⟩
theorem iw_X6_restore : Cond.instanceMethod (m_X6_restore).1 ∈ vTb ∧ Cond.selects (m_X6_restore).1.cls (m_X6_restore).1 (m_X6_restore).1 ∈ vTb := ⟨vTb_t 643 (by decide +kernel) (by decide +kernel), vTb_t 644 (by decide +kernel) (by decide +kernel)⟩
theorem cw_X6_told : vCw m_X6_told 1 := ⟨vTb_t 649 (by decide +kernel) (by decide +kernel), vTb_t 1 (by decide +kernel) (by decide +kernel), ⟨by decide +kernel, by decide +kernel⟩, by decide +kernel⟩
theorem iw_X6_told : Cond.instanceMethod (m_X6_told).1 ∈ vTb ∧ Cond.selects (m_X6_told).1.cls (m_X6_told).1 (m_X6_told).1 ∈ vTb := ⟨vTb_t 647 (by decide +kernel) (by decide +kernel), vTb_t 648 (by decide +kernel) (by decide +kernel)⟩
theorem cw_X6_within : vCw m_X6_within 3 := ⟨vTb_t 236 (by decide +kernel) (by decide +kernel), vTb_t 1 (by decide +kernel) (by decide +kernel), ⟨by decide +kernel, by decide +kernel⟩, by decide +kernel⟩
theorem sw_X6_within : Cond.static (m_X6_within).1 ∈ vTb := vTb_t 235 (by decide +kernel) (by decide +kernel)
theorem cw_X6_isRule : vCw m_X6_isRule 1 := ⟨vTb_t 351 (by decide +kernel) (by decide +kernel), vTb_t 1 (by decide +kernel) (by decide +kernel), ⟨by decide +kernel, by decide +kernel⟩, by decide +kernel⟩
theorem sw_X6_isRule : Cond.static (m_X6_isRule).1 ∈ vTb := vTb_t 350 (by decide +kernel) (by decide +kernel)
theorem cw_X6_orNone : vCw m_X6_orNone 1 := ⟨vTb_t 417 (by decide +kernel) (by decide +kernel), vTb_t 1 (by decide +kernel) (by decide +kernel), ⟨by decide +kernel, by decide +kernel⟩, by decide +kernel⟩
theorem sw_X6_orNone : Cond.static (m_X6_orNone).1 ∈ vTb := vTb_t 416 (by decide +kernel) (by decide +kernel)
theorem cw_X6_commonDivisor : vCw m_X6_commonDivisor 2 := ⟨vTb_t 593 (by decide +kernel) (by decide +kernel), vTb_t 1 (by decide +kernel) (by decide +kernel), ⟨by decide +kernel, by decide +kernel⟩, by decide +kernel⟩
theorem sw_X6_commonDivisor : Cond.static (m_X6_commonDivisor).1 ∈ vTb := vTb_t 592 (by decide +kernel) (by decide +kernel)
theorem cw_X6_nextOrder : vCw m_X6_nextOrder 2 := ⟨vTb_t 458 (by decide +kernel) (by decide +kernel), vTb_t 1 (by decide +kernel) (by decide +kernel), ⟨by decide +kernel, by decide +kernel⟩, by decide +kernel⟩
theorem sw_X6_nextOrder : Cond.static (m_X6_nextOrder).1 ∈ vTb := vTb_t 457 (by decide +kernel) (by decide +kernel)
theorem cw_X6_swap : vCw m_X6_swap 3 := ⟨vTb_t 461 (by decide +kernel) (by decide +kernel), vTb_t 1 (by decide +kernel) (by decide +kernel), ⟨by decide +kernel, by decide +kernel⟩, by decide +kernel⟩
theorem sw_X6_swap : Cond.static (m_X6_swap).1 ∈ vTb := vTb_t 460 (by decide +kernel) (by decide +kernel)
theorem cw_X6_firstOrder : vCw m_X6_firstOrder 1 := ⟨vTb_t 451 (by decide +kernel) (by decide +kernel), vTb_t 1 (by decide +kernel) (by decide +kernel), ⟨by decide +kernel, by decide +kernel⟩, by decide +kernel⟩
theorem sw_X6_firstOrder : Cond.static (m_X6_firstOrder).1 ∈ vTb := vTb_t 450 (by decide +kernel) (by decide +kernel)
theorem cw_X6_ticksLike : vCw m_X6_ticksLike 2 := ⟨vTb_t 633 (by decide +kernel) (by decide +kernel), vTb_t 1 (by decide +kernel) (by decide +kernel), ⟨by decide +kernel, by decide +kernel⟩, by decide +kernel⟩
theorem iw_X6_ticksLike : Cond.instanceMethod (m_X6_ticksLike).1 ∈ vTb ∧ Cond.selects (m_X6_ticksLike).1.cls (m_X6_ticksLike).1 (m_X6_ticksLike).1 ∈ vTb := ⟨vTb_t 632 (by decide +kernel) (by decide +kernel), vTb_p (q := (yX6_ticksLike, 8)) 15 (by decide +kernel)⟩
theorem cw_X7_init : vCw m_X7_init 0 := ⟨vTb_t 654 (by decide +kernel) (by decide +kernel), vTb_t 8 (by decide +kernel) (by decide +kernel), ⟨by decide +kernel, by decide +kernel⟩, by decide +kernel⟩
theorem iw_X7_init : (m_X7_init).1.name = "<init>" ∧ Cond.instanceMethod (m_X7_init).1 ∈ vTb := ⟨rfl, vTb_t 653 (by decide +kernel) (by decide +kernel)⟩
theorem cw_X7_in : vCw m_X7_in 3 := ⟨vTb_t 787 (by decide +kernel) (by decide +kernel), vTb_t 8 (by decide +kernel) (by decide +kernel), ⟨by decide +kernel, by decide +kernel⟩, by decide +kernel⟩
theorem sw_X7_in : Cond.static (m_X7_in).1 ∈ vTb := vTb_t 786 (by decide +kernel) (by decide +kernel)
theorem cw_X7_apart : vCw m_X7_apart 2 := ⟨vTb_t 930 (by decide +kernel) (by decide +kernel), vTb_t 8 (by decide +kernel) (by decide +kernel), ⟨by decide +kernel, by decide +kernel⟩, by decide +kernel⟩
theorem sw_X7_apart : Cond.static (m_X7_apart).1 ∈ vTb := vTb_t 929 (by decide +kernel) (by decide +kernel)
theorem cw_X7_isPlate : vCw m_X7_isPlate 1 := ⟨vTb_t 802 (by decide +kernel) (by decide +kernel), vTb_t 8 (by decide +kernel) (by decide +kernel), ⟨by decide +kernel, by decide +kernel⟩, by decide +kernel⟩
theorem iw_X7_isPlate : Cond.instanceMethod (m_X7_isPlate).1 ∈ vTb ∧ Cond.selects (m_X7_isPlate).1.cls (m_X7_isPlate).1 (m_X7_isPlate).1 ∈ vTb := ⟨vTb_t 801 (by decide +kernel) (by decide +kernel), vTb_p (q := (yX7_isPlate, 40)) 17 (by decide +kernel)⟩
theorem cw_X7_plateAt : vCw m_X7_plateAt 1 := ⟨vTb_t 794 (by decide +kernel) (by decide +kernel), vTb_t 8 (by decide +kernel) (by decide +kernel), ⟨by decide +kernel, by decide +kernel⟩, by decide +kernel⟩
theorem iw_X7_plateAt : Cond.instanceMethod (m_X7_plateAt).1 ∈ vTb ∧ Cond.selects (m_X7_plateAt).1.cls (m_X7_plateAt).1 (m_X7_plateAt).1 ∈ vTb := ⟨vTb_t 793 (by decide +kernel) (by decide +kernel), vTb_p (q := (yX7_plateAt, 40)) 16 (by decide +kernel)⟩
theorem cw_X7_plate : vCw m_X7_plate 3 := ⟨vTb_t 783 (by decide +kernel) (by decide +kernel), vTb_t 8 (by decide +kernel) (by decide +kernel), ⟨by decide +kernel, by decide +kernel⟩, by decide +kernel⟩
theorem iw_X7_plate : Cond.instanceMethod (m_X7_plate).1 ∈ vTb ∧ Cond.selects (m_X7_plate).1.cls (m_X7_plate).1 (m_X7_plate).1 ∈ vTb := ⟨vTb_t 781 (by decide +kernel) (by decide +kernel), vTb_t 782 (by decide +kernel) (by decide +kernel)⟩
theorem cw_X7_turn : vCw m_X7_turn 2 := ⟨vTb_t 798 (by decide +kernel) (by decide +kernel), vTb_t 8 (by decide +kernel) (by decide +kernel), ⟨by decide +kernel, by decide +kernel⟩, by decide +kernel⟩
theorem iw_X7_turn : Cond.instanceMethod (m_X7_turn).1 ∈ vTb ∧ Cond.selects (m_X7_turn).1.cls (m_X7_turn).1 (m_X7_turn).1 ∈ vTb := ⟨vTb_t 796 (by decide +kernel) (by decide +kernel), vTb_t 797 (by decide +kernel) (by decide +kernel)⟩
theorem cw_X7_set : vCw m_X7_set 2 := ⟨vTb_t 806 (by decide +kernel) (by decide +kernel), vTb_t 8 (by decide +kernel) (by decide +kernel), ⟨by decide +kernel, by decide +kernel⟩, by decide +kernel⟩
theorem iw_X7_set : Cond.instanceMethod (m_X7_set).1 ∈ vTb ∧ Cond.selects (m_X7_set).1.cls (m_X7_set).1 (m_X7_set).1 ∈ vTb := ⟨vTb_t 804 (by decide +kernel) (by decide +kernel), vTb_t 805 (by decide +kernel) (by decide +kernel)⟩
theorem cw_X7_setNow : vCw m_X7_setNow 1 := ⟨vTb_t 811 (by decide +kernel) (by decide +kernel), vTb_t 8 (by decide +kernel) (by decide +kernel), ⟨by decide +kernel, by decide +kernel⟩, by decide +kernel⟩
theorem iw_X7_setNow : Cond.instanceMethod (m_X7_setNow).1 ∈ vTb ∧ Cond.selects (m_X7_setNow).1.cls (m_X7_setNow).1 (m_X7_setNow).1 ∈ vTb := ⟨vTb_t 810 (by decide +kernel) (by decide +kernel), vTb_p (q := (yX7_setNow, 40)) 18 (by decide +kernel)⟩
theorem cw_X7_about : vCw m_X7_about 2 := ⟨vTb_t 815 (by decide +kernel) (by decide +kernel), vTb_t 8 (by decide +kernel) (by decide +kernel), ⟨by decide +kernel, by decide +kernel⟩, by decide +kernel⟩
theorem iw_X7_about : Cond.instanceMethod (m_X7_about).1 ∈ vTb ∧ Cond.selects (m_X7_about).1.cls (m_X7_about).1 (m_X7_about).1 ∈ vTb := ⟨vTb_t 813 (by decide +kernel) (by decide +kernel), vTb_t 814 (by decide +kernel) (by decide +kernel)⟩
theorem cw_X7_standing : vCw m_X7_standing 0 := ⟨vTb_t 851 (by decide +kernel) (by decide +kernel), vTb_t 8 (by decide +kernel) (by decide +kernel), ⟨by decide +kernel, by decide +kernel⟩, by decide +kernel⟩
theorem iw_X7_standing : Cond.instanceMethod (m_X7_standing).1 ∈ vTb ∧ Cond.selects (m_X7_standing).1.cls (m_X7_standing).1 (m_X7_standing).1 ∈ vTb := ⟨vTb_t 850 (by decide +kernel) (by decide +kernel), vTb_p (q := (yX7_standing, 40)) 26 (by decide +kernel)⟩
theorem cw_X7_begin : vCw m_X7_begin 0 := ⟨vTb_t 823 (by decide +kernel) (by decide +kernel), vTb_t 8 (by decide +kernel) (by decide +kernel), ⟨by decide +kernel, by decide +kernel⟩, by decide +kernel⟩
theorem iw_X7_begin : Cond.instanceMethod (m_X7_begin).1 ∈ vTb ∧ Cond.selects (m_X7_begin).1.cls (m_X7_begin).1 (m_X7_begin).1 ∈ vTb := ⟨vTb_t 822 (by decide +kernel) (by decide +kernel), vTb_p (q := (yX7_begin, 40)) 19 (by decide +kernel)⟩
theorem cw_X7_note : vCw m_X7_note 0 := ⟨vTb_t 827 (by decide +kernel) (by decide +kernel), vTb_t 8 (by decide +kernel) (by decide +kernel), ⟨by decide +kernel, by decide +kernel⟩, by decide +kernel⟩
theorem iw_X7_note : Cond.instanceMethod (m_X7_note).1 ∈ vTb ∧ Cond.selects (m_X7_note).1.cls (m_X7_note).1 (m_X7_note).1 ∈ vTb := ⟨vTb_t 826 (by decide +kernel) (by decide +kernel), vTb_p (q := (yX7_note, 40)) 20 (by decide +kernel)⟩
theorem cw_X7_simStanding : vCw m_X7_simStanding 0 := ⟨vTb_t 884 (by decide +kernel) (by decide +kernel), vTb_t 8 (by decide +kernel) (by decide +kernel), ⟨by decide +kernel, by decide +kernel⟩, by decide +kernel⟩
theorem iw_X7_simStanding : Cond.instanceMethod (m_X7_simStanding).1 ∈ vTb ∧ Cond.selects (m_X7_simStanding).1.cls (m_X7_simStanding).1 (m_X7_simStanding).1 ∈ vTb := ⟨vTb_t 883 (by decide +kernel) (by decide +kernel), vTb_p (q := (yX7_simStanding, 40)) 28 (by decide +kernel)⟩
theorem cw_X7_simHere : vCw m_X7_simHere 0 := ⟨vTb_t 835 (by decide +kernel) (by decide +kernel), vTb_t 8 (by decide +kernel) (by decide +kernel), ⟨by decide +kernel, by decide +kernel⟩, by decide +kernel⟩
theorem iw_X7_simHere : Cond.instanceMethod (m_X7_simHere).1 ∈ vTb ∧ Cond.selects (m_X7_simHere).1.cls (m_X7_simHere).1 (m_X7_simHere).1 ∈ vTb := ⟨vTb_t 834 (by decide +kernel) (by decide +kernel), vTb_p (q := (yX7_simHere, 40)) 22 (by decide +kernel)⟩
theorem cw_X7_can : vCw m_X7_can 1 := ⟨vTb_t 831 (by decide +kernel) (by decide +kernel), vTb_t 8 (by decide +kernel) (by decide +kernel), ⟨by decide +kernel, by decide +kernel⟩, by decide +kernel⟩
theorem iw_X7_can : Cond.instanceMethod (m_X7_can).1 ∈ vTb ∧ Cond.selects (m_X7_can).1.cls (m_X7_can).1 (m_X7_can).1 ∈ vTb := ⟨vTb_t 830 (by decide +kernel) (by decide +kernel), vTb_p (q := (yX7_can, 40)) 21 (by decide +kernel)⟩
theorem cw_X7_doThing : vCw m_X7_doThing 1 := ⟨vTb_t 839 (by decide +kernel) (by decide +kernel), vTb_t 8 (by decide +kernel) (by decide +kernel), ⟨by decide +kernel, by decide +kernel⟩, by decide +kernel⟩
theorem iw_X7_doThing : Cond.instanceMethod (m_X7_doThing).1 ∈ vTb ∧ Cond.selects (m_X7_doThing).1.cls (m_X7_doThing).1 (m_X7_doThing).1 ∈ vTb := ⟨vTb_t 838 (by decide +kernel) (by decide +kernel), vTb_p (q := (yX7_doThing, 40)) 23 (by decide +kernel)⟩
theorem cw_X7_wind : vCw m_X7_wind 1 := ⟨vTb_t 843 (by decide +kernel) (by decide +kernel), vTb_t 8 (by decide +kernel) (by decide +kernel), ⟨by decide +kernel, by decide +kernel⟩, by decide +kernel⟩
theorem iw_X7_wind : Cond.instanceMethod (m_X7_wind).1 ∈ vTb ∧ Cond.selects (m_X7_wind).1.cls (m_X7_wind).1 (m_X7_wind).1 ∈ vTb := ⟨vTb_t 842 (by decide +kernel) (by decide +kernel), vTb_p (q := (yX7_wind, 40)) 24 (by decide +kernel)⟩
theorem cw_X7_seen : vCw m_X7_seen 1 := ⟨vTb_t 919 (by decide +kernel) (by decide +kernel), vTb_t 8 (by decide +kernel) (by decide +kernel), ⟨by decide +kernel, by decide +kernel⟩, by decide +kernel⟩
theorem iw_X7_seen : Cond.instanceMethod (m_X7_seen).1 ∈ vTb ∧ Cond.selects (m_X7_seen).1.cls (m_X7_seen).1 (m_X7_seen).1 ∈ vTb := ⟨vTb_t 918 (by decide +kernel) (by decide +kernel), vTb_p (q := (yX7_seen, 40)) 34 (by decide +kernel)⟩
theorem cw_X7_far : vCw m_X7_far 1 := ⟨vTb_t 927 (by decide +kernel) (by decide +kernel), vTb_t 8 (by decide +kernel) (by decide +kernel), ⟨by decide +kernel, by decide +kernel⟩, by decide +kernel⟩
theorem iw_X7_far : Cond.instanceMethod (m_X7_far).1 ∈ vTb ∧ Cond.selects (m_X7_far).1.cls (m_X7_far).1 (m_X7_far).1 ∈ vTb := ⟨vTb_t 926 (by decide +kernel) (by decide +kernel), vTb_p (q := (yX7_far, 40)) 36 (by decide +kernel)⟩
theorem cw_X7_worst : vCw m_X7_worst 0 := ⟨vTb_t 915 (by decide +kernel) (by decide +kernel), vTb_t 8 (by decide +kernel) (by decide +kernel), ⟨by decide +kernel, by decide +kernel⟩, by decide +kernel⟩
theorem iw_X7_worst : Cond.instanceMethod (m_X7_worst).1 ∈ vTb ∧ Cond.selects (m_X7_worst).1.cls (m_X7_worst).1 (m_X7_worst).1 ∈ vTb := ⟨vTb_t 914 (by decide +kernel) (by decide +kernel), vTb_p (q := (yX7_worst, 40)) 33 (by decide +kernel)⟩
theorem cw_X7_near : vCw m_X7_near 0 := ⟨vTb_t 923 (by decide +kernel) (by decide +kernel), vTb_t 8 (by decide +kernel) (by decide +kernel), ⟨by decide +kernel, by decide +kernel⟩, by decide +kernel⟩
theorem iw_X7_near : Cond.instanceMethod (m_X7_near).1 ∈ vTb ∧ Cond.selects (m_X7_near).1.cls (m_X7_near).1 (m_X7_near).1 ∈ vTb := ⟨vTb_t 922 (by decide +kernel) (by decide +kernel), vTb_p (q := (yX7_near, 40)) 35 (by decide +kernel)⟩
theorem cw_X7_following : vCw m_X7_following 0 := ⟨vTb_t 934 (by decide +kernel) (by decide +kernel), vTb_t 8 (by decide +kernel) (by decide +kernel), ⟨by decide +kernel, by decide +kernel⟩, by decide +kernel⟩
theorem iw_X7_following : Cond.instanceMethod (m_X7_following).1 ∈ vTb ∧ Cond.selects (m_X7_following).1.cls (m_X7_following).1 (m_X7_following).1 ∈ vTb := ⟨vTb_t 933 (by decide +kernel) (by decide +kernel), vTb_p (q := (yX7_following, 40)) 37 (by decide +kernel)⟩
theorem cw_X7_left : vCw m_X7_left 0 := ⟨vTb_t 938 (by decide +kernel) (by decide +kernel), vTb_t 8 (by decide +kernel) (by decide +kernel), ⟨by decide +kernel, by decide +kernel⟩, by decide +kernel⟩
theorem iw_X7_left : Cond.instanceMethod (m_X7_left).1 ∈ vTb ∧ Cond.selects (m_X7_left).1.cls (m_X7_left).1 (m_X7_left).1 ∈ vTb := ⟨vTb_t 937 (by decide +kernel) (by decide +kernel), vTb_p (q := (yX7_left, 40)) 38 (by decide +kernel)⟩
theorem cw_X7_thingBy : vCw m_X7_thingBy 1 := ⟨vTb_t 911 (by decide +kernel) (by decide +kernel), vTb_t 8 (by decide +kernel) (by decide +kernel), ⟨by decide +kernel, by decide +kernel⟩, by decide +kernel⟩
theorem iw_X7_thingBy : Cond.instanceMethod (m_X7_thingBy).1 ∈ vTb ∧ Cond.selects (m_X7_thingBy).1.cls (m_X7_thingBy).1 (m_X7_thingBy).1 ∈ vTb := ⟨vTb_t 910 (by decide +kernel) (by decide +kernel), vTb_p (q := (yX7_thingBy, 40)) 32 (by decide +kernel)⟩
theorem cw_X7_goBy : vCw m_X7_goBy 1 := ⟨vTb_t 907 (by decide +kernel) (by decide +kernel), vTb_t 8 (by decide +kernel) (by decide +kernel), ⟨by decide +kernel, by decide +kernel⟩, by decide +kernel⟩
theorem iw_X7_goBy : Cond.instanceMethod (m_X7_goBy).1 ∈ vTb ∧ Cond.selects (m_X7_goBy).1.cls (m_X7_goBy).1 (m_X7_goBy).1 ∈ vTb := ⟨vTb_t 906 (by decide +kernel) (by decide +kernel), vTb_p (q := (yX7_goBy, 40)) 31 (by decide +kernel)⟩
theorem cw_X7_tick : vCw m_X7_tick 1 := ⟨vTb_t 819 (by decide +kernel) (by decide +kernel), vTb_t 8 (by decide +kernel) (by decide +kernel), ⟨by decide +kernel, by decide +kernel⟩, by decide +kernel⟩
theorem iw_X7_tick : Cond.instanceMethod (m_X7_tick).1 ∈ vTb ∧ Cond.selects (m_X7_tick).1.cls (m_X7_tick).1 (m_X7_tick).1 ∈ vTb := ⟨vTb_t 817 (by decide +kernel) (by decide +kernel), vTb_t 818 (by decide +kernel) (by decide +kernel)⟩
theorem cw_X7_takeOver : vCw m_X7_takeOver 0 := ⟨vTb_t 847 (by decide +kernel) (by decide +kernel), vTb_t 8 (by decide +kernel) (by decide +kernel), ⟨by decide +kernel, by decide +kernel⟩, by decide +kernel⟩
theorem iw_X7_takeOver : Cond.instanceMethod (m_X7_takeOver).1 ∈ vTb ∧ Cond.selects (m_X7_takeOver).1.cls (m_X7_takeOver).1 (m_X7_takeOver).1 ∈ vTb := ⟨vTb_t 846 (by decide +kernel) (by decide +kernel), vTb_p (q := (yX7_takeOver, 40)) 25 (by decide +kernel)⟩
theorem cw_X7_say : vCw m_X7_say 1 := ⟨vTb_t 855 (by decide +kernel) (by decide +kernel), vTb_t 8 (by decide +kernel) (by decide +kernel), ⟨by decide +kernel, by decide +kernel⟩, by decide +kernel⟩
theorem iw_X7_say : Cond.instanceMethod (m_X7_say).1 ∈ vTb ∧ Cond.selects (m_X7_say).1.cls (m_X7_say).1 (m_X7_say).1 ∈ vTb := ⟨vTb_t 853 (by decide +kernel) (by decide +kernel), vTb_t 854 (by decide +kernel) (by decide +kernel)⟩
theorem cw_X7_wipe : vCw m_X7_wipe 0 := ⟨vTb_t 861 (by decide +kernel) (by decide +kernel), vTb_t 8 (by decide +kernel) (by decide +kernel), ⟨by decide +kernel, by decide +kernel⟩, by decide +kernel⟩
theorem iw_X7_wipe : Cond.instanceMethod (m_X7_wipe).1 ∈ vTb ∧ Cond.selects (m_X7_wipe).1.cls (m_X7_wipe).1 (m_X7_wipe).1 ∈ vTb := ⟨vTb_t 859 (by decide +kernel) (by decide +kernel), vTb_t 860 (by decide +kernel) (by decide +kernel)⟩
theorem cw_X7_thingOf : vCw m_X7_thingOf 1 := ⟨vTb_t 868 (by decide +kernel) (by decide +kernel), vTb_t 8 (by decide +kernel) (by decide +kernel), ⟨by decide +kernel, by decide +kernel⟩, by decide +kernel⟩
theorem sw_X7_thingOf : Cond.static (m_X7_thingOf).1 ∈ vTb := vTb_t 867 (by decide +kernel) (by decide +kernel)
theorem cw_X7_fault : vCw m_X7_fault 0 := ⟨vTb_t 865 (by decide +kernel) (by decide +kernel), vTb_t 8 (by decide +kernel) (by decide +kernel), ⟨by decide +kernel, by decide +kernel⟩, by decide +kernel⟩
theorem iw_X7_fault : Cond.instanceMethod (m_X7_fault).1 ∈ vTb ∧ Cond.selects (m_X7_fault).1.cls (m_X7_fault).1 (m_X7_fault).1 ∈ vTb := ⟨vTb_t 863 (by decide +kernel) (by decide +kernel), vTb_t 864 (by decide +kernel) (by decide +kernel)⟩
theorem cw_X7_judgeAll : vCw m_X7_judgeAll 0 := ⟨vTb_t 880 (by decide +kernel) (by decide +kernel), vTb_t 8 (by decide +kernel) (by decide +kernel), ⟨by decide +kernel, by decide +kernel⟩, by decide +kernel⟩
theorem iw_X7_judgeAll : Cond.instanceMethod (m_X7_judgeAll).1 ∈ vTb ∧ Cond.selects (m_X7_judgeAll).1.cls (m_X7_judgeAll).1 (m_X7_judgeAll).1 ∈ vTb := ⟨vTb_t 879 (by decide +kernel) (by decide +kernel), vTb_p (q := (yX7_judgeAll, 40)) 27 (by decide +kernel)⟩
theorem cw_X7_judge : vCw m_X7_judge 1 := ⟨vTb_t 874 (by decide +kernel) (by decide +kernel), vTb_t 8 (by decide +kernel) (by decide +kernel), ⟨by decide +kernel, by decide +kernel⟩, by decide +kernel⟩
theorem iw_X7_judge : Cond.instanceMethod (m_X7_judge).1 ∈ vTb ∧ Cond.selects (m_X7_judge).1.cls (m_X7_judge).1 (m_X7_judge).1 ∈ vTb := ⟨vTb_t 872 (by decide +kernel) (by decide +kernel), vTb_t 873 (by decide +kernel) (by decide +kernel)⟩
theorem cw_X7_sumOfTurns : vCw m_X7_sumOfTurns 0 := ⟨vTb_t 888 (by decide +kernel) (by decide +kernel), vTb_t 8 (by decide +kernel) (by decide +kernel), ⟨by decide +kernel, by decide +kernel⟩, by decide +kernel⟩
theorem iw_X7_sumOfTurns : Cond.instanceMethod (m_X7_sumOfTurns).1 ∈ vTb ∧ Cond.selects (m_X7_sumOfTurns).1.cls (m_X7_sumOfTurns).1 (m_X7_sumOfTurns).1 ∈ vTb := ⟨vTb_t 887 (by decide +kernel) (by decide +kernel), vTb_p (q := (yX7_sumOfTurns, 40)) 29 (by decide +kernel)⟩
theorem cw_X7_show : vCw m_X7_show 0 := ⟨vTb_t 892 (by decide +kernel) (by decide +kernel), vTb_t 8 (by decide +kernel) (by decide +kernel), ⟨by decide +kernel, by decide +kernel⟩, by decide +kernel⟩
theorem iw_X7_show : Cond.instanceMethod (m_X7_show).1 ∈ vTb ∧ Cond.selects (m_X7_show).1.cls (m_X7_show).1 (m_X7_show).1 ∈ vTb := ⟨vTb_t 890 (by decide +kernel) (by decide +kernel), vTb_t 891 (by decide +kernel) (by decide +kernel)⟩
theorem cw_X7_isRule : vCw m_X7_isRule 1 := ⟨vTb_t 899 (by decide +kernel) (by decide +kernel), vTb_t 8 (by decide +kernel) (by decide +kernel), ⟨by decide +kernel, by decide +kernel⟩, by decide +kernel⟩
theorem sw_X7_isRule : Cond.static (m_X7_isRule).1 ∈ vTb := vTb_t 898 (by decide +kernel) (by decide +kernel)
theorem cw_X7_lastsOf : vCw m_X7_lastsOf 1 := ⟨vTb_t 903 (by decide +kernel) (by decide +kernel), vTb_t 8 (by decide +kernel) (by decide +kernel), ⟨by decide +kernel, by decide +kernel⟩, by decide +kernel⟩
theorem iw_X7_lastsOf : Cond.instanceMethod (m_X7_lastsOf).1 ∈ vTb ∧ Cond.selects (m_X7_lastsOf).1.cls (m_X7_lastsOf).1 (m_X7_lastsOf).1 ∈ vTb := ⟨vTb_t 902 (by decide +kernel) (by decide +kernel), vTb_p (q := (yX7_lastsOf, 40)) 30 (by decide +kernel)⟩
theorem cw_X7_lasts : vCw m_X7_lasts 1 := ⟨vTb_t 896 (by decide +kernel) (by decide +kernel), vTb_t 8 (by decide +kernel) (by decide +kernel), ⟨by decide +kernel, by decide +kernel⟩, by decide +kernel⟩
theorem iw_X7_lasts : Cond.instanceMethod (m_X7_lasts).1 ∈ vTb ∧ Cond.selects (m_X7_lasts).1.cls (m_X7_lasts).1 (m_X7_lasts).1 ∈ vTb := ⟨vTb_t 894 (by decide +kernel) (by decide +kernel), vTb_t 895 (by decide +kernel) (by decide +kernel)⟩
theorem cw_X7_at : vCw m_X7_at 3 := ⟨vTb_t 942 (by decide +kernel) (by decide +kernel), vTb_t 8 (by decide +kernel) (by decide +kernel), ⟨by decide +kernel, by decide +kernel⟩, by decide +kernel⟩
theorem iw_X7_at : Cond.instanceMethod (m_X7_at).1 ∈ vTb ∧ Cond.selects (m_X7_at).1.cls (m_X7_at).1 (m_X7_at).1 ∈ vTb := ⟨vTb_t 940 (by decide +kernel) (by decide +kernel), vTb_t 941 (by decide +kernel) (by decide +kernel)⟩
theorem cw_X7_isAs : vCw m_X7_isAs 2 := ⟨vTb_t 951 (by decide +kernel) (by decide +kernel), vTb_t 8 (by decide +kernel) (by decide +kernel), ⟨by decide +kernel, by decide +kernel⟩, by decide +kernel⟩
theorem iw_X7_isAs : Cond.instanceMethod (m_X7_isAs).1 ∈ vTb ∧ Cond.selects (m_X7_isAs).1.cls (m_X7_isAs).1 (m_X7_isAs).1 ∈ vTb := ⟨vTb_t 950 (by decide +kernel) (by decide +kernel), vTb_p (q := (yX7_isAs, 40)) 39 (by decide +kernel)⟩
theorem cw_X7_round : vCw m_X7_round 2 := ⟨vTb_t 947 (by decide +kernel) (by decide +kernel), vTb_t 8 (by decide +kernel) (by decide +kernel), ⟨by decide +kernel, by decide +kernel⟩, by decide +kernel⟩
theorem iw_X7_round : Cond.instanceMethod (m_X7_round).1 ∈ vTb ∧ Cond.selects (m_X7_round).1.cls (m_X7_round).1 (m_X7_round).1 ∈ vTb := ⟨vTb_t 945 (by decide +kernel) (by decide +kernel), vTb_t 946 (by decide +kernel) (by decide +kernel)⟩
theorem cw_X7_sortPlaces : vCw m_X7_sortPlaces 0 := ⟨vTb_t 963 (by decide +kernel) (by decide +kernel), vTb_t 8 (by decide +kernel) (by decide +kernel), ⟨by decide +kernel, by decide +kernel⟩, by decide +kernel⟩
theorem iw_X7_sortPlaces : Cond.instanceMethod (m_X7_sortPlaces).1 ∈ vTb ∧ Cond.selects (m_X7_sortPlaces).1.cls (m_X7_sortPlaces).1 (m_X7_sortPlaces).1 ∈ vTb := ⟨vTb_t 962 (by decide +kernel) (by decide +kernel), vTb_p (q := (yX7_sortPlaces, 40)) 41 (by decide +kernel)⟩
theorem cw_X7_layOrder : vCw m_X7_layOrder 0 := ⟨vTb_t 967 (by decide +kernel) (by decide +kernel), vTb_t 8 (by decide +kernel) (by decide +kernel), ⟨by decide +kernel, by decide +kernel⟩, by decide +kernel⟩
theorem iw_X7_layOrder : Cond.instanceMethod (m_X7_layOrder).1 ∈ vTb ∧ Cond.selects (m_X7_layOrder).1.cls (m_X7_layOrder).1 (m_X7_layOrder).1 ∈ vTb := ⟨vTb_t 966 (by decide +kernel) (by decide +kernel), vTb_p (q := (yX7_layOrder, 40)) 42 (by decide +kernel)⟩
theorem cw_X7_nextOrder : vCw m_X7_nextOrder 0 := ⟨vTb_t 971 (by decide +kernel) (by decide +kernel), vTb_t 8 (by decide +kernel) (by decide +kernel), ⟨by decide +kernel, by decide +kernel⟩, by decide +kernel⟩
theorem iw_X7_nextOrder : Cond.instanceMethod (m_X7_nextOrder).1 ∈ vTb ∧ Cond.selects (m_X7_nextOrder).1.cls (m_X7_nextOrder).1 (m_X7_nextOrder).1 ∈ vTb := ⟨vTb_t 970 (by decide +kernel) (by decide +kernel), vTb_p (q := (yX7_nextOrder, 40)) 43 (by decide +kernel)⟩
theorem cw_X7_findSticks : vCw m_X7_findSticks 1 := ⟨vTb_t 959 (by decide +kernel) (by decide +kernel), vTb_t 8 (by decide +kernel) (by decide +kernel), ⟨by decide +kernel, by decide +kernel⟩, by decide +kernel⟩
theorem iw_X7_findSticks : Cond.instanceMethod (m_X7_findSticks).1 ∈ vTb ∧ Cond.selects (m_X7_findSticks).1.cls (m_X7_findSticks).1 (m_X7_findSticks).1 ∈ vTb := ⟨vTb_t 958 (by decide +kernel) (by decide +kernel), vTb_p (q := (yX7_findSticks, 40)) 40 (by decide +kernel)⟩
theorem cw_X7_sticks : vCw m_X7_sticks 2 := ⟨vTb_t 955 (by decide +kernel) (by decide +kernel), vTb_t 8 (by decide +kernel) (by decide +kernel), ⟨by decide +kernel, by decide +kernel⟩, by decide +kernel⟩
theorem iw_X7_sticks : Cond.instanceMethod (m_X7_sticks).1 ∈ vTb ∧ Cond.selects (m_X7_sticks).1.cls (m_X7_sticks).1 (m_X7_sticks).1 ∈ vTb := ⟨vTb_t 953 (by decide +kernel) (by decide +kernel), vTb_t 954 (by decide +kernel) (by decide +kernel)⟩
theorem cw_X7_findExact : vCw m_X7_findExact 0 := ⟨vTb_t 979 (by decide +kernel) (by decide +kernel), vTb_t 8 (by decide +kernel) (by decide +kernel), ⟨by decide +kernel, by decide +kernel⟩, by decide +kernel⟩
theorem iw_X7_findExact : Cond.instanceMethod (m_X7_findExact).1 ∈ vTb ∧ Cond.selects (m_X7_findExact).1.cls (m_X7_findExact).1 (m_X7_findExact).1 ∈ vTb := ⟨vTb_t 978 (by decide +kernel) (by decide +kernel), vTb_p (q := (yX7_findExact, 40)) 44 (by decide +kernel)⟩
theorem cw_X7_stateNow : vCw m_X7_stateNow 0 := ⟨vTb_t 1002 (by decide +kernel) (by decide +kernel), vTb_t 8 (by decide +kernel) (by decide +kernel), ⟨by decide +kernel, by decide +kernel⟩, by decide +kernel⟩
theorem iw_X7_stateNow : Cond.instanceMethod (m_X7_stateNow).1 ∈ vTb ∧ Cond.selects (m_X7_stateNow).1.cls (m_X7_stateNow).1 (m_X7_stateNow).1 ∈ vTb := ⟨vTb_t 1001 (by decide +kernel) (by decide +kernel), vTb_p (q := (yX7_stateNow, 40)) 49 (by decide +kernel)⟩
theorem cw_X7_turnIn : vCw m_X7_turnIn 2 := ⟨vTb_t 990 (by decide +kernel) (by decide +kernel), vTb_t 8 (by decide +kernel) (by decide +kernel), ⟨by decide +kernel, by decide +kernel⟩, by decide +kernel⟩
theorem sw_X7_turnIn : Cond.static (m_X7_turnIn).1 ∈ vTb := vTb_t 989 (by decide +kernel) (by decide +kernel)
theorem cw_X7_isState : vCw m_X7_isState 1 := ⟨vTb_t 987 (by decide +kernel) (by decide +kernel), vTb_t 8 (by decide +kernel) (by decide +kernel), ⟨by decide +kernel, by decide +kernel⟩, by decide +kernel⟩
theorem iw_X7_isState : Cond.instanceMethod (m_X7_isState).1 ∈ vTb ∧ Cond.selects (m_X7_isState).1.cls (m_X7_isState).1 (m_X7_isState).1 ∈ vTb := ⟨vTb_t 986 (by decide +kernel) (by decide +kernel), vTb_p (q := (yX7_isState, 40)) 46 (by decide +kernel)⟩
theorem cw_X7_nextState : vCw m_X7_nextState 2 := ⟨vTb_t 998 (by decide +kernel) (by decide +kernel), vTb_t 8 (by decide +kernel) (by decide +kernel), ⟨by decide +kernel, by decide +kernel⟩, by decide +kernel⟩
theorem iw_X7_nextState : Cond.instanceMethod (m_X7_nextState).1 ∈ vTb ∧ Cond.selects (m_X7_nextState).1.cls (m_X7_nextState).1 (m_X7_nextState).1 ∈ vTb := ⟨vTb_t 997 (by decide +kernel) (by decide +kernel), vTb_p (q := (yX7_nextState, 40)) 48 (by decide +kernel)⟩
theorem cw_X7_layLives : vCw m_X7_layLives 0 := ⟨vTb_t 983 (by decide +kernel) (by decide +kernel), vTb_t 8 (by decide +kernel) (by decide +kernel), ⟨by decide +kernel, by decide +kernel⟩, by decide +kernel⟩
theorem iw_X7_layLives : Cond.instanceMethod (m_X7_layLives).1 ∈ vTb ∧ Cond.selects (m_X7_layLives).1.cls (m_X7_layLives).1 (m_X7_layLives).1 ∈ vTb := ⟨vTb_t 982 (by decide +kernel) (by decide +kernel), vTb_p (q := (yX7_layLives, 40)) 45 (by decide +kernel)⟩
theorem cw_X7_endsIn : vCw m_X7_endsIn 2 := ⟨vTb_t 994 (by decide +kernel) (by decide +kernel), vTb_t 8 (by decide +kernel) (by decide +kernel), ⟨by decide +kernel, by decide +kernel⟩, by decide +kernel⟩
theorem iw_X7_endsIn : Cond.instanceMethod (m_X7_endsIn).1 ∈ vTb ∧ Cond.selects (m_X7_endsIn).1.cls (m_X7_endsIn).1 (m_X7_endsIn).1 ∈ vTb := ⟨vTb_t 993 (by decide +kernel) (by decide +kernel), vTb_p (q := (yX7_endsIn, 40)) 47 (by decide +kernel)⟩
theorem cw_X7_kept : vCw m_X7_kept 0 := ⟨vTb_t 975 (by decide +kernel) (by decide +kernel), vTb_t 8 (by decide +kernel) (by decide +kernel), ⟨by decide +kernel, by decide +kernel⟩, by decide +kernel⟩
theorem iw_X7_kept : Cond.instanceMethod (m_X7_kept).1 ∈ vTb ∧ Cond.selects (m_X7_kept).1.cls (m_X7_kept).1 (m_X7_kept).1 ∈ vTb := ⟨vTb_t 973 (by decide +kernel) (by decide +kernel), vTb_t 974 (by decide +kernel) (by decide +kernel)⟩
theorem cw_X7_longest : vCw m_X7_longest 0 := ⟨vTb_t 1006 (by decide +kernel) (by decide +kernel), vTb_t 8 (by decide +kernel) (by decide +kernel), ⟨by decide +kernel, by decide +kernel⟩, by decide +kernel⟩
theorem iw_X7_longest : Cond.instanceMethod (m_X7_longest).1 ∈ vTb ∧ Cond.selects (m_X7_longest).1.cls (m_X7_longest).1 (m_X7_longest).1 ∈ vTb := ⟨vTb_t 1004 (by decide +kernel) (by decide +kernel), vTb_t 1005 (by decide +kernel) (by decide +kernel)⟩
theorem cw_X7_step : vCw m_X7_step 0 := ⟨vTb_t 1010 (by decide +kernel) (by decide +kernel), vTb_t 8 (by decide +kernel) (by decide +kernel), ⟨by decide +kernel, by decide +kernel⟩, by decide +kernel⟩
theorem iw_X7_step : Cond.instanceMethod (m_X7_step).1 ∈ vTb ∧ Cond.selects (m_X7_step).1.cls (m_X7_step).1 (m_X7_step).1 ∈ vTb := ⟨vTb_t 1008 (by decide +kernel) (by decide +kernel), vTb_t 1009 (by decide +kernel) (by decide +kernel)⟩
theorem cw_X7_canBow : vCw m_X7_canBow 2 := ⟨vTb_t 1019 (by decide +kernel) (by decide +kernel), vTb_t 8 (by decide +kernel) (by decide +kernel), ⟨by decide +kernel, by decide +kernel⟩, by decide +kernel⟩
theorem iw_X7_canBow : Cond.instanceMethod (m_X7_canBow).1 ∈ vTb ∧ Cond.selects (m_X7_canBow).1.cls (m_X7_canBow).1 (m_X7_canBow).1 ∈ vTb := ⟨vTb_t 1018 (by decide +kernel) (by decide +kernel), vTb_p (q := (yX7_canBow, 40)) 50 (by decide +kernel)⟩
theorem cw_X7_bow : vCw m_X7_bow 1 := ⟨vTb_t 1014 (by decide +kernel) (by decide +kernel), vTb_t 8 (by decide +kernel) (by decide +kernel), ⟨by decide +kernel, by decide +kernel⟩, by decide +kernel⟩
theorem iw_X7_bow : Cond.instanceMethod (m_X7_bow).1 ∈ vTb ∧ Cond.selects (m_X7_bow).1.cls (m_X7_bow).1 (m_X7_bow).1 ∈ vTb := ⟨vTb_t 1012 (by decide +kernel) (by decide +kernel), vTb_t 1013 (by decide +kernel) (by decide +kernel)⟩
theorem cw_X7_gaspsIn : vCw m_X7_gaspsIn 1 := ⟨vTb_t 1032 (by decide +kernel) (by decide +kernel), vTb_t 8 (by decide +kernel) (by decide +kernel), ⟨by decide +kernel, by decide +kernel⟩, by decide +kernel⟩
theorem iw_X7_gaspsIn : Cond.instanceMethod (m_X7_gaspsIn).1 ∈ vTb ∧ Cond.selects (m_X7_gaspsIn).1.cls (m_X7_gaspsIn).1 (m_X7_gaspsIn).1 ∈ vTb := ⟨vTb_t 1031 (by decide +kernel) (by decide +kernel), vTb_p (q := (yX7_gaspsIn, 40)) 52 (by decide +kernel)⟩
theorem cw_X7_gaspsBy : vCw m_X7_gaspsBy 3 := ⟨vTb_t 1028 (by decide +kernel) (by decide +kernel), vTb_t 8 (by decide +kernel) (by decide +kernel), ⟨by decide +kernel, by decide +kernel⟩, by decide +kernel⟩
theorem iw_X7_gaspsBy : Cond.instanceMethod (m_X7_gaspsBy).1 ∈ vTb ∧ Cond.selects (m_X7_gaspsBy).1.cls (m_X7_gaspsBy).1 (m_X7_gaspsBy).1 ∈ vTb := ⟨vTb_t 1027 (by decide +kernel) (by decide +kernel), vTb_p (q := (yX7_gaspsBy, 40)) 51 (by decide +kernel)⟩
theorem cw_X7_gasps : vCw m_X7_gasps 2 := ⟨vTb_t 1023 (by decide +kernel) (by decide +kernel), vTb_t 8 (by decide +kernel) (by decide +kernel), ⟨by decide +kernel, by decide +kernel⟩, by decide +kernel⟩
theorem iw_X7_gasps : Cond.instanceMethod (m_X7_gasps).1 ∈ vTb ∧ Cond.selects (m_X7_gasps).1.cls (m_X7_gasps).1 (m_X7_gasps).1 ∈ vTb := ⟨vTb_t 1021 (by decide +kernel) (by decide +kernel), vTb_t 1022 (by decide +kernel) (by decide +kernel)⟩
theorem cw_X7_load : vCw m_X7_load 1 := ⟨vTb_t 1036 (by decide +kernel) (by decide +kernel), vTb_t 8 (by decide +kernel) (by decide +kernel), ⟨by decide +kernel, by decide +kernel⟩, by decide +kernel⟩
theorem iw_X7_load : Cond.instanceMethod (m_X7_load).1 ∈ vTb ∧ Cond.selects (m_X7_load).1.cls (m_X7_load).1 (m_X7_load).1 ∈ vTb := ⟨vTb_t 1034 (by decide +kernel) (by decide +kernel), vTb_t 1035 (by decide +kernel) (by decide +kernel)⟩
theorem cw_X7_setUpOf : vCw m_X7_setUpOf 0 := ⟨vTb_t 1048 (by decide +kernel) (by decide +kernel), vTb_t 8 (by decide +kernel) (by decide +kernel), ⟨by decide +kernel, by decide +kernel⟩, by decide +kernel⟩
theorem iw_X7_setUpOf : Cond.instanceMethod (m_X7_setUpOf).1 ∈ vTb ∧ Cond.selects (m_X7_setUpOf).1.cls (m_X7_setUpOf).1 (m_X7_setUpOf).1 ∈ vTb := ⟨vTb_t 1047 (by decide +kernel) (by decide +kernel), vTb_p (q := (yX7_setUpOf, 40)) 54 (by decide +kernel)⟩
theorem cw_X7_layTold : vCw m_X7_layTold 1 := ⟨vTb_t 1044 (by decide +kernel) (by decide +kernel), vTb_t 8 (by decide +kernel) (by decide +kernel), ⟨by decide +kernel, by decide +kernel⟩, by decide +kernel⟩
theorem iw_X7_layTold : Cond.instanceMethod (m_X7_layTold).1 ∈ vTb ∧ Cond.selects (m_X7_layTold).1.cls (m_X7_layTold).1 (m_X7_layTold).1 ∈ vTb := ⟨vTb_t 1043 (by decide +kernel) (by decide +kernel), vTb_p (q := (yX7_layTold, 40)) 53 (by decide +kernel)⟩
theorem cw_X7_setUp : vCw m_X7_setUp 1 := ⟨vTb_t 1040 (by decide +kernel) (by decide +kernel), vTb_t 8 (by decide +kernel) (by decide +kernel), ⟨by decide +kernel, by decide +kernel⟩, by decide +kernel⟩
theorem iw_X7_setUp : Cond.instanceMethod (m_X7_setUp).1 ∈ vTb ∧ Cond.selects (m_X7_setUp).1.cls (m_X7_setUp).1 (m_X7_setUp).1 ∈ vTb := ⟨vTb_t 1038 (by decide +kernel) (by decide +kernel), vTb_t 1039 (by decide +kernel) (by decide +kernel)⟩
theorem cw_X7_bestOrder : vCw m_X7_bestOrder 0 := ⟨vTb_t 1052 (by decide +kernel) (by decide +kernel), vTb_t 8 (by decide +kernel) (by decide +kernel), ⟨by decide +kernel, by decide +kernel⟩, by decide +kernel⟩
theorem iw_X7_bestOrder : Cond.instanceMethod (m_X7_bestOrder).1 ∈ vTb ∧ Cond.selects (m_X7_bestOrder).1.cls (m_X7_bestOrder).1 (m_X7_bestOrder).1 ∈ vTb := ⟨vTb_t 1050 (by decide +kernel) (by decide +kernel), vTb_t 1051 (by decide +kernel) (by decide +kernel)⟩
theorem cw_X7_likeOf : vCw m_X7_likeOf 1 := ⟨vTb_t 1060 (by decide +kernel) (by decide +kernel), vTb_t 8 (by decide +kernel) (by decide +kernel), ⟨by decide +kernel, by decide +kernel⟩, by decide +kernel⟩
theorem iw_X7_likeOf : Cond.instanceMethod (m_X7_likeOf).1 ∈ vTb ∧ Cond.selects (m_X7_likeOf).1.cls (m_X7_likeOf).1 (m_X7_likeOf).1 ∈ vTb := ⟨vTb_t 1059 (by decide +kernel) (by decide +kernel), vTb_p (q := (yX7_likeOf, 40)) 55 (by decide +kernel)⟩
theorem cw_X7_film : vCw m_X7_film 1 := ⟨vTb_t 1056 (by decide +kernel) (by decide +kernel), vTb_t 8 (by decide +kernel) (by decide +kernel), ⟨by decide +kernel, by decide +kernel⟩, by decide +kernel⟩
theorem iw_X7_film : Cond.instanceMethod (m_X7_film).1 ∈ vTb ∧ Cond.selects (m_X7_film).1.cls (m_X7_film).1 (m_X7_film).1 ∈ vTb := ⟨vTb_t 1054 (by decide +kernel) (by decide +kernel), vTb_t 1055 (by decide +kernel) (by decide +kernel)⟩
theorem cw_X7_whose : vCw m_X7_whose 0 := ⟨vTb_t 1064 (by decide +kernel) (by decide +kernel), vTb_t 8 (by decide +kernel) (by decide +kernel), ⟨by decide +kernel, by decide +kernel⟩, by decide +kernel⟩
theorem iw_X7_whose : Cond.instanceMethod (m_X7_whose).1 ∈ vTb ∧ Cond.selects (m_X7_whose).1.cls (m_X7_whose).1 (m_X7_whose).1 ∈ vTb := ⟨vTb_t 1062 (by decide +kernel) (by decide +kernel), vTb_t 1063 (by decide +kernel) (by decide +kernel)⟩
theorem cw_X7_pass : vCw m_X7_pass 1 := ⟨vTb_t 1076 (by decide +kernel) (by decide +kernel), vTb_t 8 (by decide +kernel) (by decide +kernel), ⟨by decide +kernel, by decide +kernel⟩, by decide +kernel⟩
theorem iw_X7_pass : Cond.instanceMethod (m_X7_pass).1 ∈ vTb ∧ Cond.selects (m_X7_pass).1.cls (m_X7_pass).1 (m_X7_pass).1 ∈ vTb := ⟨vTb_t 1075 (by decide +kernel) (by decide +kernel), vTb_p (q := (yX7_pass, 40)) 57 (by decide +kernel)⟩
theorem cw_X7_passAll : vCw m_X7_passAll 0 := ⟨vTb_t 1072 (by decide +kernel) (by decide +kernel), vTb_t 8 (by decide +kernel) (by decide +kernel), ⟨by decide +kernel, by decide +kernel⟩, by decide +kernel⟩
theorem iw_X7_passAll : Cond.instanceMethod (m_X7_passAll).1 ∈ vTb ∧ Cond.selects (m_X7_passAll).1.cls (m_X7_passAll).1 (m_X7_passAll).1 ∈ vTb := ⟨vTb_t 1071 (by decide +kernel) (by decide +kernel), vTb_p (q := (yX7_passAll, 40)) 56 (by decide +kernel)⟩
theorem cw_X7_image : vCw m_X7_image 1 := ⟨vTb_t 1068 (by decide +kernel) (by decide +kernel), vTb_t 8 (by decide +kernel) (by decide +kernel), ⟨by decide +kernel, by decide +kernel⟩, by decide +kernel⟩
theorem iw_X7_image : Cond.instanceMethod (m_X7_image).1 ∈ vTb ∧ Cond.selects (m_X7_image).1.cls (m_X7_image).1 (m_X7_image).1 ∈ vTb := ⟨vTb_t 1066 (by decide +kernel) (by decide +kernel), vTb_t 1067 (by decide +kernel) (by decide +kernel)⟩
theorem cw_X7_restore : vCw m_X7_restore 1 := ⟨vTb_t 1080 (by decide +kernel) (by decide +kernel), vTb_t 8 (by decide +kernel) (by decide +kernel), ⟨by decide +kernel, by decide +kernel⟩, by decide +kernel⟩
theorem iw_X7_restore : Cond.instanceMethod (m_X7_restore).1 ∈ vTb ∧ Cond.selects (m_X7_restore).1.cls (m_X7_restore).1 (m_X7_restore).1 ∈ vTb := ⟨vTb_t 1078 (by decide +kernel) (by decide +kernel), vTb_t 1079 (by decide +kernel) (by decide +kernel)⟩
theorem cw_X7_told : vCw m_X7_told 1 := ⟨vTb_t 1084 (by decide +kernel) (by decide +kernel), vTb_t 8 (by decide +kernel) (by decide +kernel), ⟨by decide +kernel, by decide +kernel⟩, by decide +kernel⟩
theorem iw_X7_told : Cond.instanceMethod (m_X7_told).1 ∈ vTb ∧ Cond.selects (m_X7_told).1.cls (m_X7_told).1 (m_X7_told).1 ∈ vTb := ⟨vTb_t 1082 (by decide +kernel) (by decide +kernel), vTb_t 1083 (by decide +kernel) (by decide +kernel)⟩
theorem cw_J6_bitCount_0f7a4 : vCw m_J6_bitCount_0f7a4 1 := ⟨vTb_t 473 (by decide +kernel) (by decide +kernel), vTb_t 11 (by decide +kernel) (by decide +kernel), ⟨by decide +kernel, by decide +kernel⟩, by decide +kernel⟩
theorem sw_J6_bitCount_0f7a4 : Cond.static (m_J6_bitCount_0f7a4).1 ∈ vTb := vTb_t 472 (by decide +kernel) (by decide +kernel)
theorem cw_J9_abs_0f7a4 : vCw m_J9_abs_0f7a4 1 := ⟨vTb_t 608 (by decide +kernel) (by decide +kernel), vTb_t 9 (by decide +kernel) (by decide +kernel), ⟨by decide +kernel, by decide +kernel⟩, by decide +kernel⟩
theorem sw_J9_abs_0f7a4 : Cond.static (m_J9_abs_0f7a4).1 ∈ vTb := vTb_t 607 (by decide +kernel) (by decide +kernel)
theorem cw_J9_max_7cf53 : vCw m_J9_max_7cf53 2 := ⟨vTb_t 291 (by decide +kernel) (by decide +kernel), vTb_t 9 (by decide +kernel) (by decide +kernel), ⟨by decide +kernel, by decide +kernel⟩, by decide +kernel⟩
theorem sw_J9_max_7cf53 : Cond.static (m_J9_max_7cf53).1 ∈ vTb := vTb_t 290 (by decide +kernel) (by decide +kernel)
theorem cw_J9_min_7cf53 : vCw m_J9_min_7cf53 2 := ⟨vTb_t 284 (by decide +kernel) (by decide +kernel), vTb_t 9 (by decide +kernel) (by decide +kernel), ⟨by decide +kernel, by decide +kernel⟩, by decide +kernel⟩
theorem sw_J9_min_7cf53 : Cond.static (m_J9_min_7cf53).1 ∈ vTb := vTb_t 283 (by decide +kernel) (by decide +kernel)
theorem cw_J7_fill_53178 : vCw m_J7_fill_53178 2 := ⟨vTb_t 479 (by decide +kernel) (by decide +kernel), vTb_t 12 (by decide +kernel) (by decide +kernel), ⟨by decide +kernel, by decide +kernel⟩, by decide +kernel⟩
theorem sw_J7_fill_53178 : Cond.static (m_J7_fill_53178).1 ∈ vTb := vTb_t 478 (by decide +kernel) (by decide +kernel)
theorem fl_X4_21 : vFl RX4 21 3 0 false := ⟨_, _, _, rfl, by decide, vTb_t 36 (by decide +kernel) (by decide +kernel), rfl⟩
theorem fl_X3_35 : vFl RX3 35 3 0 false := ⟨_, _, _, rfl, by decide, vTb_t 37 (by decide +kernel) (by decide +kernel), rfl⟩
theorem fl_X6_66 : vFl RX6 66 3 0 false := ⟨_, _, _, rfl, by decide, vTb_t 38 (by decide +kernel) (by decide +kernel), rfl⟩
theorem fl_X0_49 : vFl RX0 49 3 0 false := ⟨_, _, _, rfl, by decide, vTb_t 39 (by decide +kernel) (by decide +kernel), rfl⟩
theorem fl_X2_18 : vFl RX2 18 3 0 false := ⟨_, _, _, rfl, by decide, vTb_t 40 (by decide +kernel) (by decide +kernel), rfl⟩
theorem fl_X5_93 : vFl RX5 93 3 0 false := ⟨_, _, _, rfl, by decide, vTb_t 41 (by decide +kernel) (by decide +kernel), rfl⟩
theorem fl_X3_9 : vFl RX3 9 3 1 true := ⟨_, _, _, rfl, by decide, vTb_t 42 (by decide +kernel) (by decide +kernel), rfl⟩
theorem fl_X4_47 : vFl RX4 47 3 1 true := ⟨_, _, _, rfl, by decide, vTb_t 43 (by decide +kernel) (by decide +kernel), rfl⟩
theorem fl_X0_55 : vFl RX0 55 3 1 true := ⟨_, _, _, rfl, by decide, vTb_t 44 (by decide +kernel) (by decide +kernel), rfl⟩
theorem fl_X2_27 : vFl RX2 27 3 1 true := ⟨_, _, _, rfl, by decide, vTb_t 45 (by decide +kernel) (by decide +kernel), rfl⟩
theorem fl_X6_94 : vFl RX6 94 3 1 true := ⟨_, _, _, rfl, by decide, vTb_t 46 (by decide +kernel) (by decide +kernel), rfl⟩
theorem fl_X5_62 : vFl RX5 62 3 1 true := ⟨_, _, _, rfl, by decide, vTb_t 47 (by decide +kernel) (by decide +kernel), rfl⟩
theorem fl_X3_15 : vFl RX3 15 3 2 true := ⟨_, _, _, rfl, by decide, vTb_t 48 (by decide +kernel) (by decide +kernel), rfl⟩
theorem fl_X0_53 : vFl RX0 53 3 2 true := ⟨_, _, _, rfl, by decide, vTb_t 49 (by decide +kernel) (by decide +kernel), rfl⟩
theorem fl_X6_78 : vFl RX6 78 3 2 true := ⟨_, _, _, rfl, by decide, vTb_t 50 (by decide +kernel) (by decide +kernel), rfl⟩
theorem fl_X2_36 : vFl RX2 36 3 2 true := ⟨_, _, _, rfl, by decide, vTb_t 51 (by decide +kernel) (by decide +kernel), rfl⟩
theorem fl_X5_69 : vFl RX5 69 3 2 true := ⟨_, _, _, rfl, by decide, vTb_t 52 (by decide +kernel) (by decide +kernel), rfl⟩
theorem fl_X3_18 : vFl RX3 18 3 3 true := ⟨_, _, _, rfl, by decide, vTb_t 53 (by decide +kernel) (by decide +kernel), rfl⟩
theorem fl_X0_54 : vFl RX0 54 3 3 true := ⟨_, _, _, rfl, by decide, vTb_t 54 (by decide +kernel) (by decide +kernel), rfl⟩
theorem fl_X2_39 : vFl RX2 39 3 3 true := ⟨_, _, _, rfl, by decide, vTb_t 55 (by decide +kernel) (by decide +kernel), rfl⟩
theorem fl_X6_97 : vFl RX6 97 3 3 true := ⟨_, _, _, rfl, by decide, vTb_t 56 (by decide +kernel) (by decide +kernel), rfl⟩
theorem fl_X5_102 : vFl RX5 102 3 3 true := ⟨_, _, _, rfl, by decide, vTb_t 57 (by decide +kernel) (by decide +kernel), rfl⟩
theorem fl_X3_21 : vFl RX3 21 3 4 true := ⟨_, _, _, rfl, by decide, vTb_t 58 (by decide +kernel) (by decide +kernel), rfl⟩
theorem fl_X0_50 : vFl RX0 50 3 4 true := ⟨_, _, _, rfl, by decide, vTb_t 59 (by decide +kernel) (by decide +kernel), rfl⟩
theorem fl_X6_82 : vFl RX6 82 3 4 true := ⟨_, _, _, rfl, by decide, vTb_t 60 (by decide +kernel) (by decide +kernel), rfl⟩
theorem fl_X5_55 : vFl RX5 55 3 4 true := ⟨_, _, _, rfl, by decide, vTb_t 61 (by decide +kernel) (by decide +kernel), rfl⟩
theorem fl_X3_32 : vFl RX3 32 3 5 true := ⟨_, _, _, rfl, by decide, vTb_t 62 (by decide +kernel) (by decide +kernel), rfl⟩
theorem fl_X0_39 : vFl RX0 39 3 5 true := ⟨_, _, _, rfl, by decide, vTb_t 63 (by decide +kernel) (by decide +kernel), rfl⟩
theorem fl_X2_24 : vFl RX2 24 3 5 true := ⟨_, _, _, rfl, by decide, vTb_t 64 (by decide +kernel) (by decide +kernel), rfl⟩
theorem fl_X6_91 : vFl RX6 91 3 5 true := ⟨_, _, _, rfl, by decide, vTb_t 65 (by decide +kernel) (by decide +kernel), rfl⟩
theorem fl_X5_52 : vFl RX5 52 3 5 true := ⟨_, _, _, rfl, by decide, vTb_t 66 (by decide +kernel) (by decide +kernel), rfl⟩
theorem fl_X1_18 : vFl RX1 18 1 0 false := ⟨_, _, _, rfl, by decide, vTb_t 88 (by decide +kernel) (by decide +kernel), rfl⟩
theorem fl_X6_113 : vFl RX6 113 1 0 false := ⟨_, _, _, rfl, by decide, vTb_t 89 (by decide +kernel) (by decide +kernel), rfl⟩
theorem fl_X1_11 : vFl RX1 11 1 1 true := ⟨_, _, _, rfl, by decide, vTb_t 90 (by decide +kernel) (by decide +kernel), rfl⟩
theorem fl_X1_15 : vFl RX1 15 1 2 true := ⟨_, _, _, rfl, by decide, vTb_t 91 (by decide +kernel) (by decide +kernel), rfl⟩
theorem fl_X6_126 : vFl RX6 126 1 2 true := ⟨_, _, _, rfl, by decide, vTb_t 92 (by decide +kernel) (by decide +kernel), rfl⟩
theorem fl_X5_12 : vFl RX5 12 5 0 true := ⟨_, _, _, rfl, by decide, vTb_t 108 (by decide +kernel) (by decide +kernel), rfl⟩
theorem fl_X4_38 : vFl RX4 38 5 0 true := ⟨_, _, _, rfl, by decide, vTb_t 109 (by decide +kernel) (by decide +kernel), rfl⟩
theorem fl_X6_148 : vFl RX6 148 5 0 true := ⟨_, _, _, rfl, by decide, vTb_t 110 (by decide +kernel) (by decide +kernel), rfl⟩
theorem fl_X5_32 : vFl RX5 32 5 1 false := ⟨_, _, _, rfl, by decide, vTb_t 111 (by decide +kernel) (by decide +kernel), rfl⟩
theorem fl_X6_157 : vFl RX6 157 5 1 false := ⟨_, _, _, rfl, by decide, vTb_t 112 (by decide +kernel) (by decide +kernel), rfl⟩
theorem fl_X5_36 : vFl RX5 36 5 2 false := ⟨_, _, _, rfl, by decide, vTb_t 113 (by decide +kernel) (by decide +kernel), rfl⟩
theorem fl_X6_151 : vFl RX6 151 5 2 false := ⟨_, _, _, rfl, by decide, vTb_t 114 (by decide +kernel) (by decide +kernel), rfl⟩
theorem fl_X5_39 : vFl RX5 39 5 3 false := ⟨_, _, _, rfl, by decide, vTb_t 115 (by decide +kernel) (by decide +kernel), rfl⟩
theorem fl_X5_42 : vFl RX5 42 5 4 false := ⟨_, _, _, rfl, by decide, vTb_t 116 (by decide +kernel) (by decide +kernel), rfl⟩
theorem fl_X5_78 : vFl RX5 78 5 5 false := ⟨_, _, _, rfl, by decide, vTb_t 117 (by decide +kernel) (by decide +kernel), rfl⟩
theorem fl_X5_18 : vFl RX5 18 5 6 true := ⟨_, _, _, rfl, by decide, vTb_t 118 (by decide +kernel) (by decide +kernel), rfl⟩
theorem fl_X5_22 : vFl RX5 22 5 7 true := ⟨_, _, _, rfl, by decide, vTb_t 119 (by decide +kernel) (by decide +kernel), rfl⟩
theorem fl_X4_35 : vFl RX4 35 4 0 false := ⟨_, _, _, rfl, by decide, vTb_t 143 (by decide +kernel) (by decide +kernel), rfl⟩
theorem fl_X6_164 : vFl RX6 164 4 0 false := ⟨_, _, _, rfl, by decide, vTb_t 144 (by decide +kernel) (by decide +kernel), rfl⟩
theorem fl_X4_9 : vFl RX4 9 4 1 true := ⟨_, _, _, rfl, by decide, vTb_t 145 (by decide +kernel) (by decide +kernel), rfl⟩
theorem fl_X6_167 : vFl RX6 167 4 1 true := ⟨_, _, _, rfl, by decide, vTb_t 146 (by decide +kernel) (by decide +kernel), rfl⟩
theorem fl_X4_15 : vFl RX4 15 4 2 true := ⟨_, _, _, rfl, by decide, vTb_t 147 (by decide +kernel) (by decide +kernel), rfl⟩
theorem fl_X4_18 : vFl RX4 18 4 3 true := ⟨_, _, _, rfl, by decide, vTb_t 148 (by decide +kernel) (by decide +kernel), rfl⟩
theorem fl_X2_9 : vFl RX2 9 2 0 true := ⟨_, _, _, rfl, by decide, vTb_t 164 (by decide +kernel) (by decide +kernel), rfl⟩
theorem fl_X2_15 : vFl RX2 15 2 1 true := ⟨_, _, _, rfl, by decide, vTb_t 165 (by decide +kernel) (by decide +kernel), rfl⟩
theorem fl_X0_46 : vFl RX0 46 0 0 false := ⟨_, _, _, rfl, by decide, vTb_t 177 (by decide +kernel) (by decide +kernel), rfl⟩
theorem fl_X0_42 : vFl RX0 42 0 1 false := ⟨_, _, _, rfl, by decide, vTb_t 178 (by decide +kernel) (by decide +kernel), rfl⟩
theorem fl_X0_11 : vFl RX0 11 0 2 true := ⟨_, _, _, rfl, by decide, vTb_t 179 (by decide +kernel) (by decide +kernel), rfl⟩
theorem fl_X0_15 : vFl RX0 15 0 3 true := ⟨_, _, _, rfl, by decide, vTb_t 180 (by decide +kernel) (by decide +kernel), rfl⟩
theorem fl_X0_18 : vFl RX0 18 0 4 true := ⟨_, _, _, rfl, by decide, vTb_t 181 (by decide +kernel) (by decide +kernel), rfl⟩
theorem fl_X0_74 : vFl RX0 74 0 5 false := ⟨_, _, _, rfl, by decide, vTb_t 182 (by decide +kernel) (by decide +kernel), rfl⟩
theorem fl_X0_64 : vFl RX0 64 0 6 false := ⟨_, _, _, rfl, by decide, vTb_t 183 (by decide +kernel) (by decide +kernel), rfl⟩
theorem fl_X0_68 : vFl RX0 68 0 7 false := ⟨_, _, _, rfl, by decide, vTb_t 184 (by decide +kernel) (by decide +kernel), rfl⟩
theorem fl_X0_71 : vFl RX0 71 0 8 false := ⟨_, _, _, rfl, by decide, vTb_t 185 (by decide +kernel) (by decide +kernel), rfl⟩
theorem fl_X6_10 : vFl RX6 10 6 0 true := ⟨_, _, _, rfl, by decide, vTb_t 205 (by decide +kernel) (by decide +kernel), rfl⟩
theorem fl_X6_16 : vFl RX6 16 6 1 true := ⟨_, _, _, rfl, by decide, vTb_t 206 (by decide +kernel) (by decide +kernel), rfl⟩
theorem fl_X6_19 : vFl RX6 19 6 2 true := ⟨_, _, _, rfl, by decide, vTb_t 207 (by decide +kernel) (by decide +kernel), rfl⟩
theorem fl_X6_26 : vFl RX6 26 6 3 true := ⟨_, _, _, rfl, by decide, vTb_t 208 (by decide +kernel) (by decide +kernel), rfl⟩
theorem fl_X6_33 : vFl RX6 33 6 4 true := ⟨_, _, _, rfl, by decide, vTb_t 209 (by decide +kernel) (by decide +kernel), rfl⟩
theorem fl_X6_40 : vFl RX6 40 6 5 true := ⟨_, _, _, rfl, by decide, vTb_t 210 (by decide +kernel) (by decide +kernel), rfl⟩
theorem fl_X6_47 : vFl RX6 47 6 6 true := ⟨_, _, _, rfl, by decide, vTb_t 211 (by decide +kernel) (by decide +kernel), rfl⟩
theorem fl_X6_54 : vFl RX6 54 6 7 true := ⟨_, _, _, rfl, by decide, vTb_t 212 (by decide +kernel) (by decide +kernel), rfl⟩
theorem fl_X7_7 : vFl RX7 7 7 0 true := ⟨_, _, _, rfl, by decide, vTb_t 658 (by decide +kernel) (by decide +kernel), rfl⟩
theorem fl_X7_13 : vFl RX7 13 7 1 true := ⟨_, _, _, rfl, by decide, vTb_t 659 (by decide +kernel) (by decide +kernel), rfl⟩
theorem fl_X7_16 : vFl RX7 16 7 2 true := ⟨_, _, _, rfl, by decide, vTb_t 660 (by decide +kernel) (by decide +kernel), rfl⟩
theorem fl_X7_19 : vFl RX7 19 7 3 true := ⟨_, _, _, rfl, by decide, vTb_t 661 (by decide +kernel) (by decide +kernel), rfl⟩
theorem fl_X7_89 : vFl RX7 89 7 4 false := ⟨_, _, _, rfl, by decide, vTb_t 662 (by decide +kernel) (by decide +kernel), rfl⟩
theorem fl_X7_117 : vFl RX7 117 7 5 false := ⟨_, _, _, rfl, by decide, vTb_t 663 (by decide +kernel) (by decide +kernel), rfl⟩
theorem fl_X7_80 : vFl RX7 80 7 6 false := ⟨_, _, _, rfl, by decide, vTb_t 664 (by decide +kernel) (by decide +kernel), rfl⟩
theorem fl_X7_83 : vFl RX7 83 7 7 false := ⟨_, _, _, rfl, by decide, vTb_t 665 (by decide +kernel) (by decide +kernel), rfl⟩
theorem fl_X7_120 : vFl RX7 120 7 8 false := ⟨_, _, _, rfl, by decide, vTb_t 666 (by decide +kernel) (by decide +kernel), rfl⟩
theorem fl_X7_86 : vFl RX7 86 7 9 false := ⟨_, _, _, rfl, by decide, vTb_t 667 (by decide +kernel) (by decide +kernel), rfl⟩
theorem fl_X7_22 : vFl RX7 22 7 10 true := ⟨_, _, _, rfl, by decide, vTb_t 668 (by decide +kernel) (by decide +kernel), rfl⟩
theorem fl_X7_25 : vFl RX7 25 7 11 true := ⟨_, _, _, rfl, by decide, vTb_t 669 (by decide +kernel) (by decide +kernel), rfl⟩
theorem fl_X7_123 : vFl RX7 123 7 12 false := ⟨_, _, _, rfl, by decide, vTb_t 670 (by decide +kernel) (by decide +kernel), rfl⟩
theorem fl_X7_126 : vFl RX7 126 7 13 false := ⟨_, _, _, rfl, by decide, vTb_t 671 (by decide +kernel) (by decide +kernel), rfl⟩
theorem fl_X7_129 : vFl RX7 129 7 14 false := ⟨_, _, _, rfl, by decide, vTb_t 672 (by decide +kernel) (by decide +kernel), rfl⟩
theorem fl_X7_132 : vFl RX7 132 7 15 false := ⟨_, _, _, rfl, by decide, vTb_t 673 (by decide +kernel) (by decide +kernel), rfl⟩
theorem fl_X7_135 : vFl RX7 135 7 16 false := ⟨_, _, _, rfl, by decide, vTb_t 674 (by decide +kernel) (by decide +kernel), rfl⟩
theorem fl_X7_28 : vFl RX7 28 7 17 true := ⟨_, _, _, rfl, by decide, vTb_t 675 (by decide +kernel) (by decide +kernel), rfl⟩
theorem fl_X7_31 : vFl RX7 31 7 18 true := ⟨_, _, _, rfl, by decide, vTb_t 676 (by decide +kernel) (by decide +kernel), rfl⟩
theorem fl_X7_34 : vFl RX7 34 7 19 true := ⟨_, _, _, rfl, by decide, vTb_t 677 (by decide +kernel) (by decide +kernel), rfl⟩
theorem fl_X7_193 : vFl RX7 193 7 20 false := ⟨_, _, _, rfl, by decide, vTb_t 678 (by decide +kernel) (by decide +kernel), rfl⟩
theorem fl_X7_37 : vFl RX7 37 7 21 true := ⟨_, _, _, rfl, by decide, vTb_t 679 (by decide +kernel) (by decide +kernel), rfl⟩
theorem fl_X7_196 : vFl RX7 196 7 22 false := ⟨_, _, _, rfl, by decide, vTb_t 680 (by decide +kernel) (by decide +kernel), rfl⟩
theorem fl_X7_206 : vFl RX7 206 7 23 false := ⟨_, _, _, rfl, by decide, vTb_t 681 (by decide +kernel) (by decide +kernel), rfl⟩
theorem fl_X7_209 : vFl RX7 209 7 24 false := ⟨_, _, _, rfl, by decide, vTb_t 682 (by decide +kernel) (by decide +kernel), rfl⟩
theorem fl_X7_40 : vFl RX7 40 7 25 true := ⟨_, _, _, rfl, by decide, vTb_t 683 (by decide +kernel) (by decide +kernel), rfl⟩
theorem fl_X7_43 : vFl RX7 43 7 26 true := ⟨_, _, _, rfl, by decide, vTb_t 684 (by decide +kernel) (by decide +kernel), rfl⟩
theorem fl_X7_46 : vFl RX7 46 7 27 true := ⟨_, _, _, rfl, by decide, vTb_t 685 (by decide +kernel) (by decide +kernel), rfl⟩
theorem fl_X7_49 : vFl RX7 49 7 28 true := ⟨_, _, _, rfl, by decide, vTb_t 686 (by decide +kernel) (by decide +kernel), rfl⟩
theorem fl_X7_254 : vFl RX7 254 7 29 false := ⟨_, _, _, rfl, by decide, vTb_t 687 (by decide +kernel) (by decide +kernel), rfl⟩
theorem fl_X7_53 : vFl RX7 53 7 30 true := ⟨_, _, _, rfl, by decide, vTb_t 688 (by decide +kernel) (by decide +kernel), rfl⟩
theorem fl_X7_56 : vFl RX7 56 7 31 false := ⟨_, _, _, rfl, by decide, vTb_t 689 (by decide +kernel) (by decide +kernel), rfl⟩
theorem fl_X7_60 : vFl RX7 60 7 32 true := ⟨_, _, _, rfl, by decide, vTb_t 690 (by decide +kernel) (by decide +kernel), rfl⟩
theorem fl_X7_63 : vFl RX7 63 7 33 true := ⟨_, _, _, rfl, by decide, vTb_t 691 (by decide +kernel) (by decide +kernel), rfl⟩
theorem fl_X7_67 : vFl RX7 67 7 34 true := ⟨_, _, _, rfl, by decide, vTb_t 692 (by decide +kernel) (by decide +kernel), rfl⟩
theorem fl_X7_70 : vFl RX7 70 7 35 true := ⟨_, _, _, rfl, by decide, vTb_t 693 (by decide +kernel) (by decide +kernel), rfl⟩
theorem fl_X7_73 : vFl RX7 73 7 36 true := ⟨_, _, _, rfl, by decide, vTb_t 694 (by decide +kernel) (by decide +kernel), rfl⟩
theorem fl_X7_76 : vFl RX7 76 7 37 true := ⟨_, _, _, rfl, by decide, vTb_t 695 (by decide +kernel) (by decide +kernel), rfl⟩
theorem fl_X7_305 : vFl RX7 305 7 38 false := ⟨_, _, _, rfl, by decide, vTb_t 696 (by decide +kernel) (by decide +kernel), rfl⟩
theorem fl_X7_301 : vFl RX7 301 7 39 false := ⟨_, _, _, rfl, by decide, vTb_t 697 (by decide +kernel) (by decide +kernel), rfl⟩
theorem ml_L_9 : Cond.methodLink RL 9 (m_X6_init).1 ∈ vTb := vTb_t 15 (by decide +kernel) (by decide +kernel)
-- no key: SpunPlates 1 ('java/lang/Object', '<init>', '()V')
theorem ml_X6_9 : (RX6, 9, (m_X3_init).1) ∈ vNm := List.mem_of_getElem? (i := 0) rfl
-- no key: SpunPlates$Stage 3 ('java/lang/Object', '<init>', '()V')
-- no key: SpunPlates$Stage 27 ('[I', 'clone', '()Ljava/lang/Object;')
theorem ml_X6_25 : (RX6, 25, (m_X1_init).1) ∈ vNm := List.mem_of_getElem? (i := 1) rfl
-- no key: SpunPlates$Pad 5 ('java/lang/Object', '<init>', '()V')
theorem ml_X6_32 : (RX6, 32, (m_X5_init).1) ∈ vNm := List.mem_of_getElem? (i := 2) rfl
-- no key: SpunPlates$Walker 3 ('java/lang/Object', '<init>', '()V')
theorem ml_X5_11 : (RX5, 11, (m_X3_init).1) ∈ vNm := List.mem_of_getElem? (i := 3) rfl
theorem ml_X6_39 : (RX6, 39, (m_X4_init).1) ∈ vNm := List.mem_of_getElem? (i := 4) rfl
-- no key: SpunPlates$Sticks 3 ('java/lang/Object', '<init>', '()V')
theorem ml_X6_46 : (RX6, 46, (m_X2_init).1) ∈ vNm := List.mem_of_getElem? (i := 5) rfl
-- no key: SpunPlates$SettingUp 3 ('java/lang/Object', '<init>', '()V')
theorem ml_X6_53 : (RX6, 53, (m_X0_init).1) ∈ vNm := List.mem_of_getElem? (i := 6) rfl
-- no key: SpunPlates$AllWays 5 ('java/lang/Object', '<init>', '()V')
theorem ml_L_13 : Cond.methodLink RL 13 (m_X6_plate).1 ∈ vTb := vTb_t 230 (by decide +kernel) (by decide +kernel)
theorem ml_X6_58 : Cond.methodLink RX6 58 (m_X6_within).1 ∈ vTb := vTb_t 234 (by decide +kernel) (by decide +kernel)
theorem ml_X6_62 : Cond.methodLink RX6 62 (m_X3_plateOn).1 ∈ vTb := vTb_t 237 (by decide +kernel) (by decide +kernel)
theorem ml_X6_70 : Cond.methodLink RX6 70 (m_X3_add).1 ∈ vTb := vTb_t 241 (by decide +kernel) (by decide +kernel)
theorem ml_L_18 : Cond.methodLink RL 18 (m_X6_turn).1 ∈ vTb := vTb_t 245 (by decide +kernel) (by decide +kernel)
theorem ml_X6_74 : Cond.methodLink RX6 74 (m_X3_has).1 ∈ vTb := vTb_t 249 (by decide +kernel) (by decide +kernel)
theorem ml_L_23 : Cond.methodLink RL 23 (m_X6_set).1 ∈ vTb := vTb_t 253 (by decide +kernel) (by decide +kernel)
theorem ml_L_27 : Cond.methodLink RL 27 (m_X6_about).1 ∈ vTb := vTb_t 261 (by decide +kernel) (by decide +kernel)
theorem ml_L_31 : Cond.methodLink RL 31 (m_X6_tick).1 ∈ vTb := vTb_t 265 (by decide +kernel) (by decide +kernel)
theorem ml_X6_100 : Cond.methodLink RX6 100 (m_X3_can).1 ∈ vTb := vTb_t 269 (by decide +kernel) (by decide +kernel)
theorem ml_X3_45 : Cond.methodLink RX3 45 (m_X3_plateOn).1 ∈ vTb := vTb_t 273 (by decide +kernel) (by decide +kernel)
theorem ml_X6_103 : Cond.methodLink RX6 103 (m_X3_act).1 ∈ vTb := vTb_t 274 (by decide +kernel) (by decide +kernel)
theorem ml_X3_49 : Cond.methodLink RX3 49 (m_X3_move).1 ∈ vTb := vTb_t 278 (by decide +kernel) (by decide +kernel)
theorem ml_X3_56 : Cond.methodLink RX3 56 (m_J9_min_7cf53).1 ∈ vTb := vTb_t 282 (by decide +kernel) (by decide +kernel)
theorem ml_X3_53 : Cond.methodLink RX3 53 (m_X3_runDown).1 ∈ vTb := vTb_t 285 (by decide +kernel) (by decide +kernel)
theorem ml_X3_62 : Cond.methodLink RX3 62 (m_J9_max_7cf53).1 ∈ vTb := vTb_t 289 (by decide +kernel) (by decide +kernel)
theorem ml_X6_107 : Cond.methodLink RX6 107 (m_X3_standing).1 ∈ vTb := vTb_t 292 (by decide +kernel) (by decide +kernel)
theorem ml_L_36 : Cond.methodLink RL 36 (m_X6_say).1 ∈ vTb := vTb_t 296 (by decide +kernel) (by decide +kernel)
theorem ml_X6_111 : Cond.methodLink RX6 111 (m_X1_add).1 ∈ vTb := vTb_t 300 (by decide +kernel) (by decide +kernel)
theorem ml_L_40 : Cond.methodLink RL 40 (m_X6_wipe).1 ∈ vTb := vTb_t 304 (by decide +kernel) (by decide +kernel)
theorem ml_L_45 : Cond.methodLink RL 45 (m_X6_fault).1 ∈ vTb := vTb_t 308 (by decide +kernel) (by decide +kernel)
theorem ml_X6_116 : Cond.methodLink RX6 116 (m_X1_firstFault).1 ∈ vTb := vTb_t 312 (by decide +kernel) (by decide +kernel)
theorem ml_X1_22 : Cond.methodLink RX1 22 (m_X1_thingOf).1 ∈ vTb := vTb_t 316 (by decide +kernel) (by decide +kernel)
theorem ml_X1_26 : Cond.methodLink RX1 26 (m_X1_isTimes).1 ∈ vTb := vTb_t 319 (by decide +kernel) (by decide +kernel)
theorem ml_L_49 : Cond.methodLink RL 49 (m_X6_judge).1 ∈ vTb := vTb_t 322 (by decide +kernel) (by decide +kernel)
theorem ml_X6_119 : Cond.methodLink RX6 119 (m_X3_copyFrom).1 ∈ vTb := vTb_t 326 (by decide +kernel) (by decide +kernel)
-- no key: SpunPlates$Stage 39 ('java/lang/System', 'arraycopy', '(Ljava/lang/Object;ILjava/lang/Object;II)V')
theorem ml_X6_123 : Cond.methodLink RX6 123 (m_X1_read).1 ∈ vTb := vTb_t 333 (by decide +kernel) (by decide +kernel)
theorem ml_X6_129 : Cond.methodLink RX6 129 (m_X3_sumOfTurns).1 ∈ vTb := vTb_t 337 (by decide +kernel) (by decide +kernel)
theorem ml_L_53 : Cond.methodLink RL 53 (m_X6_show).1 ∈ vTb := vTb_t 341 (by decide +kernel) (by decide +kernel)
theorem ml_L_57 : Cond.methodLink RL 57 (m_X6_lasts).1 ∈ vTb := vTb_t 345 (by decide +kernel) (by decide +kernel)
theorem ml_X6_132 : Cond.methodLink RX6 132 (m_X6_isRule).1 ∈ vTb := vTb_t 349 (by decide +kernel) (by decide +kernel)
theorem ml_X6_135 : Cond.methodLink RX6 135 (m_X5_begin).1 ∈ vTb := vTb_t 352 (by decide +kernel) (by decide +kernel)
theorem ml_X5_25 : Cond.methodLink RX5 25 (m_X3_copyFrom).1 ∈ vTb := vTb_t 356 (by decide +kernel) (by decide +kernel)
theorem ml_X5_29 : Cond.methodLink RX5 29 (m_X5_beginHere).1 ∈ vTb := vTb_t 357 (by decide +kernel) (by decide +kernel)
theorem ml_X5_45 : Cond.methodLink RX5 45 (m_X5_writeLog).1 ∈ vTb := vTb_t 361 (by decide +kernel) (by decide +kernel)
theorem ml_X5_48 : Cond.methodLink RX5 48 (m_X3_packedTurns).1 ∈ vTb := vTb_t 365 (by decide +kernel) (by decide +kernel)
theorem ml_X6_138 : Cond.methodLink RX6 138 (m_X5_ticksToFirstFall).1 ∈ vTb := vTb_t 369 (by decide +kernel) (by decide +kernel)
theorem ml_X5_105 : Cond.methodLink RX5 105 (m_X3_standing).1 ∈ vTb := vTb_t 373 (by decide +kernel) (by decide +kernel)
theorem ml_X5_108 : Cond.methodLink RX5 108 (m_X5_choose).1 ∈ vTb := vTb_t 374 (by decide +kernel) (by decide +kernel)
theorem ml_X5_58 : Cond.methodLink RX5 58 (m_X5_takeGoal).1 ∈ vTb := vTb_t 378 (by decide +kernel) (by decide +kernel)
theorem ml_X5_75 : Cond.methodLink RX5 75 (m_X5_logged).1 ∈ vTb := vTb_t 382 (by decide +kernel) (by decide +kernel)
theorem ml_X5_81 : Cond.methodLink RX5 81 (m_X5_worst).1 ∈ vTb := vTb_t 385 (by decide +kernel) (by decide +kernel)
theorem ml_X5_96 : Cond.methodLink RX5 96 (m_X5_seen).1 ∈ vTb := vTb_t 389 (by decide +kernel) (by decide +kernel)
theorem ml_X5_84 : Cond.methodLink RX5 84 (m_X5_near).1 ∈ vTb := vTb_t 393 (by decide +kernel) (by decide +kernel)
theorem ml_X5_99 : Cond.methodLink RX5 99 (m_X5_far).1 ∈ vTb := vTb_t 397 (by decide +kernel) (by decide +kernel)
theorem ml_X5_87 : Cond.methodLink RX5 87 (m_X5_nextByNumber).1 ∈ vTb := vTb_t 401 (by decide +kernel) (by decide +kernel)
theorem ml_X5_90 : Cond.methodLink RX5 90 (m_X5_leastLeft).1 ∈ vTb := vTb_t 405 (by decide +kernel) (by decide +kernel)
theorem ml_X5_111 : Cond.methodLink RX5 111 (m_X5_act).1 ∈ vTb := vTb_t 409 (by decide +kernel) (by decide +kernel)
theorem ml_X5_65 : Cond.methodLink RX5 65 (m_X3_move).1 ∈ vTb := vTb_t 413 (by decide +kernel) (by decide +kernel)
theorem ml_X5_72 : Cond.methodLink RX5 72 (m_X3_runDown).1 ∈ vTb := vTb_t 414 (by decide +kernel) (by decide +kernel)
theorem ml_X6_141 : Cond.methodLink RX6 141 (m_X6_orNone).1 ∈ vTb := vTb_t 415 (by decide +kernel) (by decide +kernel)
theorem ml_L_61 : Cond.methodLink RL 61 (m_X6_at).1 ∈ vTb := vTb_t 418 (by decide +kernel) (by decide +kernel)
theorem ml_X6_144 : Cond.methodLink RX6 144 (m_X5_choose).1 ∈ vTb := vTb_t 422 (by decide +kernel) (by decide +kernel)
theorem ml_X6_147 : Cond.methodLink RX6 147 (m_X5_act).1 ∈ vTb := vTb_t 423 (by decide +kernel) (by decide +kernel)
theorem ml_L_65 : Cond.methodLink RL 65 (m_X6_round).1 ∈ vTb := vTb_t 424 (by decide +kernel) (by decide +kernel)
theorem ml_X6_154 : Cond.methodLink RX6 154 (m_X5_goUntilItComesAgain).1 ∈ vTb := vTb_t 428 (by decide +kernel) (by decide +kernel)
theorem ml_X5_114 : Cond.methodLink RX5 114 (m_X5_alike).1 ∈ vTb := vTb_t 432 (by decide +kernel) (by decide +kernel)
theorem ml_L_69 : Cond.methodLink RL 69 (m_X6_sticks).1 ∈ vTb := vTb_t 436 (by decide +kernel) (by decide +kernel)
theorem ml_X6_160 : Cond.methodLink RX6 160 (m_X4_find).1 ∈ vTb := vTb_t 440 (by decide +kernel) (by decide +kernel)
theorem ml_X4_27 : Cond.methodLink RX4 27 (m_X4_sortPlaces).1 ∈ vTb := vTb_t 444 (by decide +kernel) (by decide +kernel)
theorem ml_X4_67 : Cond.methodLink RX4 67 (m_X3_plateOn).1 ∈ vTb := vTb_t 448 (by decide +kernel) (by decide +kernel)
theorem ml_X4_31 : (RX4, 31, (m_X6_firstOrder).1) ∈ vNm := List.mem_of_getElem? (i := 7) rfl
theorem ml_X4_44 : Cond.methodLink RX4 44 (m_X3_copyFrom).1 ∈ vTb := vTb_t 452 (by decide +kernel) (by decide +kernel)
theorem ml_X4_50 : Cond.methodLink RX4 50 (m_X5_beginHere).1 ∈ vTb := vTb_t 453 (by decide +kernel) (by decide +kernel)
theorem ml_X4_53 : Cond.methodLink RX4 53 (m_X5_ticksToFirstFall).1 ∈ vTb := vTb_t 454 (by decide +kernel) (by decide +kernel)
-- no key: SpunPlates$Sticks 57 ('java/lang/System', 'arraycopy', '(Ljava/lang/Object;ILjava/lang/Object;II)V')
theorem ml_X4_63 : (RX4, 63, (m_X6_nextOrder).1) ∈ vNm := List.mem_of_getElem? (i := 8) rfl
theorem ml_X6_213 : Cond.methodLink RX6 213 (m_X6_swap).1 ∈ vTb := vTb_t 459 (by decide +kernel) (by decide +kernel)
theorem ml_L_73 : Cond.methodLink RL 73 (m_X6_kept).1 ∈ vTb := vTb_t 462 (by decide +kernel) (by decide +kernel)
theorem ml_X6_170 : Cond.methodLink RX6 170 (m_X0_take).1 ∈ vTb := vTb_t 466 (by decide +kernel) (by decide +kernel)
theorem ml_X0_21 : Cond.methodLink RX0 21 (m_X3_standing).1 ∈ vTb := vTb_t 470 (by decide +kernel) (by decide +kernel)
theorem ml_X0_27 : Cond.methodLink RX0 27 (m_J6_bitCount_0f7a4).1 ∈ vTb := vTb_t 471 (by decide +kernel) (by decide +kernel)
theorem ml_X0_33 : Cond.methodLink RX0 33 (m_J7_fill_53178).1 ∈ vTb := vTb_t 477 (by decide +kernel) (by decide +kernel)
theorem ml_X0_58 : Cond.methodLink RX0 58 (m_X0_shiftOf).1 ∈ vTb := vTb_t 480 (by decide +kernel) (by decide +kernel)
theorem ml_X0_61 : Cond.methodLink RX0 61 (m_X0_makeRows).1 ∈ vTb := vTb_t 483 (by decide +kernel) (by decide +kernel)
theorem ml_X6_174 : Cond.methodLink RX6 174 (m_X0_openPage).1 ∈ vTb := vTb_t 488 (by decide +kernel) (by decide +kernel)
theorem ml_X6_177 : Cond.methodLink RX6 177 (m_X0_measure).1 ∈ vTb := vTb_t 492 (by decide +kernel) (by decide +kernel)
theorem ml_X0_86 : Cond.methodLink RX0 86 (m_X0_isMarked).1 ∈ vTb := vTb_t 496 (by decide +kernel) (by decide +kernel)
theorem ml_X0_90 : Cond.methodLink RX0 90 (m_X0_valueOf).1 ∈ vTb := vTb_t 501 (by decide +kernel) (by decide +kernel)
theorem ml_X0_93 : Cond.methodLink RX0 93 (m_X0_mark).1 ∈ vTb := vTb_t 507 (by decide +kernel) (by decide +kernel)
theorem ml_X0_98 : Cond.methodLink RX0 98 (m_X0_raise).1 ∈ vTb := vTb_t 512 (by decide +kernel) (by decide +kernel)
theorem ml_X0_101 : Cond.methodLink RX0 101 (m_X0_after).1 ∈ vTb := vTb_t 516 (by decide +kernel) (by decide +kernel)
theorem ml_X0_80 : Cond.methodLink RX0 80 (m_J9_min_7cf53).1 ∈ vTb := vTb_t 520 (by decide +kernel) (by decide +kernel)
theorem ml_X0_104 : Cond.methodLink RX0 104 (m_X0_put).1 ∈ vTb := vTb_t 521 (by decide +kernel) (by decide +kernel)
theorem ml_X0_107 : Cond.methodLink RX0 107 (m_X0_isOpen).1 ∈ vTb := vTb_t 525 (by decide +kernel) (by decide +kernel)
theorem ml_X0_110 : Cond.methodLink RX0 110 (m_X0_markPath).1 ∈ vTb := vTb_t 529 (by decide +kernel) (by decide +kernel)
theorem ml_L_77 : Cond.methodLink RL 77 (m_X6_longest).1 ∈ vTb := vTb_t 534 (by decide +kernel) (by decide +kernel)
theorem ml_L_81 : Cond.methodLink RL 81 (m_X6_step).1 ∈ vTb := vTb_t 538 (by decide +kernel) (by decide +kernel)
theorem ml_X6_181 : Cond.methodLink RX6 181 (m_X0_bestThing).1 ∈ vTb := vTb_t 542 (by decide +kernel) (by decide +kernel)
theorem ml_X0_113 : Cond.methodLink RX0 113 (m_X0_openPage).1 ∈ vTb := vTb_t 546 (by decide +kernel) (by decide +kernel)
theorem ml_X0_116 : Cond.methodLink RX0 116 (m_X0_measure).1 ∈ vTb := vTb_t 547 (by decide +kernel) (by decide +kernel)
theorem ml_L_85 : Cond.methodLink RL 85 (m_X6_bow).1 ∈ vTb := vTb_t 548 (by decide +kernel) (by decide +kernel)
theorem ml_X6_184 : Cond.methodLink RX6 184 (m_X0_soonestBow).1 ∈ vTb := vTb_t 552 (by decide +kernel) (by decide +kernel)
theorem ml_X0_119 : Cond.methodLink RX0 119 (m_X0_bears).1 ∈ vTb := vTb_t 556 (by decide +kernel) (by decide +kernel)
theorem ml_X0_123 : Cond.methodLink RX0 123 (m_X0_addUnseen).1 ∈ vTb := vTb_t 560 (by decide +kernel) (by decide +kernel)
theorem ml_L_89 : Cond.methodLink RL 89 (m_X6_gasps).1 ∈ vTb := vTb_t 564 (by decide +kernel) (by decide +kernel)
theorem ml_X6_188 : Cond.methodLink RX6 188 (m_X0_mostWorth).1 ∈ vTb := vTb_t 568 (by decide +kernel) (by decide +kernel)
theorem ml_X0_126 : Cond.methodLink RX0 126 (m_X0_gaspsAt).1 ∈ vTb := vTb_t 572 (by decide +kernel) (by decide +kernel)
theorem ml_X0_129 : Cond.methodLink RX0 129 (m_X0_keepBest).1 ∈ vTb := vTb_t 576 (by decide +kernel) (by decide +kernel)
theorem ml_X0_133 : Cond.methodLink RX0 133 (m_J9_max_7cf53).1 ∈ vTb := vTb_t 580 (by decide +kernel) (by decide +kernel)
theorem ml_X6_191 : Cond.methodLink RX6 191 (m_X0_gaspsOf).1 ∈ vTb := vTb_t 581 (by decide +kernel) (by decide +kernel)
theorem ml_X6_194 : Cond.methodLink RX6 194 (m_X0_firstThingOf).1 ∈ vTb := vTb_t 584 (by decide +kernel) (by decide +kernel)
theorem ml_L_93 : Cond.methodLink RL 93 (m_X6_load).1 ∈ vTb := vTb_t 587 (by decide +kernel) (by decide +kernel)
theorem ml_X6_197 : Cond.methodLink RX6 197 (m_X6_commonDivisor).1 ∈ vTb := vTb_t 591 (by decide +kernel) (by decide +kernel)
theorem ml_L_97 : Cond.methodLink RL 97 (m_X6_setUp).1 ∈ vTb := vTb_t 594 (by decide +kernel) (by decide +kernel)
theorem ml_X6_200 : Cond.methodLink RX6 200 (m_X2_readOrder).1 ∈ vTb := vTb_t 598 (by decide +kernel) (by decide +kernel)
theorem ml_X6_204 : Cond.methodLink RX6 204 (m_X2_leastTurn).1 ∈ vTb := vTb_t 602 (by decide +kernel) (by decide +kernel)
theorem ml_X2_30 : Cond.methodLink RX2 30 (m_J9_abs_0f7a4).1 ∈ vTb := vTb_t 606 (by decide +kernel) (by decide +kernel)
theorem ml_X2_42 : Cond.methodLink RX2 42 (m_J9_min_7cf53).1 ∈ vTb := vTb_t 609 (by decide +kernel) (by decide +kernel)
theorem ml_X2_46 : Cond.methodLink RX2 46 (m_J9_max_7cf53).1 ∈ vTb := vTb_t 610 (by decide +kernel) (by decide +kernel)
theorem ml_L_101 : Cond.methodLink RL 101 (m_X6_bestOrder).1 ∈ vTb := vTb_t 611 (by decide +kernel) (by decide +kernel)
theorem ml_X6_207 : Cond.methodLink RX6 207 (m_X2_findBest).1 ∈ vTb := vTb_t 615 (by decide +kernel) (by decide +kernel)
theorem ml_X2_49 : (RX2, 49, (m_X6_firstOrder).1) ∈ vNm := List.mem_of_getElem? (i := 9) rfl
theorem ml_X2_53 : Cond.methodLink RX2 53 (m_X2_leastTurn).1 ∈ vTb := vTb_t 620 (by decide +kernel) (by decide +kernel)
theorem ml_X2_57 : Cond.methodLink RX2 57 (m_X2_asNumber).1 ∈ vTb := vTb_t 621 (by decide +kernel) (by decide +kernel)
theorem ml_X2_60 : (RX2, 60, (m_X6_nextOrder).1) ∈ vNm := List.mem_of_getElem? (i := 10) rfl
theorem ml_L_105 : Cond.methodLink RL 105 (m_X6_film).1 ∈ vTb := vTb_t 626 (by decide +kernel) (by decide +kernel)
theorem ml_X6_210 : Cond.methodLink RX6 210 (m_X6_ticksLike).1 ∈ vTb := vTb_t 630 (by decide +kernel) (by decide +kernel)
theorem ml_L_109 : Cond.methodLink RL 109 (m_X6_whose).1 ∈ vTb := vTb_t 634 (by decide +kernel) (by decide +kernel)
theorem ml_L_113 : Cond.methodLink RL 113 (m_X6_image).1 ∈ vTb := vTb_t 638 (by decide +kernel) (by decide +kernel)
theorem ml_L_117 : Cond.methodLink RL 117 (m_X6_restore).1 ∈ vTb := vTb_t 642 (by decide +kernel) (by decide +kernel)
theorem ml_L_121 : Cond.methodLink RL 121 (m_X6_told).1 ∈ vTb := vTb_t 646 (by decide +kernel) (by decide +kernel)
theorem ml_L_12 : Cond.methodLink RL 12 (m_X7_init).1 ∈ vTb := vTb_t 652 (by decide +kernel) (by decide +kernel)
-- no key: SpunPlatesModel 1 ('java/lang/Object', '<init>', '()V')
theorem ml_L_17 : Cond.methodLink RL 17 (m_X7_plate).1 ∈ vTb := vTb_t 780 (by decide +kernel) (by decide +kernel)
theorem ml_X7_92 : Cond.methodLink RX7 92 (m_X7_in).1 ∈ vTb := vTb_t 785 (by decide +kernel) (by decide +kernel)
theorem ml_X7_104 : Cond.methodLink RX7 104 (m_X7_plateAt).1 ∈ vTb := vTb_t 791 (by decide +kernel) (by decide +kernel)
theorem ml_L_22 : Cond.methodLink RL 22 (m_X7_turn).1 ∈ vTb := vTb_t 795 (by decide +kernel) (by decide +kernel)
theorem ml_X7_108 : Cond.methodLink RX7 108 (m_X7_isPlate).1 ∈ vTb := vTb_t 799 (by decide +kernel) (by decide +kernel)
theorem ml_L_26 : Cond.methodLink RL 26 (m_X7_set).1 ∈ vTb := vTb_t 803 (by decide +kernel) (by decide +kernel)
theorem ml_X7_114 : Cond.methodLink RX7 114 (m_X7_setNow).1 ∈ vTb := vTb_t 808 (by decide +kernel) (by decide +kernel)
theorem ml_L_30 : Cond.methodLink RL 30 (m_X7_about).1 ∈ vTb := vTb_t 812 (by decide +kernel) (by decide +kernel)
theorem ml_L_35 : Cond.methodLink RL 35 (m_X7_tick).1 ∈ vTb := vTb_t 816 (by decide +kernel) (by decide +kernel)
theorem ml_X7_177 : Cond.methodLink RX7 177 (m_X7_begin).1 ∈ vTb := vTb_t 820 (by decide +kernel) (by decide +kernel)
theorem ml_X7_138 : Cond.methodLink RX7 138 (m_X7_note).1 ∈ vTb := vTb_t 824 (by decide +kernel) (by decide +kernel)
theorem ml_X7_180 : Cond.methodLink RX7 180 (m_X7_can).1 ∈ vTb := vTb_t 828 (by decide +kernel) (by decide +kernel)
theorem ml_X7_141 : Cond.methodLink RX7 141 (m_X7_simHere).1 ∈ vTb := vTb_t 832 (by decide +kernel) (by decide +kernel)
theorem ml_X7_174 : Cond.methodLink RX7 174 (m_X7_doThing).1 ∈ vTb := vTb_t 836 (by decide +kernel) (by decide +kernel)
theorem ml_X7_145 : Cond.methodLink RX7 145 (m_X7_wind).1 ∈ vTb := vTb_t 840 (by decide +kernel) (by decide +kernel)
theorem ml_X7_183 : Cond.methodLink RX7 183 (m_X7_takeOver).1 ∈ vTb := vTb_t 844 (by decide +kernel) (by decide +kernel)
theorem ml_X7_186 : Cond.methodLink RX7 186 (m_X7_standing).1 ∈ vTb := vTb_t 848 (by decide +kernel) (by decide +kernel)
theorem ml_L_39 : Cond.methodLink RL 39 (m_X7_say).1 ∈ vTb := vTb_t 852 (by decide +kernel) (by decide +kernel)
theorem ml_L_44 : Cond.methodLink RL 44 (m_X7_wipe).1 ∈ vTb := vTb_t 858 (by decide +kernel) (by decide +kernel)
theorem ml_L_48 : Cond.methodLink RL 48 (m_X7_fault).1 ∈ vTb := vTb_t 862 (by decide +kernel) (by decide +kernel)
theorem ml_X7_199 : Cond.methodLink RX7 199 (m_X7_thingOf).1 ∈ vTb := vTb_t 866 (by decide +kernel) (by decide +kernel)
theorem ml_L_52 : Cond.methodLink RL 52 (m_X7_judge).1 ∈ vTb := vTb_t 871 (by decide +kernel) (by decide +kernel)
theorem ml_X7_217 : Cond.methodLink RX7 217 (m_X7_fault).1 ∈ vTb := vTb_t 876 (by decide +kernel) (by decide +kernel)
theorem ml_X7_220 : Cond.methodLink RX7 220 (m_X7_judgeAll).1 ∈ vTb := vTb_t 877 (by decide +kernel) (by decide +kernel)
theorem ml_X7_212 : Cond.methodLink RX7 212 (m_X7_simStanding).1 ∈ vTb := vTb_t 881 (by decide +kernel) (by decide +kernel)
theorem ml_X7_223 : Cond.methodLink RX7 223 (m_X7_sumOfTurns).1 ∈ vTb := vTb_t 885 (by decide +kernel) (by decide +kernel)
theorem ml_L_56 : Cond.methodLink RL 56 (m_X7_show).1 ∈ vTb := vTb_t 889 (by decide +kernel) (by decide +kernel)
theorem ml_L_60 : Cond.methodLink RL 60 (m_X7_lasts).1 ∈ vTb := vTb_t 893 (by decide +kernel) (by decide +kernel)
theorem ml_X7_229 : Cond.methodLink RX7 229 (m_X7_isRule).1 ∈ vTb := vTb_t 897 (by decide +kernel) (by decide +kernel)
theorem ml_X7_232 : Cond.methodLink RX7 232 (m_X7_lastsOf).1 ∈ vTb := vTb_t 900 (by decide +kernel) (by decide +kernel)
theorem ml_X7_226 : Cond.methodLink RX7 226 (m_X7_goBy).1 ∈ vTb := vTb_t 904 (by decide +kernel) (by decide +kernel)
theorem ml_X7_171 : Cond.methodLink RX7 171 (m_X7_thingBy).1 ∈ vTb := vTb_t 908 (by decide +kernel) (by decide +kernel)
theorem ml_X7_159 : Cond.methodLink RX7 159 (m_X7_worst).1 ∈ vTb := vTb_t 912 (by decide +kernel) (by decide +kernel)
theorem ml_X7_153 : Cond.methodLink RX7 153 (m_X7_seen).1 ∈ vTb := vTb_t 916 (by decide +kernel) (by decide +kernel)
theorem ml_X7_162 : Cond.methodLink RX7 162 (m_X7_near).1 ∈ vTb := vTb_t 920 (by decide +kernel) (by decide +kernel)
theorem ml_X7_156 : Cond.methodLink RX7 156 (m_X7_far).1 ∈ vTb := vTb_t 924 (by decide +kernel) (by decide +kernel)
theorem ml_X7_149 : Cond.methodLink RX7 149 (m_X7_apart).1 ∈ vTb := vTb_t 928 (by decide +kernel) (by decide +kernel)
theorem ml_X7_165 : Cond.methodLink RX7 165 (m_X7_following).1 ∈ vTb := vTb_t 931 (by decide +kernel) (by decide +kernel)
theorem ml_X7_168 : Cond.methodLink RX7 168 (m_X7_left).1 ∈ vTb := vTb_t 935 (by decide +kernel) (by decide +kernel)
theorem ml_L_64 : Cond.methodLink RL 64 (m_X7_at).1 ∈ vTb := vTb_t 939 (by decide +kernel) (by decide +kernel)
theorem ml_L_68 : Cond.methodLink RL 68 (m_X7_round).1 ∈ vTb := vTb_t 944 (by decide +kernel) (by decide +kernel)
theorem ml_X7_237 : Cond.methodLink RX7 237 (m_X7_isAs).1 ∈ vTb := vTb_t 948 (by decide +kernel) (by decide +kernel)
theorem ml_L_72 : Cond.methodLink RL 72 (m_X7_sticks).1 ∈ vTb := vTb_t 952 (by decide +kernel) (by decide +kernel)
theorem ml_X7_251 : Cond.methodLink RX7 251 (m_X7_findSticks).1 ∈ vTb := vTb_t 956 (by decide +kernel) (by decide +kernel)
theorem ml_X7_241 : Cond.methodLink RX7 241 (m_X7_sortPlaces).1 ∈ vTb := vTb_t 960 (by decide +kernel) (by decide +kernel)
theorem ml_X7_244 : Cond.methodLink RX7 244 (m_X7_layOrder).1 ∈ vTb := vTb_t 964 (by decide +kernel) (by decide +kernel)
theorem ml_X7_247 : Cond.methodLink RX7 247 (m_X7_nextOrder).1 ∈ vTb := vTb_t 968 (by decide +kernel) (by decide +kernel)
theorem ml_L_76 : Cond.methodLink RL 76 (m_X7_kept).1 ∈ vTb := vTb_t 972 (by decide +kernel) (by decide +kernel)
theorem ml_X7_269 : Cond.methodLink RX7 269 (m_X7_findExact).1 ∈ vTb := vTb_t 976 (by decide +kernel) (by decide +kernel)
theorem ml_X7_272 : Cond.methodLink RX7 272 (m_X7_layLives).1 ∈ vTb := vTb_t 980 (by decide +kernel) (by decide +kernel)
theorem ml_X7_260 : Cond.methodLink RX7 260 (m_X7_isState).1 ∈ vTb := vTb_t 984 (by decide +kernel) (by decide +kernel)
theorem ml_X7_257 : Cond.methodLink RX7 257 (m_X7_turnIn).1 ∈ vTb := vTb_t 988 (by decide +kernel) (by decide +kernel)
theorem ml_X7_263 : Cond.methodLink RX7 263 (m_X7_endsIn).1 ∈ vTb := vTb_t 991 (by decide +kernel) (by decide +kernel)
theorem ml_X7_266 : Cond.methodLink RX7 266 (m_X7_nextState).1 ∈ vTb := vTb_t 995 (by decide +kernel) (by decide +kernel)
theorem ml_X7_275 : Cond.methodLink RX7 275 (m_X7_stateNow).1 ∈ vTb := vTb_t 999 (by decide +kernel) (by decide +kernel)
theorem ml_L_80 : Cond.methodLink RL 80 (m_X7_longest).1 ∈ vTb := vTb_t 1003 (by decide +kernel) (by decide +kernel)
theorem ml_L_84 : Cond.methodLink RL 84 (m_X7_step).1 ∈ vTb := vTb_t 1007 (by decide +kernel) (by decide +kernel)
theorem ml_L_88 : Cond.methodLink RL 88 (m_X7_bow).1 ∈ vTb := vTb_t 1011 (by decide +kernel) (by decide +kernel)
theorem ml_X7_280 : Cond.methodLink RX7 280 (m_X7_canBow).1 ∈ vTb := vTb_t 1016 (by decide +kernel) (by decide +kernel)
theorem ml_L_92 : Cond.methodLink RL 92 (m_X7_gasps).1 ∈ vTb := vTb_t 1020 (by decide +kernel) (by decide +kernel)
theorem ml_X7_288 : Cond.methodLink RX7 288 (m_X7_gaspsBy).1 ∈ vTb := vTb_t 1025 (by decide +kernel) (by decide +kernel)
theorem ml_X7_283 : Cond.methodLink RX7 283 (m_X7_gaspsIn).1 ∈ vTb := vTb_t 1029 (by decide +kernel) (by decide +kernel)
theorem ml_L_96 : Cond.methodLink RL 96 (m_X7_load).1 ∈ vTb := vTb_t 1033 (by decide +kernel) (by decide +kernel)
theorem ml_L_100 : Cond.methodLink RL 100 (m_X7_setUp).1 ∈ vTb := vTb_t 1037 (by decide +kernel) (by decide +kernel)
theorem ml_X7_292 : Cond.methodLink RX7 292 (m_X7_layTold).1 ∈ vTb := vTb_t 1041 (by decide +kernel) (by decide +kernel)
theorem ml_X7_295 : Cond.methodLink RX7 295 (m_X7_setUpOf).1 ∈ vTb := vTb_t 1045 (by decide +kernel) (by decide +kernel)
theorem ml_L_104 : Cond.methodLink RL 104 (m_X7_bestOrder).1 ∈ vTb := vTb_t 1049 (by decide +kernel) (by decide +kernel)
theorem ml_L_108 : Cond.methodLink RL 108 (m_X7_film).1 ∈ vTb := vTb_t 1053 (by decide +kernel) (by decide +kernel)
theorem ml_X7_298 : Cond.methodLink RX7 298 (m_X7_likeOf).1 ∈ vTb := vTb_t 1057 (by decide +kernel) (by decide +kernel)
theorem ml_L_112 : Cond.methodLink RL 112 (m_X7_whose).1 ∈ vTb := vTb_t 1061 (by decide +kernel) (by decide +kernel)
theorem ml_L_116 : Cond.methodLink RL 116 (m_X7_image).1 ∈ vTb := vTb_t 1065 (by decide +kernel) (by decide +kernel)
theorem ml_X7_311 : Cond.methodLink RX7 311 (m_X7_passAll).1 ∈ vTb := vTb_t 1069 (by decide +kernel) (by decide +kernel)
theorem ml_X7_308 : Cond.methodLink RX7 308 (m_X7_pass).1 ∈ vTb := vTb_t 1073 (by decide +kernel) (by decide +kernel)
theorem ml_L_120 : Cond.methodLink RL 120 (m_X7_restore).1 ∈ vTb := vTb_t 1077 (by decide +kernel) (by decide +kernel)
theorem ml_L_124 : Cond.methodLink RL 124 (m_X7_told).1 ∈ vTb := vTb_t 1081 (by decide +kernel) (by decide +kernel)
theorem kc_J6_265 : Cond.constant RJ6 265 (1431655765) ∈ vTb := vTb_t 474 (by decide +kernel) (by decide +kernel)
theorem kc_J6_266 : Cond.constant RJ6 266 (858993459) ∈ vTb := vTb_t 475 (by decide +kernel) (by decide +kernel)
theorem kc_J6_267 : Cond.constant RJ6 267 (252645135) ∈ vTb := vTb_t 476 (by decide +kernel) (by decide +kernel)
theorem kc_X0_67 : Cond.constant RX0 67 (32768) ∈ vTb := vTb_t 487 (by decide +kernel) (by decide +kernel)
theorem kc_X0_77 : Cond.constant RX0 77 (131072) ∈ vTb := vTb_t 500 (by decide +kernel) (by decide +kernel)
theorem kc_X0_78 : Cond.constant RX0 78 (65535) ∈ vTb := vTb_t 505 (by decide +kernel) (by decide +kernel)
theorem kc_X0_79 : Cond.constant RX0 79 (65536) ∈ vTb := vTb_t 506 (by decide +kernel) (by decide +kernel)
theorem kc_X0_97 : Cond.constant RX0 97 (163840) ∈ vTb := vTb_t 511 (by decide +kernel) (by decide +kernel)
theorem kc_X6_180 : Cond.constant RX6 180 (65535) ∈ vTb := vTb_t 533 (by decide +kernel) (by decide +kernel)
theorem kc_X7_52 : Cond.constant RX7 52 (32768) ∈ vTb := vTb_t 656 (by decide +kernel) (by decide +kernel)
theorem kc_X7_66 : Cond.constant RX7 66 (65536) ∈ vTb := vTb_t 657 (by decide +kernel) (by decide +kernel)
theorem kl_X7_96 : Cond.constantLong RX7 96 (7) ∈ vTb := vTb_t 784 (by decide +kernel) (by decide +kernel)
theorem kl_X7_98 : Cond.constantLong RX7 98 (2) ∈ vTb := vTb_t 788 (by decide +kernel) (by decide +kernel)
theorem kl_X7_100 : Cond.constantLong RX7 100 (15) ∈ vTb := vTb_t 789 (by decide +kernel) (by decide +kernel)
theorem kl_X7_102 : Cond.constantLong RX7 102 (3) ∈ vTb := vTb_t 790 (by decide +kernel) (by decide +kernel)
theorem kl_X7_112 : Cond.constantLong RX7 112 (4) ∈ vTb := vTb_t 807 (by decide +kernel) (by decide +kernel)
theorem kl_X7_189 : Cond.constantLong RX7 189 (33) ∈ vTb := vTb_t 856 (by decide +kernel) (by decide +kernel)
theorem kl_X7_191 : Cond.constantLong RX7 191 (126) ∈ vTb := vTb_t 857 (by decide +kernel) (by decide +kernel)
theorem kl_X7_202 : Cond.constantLong RX7 202 (50) ∈ vTb := vTb_t 869 (by decide +kernel) (by decide +kernel)
theorem kl_X7_204 : Cond.constantLong RX7 204 (57) ∈ vTb := vTb_t 870 (by decide +kernel) (by decide +kernel)
theorem kl_X7_215 : Cond.constantLong RX7 215 (5) ∈ vTb := vTb_t 875 (by decide +kernel) (by decide +kernel)
theorem kl_X7_235 : Cond.constantLong RX7 235 (600) ∈ vTb := vTb_t 943 (by decide +kernel) (by decide +kernel)
theorem kl_X7_278 : Cond.constantLong RX7 278 (9) ∈ vTb := vTb_t 1015 (by decide +kernel) (by decide +kernel)
theorem kl_X7_286 : Cond.constantLong RX7 286 (30) ∈ vTb := vTb_t 1024 (by decide +kernel) (by decide +kernel)
theorem cl_L_7 : Cond.classLink RL 7 RX6 ∈ vTb := vTb_t 13 (by decide +kernel) (by decide +kernel)
theorem cl_X6_7 : Cond.classLink RX6 7 RX3 ∈ vTb := vTb_t 21 (by decide +kernel) (by decide +kernel)
theorem cl_X6_23 : Cond.classLink RX6 23 RX1 ∈ vTb := vTb_t 82 (by decide +kernel) (by decide +kernel)
theorem cl_X6_30 : Cond.classLink RX6 30 RX5 ∈ vTb := vTb_t 100 (by decide +kernel) (by decide +kernel)
theorem cl_X5_9 : Cond.classLink RX5 9 RX3 ∈ vTb := vTb_t 106 (by decide +kernel) (by decide +kernel)
theorem cl_X6_37 : Cond.classLink RX6 37 RX4 ∈ vTb := vTb_t 137 (by decide +kernel) (by decide +kernel)
theorem cl_X6_44 : Cond.classLink RX6 44 RX2 ∈ vTb := vTb_t 158 (by decide +kernel) (by decide +kernel)
theorem cl_X6_51 : Cond.classLink RX6 51 RX0 ∈ vTb := vTb_t 171 (by decide +kernel) (by decide +kernel)
theorem cl_L_10 : Cond.classLink RL 10 RX7 ∈ vTb := vTb_t 650 (by decide +kernel) (by decide +kernel)
theorem mm_min : Cond.static Lib.Math.min.name ∈ vTb ∧ Cond.initialized "java/lang/Math" ∈ vTb ∧ Cond.code Lib.Math.min.name Lib.Math.min.code 2 (some .int) ∈ vTb := ⟨vTb_t 283 (by decide +kernel) (by decide +kernel), vTb_t 9 (by decide +kernel) (by decide +kernel), vTb_t 284 (by decide +kernel) (by decide +kernel)⟩
theorem mm_max : Cond.static Lib.Math.max.name ∈ vTb ∧ Cond.initialized "java/lang/Math" ∈ vTb ∧ Cond.code Lib.Math.max.name Lib.Math.max.code 2 (some .int) ∈ vTb := ⟨vTb_t 290 (by decide +kernel) (by decide +kernel), vTb_t 9 (by decide +kernel) (by decide +kernel), vTb_t 291 (by decide +kernel) (by decide +kernel)⟩
theorem mm_abs : Cond.static Lib.Math.abs.name ∈ vTb ∧ Cond.initialized "java/lang/Math" ∈ vTb ∧ Cond.code Lib.Math.abs.name Lib.Math.abs.code 1 (some .int) ∈ vTb := ⟨vTb_t 607 (by decide +kernel) (by decide +kernel), vTb_t 9 (by decide +kernel) (by decide +kernel), vTb_t 608 (by decide +kernel) (by decide +kernel)⟩
theorem mm_oi : Cond.instanceMethod Lib.objectInit ∈ vTb ∧ Cond.code Lib.objectInit ⟨#[0xb1]⟩ 1 none ∈ vTb := ⟨vTb_t 19 (by decide +kernel) (by decide +kernel), vTb_t 20 (by decide +kernel) (by decide +kernel)⟩
theorem mm_ac : Cond.native arraycopyName ∈ vTb ∧ Cond.static arraycopyName ∈ vTb ∧ Cond.initialized "java/lang/System" ∈ vTb := ⟨vTb_t 332 (by decide +kernel) (by decide +kernel), vTb_t 331 (by decide +kernel) (by decide +kernel), vTb_t 10 (by decide +kernel) (by decide +kernel)⟩
theorem ml_X6_1 : Cond.methodLink RX6 1 Lib.objectInit ∈ vTb := vTb_t 18 (by decide +kernel) (by decide +kernel)
theorem ml_X3_3 : Cond.methodLink RX3 3 Lib.objectInit ∈ vTb := vTb_t 26 (by decide +kernel) (by decide +kernel)
theorem ml_X1_5 : Cond.methodLink RX1 5 Lib.objectInit ∈ vTb := vTb_t 87 (by decide +kernel) (by decide +kernel)
theorem ml_X5_3 : Cond.methodLink RX5 3 Lib.objectInit ∈ vTb := vTb_t 105 (by decide +kernel) (by decide +kernel)
theorem ml_X4_3 : Cond.methodLink RX4 3 Lib.objectInit ∈ vTb := vTb_t 142 (by decide +kernel) (by decide +kernel)
theorem ml_X2_3 : Cond.methodLink RX2 3 Lib.objectInit ∈ vTb := vTb_t 163 (by decide +kernel) (by decide +kernel)
theorem ml_X0_5 : Cond.methodLink RX0 5 Lib.objectInit ∈ vTb := vTb_t 176 (by decide +kernel) (by decide +kernel)
theorem ml_X3_39 : Cond.methodLink RX3 39 arraycopyName ∈ vTb := vTb_t 330 (by decide +kernel) (by decide +kernel)
theorem ml_X4_57 : Cond.methodLink RX4 57 arraycopyName ∈ vTb := vTb_t 455 (by decide +kernel) (by decide +kernel)
theorem ml_X7_1 : Cond.methodLink RX7 1 Lib.objectInit ∈ vTb := vTb_t 655 (by decide +kernel) (by decide +kernel)
theorem ac_int : Cond.arrayClass .int ∈ vTb := vTb_t 80 (by decide +kernel) (by decide +kernel)
theorem ac_bool : Cond.arrayClass .boolean ∈ vTb := vTb_t 779 (by decide +kernel) (by decide +kernel)
end
section
/-! ===== own: V: calls and ends in the form that the walks use ===== -/
section VD
variable {mt mt' : vMt} {d0 dF : List Nat} {Q : Option vA → vT → vM → Prop} {P : Int → vT → vM → Prop} {Pv : vT → vM → Prop} {pc idx n : Nat} {L : List (Option vA)} {S rest As : List vA} {d : List Nat} {T : vT} {M : vM}
/-- the room is there, as long as the walk goes on -/
theorem vV.withLe (h : vLe d d dF → vV mt d0 dF Q pc L S d T M) : vV mt d0 dF Q pc L S d T M := by
  intro l p e s m args below meth c D q A ρ0 ρ H locs ls hX hS hl hL hs hn
  exact h ⟨Nat.le_refl _, Nat.le_refl _, hn.2.2⟩ l p e s m args below meth c D q A ρ0 ρ H locs ls hX hS hl hL hs hn
theorem vV.cVi {b ci : Nat} (hd : decode mt.2.1 pc = .ok (.invokevirtual idx, 3)) (hlk : Cond.methodLink mt.1.cls idx mt'.1 ∈ vTb) (hw : vCw mt' n) (hw2 : Cond.instanceMethod mt'.1 ∈ vTb ∧ Cond.selects mt'.1.cls mt'.1 mt'.1 ∈ vTb) (hb0 : vKK b = (0, ci)) (hC : (vCl[ci]?).map (fun q => q.1) = some mt'.1.cls) (hrm : vRoom mt mt')
    (hc : vCon mt' d d (vR b :: As) T M (vPi P)) (hlen : As.length = n) (hS0 : S = As.reverse ++ vR b :: rest) (hcat : (rest.map vCat).sum ≤ 8) (kk : ∀ x T' M', vIn x → P x T' M' → vV mt d0 dF Q (pc + 3) L (vI x :: rest) d T' M') : vV mt d0 dF Q pc L S d T M :=
  vV.withLe fun hle => vV.callV hd hlk hw hw2 hb0 hC hc hlen hS0 hrm hcat hle (fun r T' M' h => by obtain ⟨x, rfl, h1, h2⟩ := h; exact kk x T' M' h1 h2)
theorem vV.cVv {b ci : Nat} (hd : decode mt.2.1 pc = .ok (.invokevirtual idx, 3)) (hlk : Cond.methodLink mt.1.cls idx mt'.1 ∈ vTb) (hw : vCw mt' n) (hw2 : Cond.instanceMethod mt'.1 ∈ vTb ∧ Cond.selects mt'.1.cls mt'.1 mt'.1 ∈ vTb) (hb0 : vKK b = (0, ci)) (hC : (vCl[ci]?).map (fun q => q.1) = some mt'.1.cls) (hrm : vRoom mt mt')
    (hc : vCon mt' d d (vR b :: As) T M (vPv Pv)) (hlen : As.length = n) (hS0 : S = As.reverse ++ vR b :: rest) (hcat : (rest.map vCat).sum ≤ 8) (kk : ∀ T' M', Pv T' M' → vV mt d0 dF Q (pc + 3) L rest d T' M') : vV mt d0 dF Q pc L S d T M :=
  vV.withLe fun hle => vV.callV hd hlk hw hw2 hb0 hC hc hlen hS0 hrm hcat hle (fun r T' M' h => by obtain ⟨rfl, h2⟩ := h; exact kk T' M' h2)
theorem vV.cSi (hd : decode mt.2.1 pc = .ok (.invokestatic idx, 3)) (hlk : Cond.methodLink mt.1.cls idx mt'.1 ∈ vTb) (hw : vCw mt' n) (hw2 : Cond.static mt'.1 ∈ vTb) (hrm : vRoom mt mt')
    (hc : vCon mt' d d As T M (vPi P)) (hlen : As.length = n) (hS0 : S = As.reverse ++ rest) (hcat : (rest.map vCat).sum ≤ 8) (kk : ∀ x T' M', vIn x → P x T' M' → vV mt d0 dF Q (pc + 3) L (vI x :: rest) d T' M') : vV mt d0 dF Q pc L S d T M :=
  vV.withLe fun hle => vV.callS hd hlk hw hw2 hc hlen hS0 hrm hcat hle (fun r T' M' h => by obtain ⟨x, rfl, h1, h2⟩ := h; exact kk x T' M' h1 h2)
theorem vV.cSv (hd : decode mt.2.1 pc = .ok (.invokestatic idx, 3)) (hlk : Cond.methodLink mt.1.cls idx mt'.1 ∈ vTb) (hw : vCw mt' n) (hw2 : Cond.static mt'.1 ∈ vTb) (hrm : vRoom mt mt')
    (hc : vCon mt' d d As T M (vPv Pv)) (hlen : As.length = n) (hS0 : S = As.reverse ++ rest) (hcat : (rest.map vCat).sum ≤ 8) (kk : ∀ T' M', Pv T' M' → vV mt d0 dF Q (pc + 3) L rest d T' M') : vV mt d0 dF Q pc L S d T M :=
  vV.withLe fun hle => vV.callS hd hlk hw hw2 hc hlen hS0 hrm hcat hle (fun r T' M' h => by obtain ⟨rfl, h2⟩ := h; exact kk T' M' h2)
theorem vV.cNi (hd : decode mt.2.1 pc = .ok (.invokestatic idx, 3)) (hlk : (mt.1.cls, idx, mt'.1) ∈ vNm) (hw : vCw mt' n) (hw2 : Cond.static mt'.1 ∈ vTb) (hrm : vRoom mt mt')
    (hc : vCon mt' d d As T M (vPi P)) (hlen : As.length = n) (hS0 : S = As.reverse ++ rest) (hcat : (rest.map vCat).sum ≤ 8) (kk : ∀ x T' M', vIn x → P x T' M' → vV mt d0 dF Q (pc + 3) L (vI x :: rest) d T' M') : vV mt d0 dF Q pc L S d T M :=
  vV.withLe fun hle => vV.callSN hd hlk hw hw2 hc hlen hS0 hrm hcat hle (fun r T' M' h => by obtain ⟨x, rfl, h1, h2⟩ := h; exact kk x T' M' h1 h2)
theorem vV.cNv (hd : decode mt.2.1 pc = .ok (.invokestatic idx, 3)) (hlk : (mt.1.cls, idx, mt'.1) ∈ vNm) (hw : vCw mt' n) (hw2 : Cond.static mt'.1 ∈ vTb) (hrm : vRoom mt mt')
    (hc : vCon mt' d d As T M (vPv Pv)) (hlen : As.length = n) (hS0 : S = As.reverse ++ rest) (hcat : (rest.map vCat).sum ≤ 8) (kk : ∀ T' M', Pv T' M' → vV mt d0 dF Q (pc + 3) L rest d T' M') : vV mt d0 dF Q pc L S d T M :=
  vV.withLe fun hle => vV.callSN hd hlk hw hw2 hc hlen hS0 hrm hcat hle (fun r T' M' h => by obtain ⟨rfl, h2⟩ := h; exact kk T' M' h2)
/-- what is known of a number on the stack -/
theorem vV.rngS {x : Int} (k : vIn x → vV mt d0 dF Q pc L (vI x :: S) d T M) : vV mt d0 dF Q pc L (vI x :: S) d T M := by
  intro l p e s m args below meth c D q A ρ0 ρ H locs ls hX hS hl hL hs hn
  exact k (vOk_h hs) l p e s m args below meth c D q A ρ0 ρ H locs ls hX hS hl hL hs hn
theorem vV.ri {x : Int} (hd : decode mt.2.1 pc = .ok (.ireturn, 1)) (hr : mt.2.2.2.1 = some .int) (hq : P x T M) : vV mt d0 d (vPi P) pc L [vI x] d T M := vV.rngS fun h => vV.iret hd hr ⟨x, rfl, h, hq⟩
theorem vV.rz {x : Int} (hd : decode mt.2.1 pc = .ok (.ireturn, 1)) (hr : mt.2.2.2.1 = some .boolean) (h01 : x = 0 ∨ x = 1) (hq : P x T M) : vV mt d0 d (vPi P) pc L [vI x] d T M := vV.rngS fun h => vV.zret hd hr h01 ⟨x, rfl, h, hq⟩
theorem vV.rv (hd : decode mt.2.1 pc = .ok (.return_, 1)) (hr : mt.2.2.2.1 = none) (hq : Pv T M) : vV mt d0 d (vPv Pv) pc L [] d T M := vV.vret hd hr ⟨rfl, hq⟩
/-- a contract of which more is said in other words -/
theorem vCon.imp {As : List vA} {P' : Int → vT → vM → Prop} (h : vCon mt d dF As T M (vPi P)) (hi : ∀ x T' M', P x T' M' → P' x T' M') : vCon mt d dF As T M (vPi P') := by
  intro l D q ρ sz hok hle
  have h1 := h l D q ρ sz hok hle
  intro p e ha hc hk s m args below hf hap hP hK
  obtain ⟨k, o, a1, a2, a3, a4, a5⟩ := h1 p e ha hc hk s m args below hf hap hP hK
  refine ⟨k, o, a1, a2, a3, ?_, a5⟩
  obtain ⟨⟨r, T', M', ρ', b1, ⟨x, b2, b3, b4⟩, b5⟩, b6⟩ := a4
  exact ⟨⟨r, T', M', ρ', b1, ⟨x, b2, b3, hi _ _ _ b4⟩, b5⟩, b6⟩
end VD
end
section
/-! ===== own: bits of small numbers; a loop upward ===== -/
theorem i32_nat (n : Nat) : Int32.ofInt (n : Int) = nI n := Int32.ofInt_eq_ofNat
theorem s_l' : ∀ n, n < 32 → ((nI n &&& 31).toBitVec.smod 32).toNat = n := by decide +kernel
theorem nI_or (a b : Nat) : nI a ||| nI b = nI (a ||| b) := by
  apply Int32.toBitVec_inj.mp
  rw [Int32.toBitVec_or]
  show BitVec.ofNat 32 a ||| BitVec.ofNat 32 b = BitVec.ofNat 32 (a ||| b)
  exact (BitVec.ofNat_or ..).symm
theorem vOr_nat {a b : Nat} (ha : a < 2 ^ 31) (hb : b < 2 ^ 31) : vOr a b = ((a ||| b : Nat) : Int) := by
  unfold vOr
  rw [i32_nat, i32_nat, nI_or, nI_toInt (Nat.or_lt_two_pow ha hb)]
theorem vOr_sum {a k : Nat} (b : Nat) (ha : a < 2 ^ k) (h : 2 ^ k * b + a < 2 ^ 31) : vOr a ((2 ^ k * b : Nat) : Int) = ((2 ^ k * b + a : Nat) : Int) := by
  rw [vOr_nat (by omega) (by omega), Nat.or_comm]
  congr 1
  rw [Nat.mul_comm, ← Nat.shiftLeft_eq]
  exact (Nat.shiftLeft_add_eq_or_of_lt ha b).symm
theorem vShl_nat {x k : Nat} (hk : k < 32) (h : x * 2 ^ k < 2 ^ 31) : vShl x k = ((x * 2 ^ k : Nat) : Int) := by
  unfold vShl
  rw [i32_nat, i32_nat, pk_shlN (nI k &&& 31) k (s_l' k hk) (by omega), nI_toInt h]
theorem vShr_nat {x k : Nat} (hk : k < 32) (h : x < 2 ^ 31) : vShr x k = ((x / 2 ^ k : Nat) : Int) := by
  unfold vShr
  have h2 : x / 2 ^ k ≤ x := Nat.div_le_self _ _
  rw [i32_nat, i32_nat, pk_shrN h (nI k &&& 31) k (s_l' k hk), nI_toInt (by omega)]
theorem vAnd_nat {x : Nat} (k : Nat) (hk : k ≤ 31) (h : x < 2 ^ 31) : vAnd x ((2 ^ k - 1 : Nat) : Int) = ((x % 2 ^ k : Nat) : Int) := by
  unfold vAnd
  have h2 : x % 2 ^ k ≤ x := Nat.mod_le _ _
  have hp : 2 ^ k ≤ 2 ^ 31 := Nat.pow_le_pow_right (by decide) hk
  rw [i32_nat, i32_nat, pk_andN (by omega) k (pk_tn (by omega)), nI_toInt (by omega)]
/-- a loop that counts up to n -/
theorem vUp {n : Nat} {C : Nat → Prop} (st : ∀ p, p ≤ n → (p < n → C (p + 1)) → C p) : ∀ p, p ≤ n → C p := by
  intro p hp
  obtain ⟨k, hk⟩ : ∃ k, n - p = k := ⟨_, rfl⟩
  induction k generalizing p with
  | zero => exact st p hp (fun h => by omega)
  | succ k ih => exact st p hp (fun h => ih (p + 1) (by omega) (by omega))
/-- a loop with a measure -/
theorem vDn {σ : Type} (μ : σ → Nat) {C : σ → Prop} (st : ∀ s, (∀ s', μ s' < μ s → C s') → C s) : ∀ s, C s := by
  intro s
  obtain ⟨k, hk⟩ : ∃ k, μ s = k := ⟨_, rfl⟩
  induction k using Nat.strongRecOn generalizing s with
  | _ k ih => exact st s (fun s' h => ih (μ s') (by omega) s' rfl)
end
section
/-! ===== own: rows of the store ===== -/
/-- the row k is f -/
def vRow (M : vM) (k : Nat) (f : Int → Int) : vM := fun a => if a = k then f else M a
def fSet (f : Int → Int) (i x : Int) : Int → Int := fun j => if j = i then x else f j
theorem vRow_s (M : vM) (k : Nat) (f : Int → Int) : vRow M k f k = f := if_pos rfl
theorem vRow_n {M : vM} {k a : Nat} {f : Int → Int} (h : a ≠ k) : vRow M k f a = M a := if_neg h
theorem vRow_id (M : vM) (k : Nat) : vRow M k (M k) = M := by funext a; unfold vRow; split <;> simp_all
theorem vRow_vRow (M : vM) (k : Nat) (f g : Int → Int) : vRow (vRow M k f) k g = vRow M k g := by funext a; unfold vRow; split <;> rfl
theorem vUpd_r (M : vM) (k : Nat) (i x : Int) : vUpd M k i x = vRow M k (fSet (M k) i x) := by
  funext a j; unfold vUpd vRow fSet; by_cases h : a = k <;> simp [h]
theorem vUpd_vRow (M : vM) (k : Nat) (f : Int → Int) (i x : Int) : vUpd (vRow M k f) k i x = vRow M k (fSet f i x) := by rw [vUpd_r, vRow_vRow, vRow_s]
theorem vRow_comm {M : vM} {k k' : Nat} {f g : Int → Int} (h : k ≠ k') : vRow (vRow M k f) k' g = vRow (vRow M k' g) k f := by
  funext a; unfold vRow
  by_cases h1 : a = k' <;> by_cases h2 : a = k <;> simp_all
theorem fSet_s (f : Int → Int) (i x : Int) : fSet f i x i = x := if_pos rfl
theorem fSet_n {f : Int → Int} {i j x : Int} (h : j ≠ i) : fSet f i x j = f j := if_neg h
theorem fSet_id (f : Int → Int) (i : Int) : fSet f i (f i) = f := by funext j; unfold fSet; split <;> simp_all
theorem fSet_fSet (f : Int → Int) (i x y : Int) : fSet (fSet f i x) i y = fSet f i y := by funext j; unfold fSet; split <;> rfl
theorem vUpd_s (M : vM) (k : Nat) (i x : Int) : vUpd M k i x k i = x := if_pos ⟨rfl, rfl⟩
theorem vUpd_nk {M : vM} {k a : Nat} {i j x : Int} (h : a ≠ k) : vUpd M k i x a j = M a j := if_neg (fun z => h z.1)
theorem vUpd_ni {M : vM} {k a : Nat} {i j x : Int} (h : j ≠ i) : vUpd M k i x a j = M a j := if_neg (fun z => h z.2)
theorem vCpy_r (M : vM) (a b : Nat) (n : Int) : vCpy M a 0 b 0 n = vRow M b (fun j => if 0 ≤ j ∧ j < n then M a j else M b j) := by
  funext k j; unfold vCpy vRow
  by_cases h : k = b
  · subst h; simp
  · simp [h]
end
section
/-! ===== own: Stage: the pure words ===== -/
/-- the Stage of the name a: its kinds and its rows -/
def sgK (a : Nat) : Prop := vKK a = (0, 3) ∧ vKK (a + 1) = (1, 6) ∧ vKK (a + 2) = (1, 6) ∧ vKK (a + 3) = (1, 6) ∧ vKK (a + 4) = (1, 6) ∧ vKK (a + 5) = (1, 5)
def sgT (T : vT) (a : Nat) : Prop := T a 1 = some (a + 1) ∧ T a 2 = some (a + 2) ∧ T a 3 = some (a + 3) ∧ T a 4 = some (a + 4) ∧ T a 5 = some (a + 5)
/-- the first place below n of which P holds -/
def pFind (P : Nat → Bool) : Nat → Option Nat
  | 0 => none
  | n + 1 => match pFind P n with
    | some p => some p
    | none => if P n then some n else none
theorem pFind_some {P : Nat → Bool} : ∀ {n p : Nat}, pFind P n = some p → p < n ∧ P p = true ∧ ∀ j, j < p → P j = false
  | 0, p, h => by cases h
  | n + 1, p, h => by
    unfold pFind at h
    cases hf : pFind P n with
    | some q => rw [hf] at h; cases h; have := pFind_some hf; exact ⟨by omega, this.2⟩
    | none =>
      rw [hf] at h
      simp only at h
      split at h
      · cases h; rename_i hp; exact ⟨by omega, hp, fun j hj => pFind_none hf j hj⟩
      · cases h
where pFind_none {P : Nat → Bool} : ∀ {n : Nat}, pFind P n = none → ∀ j, j < n → P j = false
  | 0, _, j, hj => by omega
  | n + 1, h, j, hj => by
    unfold pFind at h
    cases hf : pFind P n with
    | some q => rw [hf] at h; cases h
    | none =>
      rw [hf] at h
      simp only at h
      split at h
      · cases h
      · rename_i hp
        by_cases hjn : j = n
        · subst hjn; simpa using hp
        · exact pFind_none hf j (by omega)
theorem pFind_no {P : Nat → Bool} {n : Nat} (h : ∀ j, j < n → P j = false) : pFind P n = none := by
  induction n with
  | zero => rfl
  | succ n ih => unfold pFind; rw [ih (fun j hj => h j (by omega))]; simp [h n (by omega)]
theorem pFind_yes {P : Nat → Bool} {n p : Nat} (hp : p < n) (h : P p = true) (hj : ∀ j, j < p → P j = false) : pFind P n = some p := by
  induction n with
  | zero => omega
  | succ n ih =>
    unfold pFind
    by_cases hn : p = n
    · subst hn; rw [pFind_no hj]; simp [h]
    · rw [ih (by omega)]
def pOr (d : Int) (r : Option Nat) : Int := match r with
  | some p => p
  | none => d
theorem pOr_s (d : Int) (p : Nat) : pOr d (some p) = p := rfl
theorem pOr_n (d : Int) : pOr d none = d := rfl
/-- the plates that stand, as bits -/
def pBits (tu : Int → Int) : Nat → Int
  | 0 => 0
  | n + 1 => pBits tu n + if 0 < tu n then 2 ^ n else 0
def pSum (tu : Int → Int) : Nat → Int
  | 0 => 0
  | n + 1 => pSum tu n + tu n
def pPack (tu : Int → Int) : Nat → Int
  | 0 => 0
  | n + 1 => pPack tu n + tu n * 16 ^ n
def pDown (n : Nat) (fa tu : Int → Int) : Int → Int := fun j => if 0 ≤ j ∧ j < n then max 0 (tu j - fa j) else tu j
theorem dX3_has_0 : decode cX3_has 0 = .ok (.iload_n 1, 1) := by decide +kernel
theorem dX3_has_1 : decode cX3_has 1 = .ok (.ifCond .lt 15, 3) := by decide +kernel
theorem dX3_has_4 : decode cX3_has 4 = .ok (.iload_n 1, 1) := by decide +kernel
theorem dX3_has_5 : decode cX3_has 5 = .ok (.aload_n 0, 1) := by decide +kernel
theorem dX3_has_6 : decode cX3_has 6 = .ok (.getfield 35, 3) := by decide +kernel
theorem dX3_has_9 : decode cX3_has 9 = .ok (.if_icmp .ge 7, 3) := by decide +kernel
theorem dX3_has_12 : decode cX3_has 12 = .ok (.iconst 1, 1) := by decide +kernel
theorem dX3_has_13 : decode cX3_has 13 = .ok (.goto 4, 3) := by decide +kernel
theorem dX3_has_16 : decode cX3_has 16 = .ok (.iconst 0, 1) := by decide +kernel
theorem dX3_has_17 : decode cX3_has 17 = .ok (.ireturn, 1) := by decide +kernel
/-- Stage.has -/
theorem c_X3_has {d : List Nat} {T : vT} {M : vM} {a : Nat} {p : Int} (hK : sgK a) : vCon m_X3_has d d [vR a, vI p] T M (vPi fun x T' M' => x = (if 0 ≤ p ∧ p < M a 0 then 1 else 0) ∧ T = T' ∧ M = M') := by
  obtain ⟨k0, k1, k2, k3, k4, k5⟩ := hK
  refine vCon.of (by decide) rfl rfl (Nat.le_of_ble_eq_true rfl) ?_
  refine vV.iload_n dX3_has_0 rfl ?_
  refine vV.if_lt (tgt := 16) dX3_has_1 (by decide) (fun h1 => ?_) (fun h1 => ?_)
  · skip
    refine vV.iconst dX3_has_16 (by decide) ?_
    refine vV.rz dX3_has_17 rfl (by first | exact Or.inl rfl | exact Or.inr rfl | assumption) ?_
    refine ⟨?_, rfl, rfl⟩
    first | rw [if_pos (by omega)] | rw [if_neg (by omega)]
  · skip
    refine vV.iload_n dX3_has_4 rfl ?_
    refine vV.aload_n dX3_has_5 rfl ?_
    refine vV.geti (z := 0) dX3_has_6 fl_X3_35 (by first | rfl | assumption) rfl rfl ?_
    refine vV.icmp_ge (tgt := 16) dX3_has_9 (by decide) (fun h9 => ?_) (fun h9 => ?_)
    · skip
      refine vV.iconst dX3_has_16 (by decide) ?_
      refine vV.rz dX3_has_17 rfl (by first | exact Or.inl rfl | exact Or.inr rfl | assumption) ?_
      refine ⟨?_, rfl, rfl⟩
      first | rw [if_pos (by omega)] | rw [if_neg (by omega)]
    · skip
      refine vV.iconst dX3_has_12 (by decide) ?_
      refine vV.goto (tgt := 17) dX3_has_13 (by decide) ?_
      refine vV.rz dX3_has_17 rfl (by first | exact Or.inl rfl | exact Or.inr rfl | assumption) ?_
      refine ⟨?_, rfl, rfl⟩
      first | rw [if_pos (by omega)] | rw [if_neg (by omega)]
theorem dX3_plateOn_0 : decode cX3_plateOn 0 = .ok (.iconst 0, 1) := by decide +kernel
theorem dX3_plateOn_1 : decode cX3_plateOn 1 = .ok (.istore_n 2, 1) := by decide +kernel
theorem dX3_plateOn_2 : decode cX3_plateOn 2 = .ok (.iload_n 2, 1) := by decide +kernel
theorem dX3_plateOn_3 : decode cX3_plateOn 3 = .ok (.aload_n 0, 1) := by decide +kernel
theorem dX3_plateOn_4 : decode cX3_plateOn 4 = .ok (.getfield 35, 3) := by decide +kernel
theorem dX3_plateOn_7 : decode cX3_plateOn 7 = .ok (.if_icmp .ge 21, 3) := by decide +kernel
theorem dX3_plateOn_10 : decode cX3_plateOn 10 = .ok (.aload_n 0, 1) := by decide +kernel
theorem dX3_plateOn_11 : decode cX3_plateOn 11 = .ok (.getfield 9, 3) := by decide +kernel
theorem dX3_plateOn_14 : decode cX3_plateOn 14 = .ok (.iload_n 2, 1) := by decide +kernel
theorem dX3_plateOn_15 : decode cX3_plateOn 15 = .ok (.iaload, 1) := by decide +kernel
theorem dX3_plateOn_16 : decode cX3_plateOn 16 = .ok (.iload_n 1, 1) := by decide +kernel
theorem dX3_plateOn_17 : decode cX3_plateOn 17 = .ok (.if_icmp .ne 5, 3) := by decide +kernel
theorem dX3_plateOn_20 : decode cX3_plateOn 20 = .ok (.iload_n 2, 1) := by decide +kernel
theorem dX3_plateOn_21 : decode cX3_plateOn 21 = .ok (.ireturn, 1) := by decide +kernel
theorem dX3_plateOn_22 : decode cX3_plateOn 22 = .ok (.iinc 2 1, 3) := by decide +kernel
theorem dX3_plateOn_25 : decode cX3_plateOn 25 = .ok (.goto (-23), 3) := by decide +kernel
theorem dX3_plateOn_28 : decode cX3_plateOn 28 = .ok (.iconst (-1), 1) := by decide +kernel
theorem dX3_plateOn_29 : decode cX3_plateOn 29 = .ok (.ireturn, 1) := by decide +kernel
theorem l_X3_plateOn {d : List Nat} {T : vT} {M : vM} {a n : Nat} {x : Int} (hK : sgK a) (hT : sgT T a) (hc : M a 0 = n) (hn : n ≤ 6) : ∀ p, p ≤ n → (∀ j : Nat, j < p → M (a + 1) j ≠ x) →
    vV m_X3_plateOn d d (vPi fun r T' M' => r = pOr (-1) (pFind (fun j => decide (M (a + 1) j = x)) n) ∧ T = T' ∧ M = M') 2 [some (vR a), some (vI x), some (vI p)] [] d T M := by
  obtain ⟨k0, k1, k2, k3, k4, k5⟩ := hK
  obtain ⟨t1, t2, t3, t4, t5⟩ := hT
  refine vUp ?_
  intro p h2 ih hp
  refine vV.iload_n dX3_plateOn_2 rfl ?_
  refine vV.aload_n dX3_plateOn_3 rfl ?_
  refine vV.geti (z := 0) dX3_plateOn_4 fl_X3_35 (by first | rfl | assumption) rfl rfl ?_
  refine vV.icmp_ge (tgt := 28) dX3_plateOn_7 (by decide) (fun h7 => ?_) (fun h7 => ?_)
  · skip
    refine vV.iconst dX3_plateOn_28 (by decide) ?_
    refine vV.ri dX3_plateOn_29 rfl ?_
    rw [pFind_no (fun j hj => by simpa using hp j (by omega))]; exact ⟨rfl, rfl, rfl⟩
  · skip
    refine vV.aload_n dX3_plateOn_10 rfl ?_
    refine vV.getr dX3_plateOn_11 fl_X3_9 (by first | rfl | assumption) rfl (by first | assumption | exact hB _ _ _ rfl) ?_
    refine vV.iload_n dX3_plateOn_14 rfl ?_
    refine vV.iald dX3_plateOn_15 (by first | rfl | assumption) (by omega) (by omega) ?_
    refine vV.iload_n dX3_plateOn_16 rfl ?_
    refine vV.icmp_ne (tgt := 22) dX3_plateOn_17 (by decide) (fun h17 => ?_) (fun h17 => ?_)
    · skip
      refine vV.iinc (L' := [_, _, _]) dX3_plateOn_22 (by decide) rfl (⟨by omega, by omega⟩) rfl ?_
      refine vV.goto (tgt := 2) dX3_plateOn_25 (by decide) ?_
      exact ih (by omega) (fun j hj => (Nat.lt_succ_iff_lt_or_eq.mp hj).elim (hp j) (fun h => by subst h; exact h17))
    · skip
      refine vV.iload_n dX3_plateOn_20 rfl ?_
      refine vV.ri dX3_plateOn_21 rfl ?_
      rw [pFind_yes (p := p) (by omega) (by simpa using h17) (fun j hj => by simpa using hp j hj)]; exact ⟨rfl, rfl, rfl⟩
/-- Stage.plateOn: the first plate at a place, or -1 -/
theorem c_X3_plateOn {d : List Nat} {T : vT} {M : vM} {a n : Nat} {x : Int} (hK : sgK a) (hT : sgT T a) (hc : M a 0 = n) (hn : n ≤ 6) : vCon m_X3_plateOn d d [vR a, vI x] T M (vPi fun r T' M' => r = pOr (-1) (pFind (fun j => decide (M (a + 1) j = x)) n) ∧ T = T' ∧ M = M') := by
  refine vCon.of (by decide) rfl rfl (Nat.le_of_ble_eq_true rfl) ?_
  refine vV.iconst dX3_plateOn_0 (by decide) ?_
  refine vV.istore_n (L' := [_, _, _]) dX3_plateOn_1 (by decide) rfl ?_
  exact l_X3_plateOn hK hT hc hn 0 (by omega) (fun j hj => by omega)
theorem pBits_s (tu : Int → Int) (n : Nat) : pBits tu (n + 1) = pBits tu n + if 0 < tu n then 2 ^ n else 0 := rfl
theorem pBits_rg (tu : Int → Int) : ∀ n : Nat, 0 ≤ pBits tu n ∧ pBits tu n < 2 ^ n
  | 0 => by simp [pBits]
  | n + 1 => by
    have := pBits_rg tu n
    have e : (2 : Int) ^ (n + 1) = 2 * 2 ^ n := by rw [Int.pow_succ, Int.mul_comm]
    have hp : (0 : Int) < 2 ^ n := Int.pow_pos (by decide)
    unfold pBits
    rw [e]
    split <;> omega
theorem pBits_or (tu : Int → Int) {n : Nat} (hn : n < 30) : vOr (pBits tu n) (vShl 1 n) = pBits tu n + 2 ^ n := by
  obtain ⟨h0, h1⟩ := pBits_rg tu n
  obtain ⟨b, hb⟩ : ∃ b : Nat, pBits tu n = b := ⟨(pBits tu n).toNat, by omega⟩
  have hp : (2 : Nat) ^ n ≤ 2 ^ 29 := Nat.pow_le_pow_right (by decide) (by omega)
  have hc : ((2 ^ n : Nat) : Int) = (2 : Int) ^ n := by simp
  have hlt : b < 2 ^ n := by rw [hb] at h1; rw [← hc] at h1; omega
  have e1 : vShl 1 n = ((2 ^ n * 1 : Nat) : Int) := by rw [show (1 : Int) = ((1 : Nat) : Int) from rfl, vShl_nat (by omega) (by omega), Nat.one_mul, Nat.mul_one]
  rw [hb, e1, vOr_sum 1 hlt (by omega), Nat.mul_one, ← hc]
  omega
theorem dX3_standing_0 : decode cX3_standing 0 = .ok (.iconst 0, 1) := by decide +kernel
theorem dX3_standing_1 : decode cX3_standing 1 = .ok (.istore_n 1, 1) := by decide +kernel
theorem dX3_standing_2 : decode cX3_standing 2 = .ok (.iconst 0, 1) := by decide +kernel
theorem dX3_standing_3 : decode cX3_standing 3 = .ok (.istore_n 2, 1) := by decide +kernel
theorem dX3_standing_4 : decode cX3_standing 4 = .ok (.iload_n 2, 1) := by decide +kernel
theorem dX3_standing_5 : decode cX3_standing 5 = .ok (.aload_n 0, 1) := by decide +kernel
theorem dX3_standing_6 : decode cX3_standing 6 = .ok (.getfield 35, 3) := by decide +kernel
theorem dX3_standing_9 : decode cX3_standing 9 = .ok (.if_icmp .ge 24, 3) := by decide +kernel
theorem dX3_standing_12 : decode cX3_standing 12 = .ok (.aload_n 0, 1) := by decide +kernel
theorem dX3_standing_13 : decode cX3_standing 13 = .ok (.getfield 21, 3) := by decide +kernel
theorem dX3_standing_16 : decode cX3_standing 16 = .ok (.iload_n 2, 1) := by decide +kernel
theorem dX3_standing_17 : decode cX3_standing 17 = .ok (.iaload, 1) := by decide +kernel
theorem dX3_standing_18 : decode cX3_standing 18 = .ok (.ifCond .le 9, 3) := by decide +kernel
theorem dX3_standing_21 : decode cX3_standing 21 = .ok (.iload_n 1, 1) := by decide +kernel
theorem dX3_standing_22 : decode cX3_standing 22 = .ok (.iconst 1, 1) := by decide +kernel
theorem dX3_standing_23 : decode cX3_standing 23 = .ok (.iload_n 2, 1) := by decide +kernel
theorem dX3_standing_24 : decode cX3_standing 24 = .ok (.ishl, 1) := by decide +kernel
theorem dX3_standing_25 : decode cX3_standing 25 = .ok (.ior, 1) := by decide +kernel
theorem dX3_standing_26 : decode cX3_standing 26 = .ok (.istore_n 1, 1) := by decide +kernel
theorem dX3_standing_27 : decode cX3_standing 27 = .ok (.iinc 2 1, 3) := by decide +kernel
theorem dX3_standing_30 : decode cX3_standing 30 = .ok (.goto (-26), 3) := by decide +kernel
theorem dX3_standing_33 : decode cX3_standing 33 = .ok (.iload_n 1, 1) := by decide +kernel
theorem dX3_standing_34 : decode cX3_standing 34 = .ok (.ireturn, 1) := by decide +kernel
theorem l_X3_standing {d : List Nat} {T : vT} {M : vM} {a n : Nat} (hK : sgK a) (hT : sgT T a) (hc : M a 0 = n) (hn : n ≤ 6) : ∀ p, p ≤ n →
    vV m_X3_standing d d (vPi fun r T' M' => r = pBits (M (a + 4)) n ∧ T = T' ∧ M = M') 4 [some (vR a), some (vI (pBits (M (a + 4)) p)), some (vI p)] [] d T M := by
  obtain ⟨k0, k1, k2, k3, k4, k5⟩ := hK
  obtain ⟨t1, t2, t3, t4, t5⟩ := hT
  refine vUp ?_
  intro p h2 ih
  refine vV.iload_n dX3_standing_4 rfl ?_
  refine vV.aload_n dX3_standing_5 rfl ?_
  refine vV.geti (z := 0) dX3_standing_6 fl_X3_35 (by first | rfl | assumption) rfl rfl ?_
  refine vV.icmp_ge (tgt := 33) dX3_standing_9 (by decide) (fun h9 => ?_) (fun h9 => ?_)
  · skip
    refine vV.iload_n dX3_standing_33 rfl ?_
    refine vV.ri dX3_standing_34 rfl ?_
    rw [show p = n by omega]; exact ⟨rfl, rfl, rfl⟩
  · skip
    refine vV.aload_n dX3_standing_12 rfl ?_
    refine vV.getr dX3_standing_13 fl_X3_21 (by first | rfl | assumption) rfl (by first | assumption | exact hB _ _ _ rfl) ?_
    refine vV.iload_n dX3_standing_16 rfl ?_
    refine vV.iald dX3_standing_17 (by first | rfl | assumption) (by omega) (by omega) ?_
    refine vV.if_le (tgt := 27) dX3_standing_18 (by decide) (fun h18 => ?_) (fun h18 => ?_)
    · skip
      have e : pBits (M (a + 4)) (p + 1) = pBits (M (a + 4)) p := by rw [pBits_s, if_neg (by omega), Int.add_zero]
      rw [e] at ih
      refine vV.iinc (L' := [_, _, _]) dX3_standing_27 (by decide) rfl (⟨by omega, by omega⟩) rfl ?_
      refine vV.goto (tgt := 4) dX3_standing_30 (by decide) ?_
      exact ih (by omega)
    · skip
      have e : pBits (M (a + 4)) (p + 1) = vOr (pBits (M (a + 4)) p) (vShl 1 p) := by rw [pBits_or _ (by omega), pBits_s, if_pos h18]
      rw [e] at ih
      refine vV.iload_n dX3_standing_21 rfl ?_
      refine vV.iconst dX3_standing_22 (by decide) ?_
      refine vV.iload_n dX3_standing_23 rfl ?_
      refine vV.ishl dX3_standing_24 ?_
      refine vV.ior dX3_standing_25 ?_
      refine vV.istore_n (L' := [_, _, _]) dX3_standing_26 (by decide) rfl ?_
      refine vV.iinc (L' := [_, _, _]) dX3_standing_27 (by decide) rfl (⟨by omega, by omega⟩) rfl ?_
      refine vV.goto (tgt := 4) dX3_standing_30 (by decide) ?_
      exact ih (by omega)
/-- Stage.standing -/
theorem c_X3_standing {d : List Nat} {T : vT} {M : vM} {a n : Nat} (hK : sgK a) (hT : sgT T a) (hc : M a 0 = n) (hn : n ≤ 6) : vCon m_X3_standing d d [vR a] T M (vPi fun r T' M' => r = pBits (M (a + 4)) n ∧ T = T' ∧ M = M') := by
  refine vCon.of (by decide) rfl rfl (Nat.le_of_ble_eq_true rfl) ?_
  refine vV.iconst dX3_standing_0 (by decide) ?_
  refine vV.istore_n (L' := [_, _, _]) dX3_standing_1 (by decide) rfl ?_
  refine vV.iconst dX3_standing_2 (by decide) ?_
  refine vV.istore_n (L' := [_, _, _]) dX3_standing_3 (by decide) rfl ?_
  exact l_X3_standing hK hT hc hn 0 (by omega)
theorem dX3_sumOfTurns_0 : decode cX3_sumOfTurns 0 = .ok (.iconst 0, 1) := by decide +kernel
theorem dX3_sumOfTurns_1 : decode cX3_sumOfTurns 1 = .ok (.istore_n 1, 1) := by decide +kernel
theorem dX3_sumOfTurns_2 : decode cX3_sumOfTurns 2 = .ok (.iconst 0, 1) := by decide +kernel
theorem dX3_sumOfTurns_3 : decode cX3_sumOfTurns 3 = .ok (.istore_n 2, 1) := by decide +kernel
theorem dX3_sumOfTurns_4 : decode cX3_sumOfTurns 4 = .ok (.iload_n 2, 1) := by decide +kernel
theorem dX3_sumOfTurns_5 : decode cX3_sumOfTurns 5 = .ok (.aload_n 0, 1) := by decide +kernel
theorem dX3_sumOfTurns_6 : decode cX3_sumOfTurns 6 = .ok (.getfield 35, 3) := by decide +kernel
theorem dX3_sumOfTurns_9 : decode cX3_sumOfTurns 9 = .ok (.if_icmp .ge 18, 3) := by decide +kernel
theorem dX3_sumOfTurns_12 : decode cX3_sumOfTurns 12 = .ok (.iload_n 1, 1) := by decide +kernel
theorem dX3_sumOfTurns_13 : decode cX3_sumOfTurns 13 = .ok (.aload_n 0, 1) := by decide +kernel
theorem dX3_sumOfTurns_14 : decode cX3_sumOfTurns 14 = .ok (.getfield 21, 3) := by decide +kernel
theorem dX3_sumOfTurns_17 : decode cX3_sumOfTurns 17 = .ok (.iload_n 2, 1) := by decide +kernel
theorem dX3_sumOfTurns_18 : decode cX3_sumOfTurns 18 = .ok (.iaload, 1) := by decide +kernel
theorem dX3_sumOfTurns_19 : decode cX3_sumOfTurns 19 = .ok (.iadd, 1) := by decide +kernel
theorem dX3_sumOfTurns_20 : decode cX3_sumOfTurns 20 = .ok (.istore_n 1, 1) := by decide +kernel
theorem dX3_sumOfTurns_21 : decode cX3_sumOfTurns 21 = .ok (.iinc 2 1, 3) := by decide +kernel
theorem dX3_sumOfTurns_24 : decode cX3_sumOfTurns 24 = .ok (.goto (-20), 3) := by decide +kernel
theorem dX3_sumOfTurns_27 : decode cX3_sumOfTurns 27 = .ok (.iload_n 1, 1) := by decide +kernel
theorem dX3_sumOfTurns_28 : decode cX3_sumOfTurns 28 = .ok (.ireturn, 1) := by decide +kernel
theorem pSum_rg (tu : Int → Int) (h : ∀ j : Nat, 0 ≤ tu j ∧ tu j ≤ 15) : ∀ n : Nat, 0 ≤ pSum tu n ∧ pSum tu n ≤ 15 * n
  | 0 => by simp [pSum]
  | n + 1 => by have := pSum_rg tu h n; have := h n; unfold pSum; omega
theorem l_X3_sumOfTurns {d : List Nat} {T : vT} {M : vM} {a n : Nat} (hK : sgK a) (hT : sgT T a) (hc : M a 0 = n) (hn : n ≤ 6) (ht : ∀ j : Nat, 0 ≤ M (a + 4) j ∧ M (a + 4) j ≤ 15) : ∀ p, p ≤ n →
    vV m_X3_sumOfTurns d d (vPi fun r T' M' => r = pSum (M (a + 4)) n ∧ T = T' ∧ M = M') 4 [some (vR a), some (vI (pSum (M (a + 4)) p)), some (vI p)] [] d T M := by
  obtain ⟨k0, k1, k2, k3, k4, k5⟩ := hK
  obtain ⟨t1, t2, t3, t4, t5⟩ := hT
  refine vUp ?_
  intro p h2 ih
  have h3 := pSum_rg _ ht p
  have h4 := ht p
  refine vV.iload_n dX3_sumOfTurns_4 rfl ?_
  refine vV.aload_n dX3_sumOfTurns_5 rfl ?_
  refine vV.geti (z := 0) dX3_sumOfTurns_6 fl_X3_35 (by first | rfl | assumption) rfl rfl ?_
  refine vV.icmp_ge (tgt := 27) dX3_sumOfTurns_9 (by decide) (fun h9 => ?_) (fun h9 => ?_)
  · skip
    refine vV.iload_n dX3_sumOfTurns_27 rfl ?_
    refine vV.ri dX3_sumOfTurns_28 rfl ?_
    rw [show p = n by omega]; exact ⟨rfl, rfl, rfl⟩
  · skip
    refine vV.iload_n dX3_sumOfTurns_12 rfl ?_
    refine vV.aload_n dX3_sumOfTurns_13 rfl ?_
    refine vV.getr dX3_sumOfTurns_14 fl_X3_21 (by first | rfl | assumption) rfl (by first | assumption | exact hB _ _ _ rfl) ?_
    refine vV.iload_n dX3_sumOfTurns_17 rfl ?_
    refine vV.iald dX3_sumOfTurns_18 (by first | rfl | assumption) (by omega) (by omega) ?_
    refine vV.iadd dX3_sumOfTurns_19 (⟨by omega, by omega⟩) ?_
    refine vV.istore_n (L' := [_, _, _]) dX3_sumOfTurns_20 (by decide) rfl ?_
    refine vV.iinc (L' := [_, _, _]) dX3_sumOfTurns_21 (by decide) rfl (⟨by omega, by omega⟩) rfl ?_
    refine vV.goto (tgt := 4) dX3_sumOfTurns_24 (by decide) ?_
    exact ih (by omega)
/-- Stage.sumOfTurns -/
theorem c_X3_sumOfTurns {d : List Nat} {T : vT} {M : vM} {a n : Nat} (hK : sgK a) (hT : sgT T a) (hc : M a 0 = n) (hn : n ≤ 6) (ht : ∀ j : Nat, 0 ≤ M (a + 4) j ∧ M (a + 4) j ≤ 15) : vCon m_X3_sumOfTurns d d [vR a] T M (vPi fun r T' M' => r = pSum (M (a + 4)) n ∧ T = T' ∧ M = M') := by
  refine vCon.of (by decide) rfl rfl (Nat.le_of_ble_eq_true rfl) ?_
  refine vV.iconst dX3_sumOfTurns_0 (by decide) ?_
  refine vV.istore_n (L' := [_, _, _]) dX3_sumOfTurns_1 (by decide) rfl ?_
  refine vV.iconst dX3_sumOfTurns_2 (by decide) ?_
  refine vV.istore_n (L' := [_, _, _]) dX3_sumOfTurns_3 (by decide) rfl ?_
  exact l_X3_sumOfTurns hK hT hc hn ht 0 (by omega)
theorem dX3_runDown_0 : decode cX3_runDown 0 = .ok (.iconst 0, 1) := by decide +kernel
theorem dX3_runDown_1 : decode cX3_runDown 1 = .ok (.istore_n 1, 1) := by decide +kernel
theorem dX3_runDown_2 : decode cX3_runDown 2 = .ok (.iload_n 1, 1) := by decide +kernel
theorem dX3_runDown_3 : decode cX3_runDown 3 = .ok (.aload_n 0, 1) := by decide +kernel
theorem dX3_runDown_4 : decode cX3_runDown 4 = .ok (.getfield 35, 3) := by decide +kernel
theorem dX3_runDown_7 : decode cX3_runDown 7 = .ok (.if_icmp .ge 32, 3) := by decide +kernel
theorem dX3_runDown_10 : decode cX3_runDown 10 = .ok (.aload_n 0, 1) := by decide +kernel
theorem dX3_runDown_11 : decode cX3_runDown 11 = .ok (.getfield 21, 3) := by decide +kernel
theorem dX3_runDown_14 : decode cX3_runDown 14 = .ok (.iload_n 1, 1) := by decide +kernel
theorem dX3_runDown_15 : decode cX3_runDown 15 = .ok (.iconst 0, 1) := by decide +kernel
theorem dX3_runDown_16 : decode cX3_runDown 16 = .ok (.aload_n 0, 1) := by decide +kernel
theorem dX3_runDown_17 : decode cX3_runDown 17 = .ok (.getfield 21, 3) := by decide +kernel
theorem dX3_runDown_20 : decode cX3_runDown 20 = .ok (.iload_n 1, 1) := by decide +kernel
theorem dX3_runDown_21 : decode cX3_runDown 21 = .ok (.iaload, 1) := by decide +kernel
theorem dX3_runDown_22 : decode cX3_runDown 22 = .ok (.aload_n 0, 1) := by decide +kernel
theorem dX3_runDown_23 : decode cX3_runDown 23 = .ok (.getfield 18, 3) := by decide +kernel
theorem dX3_runDown_26 : decode cX3_runDown 26 = .ok (.iload_n 1, 1) := by decide +kernel
theorem dX3_runDown_27 : decode cX3_runDown 27 = .ok (.iaload, 1) := by decide +kernel
theorem dX3_runDown_28 : decode cX3_runDown 28 = .ok (.isub, 1) := by decide +kernel
theorem dX3_runDown_29 : decode cX3_runDown 29 = .ok (.invokestatic 62, 3) := by decide +kernel
theorem dX3_runDown_32 : decode cX3_runDown 32 = .ok (.iastore, 1) := by decide +kernel
theorem dX3_runDown_33 : decode cX3_runDown 33 = .ok (.iinc 1 1, 3) := by decide +kernel
theorem dX3_runDown_36 : decode cX3_runDown 36 = .ok (.goto (-34), 3) := by decide +kernel
theorem dX3_runDown_39 : decode cX3_runDown 39 = .ok (.return_, 1) := by decide +kernel
theorem pDown_s (n : Nat) (fa tu : Int → Int) : fSet (pDown n fa tu) n (max 0 (tu n - fa n)) = pDown (n + 1) fa tu := by
  funext j
  unfold fSet pDown
  by_cases h : j = n
  · subst h; rw [if_pos rfl, if_pos (by omega)]
  · rw [if_neg h]
    by_cases h2 : 0 ≤ j ∧ j < n
    · rw [if_pos h2, if_pos (by omega)]
    · rw [if_neg h2, if_neg (by omega)]
theorem pDown_0 (fa tu : Int → Int) : pDown 0 fa tu = tu := by
  funext j; unfold pDown; rw [if_neg (by omega)]
theorem pDown_ge {n : Nat} {fa tu : Int → Int} {j : Int} (h : n ≤ j) : pDown n fa tu j = tu j := by unfold pDown; rw [if_neg (by omega)]
theorem l_X3_runDown {d : List Nat} {T : vT} {M : vM} {a n : Nat} (hK : sgK a) (hT : sgT T a) (hc : M a 0 = n) (hn : n ≤ 6) (ht : ∀ j : Nat, 0 ≤ M (a + 4) j ∧ M (a + 4) j ≤ 15) (hf : ∀ j : Nat, 0 ≤ M (a + 3) j ∧ M (a + 3) j ≤ 15) : ∀ p, p ≤ n →
    vV m_X3_runDown d d (vPv fun T' M' => T = T' ∧ M' = vRow M (a + 4) (pDown n (M (a + 3)) (M (a + 4)))) 2 [some (vR a), some (vI p)] [] d T (vRow M (a + 4) (pDown p (M (a + 3)) (M (a + 4)))) := by
  obtain ⟨k0, k1, k2, k3, k4, k5⟩ := hK
  obtain ⟨t1, t2, t3, t4, t5⟩ := hT
  refine vUp ?_
  intro p h2 ih
  have e0 : vRow M (a + 4) (pDown p (M (a + 3)) (M (a + 4))) a 0 = n := by rw [vRow_n (by omega)]; exact hc
  have e3 : vRow M (a + 4) (pDown p (M (a + 3)) (M (a + 4))) (a + 3) p = M (a + 3) p := by rw [vRow_n (by omega)]
  have e4 : vRow M (a + 4) (pDown p (M (a + 3)) (M (a + 4))) (a + 4) p = M (a + 4) p := by rw [vRow_s, pDown_ge (by omega)]
  have h3 := ht p
  have h4 := hf p
  refine vV.iload_n dX3_runDown_2 rfl ?_
  refine vV.aload_n dX3_runDown_3 rfl ?_
  refine vV.geti (z := 0) dX3_runDown_4 fl_X3_35 (by first | rfl | assumption) rfl rfl ?_
  refine vV.icmp_ge (tgt := 39) dX3_runDown_7 (by decide) (fun h7 => ?_) (fun h7 => ?_)
  · skip
    refine vV.rv dX3_runDown_39 rfl ?_
    rw [show p = n by omega]; exact ⟨rfl, rfl⟩
  · skip
    refine vV.aload_n dX3_runDown_10 rfl ?_
    refine vV.getr dX3_runDown_11 fl_X3_21 (by first | rfl | assumption) rfl (by first | assumption | exact hB _ _ _ rfl) ?_
    refine vV.iload_n dX3_runDown_14 rfl ?_
    refine vV.iconst dX3_runDown_15 (by decide) ?_
    refine vV.aload_n dX3_runDown_16 rfl ?_
    refine vV.getr dX3_runDown_17 fl_X3_21 (by first | rfl | assumption) rfl (by first | assumption | exact hB _ _ _ rfl) ?_
    refine vV.iload_n dX3_runDown_20 rfl ?_
    refine vV.iald dX3_runDown_21 (by first | rfl | assumption) (by omega) (by omega) ?_
    refine vV.aload_n dX3_runDown_22 rfl ?_
    refine vV.getr dX3_runDown_23 fl_X3_18 (by first | rfl | assumption) rfl (by first | assumption | exact hB _ _ _ rfl) ?_
    refine vV.iload_n dX3_runDown_26 rfl ?_
    refine vV.iald dX3_runDown_27 (by first | rfl | assumption) (by omega) (by omega) ?_
    refine vV.isub dX3_runDown_28 (⟨by omega, by omega⟩) ?_
    refine vV.mmax dX3_runDown_29 ml_X3_62 mm_max (by decide) (Nat.le_of_ble_eq_true rfl) ?_
    refine vV.iast dX3_runDown_32 (by first | rfl | assumption) (by omega) (by omega) ?_
    rw [e3, e4, vUpd_vRow, pDown_s]
    refine vV.iinc (L' := [_, _]) dX3_runDown_33 (by decide) rfl (⟨by omega, by omega⟩) rfl ?_
    refine vV.goto (tgt := 2) dX3_runDown_36 (by decide) ?_
    exact ih (by omega)
/-- Stage.runDown -/
theorem c_X3_runDown {d : List Nat} {T : vT} {M : vM} {a n : Nat} (hK : sgK a) (hT : sgT T a) (hc : M a 0 = n) (hn : n ≤ 6) (ht : ∀ j : Nat, 0 ≤ M (a + 4) j ∧ M (a + 4) j ≤ 15) (hf : ∀ j : Nat, 0 ≤ M (a + 3) j ∧ M (a + 3) j ≤ 15) : vCon m_X3_runDown d d [vR a] T M (vPv fun T' M' => T = T' ∧ M' = vRow M (a + 4) (pDown n (M (a + 3)) (M (a + 4)))) := by
  refine vCon.of (by decide) rfl rfl (Nat.le_of_ble_eq_true rfl) ?_
  have h := l_X3_runDown (d := d) hK hT hc hn ht hf 0 (by omega)
  rw [pDown_0, vRow_id] at h
  refine vV.iconst dX3_runDown_0 (by decide) ?_
  refine vV.istore_n (L' := [_, _]) dX3_runDown_1 (by decide) rfl ?_
  exact h
theorem pPack_s (tu : Int → Int) (n : Nat) : pPack tu (n + 1) = pPack tu n + tu n * 16 ^ n := rfl
theorem pPack_rg (tu : Int → Int) (h : ∀ j : Nat, 0 ≤ tu j ∧ tu j ≤ 15) : ∀ n : Nat, 0 ≤ pPack tu n ∧ pPack tu n < 16 ^ n
  | 0 => by simp [pPack]
  | n + 1 => by
    have h1 := pPack_rg tu h n
    have h2 := h n
    have e : (16 : Int) ^ (n + 1) = 16 * 16 ^ n := by rw [Int.pow_succ, Int.mul_comm]
    have hp : (0 : Int) < 16 ^ n := Int.pow_pos (by decide)
    unfold pPack
    have h3 : tu n * 16 ^ n ≤ 15 * 16 ^ n := Int.mul_le_mul_of_nonneg_right h2.2 (by omega)
    have h4 : 0 ≤ tu n * 16 ^ n := Int.mul_nonneg h2.1 (by omega)
    rw [e]
    omega
theorem pPack_or (tu : Int → Int) (h : ∀ j : Nat, 0 ≤ tu j ∧ tu j ≤ 15) {n : Nat} (hn : n < 7) : vOr (pPack tu n) (vShl (tu n) (4 * n)) = pPack tu (n + 1) := by
  obtain ⟨h0, h1⟩ := pPack_rg tu h n
  obtain ⟨h2, h3⟩ := h n
  obtain ⟨b, hb⟩ : ∃ b : Nat, pPack tu n = b := ⟨(pPack tu n).toNat, by omega⟩
  obtain ⟨x, hx⟩ : ∃ x : Nat, tu n = x := ⟨(tu n).toNat, by omega⟩
  have hp : (16 : Nat) ^ n ≤ 16 ^ 6 := Nat.pow_le_pow_right (by decide) (by omega)
  have hc : ((16 ^ n : Nat) : Int) = (16 : Int) ^ n := by simp
  have e16 : (2 : Nat) ^ (4 * n) = 16 ^ n := by rw [Nat.pow_mul]
  have hlt : b < 2 ^ (4 * n) := by rw [e16]; rw [hb, ← hc] at h1; omega
  have hxx : x * 16 ^ n ≤ 15 * 16 ^ n := Nat.mul_le_mul_right _ (by omega)
  have e1 : vShl (tu n) (4 * n) = ((2 ^ (4 * n) * x : Nat) : Int) := by
    rw [hx, show (4 * (n : Int)) = ((4 * n : Nat) : Int) by simp, vShl_nat (by omega) (by rw [e16]; omega), Nat.mul_comm]
  rw [pPack_s, e1, hb, vOr_sum x hlt (by rw [e16, Nat.mul_comm]; omega), e16, hx, ← hc]
  rw [Nat.mul_comm]
  simp only [Int.natCast_add, Int.natCast_mul]
  omega
theorem dX3_packedTurns_0 : decode cX3_packedTurns 0 = .ok (.iconst 0, 1) := by decide +kernel
theorem dX3_packedTurns_1 : decode cX3_packedTurns 1 = .ok (.istore_n 1, 1) := by decide +kernel
theorem dX3_packedTurns_2 : decode cX3_packedTurns 2 = .ok (.iconst 0, 1) := by decide +kernel
theorem dX3_packedTurns_3 : decode cX3_packedTurns 3 = .ok (.istore_n 2, 1) := by decide +kernel
theorem dX3_packedTurns_4 : decode cX3_packedTurns 4 = .ok (.iload_n 2, 1) := by decide +kernel
theorem dX3_packedTurns_5 : decode cX3_packedTurns 5 = .ok (.aload_n 0, 1) := by decide +kernel
theorem dX3_packedTurns_6 : decode cX3_packedTurns 6 = .ok (.getfield 35, 3) := by decide +kernel
theorem dX3_packedTurns_9 : decode cX3_packedTurns 9 = .ok (.if_icmp .ge 22, 3) := by decide +kernel
theorem dX3_packedTurns_12 : decode cX3_packedTurns 12 = .ok (.iload_n 1, 1) := by decide +kernel
theorem dX3_packedTurns_13 : decode cX3_packedTurns 13 = .ok (.aload_n 0, 1) := by decide +kernel
theorem dX3_packedTurns_14 : decode cX3_packedTurns 14 = .ok (.getfield 21, 3) := by decide +kernel
theorem dX3_packedTurns_17 : decode cX3_packedTurns 17 = .ok (.iload_n 2, 1) := by decide +kernel
theorem dX3_packedTurns_18 : decode cX3_packedTurns 18 = .ok (.iaload, 1) := by decide +kernel
theorem dX3_packedTurns_19 : decode cX3_packedTurns 19 = .ok (.iconst 4, 1) := by decide +kernel
theorem dX3_packedTurns_20 : decode cX3_packedTurns 20 = .ok (.iload_n 2, 1) := by decide +kernel
theorem dX3_packedTurns_21 : decode cX3_packedTurns 21 = .ok (.imul, 1) := by decide +kernel
theorem dX3_packedTurns_22 : decode cX3_packedTurns 22 = .ok (.ishl, 1) := by decide +kernel
theorem dX3_packedTurns_23 : decode cX3_packedTurns 23 = .ok (.ior, 1) := by decide +kernel
theorem dX3_packedTurns_24 : decode cX3_packedTurns 24 = .ok (.istore_n 1, 1) := by decide +kernel
theorem dX3_packedTurns_25 : decode cX3_packedTurns 25 = .ok (.iinc 2 1, 3) := by decide +kernel
theorem dX3_packedTurns_28 : decode cX3_packedTurns 28 = .ok (.goto (-24), 3) := by decide +kernel
theorem dX3_packedTurns_31 : decode cX3_packedTurns 31 = .ok (.iload_n 1, 1) := by decide +kernel
theorem dX3_packedTurns_32 : decode cX3_packedTurns 32 = .ok (.ireturn, 1) := by decide +kernel
theorem l_X3_packedTurns {d : List Nat} {T : vT} {M : vM} {a n : Nat} (hK : sgK a) (hT : sgT T a) (hc : M a 0 = n) (hn : n ≤ 6) (ht : ∀ j : Nat, 0 ≤ M (a + 4) j ∧ M (a + 4) j ≤ 15) : ∀ p, p ≤ n →
    vV m_X3_packedTurns d d (vPi fun r T' M' => r = pPack (M (a + 4)) n ∧ T = T' ∧ M = M') 4 [some (vR a), some (vI (pPack (M (a + 4)) p)), some (vI p)] [] d T M := by
  obtain ⟨k0, k1, k2, k3, k4, k5⟩ := hK
  obtain ⟨t1, t2, t3, t4, t5⟩ := hT
  refine vUp ?_
  intro p h2 ih
  refine vV.iload_n dX3_packedTurns_4 rfl ?_
  refine vV.aload_n dX3_packedTurns_5 rfl ?_
  refine vV.geti (z := 0) dX3_packedTurns_6 fl_X3_35 (by first | rfl | assumption) rfl rfl ?_
  refine vV.icmp_ge (tgt := 31) dX3_packedTurns_9 (by decide) (fun h9 => ?_) (fun h9 => ?_)
  · skip
    refine vV.iload_n dX3_packedTurns_31 rfl ?_
    refine vV.ri dX3_packedTurns_32 rfl ?_
    rw [show p = n by omega]; exact ⟨rfl, rfl, rfl⟩
  · skip
    rw [← pPack_or _ ht (by omega)] at ih
    refine vV.iload_n dX3_packedTurns_12 rfl ?_
    refine vV.aload_n dX3_packedTurns_13 rfl ?_
    refine vV.getr dX3_packedTurns_14 fl_X3_21 (by first | rfl | assumption) rfl (by first | assumption | exact hB _ _ _ rfl) ?_
    refine vV.iload_n dX3_packedTurns_17 rfl ?_
    refine vV.iald dX3_packedTurns_18 (by first | rfl | assumption) (by omega) (by omega) ?_
    refine vV.iconst dX3_packedTurns_19 (by decide) ?_
    refine vV.iload_n dX3_packedTurns_20 rfl ?_
    refine vV.imul dX3_packedTurns_21 (⟨by omega, by omega⟩) ?_
    refine vV.ishl dX3_packedTurns_22 ?_
    refine vV.ior dX3_packedTurns_23 ?_
    refine vV.istore_n (L' := [_, _, _]) dX3_packedTurns_24 (by decide) rfl ?_
    refine vV.iinc (L' := [_, _, _]) dX3_packedTurns_25 (by decide) rfl (⟨by omega, by omega⟩) rfl ?_
    refine vV.goto (tgt := 4) dX3_packedTurns_28 (by decide) ?_
    exact ih (by omega)
/-- Stage.packedTurns -/
theorem c_X3_packedTurns {d : List Nat} {T : vT} {M : vM} {a n : Nat} (hK : sgK a) (hT : sgT T a) (hc : M a 0 = n) (hn : n ≤ 6) (ht : ∀ j : Nat, 0 ≤ M (a + 4) j ∧ M (a + 4) j ≤ 15) : vCon m_X3_packedTurns d d [vR a] T M (vPi fun r T' M' => r = pPack (M (a + 4)) n ∧ T = T' ∧ M = M') := by
  refine vCon.of (by decide) rfl rfl (Nat.le_of_ble_eq_true rfl) ?_
  refine vV.iconst dX3_packedTurns_0 (by decide) ?_
  refine vV.istore_n (L' := [_, _, _]) dX3_packedTurns_1 (by decide) rfl ?_
  refine vV.iconst dX3_packedTurns_2 (by decide) ?_
  refine vV.istore_n (L' := [_, _, _]) dX3_packedTurns_3 (by decide) rfl ?_
  exact l_X3_packedTurns hK hT hc hn ht 0 (by omega)
theorem dX3_add_0 : decode cX3_add 0 = .ok (.aload_n 0, 1) := by decide +kernel
theorem dX3_add_1 : decode cX3_add 1 = .ok (.getfield 35, 3) := by decide +kernel
theorem dX3_add_4 : decode cX3_add 4 = .ok (.istore 4, 2) := by decide +kernel
theorem dX3_add_6 : decode cX3_add 6 = .ok (.aload_n 0, 1) := by decide +kernel
theorem dX3_add_7 : decode cX3_add 7 = .ok (.getfield 9, 3) := by decide +kernel
theorem dX3_add_10 : decode cX3_add 10 = .ok (.iload 4, 2) := by decide +kernel
theorem dX3_add_12 : decode cX3_add 12 = .ok (.iload_n 1, 1) := by decide +kernel
theorem dX3_add_13 : decode cX3_add 13 = .ok (.iastore, 1) := by decide +kernel
theorem dX3_add_14 : decode cX3_add 14 = .ok (.aload_n 0, 1) := by decide +kernel
theorem dX3_add_15 : decode cX3_add 15 = .ok (.getfield 15, 3) := by decide +kernel
theorem dX3_add_18 : decode cX3_add 18 = .ok (.iload 4, 2) := by decide +kernel
theorem dX3_add_20 : decode cX3_add 20 = .ok (.iload_n 2, 1) := by decide +kernel
theorem dX3_add_21 : decode cX3_add 21 = .ok (.iastore, 1) := by decide +kernel
theorem dX3_add_22 : decode cX3_add 22 = .ok (.aload_n 0, 1) := by decide +kernel
theorem dX3_add_23 : decode cX3_add 23 = .ok (.getfield 18, 3) := by decide +kernel
theorem dX3_add_26 : decode cX3_add 26 = .ok (.iload 4, 2) := by decide +kernel
theorem dX3_add_28 : decode cX3_add 28 = .ok (.iload_n 3, 1) := by decide +kernel
theorem dX3_add_29 : decode cX3_add 29 = .ok (.iastore, 1) := by decide +kernel
theorem dX3_add_30 : decode cX3_add 30 = .ok (.aload_n 0, 1) := by decide +kernel
theorem dX3_add_31 : decode cX3_add 31 = .ok (.getfield 21, 3) := by decide +kernel
theorem dX3_add_34 : decode cX3_add 34 = .ok (.iload 4, 2) := by decide +kernel
theorem dX3_add_36 : decode cX3_add 36 = .ok (.iload_n 2, 1) := by decide +kernel
theorem dX3_add_37 : decode cX3_add 37 = .ok (.iastore, 1) := by decide +kernel
theorem dX3_add_38 : decode cX3_add 38 = .ok (.aload_n 0, 1) := by decide +kernel
theorem dX3_add_39 : decode cX3_add 39 = .ok (.dup, 1) := by decide +kernel
theorem dX3_add_40 : decode cX3_add 40 = .ok (.getfield 35, 3) := by decide +kernel
theorem dX3_add_43 : decode cX3_add 43 = .ok (.iconst 1, 1) := by decide +kernel
theorem dX3_add_44 : decode cX3_add 44 = .ok (.iadd, 1) := by decide +kernel
theorem dX3_add_45 : decode cX3_add 45 = .ok (.putfield 35, 3) := by decide +kernel
theorem dX3_add_48 : decode cX3_add 48 = .ok (.iload 4, 2) := by decide +kernel
theorem dX3_add_50 : decode cX3_add 50 = .ok (.ireturn, 1) := by decide +kernel
/-- Stage.add -/
theorem c_X3_add {d : List Nat} {T : vT} {M : vM} {a n : Nat} {x y z : Int} (hK : sgK a) (hT : sgT T a) (hc : M a 0 = n) (hn : n < 6) : vCon m_X3_add d d [vR a, vI x, vI y, vI z] T M (vPi fun r T' M' => r = n ∧ T = T' ∧ M' = vUpd (vUpd (vUpd (vUpd (vUpd M (a + 1) n x) (a + 2) n y) (a + 3) n z) (a + 4) n y) a 0 (n + 1)) := by
  obtain ⟨k0, k1, k2, k3, k4, k5⟩ := hK
  obtain ⟨t1, t2, t3, t4, t5⟩ := hT
  refine vCon.of (by decide) rfl rfl (Nat.le_of_ble_eq_true rfl) ?_
  refine vV.aload_n dX3_add_0 rfl ?_
  refine vV.geti (z := 0) dX3_add_1 fl_X3_35 (by first | rfl | assumption) rfl rfl ?_
  rw [hc]
  refine vV.istore (L' := [_, _, _, _, _]) dX3_add_4 (by decide) rfl ?_
  refine vV.aload_n dX3_add_6 rfl ?_
  refine vV.getr dX3_add_7 fl_X3_9 (by first | rfl | assumption) rfl (by first | assumption | exact hB _ _ _ rfl) ?_
  refine vV.iload dX3_add_10 rfl ?_
  refine vV.iload_n dX3_add_12 rfl ?_
  refine vV.iast dX3_add_13 (by first | rfl | assumption) (by omega) (by omega) ?_
  refine vV.aload_n dX3_add_14 rfl ?_
  refine vV.getr dX3_add_15 fl_X3_15 (by first | rfl | assumption) rfl (by first | assumption | exact hB _ _ _ rfl) ?_
  refine vV.iload dX3_add_18 rfl ?_
  refine vV.iload_n dX3_add_20 rfl ?_
  refine vV.iast dX3_add_21 (by first | rfl | assumption) (by omega) (by omega) ?_
  refine vV.aload_n dX3_add_22 rfl ?_
  refine vV.getr dX3_add_23 fl_X3_18 (by first | rfl | assumption) rfl (by first | assumption | exact hB _ _ _ rfl) ?_
  refine vV.iload dX3_add_26 rfl ?_
  refine vV.iload_n dX3_add_28 rfl ?_
  refine vV.iast dX3_add_29 (by first | rfl | assumption) (by omega) (by omega) ?_
  refine vV.aload_n dX3_add_30 rfl ?_
  refine vV.getr dX3_add_31 fl_X3_21 (by first | rfl | assumption) rfl (by first | assumption | exact hB _ _ _ rfl) ?_
  refine vV.iload dX3_add_34 rfl ?_
  refine vV.iload_n dX3_add_36 rfl ?_
  refine vV.iast dX3_add_37 (by first | rfl | assumption) (by omega) (by omega) ?_
  refine vV.aload_n dX3_add_38 rfl ?_
  refine vV.dup dX3_add_39 rfl ?_
  refine vV.geti (z := 0) dX3_add_40 fl_X3_35 (by first | rfl | assumption) rfl rfl ?_
  rw [vUpd_nk (by omega), vUpd_nk (by omega), vUpd_nk (by omega), vUpd_nk (by omega), hc]
  refine vV.iconst dX3_add_43 (by decide) ?_
  refine vV.iadd dX3_add_44 (⟨by omega, by omega⟩) ?_
  refine vV.puti (z := 0) dX3_add_45 fl_X3_35 (by first | rfl | assumption) rfl rfl ?_
  refine vV.iload dX3_add_48 rfl ?_
  refine vV.ri dX3_add_50 rfl ?_
  exact ⟨rfl, rfl, rfl⟩

def bI (b : Bool) : Int := if b then 1 else 0
theorem bI_01 (b : Bool) : bI b = 0 ∨ bI b = 1 := by cases b <;> simp [bI]
/-- the plate at his place -/
def pAt (n : Nat) (pl : Int → Int) (man : Int) : Option Nat := pFind (fun j => decide (pl j = man)) n
def pStd (tu : Int → Int) : Option Nat → Bool
  | some p => decide (0 < tu p)
  | none => false
def pCan (n : Nat) (pl tu : Int → Int) (man thing : Int) : Bool :=
  if thing = 0 then true else if thing = 1 then decide (0 < man) else if thing = 2 then decide (man < 7) else pStd tu (pAt n pl man)
def pMan (man thing : Int) : Int := if thing = 1 then man - 1 else if thing = 2 then man + 1 else man
def pWd (fu tu : Int → Int) (gives : Int) : Option Nat → Int → Int
  | some p => fSet tu p (min (fu p) (tu p + gives))
  | none => tu
def pWind (n : Nat) (pl fu tu : Int → Int) (man gives thing : Int) : Int → Int := if thing = 3 then pWd fu tu gives (pAt n pl man) else tu
/-- the rows of a stage are as told -/
def pW (n : Nat) (pl fu fa tu se : Int → Int) : Prop := n ≤ 6 ∧ (∀ j, (j < 0 ∨ 6 ≤ j) → pl j = 0 ∧ fu j = 0 ∧ fa j = 0 ∧ tu j = 0) ∧ (∀ j, (j < 0 ∨ 5 ≤ j) → se j = 0) ∧
  (∀ j, 0 ≤ pl j ∧ pl j ≤ 7) ∧ (∀ j, 0 ≤ fu j ∧ fu j ≤ 15) ∧ (∀ j, 0 ≤ fa j ∧ fa j ≤ 3) ∧ (∀ j, 0 ≤ tu j ∧ tu j ≤ fu j) ∧
  (0 ≤ se 0 ∧ se 0 ≤ 7) ∧ (1 ≤ se 1 ∧ se 1 ≤ 6) ∧ (1 ≤ se 2 ∧ se 2 ≤ 9) ∧ (0 ≤ se 3 ∧ se 3 ≤ 3) ∧ (1 ≤ se 4 ∧ se 4 ≤ 6) ∧
  (∀ j : Nat, j < n → 2 ≤ fu j ∧ 1 ≤ fa j) ∧ ∀ i j : Nat, i < n → j < n → pl i = pl j → i = j
def sgW (M : vM) (a n : Nat) : Prop := M a 0 = n ∧ pW n (M (a + 1)) (M (a + 2)) (M (a + 3)) (M (a + 4)) (M (a + 5))
theorem sgW.cnt {M : vM} {a n : Nat} (h : sgW M a n) : M a 0 = n := h.1
theorem sgW.le {M : vM} {a n : Nat} (h : sgW M a n) : n ≤ 6 := h.2.1
theorem sgW.tu {M : vM} {a n : Nat} (h : sgW M a n) (j : Nat) : 0 ≤ M (a + 4) j ∧ M (a + 4) j ≤ 15 := by
  obtain ⟨-, -, -, -, -, h1, -, h2, -⟩ := h
  have := h1 j; have := h2 j; omega
theorem sgW.fa {M : vM} {a n : Nat} (h : sgW M a n) (j : Nat) : 0 ≤ M (a + 3) j ∧ M (a + 3) j ≤ 15 := by
  obtain ⟨-, -, -, -, -, -, h1, -⟩ := h
  have := h1 j; omega
end
section
theorem dX3_can_0 : decode cX3_can 0 = .ok (.aload_n 0, 1) := by decide +kernel
theorem dX3_can_1 : decode cX3_can 1 = .ok (.getfield 32, 3) := by decide +kernel
theorem dX3_can_4 : decode cX3_can 4 = .ok (.iconst 0, 1) := by decide +kernel
theorem dX3_can_5 : decode cX3_can 5 = .ok (.iaload, 1) := by decide +kernel
theorem dX3_can_6 : decode cX3_can 6 = .ok (.istore_n 2, 1) := by decide +kernel
theorem dX3_can_7 : decode cX3_can 7 = .ok (.iload_n 1, 1) := by decide +kernel
theorem dX3_can_8 : decode cX3_can 8 = .ok (.tableswitch 52 0 2 #[28, 30, 40], 28) := by decide +kernel
theorem dX3_can_36 : decode cX3_can 36 = .ok (.iconst 1, 1) := by decide +kernel
theorem dX3_can_37 : decode cX3_can 37 = .ok (.ireturn, 1) := by decide +kernel
theorem dX3_can_38 : decode cX3_can 38 = .ok (.iload_n 2, 1) := by decide +kernel
theorem dX3_can_39 : decode cX3_can 39 = .ok (.ifCond .le 7, 3) := by decide +kernel
theorem dX3_can_42 : decode cX3_can 42 = .ok (.iconst 1, 1) := by decide +kernel
theorem dX3_can_43 : decode cX3_can 43 = .ok (.goto 4, 3) := by decide +kernel
theorem dX3_can_46 : decode cX3_can 46 = .ok (.iconst 0, 1) := by decide +kernel
theorem dX3_can_47 : decode cX3_can 47 = .ok (.ireturn, 1) := by decide +kernel
theorem dX3_can_48 : decode cX3_can 48 = .ok (.iload_n 2, 1) := by decide +kernel
theorem dX3_can_49 : decode cX3_can 49 = .ok (.bipush 7, 2) := by decide +kernel
theorem dX3_can_51 : decode cX3_can 51 = .ok (.if_icmp .ge 7, 3) := by decide +kernel
theorem dX3_can_54 : decode cX3_can 54 = .ok (.iconst 1, 1) := by decide +kernel
theorem dX3_can_55 : decode cX3_can 55 = .ok (.goto 4, 3) := by decide +kernel
theorem dX3_can_58 : decode cX3_can 58 = .ok (.iconst 0, 1) := by decide +kernel
theorem dX3_can_59 : decode cX3_can 59 = .ok (.ireturn, 1) := by decide +kernel
theorem dX3_can_60 : decode cX3_can 60 = .ok (.aload_n 0, 1) := by decide +kernel
theorem dX3_can_61 : decode cX3_can 61 = .ok (.iload_n 2, 1) := by decide +kernel
theorem dX3_can_62 : decode cX3_can 62 = .ok (.invokevirtual 45, 3) := by decide +kernel
theorem dX3_can_65 : decode cX3_can 65 = .ok (.istore_n 3, 1) := by decide +kernel
theorem dX3_can_66 : decode cX3_can 66 = .ok (.iload_n 3, 1) := by decide +kernel
theorem dX3_can_67 : decode cX3_can 67 = .ok (.ifCond .lt 16, 3) := by decide +kernel
theorem dX3_can_70 : decode cX3_can 70 = .ok (.aload_n 0, 1) := by decide +kernel
theorem dX3_can_71 : decode cX3_can 71 = .ok (.getfield 21, 3) := by decide +kernel
theorem dX3_can_74 : decode cX3_can 74 = .ok (.iload_n 3, 1) := by decide +kernel
theorem dX3_can_75 : decode cX3_can 75 = .ok (.iaload, 1) := by decide +kernel
theorem dX3_can_76 : decode cX3_can 76 = .ok (.ifCond .le 7, 3) := by decide +kernel
theorem dX3_can_79 : decode cX3_can 79 = .ok (.iconst 1, 1) := by decide +kernel
theorem dX3_can_80 : decode cX3_can 80 = .ok (.goto 4, 3) := by decide +kernel
theorem dX3_can_83 : decode cX3_can 83 = .ok (.iconst 0, 1) := by decide +kernel
theorem dX3_can_84 : decode cX3_can 84 = .ok (.ireturn, 1) := by decide +kernel
/-- Stage.can -/
theorem c_X3_can {d : List Nat} {T : vT} {M : vM} {a n : Nat} {x : Int} (hK : sgK a) (hT : sgT T a) (hW : sgW M a n) (h0 : 0 ≤ x) (h3 : x ≤ 3) : vCon m_X3_can d d [vR a, vI x] T M (vPi fun r T1 M1 => r = bI (pCan n (M (a + 1)) (M (a + 4)) (M (a + 5) 0) x) ∧ T = T1 ∧ M = M1) := by
  have hcn := hW.cnt
  have hle := hW.le
  have hKK := hK
  have hTT := hT
  obtain ⟨k0, k1, k2, k3, k4, k5⟩ := hK
  obtain ⟨t1, t2, t3, t4, t5⟩ := hT
  refine vCon.of (by decide) rfl rfl (Nat.le_of_ble_eq_true rfl) ?_
  refine vV.aload_n dX3_can_0 rfl ?_
  refine vV.getr dX3_can_1 fl_X3_32 (by first | rfl | assumption) rfl (by first | assumption | exact hB _ _ _ rfl) ?_
  refine vV.iconst dX3_can_4 (by decide) ?_
  refine vV.iald dX3_can_5 (by first | rfl | assumption) (by omega) (by omega) ?_
  refine vV.istore_n (L' := [_, _, _, _]) dX3_can_6 (by decide) rfl ?_
  refine vV.iload_n dX3_can_7 rfl ?_
  have hs8 : (x < 0 ∨ 2 < x) ∨ x = 0 ∨ x = 1 ∨ x = 2 := by omega
  rcases hs8 with h8 | h8 | h8 | h8
  · refine vV.tswD (tgt := 60) dX3_can_8 h8 (by decide) ?_
    refine vV.aload_n dX3_can_60 rfl ?_
    refine vV.iload_n dX3_can_61 rfl ?_
    refine vV.cVi dX3_can_62 ml_X3_45 cw_X3_plateOn iw_X3_plateOn (by first | rfl | assumption) rfl (by unfold vRoom; decide) (c_X3_plateOn hKK hTT hcn hle) rfl rfl (Nat.le_of_ble_eq_true rfl) ?_
    rintro x62 _ _ hx62 ⟨rfl, rfl, rfl⟩
    have hx3 : x = 3 := by omega
    subst hx3
    obtain ⟨r, hr⟩ : ∃ r, pFind (fun j => decide (M (a + 1) j = M (a + 5) 0)) n = r := ⟨_, rfl⟩
    have hp : pCan n (M (a + 1)) (M (a + 4)) (M (a + 5) 0) 3 = pStd (M (a + 4)) r := by unfold pCan pAt; rw [hr]; simp
    have hr2 : ∀ p, r = some p → p < n := fun p e => (pFind_some (hr.trans e)).1
    rw [hr]
    cases r with
    | none =>
      rw [pOr_n]
      refine vV.istore_n (L' := [_, _, _, _]) dX3_can_65 (by decide) rfl ?_
      refine vV.iload_n dX3_can_66 rfl ?_
      refine vV.if_lt (tgt := 83) dX3_can_67 (by decide) (fun h67 => ?_) (fun h67 => ?_)
      · skip
        refine vV.iconst dX3_can_83 (by decide) ?_
        refine vV.rz dX3_can_84 rfl (by first | exact Or.inl rfl | exact Or.inr rfl | assumption) ?_
        rw [hp]; exact ⟨rfl, rfl, rfl⟩
      · skip
        omega
    | some p =>
      have hpn := hr2 p rfl
      rw [pOr_s]
      refine vV.istore_n (L' := [_, _, _, _]) dX3_can_65 (by decide) rfl ?_
      refine vV.iload_n dX3_can_66 rfl ?_
      refine vV.if_lt (tgt := 83) dX3_can_67 (by decide) (fun h67 => ?_) (fun h67 => ?_)
      · skip
        omega
      · skip
        refine vV.aload_n dX3_can_70 rfl ?_
        refine vV.getr dX3_can_71 fl_X3_21 (by first | rfl | assumption) rfl (by first | assumption | exact hB _ _ _ rfl) ?_
        refine vV.iload_n dX3_can_74 rfl ?_
        refine vV.iald dX3_can_75 (by first | rfl | assumption) (by omega) (by omega) ?_
        refine vV.if_le (tgt := 83) dX3_can_76 (by decide) (fun h76 => ?_) (fun h76 => ?_)
        · skip
          refine vV.iconst dX3_can_83 (by decide) ?_
          refine vV.rz dX3_can_84 rfl (by first | exact Or.inl rfl | exact Or.inr rfl | assumption) ?_
          refine ⟨?_, rfl, rfl⟩; rw [hp]; simp [bI, pStd]; omega
        · skip
          refine vV.iconst dX3_can_79 (by decide) ?_
          refine vV.goto (tgt := 84) dX3_can_80 (by decide) ?_
          refine vV.rz dX3_can_84 rfl (by first | exact Or.inl rfl | exact Or.inr rfl | assumption) ?_
          refine ⟨?_, rfl, rfl⟩; rw [hp]; simp [bI, pStd]; omega
    skip
  · refine vV.tsw (tgt := 36) dX3_can_8 (0) h8 (by decide) (by decide) rfl (by decide) ?_
    refine vV.iconst dX3_can_36 (by decide) ?_
    refine vV.rz dX3_can_37 rfl (by first | exact Or.inl rfl | exact Or.inr rfl | assumption) ?_
    exact ⟨by rw [h8]; rfl, rfl, rfl⟩
  · refine vV.tsw (tgt := 38) dX3_can_8 (1) h8 (by decide) (by decide) rfl (by decide) ?_
    refine vV.iload_n dX3_can_38 rfl ?_
    refine vV.if_le (tgt := 46) dX3_can_39 (by decide) (fun h39 => ?_) (fun h39 => ?_)
    · skip
      refine vV.iconst dX3_can_46 (by decide) ?_
      refine vV.rz dX3_can_47 rfl (by first | exact Or.inl rfl | exact Or.inr rfl | assumption) ?_
      refine ⟨?_, rfl, rfl⟩; rw [h8]; simp [pCan, bI]; omega
    · skip
      refine vV.iconst dX3_can_42 (by decide) ?_
      refine vV.goto (tgt := 47) dX3_can_43 (by decide) ?_
      refine vV.rz dX3_can_47 rfl (by first | exact Or.inl rfl | exact Or.inr rfl | assumption) ?_
      refine ⟨?_, rfl, rfl⟩; rw [h8]; simp [pCan, bI]; omega
  · refine vV.tsw (tgt := 48) dX3_can_8 (2) h8 (by decide) (by decide) rfl (by decide) ?_
    refine vV.iload_n dX3_can_48 rfl ?_
    refine vV.bipush (v := 7) dX3_can_49 (by decide) (by decide) ?_
    refine vV.icmp_ge (tgt := 58) dX3_can_51 (by decide) (fun h51 => ?_) (fun h51 => ?_)
    · skip
      refine vV.iconst dX3_can_58 (by decide) ?_
      refine vV.rz dX3_can_59 rfl (by first | exact Or.inl rfl | exact Or.inr rfl | assumption) ?_
      refine ⟨?_, rfl, rfl⟩; rw [h8]; simp [pCan, bI]; omega
    · skip
      refine vV.iconst dX3_can_54 (by decide) ?_
      refine vV.goto (tgt := 59) dX3_can_55 (by decide) ?_
      refine vV.rz dX3_can_59 rfl (by first | exact Or.inl rfl | exact Or.inr rfl | assumption) ?_
      refine ⟨?_, rfl, rfl⟩; rw [h8]; simp [pCan, bI]; omega
theorem dX3_move_0 : decode cX3_move 0 = .ok (.iload_n 1, 1) := by decide +kernel
theorem dX3_move_1 : decode cX3_move 1 = .ok (.iconst 1, 1) := by decide +kernel
theorem dX3_move_2 : decode cX3_move 2 = .ok (.if_icmp .ne 16, 3) := by decide +kernel
theorem dX3_move_5 : decode cX3_move 5 = .ok (.aload_n 0, 1) := by decide +kernel
theorem dX3_move_6 : decode cX3_move 6 = .ok (.getfield 32, 3) := by decide +kernel
theorem dX3_move_9 : decode cX3_move 9 = .ok (.iconst 0, 1) := by decide +kernel
theorem dX3_move_10 : decode cX3_move 10 = .ok (.dup2, 1) := by decide +kernel
theorem dX3_move_11 : decode cX3_move 11 = .ok (.iaload, 1) := by decide +kernel
theorem dX3_move_12 : decode cX3_move 12 = .ok (.iconst 1, 1) := by decide +kernel
theorem dX3_move_13 : decode cX3_move 13 = .ok (.isub, 1) := by decide +kernel
theorem dX3_move_14 : decode cX3_move 14 = .ok (.iastore, 1) := by decide +kernel
theorem dX3_move_15 : decode cX3_move 15 = .ok (.goto 69, 3) := by decide +kernel
theorem dX3_move_18 : decode cX3_move 18 = .ok (.iload_n 1, 1) := by decide +kernel
theorem dX3_move_19 : decode cX3_move 19 = .ok (.iconst 2, 1) := by decide +kernel
theorem dX3_move_20 : decode cX3_move 20 = .ok (.if_icmp .ne 16, 3) := by decide +kernel
theorem dX3_move_23 : decode cX3_move 23 = .ok (.aload_n 0, 1) := by decide +kernel
theorem dX3_move_24 : decode cX3_move 24 = .ok (.getfield 32, 3) := by decide +kernel
theorem dX3_move_27 : decode cX3_move 27 = .ok (.iconst 0, 1) := by decide +kernel
theorem dX3_move_28 : decode cX3_move 28 = .ok (.dup2, 1) := by decide +kernel
theorem dX3_move_29 : decode cX3_move 29 = .ok (.iaload, 1) := by decide +kernel
theorem dX3_move_30 : decode cX3_move 30 = .ok (.iconst 1, 1) := by decide +kernel
theorem dX3_move_31 : decode cX3_move 31 = .ok (.iadd, 1) := by decide +kernel
theorem dX3_move_32 : decode cX3_move 32 = .ok (.iastore, 1) := by decide +kernel
theorem dX3_move_33 : decode cX3_move 33 = .ok (.goto 51, 3) := by decide +kernel
theorem dX3_move_36 : decode cX3_move 36 = .ok (.iload_n 1, 1) := by decide +kernel
theorem dX3_move_37 : decode cX3_move 37 = .ok (.iconst 3, 1) := by decide +kernel
theorem dX3_move_38 : decode cX3_move 38 = .ok (.if_icmp .ne 46, 3) := by decide +kernel
theorem dX3_move_41 : decode cX3_move 41 = .ok (.aload_n 0, 1) := by decide +kernel
theorem dX3_move_42 : decode cX3_move 42 = .ok (.aload_n 0, 1) := by decide +kernel
theorem dX3_move_43 : decode cX3_move 43 = .ok (.getfield 32, 3) := by decide +kernel
theorem dX3_move_46 : decode cX3_move 46 = .ok (.iconst 0, 1) := by decide +kernel
theorem dX3_move_47 : decode cX3_move 47 = .ok (.iaload, 1) := by decide +kernel
theorem dX3_move_48 : decode cX3_move 48 = .ok (.invokevirtual 45, 3) := by decide +kernel
theorem dX3_move_51 : decode cX3_move 51 = .ok (.istore_n 2, 1) := by decide +kernel
theorem dX3_move_52 : decode cX3_move 52 = .ok (.iload_n 2, 1) := by decide +kernel
theorem dX3_move_53 : decode cX3_move 53 = .ok (.ifCond .lt 31, 3) := by decide +kernel
theorem dX3_move_56 : decode cX3_move 56 = .ok (.aload_n 0, 1) := by decide +kernel
theorem dX3_move_57 : decode cX3_move 57 = .ok (.getfield 21, 3) := by decide +kernel
theorem dX3_move_60 : decode cX3_move 60 = .ok (.iload_n 2, 1) := by decide +kernel
theorem dX3_move_61 : decode cX3_move 61 = .ok (.aload_n 0, 1) := by decide +kernel
theorem dX3_move_62 : decode cX3_move 62 = .ok (.getfield 15, 3) := by decide +kernel
theorem dX3_move_65 : decode cX3_move 65 = .ok (.iload_n 2, 1) := by decide +kernel
theorem dX3_move_66 : decode cX3_move 66 = .ok (.iaload, 1) := by decide +kernel
theorem dX3_move_67 : decode cX3_move 67 = .ok (.aload_n 0, 1) := by decide +kernel
theorem dX3_move_68 : decode cX3_move 68 = .ok (.getfield 21, 3) := by decide +kernel
theorem dX3_move_71 : decode cX3_move 71 = .ok (.iload_n 2, 1) := by decide +kernel
theorem dX3_move_72 : decode cX3_move 72 = .ok (.iaload, 1) := by decide +kernel
theorem dX3_move_73 : decode cX3_move 73 = .ok (.aload_n 0, 1) := by decide +kernel
theorem dX3_move_74 : decode cX3_move 74 = .ok (.getfield 32, 3) := by decide +kernel
theorem dX3_move_77 : decode cX3_move 77 = .ok (.iconst 1, 1) := by decide +kernel
theorem dX3_move_78 : decode cX3_move 78 = .ok (.iaload, 1) := by decide +kernel
theorem dX3_move_79 : decode cX3_move 79 = .ok (.iadd, 1) := by decide +kernel
theorem dX3_move_80 : decode cX3_move 80 = .ok (.invokestatic 56, 3) := by decide +kernel
theorem dX3_move_83 : decode cX3_move 83 = .ok (.iastore, 1) := by decide +kernel
theorem dX3_move_84 : decode cX3_move 84 = .ok (.return_, 1) := by decide +kernel
def sgMv (M : vM) (a n : Nat) (x : Int) : vM := vRow (vRow M (a + 5) (fSet (M (a + 5)) 0 (pMan (M (a + 5) 0) x))) (a + 4) (pWind n (M (a + 1)) (M (a + 2)) (M (a + 4)) (M (a + 5) 0) (M (a + 5) 1) x)
/-- Stage.move -/
theorem c_X3_move {d : List Nat} {T : vT} {M : vM} {a n : Nat} {x : Int} (hK : sgK a) (hT : sgT T a) (hW : sgW M a n) : vCon m_X3_move d d [vR a, vI x] T M (vPv fun T1 M1 => T = T1 ∧ M1 = sgMv M a n x) := by
  have hcn := hW.cnt
  have hle := hW.le
  have htu := hW.tu
  have hKK := hK
  have hTT := hT
  obtain ⟨-, -, -, -, -, hfu, -, -, hs0, hs1, -⟩ := hW
  obtain ⟨k0, k1, k2, k3, k4, k5⟩ := hK
  obtain ⟨t1, t2, t3, t4, t5⟩ := hT
  refine vCon.of (by decide) rfl rfl (Nat.le_of_ble_eq_true rfl) ?_
  refine vV.iload_n dX3_move_0 rfl ?_
  refine vV.iconst dX3_move_1 (by decide) ?_
  refine vV.icmp_ne (tgt := 18) dX3_move_2 (by decide) (fun h2 => ?_) (fun h2 => ?_)
  · skip
    refine vV.iload_n dX3_move_18 rfl ?_
    refine vV.iconst dX3_move_19 (by decide) ?_
    refine vV.icmp_ne (tgt := 36) dX3_move_20 (by decide) (fun h20 => ?_) (fun h20 => ?_)
    · skip
      refine vV.iload_n dX3_move_36 rfl ?_
      refine vV.iconst dX3_move_37 (by decide) ?_
      refine vV.icmp_ne (tgt := 84) dX3_move_38 (by decide) (fun h38 => ?_) (fun h38 => ?_)
      · skip
        refine vV.rv dX3_move_84 rfl ?_
        refine ⟨rfl, ?_⟩; unfold sgMv; first | (simp [pMan, pWind, vUpd_r]; rw [← vRow_n (M := M) (k := a + 5) (a := a + 4) (by omega), vRow_id]; done) | (unfold pMan pWind; rw [if_neg h2, if_neg h20, if_neg h38, fSet_id, vRow_id, vRow_id])
      · skip
        refine vV.aload_n dX3_move_41 rfl ?_
        refine vV.aload_n dX3_move_42 rfl ?_
        refine vV.getr dX3_move_43 fl_X3_32 (by first | rfl | assumption) rfl (by first | assumption | exact hB _ _ _ rfl) ?_
        refine vV.iconst dX3_move_46 (by decide) ?_
        refine vV.iald dX3_move_47 (by first | rfl | assumption) (by omega) (by omega) ?_
        refine vV.cVi dX3_move_48 ml_X3_45 cw_X3_plateOn iw_X3_plateOn (by first | rfl | assumption) rfl (by unfold vRoom; decide) (c_X3_plateOn hKK hTT hcn hle) rfl rfl (Nat.le_of_ble_eq_true rfl) ?_
        rintro x48 _ _ hx48 ⟨rfl, rfl, rfl⟩
        obtain ⟨r, hr⟩ : ∃ r, pFind (fun j => decide (M (a + 1) j = M (a + 5) 0)) n = r := ⟨_, rfl⟩
        have hr2 : ∀ p, r = some p → p < n := fun p e => (pFind_some (hr.trans e)).1
        rw [hr]
        cases r with
        | none =>
          rw [pOr_n]
          refine vV.istore_n (L' := [_, _, _]) dX3_move_51 (by decide) rfl ?_
          refine vV.iload_n dX3_move_52 rfl ?_
          refine vV.if_lt (tgt := 84) dX3_move_53 (by decide) (fun h53 => ?_) (fun h53 => ?_)
          · skip
            refine vV.rv dX3_move_84 rfl ?_
            refine ⟨rfl, ?_⟩; subst h38; unfold sgMv pWind pAt; rw [hr]; simp [pMan, pWd, fSet_id, vRow_id]
          · skip
            omega
        | some p =>
          have hpn := hr2 p rfl
          have b1 := hfu p
          have b2 := htu p
          rw [pOr_s]
          refine vV.istore_n (L' := [_, _, _]) dX3_move_51 (by decide) rfl ?_
          refine vV.iload_n dX3_move_52 rfl ?_
          refine vV.if_lt (tgt := 84) dX3_move_53 (by decide) (fun h53 => ?_) (fun h53 => ?_)
          · skip
            omega
          · skip
            refine vV.aload_n dX3_move_56 rfl ?_
            refine vV.getr dX3_move_57 fl_X3_21 (by first | rfl | assumption) rfl (by first | assumption | exact hB _ _ _ rfl) ?_
            refine vV.iload_n dX3_move_60 rfl ?_
            refine vV.aload_n dX3_move_61 rfl ?_
            refine vV.getr dX3_move_62 fl_X3_15 (by first | rfl | assumption) rfl (by first | assumption | exact hB _ _ _ rfl) ?_
            refine vV.iload_n dX3_move_65 rfl ?_
            refine vV.iald dX3_move_66 (by first | rfl | assumption) (by omega) (by omega) ?_
            refine vV.aload_n dX3_move_67 rfl ?_
            refine vV.getr dX3_move_68 fl_X3_21 (by first | rfl | assumption) rfl (by first | assumption | exact hB _ _ _ rfl) ?_
            refine vV.iload_n dX3_move_71 rfl ?_
            refine vV.iald dX3_move_72 (by first | rfl | assumption) (by omega) (by omega) ?_
            refine vV.aload_n dX3_move_73 rfl ?_
            refine vV.getr dX3_move_74 fl_X3_32 (by first | rfl | assumption) rfl (by first | assumption | exact hB _ _ _ rfl) ?_
            refine vV.iconst dX3_move_77 (by decide) ?_
            refine vV.iald dX3_move_78 (by first | rfl | assumption) (by omega) (by omega) ?_
            refine vV.iadd dX3_move_79 (⟨by omega, by omega⟩) ?_
            refine vV.mmin dX3_move_80 ml_X3_56 mm_min (by decide) (Nat.le_of_ble_eq_true rfl) ?_
            refine vV.iast dX3_move_83 (by first | rfl | assumption) (by omega) (by omega) ?_
            refine vV.rv dX3_move_84 rfl ?_
            refine ⟨rfl, ?_⟩; subst h38; unfold sgMv pWind pAt; rw [hr]; simp [pMan, pWd, fSet_id, vRow_id, vUpd_r]
        skip
    · skip
      subst h20
      refine vV.aload_n dX3_move_23 rfl ?_
      refine vV.getr dX3_move_24 fl_X3_32 (by first | rfl | assumption) rfl (by first | assumption | exact hB _ _ _ rfl) ?_
      refine vV.iconst dX3_move_27 (by decide) ?_
      refine vV.dup2 dX3_move_28 rfl rfl ?_
      refine vV.iald dX3_move_29 (by first | rfl | assumption) (by omega) (by omega) ?_
      refine vV.iconst dX3_move_30 (by decide) ?_
      refine vV.iadd dX3_move_31 (⟨by omega, by omega⟩) ?_
      refine vV.iast dX3_move_32 (by first | rfl | assumption) (by omega) (by omega) ?_
      refine vV.goto (tgt := 84) dX3_move_33 (by decide) ?_
      refine vV.rv dX3_move_84 rfl ?_
      refine ⟨rfl, ?_⟩; unfold sgMv; first | (simp [pMan, pWind, vUpd_r]; rw [← vRow_n (M := M) (k := a + 5) (a := a + 4) (by omega), vRow_id]; done) | (unfold pMan pWind; rw [if_neg h2, if_neg h20, if_neg h38, fSet_id, vRow_id, vRow_id])
  · skip
    subst h2
    refine vV.aload_n dX3_move_5 rfl ?_
    refine vV.getr dX3_move_6 fl_X3_32 (by first | rfl | assumption) rfl (by first | assumption | exact hB _ _ _ rfl) ?_
    refine vV.iconst dX3_move_9 (by decide) ?_
    refine vV.dup2 dX3_move_10 rfl rfl ?_
    refine vV.iald dX3_move_11 (by first | rfl | assumption) (by omega) (by omega) ?_
    refine vV.iconst dX3_move_12 (by decide) ?_
    refine vV.isub dX3_move_13 (⟨by omega, by omega⟩) ?_
    refine vV.iast dX3_move_14 (by first | rfl | assumption) (by omega) (by omega) ?_
    refine vV.goto (tgt := 84) dX3_move_15 (by decide) ?_
    refine vV.rv dX3_move_84 rfl ?_
    refine ⟨rfl, ?_⟩; unfold sgMv; first | (simp [pMan, pWind, vUpd_r]; rw [← vRow_n (M := M) (k := a + 5) (a := a + 4) (by omega), vRow_id]; done) | (unfold pMan pWind; rw [if_neg h2, if_neg h20, if_neg h38, fSet_id, vRow_id, vRow_id])
theorem dX3_act_0 : decode cX3_act 0 = .ok (.aload_n 0, 1) := by decide +kernel
theorem dX3_act_1 : decode cX3_act 1 = .ok (.iload_n 1, 1) := by decide +kernel
theorem dX3_act_2 : decode cX3_act 2 = .ok (.invokevirtual 49, 3) := by decide +kernel
theorem dX3_act_5 : decode cX3_act 5 = .ok (.aload_n 0, 1) := by decide +kernel
theorem dX3_act_6 : decode cX3_act 6 = .ok (.invokevirtual 53, 3) := by decide +kernel
theorem dX3_act_9 : decode cX3_act 9 = .ok (.return_, 1) := by decide +kernel
def sgAct (M : vM) (a n : Nat) (x : Int) : vM := vRow (vRow M (a + 5) (fSet (M (a + 5)) 0 (pMan (M (a + 5) 0) x))) (a + 4) (pDown n (M (a + 3)) (pWind n (M (a + 1)) (M (a + 2)) (M (a + 4)) (M (a + 5) 0) (M (a + 5) 1) x))
theorem pWind_rg {n : Nat} {pl fu fa tu se : Int → Int} (h : pW n pl fu fa tu se) (x : Int) (j : Int) : 0 ≤ pWind n pl fu tu (se 0) (se 1) x j ∧ pWind n pl fu tu (se 0) (se 1) x j ≤ fu j := by
  obtain ⟨-, -, -, -, hfu, hfa, htu, hs0, hs1, -⟩ := h
  have h1 := htu j
  unfold pWind
  split
  · cases pAt n pl (se 0) with
    | none => exact h1
    | some p =>
      show 0 ≤ fSet _ _ _ j ∧ fSet _ _ _ j ≤ _
      unfold fSet
      split
      · rename_i hj; subst hj; have := hfu p; have := htu p; omega
      · exact h1
  · exact h1
theorem pDown_rg {n : Nat} {fa tu fu : Int → Int} (hfa : ∀ j, 0 ≤ fa j) (h : ∀ j, 0 ≤ tu j ∧ tu j ≤ fu j) (j : Int) : 0 ≤ pDown n fa tu j ∧ pDown n fa tu j ≤ fu j := by
  have := h j; have := hfa j
  unfold pDown; split <;> omega
/-- a tick that can be done leaves the rows as told -/
theorem pW_act {n : Nat} {pl fu fa tu se : Int → Int} (h : pW n pl fu fa tu se) {x : Int} (hc : pCan n pl tu (se 0) x = true) : pW n pl fu fa (pDown n fa (pWind n pl fu tu (se 0) (se 1) x)) (fSet se 0 (pMan (se 0) x)) := by
  have hw := pWind_rg h x
  obtain ⟨h1, h2, h3, h4, h5, h6, h7, h8, h9, h10, h11, h12, h13, h14⟩ := h
  have hd := pDown_rg (n := n) (fa := fa) (fun j => (h6 j).1) hw
  refine ⟨h1, fun j hj => ?_, fun j hj => ?_, h4, h5, h6, hd, ?_, ?_, ?_, ?_, ?_, h13, h14⟩
  · obtain ⟨a1, a2, a3, a4⟩ := h2 j hj
    have := hd j
    exact ⟨a1, a2, a3, by omega⟩
  · rw [fSet_n (by omega)]; exact h3 j hj
  · rw [fSet_s]
    unfold pMan; unfold pCan at hc
    by_cases c1 : x = 1
    · subst c1; simp at hc ⊢; omega
    · by_cases c2 : x = 2
      · subst c2; simp at hc ⊢; omega
      · simp [c1, c2]; omega
  · rw [fSet_n (by omega)]; exact h9
  · rw [fSet_n (by omega)]; exact h10
  · rw [fSet_n (by omega)]; exact h11
  · rw [fSet_n (by omega)]; exact h12
theorem sgW_act {M : vM} {a n : Nat} (h : sgW M a n) {x : Int} (hc : pCan n (M (a + 1)) (M (a + 4)) (M (a + 5) 0) x = true) : sgW (sgAct M a n x) a n := by
  refine ⟨?_, ?_⟩
  · unfold sgAct; rw [vRow_n (by omega), vRow_n (by omega)]; exact h.1
  · have := pW_act h.2 hc
    unfold sgAct
    rw [vRow_s, vRow_n (a := a + 1) (by omega), vRow_n (a := a + 1) (by omega), vRow_n (a := a + 2) (by omega), vRow_n (a := a + 2) (by omega), vRow_n (a := a + 3) (by omega), vRow_n (a := a + 3) (by omega), vRow_n (a := a + 5) (by omega), vRow_s]
    exact this
/-- Stage.act -/
theorem c_X3_act {d : List Nat} {T : vT} {M : vM} {a n : Nat} {x : Int} (hK : sgK a) (hT : sgT T a) (hW : sgW M a n) : vCon m_X3_act d d [vR a, vI x] T M (vPv fun T1 M1 => T = T1 ∧ M1 = sgAct M a n x) := by
  have hle := hW.le
  have hw := pWind_rg hW.2 x
  have hfu := hW.2.2.2.2.2.1
  have hfa := hW.fa
  have e0 : sgMv M a n x a 0 = n := by unfold sgMv; rw [vRow_n (by omega), vRow_n (by omega)]; exact hW.cnt
  have e3 : sgMv M a n x (a + 3) = M (a + 3) := by unfold sgMv; rw [vRow_n (by omega), vRow_n (by omega)]
  have e4 : sgMv M a n x (a + 4) = pWind n (M (a + 1)) (M (a + 2)) (M (a + 4)) (M (a + 5) 0) (M (a + 5) 1) x := by unfold sgMv; rw [vRow_s]
  have k0 := hK.1
  refine vCon.of (by decide) rfl rfl (Nat.le_of_ble_eq_true rfl) ?_
  refine vV.aload_n dX3_act_0 rfl ?_
  refine vV.iload_n dX3_act_1 rfl ?_
  refine vV.cVv dX3_act_2 ml_X3_49 cw_X3_move iw_X3_move (by first | rfl | assumption) rfl (by unfold vRoom; decide) (c_X3_move hK hT hW) rfl rfl (Nat.le_of_ble_eq_true rfl) ?_
  rintro _ _ ⟨rfl, rfl⟩
  refine vV.aload_n dX3_act_5 rfl ?_
  refine vV.cVv dX3_act_6 ml_X3_53 cw_X3_runDown iw_X3_runDown (by first | rfl | assumption) rfl (by unfold vRoom; decide) (c_X3_runDown hK hT e0 hle (fun j => by rw [e4]; have := hw j; have := hfu j; omega) (fun j => by rw [e3]; exact hfa j)) rfl rfl (Nat.le_of_ble_eq_true rfl) ?_
  rintro _ _ ⟨rfl, rfl⟩
  refine vV.rv dX3_act_9 rfl ?_
  refine ⟨rfl, ?_⟩; rw [e3, e4]; unfold sgMv sgAct; rw [vRow_vRow]
theorem dX3_copyFrom_0 : decode cX3_copyFrom 0 = .ok (.aload_n 0, 1) := by decide +kernel
theorem dX3_copyFrom_1 : decode cX3_copyFrom 1 = .ok (.aload_n 1, 1) := by decide +kernel
theorem dX3_copyFrom_2 : decode cX3_copyFrom 2 = .ok (.getfield 35, 3) := by decide +kernel
theorem dX3_copyFrom_5 : decode cX3_copyFrom 5 = .ok (.putfield 35, 3) := by decide +kernel
theorem dX3_copyFrom_8 : decode cX3_copyFrom 8 = .ok (.aload_n 1, 1) := by decide +kernel
theorem dX3_copyFrom_9 : decode cX3_copyFrom 9 = .ok (.getfield 9, 3) := by decide +kernel
theorem dX3_copyFrom_12 : decode cX3_copyFrom 12 = .ok (.iconst 0, 1) := by decide +kernel
theorem dX3_copyFrom_13 : decode cX3_copyFrom 13 = .ok (.aload_n 0, 1) := by decide +kernel
theorem dX3_copyFrom_14 : decode cX3_copyFrom 14 = .ok (.getfield 9, 3) := by decide +kernel
theorem dX3_copyFrom_17 : decode cX3_copyFrom 17 = .ok (.iconst 0, 1) := by decide +kernel
theorem dX3_copyFrom_18 : decode cX3_copyFrom 18 = .ok (.bipush 6, 2) := by decide +kernel
theorem dX3_copyFrom_20 : decode cX3_copyFrom 20 = .ok (.invokestatic 39, 3) := by decide +kernel
theorem dX3_copyFrom_23 : decode cX3_copyFrom 23 = .ok (.aload_n 1, 1) := by decide +kernel
theorem dX3_copyFrom_24 : decode cX3_copyFrom 24 = .ok (.getfield 15, 3) := by decide +kernel
theorem dX3_copyFrom_27 : decode cX3_copyFrom 27 = .ok (.iconst 0, 1) := by decide +kernel
theorem dX3_copyFrom_28 : decode cX3_copyFrom 28 = .ok (.aload_n 0, 1) := by decide +kernel
theorem dX3_copyFrom_29 : decode cX3_copyFrom 29 = .ok (.getfield 15, 3) := by decide +kernel
theorem dX3_copyFrom_32 : decode cX3_copyFrom 32 = .ok (.iconst 0, 1) := by decide +kernel
theorem dX3_copyFrom_33 : decode cX3_copyFrom 33 = .ok (.bipush 6, 2) := by decide +kernel
theorem dX3_copyFrom_35 : decode cX3_copyFrom 35 = .ok (.invokestatic 39, 3) := by decide +kernel
theorem dX3_copyFrom_38 : decode cX3_copyFrom 38 = .ok (.aload_n 1, 1) := by decide +kernel
theorem dX3_copyFrom_39 : decode cX3_copyFrom 39 = .ok (.getfield 18, 3) := by decide +kernel
theorem dX3_copyFrom_42 : decode cX3_copyFrom 42 = .ok (.iconst 0, 1) := by decide +kernel
theorem dX3_copyFrom_43 : decode cX3_copyFrom 43 = .ok (.aload_n 0, 1) := by decide +kernel
theorem dX3_copyFrom_44 : decode cX3_copyFrom 44 = .ok (.getfield 18, 3) := by decide +kernel
theorem dX3_copyFrom_47 : decode cX3_copyFrom 47 = .ok (.iconst 0, 1) := by decide +kernel
theorem dX3_copyFrom_48 : decode cX3_copyFrom 48 = .ok (.bipush 6, 2) := by decide +kernel
theorem dX3_copyFrom_50 : decode cX3_copyFrom 50 = .ok (.invokestatic 39, 3) := by decide +kernel
theorem dX3_copyFrom_53 : decode cX3_copyFrom 53 = .ok (.aload_n 1, 1) := by decide +kernel
theorem dX3_copyFrom_54 : decode cX3_copyFrom 54 = .ok (.getfield 21, 3) := by decide +kernel
theorem dX3_copyFrom_57 : decode cX3_copyFrom 57 = .ok (.iconst 0, 1) := by decide +kernel
theorem dX3_copyFrom_58 : decode cX3_copyFrom 58 = .ok (.aload_n 0, 1) := by decide +kernel
theorem dX3_copyFrom_59 : decode cX3_copyFrom 59 = .ok (.getfield 21, 3) := by decide +kernel
theorem dX3_copyFrom_62 : decode cX3_copyFrom 62 = .ok (.iconst 0, 1) := by decide +kernel
theorem dX3_copyFrom_63 : decode cX3_copyFrom 63 = .ok (.bipush 6, 2) := by decide +kernel
theorem dX3_copyFrom_65 : decode cX3_copyFrom 65 = .ok (.invokestatic 39, 3) := by decide +kernel
theorem dX3_copyFrom_68 : decode cX3_copyFrom 68 = .ok (.aload_n 1, 1) := by decide +kernel
theorem dX3_copyFrom_69 : decode cX3_copyFrom 69 = .ok (.getfield 32, 3) := by decide +kernel
theorem dX3_copyFrom_72 : decode cX3_copyFrom 72 = .ok (.iconst 0, 1) := by decide +kernel
theorem dX3_copyFrom_73 : decode cX3_copyFrom 73 = .ok (.aload_n 0, 1) := by decide +kernel
theorem dX3_copyFrom_74 : decode cX3_copyFrom 74 = .ok (.getfield 32, 3) := by decide +kernel
theorem dX3_copyFrom_77 : decode cX3_copyFrom 77 = .ok (.iconst 0, 1) := by decide +kernel
theorem dX3_copyFrom_78 : decode cX3_copyFrom 78 = .ok (.iconst 5, 1) := by decide +kernel
theorem dX3_copyFrom_79 : decode cX3_copyFrom 79 = .ok (.invokestatic 39, 3) := by decide +kernel
theorem dX3_copyFrom_82 : decode cX3_copyFrom 82 = .ok (.return_, 1) := by decide +kernel
def sgCp (M : vM) (a b : Nat) : vM := vRow (vRow (vRow (vRow (vRow (vRow M a (fSet (M a) 0 (M b 0))) (a + 1) (M (b + 1))) (a + 2) (M (b + 2))) (a + 3) (M (b + 3))) (a + 4) (M (b + 4))) (a + 5) (M (b + 5))
theorem cp_eq {f g : Int → Int} {n : Int} (hf : ∀ j, (j < 0 ∨ n ≤ j) → f j = 0) (hg : ∀ j, (j < 0 ∨ n ≤ j) → g j = 0) : (fun j => if 0 ≤ j ∧ j < n then f j else g j) = f := by
  funext j
  split
  · rfl
  · rw [hf j (by omega), hg j (by omega)]
/-- rows outside their places are 0 -/
def sgZ (M : vM) (a : Nat) : Prop := (∀ j, (j < 0 ∨ 6 ≤ j) → M (a + 1) j = 0 ∧ M (a + 2) j = 0 ∧ M (a + 3) j = 0 ∧ M (a + 4) j = 0) ∧ ∀ j, (j < 0 ∨ 5 ≤ j) → M (a + 5) j = 0
theorem sgW.z {M : vM} {a n : Nat} (h : sgW M a n) : sgZ M a := ⟨h.2.2.1, h.2.2.2.1⟩
/-- Stage.copyFrom -/
theorem c_X3_copyFrom {d : List Nat} {T : vT} {M : vM} {a b : Nat} (hK : sgK a) (hT : sgT T a) (hKb : sgK b) (hTb : sgT T b) (hab : a + 5 < b ∨ b + 5 < a) (hZ : sgZ M a) (hZb : sgZ M b) : vCon m_X3_copyFrom d d [vR a, vR b] T M (vPv fun T1 M1 => T = T1 ∧ M1 = sgCp M a b) := by
  obtain ⟨k0, k1, k2, k3, k4, k5⟩ := hK
  obtain ⟨t1, t2, t3, t4, t5⟩ := hT
  obtain ⟨q0, q1, q2, q3, q4, q5⟩ := hKb
  obtain ⟨r1, r2, r3, r4, r5⟩ := hTb
  refine vCon.of (by decide) rfl rfl (Nat.le_of_ble_eq_true rfl) ?_
  refine vV.aload_n dX3_copyFrom_0 rfl ?_
  refine vV.aload_n dX3_copyFrom_1 rfl ?_
  refine vV.geti (z := 0) dX3_copyFrom_2 fl_X3_35 (by first | rfl | assumption) rfl rfl ?_
  refine vV.puti (z := 0) dX3_copyFrom_5 fl_X3_35 (by first | rfl | assumption) rfl rfl ?_
  rw [vUpd_r]
  refine vV.aload_n dX3_copyFrom_8 rfl ?_
  refine vV.getr dX3_copyFrom_9 fl_X3_9 (by first | rfl | assumption) rfl (by first | assumption | exact hB _ _ _ rfl) ?_
  refine vV.iconst dX3_copyFrom_12 (by decide) ?_
  refine vV.aload_n dX3_copyFrom_13 rfl ?_
  refine vV.getr dX3_copyFrom_14 fl_X3_9 (by first | rfl | assumption) rfl (by first | assumption | exact hB _ _ _ rfl) ?_
  refine vV.iconst dX3_copyFrom_17 (by decide) ?_
  refine vV.bipush (v := 6) dX3_copyFrom_18 (by decide) (by decide) ?_
  refine vV.copy dX3_copyFrom_20 ml_X3_39 mm_ac (by first | rfl | assumption) (by first | rfl | assumption) (by omega) (by omega) (by omega) (by omega) (by omega) (by decide) (Nat.le_of_ble_eq_true rfl) ?_
  rw [vCpy_r, vRow_n (by omega), vRow_n (by omega), cp_eq (fun j h => (hZb.1 j h).1) (fun j h => (hZ.1 j h).1)]
  refine vV.aload_n dX3_copyFrom_23 rfl ?_
  refine vV.getr dX3_copyFrom_24 fl_X3_15 (by first | rfl | assumption) rfl (by first | assumption | exact hB _ _ _ rfl) ?_
  refine vV.iconst dX3_copyFrom_27 (by decide) ?_
  refine vV.aload_n dX3_copyFrom_28 rfl ?_
  refine vV.getr dX3_copyFrom_29 fl_X3_15 (by first | rfl | assumption) rfl (by first | assumption | exact hB _ _ _ rfl) ?_
  refine vV.iconst dX3_copyFrom_32 (by decide) ?_
  refine vV.bipush (v := 6) dX3_copyFrom_33 (by decide) (by decide) ?_
  refine vV.copy dX3_copyFrom_35 ml_X3_39 mm_ac (by first | rfl | assumption) (by first | rfl | assumption) (by omega) (by omega) (by omega) (by omega) (by omega) (by decide) (Nat.le_of_ble_eq_true rfl) ?_
  rw [vCpy_r, vRow_n (by omega), vRow_n (by omega), vRow_n (by omega), vRow_n (by omega), cp_eq (fun j h => (hZb.1 j h).2.1) (fun j h => (hZ.1 j h).2.1)]
  refine vV.aload_n dX3_copyFrom_38 rfl ?_
  refine vV.getr dX3_copyFrom_39 fl_X3_18 (by first | rfl | assumption) rfl (by first | assumption | exact hB _ _ _ rfl) ?_
  refine vV.iconst dX3_copyFrom_42 (by decide) ?_
  refine vV.aload_n dX3_copyFrom_43 rfl ?_
  refine vV.getr dX3_copyFrom_44 fl_X3_18 (by first | rfl | assumption) rfl (by first | assumption | exact hB _ _ _ rfl) ?_
  refine vV.iconst dX3_copyFrom_47 (by decide) ?_
  refine vV.bipush (v := 6) dX3_copyFrom_48 (by decide) (by decide) ?_
  refine vV.copy dX3_copyFrom_50 ml_X3_39 mm_ac (by first | rfl | assumption) (by first | rfl | assumption) (by omega) (by omega) (by omega) (by omega) (by omega) (by decide) (Nat.le_of_ble_eq_true rfl) ?_
  rw [vCpy_r, vRow_n (by omega), vRow_n (by omega), vRow_n (by omega), vRow_n (by omega), vRow_n (by omega), vRow_n (by omega), cp_eq (fun j h => (hZb.1 j h).2.2.1) (fun j h => (hZ.1 j h).2.2.1)]
  refine vV.aload_n dX3_copyFrom_53 rfl ?_
  refine vV.getr dX3_copyFrom_54 fl_X3_21 (by first | rfl | assumption) rfl (by first | assumption | exact hB _ _ _ rfl) ?_
  refine vV.iconst dX3_copyFrom_57 (by decide) ?_
  refine vV.aload_n dX3_copyFrom_58 rfl ?_
  refine vV.getr dX3_copyFrom_59 fl_X3_21 (by first | rfl | assumption) rfl (by first | assumption | exact hB _ _ _ rfl) ?_
  refine vV.iconst dX3_copyFrom_62 (by decide) ?_
  refine vV.bipush (v := 6) dX3_copyFrom_63 (by decide) (by decide) ?_
  refine vV.copy dX3_copyFrom_65 ml_X3_39 mm_ac (by first | rfl | assumption) (by first | rfl | assumption) (by omega) (by omega) (by omega) (by omega) (by omega) (by decide) (Nat.le_of_ble_eq_true rfl) ?_
  rw [vCpy_r, vRow_n (by omega), vRow_n (by omega), vRow_n (by omega), vRow_n (by omega), vRow_n (by omega), vRow_n (by omega), vRow_n (by omega), vRow_n (by omega), cp_eq (fun j h => (hZb.1 j h).2.2.2) (fun j h => (hZ.1 j h).2.2.2)]
  refine vV.aload_n dX3_copyFrom_68 rfl ?_
  refine vV.getr dX3_copyFrom_69 fl_X3_32 (by first | rfl | assumption) rfl (by first | assumption | exact hB _ _ _ rfl) ?_
  refine vV.iconst dX3_copyFrom_72 (by decide) ?_
  refine vV.aload_n dX3_copyFrom_73 rfl ?_
  refine vV.getr dX3_copyFrom_74 fl_X3_32 (by first | rfl | assumption) rfl (by first | assumption | exact hB _ _ _ rfl) ?_
  refine vV.iconst dX3_copyFrom_77 (by decide) ?_
  refine vV.iconst dX3_copyFrom_78 (by decide) ?_
  refine vV.copy dX3_copyFrom_79 ml_X3_39 mm_ac (by first | rfl | assumption) (by first | rfl | assumption) (by omega) (by omega) (by omega) (by omega) (by omega) (by decide) (Nat.le_of_ble_eq_true rfl) ?_
  rw [vCpy_r, vRow_n (by omega), vRow_n (by omega), vRow_n (by omega), vRow_n (by omega), vRow_n (by omega), vRow_n (by omega), vRow_n (by omega), vRow_n (by omega), vRow_n (by omega), vRow_n (by omega), cp_eq hZb.2 hZ.2]
  refine vV.rv dX3_copyFrom_82 rfl ?_
  exact ⟨rfl, rfl⟩
end
section
/-! ===== own: the names that final fields hold; Pad ===== -/
def vBl : List (Nat × Nat) := [(0, 10), (1, 20), (2, 1), (3, 60), (4, 70), (5, 80), (6, 90), (7, 100), (641, 11), (642, 12), (643, 13), (644, 14), (645, 15), (1281, 21), (1282, 22), (1283, 23), (1284, 24), (1285, 25), (1921, 31), (1922, 32), (1923, 33), (1924, 34), (1925, 35), (3841, 61), (3842, 62), (4480, 30), (4486, 76), (4487, 77), (5121, 81), (5122, 82), (5123, 83), (5760, 91), (5761, 92), (6402, 102), (6403, 103), (6404, 104), (12800, 201), (12801, 202), (12802, 203), (12803, 204), (12810, 211), (12811, 212), (12817, 218), (12818, 219), (12819, 220), (12821, 222), (12825, 226), (12826, 227), (12827, 228), (12828, 229), (12830, 231), (12832, 233), (12833, 234), (12834, 235), (12835, 236), (12836, 237), (12837, 238)]
def vBt (k j : Nat) : Option Nat := vBl.lookup (64 * k + j)
def vB (T : vT) : Prop := ∀ k j v, vBt k j = some v → T k j = some v
theorem sgK_10 : sgK 10 := ⟨rfl, rfl, rfl, rfl, rfl, rfl⟩
theorem sgK_20 : sgK 20 := ⟨rfl, rfl, rfl, rfl, rfl, rfl⟩
theorem sgK_30 : sgK 30 := ⟨rfl, rfl, rfl, rfl, rfl, rfl⟩
theorem sgK_40 : sgK 40 := ⟨rfl, rfl, rfl, rfl, rfl, rfl⟩
theorem sgK_50 : sgK 50 := ⟨rfl, rfl, rfl, rfl, rfl, rfl⟩
theorem sgT_10 {T : vT} (h : vB T) : sgT T 10 := ⟨h _ _ _ rfl, h _ _ _ rfl, h _ _ _ rfl, h _ _ _ rfl, h _ _ _ rfl⟩
theorem sgT_20 {T : vT} (h : vB T) : sgT T 20 := ⟨h _ _ _ rfl, h _ _ _ rfl, h _ _ _ rfl, h _ _ _ rfl, h _ _ _ rfl⟩
theorem sgT_30 {T : vT} (h : vB T) : sgT T 30 := ⟨h _ _ _ rfl, h _ _ _ rfl, h _ _ _ rfl, h _ _ _ rfl, h _ _ _ rfl⟩
def pTh (c : Int) : Int := if c = 46 then 0 else if c = 60 then 1 else if c = 62 then 2 else if c = 119 then 3 else -1
def pDg (c : Int) : Bool := decide (50 ≤ c ∧ c ≤ 57)
theorem dX1_thingOf_0 : decode cX1_thingOf 0 = .ok (.iload_n 0, 1) := by decide +kernel
theorem dX1_thingOf_1 : decode cX1_thingOf 1 = .ok (.lookupswitch 51 #[(46, 43), (60, 45), (62, 47), (119, 49)], 43) := by decide +kernel
theorem dX1_thingOf_44 : decode cX1_thingOf 44 = .ok (.iconst 0, 1) := by decide +kernel
theorem dX1_thingOf_45 : decode cX1_thingOf 45 = .ok (.ireturn, 1) := by decide +kernel
theorem dX1_thingOf_46 : decode cX1_thingOf 46 = .ok (.iconst 1, 1) := by decide +kernel
theorem dX1_thingOf_47 : decode cX1_thingOf 47 = .ok (.ireturn, 1) := by decide +kernel
theorem dX1_thingOf_48 : decode cX1_thingOf 48 = .ok (.iconst 2, 1) := by decide +kernel
theorem dX1_thingOf_49 : decode cX1_thingOf 49 = .ok (.ireturn, 1) := by decide +kernel
theorem dX1_thingOf_50 : decode cX1_thingOf 50 = .ok (.iconst 3, 1) := by decide +kernel
theorem dX1_thingOf_51 : decode cX1_thingOf 51 = .ok (.ireturn, 1) := by decide +kernel
theorem dX1_thingOf_52 : decode cX1_thingOf 52 = .ok (.iconst (-1), 1) := by decide +kernel
theorem dX1_thingOf_53 : decode cX1_thingOf 53 = .ok (.ireturn, 1) := by decide +kernel
theorem pTh_rg (c : Int) : -1 ≤ pTh c ∧ pTh c ≤ 3 := by unfold pTh; split <;> (try split) <;> (try split) <;> (try split) <;> omega
/-- Pad.thingOf -/
theorem c_X1_thingOf {d : List Nat} {T : vT} {M : vM} {c : Int} : vCon m_X1_thingOf d d [vI c] T M (vPi fun r T1 M1 => r = pTh c ∧ T = T1 ∧ M = M1) := by
  refine vCon.of (by decide) rfl rfl (Nat.le_of_ble_eq_true rfl) ?_
  refine vV.iload_n dX1_thingOf_0 rfl ?_
  by_cases h1 : c = 46
  · subst h1
    refine vV.lsw (tgt := 44) dX1_thingOf_1 (by decide) (off := 43) (by decide) (by decide) ?_
    refine vV.iconst dX1_thingOf_44 (by decide) ?_
    refine vV.ri dX1_thingOf_45 rfl ?_
    exact ⟨by decide, rfl, rfl⟩
  by_cases h2 : c = 60
  · subst h2
    refine vV.lsw (tgt := 46) dX1_thingOf_1 (by decide) (off := 45) (by decide) (by decide) ?_
    refine vV.iconst dX1_thingOf_46 (by decide) ?_
    refine vV.ri dX1_thingOf_47 rfl ?_
    exact ⟨by decide, rfl, rfl⟩
  by_cases h3 : c = 62
  · subst h3
    refine vV.lsw (tgt := 48) dX1_thingOf_1 (by decide) (off := 47) (by decide) (by decide) ?_
    refine vV.iconst dX1_thingOf_48 (by decide) ?_
    refine vV.ri dX1_thingOf_49 rfl ?_
    exact ⟨by decide, rfl, rfl⟩
  by_cases h4 : c = 119
  · subst h4
    refine vV.lsw (tgt := 50) dX1_thingOf_1 (by decide) (off := 49) (by decide) (by decide) ?_
    refine vV.iconst dX1_thingOf_50 (by decide) ?_
    refine vV.ri dX1_thingOf_51 rfl ?_
    exact ⟨by decide, rfl, rfl⟩
  refine vV.lsw (tgt := 52) dX1_thingOf_1 (by decide) (off := 51) (by show Op.lookupswitch.offset [(46, 43), (60, 45), (62, 47), (119, 49)] 51 c = 51; rw [Op.lookupswitch.offset_cons, if_neg (fun z => h1 z.symm), Op.lookupswitch.offset_cons, if_neg (fun z => h2 z.symm), Op.lookupswitch.offset_cons, if_neg (fun z => h3 z.symm), Op.lookupswitch.offset_cons, if_neg (fun z => h4 z.symm), Op.lookupswitch.offset_nil]) (by decide) ?_
  refine vV.iconst dX1_thingOf_52 (by decide) ?_
  refine vV.ri dX1_thingOf_53 rfl ?_
  refine ⟨?_, rfl, rfl⟩; unfold pTh; rw [if_neg h1, if_neg h2, if_neg h3, if_neg h4]
theorem dX1_isTimes_0 : decode cX1_isTimes 0 = .ok (.iload_n 0, 1) := by decide +kernel
theorem dX1_isTimes_1 : decode cX1_isTimes 1 = .ok (.bipush 50, 2) := by decide +kernel
theorem dX1_isTimes_3 : decode cX1_isTimes 3 = .ok (.if_icmp .lt 13, 3) := by decide +kernel
theorem dX1_isTimes_6 : decode cX1_isTimes 6 = .ok (.iload_n 0, 1) := by decide +kernel
theorem dX1_isTimes_7 : decode cX1_isTimes 7 = .ok (.bipush 57, 2) := by decide +kernel
theorem dX1_isTimes_9 : decode cX1_isTimes 9 = .ok (.if_icmp .gt 7, 3) := by decide +kernel
theorem dX1_isTimes_12 : decode cX1_isTimes 12 = .ok (.iconst 1, 1) := by decide +kernel
theorem dX1_isTimes_13 : decode cX1_isTimes 13 = .ok (.goto 4, 3) := by decide +kernel
theorem dX1_isTimes_16 : decode cX1_isTimes 16 = .ok (.iconst 0, 1) := by decide +kernel
theorem dX1_isTimes_17 : decode cX1_isTimes 17 = .ok (.ireturn, 1) := by decide +kernel
/-- Pad.isTimes -/
theorem c_X1_isTimes {d : List Nat} {T : vT} {M : vM} {c : Int} : vCon m_X1_isTimes d d [vI c] T M (vPi fun r T1 M1 => r = bI (pDg c) ∧ T = T1 ∧ M = M1) := by
  refine vCon.of (by decide) rfl rfl (Nat.le_of_ble_eq_true rfl) ?_
  refine vV.iload_n dX1_isTimes_0 rfl ?_
  refine vV.bipush (v := 50) dX1_isTimes_1 (by decide) (by decide) ?_
  refine vV.icmp_lt (tgt := 16) dX1_isTimes_3 (by decide) (fun h3 => ?_) (fun h3 => ?_)
  · skip
    refine vV.iconst dX1_isTimes_16 (by decide) ?_
    refine vV.rz dX1_isTimes_17 rfl (by first | exact Or.inl rfl | exact Or.inr rfl | assumption) ?_
    refine ⟨?_, rfl, rfl⟩; simp [bI, pDg]; omega
  · skip
    refine vV.iload_n dX1_isTimes_6 rfl ?_
    refine vV.bipush (v := 57) dX1_isTimes_7 (by decide) (by decide) ?_
    refine vV.icmp_gt (tgt := 16) dX1_isTimes_9 (by decide) (fun h9 => ?_) (fun h9 => ?_)
    · skip
      refine vV.iconst dX1_isTimes_16 (by decide) ?_
      refine vV.rz dX1_isTimes_17 rfl (by first | exact Or.inl rfl | exact Or.inr rfl | assumption) ?_
      refine ⟨?_, rfl, rfl⟩; simp [bI, pDg]; omega
    · skip
      refine vV.iconst dX1_isTimes_12 (by decide) ?_
      refine vV.goto (tgt := 17) dX1_isTimes_13 (by decide) ?_
      refine vV.rz dX1_isTimes_17 rfl (by first | exact Or.inl rfl | exact Or.inr rfl | assumption) ?_
      refine ⟨?_, rfl, rfl⟩; simp [bI, pDg]; omega
theorem dX1_add_0 : decode cX1_add 0 = .ok (.aload_n 0, 1) := by decide +kernel
theorem dX1_add_1 : decode cX1_add 1 = .ok (.getfield 18, 3) := by decide +kernel
theorem dX1_add_4 : decode cX1_add 4 = .ok (.bipush 40, 2) := by decide +kernel
theorem dX1_add_6 : decode cX1_add 6 = .ok (.if_icmp .lt 5, 3) := by decide +kernel
theorem dX1_add_9 : decode cX1_add 9 = .ok (.iconst 0, 1) := by decide +kernel
theorem dX1_add_10 : decode cX1_add 10 = .ok (.ireturn, 1) := by decide +kernel
theorem dX1_add_11 : decode cX1_add 11 = .ok (.aload_n 0, 1) := by decide +kernel
theorem dX1_add_12 : decode cX1_add 12 = .ok (.getfield 11, 3) := by decide +kernel
theorem dX1_add_15 : decode cX1_add 15 = .ok (.aload_n 0, 1) := by decide +kernel
theorem dX1_add_16 : decode cX1_add 16 = .ok (.getfield 18, 3) := by decide +kernel
theorem dX1_add_19 : decode cX1_add 19 = .ok (.iload_n 1, 1) := by decide +kernel
theorem dX1_add_20 : decode cX1_add 20 = .ok (.iastore, 1) := by decide +kernel
theorem dX1_add_21 : decode cX1_add 21 = .ok (.aload_n 0, 1) := by decide +kernel
theorem dX1_add_22 : decode cX1_add 22 = .ok (.dup, 1) := by decide +kernel
theorem dX1_add_23 : decode cX1_add 23 = .ok (.getfield 18, 3) := by decide +kernel
theorem dX1_add_26 : decode cX1_add 26 = .ok (.iconst 1, 1) := by decide +kernel
theorem dX1_add_27 : decode cX1_add 27 = .ok (.iadd, 1) := by decide +kernel
theorem dX1_add_28 : decode cX1_add 28 = .ok (.putfield 18, 3) := by decide +kernel
theorem dX1_add_31 : decode cX1_add 31 = .ok (.iconst 1, 1) := by decide +kernel
theorem dX1_add_32 : decode cX1_add 32 = .ok (.ireturn, 1) := by decide +kernel
/-- Pad.add -/
theorem c_X1_add {d : List Nat} {T : vT} {M : vM} {m : Nat} {c : Int} (hB : vB T) (hm : M 60 0 = m) (hle : m ≤ 40) : vCon m_X1_add d d [vR 60, vI c] T M (vPi fun r T1 M1 => r = (if m < 40 then 1 else 0) ∧ T = T1 ∧ M1 = (if m < 40 then vUpd (vUpd M 61 m c) 60 0 (m + 1) else M)) := by
  refine vCon.of (by decide) rfl rfl (Nat.le_of_ble_eq_true rfl) ?_
  refine vV.aload_n dX1_add_0 rfl ?_
  refine vV.geti (z := 0) dX1_add_1 fl_X1_18 (by first | rfl | assumption) rfl rfl ?_
  rw [hm]
  refine vV.bipush (v := 40) dX1_add_4 (by decide) (by decide) ?_
  refine vV.icmp_lt (tgt := 11) dX1_add_6 (by decide) (fun h6 => ?_) (fun h6 => ?_)
  · skip
    refine vV.aload_n dX1_add_11 rfl ?_
    refine vV.getr dX1_add_12 fl_X1_11 (by first | rfl | assumption) rfl (by first | assumption | exact hB _ _ _ rfl) ?_
    refine vV.aload_n dX1_add_15 rfl ?_
    refine vV.geti (z := 0) dX1_add_16 fl_X1_18 (by first | rfl | assumption) rfl rfl ?_
    rw [hm]
    refine vV.iload_n dX1_add_19 rfl ?_
    refine vV.iast dX1_add_20 (by first | rfl | assumption) (by omega) (by omega) ?_
    refine vV.aload_n dX1_add_21 rfl ?_
    refine vV.dup dX1_add_22 rfl ?_
    refine vV.geti (z := 0) dX1_add_23 fl_X1_18 (by first | rfl | assumption) rfl rfl ?_
    rw [vUpd_nk (by omega), hm]
    refine vV.iconst dX1_add_26 (by decide) ?_
    refine vV.iadd dX1_add_27 (⟨by omega, by omega⟩) ?_
    refine vV.puti (z := 0) dX1_add_28 fl_X1_18 (by first | rfl | assumption) rfl rfl ?_
    refine vV.iconst dX1_add_31 (by decide) ?_
    refine vV.rz dX1_add_32 rfl (by first | exact Or.inl rfl | exact Or.inr rfl | assumption) ?_
    rw [if_pos (by omega), if_pos (by omega)]; exact ⟨rfl, rfl, rfl⟩
  · skip
    refine vV.iconst dX1_add_9 (by decide) ?_
    refine vV.rz dX1_add_10 rfl (by first | exact Or.inl rfl | exact Or.inr rfl | assumption) ?_
    rw [if_neg (by omega), if_neg (by omega)]; exact ⟨rfl, rfl, rfl⟩
/-- a thing stands right ahead of the place i -/
def pBh (sg : Int → Int) (i : Nat) : Bool := decide (0 < i ∧ 0 ≤ pTh (sg ((i : Int) - 1)))
theorem pBh_s (sg : Int → Int) (i : Nat) : pBh sg (i + 1) = decide (0 ≤ pTh (sg i)) := by
  unfold pBh; rw [show ((i + 1 : Nat) : Int) - 1 = i by omega]; simp
def pBad (sg : Int → Int) (i : Nat) : Bool := decide (pTh (sg i) < 0) && !(pBh sg i && pDg (sg i))
theorem dX1_firstFault_0 : decode cX1_firstFault 0 = .ok (.iconst 0, 1) := by decide +kernel
theorem dX1_firstFault_1 : decode cX1_firstFault 1 = .ok (.istore_n 1, 1) := by decide +kernel
theorem dX1_firstFault_2 : decode cX1_firstFault 2 = .ok (.iconst 0, 1) := by decide +kernel
theorem dX1_firstFault_3 : decode cX1_firstFault 3 = .ok (.istore_n 2, 1) := by decide +kernel
theorem dX1_firstFault_4 : decode cX1_firstFault 4 = .ok (.iload_n 2, 1) := by decide +kernel
theorem dX1_firstFault_5 : decode cX1_firstFault 5 = .ok (.aload_n 0, 1) := by decide +kernel
theorem dX1_firstFault_6 : decode cX1_firstFault 6 = .ok (.getfield 18, 3) := by decide +kernel
theorem dX1_firstFault_9 : decode cX1_firstFault 9 = .ok (.if_icmp .ge 49, 3) := by decide +kernel
theorem dX1_firstFault_12 : decode cX1_firstFault 12 = .ok (.aload_n 0, 1) := by decide +kernel
theorem dX1_firstFault_13 : decode cX1_firstFault 13 = .ok (.getfield 11, 3) := by decide +kernel
theorem dX1_firstFault_16 : decode cX1_firstFault 16 = .ok (.iload_n 2, 1) := by decide +kernel
theorem dX1_firstFault_17 : decode cX1_firstFault 17 = .ok (.iaload, 1) := by decide +kernel
theorem dX1_firstFault_18 : decode cX1_firstFault 18 = .ok (.invokestatic 22, 3) := by decide +kernel
theorem dX1_firstFault_21 : decode cX1_firstFault 21 = .ok (.ifCond .lt 8, 3) := by decide +kernel
theorem dX1_firstFault_24 : decode cX1_firstFault 24 = .ok (.iconst 1, 1) := by decide +kernel
theorem dX1_firstFault_25 : decode cX1_firstFault 25 = .ok (.istore_n 1, 1) := by decide +kernel
theorem dX1_firstFault_26 : decode cX1_firstFault 26 = .ok (.goto 26, 3) := by decide +kernel
theorem dX1_firstFault_29 : decode cX1_firstFault 29 = .ok (.iload_n 1, 1) := by decide +kernel
theorem dX1_firstFault_30 : decode cX1_firstFault 30 = .ok (.ifCond .eq 20, 3) := by decide +kernel
theorem dX1_firstFault_33 : decode cX1_firstFault 33 = .ok (.aload_n 0, 1) := by decide +kernel
theorem dX1_firstFault_34 : decode cX1_firstFault 34 = .ok (.getfield 11, 3) := by decide +kernel
theorem dX1_firstFault_37 : decode cX1_firstFault 37 = .ok (.iload_n 2, 1) := by decide +kernel
theorem dX1_firstFault_38 : decode cX1_firstFault 38 = .ok (.iaload, 1) := by decide +kernel
theorem dX1_firstFault_39 : decode cX1_firstFault 39 = .ok (.invokestatic 26, 3) := by decide +kernel
theorem dX1_firstFault_42 : decode cX1_firstFault 42 = .ok (.ifCond .eq 8, 3) := by decide +kernel
theorem dX1_firstFault_45 : decode cX1_firstFault 45 = .ok (.iconst 0, 1) := by decide +kernel
theorem dX1_firstFault_46 : decode cX1_firstFault 46 = .ok (.istore_n 1, 1) := by decide +kernel
theorem dX1_firstFault_47 : decode cX1_firstFault 47 = .ok (.goto 5, 3) := by decide +kernel
theorem dX1_firstFault_50 : decode cX1_firstFault 50 = .ok (.iload_n 2, 1) := by decide +kernel
theorem dX1_firstFault_51 : decode cX1_firstFault 51 = .ok (.ireturn, 1) := by decide +kernel
theorem dX1_firstFault_52 : decode cX1_firstFault 52 = .ok (.iinc 2 1, 3) := by decide +kernel
theorem dX1_firstFault_55 : decode cX1_firstFault 55 = .ok (.goto (-51), 3) := by decide +kernel
theorem dX1_firstFault_58 : decode cX1_firstFault 58 = .ok (.iconst (-1), 1) := by decide +kernel
theorem dX1_firstFault_59 : decode cX1_firstFault 59 = .ok (.ireturn, 1) := by decide +kernel
theorem l_X1_firstFault {d : List Nat} {T : vT} {M : vM} {m : Nat} (hB : vB T) (hm : M 60 0 = m) (hle : m ≤ 40) : ∀ p, p ≤ m → (∀ j : Nat, j < p → pBad (M 61) j = false) →
    vV m_X1_firstFault d d (vPi fun r T1 M1 => r = pOr (-1) (pFind (pBad (M 61)) m) ∧ T = T1 ∧ M = M1) 4 [some (vR 60), some (vI (bI (pBh (M 61) p))), some (vI p)] [] d T M := by
  refine vUp ?_
  intro p h2 ih hp
  refine vV.iload_n dX1_firstFault_4 rfl ?_
  refine vV.aload_n dX1_firstFault_5 rfl ?_
  refine vV.geti (z := 0) dX1_firstFault_6 fl_X1_18 (by first | rfl | assumption) rfl rfl ?_
  refine vV.icmp_ge (tgt := 58) dX1_firstFault_9 (by decide) (fun h9 => ?_) (fun h9 => ?_)
  · skip
    refine vV.iconst dX1_firstFault_58 (by decide) ?_
    refine vV.ri dX1_firstFault_59 rfl ?_
    rw [pFind_no (fun j hj => hp j (by omega))]; exact ⟨rfl, rfl, rfl⟩
  · skip
    refine vV.aload_n dX1_firstFault_12 rfl ?_
    refine vV.getr dX1_firstFault_13 fl_X1_11 (by first | rfl | assumption) rfl (by first | assumption | exact hB _ _ _ rfl) ?_
    refine vV.iload_n dX1_firstFault_16 rfl ?_
    refine vV.iald dX1_firstFault_17 (by first | rfl | assumption) (by omega) (by omega) ?_
    refine vV.cSi dX1_firstFault_18 ml_X1_22 cw_X1_thingOf sw_X1_thingOf (by unfold vRoom; decide) c_X1_thingOf rfl rfl (Nat.le_of_ble_eq_true rfl) ?_
    rintro x18 _ _ hx18 ⟨rfl, rfl, rfl⟩
    refine vV.if_lt (tgt := 29) dX1_firstFault_21 (by decide) (fun h21 => ?_) (fun h21 => ?_)
    · skip
      have hb : pBad (M 61) p = !(pBh (M 61) p && pDg (M 61 p)) := by unfold pBad; simp [h21]
      refine vV.iload_n dX1_firstFault_29 rfl ?_
      refine vV.if_eq (tgt := 50) dX1_firstFault_30 (by decide) (fun h30 => ?_) (fun h30 => ?_)
      · skip
        have hbb : pBad (M 61) p = true := by rw [hb]; revert h30; cases pBh (M 61) p <;> simp [bI]
        refine vV.iload_n dX1_firstFault_50 rfl ?_
        refine vV.ri dX1_firstFault_51 rfl ?_
        rw [pFind_yes (p := p) (by omega) hbb hp]; exact ⟨rfl, rfl, rfl⟩
      · skip
        have hbh : pBh (M 61) p = true := by revert h30; cases pBh (M 61) p <;> simp [bI]
        refine vV.aload_n dX1_firstFault_33 rfl ?_
        refine vV.getr dX1_firstFault_34 fl_X1_11 (by first | rfl | assumption) rfl (by first | assumption | exact hB _ _ _ rfl) ?_
        refine vV.iload_n dX1_firstFault_37 rfl ?_
        refine vV.iald dX1_firstFault_38 (by first | rfl | assumption) (by omega) (by omega) ?_
        refine vV.cSi dX1_firstFault_39 ml_X1_26 cw_X1_isTimes sw_X1_isTimes (by unfold vRoom; decide) c_X1_isTimes rfl rfl (Nat.le_of_ble_eq_true rfl) ?_
        rintro x39 _ _ hx39 ⟨rfl, rfl, rfl⟩
        refine vV.if_eq (tgt := 50) dX1_firstFault_42 (by decide) (fun h42 => ?_) (fun h42 => ?_)
        · skip
          have hbb : pBad (M 61) p = true := by rw [hb, hbh]; revert h42; cases pDg (M 61 p) <;> simp [bI]
          refine vV.iload_n dX1_firstFault_50 rfl ?_
          refine vV.ri dX1_firstFault_51 rfl ?_
          rw [pFind_yes (p := p) (by omega) hbb hp]; exact ⟨rfl, rfl, rfl⟩
        · skip
          have hbb : pBad (M 61) p = false := by rw [hb, hbh]; revert h42; cases pDg (M 61 p) <;> simp [bI]
          refine vV.iconst dX1_firstFault_45 (by decide) ?_
          refine vV.istore_n (L' := [_, _, _]) dX1_firstFault_46 (by decide) rfl ?_
          refine vV.goto (tgt := 52) dX1_firstFault_47 (by decide) ?_
          first | (have hs : bI (pBh (M 61) (p + 1)) = 1 := by rw [pBh_s]; simp [bI]; omega) | (have hs : bI (pBh (M 61) (p + 1)) = 0 := by rw [pBh_s]; simp [bI]; omega)
          refine vV.iinc (L' := [_, _, _]) dX1_firstFault_52 (by decide) rfl (⟨by omega, by omega⟩) rfl ?_
          refine vV.goto (tgt := 4) dX1_firstFault_55 (by decide) ?_
          rw [hs] at ih; exact ih (by omega) (fun j hj => (Nat.lt_succ_iff_lt_or_eq.mp hj).elim (hp j) (fun h => by subst h; assumption))
    · skip
      have hb : pBad (M 61) p = false := by unfold pBad; simp; omega
      refine vV.iconst dX1_firstFault_24 (by decide) ?_
      refine vV.istore_n (L' := [_, _, _]) dX1_firstFault_25 (by decide) rfl ?_
      refine vV.goto (tgt := 52) dX1_firstFault_26 (by decide) ?_
      first | (have hs : bI (pBh (M 61) (p + 1)) = 1 := by rw [pBh_s]; simp [bI]; omega) | (have hs : bI (pBh (M 61) (p + 1)) = 0 := by rw [pBh_s]; simp [bI]; omega)
      refine vV.iinc (L' := [_, _, _]) dX1_firstFault_52 (by decide) rfl (⟨by omega, by omega⟩) rfl ?_
      refine vV.goto (tgt := 4) dX1_firstFault_55 (by decide) ?_
      rw [hs] at ih; exact ih (by omega) (fun j hj => (Nat.lt_succ_iff_lt_or_eq.mp hj).elim (hp j) (fun h => by subst h; assumption))
    skip
/-- Pad.firstFault -/
theorem c_X1_firstFault {d : List Nat} {T : vT} {M : vM} {m : Nat} (hB : vB T) (hm : M 60 0 = m) (hle : m ≤ 40) : vCon m_X1_firstFault d d [vR 60] T M (vPi fun r T1 M1 => r = pOr (-1) (pFind (pBad (M 61)) m) ∧ T = T1 ∧ M = M1) := by
  refine vCon.of (by decide) rfl rfl (Nat.le_of_ble_eq_true rfl) ?_
  have h := l_X1_firstFault (d := d) hB hm hle 0 (by omega) (fun j hj => by omega)
  refine vV.iconst dX1_firstFault_0 (by decide) ?_
  refine vV.istore_n (L' := [_, _, _]) dX1_firstFault_1 (by decide) rfl ?_
  refine vV.iconst dX1_firstFault_2 (by decide) ?_
  refine vV.istore_n (L' := [_, _, _]) dX1_firstFault_3 (by decide) rfl ?_
  exact h
/-- the ticks of the first i signs -/
def pL (sg : Int → Int) : Nat → List Int
  | 0 => []
  | i + 1 => if 0 ≤ pTh (sg i) then pL sg i ++ [pTh (sg i)] else pL sg i ++ List.replicate (sg i - 49).toNat ((pL sg i).getLast?.getD 0)
theorem pL_t {sg : Int → Int} {i : Nat} (h : 0 ≤ pTh (sg i)) : pL sg (i + 1) = pL sg i ++ [pTh (sg i)] := by
  show (if _ then _ else _) = _
  rw [if_pos h]
theorem pL_d {sg : Int → Int} {i : Nat} (h : pTh (sg i) < 0) : pL sg (i + 1) = pL sg i ++ List.replicate (sg i - 49).toNat ((pL sg i).getLast?.getD 0) := by
  show (if _ then _ else _) = _
  rw [if_neg (by omega)]
def pNo (sg : Int → Int) (m : Nat) : Prop := ∀ j : Nat, j < m → pBad sg j = false
theorem pNo_d {sg : Int → Int} {m i : Nat} (h : pNo sg m) (hi : i < m) (ht : pTh (sg i) < 0) : pBh sg i = true ∧ 50 ≤ sg i ∧ sg i ≤ 57 := by
  have := h i hi
  unfold pBad at this
  simp [ht, pDg] at this
  exact this
theorem pBh_t {sg : Int → Int} {i : Nat} (h : pBh sg i = true) : ∃ k, i = k + 1 ∧ 0 ≤ pTh (sg k) := by
  unfold pBh at h
  simp at h
  exact ⟨i - 1, by omega, by rw [show ((i - 1 : Nat) : Int) = (i : Int) - 1 by omega]; exact h.2⟩
theorem pL_len {sg : Int → Int} {m : Nat} (h : pNo sg m) : ∀ i, i ≤ m → 2 * (pL sg i).length + (if pBh sg i then 7 else 0) ≤ 9 * i
  | 0, _ => by simp [pL, pBh]
  | i + 1, hi => by
    have h1 := pL_len h i (by omega)
    rw [pBh_s]
    by_cases ht : 0 ≤ pTh (sg i)
    · rw [pL_t ht]; simp [ht]; split at h1 <;> omega
    · obtain ⟨a1, a2, a3⟩ := pNo_d h (show i < m by omega) (by omega)
      rw [pL_d (by omega)]; rw [a1] at h1; simp [ht] at h1 ⊢; omega
/-- a row begins with a list -/
def rHas (f : Int → Int) (l : List Int) : Prop := ∀ (j : Nat) (v : Int), l[j]? = some v → f j = v
theorem rHas_nil (f : Int → Int) : rHas f [] := fun j v h => by simp at h
theorem rHas_app {f : Int → Int} {l : List Int} {x : Int} (h : rHas f l) : rHas (fSet f l.length x) (l ++ [x]) := by
  intro j v hj
  by_cases hl : j < l.length
  · rw [List.getElem?_append_left hl] at hj
    rw [fSet_n (by omega)]; exact h j v hj
  · rw [List.getElem?_append_right (by omega)] at hj
    have hz : j - l.length < 1 := (List.getElem?_eq_some_iff.mp hj).1
    have : j = l.length := by omega
    subst this
    simp at hj
    rw [fSet_s]; exact hj
theorem dX1_read_0 : decode cX1_read 0 = .ok (.iconst 0, 1) := by decide +kernel
theorem dX1_read_1 : decode cX1_read 1 = .ok (.istore_n 1, 1) := by decide +kernel
theorem dX1_read_2 : decode cX1_read 2 = .ok (.iconst 0, 1) := by decide +kernel
theorem dX1_read_3 : decode cX1_read 3 = .ok (.istore_n 2, 1) := by decide +kernel
theorem dX1_read_4 : decode cX1_read 4 = .ok (.iload_n 2, 1) := by decide +kernel
theorem dX1_read_5 : decode cX1_read 5 = .ok (.aload_n 0, 1) := by decide +kernel
theorem dX1_read_6 : decode cX1_read 6 = .ok (.getfield 18, 3) := by decide +kernel
theorem dX1_read_9 : decode cX1_read 9 = .ok (.if_icmp .ge 102, 3) := by decide +kernel
theorem dX1_read_12 : decode cX1_read 12 = .ok (.aload_n 0, 1) := by decide +kernel
theorem dX1_read_13 : decode cX1_read 13 = .ok (.getfield 11, 3) := by decide +kernel
theorem dX1_read_16 : decode cX1_read 16 = .ok (.iload_n 2, 1) := by decide +kernel
theorem dX1_read_17 : decode cX1_read 17 = .ok (.iaload, 1) := by decide +kernel
theorem dX1_read_18 : decode cX1_read 18 = .ok (.invokestatic 22, 3) := by decide +kernel
theorem dX1_read_21 : decode cX1_read 21 = .ok (.istore_n 3, 1) := by decide +kernel
theorem dX1_read_22 : decode cX1_read 22 = .ok (.iload_n 3, 1) := by decide +kernel
theorem dX1_read_23 : decode cX1_read 23 = .ok (.ifCond .ge 6, 3) := by decide +kernel
theorem dX1_read_26 : decode cX1_read 26 = .ok (.goto 79, 3) := by decide +kernel
theorem dX1_read_29 : decode cX1_read 29 = .ok (.iload_n 2, 1) := by decide +kernel
theorem dX1_read_30 : decode cX1_read 30 = .ok (.iconst 1, 1) := by decide +kernel
theorem dX1_read_31 : decode cX1_read 31 = .ok (.iadd, 1) := by decide +kernel
theorem dX1_read_32 : decode cX1_read 32 = .ok (.aload_n 0, 1) := by decide +kernel
theorem dX1_read_33 : decode cX1_read 33 = .ok (.getfield 18, 3) := by decide +kernel
theorem dX1_read_36 : decode cX1_read 36 = .ok (.if_icmp .ge 31, 3) := by decide +kernel
theorem dX1_read_39 : decode cX1_read 39 = .ok (.aload_n 0, 1) := by decide +kernel
theorem dX1_read_40 : decode cX1_read 40 = .ok (.getfield 11, 3) := by decide +kernel
theorem dX1_read_43 : decode cX1_read 43 = .ok (.iload_n 2, 1) := by decide +kernel
theorem dX1_read_44 : decode cX1_read 44 = .ok (.iconst 1, 1) := by decide +kernel
theorem dX1_read_45 : decode cX1_read 45 = .ok (.iadd, 1) := by decide +kernel
theorem dX1_read_46 : decode cX1_read 46 = .ok (.iaload, 1) := by decide +kernel
theorem dX1_read_47 : decode cX1_read 47 = .ok (.invokestatic 26, 3) := by decide +kernel
theorem dX1_read_50 : decode cX1_read 50 = .ok (.ifCond .eq 17, 3) := by decide +kernel
theorem dX1_read_53 : decode cX1_read 53 = .ok (.aload_n 0, 1) := by decide +kernel
theorem dX1_read_54 : decode cX1_read 54 = .ok (.getfield 11, 3) := by decide +kernel
theorem dX1_read_57 : decode cX1_read 57 = .ok (.iload_n 2, 1) := by decide +kernel
theorem dX1_read_58 : decode cX1_read 58 = .ok (.iconst 1, 1) := by decide +kernel
theorem dX1_read_59 : decode cX1_read 59 = .ok (.iadd, 1) := by decide +kernel
theorem dX1_read_60 : decode cX1_read 60 = .ok (.iaload, 1) := by decide +kernel
theorem dX1_read_61 : decode cX1_read 61 = .ok (.bipush 48, 2) := by decide +kernel
theorem dX1_read_63 : decode cX1_read 63 = .ok (.isub, 1) := by decide +kernel
theorem dX1_read_64 : decode cX1_read 64 = .ok (.goto 4, 3) := by decide +kernel
theorem dX1_read_67 : decode cX1_read 67 = .ok (.iconst 1, 1) := by decide +kernel
theorem dX1_read_68 : decode cX1_read 68 = .ok (.istore 4, 2) := by decide +kernel
theorem dX1_read_70 : decode cX1_read 70 = .ok (.iconst 0, 1) := by decide +kernel
theorem dX1_read_71 : decode cX1_read 71 = .ok (.istore 5, 2) := by decide +kernel
theorem dX1_read_73 : decode cX1_read 73 = .ok (.iload 5, 2) := by decide +kernel
theorem dX1_read_75 : decode cX1_read 75 = .ok (.iload 4, 2) := by decide +kernel
theorem dX1_read_77 : decode cX1_read 77 = .ok (.if_icmp .ge 28, 3) := by decide +kernel
theorem dX1_read_80 : decode cX1_read 80 = .ok (.iload_n 1, 1) := by decide +kernel
theorem dX1_read_81 : decode cX1_read 81 = .ok (.aload_n 0, 1) := by decide +kernel
theorem dX1_read_82 : decode cX1_read 82 = .ok (.getfield 15, 3) := by decide +kernel
theorem dX1_read_85 : decode cX1_read 85 = .ok (.arraylength, 1) := by decide +kernel
theorem dX1_read_86 : decode cX1_read 86 = .ok (.if_icmp .ge 19, 3) := by decide +kernel
theorem dX1_read_89 : decode cX1_read 89 = .ok (.aload_n 0, 1) := by decide +kernel
theorem dX1_read_90 : decode cX1_read 90 = .ok (.getfield 15, 3) := by decide +kernel
theorem dX1_read_93 : decode cX1_read 93 = .ok (.iload_n 1, 1) := by decide +kernel
theorem dX1_read_94 : decode cX1_read 94 = .ok (.iload_n 3, 1) := by decide +kernel
theorem dX1_read_95 : decode cX1_read 95 = .ok (.iastore, 1) := by decide +kernel
theorem dX1_read_96 : decode cX1_read 96 = .ok (.iinc 1 1, 3) := by decide +kernel
theorem dX1_read_99 : decode cX1_read 99 = .ok (.iinc 5 1, 3) := by decide +kernel
theorem dX1_read_102 : decode cX1_read 102 = .ok (.goto (-29), 3) := by decide +kernel
theorem dX1_read_105 : decode cX1_read 105 = .ok (.iinc 2 1, 3) := by decide +kernel
theorem dX1_read_108 : decode cX1_read 108 = .ok (.goto (-104), 3) := by decide +kernel
theorem dX1_read_111 : decode cX1_read 111 = .ok (.iload_n 1, 1) := by decide +kernel
theorem dX1_read_112 : decode cX1_read 112 = .ok (.ireturn, 1) := by decide +kernel
theorem rep_s {α : Type} (l : List α) (k : Nat) (x : α) : l ++ List.replicate (k + 1) x = (l ++ List.replicate k x) ++ [x] := by rw [List.replicate_succ', List.append_assoc]
theorem l_X1_read73 {d : List Nat} {T : vT} {M : vM} {i t : Nat} {th : Int} {l : List Int} {Q : Option vA → vT → vM → Prop} (hB : vB T) (hi : i ≤ 40) (hl : l.length + t ≤ 180)
    (hnext : ∀ f, rHas f (l ++ List.replicate t th) → vV m_X1_read d d Q 105 [some (vR 60), some (vI ((l.length + t : Nat) : Int)), some (vI i), some (vI th), some (vI t), some (vI t)] [] d T (vRow M 62 f)) :
    ∀ k, k ≤ t → ∀ f, rHas f (l ++ List.replicate k th) → vV m_X1_read d d Q 73 [some (vR 60), some (vI ((l.length + k : Nat) : Int)), some (vI i), some (vI th), some (vI t), some (vI k)] [] d T (vRow M 62 f) := by
  refine vUp ?_
  intro k hk ih f hf
  refine vV.iload dX1_read_73 rfl ?_
  refine vV.iload dX1_read_75 rfl ?_
  refine vV.icmp_ge (tgt := 105) dX1_read_77 (by decide) (fun h77 => ?_) (fun h77 => ?_)
  · skip
    have : k = t := by omega
    subst this
    exact hnext f hf
  · skip
    refine vV.iload_n dX1_read_80 rfl ?_
    refine vV.aload_n dX1_read_81 rfl ?_
    refine vV.getr dX1_read_82 fl_X1_15 (by first | rfl | assumption) rfl (by first | assumption | exact hB _ _ _ rfl) ?_
    refine vV.alen (v := 180) dX1_read_85 (by first | rfl | assumption) rfl (by decide) ?_
    refine vV.icmp_ge (tgt := 105) dX1_read_86 (by decide) (fun h86 => ?_) (fun h86 => ?_)
    · skip
      omega
    · skip
      refine vV.aload_n dX1_read_89 rfl ?_
      refine vV.getr dX1_read_90 fl_X1_15 (by first | rfl | assumption) rfl (by first | assumption | exact hB _ _ _ rfl) ?_
      refine vV.iload_n dX1_read_93 rfl ?_
      refine vV.iload_n dX1_read_94 rfl ?_
      refine vV.iast dX1_read_95 (by first | rfl | assumption) (by omega) (by omega) ?_
      rw [vUpd_vRow]
      refine vV.iinc (L' := [_, _, _, _, _, _]) dX1_read_96 (by decide) rfl (⟨by omega, by omega⟩) rfl ?_
      refine vV.iinc (L' := [_, _, _, _, _, _]) dX1_read_99 (by decide) rfl (⟨by omega, by omega⟩) rfl ?_
      refine vV.goto (tgt := 73) dX1_read_102 (by decide) ?_
      refine ih (by omega) _ ?_
      rw [rep_s]
      have := rHas_app (x := th) hf
      rw [List.length_append, List.length_replicate] at this
      exact this
/-- what Pad.read has laid ahead of the sign i -/
def cL (sg : Int → Int) (m i : Nat) : List Int := if i < m ∧ pBh sg i = true ∧ pDg (sg i) = true then pL sg (i + 1) else pL sg i
theorem cL_d {sg : Int → Int} {m i : Nat} (h : pNo sg m) (hi : i < m) (ht : pTh (sg i) < 0) : cL sg m i = pL sg (i + 1) ∧ cL sg m (i + 1) = pL sg (i + 1) := by
  obtain ⟨a1, a2, a3⟩ := pNo_d h hi ht
  refine ⟨?_, ?_⟩
  · unfold cL; rw [if_pos ⟨hi, a1, by simp [pDg]; omega⟩]
  · unfold cL; rw [if_neg]; rintro ⟨-, b, -⟩; rw [pBh_s] at b; simp at b; omega
theorem pTh_dg {c : Int} (h : 0 ≤ pTh c) : pDg c = false := by
  unfold pTh at h
  simp [pDg]
  intro h1
  split at h <;> (try split at h) <;> (try split at h) <;> (try split at h) <;> omega
theorem pL_last {sg : Int → Int} {i : Nat} (h : 0 ≤ pTh (sg i)) : (pL sg (i + 1)).getLast?.getD 0 = pTh (sg i) := by rw [pL_t h]; simp
theorem cL_t {sg : Int → Int} {m i : Nat} (hi : i < m) (ht : 0 ≤ pTh (sg i)) : cL sg m i = pL sg i := by
  unfold cL; rw [if_neg]; rintro ⟨-, -, b⟩; rw [pTh_dg ht] at b; cases b
theorem cL_t1 {sg : Int → Int} {m i : Nat} (hi : i < m) (ht : 0 ≤ pTh (sg i)) (h : ¬ (i + 1 < m ∧ pDg (sg ((i : Int) + 1)) = true)) : cL sg m (i + 1) = pL sg i ++ List.replicate 1 (pTh (sg i)) := by
  unfold cL; rw [if_neg]
  · rw [pL_t ht]; rfl
  · rintro ⟨b1, b2, b3⟩; exact h ⟨b1, b3⟩
theorem cL_t2 {sg : Int → Int} {m i : Nat} (hi : i < m) (ht : 0 ≤ pTh (sg i)) (h1 : i + 1 < m) (h2 : pDg (sg ((i : Int) + 1)) = true) : cL sg m (i + 1) = pL sg i ++ List.replicate (sg ((i : Int) + 1) - 48).toNat (pTh (sg i)) := by
  have hc : ((i + 1 : Nat) : Int) = (i : Int) + 1 := by omega
  have hn : pTh (sg ((i + 1 : Nat) : Int)) < 0 := by
    rcases Int.lt_or_le (pTh (sg ((i + 1 : Nat) : Int))) 0 with h | h
    · exact h
    · have := pTh_dg h; rw [hc, h2] at this; cases this
  unfold cL
  rw [if_pos ⟨h1, by rw [pBh_s]; simpa using ht, by rw [hc]; exact h2⟩, pL_d hn, pL_last ht, pL_t ht, List.append_assoc]
  congr 1
  rw [hc]
  simp [pDg] at h2
  rw [show (sg ((i : Int) + 1) - 48).toNat = (sg ((i : Int) + 1) - 49).toNat + 1 by omega, List.replicate_succ]
  rfl
theorem l_X1_read {d : List Nat} {T : vT} {M : vM} {m : Nat} (hB : vB T) (hm : M 60 0 = m) (hle : m ≤ 40) (hno : pNo (M 61) m) : ∀ i, i ≤ m → ∀ f x3 x4 x5, rHas f (cL (M 61) m i) →
    vV m_X1_read d d (vPi fun r T1 M1 => r = ((pL (M 61) m).length : Nat) ∧ T = T1 ∧ ∃ f, M1 = vRow M 62 f ∧ rHas f (pL (M 61) m)) 4 [some (vR 60), some (vI ((cL (M 61) m i).length : Nat)), some (vI i), x3, x4, x5] [] d T (vRow M 62 f) := by
  have em : cL (M 61) m m = pL (M 61) m := by unfold cL; rw [if_neg (by omega)]
  refine vUp ?_
  intro i hi ih f x3 x4 x5 hf
  have e0 : vRow M 62 f 60 0 = m := by rw [vRow_n (by omega)]; exact hm
  have e1 : vRow M 62 f 61 = M 61 := vRow_n (by omega)
  have hlen := pL_len hno i hi
  refine vV.iload_n dX1_read_4 rfl ?_
  refine vV.aload_n dX1_read_5 rfl ?_
  refine vV.geti (z := 0) dX1_read_6 fl_X1_18 (by first | rfl | assumption) rfl rfl ?_
  refine vV.icmp_ge (tgt := 111) dX1_read_9 (by decide) (fun h9 => ?_) (fun h9 => ?_)
  · skip
    refine vV.iload_n dX1_read_111 rfl ?_
    refine vV.ri dX1_read_112 rfl ?_
    rw [show i = m by omega, em] at hf ⊢; exact ⟨rfl, rfl, f, rfl, hf⟩
  · skip
    refine vV.aload_n dX1_read_12 rfl ?_
    refine vV.getr dX1_read_13 fl_X1_11 (by first | rfl | assumption) rfl (by first | assumption | exact hB _ _ _ rfl) ?_
    refine vV.iload_n dX1_read_16 rfl ?_
    refine vV.iald dX1_read_17 (by first | rfl | assumption) (by omega) (by omega) ?_
    refine vV.cSi dX1_read_18 ml_X1_22 cw_X1_thingOf sw_X1_thingOf (by unfold vRoom; decide) c_X1_thingOf rfl rfl (Nat.le_of_ble_eq_true rfl) ?_
    rintro x18 _ _ hx18 ⟨rfl, rfl, rfl⟩
    rw [e1]
    refine vV.istore_n (L' := [_, _, _, _, _, _]) dX1_read_21 (by decide) rfl ?_
    refine vV.iload_n dX1_read_22 rfl ?_
    refine vV.if_ge (tgt := 29) dX1_read_23 (by decide) (fun h23 => ?_) (fun h23 => ?_)
    · skip
      have ht : 0 ≤ pTh (M 61 i) := h23
      rw [cL_t (by omega) ht] at hf ⊢
      refine vV.iload_n dX1_read_29 rfl ?_
      refine vV.iconst dX1_read_30 (by decide) ?_
      refine vV.iadd dX1_read_31 (⟨by omega, by omega⟩) ?_
      refine vV.aload_n dX1_read_32 rfl ?_
      refine vV.geti (z := 0) dX1_read_33 fl_X1_18 (by first | rfl | assumption) rfl rfl ?_
      refine vV.icmp_ge (tgt := 67) dX1_read_36 (by decide) (fun h36 => ?_) (fun h36 => ?_)
      · skip
        have hcl := cL_t1 (m := m) (show i < m by omega) ht (fun z => by omega)
        obtain ⟨t, ht1⟩ : ∃ t : Nat, t = 1 := ⟨1, rfl⟩
        have hcl : cL (M 61) m (i + 1) = pL (M 61) i ++ List.replicate t (pTh (M 61 i)) := by rw [ht1]; exact hcl
        have hnx : ∀ f, rHas f (pL (M 61) i ++ List.replicate t (pTh (M 61 i))) → vV m_X1_read d d (vPi fun r T1 M1 => r = ((pL (M 61) m).length : Nat) ∧ T = T1 ∧ ∃ f, M1 = vRow M 62 f ∧ rHas f (pL (M 61) m)) 105 [some (vR 60), some (vI (((pL (M 61) i).length + t : Nat) : Int)), some (vI i), some (vI (pTh (M 61 i))), some (vI t), some (vI t)] [] d T (vRow M 62 f) := by
          intro g hg
          refine vV.iinc (L' := [_, _, _, _, _, _]) dX1_read_105 (by decide) rfl (⟨by omega, by omega⟩) rfl ?_
          refine vV.goto (tgt := 4) dX1_read_108 (by decide) ?_
          have := ih (by omega) g (some (vI (pTh (M 61 i)))) (some (vI t)) (some (vI t)) (by rw [hcl]; exact hg)
          rw [hcl, List.length_append, List.length_replicate] at this
          exact this
        refine vV.iconst dX1_read_67 (by decide) ?_
        refine vV.istore (L' := [_, _, _, _, _, _]) dX1_read_68 (by decide) rfl ?_
        rw [show (1 : Int) = ((t : Nat) : Int) by omega]
        refine vV.iconst dX1_read_70 (by decide) ?_
        refine vV.istore (L' := [_, _, _, _, _, _]) dX1_read_71 (by decide) rfl ?_
        exact l_X1_read73 hB (by omega) (by omega) (by intro g hg; exact hnx g hg) 0 (by omega) f (by simpa using hf)
      · skip
        refine vV.aload_n dX1_read_39 rfl ?_
        refine vV.getr dX1_read_40 fl_X1_11 (by first | rfl | assumption) rfl (by first | assumption | exact hB _ _ _ rfl) ?_
        refine vV.iload_n dX1_read_43 rfl ?_
        refine vV.iconst dX1_read_44 (by decide) ?_
        refine vV.iadd dX1_read_45 (⟨by omega, by omega⟩) ?_
        refine vV.iald dX1_read_46 (by first | rfl | assumption) (by omega) (by omega) ?_
        refine vV.cSi dX1_read_47 ml_X1_26 cw_X1_isTimes sw_X1_isTimes (by unfold vRoom; decide) c_X1_isTimes rfl rfl (Nat.le_of_ble_eq_true rfl) ?_
        rintro x47 _ _ hx47 ⟨rfl, rfl, rfl⟩
        rw [e1]
        refine vV.if_eq (tgt := 67) dX1_read_50 (by decide) (fun h50 => ?_) (fun h50 => ?_)
        · skip
          have hdg : pDg (M 61 ((i : Int) + 1)) = false := by revert h50; cases pDg (M 61 ((i : Int) + 1)) <;> simp [bI]
          have hcl := cL_t1 (m := m) (show i < m by omega) ht (fun z => by rw [hdg] at z; exact absurd z.2 (by decide))
          obtain ⟨t, ht1⟩ : ∃ t : Nat, t = 1 := ⟨1, rfl⟩
          have hcl : cL (M 61) m (i + 1) = pL (M 61) i ++ List.replicate t (pTh (M 61 i)) := by rw [ht1]; exact hcl
          have hnx : ∀ f, rHas f (pL (M 61) i ++ List.replicate t (pTh (M 61 i))) → vV m_X1_read d d (vPi fun r T1 M1 => r = ((pL (M 61) m).length : Nat) ∧ T = T1 ∧ ∃ f, M1 = vRow M 62 f ∧ rHas f (pL (M 61) m)) 105 [some (vR 60), some (vI (((pL (M 61) i).length + t : Nat) : Int)), some (vI i), some (vI (pTh (M 61 i))), some (vI t), some (vI t)] [] d T (vRow M 62 f) := by
            intro g hg
            refine vV.iinc (L' := [_, _, _, _, _, _]) dX1_read_105 (by decide) rfl (⟨by omega, by omega⟩) rfl ?_
            refine vV.goto (tgt := 4) dX1_read_108 (by decide) ?_
            have := ih (by omega) g (some (vI (pTh (M 61 i)))) (some (vI t)) (some (vI t)) (by rw [hcl]; exact hg)
            rw [hcl, List.length_append, List.length_replicate] at this
            exact this
          refine vV.iconst dX1_read_67 (by decide) ?_
          refine vV.istore (L' := [_, _, _, _, _, _]) dX1_read_68 (by decide) rfl ?_
          rw [show (1 : Int) = ((t : Nat) : Int) by omega]
          refine vV.iconst dX1_read_70 (by decide) ?_
          refine vV.istore (L' := [_, _, _, _, _, _]) dX1_read_71 (by decide) rfl ?_
          exact l_X1_read73 hB (by omega) (by omega) (by intro g hg; exact hnx g hg) 0 (by omega) f (by simpa using hf)
        · skip
          have hdg : pDg (M 61 ((i : Int) + 1)) = true := by revert h50; cases pDg (M 61 ((i : Int) + 1)) <;> simp [bI]
          have hcl := cL_t2 (m := m) (show i < m by omega) ht (by omega) hdg
          have hd2 : 50 ≤ M 61 ((i : Int) + 1) ∧ M 61 ((i : Int) + 1) ≤ 57 := by simpa [pDg] using hdg
          obtain ⟨t, ht1⟩ : ∃ t : Nat, (t : Int) = M 61 ((i : Int) + 1) - 48 := ⟨(M 61 ((i : Int) + 1) - 48).toNat, by omega⟩
          rw [← ht1, Int.toNat_natCast] at hcl
          have hnx : ∀ f, rHas f (pL (M 61) i ++ List.replicate t (pTh (M 61 i))) → vV m_X1_read d d (vPi fun r T1 M1 => r = ((pL (M 61) m).length : Nat) ∧ T = T1 ∧ ∃ f, M1 = vRow M 62 f ∧ rHas f (pL (M 61) m)) 105 [some (vR 60), some (vI (((pL (M 61) i).length + t : Nat) : Int)), some (vI i), some (vI (pTh (M 61 i))), some (vI t), some (vI t)] [] d T (vRow M 62 f) := by
            intro g hg
            refine vV.iinc (L' := [_, _, _, _, _, _]) dX1_read_105 (by decide) rfl (⟨by omega, by omega⟩) rfl ?_
            refine vV.goto (tgt := 4) dX1_read_108 (by decide) ?_
            have := ih (by omega) g (some (vI (pTh (M 61 i)))) (some (vI t)) (some (vI t)) (by rw [hcl]; exact hg)
            rw [hcl, List.length_append, List.length_replicate] at this
            exact this
          refine vV.aload_n dX1_read_53 rfl ?_
          refine vV.getr dX1_read_54 fl_X1_11 (by first | rfl | assumption) rfl (by first | assumption | exact hB _ _ _ rfl) ?_
          refine vV.iload_n dX1_read_57 rfl ?_
          refine vV.iconst dX1_read_58 (by decide) ?_
          refine vV.iadd dX1_read_59 (⟨by omega, by omega⟩) ?_
          refine vV.iald dX1_read_60 (by first | rfl | assumption) (by omega) (by omega) ?_
          rw [e1]
          refine vV.bipush (v := 48) dX1_read_61 (by decide) (by decide) ?_
          refine vV.isub dX1_read_63 (⟨by omega, by omega⟩) ?_
          rw [← ht1]
          refine vV.goto (tgt := 68) dX1_read_64 (by decide) ?_
          refine vV.istore (L' := [_, _, _, _, _, _]) dX1_read_68 (by decide) rfl ?_
          refine vV.iconst dX1_read_70 (by decide) ?_
          refine vV.istore (L' := [_, _, _, _, _, _]) dX1_read_71 (by decide) rfl ?_
          exact l_X1_read73 hB (by omega) (by omega) (by intro g hg; exact hnx g hg) 0 (by omega) f (by simpa using hf)
    · skip
      refine vV.goto (tgt := 105) dX1_read_26 (by decide) ?_
      obtain ⟨c1, c2⟩ := cL_d hno (show i < m by omega) (by omega)
      refine vV.iinc (L' := [_, _, _, _, _, _]) dX1_read_105 (by decide) rfl (⟨by omega, by omega⟩) rfl ?_
      refine vV.goto (tgt := 4) dX1_read_108 (by decide) ?_
      rw [c1] at hf ⊢
      have := ih (by omega) f (some (vI (pTh (M 61 i)))) x4 x5 (by rw [c2]; exact hf)
      rw [c2] at this
      exact this
    skip
/-- Pad.read -/
theorem c_X1_read {d : List Nat} {T : vT} {M : vM} {m : Nat} (hB : vB T) (hm : M 60 0 = m) (hle : m ≤ 40) (hno : pNo (M 61) m) : vCon m_X1_read d d [vR 60] T M (vPi fun r T1 M1 => r = ((pL (M 61) m).length : Nat) ∧ T = T1 ∧ ∃ f, M1 = vRow M 62 f ∧ rHas f (pL (M 61) m)) := by
  refine vCon.of (by decide) rfl rfl (Nat.le_of_ble_eq_true rfl) ?_
  have e : cL (M 61) m 0 = [] := by unfold cL; rw [if_neg]; rfl; rintro ⟨-, b, -⟩; simp [pBh] at b
  have h := fun x3 x4 x5 => l_X1_read (d := d) hB hm hle hno 0 (by omega) (M 62) x3 x4 x5 (by rw [e]; exact rHas_nil _)
  rw [vRow_id, e] at h
  refine vV.iconst dX1_read_0 (by decide) ?_
  refine vV.istore_n (L' := [_, _, _, _, _, _]) dX1_read_1 (by decide) rfl ?_
  refine vV.iconst dX1_read_2 (by decide) ?_
  refine vV.istore_n (L' := [_, _, _, _, _, _]) dX1_read_3 (by decide) rfl ?_
  exact h _ _ _
end
section
/-! ===== own: the reference: its small methods ===== -/
theorem dX7_in_0 : decode cX7_in 0 = .ok (.lload_n 0, 1) := by decide +kernel
theorem dX7_in_1 : decode cX7_in 1 = .ok (.lload_n 2, 1) := by decide +kernel
theorem dX7_in_2 : decode cX7_in 2 = .ok (.lcmp, 1) := by decide +kernel
theorem dX7_in_3 : decode cX7_in 3 = .ok (.ifCond .lt 14, 3) := by decide +kernel
theorem dX7_in_6 : decode cX7_in 6 = .ok (.lload_n 0, 1) := by decide +kernel
theorem dX7_in_7 : decode cX7_in 7 = .ok (.lload 4, 2) := by decide +kernel
theorem dX7_in_9 : decode cX7_in 9 = .ok (.lcmp, 1) := by decide +kernel
theorem dX7_in_10 : decode cX7_in 10 = .ok (.ifCond .gt 7, 3) := by decide +kernel
theorem dX7_in_13 : decode cX7_in 13 = .ok (.iconst 1, 1) := by decide +kernel
theorem dX7_in_14 : decode cX7_in 14 = .ok (.goto 4, 3) := by decide +kernel
theorem dX7_in_17 : decode cX7_in 17 = .ok (.iconst 0, 1) := by decide +kernel
theorem dX7_in_18 : decode cX7_in 18 = .ok (.ireturn, 1) := by decide +kernel
theorem i64_in {x : Int} (h : vIn x) : (Int64.ofInt x).toInt = x := Int64.toInt_ofInt_of_le (by have := h.1; omega) (by have := h.2; omega)
theorem lg_lt {x y : Int} (hx : vIn x) (hy : vIn y) : lg_cmp (Int64.ofInt x) (Int64.ofInt y) < 0 ↔ x < y := by
  have e1 : (Int64.ofInt y < Int64.ofInt x) ↔ y < x := by rw [Int64.lt_iff_toInt_lt, i64_in hx, i64_in hy]
  have e2 : (Int64.ofInt x = Int64.ofInt y) ↔ x = y := ⟨fun h => by rw [← i64_in hx, ← i64_in hy, h], fun h => by rw [h]⟩
  unfold lg_cmp
  by_cases h1 : y < x
  · rw [if_pos (e1.mpr h1)]; exact ⟨fun h => absurd h (by decide), fun h => by omega⟩
  · rw [if_neg (fun h => h1 (e1.mp h))]
    by_cases h2 : x = y
    · rw [if_pos (e2.mpr h2)]; exact ⟨fun h => absurd h (by decide), fun h => by omega⟩
    · rw [if_neg (fun h => h2 (e2.mp h))]; exact ⟨fun _ => by omega, fun _ => by decide⟩
theorem lg_gt {x y : Int} (hx : vIn x) (hy : vIn y) : 0 < lg_cmp (Int64.ofInt x) (Int64.ofInt y) ↔ y < x := by
  have e1 : (Int64.ofInt y < Int64.ofInt x) ↔ y < x := by rw [Int64.lt_iff_toInt_lt, i64_in hx, i64_in hy]
  unfold lg_cmp
  by_cases h1 : y < x
  · rw [if_pos (e1.mpr h1)]; exact ⟨fun _ => h1, fun _ => by decide⟩
  · rw [if_neg (fun h => h1 (e1.mp h))]
    refine ⟨fun h => ?_, fun h => absurd h h1⟩
    split at h <;> exact absurd h (by decide)
def pIn (v lo hi : Int) : Int := if lo ≤ v ∧ v ≤ hi then 1 else 0
set_option maxHeartbeats 4000000 in
/-- in(v, low, high), over longs -/
theorem c_X7_in {d : List Nat} {T : vT} {M : vM} {x y z : Int} : vCon m_X7_in d d [vL x, vL y, vL z] T M (vPi fun r T1 M1 => r = pIn x y z ∧ T = T1 ∧ M = M1) := by
  intro l D q ρ sz hok hle
  have hx1 : vIn x := hok (vL x) (by simp)
  have hy1 : vIn y := hok (vL y) (by simp)
  have hz1 : vIn z := hok (vL z) (by simp)
  refine Met.ofW (cc := cX7_in) (maxL := 6) (ret := some .boolean) (by decide) rfl ?_
  intro p e s m args below meth c s₁ B hml hpre
  obtain ⟨rfl, hsz, hP, hK, hD0, hst, hN, hnw⟩ := hpre
  have hx := B.exec
  have hb := B.bytes
  have hr := B.returns
  have hlocks := B.notSynchronized
  subst hsz
  have hD := hD0.self (sz := s.heap.size)
  have hSS : va_S (va_A (vW q ρ d T M) s.heap.size) s.heap s.heap [] := va_S.rf
  have hl := lv_entry ([.long (Int64.ofInt x), .long (Int64.ofInt y), .long (Int64.ofInt z)]) (n := 6) (Nat.le_of_ble_eq_true rfl)
  have hfin : ∀ (pc : Nat) (ls : Array Slot) (v : Int), v = 0 ∨ v = 1 → v = pIn x y z → decode cX7_in pc = .ok (.ireturn, 1) → W p l e (headSpec (vWs yX7_in cX7_in 6 (some .boolean)) (vRm m_X7_in d d)).room s m ([vL x, vL y, vL z].map (vc ρ)).toArray below meth c s.heap [] 0 0 (MQ below (vQq q D (va_A (vW q ρ d T M) s.heap.size) ρ d d (vPi fun r T1 M1 => r = pIn x y z ∧ T = T1 ∧ M = M1)) ([vL x, vL y, vL z].map (vc ρ)).toArray s (d.length - d.length) (vSz d - vSz d) (va_A (vW q ρ d T M) s.heap.size)) (F0 m pc ls [.int (Int32.ofInt v)]) := by
    intro pc ls v h01 hv hd
    rw [Nat.sub_self, Nat.sub_self]
    have hvi : vIn v := by rcases h01 with rfl | rfl <;> decide
    exact W.zret hx hb hr (by rcases h01 with rfl | rfl <;> rfl) (fun t ht hW => ⟨⟨some (vI v), T, M, ρ, rfl, ⟨v, rfl, hvi, hv, rfl, rfl⟩, by rw [ht]; exact hP, hD, hN, fun k hk => ⟨hk, rfl⟩, fun w hw => by cases hw; exact hvi⟩, hSS.F ht⟩) hSS.2.2 hd hlocks
  show W _ _ _ _ _ _ _ _ _ _ _ _ _ _ _ (entryFrame m ([Value.long (Int64.ofInt x), Value.long (Int64.ofInt y), Value.long (Int64.ofInt z)] : List Value).toArray 6)
  rw [lg_entry_eq]
  generalize (lg_sl ([.long (Int64.ofInt x), .long (Int64.ofInt y), .long (Int64.ofInt z)]) ++ List.replicate (6 - (lg_sl ([.long (Int64.ofInt x), .long (Int64.ofInt y), .long (Int64.ofInt z)])).length) Slot.unset).toArray = ls at hl ⊢
  have hl : lv_has ls 6 [(0, .long (Int64.ofInt x)), (2, .long (Int64.ofInt y)), (4, .long (Int64.ofInt z))] := hl
  refine lv_lload_n hx hb dX7_in_0 rfl (lv_at hl 0 rfl) ?_
  refine lv_lload_n hx hb dX7_in_1 rfl (lv_at hl 1 rfl) ?_
  refine W.lcmp hx hb dX7_in_2 ?_
  refine lv_if_lt (tgt := 17) hx hb dX7_in_3 (by decide) (fun h3 => ?_) (fun h3 => ?_)
  · refine lv_iconst (v := 0) hx hb dX7_in_17 (by decide) ?_
    have := (lg_lt hx1 hy1).mp h3
    exact hfin 18 ls 0 (Or.inl rfl) (by unfold pIn; rw [if_neg (by omega)]) dX7_in_18
  · have h3' : ¬ x < y := fun h => h3 ((lg_lt hx1 hy1).mpr h)
    refine lv_lload_n hx hb dX7_in_6 rfl (lv_at hl 0 rfl) ?_
    refine lv_lload hx hb dX7_in_7 (lv_at hl 2 rfl) ?_
    refine W.lcmp hx hb dX7_in_9 ?_
    refine lv_if_gt (tgt := 17) hx hb dX7_in_10 (by decide) (fun h10 => ?_) (fun h10 => ?_)
    · refine lv_iconst (v := 0) hx hb dX7_in_17 (by decide) ?_
      have := (lg_gt hx1 hz1).mp h10
      exact hfin 18 ls 0 (Or.inl rfl) (by unfold pIn; rw [if_neg (by omega)]) dX7_in_18
    · have h10' : ¬ z < x := fun h => h10 ((lg_gt hx1 hz1).mpr h)
      refine lv_iconst (v := 1) hx hb dX7_in_13 (by decide) ?_
      refine lv_goto (tgt := 18) hx hb dX7_in_14 (by decide) ?_
      exact hfin 18 ls 1 (Or.inr rfl) (by unfold pIn; rw [if_pos (by omega)]) dX7_in_18
theorem dX7_apart_0 : decode cX7_apart 0 = .ok (.iload_n 0, 1) := by decide +kernel
theorem dX7_apart_1 : decode cX7_apart 1 = .ok (.iload_n 1, 1) := by decide +kernel
theorem dX7_apart_2 : decode cX7_apart 2 = .ok (.if_icmp .ge 9, 3) := by decide +kernel
theorem dX7_apart_5 : decode cX7_apart 5 = .ok (.iload_n 1, 1) := by decide +kernel
theorem dX7_apart_6 : decode cX7_apart 6 = .ok (.iload_n 0, 1) := by decide +kernel
theorem dX7_apart_7 : decode cX7_apart 7 = .ok (.isub, 1) := by decide +kernel
theorem dX7_apart_8 : decode cX7_apart 8 = .ok (.goto 6, 3) := by decide +kernel
theorem dX7_apart_11 : decode cX7_apart 11 = .ok (.iload_n 0, 1) := by decide +kernel
theorem dX7_apart_12 : decode cX7_apart 12 = .ok (.iload_n 1, 1) := by decide +kernel
theorem dX7_apart_13 : decode cX7_apart 13 = .ok (.isub, 1) := by decide +kernel
theorem dX7_apart_14 : decode cX7_apart 14 = .ok (.ireturn, 1) := by decide +kernel
def pAbs (a b : Int) : Int := if a < b then b - a else a - b
theorem c_X7_apart {d : List Nat} {T : vT} {M : vM} {x y : Int} (hx : -1000 ≤ x ∧ x ≤ 1000) (hy : -1000 ≤ y ∧ y ≤ 1000) : vCon m_X7_apart d d [vI x, vI y] T M (vPi fun r T1 M1 => r = pAbs x y ∧ T = T1 ∧ M = M1) := by
  refine vCon.of (by decide) rfl rfl (Nat.le_of_ble_eq_true rfl) ?_
  refine vV.iload_n dX7_apart_0 rfl ?_
  refine vV.iload_n dX7_apart_1 rfl ?_
  refine vV.icmp_ge (tgt := 11) dX7_apart_2 (by decide) (fun h2 => ?_) (fun h2 => ?_)
  · skip
    refine vV.iload_n dX7_apart_11 rfl ?_
    refine vV.iload_n dX7_apart_12 rfl ?_
    refine vV.isub dX7_apart_13 (⟨by omega, by omega⟩) ?_
    refine vV.ri dX7_apart_14 rfl ?_
    refine ⟨?_, rfl, rfl⟩; unfold pAbs; first | rw [if_pos (by omega)] | rw [if_neg (by omega)]
  · skip
    refine vV.iload_n dX7_apart_5 rfl ?_
    refine vV.iload_n dX7_apart_6 rfl ?_
    refine vV.isub dX7_apart_7 (⟨by omega, by omega⟩) ?_
    refine vV.goto (tgt := 14) dX7_apart_8 (by decide) ?_
    refine vV.ri dX7_apart_14 rfl ?_
    refine ⟨?_, rfl, rfl⟩; unfold pAbs; first | rw [if_pos (by omega)] | rw [if_neg (by omega)]
theorem dX7_isPlate_0 : decode cX7_isPlate 0 = .ok (.iload_n 1, 1) := by decide +kernel
theorem dX7_isPlate_1 : decode cX7_isPlate 1 = .ok (.i2l, 1) := by decide +kernel
theorem dX7_isPlate_2 : decode cX7_isPlate 2 = .ok (.lconst 0, 1) := by decide +kernel
theorem dX7_isPlate_3 : decode cX7_isPlate 3 = .ok (.aload_n 0, 1) := by decide +kernel
theorem dX7_isPlate_4 : decode cX7_isPlate 4 = .ok (.getfield 89, 3) := by decide +kernel
theorem dX7_isPlate_7 : decode cX7_isPlate 7 = .ok (.iconst 1, 1) := by decide +kernel
theorem dX7_isPlate_8 : decode cX7_isPlate 8 = .ok (.isub, 1) := by decide +kernel
theorem dX7_isPlate_9 : decode cX7_isPlate 9 = .ok (.i2l, 1) := by decide +kernel
theorem dX7_isPlate_10 : decode cX7_isPlate 10 = .ok (.invokestatic 92, 3) := by decide +kernel
theorem dX7_isPlate_13 : decode cX7_isPlate 13 = .ok (.ireturn, 1) := by decide +kernel
theorem c_X7_isPlate {d : List Nat} {T : vT} {M : vM} {n : Nat} {x : Int} (hc : M 200 4 = n) (hn : n ≤ 6) : vCon m_X7_isPlate d d [vR 200, vI x] T M (vPi fun r T1 M1 => r = (if 0 ≤ x ∧ x < n then 1 else 0) ∧ T = T1 ∧ M = M1) := by
  refine vCon.of (by decide) rfl rfl (Nat.le_of_ble_eq_true rfl) ?_
  refine vV.iload_n dX7_isPlate_0 rfl ?_
  refine vV.i2l dX7_isPlate_1 ?_
  refine vV.lconst (v := 0) dX7_isPlate_2 (by decide) (by decide) ?_
  refine vV.aload_n dX7_isPlate_3 rfl ?_
  refine vV.geti (z := 4) dX7_isPlate_4 fl_X7_89 (by first | rfl | assumption) rfl rfl ?_
  refine vV.iconst dX7_isPlate_7 (by decide) ?_
  refine vV.isub dX7_isPlate_8 (⟨by omega, by omega⟩) ?_
  refine vV.i2l dX7_isPlate_9 ?_
  refine vV.cSi dX7_isPlate_10 ml_X7_92 cw_X7_in sw_X7_in (by unfold vRoom; decide) c_X7_in rfl rfl (Nat.le_of_ble_eq_true rfl) ?_
  rintro x10 _ _ hx10 ⟨rfl, rfl, rfl⟩
  have e : pIn x 0 (M 200 4 - 1) = (if 0 ≤ x ∧ x < n then 1 else 0) := by unfold pIn; rw [hc]; congr 1; simp; omega
  rw [e]
  refine vV.rz dX7_isPlate_13 rfl (by split <;> simp) ?_
  exact ⟨rfl, rfl, rfl⟩
theorem dX7_plateAt_0 : decode cX7_plateAt 0 = .ok (.iconst 0, 1) := by decide +kernel
theorem dX7_plateAt_1 : decode cX7_plateAt 1 = .ok (.istore_n 2, 1) := by decide +kernel
theorem dX7_plateAt_2 : decode cX7_plateAt 2 = .ok (.iload_n 2, 1) := by decide +kernel
theorem dX7_plateAt_3 : decode cX7_plateAt 3 = .ok (.aload_n 0, 1) := by decide +kernel
theorem dX7_plateAt_4 : decode cX7_plateAt 4 = .ok (.getfield 89, 3) := by decide +kernel
theorem dX7_plateAt_7 : decode cX7_plateAt 7 = .ok (.if_icmp .ge 21, 3) := by decide +kernel
theorem dX7_plateAt_10 : decode cX7_plateAt 10 = .ok (.aload_n 0, 1) := by decide +kernel
theorem dX7_plateAt_11 : decode cX7_plateAt 11 = .ok (.getfield 7, 3) := by decide +kernel
theorem dX7_plateAt_14 : decode cX7_plateAt 14 = .ok (.iload_n 2, 1) := by decide +kernel
theorem dX7_plateAt_15 : decode cX7_plateAt 15 = .ok (.iaload, 1) := by decide +kernel
theorem dX7_plateAt_16 : decode cX7_plateAt 16 = .ok (.iload_n 1, 1) := by decide +kernel
theorem dX7_plateAt_17 : decode cX7_plateAt 17 = .ok (.if_icmp .ne 5, 3) := by decide +kernel
theorem dX7_plateAt_20 : decode cX7_plateAt 20 = .ok (.iload_n 2, 1) := by decide +kernel
theorem dX7_plateAt_21 : decode cX7_plateAt 21 = .ok (.ireturn, 1) := by decide +kernel
theorem dX7_plateAt_22 : decode cX7_plateAt 22 = .ok (.iinc 2 1, 3) := by decide +kernel
theorem dX7_plateAt_25 : decode cX7_plateAt 25 = .ok (.goto (-23), 3) := by decide +kernel
theorem dX7_plateAt_28 : decode cX7_plateAt 28 = .ok (.bipush (-6), 2) := by decide +kernel
theorem dX7_plateAt_30 : decode cX7_plateAt 30 = .ok (.ireturn, 1) := by decide +kernel
theorem l_X7_plateAt {d : List Nat} {T : vT} {M : vM} {n : Nat} {x : Int} (hB : vB T) (hc : M 200 4 = n) (hn : n ≤ 6) : ∀ p, p ≤ n → (∀ j : Nat, j < p → M 201 j ≠ x) →
    vV m_X7_plateAt d d (vPi fun r T1 M1 => r = pOr (-6) (pAt n (M 201) x) ∧ T = T1 ∧ M = M1) 2 [some (vR 200), some (vI x), some (vI p)] [] d T M := by
  refine vUp ?_
  intro p h2 ih hp
  unfold pAt
  refine vV.iload_n dX7_plateAt_2 rfl ?_
  refine vV.aload_n dX7_plateAt_3 rfl ?_
  refine vV.geti (z := 4) dX7_plateAt_4 fl_X7_89 (by first | rfl | assumption) rfl rfl ?_
  refine vV.icmp_ge (tgt := 28) dX7_plateAt_7 (by decide) (fun h7 => ?_) (fun h7 => ?_)
  · skip
    refine vV.bipush (v := (-6)) dX7_plateAt_28 (by decide) (by decide) ?_
    refine vV.ri dX7_plateAt_30 rfl ?_
    rw [pFind_no (fun j hj => by simpa using hp j (by omega))]; exact ⟨rfl, rfl, rfl⟩
  · skip
    refine vV.aload_n dX7_plateAt_10 rfl ?_
    refine vV.getr dX7_plateAt_11 fl_X7_7 (by first | rfl | assumption) rfl (by first | assumption | exact hB _ _ _ rfl) ?_
    refine vV.iload_n dX7_plateAt_14 rfl ?_
    refine vV.iald dX7_plateAt_15 (by first | rfl | assumption) (by omega) (by omega) ?_
    refine vV.iload_n dX7_plateAt_16 rfl ?_
    refine vV.icmp_ne (tgt := 22) dX7_plateAt_17 (by decide) (fun h17 => ?_) (fun h17 => ?_)
    · skip
      refine vV.iinc (L' := [_, _, _]) dX7_plateAt_22 (by decide) rfl (⟨by omega, by omega⟩) rfl ?_
      refine vV.goto (tgt := 2) dX7_plateAt_25 (by decide) ?_
      exact ih (by omega) (fun j hj => (Nat.lt_succ_iff_lt_or_eq.mp hj).elim (hp j) (fun h => by subst h; exact h17))
    · skip
      refine vV.iload_n dX7_plateAt_20 rfl ?_
      refine vV.ri dX7_plateAt_21 rfl ?_
      rw [pFind_yes (p := p) (by omega) (by simpa using h17) (fun j hj => by simpa using hp j hj)]; exact ⟨rfl, rfl, rfl⟩
theorem c_X7_plateAt {d : List Nat} {T : vT} {M : vM} {n : Nat} {x : Int} (hB : vB T) (hc : M 200 4 = n) (hn : n ≤ 6) : vCon m_X7_plateAt d d [vR 200, vI x] T M (vPi fun r T1 M1 => r = pOr (-6) (pAt n (M 201) x) ∧ T = T1 ∧ M = M1) := by
  refine vCon.of (by decide) rfl rfl (Nat.le_of_ble_eq_true rfl) ?_
  refine vV.iconst dX7_plateAt_0 (by decide) ?_
  refine vV.istore_n (L' := [_, _, _]) dX7_plateAt_1 (by decide) rfl ?_
  exact l_X7_plateAt hB hc hn 0 (by omega) (fun j hj => by omega)
theorem vOr_0 {x : Nat} (h : x < 2 ^ 31) : vOr x 0 = x := by
  rw [show (0 : Int) = ((0 : Nat) : Int) from rfl, vOr_nat h (by decide)]; simp
theorem pBits_or0 (tu : Int → Int) {n : Nat} (hn : n < 30) : vOr (pBits tu n) 0 = pBits tu n := by
  obtain ⟨h0, h1⟩ := pBits_rg tu n
  have hp : (2 : Nat) ^ n ≤ 2 ^ 29 := Nat.pow_le_pow_right (by decide) (by omega)
  have hc : ((2 ^ n : Nat) : Int) = (2 : Int) ^ n := by simp
  obtain ⟨b, hb⟩ : ∃ b : Nat, pBits tu n = b := ⟨(pBits tu n).toNat, by omega⟩
  rw [hb, vOr_0 (by rw [hb, ← hc] at h1; omega)]
theorem dX7_standing_0 : decode cX7_standing 0 = .ok (.iconst 0, 1) := by decide +kernel
theorem dX7_standing_1 : decode cX7_standing 1 = .ok (.istore_n 1, 1) := by decide +kernel
theorem dX7_standing_2 : decode cX7_standing 2 = .ok (.iconst 0, 1) := by decide +kernel
theorem dX7_standing_3 : decode cX7_standing 3 = .ok (.istore_n 2, 1) := by decide +kernel
theorem dX7_standing_4 : decode cX7_standing 4 = .ok (.iload_n 2, 1) := by decide +kernel
theorem dX7_standing_5 : decode cX7_standing 5 = .ok (.aload_n 0, 1) := by decide +kernel
theorem dX7_standing_6 : decode cX7_standing 6 = .ok (.getfield 89, 3) := by decide +kernel
theorem dX7_standing_9 : decode cX7_standing 9 = .ok (.if_icmp .ge 28, 3) := by decide +kernel
theorem dX7_standing_12 : decode cX7_standing 12 = .ok (.iload_n 1, 1) := by decide +kernel
theorem dX7_standing_13 : decode cX7_standing 13 = .ok (.aload_n 0, 1) := by decide +kernel
theorem dX7_standing_14 : decode cX7_standing 14 = .ok (.getfield 19, 3) := by decide +kernel
theorem dX7_standing_17 : decode cX7_standing 17 = .ok (.iload_n 2, 1) := by decide +kernel
theorem dX7_standing_18 : decode cX7_standing 18 = .ok (.iaload, 1) := by decide +kernel
theorem dX7_standing_19 : decode cX7_standing 19 = .ok (.ifCond .le 9, 3) := by decide +kernel
theorem dX7_standing_22 : decode cX7_standing 22 = .ok (.iconst 1, 1) := by decide +kernel
theorem dX7_standing_23 : decode cX7_standing 23 = .ok (.iload_n 2, 1) := by decide +kernel
theorem dX7_standing_24 : decode cX7_standing 24 = .ok (.ishl, 1) := by decide +kernel
theorem dX7_standing_25 : decode cX7_standing 25 = .ok (.goto 4, 3) := by decide +kernel
theorem dX7_standing_28 : decode cX7_standing 28 = .ok (.iconst 0, 1) := by decide +kernel
theorem dX7_standing_29 : decode cX7_standing 29 = .ok (.ior, 1) := by decide +kernel
theorem dX7_standing_30 : decode cX7_standing 30 = .ok (.istore_n 1, 1) := by decide +kernel
theorem dX7_standing_31 : decode cX7_standing 31 = .ok (.iinc 2 1, 3) := by decide +kernel
theorem dX7_standing_34 : decode cX7_standing 34 = .ok (.goto (-30), 3) := by decide +kernel
theorem dX7_standing_37 : decode cX7_standing 37 = .ok (.iload_n 1, 1) := by decide +kernel
theorem dX7_standing_38 : decode cX7_standing 38 = .ok (.ireturn, 1) := by decide +kernel
theorem l_X7_standing {d : List Nat} {T : vT} {M : vM} {n : Nat} (hB : vB T) (hc : M 200 4 = n) (hn : n ≤ 6) : ∀ p, p ≤ n →
    vV m_X7_standing d d (vPi fun r T1 M1 => r = pBits (M 204) n ∧ T = T1 ∧ M = M1) 4 [some (vR 200), some (vI (pBits (M 204) p)), some (vI p)] [] d T M := by
  refine vUp ?_
  intro p h2 ih
  refine vV.iload_n dX7_standing_4 rfl ?_
  refine vV.aload_n dX7_standing_5 rfl ?_
  refine vV.geti (z := 4) dX7_standing_6 fl_X7_89 (by first | rfl | assumption) rfl rfl ?_
  refine vV.icmp_ge (tgt := 37) dX7_standing_9 (by decide) (fun h9 => ?_) (fun h9 => ?_)
  · skip
    refine vV.iload_n dX7_standing_37 rfl ?_
    refine vV.ri dX7_standing_38 rfl ?_
    rw [show p = n by omega]; exact ⟨rfl, rfl, rfl⟩
  · skip
    refine vV.iload_n dX7_standing_12 rfl ?_
    refine vV.aload_n dX7_standing_13 rfl ?_
    refine vV.getr dX7_standing_14 fl_X7_19 (by first | rfl | assumption) rfl (by first | assumption | exact hB _ _ _ rfl) ?_
    refine vV.iload_n dX7_standing_17 rfl ?_
    refine vV.iald dX7_standing_18 (by first | rfl | assumption) (by omega) (by omega) ?_
    refine vV.if_le (tgt := 28) dX7_standing_19 (by decide) (fun h19 => ?_) (fun h19 => ?_)
    · skip
      have e : pBits (M 204) (p + 1) = vOr (pBits (M 204) p) 0 := by rw [pBits_or0 _ (by omega), pBits_s, if_neg (by omega), Int.add_zero]
      rw [e] at ih
      refine vV.iconst dX7_standing_28 (by decide) ?_
      refine vV.ior dX7_standing_29 ?_
      refine vV.istore_n (L' := [_, _, _]) dX7_standing_30 (by decide) rfl ?_
      refine vV.iinc (L' := [_, _, _]) dX7_standing_31 (by decide) rfl (⟨by omega, by omega⟩) rfl ?_
      refine vV.goto (tgt := 4) dX7_standing_34 (by decide) ?_
      exact ih (by omega)
    · skip
      have e : pBits (M 204) (p + 1) = vOr (pBits (M 204) p) (vShl 1 p) := by rw [pBits_or _ (by omega), pBits_s, if_pos h19]
      rw [e] at ih
      refine vV.iconst dX7_standing_22 (by decide) ?_
      refine vV.iload_n dX7_standing_23 rfl ?_
      refine vV.ishl dX7_standing_24 ?_
      refine vV.goto (tgt := 29) dX7_standing_25 (by decide) ?_
      refine vV.ior dX7_standing_29 ?_
      refine vV.istore_n (L' := [_, _, _]) dX7_standing_30 (by decide) rfl ?_
      refine vV.iinc (L' := [_, _, _]) dX7_standing_31 (by decide) rfl (⟨by omega, by omega⟩) rfl ?_
      refine vV.goto (tgt := 4) dX7_standing_34 (by decide) ?_
      exact ih (by omega)
theorem c_X7_standing {d : List Nat} {T : vT} {M : vM} {n : Nat} (hB : vB T) (hc : M 200 4 = n) (hn : n ≤ 6) : vCon m_X7_standing d d [vR 200] T M (vPi fun r T1 M1 => r = pBits (M 204) n ∧ T = T1 ∧ M = M1) := by
  refine vCon.of (by decide) rfl rfl (Nat.le_of_ble_eq_true rfl) ?_
  refine vV.iconst dX7_standing_0 (by decide) ?_
  refine vV.istore_n (L' := [_, _, _]) dX7_standing_1 (by decide) rfl ?_
  refine vV.iconst dX7_standing_2 (by decide) ?_
  refine vV.istore_n (L' := [_, _, _]) dX7_standing_3 (by decide) rfl ?_
  exact l_X7_standing hB hc hn 0 (by omega)
theorem dX7_simStanding_0 : decode cX7_simStanding 0 = .ok (.iconst 0, 1) := by decide +kernel
theorem dX7_simStanding_1 : decode cX7_simStanding 1 = .ok (.istore_n 1, 1) := by decide +kernel
theorem dX7_simStanding_2 : decode cX7_simStanding 2 = .ok (.iconst 0, 1) := by decide +kernel
theorem dX7_simStanding_3 : decode cX7_simStanding 3 = .ok (.istore_n 2, 1) := by decide +kernel
theorem dX7_simStanding_4 : decode cX7_simStanding 4 = .ok (.iload_n 2, 1) := by decide +kernel
theorem dX7_simStanding_5 : decode cX7_simStanding 5 = .ok (.aload_n 0, 1) := by decide +kernel
theorem dX7_simStanding_6 : decode cX7_simStanding 6 = .ok (.getfield 89, 3) := by decide +kernel
theorem dX7_simStanding_9 : decode cX7_simStanding 9 = .ok (.if_icmp .ge 28, 3) := by decide +kernel
theorem dX7_simStanding_12 : decode cX7_simStanding 12 = .ok (.iload_n 1, 1) := by decide +kernel
theorem dX7_simStanding_13 : decode cX7_simStanding 13 = .ok (.aload_n 0, 1) := by decide +kernel
theorem dX7_simStanding_14 : decode cX7_simStanding 14 = .ok (.getfield 25, 3) := by decide +kernel
theorem dX7_simStanding_17 : decode cX7_simStanding 17 = .ok (.iload_n 2, 1) := by decide +kernel
theorem dX7_simStanding_18 : decode cX7_simStanding 18 = .ok (.iaload, 1) := by decide +kernel
theorem dX7_simStanding_19 : decode cX7_simStanding 19 = .ok (.ifCond .le 9, 3) := by decide +kernel
theorem dX7_simStanding_22 : decode cX7_simStanding 22 = .ok (.iconst 1, 1) := by decide +kernel
theorem dX7_simStanding_23 : decode cX7_simStanding 23 = .ok (.iload_n 2, 1) := by decide +kernel
theorem dX7_simStanding_24 : decode cX7_simStanding 24 = .ok (.ishl, 1) := by decide +kernel
theorem dX7_simStanding_25 : decode cX7_simStanding 25 = .ok (.goto 4, 3) := by decide +kernel
theorem dX7_simStanding_28 : decode cX7_simStanding 28 = .ok (.iconst 0, 1) := by decide +kernel
theorem dX7_simStanding_29 : decode cX7_simStanding 29 = .ok (.ior, 1) := by decide +kernel
theorem dX7_simStanding_30 : decode cX7_simStanding 30 = .ok (.istore_n 1, 1) := by decide +kernel
theorem dX7_simStanding_31 : decode cX7_simStanding 31 = .ok (.iinc 2 1, 3) := by decide +kernel
theorem dX7_simStanding_34 : decode cX7_simStanding 34 = .ok (.goto (-30), 3) := by decide +kernel
theorem dX7_simStanding_37 : decode cX7_simStanding 37 = .ok (.iload_n 1, 1) := by decide +kernel
theorem dX7_simStanding_38 : decode cX7_simStanding 38 = .ok (.ireturn, 1) := by decide +kernel
theorem l_X7_simStanding {d : List Nat} {T : vT} {M : vM} {n : Nat} (hB : vB T) (hc : M 200 4 = n) (hn : n ≤ 6) : ∀ p, p ≤ n →
    vV m_X7_simStanding d d (vPi fun r T1 M1 => r = pBits (M 212) n ∧ T = T1 ∧ M = M1) 4 [some (vR 200), some (vI (pBits (M 212) p)), some (vI p)] [] d T M := by
  refine vUp ?_
  intro p h2 ih
  refine vV.iload_n dX7_simStanding_4 rfl ?_
  refine vV.aload_n dX7_simStanding_5 rfl ?_
  refine vV.geti (z := 4) dX7_simStanding_6 fl_X7_89 (by first | rfl | assumption) rfl rfl ?_
  refine vV.icmp_ge (tgt := 37) dX7_simStanding_9 (by decide) (fun h9 => ?_) (fun h9 => ?_)
  · skip
    refine vV.iload_n dX7_simStanding_37 rfl ?_
    refine vV.ri dX7_simStanding_38 rfl ?_
    rw [show p = n by omega]; exact ⟨rfl, rfl, rfl⟩
  · skip
    refine vV.iload_n dX7_simStanding_12 rfl ?_
    refine vV.aload_n dX7_simStanding_13 rfl ?_
    refine vV.getr dX7_simStanding_14 fl_X7_25 (by first | rfl | assumption) rfl (by first | assumption | exact hB _ _ _ rfl) ?_
    refine vV.iload_n dX7_simStanding_17 rfl ?_
    refine vV.iald dX7_simStanding_18 (by first | rfl | assumption) (by omega) (by omega) ?_
    refine vV.if_le (tgt := 28) dX7_simStanding_19 (by decide) (fun h19 => ?_) (fun h19 => ?_)
    · skip
      have e : pBits (M 212) (p + 1) = vOr (pBits (M 212) p) 0 := by rw [pBits_or0 _ (by omega), pBits_s, if_neg (by omega), Int.add_zero]
      rw [e] at ih
      refine vV.iconst dX7_simStanding_28 (by decide) ?_
      refine vV.ior dX7_simStanding_29 ?_
      refine vV.istore_n (L' := [_, _, _]) dX7_simStanding_30 (by decide) rfl ?_
      refine vV.iinc (L' := [_, _, _]) dX7_simStanding_31 (by decide) rfl (⟨by omega, by omega⟩) rfl ?_
      refine vV.goto (tgt := 4) dX7_simStanding_34 (by decide) ?_
      exact ih (by omega)
    · skip
      have e : pBits (M 212) (p + 1) = vOr (pBits (M 212) p) (vShl 1 p) := by rw [pBits_or _ (by omega), pBits_s, if_pos h19]
      rw [e] at ih
      refine vV.iconst dX7_simStanding_22 (by decide) ?_
      refine vV.iload_n dX7_simStanding_23 rfl ?_
      refine vV.ishl dX7_simStanding_24 ?_
      refine vV.goto (tgt := 29) dX7_simStanding_25 (by decide) ?_
      refine vV.ior dX7_simStanding_29 ?_
      refine vV.istore_n (L' := [_, _, _]) dX7_simStanding_30 (by decide) rfl ?_
      refine vV.iinc (L' := [_, _, _]) dX7_simStanding_31 (by decide) rfl (⟨by omega, by omega⟩) rfl ?_
      refine vV.goto (tgt := 4) dX7_simStanding_34 (by decide) ?_
      exact ih (by omega)
theorem c_X7_simStanding {d : List Nat} {T : vT} {M : vM} {n : Nat} (hB : vB T) (hc : M 200 4 = n) (hn : n ≤ 6) : vCon m_X7_simStanding d d [vR 200] T M (vPi fun r T1 M1 => r = pBits (M 212) n ∧ T = T1 ∧ M = M1) := by
  refine vCon.of (by decide) rfl rfl (Nat.le_of_ble_eq_true rfl) ?_
  refine vV.iconst dX7_simStanding_0 (by decide) ?_
  refine vV.istore_n (L' := [_, _, _]) dX7_simStanding_1 (by decide) rfl ?_
  refine vV.iconst dX7_simStanding_2 (by decide) ?_
  refine vV.istore_n (L' := [_, _, _]) dX7_simStanding_3 (by decide) rfl ?_
  exact l_X7_simStanding hB hc hn 0 (by omega)
theorem dX7_simHere_0 : decode cX7_simHere 0 = .ok (.iconst 0, 1) := by decide +kernel
theorem dX7_simHere_1 : decode cX7_simHere 1 = .ok (.istore_n 1, 1) := by decide +kernel
theorem dX7_simHere_2 : decode cX7_simHere 2 = .ok (.iload_n 1, 1) := by decide +kernel
theorem dX7_simHere_3 : decode cX7_simHere 3 = .ok (.aload_n 0, 1) := by decide +kernel
theorem dX7_simHere_4 : decode cX7_simHere 4 = .ok (.getfield 89, 3) := by decide +kernel
theorem dX7_simHere_7 : decode cX7_simHere 7 = .ok (.if_icmp .ge 33, 3) := by decide +kernel
theorem dX7_simHere_10 : decode cX7_simHere 10 = .ok (.aload_n 0, 1) := by decide +kernel
theorem dX7_simHere_11 : decode cX7_simHere 11 = .ok (.getfield 22, 3) := by decide +kernel
theorem dX7_simHere_14 : decode cX7_simHere 14 = .ok (.iload_n 1, 1) := by decide +kernel
theorem dX7_simHere_15 : decode cX7_simHere 15 = .ok (.iaload, 1) := by decide +kernel
theorem dX7_simHere_16 : decode cX7_simHere 16 = .ok (.aload_n 0, 1) := by decide +kernel
theorem dX7_simHere_17 : decode cX7_simHere 17 = .ok (.getfield 123, 3) := by decide +kernel
theorem dX7_simHere_20 : decode cX7_simHere 20 = .ok (.if_icmp .ne 14, 3) := by decide +kernel
theorem dX7_simHere_23 : decode cX7_simHere 23 = .ok (.aload_n 0, 1) := by decide +kernel
theorem dX7_simHere_24 : decode cX7_simHere 24 = .ok (.getfield 25, 3) := by decide +kernel
theorem dX7_simHere_27 : decode cX7_simHere 27 = .ok (.iload_n 1, 1) := by decide +kernel
theorem dX7_simHere_28 : decode cX7_simHere 28 = .ok (.iaload, 1) := by decide +kernel
theorem dX7_simHere_29 : decode cX7_simHere 29 = .ok (.ifCond .le 5, 3) := by decide +kernel
theorem dX7_simHere_32 : decode cX7_simHere 32 = .ok (.iload_n 1, 1) := by decide +kernel
theorem dX7_simHere_33 : decode cX7_simHere 33 = .ok (.ireturn, 1) := by decide +kernel
theorem dX7_simHere_34 : decode cX7_simHere 34 = .ok (.iinc 1 1, 3) := by decide +kernel
theorem dX7_simHere_37 : decode cX7_simHere 37 = .ok (.goto (-35), 3) := by decide +kernel
theorem dX7_simHere_40 : decode cX7_simHere 40 = .ok (.bipush (-6), 2) := by decide +kernel
theorem dX7_simHere_42 : decode cX7_simHere 42 = .ok (.ireturn, 1) := by decide +kernel
/-- the plate at his place, if it stands (places are apart) -/
def pHere (n : Nat) (pl tu : Int → Int) (man : Int) : Option Nat := pFind (fun j => decide (pl j = man) && decide (0 < tu j)) n
theorem l_X7_simHere {d : List Nat} {T : vT} {M : vM} {n : Nat} (hB : vB T) (hc : M 200 4 = n) (hn : n ≤ 6) : ∀ p, p ≤ n → (∀ j : Nat, j < p → (decide (M 211 j = M 200 12) && decide (0 < M 212 j)) = false) →
    vV m_X7_simHere d d (vPi fun r T1 M1 => r = pOr (-6) (pHere n (M 211) (M 212) (M 200 12)) ∧ T = T1 ∧ M = M1) 2 [some (vR 200), some (vI p)] [] d T M := by
  refine vUp ?_
  intro p h2 ih hp
  unfold pHere
  refine vV.iload_n dX7_simHere_2 rfl ?_
  refine vV.aload_n dX7_simHere_3 rfl ?_
  refine vV.geti (z := 4) dX7_simHere_4 fl_X7_89 (by first | rfl | assumption) rfl rfl ?_
  refine vV.icmp_ge (tgt := 40) dX7_simHere_7 (by decide) (fun h7 => ?_) (fun h7 => ?_)
  · skip
    refine vV.bipush (v := (-6)) dX7_simHere_40 (by decide) (by decide) ?_
    refine vV.ri dX7_simHere_42 rfl ?_
    rw [pFind_no (fun j hj => hp j (by omega))]; exact ⟨rfl, rfl, rfl⟩
  · skip
    refine vV.aload_n dX7_simHere_10 rfl ?_
    refine vV.getr dX7_simHere_11 fl_X7_22 (by first | rfl | assumption) rfl (by first | assumption | exact hB _ _ _ rfl) ?_
    refine vV.iload_n dX7_simHere_14 rfl ?_
    refine vV.iald dX7_simHere_15 (by first | rfl | assumption) (by omega) (by omega) ?_
    refine vV.aload_n dX7_simHere_16 rfl ?_
    refine vV.geti (z := 12) dX7_simHere_17 fl_X7_123 (by first | rfl | assumption) rfl rfl ?_
    refine vV.icmp_ne (tgt := 34) dX7_simHere_20 (by decide) (fun h20 => ?_) (fun h20 => ?_)
    · skip
      refine vV.iinc (L' := [_, _]) dX7_simHere_34 (by decide) rfl (⟨by omega, by omega⟩) rfl ?_
      refine vV.goto (tgt := 2) dX7_simHere_37 (by decide) ?_
      exact ih (by omega) (fun j hj => (Nat.lt_succ_iff_lt_or_eq.mp hj).elim (hp j) (fun h => by subst h; first | (simp [h20]; done) | (simp [h20]; omega)))
    · skip
      refine vV.aload_n dX7_simHere_23 rfl ?_
      refine vV.getr dX7_simHere_24 fl_X7_25 (by first | rfl | assumption) rfl (by first | assumption | exact hB _ _ _ rfl) ?_
      refine vV.iload_n dX7_simHere_27 rfl ?_
      refine vV.iald dX7_simHere_28 (by first | rfl | assumption) (by omega) (by omega) ?_
      refine vV.if_le (tgt := 34) dX7_simHere_29 (by decide) (fun h29 => ?_) (fun h29 => ?_)
      · skip
        refine vV.iinc (L' := [_, _]) dX7_simHere_34 (by decide) rfl (⟨by omega, by omega⟩) rfl ?_
        refine vV.goto (tgt := 2) dX7_simHere_37 (by decide) ?_
        exact ih (by omega) (fun j hj => (Nat.lt_succ_iff_lt_or_eq.mp hj).elim (hp j) (fun h => by subst h; first | (simp [h20]; done) | (simp [h20]; omega)))
      · skip
        refine vV.iload_n dX7_simHere_32 rfl ?_
        refine vV.ri dX7_simHere_33 rfl ?_
        rw [pFind_yes (p := p) (by omega) (by simp [h20]; omega) hp]; exact ⟨rfl, rfl, rfl⟩
theorem c_X7_simHere {d : List Nat} {T : vT} {M : vM} {n : Nat} (hB : vB T) (hc : M 200 4 = n) (hn : n ≤ 6) : vCon m_X7_simHere d d [vR 200] T M (vPi fun r T1 M1 => r = pOr (-6) (pHere n (M 211) (M 212) (M 200 12)) ∧ T = T1 ∧ M = M1) := by
  refine vCon.of (by decide) rfl rfl (Nat.le_of_ble_eq_true rfl) ?_
  refine vV.iconst dX7_simHere_0 (by decide) ?_
  refine vV.istore_n (L' := [_, _]) dX7_simHere_1 (by decide) rfl ?_
  exact l_X7_simHere hB hc hn 0 (by omega) (fun j hj => by omega)
end
section
/-! ===== own: the reference: a tick ===== -/
/-- nothing but the rows S has changed -/
def mSame (S : List Nat) (M M1 : vM) : Prop := ∀ k, k ∉ S → M1 k = M k
def mSlot (J : List Int) (M M1 : vM) : Prop := ∀ j, j ∉ J → M1 200 j = M 200 j
def pDis (n : Nat) (pl : Int → Int) : Prop := ∀ i j : Nat, i < n → j < n → pl i = pl j → i = j
theorem pAt_of {n : Nat} {pl : Int → Int} (hd : pDis n pl) {p : Nat} (hp : p < n) : pAt n pl (pl p) = some p := by
  unfold pAt
  refine pFind_yes hp (by simp) (fun j hj => ?_)
  simp
  intro h
  have := hd j p (by omega) hp h
  omega
theorem pAt_some {n : Nat} {pl : Int → Int} {man : Int} {p : Nat} (h : pAt n pl man = some p) : p < n ∧ pl p = man := by
  have := pFind_some h; simp at this; exact ⟨this.1, this.2.1⟩
theorem pHere_some {n : Nat} {pl tu : Int → Int} {man : Int} {p : Nat} (h : pHere n pl tu man = some p) : p < n ∧ pl p = man ∧ 0 < tu p := by
  have := pFind_some h; simp at this; exact ⟨this.1, this.2.1.1, this.2.1.2⟩
theorem pHere_at {n : Nat} {pl tu : Int → Int} {man : Int} (hd : pDis n pl) {p : Nat} (h : pHere n pl tu man = some p) : pAt n pl man = some p := by
  obtain ⟨h1, h2, -⟩ := pHere_some h
  rw [← h2]; exact pAt_of hd h1
theorem pHere_std {n : Nat} {pl tu : Int → Int} {man : Int} (hd : pDis n pl) : pStd tu (pAt n pl man) = (pHere n pl tu man).isSome := by
  cases h : pHere n pl tu man with
  | some p => rw [pHere_at hd h]; have := pHere_some h; simp [pStd, this]
  | none =>
    cases h2 : pAt n pl man with
    | none => rfl
    | some p =>
      obtain ⟨a1, a2⟩ := pAt_some h2
      have hz : (decide (pl p = man) && decide (0 < tu p)) = false := pFind_some.pFind_none h p a1
      simp [a2] at hz
      simp [pStd]; omega
theorem dX7_can_0 : decode cX7_can 0 = .ok (.iload_n 1, 1) := by decide +kernel
theorem dX7_can_1 : decode cX7_can 1 = .ok (.ifCond .eq 41, 3) := by decide +kernel
theorem dX7_can_4 : decode cX7_can 4 = .ok (.iload_n 1, 1) := by decide +kernel
theorem dX7_can_5 : decode cX7_can 5 = .ok (.iconst 1, 1) := by decide +kernel
theorem dX7_can_6 : decode cX7_can 6 = .ok (.if_icmp .ne 10, 3) := by decide +kernel
theorem dX7_can_9 : decode cX7_can 9 = .ok (.aload_n 0, 1) := by decide +kernel
theorem dX7_can_10 : decode cX7_can 10 = .ok (.getfield 123, 3) := by decide +kernel
theorem dX7_can_13 : decode cX7_can 13 = .ok (.ifCond .gt 29, 3) := by decide +kernel
theorem dX7_can_16 : decode cX7_can 16 = .ok (.iload_n 1, 1) := by decide +kernel
theorem dX7_can_17 : decode cX7_can 17 = .ok (.iconst 2, 1) := by decide +kernel
theorem dX7_can_18 : decode cX7_can 18 = .ok (.if_icmp .ne 12, 3) := by decide +kernel
theorem dX7_can_21 : decode cX7_can 21 = .ok (.aload_n 0, 1) := by decide +kernel
theorem dX7_can_22 : decode cX7_can 22 = .ok (.getfield 123, 3) := by decide +kernel
theorem dX7_can_25 : decode cX7_can 25 = .ok (.bipush 7, 2) := by decide +kernel
theorem dX7_can_27 : decode cX7_can 27 = .ok (.if_icmp .lt 15, 3) := by decide +kernel
theorem dX7_can_30 : decode cX7_can 30 = .ok (.iload_n 1, 1) := by decide +kernel
theorem dX7_can_31 : decode cX7_can 31 = .ok (.iconst 3, 1) := by decide +kernel
theorem dX7_can_32 : decode cX7_can 32 = .ok (.if_icmp .ne 14, 3) := by decide +kernel
theorem dX7_can_35 : decode cX7_can 35 = .ok (.aload_n 0, 1) := by decide +kernel
theorem dX7_can_36 : decode cX7_can 36 = .ok (.invokevirtual 141, 3) := by decide +kernel
theorem dX7_can_39 : decode cX7_can 39 = .ok (.ifCond .lt 7, 3) := by decide +kernel
theorem dX7_can_42 : decode cX7_can 42 = .ok (.iconst 1, 1) := by decide +kernel
theorem dX7_can_43 : decode cX7_can 43 = .ok (.goto 4, 3) := by decide +kernel
theorem dX7_can_46 : decode cX7_can 46 = .ok (.iconst 0, 1) := by decide +kernel
theorem dX7_can_47 : decode cX7_can 47 = .ok (.ireturn, 1) := by decide +kernel
theorem c_X7_can {d : List Nat} {T : vT} {M : vM} {n : Nat} {x : Int} (hB : vB T) (hc : M 200 4 = n) (hn : n ≤ 6) (hdis : pDis n (M 211)) (h0 : 0 ≤ x) (h3 : x ≤ 3) : vCon m_X7_can d d [vR 200, vI x] T M (vPi fun r T1 M1 => r = bI (pCan n (M 211) (M 212) (M 200 12) x) ∧ T = T1 ∧ M = M1) := by
  refine vCon.of (by decide) rfl rfl (Nat.le_of_ble_eq_true rfl) ?_
  refine vV.iload_n dX7_can_0 rfl ?_
  refine vV.if_eq (tgt := 42) dX7_can_1 (by decide) (fun h1 => ?_) (fun h1 => ?_)
  · skip
    refine vV.iconst dX7_can_42 (by decide) ?_
    refine vV.goto (tgt := 47) dX7_can_43 (by decide) ?_
    refine vV.rz dX7_can_47 rfl (by first | exact Or.inl rfl | exact Or.inr rfl | assumption) ?_
    refine ⟨?_, rfl, rfl⟩; unfold pCan bI; (repeat' split) <;> first | rfl | omega | (simp_all; done) | (simp_all; omega)
  · skip
    refine vV.iload_n dX7_can_4 rfl ?_
    refine vV.iconst dX7_can_5 (by decide) ?_
    refine vV.icmp_ne (tgt := 16) dX7_can_6 (by decide) (fun h6 => ?_) (fun h6 => ?_)
    · skip
      refine vV.iload_n dX7_can_16 rfl ?_
      refine vV.iconst dX7_can_17 (by decide) ?_
      refine vV.icmp_ne (tgt := 30) dX7_can_18 (by decide) (fun h18 => ?_) (fun h18 => ?_)
      · skip
        refine vV.iload_n dX7_can_30 rfl ?_
        refine vV.iconst dX7_can_31 (by decide) ?_
        refine vV.icmp_ne (tgt := 46) dX7_can_32 (by decide) (fun h32 => ?_) (fun h32 => ?_)
        · skip
          refine vV.iconst dX7_can_46 (by decide) ?_
          refine vV.rz dX7_can_47 rfl (by first | exact Or.inl rfl | exact Or.inr rfl | assumption) ?_
          refine ⟨?_, rfl, rfl⟩; unfold pCan bI; (repeat' split) <;> first | rfl | omega | (simp_all; done) | (simp_all; omega)
        · skip
          refine vV.aload_n dX7_can_35 rfl ?_
          refine vV.cVi dX7_can_36 ml_X7_141 cw_X7_simHere iw_X7_simHere (by first | rfl | assumption) rfl (by unfold vRoom; decide) (c_X7_simHere hB hc hn) rfl rfl (Nat.le_of_ble_eq_true rfl) ?_
          rintro x36 _ _ hx36 ⟨rfl, rfl, rfl⟩
          have e3 : pCan n (M 211) (M 212) (M 200 12) x = (pHere n (M 211) (M 212) (M 200 12)).isSome := by rw [h32]; unfold pCan; simp; exact pHere_std hdis
          obtain ⟨r, hr⟩ : ∃ r, pHere n (M 211) (M 212) (M 200 12) = r := ⟨_, rfl⟩
          rw [hr] at e3 ⊢
          cases r with
          | none =>
            rw [pOr_n]
            refine vV.if_lt (tgt := 46) dX7_can_39 (by decide) (fun h39 => ?_) (fun h39 => ?_)
            · skip
              refine vV.iconst dX7_can_46 (by decide) ?_
              refine vV.rz dX7_can_47 rfl (by first | exact Or.inl rfl | exact Or.inr rfl | assumption) ?_
              rw [e3]; exact ⟨rfl, rfl, rfl⟩
            · skip
              omega
          | some p =>
            rw [pOr_s]
            refine vV.if_lt (tgt := 46) dX7_can_39 (by decide) (fun h39 => ?_) (fun h39 => ?_)
            · skip
              omega
            · skip
              refine vV.iconst dX7_can_42 (by decide) ?_
              refine vV.goto (tgt := 47) dX7_can_43 (by decide) ?_
              refine vV.rz dX7_can_47 rfl (by first | exact Or.inl rfl | exact Or.inr rfl | assumption) ?_
              rw [e3]; exact ⟨rfl, rfl, rfl⟩
          skip
      · skip
        refine vV.aload_n dX7_can_21 rfl ?_
        refine vV.geti (z := 12) dX7_can_22 fl_X7_123 (by first | rfl | assumption) rfl rfl ?_
        refine vV.bipush (v := 7) dX7_can_25 (by decide) (by decide) ?_
        refine vV.icmp_lt (tgt := 42) dX7_can_27 (by decide) (fun h27 => ?_) (fun h27 => ?_)
        · skip
          refine vV.iconst dX7_can_42 (by decide) ?_
          refine vV.goto (tgt := 47) dX7_can_43 (by decide) ?_
          refine vV.rz dX7_can_47 rfl (by first | exact Or.inl rfl | exact Or.inr rfl | assumption) ?_
          refine ⟨?_, rfl, rfl⟩; unfold pCan bI; (repeat' split) <;> first | rfl | omega | (simp_all; done) | (simp_all; omega)
        · skip
          refine vV.iload_n dX7_can_30 rfl ?_
          refine vV.iconst dX7_can_31 (by decide) ?_
          refine vV.icmp_ne (tgt := 46) dX7_can_32 (by decide) (fun h32 => ?_) (fun h32 => ?_)
          · skip
            refine vV.iconst dX7_can_46 (by decide) ?_
            refine vV.rz dX7_can_47 rfl (by first | exact Or.inl rfl | exact Or.inr rfl | assumption) ?_
            refine ⟨?_, rfl, rfl⟩; unfold pCan bI; (repeat' split) <;> first | rfl | omega | (simp_all; done) | (simp_all; omega)
          · skip
            refine vV.aload_n dX7_can_35 rfl ?_
            refine vV.cVi dX7_can_36 ml_X7_141 cw_X7_simHere iw_X7_simHere (by first | rfl | assumption) rfl (by unfold vRoom; decide) (c_X7_simHere hB hc hn) rfl rfl (Nat.le_of_ble_eq_true rfl) ?_
            rintro x36 _ _ hx36 ⟨rfl, rfl, rfl⟩
            have e3 : pCan n (M 211) (M 212) (M 200 12) x = (pHere n (M 211) (M 212) (M 200 12)).isSome := by rw [h32]; unfold pCan; simp; exact pHere_std hdis
            obtain ⟨r, hr⟩ : ∃ r, pHere n (M 211) (M 212) (M 200 12) = r := ⟨_, rfl⟩
            rw [hr] at e3 ⊢
            cases r with
            | none =>
              rw [pOr_n]
              refine vV.if_lt (tgt := 46) dX7_can_39 (by decide) (fun h39 => ?_) (fun h39 => ?_)
              · skip
                refine vV.iconst dX7_can_46 (by decide) ?_
                refine vV.rz dX7_can_47 rfl (by first | exact Or.inl rfl | exact Or.inr rfl | assumption) ?_
                rw [e3]; exact ⟨rfl, rfl, rfl⟩
              · skip
                omega
            | some p =>
              rw [pOr_s]
              refine vV.if_lt (tgt := 46) dX7_can_39 (by decide) (fun h39 => ?_) (fun h39 => ?_)
              · skip
                omega
              · skip
                refine vV.iconst dX7_can_42 (by decide) ?_
                refine vV.goto (tgt := 47) dX7_can_43 (by decide) ?_
                refine vV.rz dX7_can_47 rfl (by first | exact Or.inl rfl | exact Or.inr rfl | assumption) ?_
                rw [e3]; exact ⟨rfl, rfl, rfl⟩
            skip
    · skip
      refine vV.aload_n dX7_can_9 rfl ?_
      refine vV.geti (z := 12) dX7_can_10 fl_X7_123 (by first | rfl | assumption) rfl rfl ?_
      refine vV.if_gt (tgt := 42) dX7_can_13 (by decide) (fun h13 => ?_) (fun h13 => ?_)
      · skip
        refine vV.iconst dX7_can_42 (by decide) ?_
        refine vV.goto (tgt := 47) dX7_can_43 (by decide) ?_
        refine vV.rz dX7_can_47 rfl (by first | exact Or.inl rfl | exact Or.inr rfl | assumption) ?_
        refine ⟨?_, rfl, rfl⟩; unfold pCan bI; (repeat' split) <;> first | rfl | omega | (simp_all; done) | (simp_all; omega)
      · skip
        refine vV.iload_n dX7_can_16 rfl ?_
        refine vV.iconst dX7_can_17 (by decide) ?_
        refine vV.icmp_ne (tgt := 30) dX7_can_18 (by decide) (fun h18 => ?_) (fun h18 => ?_)
        · skip
          refine vV.iload_n dX7_can_30 rfl ?_
          refine vV.iconst dX7_can_31 (by decide) ?_
          refine vV.icmp_ne (tgt := 46) dX7_can_32 (by decide) (fun h32 => ?_) (fun h32 => ?_)
          · skip
            refine vV.iconst dX7_can_46 (by decide) ?_
            refine vV.rz dX7_can_47 rfl (by first | exact Or.inl rfl | exact Or.inr rfl | assumption) ?_
            refine ⟨?_, rfl, rfl⟩; unfold pCan bI; (repeat' split) <;> first | rfl | omega | (simp_all; done) | (simp_all; omega)
          · skip
            refine vV.aload_n dX7_can_35 rfl ?_
            refine vV.cVi dX7_can_36 ml_X7_141 cw_X7_simHere iw_X7_simHere (by first | rfl | assumption) rfl (by unfold vRoom; decide) (c_X7_simHere hB hc hn) rfl rfl (Nat.le_of_ble_eq_true rfl) ?_
            rintro x36 _ _ hx36 ⟨rfl, rfl, rfl⟩
            have e3 : pCan n (M 211) (M 212) (M 200 12) x = (pHere n (M 211) (M 212) (M 200 12)).isSome := by rw [h32]; unfold pCan; simp; exact pHere_std hdis
            obtain ⟨r, hr⟩ : ∃ r, pHere n (M 211) (M 212) (M 200 12) = r := ⟨_, rfl⟩
            rw [hr] at e3 ⊢
            cases r with
            | none =>
              rw [pOr_n]
              refine vV.if_lt (tgt := 46) dX7_can_39 (by decide) (fun h39 => ?_) (fun h39 => ?_)
              · skip
                refine vV.iconst dX7_can_46 (by decide) ?_
                refine vV.rz dX7_can_47 rfl (by first | exact Or.inl rfl | exact Or.inr rfl | assumption) ?_
                rw [e3]; exact ⟨rfl, rfl, rfl⟩
              · skip
                omega
            | some p =>
              rw [pOr_s]
              refine vV.if_lt (tgt := 46) dX7_can_39 (by decide) (fun h39 => ?_) (fun h39 => ?_)
              · skip
                omega
              · skip
                refine vV.iconst dX7_can_42 (by decide) ?_
                refine vV.goto (tgt := 47) dX7_can_43 (by decide) ?_
                refine vV.rz dX7_can_47 rfl (by first | exact Or.inl rfl | exact Or.inr rfl | assumption) ?_
                rw [e3]; exact ⟨rfl, rfl, rfl⟩
            skip
        · skip
          refine vV.aload_n dX7_can_21 rfl ?_
          refine vV.geti (z := 12) dX7_can_22 fl_X7_123 (by first | rfl | assumption) rfl rfl ?_
          refine vV.bipush (v := 7) dX7_can_25 (by decide) (by decide) ?_
          refine vV.icmp_lt (tgt := 42) dX7_can_27 (by decide) (fun h27 => ?_) (fun h27 => ?_)
          · skip
            refine vV.iconst dX7_can_42 (by decide) ?_
            refine vV.goto (tgt := 47) dX7_can_43 (by decide) ?_
            refine vV.rz dX7_can_47 rfl (by first | exact Or.inl rfl | exact Or.inr rfl | assumption) ?_
            refine ⟨?_, rfl, rfl⟩; unfold pCan bI; (repeat' split) <;> first | rfl | omega | (simp_all; done) | (simp_all; omega)
          · skip
            refine vV.iload_n dX7_can_30 rfl ?_
            refine vV.iconst dX7_can_31 (by decide) ?_
            refine vV.icmp_ne (tgt := 46) dX7_can_32 (by decide) (fun h32 => ?_) (fun h32 => ?_)
            · skip
              refine vV.iconst dX7_can_46 (by decide) ?_
              refine vV.rz dX7_can_47 rfl (by first | exact Or.inl rfl | exact Or.inr rfl | assumption) ?_
              refine ⟨?_, rfl, rfl⟩; unfold pCan bI; (repeat' split) <;> first | rfl | omega | (simp_all; done) | (simp_all; omega)
            · skip
              refine vV.aload_n dX7_can_35 rfl ?_
              refine vV.cVi dX7_can_36 ml_X7_141 cw_X7_simHere iw_X7_simHere (by first | rfl | assumption) rfl (by unfold vRoom; decide) (c_X7_simHere hB hc hn) rfl rfl (Nat.le_of_ble_eq_true rfl) ?_
              rintro x36 _ _ hx36 ⟨rfl, rfl, rfl⟩
              have e3 : pCan n (M 211) (M 212) (M 200 12) x = (pHere n (M 211) (M 212) (M 200 12)).isSome := by rw [h32]; unfold pCan; simp; exact pHere_std hdis
              obtain ⟨r, hr⟩ : ∃ r, pHere n (M 211) (M 212) (M 200 12) = r := ⟨_, rfl⟩
              rw [hr] at e3 ⊢
              cases r with
              | none =>
                rw [pOr_n]
                refine vV.if_lt (tgt := 46) dX7_can_39 (by decide) (fun h39 => ?_) (fun h39 => ?_)
                · skip
                  refine vV.iconst dX7_can_46 (by decide) ?_
                  refine vV.rz dX7_can_47 rfl (by first | exact Or.inl rfl | exact Or.inr rfl | assumption) ?_
                  rw [e3]; exact ⟨rfl, rfl, rfl⟩
                · skip
                  omega
              | some p =>
                rw [pOr_s]
                refine vV.if_lt (tgt := 46) dX7_can_39 (by decide) (fun h39 => ?_) (fun h39 => ?_)
                · skip
                  omega
                · skip
                  refine vV.iconst dX7_can_42 (by decide) ?_
                  refine vV.goto (tgt := 47) dX7_can_43 (by decide) ?_
                  refine vV.rz dX7_can_47 rfl (by first | exact Or.inl rfl | exact Or.inr rfl | assumption) ?_
                  rw [e3]; exact ⟨rfl, rfl, rfl⟩
              skip
theorem dX7_note_0 : decode cX7_note 0 = .ok (.iconst 0, 1) := by decide +kernel
theorem dX7_note_1 : decode cX7_note 1 = .ok (.istore_n 1, 1) := by decide +kernel
theorem dX7_note_2 : decode cX7_note 2 = .ok (.iconst 0, 1) := by decide +kernel
theorem dX7_note_3 : decode cX7_note 3 = .ok (.istore_n 2, 1) := by decide +kernel
theorem dX7_note_4 : decode cX7_note 4 = .ok (.iload_n 2, 1) := by decide +kernel
theorem dX7_note_5 : decode cX7_note 5 = .ok (.aload_n 0, 1) := by decide +kernel
theorem dX7_note_6 : decode cX7_note 6 = .ok (.getfield 89, 3) := by decide +kernel
theorem dX7_note_9 : decode cX7_note 9 = .ok (.if_icmp .ge 22, 3) := by decide +kernel
theorem dX7_note_12 : decode cX7_note 12 = .ok (.iload_n 1, 1) := by decide +kernel
theorem dX7_note_13 : decode cX7_note 13 = .ok (.aload_n 0, 1) := by decide +kernel
theorem dX7_note_14 : decode cX7_note 14 = .ok (.getfield 25, 3) := by decide +kernel
theorem dX7_note_17 : decode cX7_note 17 = .ok (.iload_n 2, 1) := by decide +kernel
theorem dX7_note_18 : decode cX7_note 18 = .ok (.iaload, 1) := by decide +kernel
theorem dX7_note_19 : decode cX7_note 19 = .ok (.iconst 4, 1) := by decide +kernel
theorem dX7_note_20 : decode cX7_note 20 = .ok (.iload_n 2, 1) := by decide +kernel
theorem dX7_note_21 : decode cX7_note 21 = .ok (.imul, 1) := by decide +kernel
theorem dX7_note_22 : decode cX7_note 22 = .ok (.ishl, 1) := by decide +kernel
theorem dX7_note_23 : decode cX7_note 23 = .ok (.ior, 1) := by decide +kernel
theorem dX7_note_24 : decode cX7_note 24 = .ok (.istore_n 1, 1) := by decide +kernel
theorem dX7_note_25 : decode cX7_note 25 = .ok (.iinc 2 1, 3) := by decide +kernel
theorem dX7_note_28 : decode cX7_note 28 = .ok (.goto (-24), 3) := by decide +kernel
theorem dX7_note_31 : decode cX7_note 31 = .ok (.aload_n 0, 1) := by decide +kernel
theorem dX7_note_32 : decode cX7_note 32 = .ok (.getfield 28, 3) := by decide +kernel
theorem dX7_note_35 : decode cX7_note 35 = .ok (.aload_n 0, 1) := by decide +kernel
theorem dX7_note_36 : decode cX7_note 36 = .ok (.getfield 135, 3) := by decide +kernel
theorem dX7_note_39 : decode cX7_note 39 = .ok (.iload_n 1, 1) := by decide +kernel
theorem dX7_note_40 : decode cX7_note 40 = .ok (.iastore, 1) := by decide +kernel
theorem dX7_note_41 : decode cX7_note 41 = .ok (.aload_n 0, 1) := by decide +kernel
theorem dX7_note_42 : decode cX7_note 42 = .ok (.getfield 31, 3) := by decide +kernel
theorem dX7_note_45 : decode cX7_note 45 = .ok (.aload_n 0, 1) := by decide +kernel
theorem dX7_note_46 : decode cX7_note 46 = .ok (.getfield 135, 3) := by decide +kernel
theorem dX7_note_49 : decode cX7_note 49 = .ok (.aload_n 0, 1) := by decide +kernel
theorem dX7_note_50 : decode cX7_note 50 = .ok (.getfield 123, 3) := by decide +kernel
theorem dX7_note_53 : decode cX7_note 53 = .ok (.bipush 16, 2) := by decide +kernel
theorem dX7_note_55 : decode cX7_note 55 = .ok (.imul, 1) := by decide +kernel
theorem dX7_note_56 : decode cX7_note 56 = .ok (.aload_n 0, 1) := by decide +kernel
theorem dX7_note_57 : decode cX7_note 57 = .ok (.getfield 126, 3) := by decide +kernel
theorem dX7_note_60 : decode cX7_note 60 = .ok (.iadd, 1) := by decide +kernel
theorem dX7_note_61 : decode cX7_note 61 = .ok (.bipush 6, 2) := by decide +kernel
theorem dX7_note_63 : decode cX7_note 63 = .ok (.iadd, 1) := by decide +kernel
theorem dX7_note_64 : decode cX7_note 64 = .ok (.bipush 16, 2) := by decide +kernel
theorem dX7_note_66 : decode cX7_note 66 = .ok (.imul, 1) := by decide +kernel
theorem dX7_note_67 : decode cX7_note 67 = .ok (.aload_n 0, 1) := by decide +kernel
theorem dX7_note_68 : decode cX7_note 68 = .ok (.getfield 129, 3) := by decide +kernel
theorem dX7_note_71 : decode cX7_note 71 = .ok (.iadd, 1) := by decide +kernel
theorem dX7_note_72 : decode cX7_note 72 = .ok (.bipush 16, 2) := by decide +kernel
theorem dX7_note_74 : decode cX7_note 74 = .ok (.imul, 1) := by decide +kernel
theorem dX7_note_75 : decode cX7_note 75 = .ok (.aload_n 0, 1) := by decide +kernel
theorem dX7_note_76 : decode cX7_note 76 = .ok (.getfield 132, 3) := by decide +kernel
theorem dX7_note_79 : decode cX7_note 79 = .ok (.iadd, 1) := by decide +kernel
theorem dX7_note_80 : decode cX7_note 80 = .ok (.bipush 6, 2) := by decide +kernel
theorem dX7_note_82 : decode cX7_note 82 = .ok (.iadd, 1) := by decide +kernel
theorem dX7_note_83 : decode cX7_note 83 = .ok (.iastore, 1) := by decide +kernel
theorem dX7_note_84 : decode cX7_note 84 = .ok (.return_, 1) := by decide +kernel
def pRest (man g w l : Int) : Int := ((man * 16 + g + 6) * 16 + w) * 16 + l + 6
theorem l_X7_note {d : List Nat} {T : vT} {M : vM} {n t : Nat} (hB : vB T) (hc : M 200 4 = n) (hn : n ≤ 6) (ht : ∀ j : Nat, 0 ≤ M 212 j ∧ M 212 j ≤ 15) (hd : M 200 16 = t) (htt : t ≤ 600) (h1 : -1 ≤ M 200 12 ∧ M 200 12 ≤ 8) (h2 : -6 ≤ M 200 13 ∧ M 200 13 ≤ 5) (h3 : 0 ≤ M 200 14 ∧ M 200 14 ≤ 9) (h4 : -6 ≤ M 200 15 ∧ M 200 15 ≤ 5) : ∀ p, p ≤ n →
    vV m_X7_note d d (vPv fun T1 M1 => T = T1 ∧ M1 = vUpd (vUpd M 218 t (pPack (M 212) n)) 219 t (pRest (M 200 12) (M 200 13) (M 200 14) (M 200 15))) 4 [some (vR 200), some (vI (pPack (M 212) p)), some (vI p)] [] d T M := by
  refine vUp ?_
  intro p hp ih
  have e1 : ∀ x, vUpd M 218 t x 200 = M 200 := fun x => by funext j; rw [vUpd_nk (by decide)]
  refine vV.iload_n dX7_note_4 rfl ?_
  refine vV.aload_n dX7_note_5 rfl ?_
  refine vV.geti (z := 4) dX7_note_6 fl_X7_89 (by first | rfl | assumption) rfl rfl ?_
  refine vV.icmp_ge (tgt := 31) dX7_note_9 (by decide) (fun h9 => ?_) (fun h9 => ?_)
  · skip
    refine vV.aload_n dX7_note_31 rfl ?_
    refine vV.getr dX7_note_32 fl_X7_28 (by first | rfl | assumption) rfl (by first | assumption | exact hB _ _ _ rfl) ?_
    refine vV.aload_n dX7_note_35 rfl ?_
    refine vV.geti (z := 16) dX7_note_36 fl_X7_135 (by first | rfl | assumption) rfl rfl ?_
    rw [hd]
    refine vV.iload_n dX7_note_39 rfl ?_
    refine vV.iast dX7_note_40 (by first | rfl | assumption) (by omega) (by omega) ?_
    refine vV.aload_n dX7_note_41 rfl ?_
    refine vV.getr dX7_note_42 fl_X7_31 (by first | rfl | assumption) rfl (by first | assumption | exact hB _ _ _ rfl) ?_
    refine vV.aload_n dX7_note_45 rfl ?_
    refine vV.geti (z := 16) dX7_note_46 fl_X7_135 (by first | rfl | assumption) rfl rfl ?_
    rw [e1, hd]
    refine vV.aload_n dX7_note_49 rfl ?_
    refine vV.geti (z := 12) dX7_note_50 fl_X7_123 (by first | rfl | assumption) rfl rfl ?_
    rw [e1]
    refine vV.bipush (v := 16) dX7_note_53 (by decide) (by decide) ?_
    refine vV.imul dX7_note_55 (⟨by omega, by omega⟩) ?_
    refine vV.aload_n dX7_note_56 rfl ?_
    refine vV.geti (z := 13) dX7_note_57 fl_X7_126 (by first | rfl | assumption) rfl rfl ?_
    rw [e1]
    refine vV.iadd dX7_note_60 (⟨by omega, by omega⟩) ?_
    refine vV.bipush (v := 6) dX7_note_61 (by decide) (by decide) ?_
    refine vV.iadd dX7_note_63 (⟨by omega, by omega⟩) ?_
    refine vV.bipush (v := 16) dX7_note_64 (by decide) (by decide) ?_
    refine vV.imul dX7_note_66 (⟨by omega, by omega⟩) ?_
    refine vV.aload_n dX7_note_67 rfl ?_
    refine vV.geti (z := 14) dX7_note_68 fl_X7_129 (by first | rfl | assumption) rfl rfl ?_
    rw [e1]
    refine vV.iadd dX7_note_71 (⟨by omega, by omega⟩) ?_
    refine vV.bipush (v := 16) dX7_note_72 (by decide) (by decide) ?_
    refine vV.imul dX7_note_74 (⟨by omega, by omega⟩) ?_
    refine vV.aload_n dX7_note_75 rfl ?_
    refine vV.geti (z := 15) dX7_note_76 fl_X7_132 (by first | rfl | assumption) rfl rfl ?_
    rw [e1]
    refine vV.iadd dX7_note_79 (⟨by omega, by omega⟩) ?_
    refine vV.bipush (v := 6) dX7_note_80 (by decide) (by decide) ?_
    refine vV.iadd dX7_note_82 (⟨by omega, by omega⟩) ?_
    refine vV.iast dX7_note_83 (by first | rfl | assumption) (by omega) (by omega) ?_
    refine vV.rv dX7_note_84 rfl ?_
    rw [show p = n by omega]; exact ⟨rfl, rfl⟩
  · skip
    rw [← pPack_or _ ht (by omega)] at ih
    refine vV.iload_n dX7_note_12 rfl ?_
    refine vV.aload_n dX7_note_13 rfl ?_
    refine vV.getr dX7_note_14 fl_X7_25 (by first | rfl | assumption) rfl (by first | assumption | exact hB _ _ _ rfl) ?_
    refine vV.iload_n dX7_note_17 rfl ?_
    refine vV.iald dX7_note_18 (by first | rfl | assumption) (by omega) (by omega) ?_
    refine vV.iconst dX7_note_19 (by decide) ?_
    refine vV.iload_n dX7_note_20 rfl ?_
    refine vV.imul dX7_note_21 (⟨by omega, by omega⟩) ?_
    refine vV.ishl dX7_note_22 ?_
    refine vV.ior dX7_note_23 ?_
    refine vV.istore_n (L' := [_, _, _]) dX7_note_24 (by decide) rfl ?_
    refine vV.iinc (L' := [_, _, _]) dX7_note_25 (by decide) rfl (⟨by omega, by omega⟩) rfl ?_
    refine vV.goto (tgt := 4) dX7_note_28 (by decide) ?_
    exact ih (by omega)
theorem c_X7_note {d : List Nat} {T : vT} {M : vM} {n t : Nat} (hB : vB T) (hc : M 200 4 = n) (hn : n ≤ 6) (ht : ∀ j : Nat, 0 ≤ M 212 j ∧ M 212 j ≤ 15) (hd : M 200 16 = t) (htt : t ≤ 600) (h1 : -1 ≤ M 200 12 ∧ M 200 12 ≤ 8) (h2 : -6 ≤ M 200 13 ∧ M 200 13 ≤ 5) (h3 : 0 ≤ M 200 14 ∧ M 200 14 ≤ 9) (h4 : -6 ≤ M 200 15 ∧ M 200 15 ≤ 5) : vCon m_X7_note d d [vR 200] T M (vPv fun T1 M1 => T = T1 ∧ M1 = vUpd (vUpd M 218 t (pPack (M 212) n)) 219 t (pRest (M 200 12) (M 200 13) (M 200 14) (M 200 15))) := by
  refine vCon.of (by decide) rfl rfl (Nat.le_of_ble_eq_true rfl) ?_
  refine vV.iconst dX7_note_0 (by decide) ?_
  refine vV.istore_n (L' := [_, _, _]) dX7_note_1 (by decide) rfl ?_
  refine vV.iconst dX7_note_2 (by decide) ?_
  refine vV.istore_n (L' := [_, _, _]) dX7_note_3 (by decide) rfl ?_
  exact l_X7_note hB hc hn ht hd htt h1 h2 h3 h4 0 (by omega)
theorem dX7_wind_0 : decode cX7_wind 0 = .ok (.aload_n 0, 1) := by decide +kernel
theorem dX7_wind_1 : decode cX7_wind 1 = .ok (.getfield 25, 3) := by decide +kernel
theorem dX7_wind_4 : decode cX7_wind 4 = .ok (.iload_n 1, 1) := by decide +kernel
theorem dX7_wind_5 : decode cX7_wind 5 = .ok (.aload_n 0, 1) := by decide +kernel
theorem dX7_wind_6 : decode cX7_wind 6 = .ok (.getfield 25, 3) := by decide +kernel
theorem dX7_wind_9 : decode cX7_wind 9 = .ok (.iload_n 1, 1) := by decide +kernel
theorem dX7_wind_10 : decode cX7_wind 10 = .ok (.iaload, 1) := by decide +kernel
theorem dX7_wind_11 : decode cX7_wind 11 = .ok (.aload_n 0, 1) := by decide +kernel
theorem dX7_wind_12 : decode cX7_wind 12 = .ok (.getfield 80, 3) := by decide +kernel
theorem dX7_wind_15 : decode cX7_wind 15 = .ok (.iadd, 1) := by decide +kernel
theorem dX7_wind_16 : decode cX7_wind 16 = .ok (.aload_n 0, 1) := by decide +kernel
theorem dX7_wind_17 : decode cX7_wind 17 = .ok (.getfield 13, 3) := by decide +kernel
theorem dX7_wind_20 : decode cX7_wind 20 = .ok (.iload_n 1, 1) := by decide +kernel
theorem dX7_wind_21 : decode cX7_wind 21 = .ok (.iaload, 1) := by decide +kernel
theorem dX7_wind_22 : decode cX7_wind 22 = .ok (.if_icmp .le 12, 3) := by decide +kernel
theorem dX7_wind_25 : decode cX7_wind 25 = .ok (.aload_n 0, 1) := by decide +kernel
theorem dX7_wind_26 : decode cX7_wind 26 = .ok (.getfield 13, 3) := by decide +kernel
theorem dX7_wind_29 : decode cX7_wind 29 = .ok (.iload_n 1, 1) := by decide +kernel
theorem dX7_wind_30 : decode cX7_wind 30 = .ok (.iaload, 1) := by decide +kernel
theorem dX7_wind_31 : decode cX7_wind 31 = .ok (.goto 14, 3) := by decide +kernel
theorem dX7_wind_34 : decode cX7_wind 34 = .ok (.aload_n 0, 1) := by decide +kernel
theorem dX7_wind_35 : decode cX7_wind 35 = .ok (.getfield 25, 3) := by decide +kernel
theorem dX7_wind_38 : decode cX7_wind 38 = .ok (.iload_n 1, 1) := by decide +kernel
theorem dX7_wind_39 : decode cX7_wind 39 = .ok (.iaload, 1) := by decide +kernel
theorem dX7_wind_40 : decode cX7_wind 40 = .ok (.aload_n 0, 1) := by decide +kernel
theorem dX7_wind_41 : decode cX7_wind 41 = .ok (.getfield 80, 3) := by decide +kernel
theorem dX7_wind_44 : decode cX7_wind 44 = .ok (.iadd, 1) := by decide +kernel
theorem dX7_wind_45 : decode cX7_wind 45 = .ok (.iastore, 1) := by decide +kernel
theorem dX7_wind_46 : decode cX7_wind 46 = .ok (.iload_n 1, 1) := by decide +kernel
theorem dX7_wind_47 : decode cX7_wind 47 = .ok (.aload_n 0, 1) := by decide +kernel
theorem dX7_wind_48 : decode cX7_wind 48 = .ok (.getfield 126, 3) := by decide +kernel
theorem dX7_wind_51 : decode cX7_wind 51 = .ok (.if_icmp .ne 50, 3) := by decide +kernel
theorem dX7_wind_54 : decode cX7_wind 54 = .ok (.aload_n 0, 1) := by decide +kernel
theorem dX7_wind_55 : decode cX7_wind 55 = .ok (.dup, 1) := by decide +kernel
theorem dX7_wind_56 : decode cX7_wind 56 = .ok (.getfield 129, 3) := by decide +kernel
theorem dX7_wind_59 : decode cX7_wind 59 = .ok (.iconst 1, 1) := by decide +kernel
theorem dX7_wind_60 : decode cX7_wind 60 = .ok (.iadd, 1) := by decide +kernel
theorem dX7_wind_61 : decode cX7_wind 61 = .ok (.putfield 129, 3) := by decide +kernel
theorem dX7_wind_64 : decode cX7_wind 64 = .ok (.aload_n 0, 1) := by decide +kernel
theorem dX7_wind_65 : decode cX7_wind 65 = .ok (.getfield 25, 3) := by decide +kernel
theorem dX7_wind_68 : decode cX7_wind 68 = .ok (.iload_n 1, 1) := by decide +kernel
theorem dX7_wind_69 : decode cX7_wind 69 = .ok (.iaload, 1) := by decide +kernel
theorem dX7_wind_70 : decode cX7_wind 70 = .ok (.aload_n 0, 1) := by decide +kernel
theorem dX7_wind_71 : decode cX7_wind 71 = .ok (.getfield 13, 3) := by decide +kernel
theorem dX7_wind_74 : decode cX7_wind 74 = .ok (.iload_n 1, 1) := by decide +kernel
theorem dX7_wind_75 : decode cX7_wind 75 = .ok (.iaload, 1) := by decide +kernel
theorem dX7_wind_76 : decode cX7_wind 76 = .ok (.if_icmp .eq 14, 3) := by decide +kernel
theorem dX7_wind_79 : decode cX7_wind 79 = .ok (.aload_n 0, 1) := by decide +kernel
theorem dX7_wind_80 : decode cX7_wind 80 = .ok (.getfield 129, 3) := by decide +kernel
theorem dX7_wind_83 : decode cX7_wind 83 = .ok (.aload_n 0, 1) := by decide +kernel
theorem dX7_wind_84 : decode cX7_wind 84 = .ok (.getfield 83, 3) := by decide +kernel
theorem dX7_wind_87 : decode cX7_wind 87 = .ok (.if_icmp .ne 14, 3) := by decide +kernel
theorem dX7_wind_90 : decode cX7_wind 90 = .ok (.aload_n 0, 1) := by decide +kernel
theorem dX7_wind_91 : decode cX7_wind 91 = .ok (.bipush (-6), 2) := by decide +kernel
theorem dX7_wind_93 : decode cX7_wind 93 = .ok (.putfield 126, 3) := by decide +kernel
theorem dX7_wind_96 : decode cX7_wind 96 = .ok (.aload_n 0, 1) := by decide +kernel
theorem dX7_wind_97 : decode cX7_wind 97 = .ok (.iconst 0, 1) := by decide +kernel
theorem dX7_wind_98 : decode cX7_wind 98 = .ok (.putfield 129, 3) := by decide +kernel
theorem dX7_wind_101 : decode cX7_wind 101 = .ok (.return_, 1) := by decide +kernel
/-- what a winding does to goal and count -/
def pGo (pl fu tuW : Int → Int) (man pat thing : Int) (g : Option Nat) (w : Int) : Option Nat × Int := match g with
  | none => (none, w)
  | some p => if thing = 3 ∧ pl p = man then (if tuW p = fu p ∨ pat ≤ w + 1 then (none, 0) else (some p, w + 1)) else (some p, w)
/-- wind(p) of a plate that stands -/
theorem c_X7_wind {d : List Nat} {T : vT} {M : vM} {n p : Nat} {g : Option Nat} (hB : vB T) (hp : p < n) (hn : n ≤ 6) (hdis : pDis n (M 211)) (hman : M 211 p = M 200 12) (hg : M 200 13 = pOr (-6) g) (hgn : ∀ k, g = some k → k < n)
    (ht : ∀ j : Nat, 0 ≤ M 212 j ∧ M 212 j ≤ 15) (hfu : ∀ j : Nat, 0 ≤ M 202 j ∧ M 202 j ≤ 15) (hgv : 1 ≤ M 200 6 ∧ M 200 6 ≤ 6) (hw : 0 ≤ M 200 14 ∧ M 200 14 < M 200 7) (hpat : M 200 7 ≤ 9) : vCon m_X7_wind d d [vR 200, vI p] T M (vPv fun T1 M1 => T = T1 ∧ mSame [200, 212] M M1 ∧ mSlot [13, 14] M M1 ∧ M1 212 = fSet (M 212) p (min (M 202 p) (M 212 p + M 200 6)) ∧
      M1 200 13 = pOr (-6) (pGo (M 211) (M 202) (M1 212) (M 200 12) (M 200 7) 3 g (M 200 14)).1 ∧ M1 200 14 = (pGo (M 211) (M 202) (M1 212) (M 200 12) (M 200 7) 3 g (M 200 14)).2) := by
  have b1 := ht p
  have b2 := hfu p
  have hgo1 : g = some p → ∀ y, pGo (M 211) (M 202) (fSet (M 212) p y) (M 200 12) (M 200 7) 3 g (M 200 14) = (if y = M 202 p ∨ M 200 7 ≤ M 200 14 + 1 then (none, 0) else (some p, M 200 14 + 1)) := by
    intro h y; subst h; unfold pGo; simp [hman, fSet_s]
  have hgo2 : g ≠ some p → ∀ y, pGo (M 211) (M 202) (fSet (M 212) p y) (M 200 12) (M 200 7) 3 g (M 200 14) = (g, M 200 14) := by
    intro hne y
    unfold pGo
    cases g with
    | none => rfl
    | some k =>
      have : M 211 k ≠ M 200 12 := fun z => hne (by rw [hdis k p (hgn k rfl) hp (by rw [z, hman])])
      simp [this]
  have hgp : (p : Int) = M 200 13 ↔ g = some p := by
    rw [hg]
    cases g with
    | none => show (p : Int) = -6 ↔ _; constructor; intro h; omega; intro h; cases h
    | some k => show (p : Int) = k ↔ _; constructor; intro h; rw [show k = p by omega]; intro h; cases h; rfl
  have key : ∀ N : vM, mSame [200, 212] M N → mSlot [13, 14] M N → N 212 = fSet (M 212) p (min (M 202 p) (M 212 p + M 200 6)) → N 200 13 = pOr (-6) (pGo (M 211) (M 202) (fSet (M 212) p (min (M 202 p) (M 212 p + M 200 6))) (M 200 12) (M 200 7) 3 g (M 200 14)).1 → N 200 14 = (pGo (M 211) (M 202) (fSet (M 212) p (min (M 202 p) (M 212 p + M 200 6))) (M 200 12) (M 200 7) 3 g (M 200 14)).2 →
      mSame [200, 212] M N ∧ mSlot [13, 14] M N ∧ N 212 = fSet (M 212) p (min (M 202 p) (M 212 p + M 200 6)) ∧ N 200 13 = pOr (-6) (pGo (M 211) (M 202) (N 212) (M 200 12) (M 200 7) 3 g (M 200 14)).1 ∧ N 200 14 = (pGo (M 211) (M 202) (N 212) (M 200 12) (M 200 7) 3 g (M 200 14)).2 := by
    intro N h1 h2 h3 h4 h5
    rw [← h3] at h4 h5
    exact ⟨h1, h2, h3, h4, h5⟩
  refine vCon.of (by decide) rfl rfl (Nat.le_of_ble_eq_true rfl) ?_
  refine vV.aload_n dX7_wind_0 rfl ?_
  refine vV.getr dX7_wind_1 fl_X7_25 (by first | rfl | assumption) rfl (by first | assumption | exact hB _ _ _ rfl) ?_
  try simp (decide := true) only [vUpd_s, vUpd_nk, vUpd_ni, vRow_s, vRow_n, fSet_s, fSet_n, ne_eq, not_false_eq_true]
  refine vV.iload_n dX7_wind_4 rfl ?_
  refine vV.aload_n dX7_wind_5 rfl ?_
  refine vV.getr dX7_wind_6 fl_X7_25 (by first | rfl | assumption) rfl (by first | assumption | exact hB _ _ _ rfl) ?_
  try simp (decide := true) only [vUpd_s, vUpd_nk, vUpd_ni, vRow_s, vRow_n, fSet_s, fSet_n, ne_eq, not_false_eq_true]
  refine vV.iload_n dX7_wind_9 rfl ?_
  refine vV.iald dX7_wind_10 (by first | rfl | assumption) (by omega) (by omega) ?_
  try simp (decide := true) only [vUpd_s, vUpd_nk, vUpd_ni, vRow_s, vRow_n, fSet_s, fSet_n, ne_eq, not_false_eq_true]
  refine vV.aload_n dX7_wind_11 rfl ?_
  refine vV.geti (z := 6) dX7_wind_12 fl_X7_80 (by first | rfl | assumption) rfl rfl ?_
  try simp (decide := true) only [vUpd_s, vUpd_nk, vUpd_ni, vRow_s, vRow_n, fSet_s, fSet_n, ne_eq, not_false_eq_true]
  refine vV.iadd dX7_wind_15 (⟨by omega, by omega⟩) ?_
  refine vV.aload_n dX7_wind_16 rfl ?_
  refine vV.getr dX7_wind_17 fl_X7_13 (by first | rfl | assumption) rfl (by first | assumption | exact hB _ _ _ rfl) ?_
  try simp (decide := true) only [vUpd_s, vUpd_nk, vUpd_ni, vRow_s, vRow_n, fSet_s, fSet_n, ne_eq, not_false_eq_true]
  refine vV.iload_n dX7_wind_20 rfl ?_
  refine vV.iald dX7_wind_21 (by first | rfl | assumption) (by omega) (by omega) ?_
  try simp (decide := true) only [vUpd_s, vUpd_nk, vUpd_ni, vRow_s, vRow_n, fSet_s, fSet_n, ne_eq, not_false_eq_true]
  refine vV.icmp_le (tgt := 34) dX7_wind_22 (by decide) (fun h22 => ?_) (fun h22 => ?_)
  · skip
    refine vV.aload_n dX7_wind_34 rfl ?_
    refine vV.getr dX7_wind_35 fl_X7_25 (by first | rfl | assumption) rfl (by first | assumption | exact hB _ _ _ rfl) ?_
    try simp (decide := true) only [vUpd_s, vUpd_nk, vUpd_ni, vRow_s, vRow_n, fSet_s, fSet_n, ne_eq, not_false_eq_true]
    refine vV.iload_n dX7_wind_38 rfl ?_
    refine vV.iald dX7_wind_39 (by first | rfl | assumption) (by omega) (by omega) ?_
    try simp (decide := true) only [vUpd_s, vUpd_nk, vUpd_ni, vRow_s, vRow_n, fSet_s, fSet_n, ne_eq, not_false_eq_true]
    refine vV.aload_n dX7_wind_40 rfl ?_
    refine vV.geti (z := 6) dX7_wind_41 fl_X7_80 (by first | rfl | assumption) rfl rfl ?_
    try simp (decide := true) only [vUpd_s, vUpd_nk, vUpd_ni, vRow_s, vRow_n, fSet_s, fSet_n, ne_eq, not_false_eq_true]
    refine vV.iadd dX7_wind_44 (⟨by omega, by omega⟩) ?_
    refine vV.iast dX7_wind_45 (by first | rfl | assumption) (by omega) (by omega) ?_
    refine vV.iload_n dX7_wind_46 rfl ?_
    refine vV.aload_n dX7_wind_47 rfl ?_
    refine vV.geti (z := 13) dX7_wind_48 fl_X7_126 (by first | rfl | assumption) rfl rfl ?_
    try simp (decide := true) only [vUpd_s, vUpd_nk, vUpd_ni, vRow_s, vRow_n, fSet_s, fSet_n, ne_eq, not_false_eq_true]
    refine vV.icmp_ne (tgt := 101) dX7_wind_51 (by decide) (fun h51 => ?_) (fun h51 => ?_)
    · skip
      have hne : g ≠ some p := fun z => h51 (hgp.mpr z)
      refine vV.rv dX7_wind_101 rfl ?_
      refine ⟨rfl, key _ ?_ ?_ ?_ ?_ ?_⟩
      · intro k hk; simp at hk; funext j; simp [vUpd, hk]
      · intro j hj; simp at hj; simp [vUpd, hj]
      · funext j; simp [vUpd, fSet]; split; omega; rfl
      · first
          | (exfalso; omega)
          | (rw [hgo2 hne]; simp [vUpd]; exact hg)
          | (rw [hgo1 hge, if_pos (by omega)]; simp [vUpd, pOr])
          | (rw [hgo1 hge, if_neg (by omega)]; simp [vUpd, pOr]; omega)
      · first
          | (exfalso; omega)
          | (rw [hgo2 hne]; simp [vUpd]; done)
          | (rw [hgo1 hge, if_pos (by omega)]; simp [vUpd]; done)
          | (rw [hgo1 hge, if_neg (by omega)]; simp [vUpd]; done)
    · skip
      have hge : g = some p := hgp.mp h51
      refine vV.aload_n dX7_wind_54 rfl ?_
      refine vV.dup dX7_wind_55 rfl ?_
      refine vV.geti (z := 14) dX7_wind_56 fl_X7_129 (by first | rfl | assumption) rfl rfl ?_
      try simp (decide := true) only [vUpd_s, vUpd_nk, vUpd_ni, vRow_s, vRow_n, fSet_s, fSet_n, ne_eq, not_false_eq_true]
      refine vV.iconst dX7_wind_59 (by decide) ?_
      refine vV.iadd dX7_wind_60 (⟨by omega, by omega⟩) ?_
      refine vV.puti (z := 14) dX7_wind_61 fl_X7_129 (by first | rfl | assumption) rfl rfl ?_
      refine vV.aload_n dX7_wind_64 rfl ?_
      refine vV.getr dX7_wind_65 fl_X7_25 (by first | rfl | assumption) rfl (by first | assumption | exact hB _ _ _ rfl) ?_
      try simp (decide := true) only [vUpd_s, vUpd_nk, vUpd_ni, vRow_s, vRow_n, fSet_s, fSet_n, ne_eq, not_false_eq_true]
      refine vV.iload_n dX7_wind_68 rfl ?_
      refine vV.iald dX7_wind_69 (by first | rfl | assumption) (by omega) (by omega) ?_
      try simp (decide := true) only [vUpd_s, vUpd_nk, vUpd_ni, vRow_s, vRow_n, fSet_s, fSet_n, ne_eq, not_false_eq_true]
      refine vV.aload_n dX7_wind_70 rfl ?_
      refine vV.getr dX7_wind_71 fl_X7_13 (by first | rfl | assumption) rfl (by first | assumption | exact hB _ _ _ rfl) ?_
      try simp (decide := true) only [vUpd_s, vUpd_nk, vUpd_ni, vRow_s, vRow_n, fSet_s, fSet_n, ne_eq, not_false_eq_true]
      refine vV.iload_n dX7_wind_74 rfl ?_
      refine vV.iald dX7_wind_75 (by first | rfl | assumption) (by omega) (by omega) ?_
      try simp (decide := true) only [vUpd_s, vUpd_nk, vUpd_ni, vRow_s, vRow_n, fSet_s, fSet_n, ne_eq, not_false_eq_true]
      refine vV.icmp_eq (tgt := 90) dX7_wind_76 (by decide) (fun h76 => ?_) (fun h76 => ?_)
      · skip
        refine vV.aload_n dX7_wind_90 rfl ?_
        refine vV.bipush (v := (-6)) dX7_wind_91 (by decide) (by decide) ?_
        refine vV.puti (z := 13) dX7_wind_93 fl_X7_126 (by first | rfl | assumption) rfl rfl ?_
        refine vV.aload_n dX7_wind_96 rfl ?_
        refine vV.iconst dX7_wind_97 (by decide) ?_
        refine vV.puti (z := 14) dX7_wind_98 fl_X7_129 (by first | rfl | assumption) rfl rfl ?_
        refine vV.rv dX7_wind_101 rfl ?_
        refine ⟨rfl, key _ ?_ ?_ ?_ ?_ ?_⟩
        · intro k hk; simp at hk; funext j; simp [vUpd, hk]
        · intro j hj; simp at hj; simp [vUpd, hj]
        · funext j; simp [vUpd, fSet]; split; omega; rfl
        · first
            | (exfalso; omega)
            | (rw [hgo2 hne]; simp [vUpd]; exact hg)
            | (rw [hgo1 hge, if_pos (by omega)]; simp [vUpd, pOr])
            | (rw [hgo1 hge, if_neg (by omega)]; simp [vUpd, pOr]; omega)
        · first
            | (exfalso; omega)
            | (rw [hgo2 hne]; simp [vUpd]; done)
            | (rw [hgo1 hge, if_pos (by omega)]; simp [vUpd]; done)
            | (rw [hgo1 hge, if_neg (by omega)]; simp [vUpd]; done)
      · skip
        refine vV.aload_n dX7_wind_79 rfl ?_
        refine vV.geti (z := 14) dX7_wind_80 fl_X7_129 (by first | rfl | assumption) rfl rfl ?_
        try simp (decide := true) only [vUpd_s, vUpd_nk, vUpd_ni, vRow_s, vRow_n, fSet_s, fSet_n, ne_eq, not_false_eq_true]
        refine vV.aload_n dX7_wind_83 rfl ?_
        refine vV.geti (z := 7) dX7_wind_84 fl_X7_83 (by first | rfl | assumption) rfl rfl ?_
        try simp (decide := true) only [vUpd_s, vUpd_nk, vUpd_ni, vRow_s, vRow_n, fSet_s, fSet_n, ne_eq, not_false_eq_true]
        refine vV.icmp_ne (tgt := 101) dX7_wind_87 (by decide) (fun h87 => ?_) (fun h87 => ?_)
        · skip
          refine vV.rv dX7_wind_101 rfl ?_
          refine ⟨rfl, key _ ?_ ?_ ?_ ?_ ?_⟩
          · intro k hk; simp at hk; funext j; simp [vUpd, hk]
          · intro j hj; simp at hj; simp [vUpd, hj]
          · funext j; simp [vUpd, fSet]; split; omega; rfl
          · first
              | (exfalso; omega)
              | (rw [hgo2 hne]; simp [vUpd]; exact hg)
              | (rw [hgo1 hge, if_pos (by omega)]; simp [vUpd, pOr])
              | (rw [hgo1 hge, if_neg (by omega)]; simp [vUpd, pOr]; omega)
          · first
              | (exfalso; omega)
              | (rw [hgo2 hne]; simp [vUpd]; done)
              | (rw [hgo1 hge, if_pos (by omega)]; simp [vUpd]; done)
              | (rw [hgo1 hge, if_neg (by omega)]; simp [vUpd]; done)
        · skip
          refine vV.aload_n dX7_wind_90 rfl ?_
          refine vV.bipush (v := (-6)) dX7_wind_91 (by decide) (by decide) ?_
          refine vV.puti (z := 13) dX7_wind_93 fl_X7_126 (by first | rfl | assumption) rfl rfl ?_
          refine vV.aload_n dX7_wind_96 rfl ?_
          refine vV.iconst dX7_wind_97 (by decide) ?_
          refine vV.puti (z := 14) dX7_wind_98 fl_X7_129 (by first | rfl | assumption) rfl rfl ?_
          refine vV.rv dX7_wind_101 rfl ?_
          refine ⟨rfl, key _ ?_ ?_ ?_ ?_ ?_⟩
          · intro k hk; simp at hk; funext j; simp [vUpd, hk]
          · intro j hj; simp at hj; simp [vUpd, hj]
          · funext j; simp [vUpd, fSet]; split; omega; rfl
          · first
              | (exfalso; omega)
              | (rw [hgo2 hne]; simp [vUpd]; exact hg)
              | (rw [hgo1 hge, if_pos (by omega)]; simp [vUpd, pOr])
              | (rw [hgo1 hge, if_neg (by omega)]; simp [vUpd, pOr]; omega)
          · first
              | (exfalso; omega)
              | (rw [hgo2 hne]; simp [vUpd]; done)
              | (rw [hgo1 hge, if_pos (by omega)]; simp [vUpd]; done)
              | (rw [hgo1 hge, if_neg (by omega)]; simp [vUpd]; done)
  · skip
    refine vV.aload_n dX7_wind_25 rfl ?_
    refine vV.getr dX7_wind_26 fl_X7_13 (by first | rfl | assumption) rfl (by first | assumption | exact hB _ _ _ rfl) ?_
    try simp (decide := true) only [vUpd_s, vUpd_nk, vUpd_ni, vRow_s, vRow_n, fSet_s, fSet_n, ne_eq, not_false_eq_true]
    refine vV.iload_n dX7_wind_29 rfl ?_
    refine vV.iald dX7_wind_30 (by first | rfl | assumption) (by omega) (by omega) ?_
    try simp (decide := true) only [vUpd_s, vUpd_nk, vUpd_ni, vRow_s, vRow_n, fSet_s, fSet_n, ne_eq, not_false_eq_true]
    refine vV.goto (tgt := 45) dX7_wind_31 (by decide) ?_
    refine vV.iast dX7_wind_45 (by first | rfl | assumption) (by omega) (by omega) ?_
    refine vV.iload_n dX7_wind_46 rfl ?_
    refine vV.aload_n dX7_wind_47 rfl ?_
    refine vV.geti (z := 13) dX7_wind_48 fl_X7_126 (by first | rfl | assumption) rfl rfl ?_
    try simp (decide := true) only [vUpd_s, vUpd_nk, vUpd_ni, vRow_s, vRow_n, fSet_s, fSet_n, ne_eq, not_false_eq_true]
    refine vV.icmp_ne (tgt := 101) dX7_wind_51 (by decide) (fun h51 => ?_) (fun h51 => ?_)
    · skip
      have hne : g ≠ some p := fun z => h51 (hgp.mpr z)
      refine vV.rv dX7_wind_101 rfl ?_
      refine ⟨rfl, key _ ?_ ?_ ?_ ?_ ?_⟩
      · intro k hk; simp at hk; funext j; simp [vUpd, hk]
      · intro j hj; simp at hj; simp [vUpd, hj]
      · funext j; simp [vUpd, fSet]; split; omega; rfl
      · first
          | (exfalso; omega)
          | (rw [hgo2 hne]; simp [vUpd]; exact hg)
          | (rw [hgo1 hge, if_pos (by omega)]; simp [vUpd, pOr])
          | (rw [hgo1 hge, if_neg (by omega)]; simp [vUpd, pOr]; omega)
      · first
          | (exfalso; omega)
          | (rw [hgo2 hne]; simp [vUpd]; done)
          | (rw [hgo1 hge, if_pos (by omega)]; simp [vUpd]; done)
          | (rw [hgo1 hge, if_neg (by omega)]; simp [vUpd]; done)
    · skip
      have hge : g = some p := hgp.mp h51
      refine vV.aload_n dX7_wind_54 rfl ?_
      refine vV.dup dX7_wind_55 rfl ?_
      refine vV.geti (z := 14) dX7_wind_56 fl_X7_129 (by first | rfl | assumption) rfl rfl ?_
      try simp (decide := true) only [vUpd_s, vUpd_nk, vUpd_ni, vRow_s, vRow_n, fSet_s, fSet_n, ne_eq, not_false_eq_true]
      refine vV.iconst dX7_wind_59 (by decide) ?_
      refine vV.iadd dX7_wind_60 (⟨by omega, by omega⟩) ?_
      refine vV.puti (z := 14) dX7_wind_61 fl_X7_129 (by first | rfl | assumption) rfl rfl ?_
      refine vV.aload_n dX7_wind_64 rfl ?_
      refine vV.getr dX7_wind_65 fl_X7_25 (by first | rfl | assumption) rfl (by first | assumption | exact hB _ _ _ rfl) ?_
      try simp (decide := true) only [vUpd_s, vUpd_nk, vUpd_ni, vRow_s, vRow_n, fSet_s, fSet_n, ne_eq, not_false_eq_true]
      refine vV.iload_n dX7_wind_68 rfl ?_
      refine vV.iald dX7_wind_69 (by first | rfl | assumption) (by omega) (by omega) ?_
      try simp (decide := true) only [vUpd_s, vUpd_nk, vUpd_ni, vRow_s, vRow_n, fSet_s, fSet_n, ne_eq, not_false_eq_true]
      refine vV.aload_n dX7_wind_70 rfl ?_
      refine vV.getr dX7_wind_71 fl_X7_13 (by first | rfl | assumption) rfl (by first | assumption | exact hB _ _ _ rfl) ?_
      try simp (decide := true) only [vUpd_s, vUpd_nk, vUpd_ni, vRow_s, vRow_n, fSet_s, fSet_n, ne_eq, not_false_eq_true]
      refine vV.iload_n dX7_wind_74 rfl ?_
      refine vV.iald dX7_wind_75 (by first | rfl | assumption) (by omega) (by omega) ?_
      try simp (decide := true) only [vUpd_s, vUpd_nk, vUpd_ni, vRow_s, vRow_n, fSet_s, fSet_n, ne_eq, not_false_eq_true]
      refine vV.icmp_eq (tgt := 90) dX7_wind_76 (by decide) (fun h76 => ?_) (fun h76 => ?_)
      · skip
        refine vV.aload_n dX7_wind_90 rfl ?_
        refine vV.bipush (v := (-6)) dX7_wind_91 (by decide) (by decide) ?_
        refine vV.puti (z := 13) dX7_wind_93 fl_X7_126 (by first | rfl | assumption) rfl rfl ?_
        refine vV.aload_n dX7_wind_96 rfl ?_
        refine vV.iconst dX7_wind_97 (by decide) ?_
        refine vV.puti (z := 14) dX7_wind_98 fl_X7_129 (by first | rfl | assumption) rfl rfl ?_
        refine vV.rv dX7_wind_101 rfl ?_
        refine ⟨rfl, key _ ?_ ?_ ?_ ?_ ?_⟩
        · intro k hk; simp at hk; funext j; simp [vUpd, hk]
        · intro j hj; simp at hj; simp [vUpd, hj]
        · funext j; simp [vUpd, fSet]; split; omega; rfl
        · first
            | (exfalso; omega)
            | (rw [hgo2 hne]; simp [vUpd]; exact hg)
            | (rw [hgo1 hge, if_pos (by omega)]; simp [vUpd, pOr])
            | (rw [hgo1 hge, if_neg (by omega)]; simp [vUpd, pOr]; omega)
        · first
            | (exfalso; omega)
            | (rw [hgo2 hne]; simp [vUpd]; done)
            | (rw [hgo1 hge, if_pos (by omega)]; simp [vUpd]; done)
            | (rw [hgo1 hge, if_neg (by omega)]; simp [vUpd]; done)
      · skip
        refine vV.aload_n dX7_wind_79 rfl ?_
        refine vV.geti (z := 14) dX7_wind_80 fl_X7_129 (by first | rfl | assumption) rfl rfl ?_
        try simp (decide := true) only [vUpd_s, vUpd_nk, vUpd_ni, vRow_s, vRow_n, fSet_s, fSet_n, ne_eq, not_false_eq_true]
        refine vV.aload_n dX7_wind_83 rfl ?_
        refine vV.geti (z := 7) dX7_wind_84 fl_X7_83 (by first | rfl | assumption) rfl rfl ?_
        try simp (decide := true) only [vUpd_s, vUpd_nk, vUpd_ni, vRow_s, vRow_n, fSet_s, fSet_n, ne_eq, not_false_eq_true]
        refine vV.icmp_ne (tgt := 101) dX7_wind_87 (by decide) (fun h87 => ?_) (fun h87 => ?_)
        · skip
          refine vV.rv dX7_wind_101 rfl ?_
          refine ⟨rfl, key _ ?_ ?_ ?_ ?_ ?_⟩
          · intro k hk; simp at hk; funext j; simp [vUpd, hk]
          · intro j hj; simp at hj; simp [vUpd, hj]
          · funext j; simp [vUpd, fSet]; split; omega; rfl
          · first
              | (exfalso; omega)
              | (rw [hgo2 hne]; simp [vUpd]; exact hg)
              | (rw [hgo1 hge, if_pos (by omega)]; simp [vUpd, pOr])
              | (rw [hgo1 hge, if_neg (by omega)]; simp [vUpd, pOr]; omega)
          · first
              | (exfalso; omega)
              | (rw [hgo2 hne]; simp [vUpd]; done)
              | (rw [hgo1 hge, if_pos (by omega)]; simp [vUpd]; done)
              | (rw [hgo1 hge, if_neg (by omega)]; simp [vUpd]; done)
        · skip
          refine vV.aload_n dX7_wind_90 rfl ?_
          refine vV.bipush (v := (-6)) dX7_wind_91 (by decide) (by decide) ?_
          refine vV.puti (z := 13) dX7_wind_93 fl_X7_126 (by first | rfl | assumption) rfl rfl ?_
          refine vV.aload_n dX7_wind_96 rfl ?_
          refine vV.iconst dX7_wind_97 (by decide) ?_
          refine vV.puti (z := 14) dX7_wind_98 fl_X7_129 (by first | rfl | assumption) rfl rfl ?_
          refine vV.rv dX7_wind_101 rfl ?_
          refine ⟨rfl, key _ ?_ ?_ ?_ ?_ ?_⟩
          · intro k hk; simp at hk; funext j; simp [vUpd, hk]
          · intro j hj; simp at hj; simp [vUpd, hj]
          · funext j; simp [vUpd, fSet]; split; omega; rfl
          · first
              | (exfalso; omega)
              | (rw [hgo2 hne]; simp [vUpd]; exact hg)
              | (rw [hgo1 hge, if_pos (by omega)]; simp [vUpd, pOr])
              | (rw [hgo1 hge, if_neg (by omega)]; simp [vUpd, pOr]; omega)
          · first
              | (exfalso; omega)
              | (rw [hgo2 hne]; simp [vUpd]; done)
              | (rw [hgo1 hge, if_pos (by omega)]; simp [vUpd]; done)
              | (rw [hgo1 hge, if_neg (by omega)]; simp [vUpd]; done)
end
section
/-! ===== own: the reference: doThing, begin ===== -/
theorem vV.imp {mt : vMt} {d0 dF : List Nat} {Q Q' : Option vA → vT → vM → Prop} {pc : Nat} {L : List (Option vA)} {S : List vA} {d : List Nat} {T : vT} {M : vM} (h : vV mt d0 dF Q pc L S d T M) (hi : ∀ r T1 M1, Q r T1 M1 → Q' r T1 M1) : vV mt d0 dF Q' pc L S d T M := by
  intro l p e s m args below meth c D q A ρ0 ρ H locs ls hX hS hl hL hs hn
  intro T0 hT X0
  obtain ⟨t, a1, o, a2, a3, ⟨⟨r, T1, M1, ρ1, b1, b2, b3⟩, b4⟩, a5⟩ := h l p e s m args below meth c D q A ρ0 ρ H locs ls hX hS hl hL hs hn T0 hT X0
  exact ⟨t, a1, o, a2, a3, ⟨⟨r, T1, M1, ρ1, b1, hi _ _ _ b2, b3⟩, b4⟩, a5⟩
theorem dX7_doThing_0 : decode cX7_doThing 0 = .ok (.iload_n 1, 1) := by decide +kernel
theorem dX7_doThing_1 : decode cX7_doThing 1 = .ok (.iconst 1, 1) := by decide +kernel
theorem dX7_doThing_2 : decode cX7_doThing 2 = .ok (.if_icmp .ne 16, 3) := by decide +kernel
theorem dX7_doThing_5 : decode cX7_doThing 5 = .ok (.aload_n 0, 1) := by decide +kernel
theorem dX7_doThing_6 : decode cX7_doThing 6 = .ok (.dup, 1) := by decide +kernel
theorem dX7_doThing_7 : decode cX7_doThing 7 = .ok (.getfield 123, 3) := by decide +kernel
theorem dX7_doThing_10 : decode cX7_doThing 10 = .ok (.iconst 1, 1) := by decide +kernel
theorem dX7_doThing_11 : decode cX7_doThing 11 = .ok (.isub, 1) := by decide +kernel
theorem dX7_doThing_12 : decode cX7_doThing 12 = .ok (.putfield 123, 3) := by decide +kernel
theorem dX7_doThing_15 : decode cX7_doThing 15 = .ok (.goto 34, 3) := by decide +kernel
theorem dX7_doThing_18 : decode cX7_doThing 18 = .ok (.iload_n 1, 1) := by decide +kernel
theorem dX7_doThing_19 : decode cX7_doThing 19 = .ok (.iconst 2, 1) := by decide +kernel
theorem dX7_doThing_20 : decode cX7_doThing 20 = .ok (.if_icmp .ne 16, 3) := by decide +kernel
theorem dX7_doThing_23 : decode cX7_doThing 23 = .ok (.aload_n 0, 1) := by decide +kernel
theorem dX7_doThing_24 : decode cX7_doThing 24 = .ok (.dup, 1) := by decide +kernel
theorem dX7_doThing_25 : decode cX7_doThing 25 = .ok (.getfield 123, 3) := by decide +kernel
theorem dX7_doThing_28 : decode cX7_doThing 28 = .ok (.iconst 1, 1) := by decide +kernel
theorem dX7_doThing_29 : decode cX7_doThing 29 = .ok (.iadd, 1) := by decide +kernel
theorem dX7_doThing_30 : decode cX7_doThing 30 = .ok (.putfield 123, 3) := by decide +kernel
theorem dX7_doThing_33 : decode cX7_doThing 33 = .ok (.goto 16, 3) := by decide +kernel
theorem dX7_doThing_36 : decode cX7_doThing 36 = .ok (.iload_n 1, 1) := by decide +kernel
theorem dX7_doThing_37 : decode cX7_doThing 37 = .ok (.iconst 3, 1) := by decide +kernel
theorem dX7_doThing_38 : decode cX7_doThing 38 = .ok (.if_icmp .ne 11, 3) := by decide +kernel
theorem dX7_doThing_41 : decode cX7_doThing 41 = .ok (.aload_n 0, 1) := by decide +kernel
theorem dX7_doThing_42 : decode cX7_doThing 42 = .ok (.aload_n 0, 1) := by decide +kernel
theorem dX7_doThing_43 : decode cX7_doThing 43 = .ok (.invokevirtual 141, 3) := by decide +kernel
theorem dX7_doThing_46 : decode cX7_doThing 46 = .ok (.invokevirtual 145, 3) := by decide +kernel
theorem dX7_doThing_49 : decode cX7_doThing 49 = .ok (.iconst 0, 1) := by decide +kernel
theorem dX7_doThing_50 : decode cX7_doThing 50 = .ok (.istore_n 2, 1) := by decide +kernel
theorem dX7_doThing_51 : decode cX7_doThing 51 = .ok (.iload_n 2, 1) := by decide +kernel
theorem dX7_doThing_52 : decode cX7_doThing 52 = .ok (.aload_n 0, 1) := by decide +kernel
theorem dX7_doThing_53 : decode cX7_doThing 53 = .ok (.getfield 89, 3) := by decide +kernel
theorem dX7_doThing_56 : decode cX7_doThing 56 = .ok (.if_icmp .ge 47, 3) := by decide +kernel
theorem dX7_doThing_59 : decode cX7_doThing 59 = .ok (.aload_n 0, 1) := by decide +kernel
theorem dX7_doThing_60 : decode cX7_doThing 60 = .ok (.getfield 25, 3) := by decide +kernel
theorem dX7_doThing_63 : decode cX7_doThing 63 = .ok (.iload_n 2, 1) := by decide +kernel
theorem dX7_doThing_64 : decode cX7_doThing 64 = .ok (.aload_n 0, 1) := by decide +kernel
theorem dX7_doThing_65 : decode cX7_doThing 65 = .ok (.getfield 25, 3) := by decide +kernel
theorem dX7_doThing_68 : decode cX7_doThing 68 = .ok (.iload_n 2, 1) := by decide +kernel
theorem dX7_doThing_69 : decode cX7_doThing 69 = .ok (.iaload, 1) := by decide +kernel
theorem dX7_doThing_70 : decode cX7_doThing 70 = .ok (.aload_n 0, 1) := by decide +kernel
theorem dX7_doThing_71 : decode cX7_doThing 71 = .ok (.getfield 16, 3) := by decide +kernel
theorem dX7_doThing_74 : decode cX7_doThing 74 = .ok (.iload_n 2, 1) := by decide +kernel
theorem dX7_doThing_75 : decode cX7_doThing 75 = .ok (.iaload, 1) := by decide +kernel
theorem dX7_doThing_76 : decode cX7_doThing 76 = .ok (.if_icmp .le 19, 3) := by decide +kernel
theorem dX7_doThing_79 : decode cX7_doThing 79 = .ok (.aload_n 0, 1) := by decide +kernel
theorem dX7_doThing_80 : decode cX7_doThing 80 = .ok (.getfield 25, 3) := by decide +kernel
theorem dX7_doThing_83 : decode cX7_doThing 83 = .ok (.iload_n 2, 1) := by decide +kernel
theorem dX7_doThing_84 : decode cX7_doThing 84 = .ok (.iaload, 1) := by decide +kernel
theorem dX7_doThing_85 : decode cX7_doThing 85 = .ok (.aload_n 0, 1) := by decide +kernel
theorem dX7_doThing_86 : decode cX7_doThing 86 = .ok (.getfield 16, 3) := by decide +kernel
theorem dX7_doThing_89 : decode cX7_doThing 89 = .ok (.iload_n 2, 1) := by decide +kernel
theorem dX7_doThing_90 : decode cX7_doThing 90 = .ok (.iaload, 1) := by decide +kernel
theorem dX7_doThing_91 : decode cX7_doThing 91 = .ok (.isub, 1) := by decide +kernel
theorem dX7_doThing_92 : decode cX7_doThing 92 = .ok (.goto 4, 3) := by decide +kernel
theorem dX7_doThing_95 : decode cX7_doThing 95 = .ok (.iconst 0, 1) := by decide +kernel
theorem dX7_doThing_96 : decode cX7_doThing 96 = .ok (.iastore, 1) := by decide +kernel
theorem dX7_doThing_97 : decode cX7_doThing 97 = .ok (.iinc 2 1, 3) := by decide +kernel
theorem dX7_doThing_100 : decode cX7_doThing 100 = .ok (.goto (-49), 3) := by decide +kernel
theorem dX7_doThing_103 : decode cX7_doThing 103 = .ok (.aload_n 0, 1) := by decide +kernel
theorem dX7_doThing_104 : decode cX7_doThing 104 = .ok (.dup, 1) := by decide +kernel
theorem dX7_doThing_105 : decode cX7_doThing 105 = .ok (.getfield 135, 3) := by decide +kernel
theorem dX7_doThing_108 : decode cX7_doThing 108 = .ok (.iconst 1, 1) := by decide +kernel
theorem dX7_doThing_109 : decode cX7_doThing 109 = .ok (.iadd, 1) := by decide +kernel
theorem dX7_doThing_110 : decode cX7_doThing 110 = .ok (.putfield 135, 3) := by decide +kernel
theorem dX7_doThing_113 : decode cX7_doThing 113 = .ok (.aload_n 0, 1) := by decide +kernel
theorem dX7_doThing_114 : decode cX7_doThing 114 = .ok (.invokevirtual 138, 3) := by decide +kernel
theorem dX7_doThing_117 : decode cX7_doThing 117 = .ok (.return_, 1) := by decide +kernel
def mEnd (N : vM) (n t : Nat) : vM := vUpd (vUpd (vUpd (vRow N 212 (pDown n (N 203) (N 212))) 200 16 (t + 1)) 218 (t + 1) (pPack (pDown n (N 203) (N 212)) n)) 219 (t + 1) (pRest (N 200 12) (N 200 13) (N 200 14) (N 200 15))
theorem pDown_s' {n : Nat} {fa tu : Int → Int} {y : Int} (h : y = max 0 (tu n - fa n)) : fSet (pDown n fa tu) n y = pDown (n + 1) fa tu := by rw [h, pDown_s]
theorem pDown_15 {n : Nat} {fa tu : Int → Int} (hfa : ∀ j : Nat, 0 ≤ fa j ∧ fa j ≤ 15) (h : ∀ j : Nat, 0 ≤ tu j ∧ tu j ≤ 15) (j : Nat) : 0 ≤ pDown n fa tu j ∧ pDown n fa tu j ≤ 15 := by
  have := h j; have := hfa j
  unfold pDown; split <;> omega
theorem l_X7_do51 {d : List Nat} {T : vT} {N : vM} {n t : Nat} {y : Int} (hB : vB T) (hc : N 200 4 = n) (hn : n ≤ 6) (ht : ∀ j : Nat, 0 ≤ N 212 j ∧ N 212 j ≤ 15) (hf : ∀ j : Nat, 0 ≤ N 203 j ∧ N 203 j ≤ 15) (hd : N 200 16 = t) (htt : t < 600) (h1 : -1 ≤ N 200 12 ∧ N 200 12 ≤ 8) (h2 : -6 ≤ N 200 13 ∧ N 200 13 ≤ 5) (h3 : 0 ≤ N 200 14 ∧ N 200 14 ≤ 9) (h4 : -6 ≤ N 200 15 ∧ N 200 15 ≤ 5) : ∀ p, p ≤ n →
    vV m_X7_doThing d d (vPv fun T1 M1 => T = T1 ∧ M1 = mEnd N n t) 51 [some (vR 200), some (vI y), some (vI p)] [] d T (vRow N 212 (pDown p (N 203) (N 212))) := by
  refine vUp ?_
  intro p hp ih
  have e0 : vRow N 212 (pDown p (N 203) (N 212)) 200 = N 200 := vRow_n (by decide)
  have e3 : vRow N 212 (pDown p (N 203) (N 212)) 203 = N 203 := vRow_n (by decide)
  have e4 : vRow N 212 (pDown p (N 203) (N 212)) 212 p = N 212 p := by rw [vRow_s, pDown_ge (by omega)]
  have b1 := ht p
  have b2 := hf p
  refine vV.iload_n dX7_doThing_51 rfl ?_
  refine vV.aload_n dX7_doThing_52 rfl ?_
  refine vV.geti (z := 4) dX7_doThing_53 fl_X7_89 (by first | rfl | assumption) rfl rfl ?_
  rw [e0]
  refine vV.icmp_ge (tgt := 103) dX7_doThing_56 (by decide) (fun h56 => ?_) (fun h56 => ?_)
  · skip
    have hpn : p = n := by omega
    subst hpn
    refine vV.aload_n dX7_doThing_103 rfl ?_
    refine vV.dup dX7_doThing_104 rfl ?_
    refine vV.geti (z := 16) dX7_doThing_105 fl_X7_135 (by first | rfl | assumption) rfl rfl ?_
    rw [e0, hd]
    refine vV.iconst dX7_doThing_108 (by decide) ?_
    refine vV.iadd dX7_doThing_109 (⟨by omega, by omega⟩) ?_
    refine vV.puti (z := 16) dX7_doThing_110 fl_X7_135 (by first | rfl | assumption) rfl rfl ?_
    refine vV.aload_n dX7_doThing_113 rfl ?_
    refine vV.cVv dX7_doThing_114 ml_X7_138 cw_X7_note iw_X7_note (by first | rfl | assumption) rfl (by unfold vRoom; decide) (c_X7_note (n := p) (t := t + 1) hB (by rw [vUpd_ni (by decide), e0]; exact hc) hn (fun j => by rw [show vUpd (vRow N 212 (pDown p (N 203) (N 212))) 200 16 ((t : Int) + 1) 212 = pDown p (N 203) (N 212) from by { funext j; rw [vUpd_nk (by decide), vRow_s] }]; exact pDown_15 hf ht j) (by rw [vUpd_s]; rfl) (by omega) (by rw [vUpd_ni (by decide), e0]; exact h1) (by rw [vUpd_ni (by decide), e0]; exact h2) (by rw [vUpd_ni (by decide), e0]; exact h3) (by rw [vUpd_ni (by decide), e0]; exact h4)) rfl rfl (Nat.le_of_ble_eq_true rfl) ?_
    rintro _ _ ⟨rfl, rfl⟩
    refine vV.rv dX7_doThing_117 rfl ?_
    refine ⟨rfl, ?_⟩; unfold mEnd; rw [show vUpd (vRow N 212 (pDown p (N 203) (N 212))) 200 16 ((t : Int) + 1) 212 = pDown p (N 203) (N 212) from by { funext j; rw [vUpd_nk (by decide), vRow_s] }, vUpd_ni (by decide), vUpd_ni (by decide), vUpd_ni (by decide), vUpd_ni (by decide), e0]; rfl
  · skip
    refine vV.aload_n dX7_doThing_59 rfl ?_
    refine vV.getr dX7_doThing_60 fl_X7_25 (by first | rfl | assumption) rfl (by first | assumption | exact hB _ _ _ rfl) ?_
    refine vV.iload_n dX7_doThing_63 rfl ?_
    refine vV.aload_n dX7_doThing_64 rfl ?_
    refine vV.getr dX7_doThing_65 fl_X7_25 (by first | rfl | assumption) rfl (by first | assumption | exact hB _ _ _ rfl) ?_
    refine vV.iload_n dX7_doThing_68 rfl ?_
    refine vV.iald dX7_doThing_69 (by first | rfl | assumption) (by omega) (by omega) ?_
    rw [e4]
    refine vV.aload_n dX7_doThing_70 rfl ?_
    refine vV.getr dX7_doThing_71 fl_X7_16 (by first | rfl | assumption) rfl (by first | assumption | exact hB _ _ _ rfl) ?_
    refine vV.iload_n dX7_doThing_74 rfl ?_
    refine vV.iald dX7_doThing_75 (by first | rfl | assumption) (by omega) (by omega) ?_
    rw [e3]
    refine vV.icmp_le (tgt := 95) dX7_doThing_76 (by decide) (fun h76 => ?_) (fun h76 => ?_)
    · skip
      have hmx : (0 : Int) = max 0 (N 212 p - N 203 p) := by omega
      refine vV.iconst dX7_doThing_95 (by decide) ?_
      refine vV.iast dX7_doThing_96 (by first | rfl | assumption) (by omega) (by omega) ?_
      rw [vUpd_vRow, pDown_s' hmx]
      refine vV.iinc (L' := [_, _, _]) dX7_doThing_97 (by decide) rfl (⟨by omega, by omega⟩) rfl ?_
      refine vV.goto (tgt := 51) dX7_doThing_100 (by decide) ?_
      exact ih (by omega)
    · skip
      have hmx : N 212 p - N 203 p = max 0 (N 212 p - N 203 p) := by omega
      refine vV.aload_n dX7_doThing_79 rfl ?_
      refine vV.getr dX7_doThing_80 fl_X7_25 (by first | rfl | assumption) rfl (by first | assumption | exact hB _ _ _ rfl) ?_
      refine vV.iload_n dX7_doThing_83 rfl ?_
      refine vV.iald dX7_doThing_84 (by first | rfl | assumption) (by omega) (by omega) ?_
      rw [e4]
      refine vV.aload_n dX7_doThing_85 rfl ?_
      refine vV.getr dX7_doThing_86 fl_X7_16 (by first | rfl | assumption) rfl (by first | assumption | exact hB _ _ _ rfl) ?_
      refine vV.iload_n dX7_doThing_89 rfl ?_
      refine vV.iald dX7_doThing_90 (by first | rfl | assumption) (by omega) (by omega) ?_
      rw [e3]
      refine vV.isub dX7_doThing_91 (⟨by omega, by omega⟩) ?_
      refine vV.goto (tgt := 96) dX7_doThing_92 (by decide) ?_
      refine vV.iast dX7_doThing_96 (by first | rfl | assumption) (by omega) (by omega) ?_
      rw [vUpd_vRow, pDown_s' hmx]
      refine vV.iinc (L' := [_, _, _]) dX7_doThing_97 (by decide) rfl (⟨by omega, by omega⟩) rfl ?_
      refine vV.goto (tgt := 51) dX7_doThing_100 (by decide) ?_
      exact ih (by omega)
/-- the reference's man in his show: t ticks are done, the goal is g, the last one l -/
def mS (M : vM) (n t : Nat) (g l : Option Nat) : Prop := M 200 4 = n ∧ n ≤ 6 ∧ (∀ j : Nat, 0 ≤ M 212 j ∧ M 212 j ≤ 15) ∧ (∀ j : Nat, 0 ≤ M 211 j ∧ M 211 j ≤ 7) ∧ (∀ j : Nat, 0 ≤ M 202 j ∧ M 202 j ≤ 15) ∧ (∀ j : Nat, 0 ≤ M 203 j ∧ M 203 j ≤ 3) ∧ pDis n (M 211) ∧
  M 200 13 = pOr (-6) g ∧ (∀ k, g = some k → k < n) ∧ M 200 15 = pOr (-6) l ∧ (∀ k, l = some k → k < n) ∧ (0 ≤ M 200 14 ∧ M 200 14 < M 200 7) ∧ M 200 7 ≤ 9 ∧ (1 ≤ M 200 6 ∧ M 200 6 ≤ 6) ∧ (0 ≤ M 200 12 ∧ M 200 12 ≤ 7) ∧ M 200 16 = t
theorem pOr6 {n : Nat} {g : Option Nat} (hn : n ≤ 6) (h : ∀ k, g = some k → k < n) : -6 ≤ pOr (-6) g ∧ pOr (-6) g ≤ 5 := by
  cases g with
  | none => simp [pOr]
  | some k => have := h k rfl; simp [pOr]; omega
theorem pGo_lt {pl fu tuW : Int → Int} {man pat thing w : Int} {g : Option Nat} {n : Nat} (h : ∀ k, g = some k → k < n) : ∀ k, (pGo pl fu tuW man pat thing g w).1 = some k → k < n := by
  intro k hk
  cases g with
  | none => unfold pGo at hk; cases hk
  | some p =>
    unfold pGo at hk
    simp only at hk
    split at hk
    · split at hk
      · cases hk
      · cases hk; exact h _ rfl
    · cases hk; exact h _ rfl
theorem pGo_w {pl fu tuW : Int → Int} {man pat thing w : Int} {g : Option Nat} (h0 : 0 ≤ w) (h : w < pat) : 0 ≤ (pGo pl fu tuW man pat thing g w).2 ∧ (pGo pl fu tuW man pat thing g w).2 < pat := by
  cases g with
  | none => exact ⟨h0, h⟩
  | some p =>
    unfold pGo
    simp only
    split
    · split
      · exact ⟨by simp, by simp; omega⟩
      · simp; omega
    · exact ⟨h0, h⟩
theorem pGo_n {pl fu tuW : Int → Int} {man pat thing w : Int} {g : Option Nat} (h : thing ≠ 3) : pGo pl fu tuW man pat thing g w = (g, w) := by
  cases g with
  | none => rfl
  | some p => unfold pGo; simp [h]
/-- what a tick leaves: rows and numbers of the man in his show -/
def mTick (M M1 : vM) (n t : Nat) (g : Option Nat) (y : Int) : Prop := mSame [200, 212, 218, 219] M M1 ∧ mSlot [12, 13, 14, 16] M M1 ∧
  M1 212 = pDown n (M 203) (pWind n (M 211) (M 202) (M 212) (M 200 12) (M 200 6) y) ∧ M1 200 12 = pMan (M 200 12) y ∧
  M1 200 13 = pOr (-6) (pGo (M 211) (M 202) (pWind n (M 211) (M 202) (M 212) (M 200 12) (M 200 6) y) (M 200 12) (M 200 7) y g (M 200 14)).1 ∧
  M1 200 14 = (pGo (M 211) (M 202) (pWind n (M 211) (M 202) (M 212) (M 200 12) (M 200 6) y) (M 200 12) (M 200 7) y g (M 200 14)).2 ∧ M1 200 16 = (t + 1 : Nat) ∧
  M1 218 = fSet (M 218) (t + 1) (pPack (M1 212) n) ∧ M1 219 = fSet (M 219) (t + 1) (pRest (M1 200 12) (M1 200 13) (M1 200 14) (M1 200 15))
/-- the end of a tick, from what the thing itself has left -/
theorem mTick_of {M N : vM} {n t : Nat} {g : Option Nat} {y : Int} (h1 : mSame [200, 212] M N) (h2 : mSlot [12, 13, 14] M N) (h3 : N 212 = pWind n (M 211) (M 202) (M 212) (M 200 12) (M 200 6) y) (h4 : N 200 12 = pMan (M 200 12) y)
    (h5 : N 200 13 = pOr (-6) (pGo (M 211) (M 202) (pWind n (M 211) (M 202) (M 212) (M 200 12) (M 200 6) y) (M 200 12) (M 200 7) y g (M 200 14)).1) (h6 : N 200 14 = (pGo (M 211) (M 202) (pWind n (M 211) (M 202) (M 212) (M 200 12) (M 200 6) y) (M 200 12) (M 200 7) y g (M 200 14)).2) : mTick M (mEnd N n t) n t g y := by
  have e203 : N 203 = M 203 := h1 203 (by decide)
  have e218 : N 218 = M 218 := h1 218 (by decide)
  have e219 : N 219 = M 219 := h1 219 (by decide)
  have f212 : mEnd N n t 212 = pDown n (N 203) (N 212) := by unfold mEnd; funext j; rw [vUpd_nk (by decide), vUpd_nk (by decide), vUpd_nk (by decide), vRow_s]
  have f200 : ∀ j, j ≠ 16 → mEnd N n t 200 j = N 200 j := by intro j hj; unfold mEnd; rw [vUpd_nk (by decide), vUpd_nk (by decide), vUpd_ni hj, vRow_n (by decide)]
  refine ⟨fun k hk => ?_, fun j hj => ?_, ?_, ?_, ?_, ?_, ?_, ?_, ?_⟩
  · simp at hk
    rw [← h1 k (by simp [hk])]
    unfold mEnd; funext j; rw [vUpd_nk hk.2.2.2, vUpd_nk hk.2.2.1, vUpd_nk hk.1, vRow_n hk.2.1]
  · simp at hj
    rw [f200 j hj.2.2.2]; exact h2 j (by simp [hj])
  · rw [f212, e203, h3]
  · rw [f200 _ (by decide), h4]
  · rw [f200 _ (by decide), h5]
  · rw [f200 _ (by decide), h6]
  · unfold mEnd; rw [vUpd_nk (by decide), vUpd_nk (by decide), vUpd_s]; rfl
  · rw [f212, ← e218]; unfold mEnd; funext j
    rw [vUpd_nk (by decide), vUpd_r, vRow_s]; rfl
  · rw [f200 _ (by decide), f200 _ (by decide), f200 _ (by decide), f200 _ (by decide), ← e219]; unfold mEnd
    rw [vUpd_r, vRow_s]; rfl
theorem pWind_15 {n : Nat} {pl fu tu : Int → Int} {man gv y : Int} (hfu : ∀ j : Nat, 0 ≤ fu j ∧ fu j ≤ 15) (htu : ∀ j : Nat, 0 ≤ tu j ∧ tu j ≤ 15) (hg : 1 ≤ gv) (j : Nat) : 0 ≤ pWind n pl fu tu man gv y j ∧ pWind n pl fu tu man gv y j ≤ 15 := by
  have h1 := htu j
  unfold pWind
  split
  · cases pAt n pl man with
    | none => exact h1
    | some p =>
      show 0 ≤ fSet _ _ _ _ ∧ fSet _ _ _ _ ≤ _
      unfold fSet
      split
      · have := hfu p; have := htu p; omega
      · exact h1
  · exact h1
theorem pMan_rg {n : Nat} {pl tu : Int → Int} {man y : Int} (h : 0 ≤ man ∧ man ≤ 7) (hc : pCan n pl tu man y = true) : 0 ≤ pMan man y ∧ pMan man y ≤ 7 := by
  unfold pMan; unfold pCan at hc
  by_cases c1 : y = 1
  · subst c1; simp at hc ⊢; omega
  · by_cases c2 : y = 2
    · subst c2; simp at hc ⊢; omega
    · simp [c1, c2]; omega
theorem mS_tick {M M1 : vM} {n t : Nat} {g l : Option Nat} {y : Int} (hS : mS M n t g l) (hc : pCan n (M 211) (M 212) (M 200 12) y = true) (h : mTick M M1 n t g y) : mS M1 n (t + 1) (pGo (M 211) (M 202) (pWind n (M 211) (M 202) (M 212) (M 200 12) (M 200 6) y) (M 200 12) (M 200 7) y g (M 200 14)).1 l := by
  obtain ⟨s1, s2, s3, s4, s5, s6, s7, s8, s9, s10, s11, s12, s13, s14, s15, s16⟩ := hS
  obtain ⟨t1, t2, t3, t4, t5, t6, t7, t8, t9⟩ := h
  have e211 : M1 211 = M 211 := t1 211 (by decide)
  have e202 : M1 202 = M 202 := t1 202 (by decide)
  have e203 : M1 203 = M 203 := t1 203 (by decide)
  refine ⟨by rw [t2 4 (by decide)]; exact s1, s2, fun j => ?_, by rw [e211]; exact s4, by rw [e202]; exact s5, by rw [e203]; exact s6, by rw [e211]; exact s7, t5, pGo_lt s9, by rw [t2 15 (by decide)]; exact s10, s11, ?_, by rw [t2 7 (by decide)]; exact s13, by rw [t2 6 (by decide)]; exact s14, by rw [t4]; exact pMan_rg s15 hc, t7⟩
  · rw [t3]; exact pDown_15 (fun j => by have := s6 j; omega) (pWind_15 s5 s3 s14.1) j
  · rw [t6, t2 7 (by decide)]; exact pGo_w s12.1 s12.2
theorem l_X7_doFin {d : List Nat} {T : vT} {M N : vM} {n t : Nat} {g l : Option Nat} {y : Int} (hB : vB T) (hS : mS M n t g l) (htt : t < 600) (hc : pCan n (M 211) (M 212) (M 200 12) y = true) (h1 : mSame [200, 212] M N) (h2 : mSlot [12, 13, 14] M N) (h3 : N 212 = pWind n (M 211) (M 202) (M 212) (M 200 12) (M 200 6) y) (h4 : N 200 12 = pMan (M 200 12) y)
    (h5 : N 200 13 = pOr (-6) (pGo (M 211) (M 202) (pWind n (M 211) (M 202) (M 212) (M 200 12) (M 200 6) y) (M 200 12) (M 200 7) y g (M 200 14)).1) (h6 : N 200 14 = (pGo (M 211) (M 202) (pWind n (M 211) (M 202) (M 212) (M 200 12) (M 200 6) y) (M 200 12) (M 200 7) y g (M 200 14)).2) :
    vV m_X7_doThing d d (vPv fun T1 M1 => T = T1 ∧ mTick M M1 n t g y ∧ mS M1 n (t + 1) (pGo (M 211) (M 202) (pWind n (M 211) (M 202) (M 212) (M 200 12) (M 200 6) y) (M 200 12) (M 200 7) y g (M 200 14)).1 l) 51 [some (vR 200), some (vI y), some (vI 0)] [] d T N := by
  have hS' := hS
  obtain ⟨s1, s2, s3, s4, s5, s6, s7, s8, s9, s10, s11, s12, s13, s14, s15, s16⟩ := hS
  have e203 : N 203 = M 203 := h1 203 (by decide)
  have r1 := pMan_rg s15 hc
  have r2 := pOr6 s2 (pGo_lt (pl := M 211) (fu := M 202) (tuW := pWind n (M 211) (M 202) (M 212) (M 200 12) (M 200 6) y) (man := M 200 12) (pat := M 200 7) (thing := y) (w := M 200 14) s9)
  have r3 := pGo_w (pl := M 211) (fu := M 202) (tuW := pWind n (M 211) (M 202) (M 212) (M 200 12) (M 200 6) y) (man := M 200 12) (thing := y) (g := g) s12.1 s12.2
  have r4 := pOr6 s2 s11
  have h := l_X7_do51 (d := d) (T := T) (N := N) (n := n) (t := t) (y := y) hB (by rw [h2 4 (by decide)]; exact s1) s2 (fun j => by rw [h3]; exact pWind_15 s5 s3 s14.1 j) (fun j => by rw [e203]; have := s6 j; omega) (by rw [h2 16 (by decide)]; exact s16) htt (by rw [h4]; omega) (by rw [h5]; exact r2) (by rw [h6]; omega) (by rw [h2 15 (by decide), s10]; exact r4) 0 (by omega)
  rw [pDown_0, vRow_id] at h
  refine h.imp ?_
  rintro r T1 M1 ⟨rfl, rfl, rfl⟩
  have ht := mTick_of (t := t) h1 h2 h3 h4 h5 h6
  exact ⟨rfl, rfl, ht, mS_tick hS' hc ht⟩
/-- doThing of a thing that can be done -/
theorem c_X7_doThing {d : List Nat} {T : vT} {M : vM} {n t : Nat} {g l : Option Nat} {y : Int} (hB : vB T) (hS : mS M n t g l) (htt : t < 600) (h0 : 0 ≤ y) (hy : y ≤ 3) (hc : pCan n (M 211) (M 212) (M 200 12) y = true) : vCon m_X7_doThing d d [vR 200, vI y] T M (vPv fun T1 M1 => T = T1 ∧ mTick M M1 n t g y ∧ mS M1 n (t + 1) (pGo (M 211) (M 202) (pWind n (M 211) (M 202) (M 212) (M 200 12) (M 200 6) y) (M 200 12) (M 200 7) y g (M 200 14)).1 l) := by
  have hF := fun N => l_X7_doFin (d := d) (N := N) hB hS htt hc
  obtain ⟨s1, s2, s3, s4, s5, s6, s7, s8, s9, s10, s11, s12, s13, s14, s15, s16⟩ := hS
  have hwn : y ≠ 3 → pWind n (M 211) (M 202) (M 212) (M 200 12) (M 200 6) y = M 212 := fun h => by unfold pWind; rw [if_neg h]
  refine vCon.of (by decide) rfl rfl (Nat.le_of_ble_eq_true rfl) ?_
  refine vV.iload_n dX7_doThing_0 rfl ?_
  refine vV.iconst dX7_doThing_1 (by decide) ?_
  refine vV.icmp_ne (tgt := 18) dX7_doThing_2 (by decide) (fun h2 => ?_) (fun h2 => ?_)
  · skip
    refine vV.iload_n dX7_doThing_18 rfl ?_
    refine vV.iconst dX7_doThing_19 (by decide) ?_
    refine vV.icmp_ne (tgt := 36) dX7_doThing_20 (by decide) (fun h20 => ?_) (fun h20 => ?_)
    · skip
      refine vV.iload_n dX7_doThing_36 rfl ?_
      refine vV.iconst dX7_doThing_37 (by decide) ?_
      refine vV.icmp_ne (tgt := 49) dX7_doThing_38 (by decide) (fun h38 => ?_) (fun h38 => ?_)
      · skip
        refine vV.iconst dX7_doThing_49 (by decide) ?_
        refine vV.istore_n (L' := [_, _, _]) dX7_doThing_50 (by decide) rfl ?_
        refine hF _ ?_ ?_ ?_ ?_ ?_ ?_
        · intro k hk; simp at hk; first | rfl | (funext j; rw [vUpd_nk hk.1])
        · intro j hj; simp at hj; first | rfl | rw [vUpd_ni hj.1]
        · rw [hwn (by omega)]; try (funext j; rw [vUpd_nk (by decide)])
        · unfold pMan; simp [vUpd_s, *]
        · rw [pGo_n (by omega)]; first | exact s8 | (rw [vUpd_ni (by decide)]; exact s8)
        · rw [pGo_n (by omega)]; try rw [vUpd_ni (by decide)]
      · skip
        subst h38
        have hp3 : ∃ p, pHere n (M 211) (M 212) (M 200 12) = some p := by
          have : pStd (M 212) (pAt n (M 211) (M 200 12)) = true := hc
          rw [pHere_std s7] at this
          exact Option.isSome_iff_exists.mp this
        obtain ⟨p, hp⟩ := hp3
        obtain ⟨q1, q2, q3⟩ := pHere_some hp
        have hwp : pWind n (M 211) (M 202) (M 212) (M 200 12) (M 200 6) 3 = fSet (M 212) p (min (M 202 p) (M 212 p + M 200 6)) := by unfold pWind; rw [if_pos rfl, pHere_at s7 hp]; rfl
        refine vV.aload_n dX7_doThing_41 rfl ?_
        refine vV.aload_n dX7_doThing_42 rfl ?_
        refine vV.cVi dX7_doThing_43 ml_X7_141 cw_X7_simHere iw_X7_simHere (by first | rfl | assumption) rfl (by unfold vRoom; decide) (c_X7_simHere hB s1 s2) rfl rfl (Nat.le_of_ble_eq_true rfl) ?_
        rintro x43 _ _ hx43 ⟨rfl, rfl, rfl⟩
        rw [hp, pOr_s]
        refine vV.cVv dX7_doThing_46 ml_X7_145 cw_X7_wind iw_X7_wind (by first | rfl | assumption) rfl (by unfold vRoom; decide) (c_X7_wind hB q1 s2 s7 q2 s8 s9 s3 s5 s14 s12 s13) rfl rfl (Nat.le_of_ble_eq_true rfl) ?_
        rintro _ N ⟨rfl, w1, w2, w3, w4, w5⟩
        rw [w3, ← hwp] at w4 w5
        refine vV.iconst dX7_doThing_49 (by decide) ?_
        refine vV.istore_n (L' := [_, _, _]) dX7_doThing_50 (by decide) rfl ?_
        exact hF N w1 (fun j hj => w2 j (by simp at hj ⊢; omega)) (w3.trans hwp.symm) (by rw [w2 12 (by decide)]; rfl) w4 w5
        skip
    · skip
      refine vV.aload_n dX7_doThing_23 rfl ?_
      refine vV.dup dX7_doThing_24 rfl ?_
      refine vV.geti (z := 12) dX7_doThing_25 fl_X7_123 (by first | rfl | assumption) rfl rfl ?_
      refine vV.iconst dX7_doThing_28 (by decide) ?_
      refine vV.iadd dX7_doThing_29 (⟨by omega, by omega⟩) ?_
      refine vV.puti (z := 12) dX7_doThing_30 fl_X7_123 (by first | rfl | assumption) rfl rfl ?_
      refine vV.goto (tgt := 49) dX7_doThing_33 (by decide) ?_
      refine vV.iconst dX7_doThing_49 (by decide) ?_
      refine vV.istore_n (L' := [_, _, _]) dX7_doThing_50 (by decide) rfl ?_
      refine hF _ ?_ ?_ ?_ ?_ ?_ ?_
      · intro k hk; simp at hk; first | rfl | (funext j; rw [vUpd_nk hk.1])
      · intro j hj; simp at hj; first | rfl | rw [vUpd_ni hj.1]
      · rw [hwn (by omega)]; try (funext j; rw [vUpd_nk (by decide)])
      · unfold pMan; simp [vUpd_s, *]
      · rw [pGo_n (by omega)]; first | exact s8 | (rw [vUpd_ni (by decide)]; exact s8)
      · rw [pGo_n (by omega)]; try rw [vUpd_ni (by decide)]
  · skip
    refine vV.aload_n dX7_doThing_5 rfl ?_
    refine vV.dup dX7_doThing_6 rfl ?_
    refine vV.geti (z := 12) dX7_doThing_7 fl_X7_123 (by first | rfl | assumption) rfl rfl ?_
    refine vV.iconst dX7_doThing_10 (by decide) ?_
    refine vV.isub dX7_doThing_11 (⟨by omega, by omega⟩) ?_
    refine vV.puti (z := 12) dX7_doThing_12 fl_X7_123 (by first | rfl | assumption) rfl rfl ?_
    refine vV.goto (tgt := 49) dX7_doThing_15 (by decide) ?_
    refine vV.iconst dX7_doThing_49 (by decide) ?_
    refine vV.istore_n (L' := [_, _, _]) dX7_doThing_50 (by decide) rfl ?_
    refine hF _ ?_ ?_ ?_ ?_ ?_ ?_
    · intro k hk; simp at hk; first | rfl | (funext j; rw [vUpd_nk hk.1])
    · intro j hj; simp at hj; first | rfl | rw [vUpd_ni hj.1]
    · rw [hwn (by omega)]; try (funext j; rw [vUpd_nk (by decide)])
    · unfold pMan; simp [vUpd_s, *]
    · rw [pGo_n (by omega)]; first | exact s8 | (rw [vUpd_ni (by decide)]; exact s8)
    · rw [pGo_n (by omega)]; try rw [vUpd_ni (by decide)]
end
section
/-! ===== own: the reference: begin, and what the man sees ===== -/
def pMix (p : Nat) (f g : Int → Int) : Int → Int := fun j => if 0 ≤ j ∧ j < p then f j else g j
theorem pMix_0 (f g : Int → Int) : pMix 0 f g = g := by funext j; unfold pMix; rw [if_neg (by omega)]
theorem pMix_lt {p : Nat} {f g : Int → Int} {j : Nat} (h : j < p) : pMix p f g j = f j := by unfold pMix; rw [if_pos (by omega)]
theorem pMix_s {p : Nat} {f g : Int → Int} : fSet (pMix p f g) p (f p) = pMix (p + 1) f g := by
  funext j; unfold fSet pMix
  by_cases h : j = p
  · subst h; rw [if_pos rfl, if_pos (by omega)]
  · rw [if_neg h]
    by_cases h2 : 0 ≤ j ∧ j < p
    · rw [if_pos h2, if_pos (by omega)]
    · rw [if_neg h2, if_neg (by omega)]
def seM (M : vM) : Int → Int := fun j => if j = 0 then M 200 5 else if j = 1 then M 200 6 else if j = 2 then M 200 7 else if j = 3 then M 200 8 else if j = 4 then M 200 9 else 0
/-- the reference's rows are as told -/
def mW (M : vM) (n : Nat) : Prop := M 200 4 = n ∧ pW n (M 201) (M 202) (M 203) (M 204) (seM M) ∧ (∀ j : Nat, 0 ≤ M 211 j ∧ M 211 j ≤ 7) ∧ ∀ j : Nat, 0 ≤ M 212 j ∧ M 212 j ≤ 15
def mBegin (M M1 : vM) (n : Nat) : Prop := mSame [200, 211, 212, 218, 219] M M1 ∧ mSlot [12, 13, 14, 15, 16] M M1 ∧ M1 211 = pMix n (M 201) (M 211) ∧ M1 212 = pMix n (M 204) (M 212) ∧ M1 200 12 = M 200 5 ∧ M1 200 13 = -6 ∧ M1 200 14 = 0 ∧ M1 200 15 = -6 ∧ M1 200 16 = 0 ∧ M1 218 = fSet (M 218) 0 (pPack (M1 212) n) ∧ M1 219 = fSet (M 219) 0 (pRest (M 200 5) (-6) 0 (-6))
theorem dX7_begin_0 : decode cX7_begin 0 = .ok (.iconst 0, 1) := by decide +kernel
theorem dX7_begin_1 : decode cX7_begin 1 = .ok (.istore_n 1, 1) := by decide +kernel
theorem dX7_begin_2 : decode cX7_begin 2 = .ok (.iload_n 1, 1) := by decide +kernel
theorem dX7_begin_3 : decode cX7_begin 3 = .ok (.aload_n 0, 1) := by decide +kernel
theorem dX7_begin_4 : decode cX7_begin 4 = .ok (.getfield 89, 3) := by decide +kernel
theorem dX7_begin_7 : decode cX7_begin 7 = .ok (.if_icmp .ge 33, 3) := by decide +kernel
theorem dX7_begin_10 : decode cX7_begin 10 = .ok (.aload_n 0, 1) := by decide +kernel
theorem dX7_begin_11 : decode cX7_begin 11 = .ok (.getfield 22, 3) := by decide +kernel
theorem dX7_begin_14 : decode cX7_begin 14 = .ok (.iload_n 1, 1) := by decide +kernel
theorem dX7_begin_15 : decode cX7_begin 15 = .ok (.aload_n 0, 1) := by decide +kernel
theorem dX7_begin_16 : decode cX7_begin 16 = .ok (.getfield 7, 3) := by decide +kernel
theorem dX7_begin_19 : decode cX7_begin 19 = .ok (.iload_n 1, 1) := by decide +kernel
theorem dX7_begin_20 : decode cX7_begin 20 = .ok (.iaload, 1) := by decide +kernel
theorem dX7_begin_21 : decode cX7_begin 21 = .ok (.iastore, 1) := by decide +kernel
theorem dX7_begin_22 : decode cX7_begin 22 = .ok (.aload_n 0, 1) := by decide +kernel
theorem dX7_begin_23 : decode cX7_begin 23 = .ok (.getfield 25, 3) := by decide +kernel
theorem dX7_begin_26 : decode cX7_begin 26 = .ok (.iload_n 1, 1) := by decide +kernel
theorem dX7_begin_27 : decode cX7_begin 27 = .ok (.aload_n 0, 1) := by decide +kernel
theorem dX7_begin_28 : decode cX7_begin 28 = .ok (.getfield 19, 3) := by decide +kernel
theorem dX7_begin_31 : decode cX7_begin 31 = .ok (.iload_n 1, 1) := by decide +kernel
theorem dX7_begin_32 : decode cX7_begin 32 = .ok (.iaload, 1) := by decide +kernel
theorem dX7_begin_33 : decode cX7_begin 33 = .ok (.iastore, 1) := by decide +kernel
theorem dX7_begin_34 : decode cX7_begin 34 = .ok (.iinc 1 1, 3) := by decide +kernel
theorem dX7_begin_37 : decode cX7_begin 37 = .ok (.goto (-35), 3) := by decide +kernel
theorem dX7_begin_40 : decode cX7_begin 40 = .ok (.aload_n 0, 1) := by decide +kernel
theorem dX7_begin_41 : decode cX7_begin 41 = .ok (.aload_n 0, 1) := by decide +kernel
theorem dX7_begin_42 : decode cX7_begin 42 = .ok (.getfield 117, 3) := by decide +kernel
theorem dX7_begin_45 : decode cX7_begin 45 = .ok (.putfield 123, 3) := by decide +kernel
theorem dX7_begin_48 : decode cX7_begin 48 = .ok (.aload_n 0, 1) := by decide +kernel
theorem dX7_begin_49 : decode cX7_begin 49 = .ok (.bipush (-6), 2) := by decide +kernel
theorem dX7_begin_51 : decode cX7_begin 51 = .ok (.putfield 126, 3) := by decide +kernel
theorem dX7_begin_54 : decode cX7_begin 54 = .ok (.aload_n 0, 1) := by decide +kernel
theorem dX7_begin_55 : decode cX7_begin 55 = .ok (.iconst 0, 1) := by decide +kernel
theorem dX7_begin_56 : decode cX7_begin 56 = .ok (.putfield 129, 3) := by decide +kernel
theorem dX7_begin_59 : decode cX7_begin 59 = .ok (.aload_n 0, 1) := by decide +kernel
theorem dX7_begin_60 : decode cX7_begin 60 = .ok (.bipush (-6), 2) := by decide +kernel
theorem dX7_begin_62 : decode cX7_begin 62 = .ok (.putfield 132, 3) := by decide +kernel
theorem dX7_begin_65 : decode cX7_begin 65 = .ok (.aload_n 0, 1) := by decide +kernel
theorem dX7_begin_66 : decode cX7_begin 66 = .ok (.iconst 0, 1) := by decide +kernel
theorem dX7_begin_67 : decode cX7_begin 67 = .ok (.putfield 135, 3) := by decide +kernel
theorem dX7_begin_70 : decode cX7_begin 70 = .ok (.aload_n 0, 1) := by decide +kernel
theorem dX7_begin_71 : decode cX7_begin 71 = .ok (.invokevirtual 138, 3) := by decide +kernel
theorem dX7_begin_74 : decode cX7_begin 74 = .ok (.return_, 1) := by decide +kernel
def mLaid (M : vM) (p : Nat) : vM := vRow (vRow M 211 (pMix p (M 201) (M 211))) 212 (pMix p (M 204) (M 212))
theorem mLaid_s {M : vM} {p : Nat} : vUpd (vUpd (mLaid M p) 211 p (M 201 p)) 212 p (M 204 p) = mLaid M (p + 1) := by
  unfold mLaid
  rw [← pMix_s, ← pMix_s, vUpd_r, vUpd_r]
  rw [vRow_n (a := 212) (by decide), vRow_s, vRow_n (a := 211) (by decide), vRow_s]
  rw [vRow_comm (k := 212) (k' := 211) (by decide), vRow_vRow, vRow_vRow]
theorem mLaid_n {M : vM} {p k : Nat} (h1 : k ≠ 211) (h2 : k ≠ 212) : mLaid M p k = M k := by unfold mLaid; rw [vRow_n h2, vRow_n h1]
theorem l_X7_begin {d : List Nat} {T : vT} {M : vM} {n : Nat} (hB : vB T) (hW : mW M n) : ∀ p, p ≤ n →
    vV m_X7_begin d d (vPv fun T1 M1 => T = T1 ∧ mBegin M M1 n) 2 [some (vR 200), some (vI p)] [] d T (mLaid M p) := by
  obtain ⟨hc, hpw, w1, w2⟩ := hW
  have hn := hpw.1
  have htu : ∀ j : Nat, 0 ≤ M 204 j ∧ M 204 j ≤ 15 := fun j => by have a1 := hpw.2.2.2.2.2.2.1 j; have a2 := hpw.2.2.2.2.1 j; omega
  have hman : 0 ≤ M 200 5 ∧ M 200 5 ≤ 7 := hpw.2.2.2.2.2.2.2.1
  refine vUp ?_
  intro p hp ih
  have e2 : mLaid M p 200 = M 200 := mLaid_n (by decide) (by decide)
  have e1 : mLaid M p 201 = M 201 := mLaid_n (by decide) (by decide)
  have e4 : mLaid M p 204 = M 204 := mLaid_n (by decide) (by decide)
  refine vV.iload_n dX7_begin_2 rfl ?_
  refine vV.aload_n dX7_begin_3 rfl ?_
  refine vV.geti (z := 4) dX7_begin_4 fl_X7_89 (by first | rfl | assumption) rfl rfl ?_
  rw [e2]
  refine vV.icmp_ge (tgt := 40) dX7_begin_7 (by decide) (fun h7 => ?_) (fun h7 => ?_)
  · skip
    have hpn : p = n := by omega
    subst hpn
    refine vV.aload_n dX7_begin_40 rfl ?_
    refine vV.aload_n dX7_begin_41 rfl ?_
    refine vV.geti (z := 5) dX7_begin_42 fl_X7_117 (by first | rfl | assumption) rfl rfl ?_
    rw [e2]
    refine vV.puti (z := 12) dX7_begin_45 fl_X7_123 (by first | rfl | assumption) rfl rfl ?_
    refine vV.aload_n dX7_begin_48 rfl ?_
    refine vV.bipush (v := (-6)) dX7_begin_49 (by decide) (by decide) ?_
    refine vV.puti (z := 13) dX7_begin_51 fl_X7_126 (by first | rfl | assumption) rfl rfl ?_
    refine vV.aload_n dX7_begin_54 rfl ?_
    refine vV.iconst dX7_begin_55 (by decide) ?_
    refine vV.puti (z := 14) dX7_begin_56 fl_X7_129 (by first | rfl | assumption) rfl rfl ?_
    refine vV.aload_n dX7_begin_59 rfl ?_
    refine vV.bipush (v := (-6)) dX7_begin_60 (by decide) (by decide) ?_
    refine vV.puti (z := 15) dX7_begin_62 fl_X7_132 (by first | rfl | assumption) rfl rfl ?_
    refine vV.aload_n dX7_begin_65 rfl ?_
    refine vV.iconst dX7_begin_66 (by decide) ?_
    refine vV.puti (z := 16) dX7_begin_67 fl_X7_135 (by first | rfl | assumption) rfl rfl ?_
    obtain ⟨N, hN⟩ : ∃ N, N = vUpd (vUpd (vUpd (vUpd (vUpd (mLaid M p) 200 12 (M 200 5)) 200 13 (-6)) 200 14 0) 200 15 (-6)) 200 16 0 := ⟨_, rfl⟩
    rw [← hN]
    have f212 : N 212 = pMix p (M 204) (M 212) := by rw [hN]; funext j; simp only [vUpd_nk (show (212 : Nat) ≠ 200 by decide)]; unfold mLaid; rw [vRow_s]
    have f211 : N 211 = pMix p (M 201) (M 211) := by rw [hN]; funext j; simp only [vUpd_nk (show (211 : Nat) ≠ 200 by decide)]; unfold mLaid; rw [vRow_n (by decide), vRow_s]
    have fk : ∀ k, k ≠ 200 → k ≠ 211 → k ≠ 212 → N k = M k := by intro k a b c; rw [hN]; funext j; simp only [vUpd_nk a]; rw [mLaid_n b c]
    have f200 : ∀ j, j ∉ [12, 13, 14, 15, 16] → N 200 j = M 200 j := by intro j hj; simp at hj; rw [hN, vUpd_ni hj.2.2.2.2, vUpd_ni hj.2.2.2.1, vUpd_ni hj.2.2.1, vUpd_ni hj.2.1, vUpd_ni hj.1, e2]
    have f12 : N 200 12 = M 200 5 := by rw [hN]; simp [vUpd]
    have f13 : N 200 13 = -6 := by rw [hN]; simp [vUpd]
    have f14 : N 200 14 = 0 := by rw [hN]; simp [vUpd]
    have f15 : N 200 15 = -6 := by rw [hN]; simp [vUpd]
    have f16 : N 200 16 = (0 : Nat) := by rw [hN]; simp [vUpd]
    refine vV.aload_n dX7_begin_70 rfl ?_
    refine vV.cVv dX7_begin_71 ml_X7_138 cw_X7_note iw_X7_note (by first | rfl | assumption) rfl (by unfold vRoom; decide) (c_X7_note (n := p) (t := 0) hB (by rw [f200 _ (by decide)]; exact hc) hn (fun j => by rw [f212]; unfold pMix; split; exact htu j; exact w2 j) f16 (by omega) (by rw [f12]; omega) (by rw [f13]; omega) (by rw [f14]; omega) (by rw [f15]; omega)) rfl rfl (Nat.le_of_ble_eq_true rfl) ?_
    rintro _ _ ⟨rfl, rfl⟩
    refine vV.rv dX7_begin_74 rfl ?_
    refine ⟨rfl, fun k hk => ?_, fun j hj => ?_, ?_, ?_, ?_, ?_, ?_, ?_, ?_, ?_, ?_⟩
    · simp at hk; rw [← fk k hk.1 hk.2.1 hk.2.2.1]; funext j; rw [vUpd_nk hk.2.2.2.2, vUpd_nk hk.2.2.2.1]
    · rw [vUpd_nk (by decide), vUpd_nk (by decide)]; exact f200 j hj
    · rw [← f211]; funext j; rw [vUpd_nk (by decide), vUpd_nk (by decide)]
    · rw [← f212]; funext j; rw [vUpd_nk (by decide), vUpd_nk (by decide)]
    · rw [vUpd_nk (by decide), vUpd_nk (by decide)]; exact f12
    · rw [vUpd_nk (by decide), vUpd_nk (by decide)]; exact f13
    · rw [vUpd_nk (by decide), vUpd_nk (by decide)]; exact f14
    · rw [vUpd_nk (by decide), vUpd_nk (by decide)]; exact f15
    · rw [vUpd_nk (by decide), vUpd_nk (by decide)]; exact f16
    · rw [show vUpd (vUpd N 218 _ _) 219 _ _ 212 = N 212 from by { funext j; rw [vUpd_nk (by decide), vUpd_nk (by decide)] }, ← fk 218 (by decide) (by decide) (by decide)]; funext j; rw [vUpd_nk (by decide), vUpd_r, vRow_s]; rfl
    · rw [f12, f13, f14, f15, ← fk 219 (by decide) (by decide) (by decide), vUpd_r, vRow_s]; rfl
  · skip
    refine vV.aload_n dX7_begin_10 rfl ?_
    refine vV.getr dX7_begin_11 fl_X7_22 (by first | rfl | assumption) rfl (by first | assumption | exact hB _ _ _ rfl) ?_
    refine vV.iload_n dX7_begin_14 rfl ?_
    refine vV.aload_n dX7_begin_15 rfl ?_
    refine vV.getr dX7_begin_16 fl_X7_7 (by first | rfl | assumption) rfl (by first | assumption | exact hB _ _ _ rfl) ?_
    refine vV.iload_n dX7_begin_19 rfl ?_
    refine vV.iald dX7_begin_20 (by first | rfl | assumption) (by omega) (by omega) ?_
    rw [e1]
    refine vV.iast dX7_begin_21 (by first | rfl | assumption) (by omega) (by omega) ?_
    refine vV.aload_n dX7_begin_22 rfl ?_
    refine vV.getr dX7_begin_23 fl_X7_25 (by first | rfl | assumption) rfl (by first | assumption | exact hB _ _ _ rfl) ?_
    refine vV.iload_n dX7_begin_26 rfl ?_
    refine vV.aload_n dX7_begin_27 rfl ?_
    refine vV.getr dX7_begin_28 fl_X7_19 (by first | rfl | assumption) rfl (by first | assumption | exact hB _ _ _ rfl) ?_
    refine vV.iload_n dX7_begin_31 rfl ?_
    refine vV.iald dX7_begin_32 (by first | rfl | assumption) (by omega) (by omega) ?_
    rw [vUpd_nk (by decide), e4]
    refine vV.iast dX7_begin_33 (by first | rfl | assumption) (by omega) (by omega) ?_
    rw [mLaid_s]
    refine vV.iinc (L' := [_, _]) dX7_begin_34 (by decide) rfl (⟨by omega, by omega⟩) rfl ?_
    refine vV.goto (tgt := 2) dX7_begin_37 (by decide) ?_
    exact ih (by omega)
theorem mS_begin {M M1 : vM} {n : Nat} (hW : mW M n) (h : mBegin M M1 n) : mS M1 n 0 none none := by
  obtain ⟨hc, ⟨p1, p2, p3, p4, p5, p6, p7, p8, p9, p10, p11, p12, p13, p14⟩, w1, w2⟩ := hW
  obtain ⟨b1, b2, b3, b4, b5, b6, b7, b8, b9, b10, b11⟩ := h
  have e2 : M1 202 = M 202 := b1 202 (by decide)
  have e3 : M1 203 = M 203 := b1 203 (by decide)
  refine ⟨by rw [b2 4 (by decide)]; exact hc, p1, fun j => ?_, fun j => ?_, fun j => by rw [e2]; exact p5 j, fun j => by rw [e3]; exact p6 j, ?_, b6, (fun _ h => nomatch h), b8, (fun _ h => nomatch h), ?_, by rw [b2 7 (by decide)]; exact p10.2, by rw [b2 6 (by decide)]; exact p9, by rw [b5]; exact p8, b9⟩
  · rw [b4]; unfold pMix; split
    · have := p7 j; have := p5 j; omega
    · exact w2 j
  · rw [b3]; unfold pMix; split
    · exact p4 j
    · exact w1 j
  · intro i j hi hj hij; rw [b3, pMix_lt hi, pMix_lt hj] at hij; exact p14 i j hi hj hij
  · rw [b7, b2 7 (by decide)]; have : 1 ≤ M 200 7 := p10.1; omega
theorem c_X7_begin {d : List Nat} {T : vT} {M : vM} {n : Nat} (hB : vB T) (hW : mW M n) : vCon m_X7_begin d d [vR 200] T M (vPv fun T1 M1 => T = T1 ∧ mBegin M M1 n) := by
  refine vCon.of (by decide) rfl rfl (Nat.le_of_ble_eq_true rfl) ?_
  have h := l_X7_begin (d := d) hB hW 0 (by omega)
  rw [show mLaid M 0 = M from by unfold mLaid; rw [pMix_0, pMix_0, vRow_id, vRow_id]] at h
  refine vV.iconst dX7_begin_0 (by decide) ?_
  refine vV.istore_n (L' := [_, _]) dX7_begin_1 (by decide) rfl ?_
  exact h

theorem pPack_dig {f : Int → Int} (h : ∀ j : Nat, 0 ≤ f j ∧ f j ≤ 15) {p : Nat} : ∀ n, p < n → pPack f n / 16 ^ p % 16 = f p
  | 0, hp => by omega
  | n + 1, hp => by
    have hn := h n
    rw [pPack_s]
    by_cases hpn : p = n
    · subst hpn
      obtain ⟨a1, a2⟩ := pPack_rg f h p
      have hp0 : (0 : Int) < 16 ^ p := Int.pow_pos (by decide)
      rw [Int.add_mul_ediv_right _ _ (by omega), Int.ediv_eq_zero_of_lt a1 a2, Int.zero_add]
      exact Int.emod_eq_of_lt hn.1 (by omega)
    · have ih := pPack_dig h (p := p) n (by omega)
      obtain ⟨k, hk⟩ : ∃ k, n = p + 1 + k := ⟨n - p - 1, by omega⟩
      have hp0 : (0 : Int) < 16 ^ p := Int.pow_pos (by decide)
      have e : f n * 16 ^ n = (f n * 16 ^ k * 16) * 16 ^ p := by
        rw [hk, Int.pow_add, Int.pow_add]
        simp only [Int.pow_succ, Int.pow_zero, Int.one_mul, Int.mul_assoc, Int.mul_comm, Int.mul_left_comm]
      rw [e, Int.add_mul_ediv_right _ _ (by omega), ← ih]
      generalize f n * 16 ^ k = z
      generalize pPack f n / 16 ^ p = y
      omega
theorem seen_dig {f : Int → Int} (h : ∀ j : Nat, 0 ≤ f j ∧ f j ≤ 15) {n p : Nat} (hn : n ≤ 6) (hp : p < n) : vAnd (vShr (pPack f n) (4 * p)) 15 = f p := by
  obtain ⟨a1, a2⟩ := pPack_rg f h n
  obtain ⟨b, hb⟩ : ∃ b : Nat, pPack f n = b := ⟨(pPack f n).toNat, by omega⟩
  have hc : ((16 ^ n : Nat) : Int) = (16 : Int) ^ n := by simp
  have hle : (16 : Nat) ^ n ≤ 16 ^ 6 := Nat.pow_le_pow_right (by decide) hn
  have hlt : b < 2 ^ 31 := by rw [hb, ← hc] at a2; omega
  have e16 : (2 : Nat) ^ (4 * p) = 16 ^ p := by rw [Nat.pow_mul]
  have hd := pPack_dig h n hp
  rw [hb] at hd ⊢
  have hdiv : b / 2 ^ (4 * p) ≤ b := Nat.div_le_self _ _
  rw [show (4 * (p : Int)) = ((4 * p : Nat) : Int) by simp, vShr_nat (by omega) hlt, show (15 : Int) = ((2 ^ 4 - 1 : Nat) : Int) from rfl, vAnd_nat 4 (by decide) (by omega), e16, ← hd]
  simp
def mL (M : vM) (n t : Nat) (hist : Nat → Int → Int) : Prop := (∀ i : Nat, i ≤ t → M 218 i = pPack (hist i) n) ∧ ∀ (i j : Nat), 0 ≤ hist i j ∧ hist i j ≤ 15
/-- what he sees -/
def pSeen (pl tu f : Int → Int) (man : Int) (p : Nat) : Int := if pl p = man then tu p else f p
def pFar (pl : Int → Int) (man : Int) (p : Nat) : Int := pAbs (pl p) man
theorem dX7_seen_0 : decode cX7_seen 0 = .ok (.aload_n 0, 1) := by decide +kernel
theorem dX7_seen_1 : decode cX7_seen 1 = .ok (.getfield 22, 3) := by decide +kernel
theorem dX7_seen_4 : decode cX7_seen 4 = .ok (.iload_n 1, 1) := by decide +kernel
theorem dX7_seen_5 : decode cX7_seen 5 = .ok (.iaload, 1) := by decide +kernel
theorem dX7_seen_6 : decode cX7_seen 6 = .ok (.aload_n 0, 1) := by decide +kernel
theorem dX7_seen_7 : decode cX7_seen 7 = .ok (.getfield 123, 3) := by decide +kernel
theorem dX7_seen_10 : decode cX7_seen 10 = .ok (.if_icmp .ne 10, 3) := by decide +kernel
theorem dX7_seen_13 : decode cX7_seen 13 = .ok (.aload_n 0, 1) := by decide +kernel
theorem dX7_seen_14 : decode cX7_seen 14 = .ok (.getfield 25, 3) := by decide +kernel
theorem dX7_seen_17 : decode cX7_seen 17 = .ok (.iload_n 1, 1) := by decide +kernel
theorem dX7_seen_18 : decode cX7_seen 18 = .ok (.iaload, 1) := by decide +kernel
theorem dX7_seen_19 : decode cX7_seen 19 = .ok (.ireturn, 1) := by decide +kernel
theorem dX7_seen_20 : decode cX7_seen 20 = .ok (.aload_n 0, 1) := by decide +kernel
theorem dX7_seen_21 : decode cX7_seen 21 = .ok (.getfield 135, 3) := by decide +kernel
theorem dX7_seen_24 : decode cX7_seen 24 = .ok (.aload_n 0, 1) := by decide +kernel
theorem dX7_seen_25 : decode cX7_seen 25 = .ok (.getfield 120, 3) := by decide +kernel
theorem dX7_seen_28 : decode cX7_seen 28 = .ok (.if_icmp .ge 7, 3) := by decide +kernel
theorem dX7_seen_31 : decode cX7_seen 31 = .ok (.iconst 0, 1) := by decide +kernel
theorem dX7_seen_32 : decode cX7_seen 32 = .ok (.goto 12, 3) := by decide +kernel
theorem dX7_seen_35 : decode cX7_seen 35 = .ok (.aload_n 0, 1) := by decide +kernel
theorem dX7_seen_36 : decode cX7_seen 36 = .ok (.getfield 135, 3) := by decide +kernel
theorem dX7_seen_39 : decode cX7_seen 39 = .ok (.aload_n 0, 1) := by decide +kernel
theorem dX7_seen_40 : decode cX7_seen 40 = .ok (.getfield 120, 3) := by decide +kernel
theorem dX7_seen_43 : decode cX7_seen 43 = .ok (.isub, 1) := by decide +kernel
theorem dX7_seen_44 : decode cX7_seen 44 = .ok (.istore_n 2, 1) := by decide +kernel
theorem dX7_seen_45 : decode cX7_seen 45 = .ok (.aload_n 0, 1) := by decide +kernel
theorem dX7_seen_46 : decode cX7_seen 46 = .ok (.getfield 28, 3) := by decide +kernel
theorem dX7_seen_49 : decode cX7_seen 49 = .ok (.iload_n 2, 1) := by decide +kernel
theorem dX7_seen_50 : decode cX7_seen 50 = .ok (.iaload, 1) := by decide +kernel
theorem dX7_seen_51 : decode cX7_seen 51 = .ok (.iconst 4, 1) := by decide +kernel
theorem dX7_seen_52 : decode cX7_seen 52 = .ok (.iload_n 1, 1) := by decide +kernel
theorem dX7_seen_53 : decode cX7_seen 53 = .ok (.imul, 1) := by decide +kernel
theorem dX7_seen_54 : decode cX7_seen 54 = .ok (.ishr, 1) := by decide +kernel
theorem dX7_seen_55 : decode cX7_seen 55 = .ok (.bipush 15, 2) := by decide +kernel
theorem dX7_seen_57 : decode cX7_seen 57 = .ok (.iand, 1) := by decide +kernel
theorem dX7_seen_58 : decode cX7_seen 58 = .ok (.ireturn, 1) := by decide +kernel
theorem c_X7_seen {d : List Nat} {T : vT} {M : vM} {n t p lag : Nat} {g l : Option Nat} {hist : Nat → Int → Int} (hB : vB T) (hS : mS M n t g l) (hL : mL M n t hist) (ht : t ≤ 600) (hlag : M 200 8 = lag) (hl3 : lag ≤ 3) (hp : p < n) : vCon m_X7_seen d d [vR 200, vI p] T M (vPi fun r T1 M1 => r = pSeen (M 211) (M 212) (hist (t - lag)) (M 200 12) p ∧ T = T1 ∧ M = M1) := by
  obtain ⟨s1, s2, s3, s4, s5, s6, s7, s8, s9, s10, s11, s12, s13, s14, s15, s16⟩ := hS
  have hlog := hL.1 (t - lag) (by omega)
  have hdig := seen_dig (hL.2 (t - lag)) s2 hp
  refine vCon.of (by decide) rfl rfl (Nat.le_of_ble_eq_true rfl) ?_
  refine vV.aload_n dX7_seen_0 rfl ?_
  refine vV.getr dX7_seen_1 fl_X7_22 (by first | rfl | assumption) rfl (by first | assumption | exact hB _ _ _ rfl) ?_
  refine vV.iload_n dX7_seen_4 rfl ?_
  refine vV.iald dX7_seen_5 (by first | rfl | assumption) (by omega) (by omega) ?_
  refine vV.aload_n dX7_seen_6 rfl ?_
  refine vV.geti (z := 12) dX7_seen_7 fl_X7_123 (by first | rfl | assumption) rfl rfl ?_
  refine vV.icmp_ne (tgt := 20) dX7_seen_10 (by decide) (fun h10 => ?_) (fun h10 => ?_)
  · skip
    refine vV.aload_n dX7_seen_20 rfl ?_
    refine vV.geti (z := 16) dX7_seen_21 fl_X7_135 (by first | rfl | assumption) rfl rfl ?_
    refine vV.aload_n dX7_seen_24 rfl ?_
    refine vV.geti (z := 8) dX7_seen_25 fl_X7_120 (by first | rfl | assumption) rfl rfl ?_
    refine vV.icmp_ge (tgt := 35) dX7_seen_28 (by decide) (fun h28 => ?_) (fun h28 => ?_)
    · skip
      rw [hlag, s16] at h28
      refine vV.aload_n dX7_seen_35 rfl ?_
      refine vV.geti (z := 16) dX7_seen_36 fl_X7_135 (by first | rfl | assumption) rfl rfl ?_
      refine vV.aload_n dX7_seen_39 rfl ?_
      refine vV.geti (z := 8) dX7_seen_40 fl_X7_120 (by first | rfl | assumption) rfl rfl ?_
      rw [hlag, s16]
      refine vV.isub dX7_seen_43 (⟨by omega, by omega⟩) ?_
      refine vV.istore_n (L' := [_, _, _]) dX7_seen_44 (by decide) rfl ?_
      refine vV.aload_n dX7_seen_45 rfl ?_
      refine vV.getr dX7_seen_46 fl_X7_28 (by first | rfl | assumption) rfl (by first | assumption | exact hB _ _ _ rfl) ?_
      refine vV.iload_n dX7_seen_49 rfl ?_
      refine vV.iald dX7_seen_50 (by first | rfl | assumption) (by omega) (by omega) ?_
      rw [show (M 218 _ : Int) = pPack (hist (t - lag)) n from by rw [← hlog]; congr 1; omega]
      refine vV.iconst dX7_seen_51 (by decide) ?_
      refine vV.iload_n dX7_seen_52 rfl ?_
      refine vV.imul dX7_seen_53 (⟨by omega, by omega⟩) ?_
      refine vV.ishr dX7_seen_54 ?_
      refine vV.bipush (v := 15) dX7_seen_55 (by decide) (by decide) ?_
      refine vV.iand dX7_seen_57 ?_
      refine vV.ri dX7_seen_58 rfl ?_
      refine ⟨?_, rfl, rfl⟩; unfold pSeen; rw [if_neg h10, hdig]
    · skip
      rw [hlag, s16] at h28
      refine vV.iconst dX7_seen_31 (by decide) ?_
      refine vV.goto (tgt := 44) dX7_seen_32 (by decide) ?_
      refine vV.istore_n (L' := [_, _, _]) dX7_seen_44 (by decide) rfl ?_
      refine vV.aload_n dX7_seen_45 rfl ?_
      refine vV.getr dX7_seen_46 fl_X7_28 (by first | rfl | assumption) rfl (by first | assumption | exact hB _ _ _ rfl) ?_
      refine vV.iload_n dX7_seen_49 rfl ?_
      refine vV.iald dX7_seen_50 (by first | rfl | assumption) (by omega) (by omega) ?_
      rw [show (M 218 _ : Int) = pPack (hist (t - lag)) n from by rw [← hlog]; congr 1; omega]
      refine vV.iconst dX7_seen_51 (by decide) ?_
      refine vV.iload_n dX7_seen_52 rfl ?_
      refine vV.imul dX7_seen_53 (⟨by omega, by omega⟩) ?_
      refine vV.ishr dX7_seen_54 ?_
      refine vV.bipush (v := 15) dX7_seen_55 (by decide) (by decide) ?_
      refine vV.iand dX7_seen_57 ?_
      refine vV.ri dX7_seen_58 rfl ?_
      refine ⟨?_, rfl, rfl⟩; unfold pSeen; rw [if_neg h10, hdig]
  · skip
    refine vV.aload_n dX7_seen_13 rfl ?_
    refine vV.getr dX7_seen_14 fl_X7_25 (by first | rfl | assumption) rfl (by first | assumption | exact hB _ _ _ rfl) ?_
    refine vV.iload_n dX7_seen_17 rfl ?_
    refine vV.iald dX7_seen_18 (by first | rfl | assumption) (by omega) (by omega) ?_
    refine vV.ri dX7_seen_19 rfl ?_
    refine ⟨?_, rfl, rfl⟩; unfold pSeen; rw [if_pos h10]
theorem dX7_far_0 : decode cX7_far 0 = .ok (.aload_n 0, 1) := by decide +kernel
theorem dX7_far_1 : decode cX7_far 1 = .ok (.getfield 22, 3) := by decide +kernel
theorem dX7_far_4 : decode cX7_far 4 = .ok (.iload_n 1, 1) := by decide +kernel
theorem dX7_far_5 : decode cX7_far 5 = .ok (.iaload, 1) := by decide +kernel
theorem dX7_far_6 : decode cX7_far 6 = .ok (.aload_n 0, 1) := by decide +kernel
theorem dX7_far_7 : decode cX7_far 7 = .ok (.getfield 123, 3) := by decide +kernel
theorem dX7_far_10 : decode cX7_far 10 = .ok (.invokestatic 149, 3) := by decide +kernel
theorem dX7_far_13 : decode cX7_far 13 = .ok (.ireturn, 1) := by decide +kernel
theorem c_X7_far {d : List Nat} {T : vT} {M : vM} {n t p : Nat} {g l : Option Nat} (hB : vB T) (hS : mS M n t g l) (hp : p < n) : vCon m_X7_far d d [vR 200, vI p] T M (vPi fun r T1 M1 => r = pFar (M 211) (M 200 12) p ∧ T = T1 ∧ M = M1) := by
  obtain ⟨s1, s2, s3, s4, s5, s6, s7, s8, s9, s10, s11, s12, s13, s14, s15, s16⟩ := hS
  have b1 := s4 p
  refine vCon.of (by decide) rfl rfl (Nat.le_of_ble_eq_true rfl) ?_
  refine vV.aload_n dX7_far_0 rfl ?_
  refine vV.getr dX7_far_1 fl_X7_22 (by first | rfl | assumption) rfl (by first | assumption | exact hB _ _ _ rfl) ?_
  refine vV.iload_n dX7_far_4 rfl ?_
  refine vV.iald dX7_far_5 (by first | rfl | assumption) (by omega) (by omega) ?_
  refine vV.aload_n dX7_far_6 rfl ?_
  refine vV.geti (z := 12) dX7_far_7 fl_X7_123 (by first | rfl | assumption) rfl rfl ?_
  refine vV.cSi dX7_far_10 ml_X7_149 cw_X7_apart sw_X7_apart (by unfold vRoom; decide) (c_X7_apart (by omega) (by omega)) rfl rfl (Nat.le_of_ble_eq_true rfl) ?_
  rintro x10 _ _ hx10 ⟨rfl, rfl, rfl⟩
  refine vV.ri dX7_far_13 rfl ?_
  exact ⟨rfl, rfl, rfl⟩
/-- the first of the least -/
def pMin (S : Nat → Bool) (v : Nat → Int) : Nat → Option Nat
  | 0 => none
  | n + 1 => match pMin S v n with
    | none => if S n then some n else none
    | some b => if S n && decide (v n < v b) then some n else some b
theorem pMin_lt {S : Nat → Bool} {v : Nat → Int} : ∀ {n k : Nat}, pMin S v n = some k → k < n
  | 0, k, h => by cases h
  | n + 1, k, h => by
    unfold pMin at h
    cases hz : pMin S v n with
    | none => rw [hz] at h; simp only at h; split at h; cases h; omega; cases h
    | some b =>
      have := pMin_lt hz
      rw [hz] at h; simp only at h; split at h <;> cases h <;> omega
theorem pMin_s (S : Nat → Bool) (v : Nat → Int) (n : Nat) : pMin S v (n + 1) = (match pMin S v n with
    | none => if S n then some n else none
    | some b => if S n && decide (v n < v b) then some n else some b) := rfl
theorem pMin_keep {S : Nat → Bool} {v : Nat → Int} {n : Nat} (h : S n = false ∨ ∃ b, pMin S v n = some b ∧ v b ≤ v n) : pMin S v (n + 1) = pMin S v n := by
  rw [pMin_s]
  rcases h with h | ⟨b, h1, h2⟩
  · cases pMin S v n <;> simp [h]
  · rw [h1]; simp; intro _ h3; omega
theorem pMin_take {S : Nat → Bool} {v : Nat → Int} {n : Nat} (h : S n = true) (h2 : ∀ b, pMin S v n = some b → v n < v b) : pMin S v (n + 1) = some n := by
  rw [pMin_s]
  cases hz : pMin S v n with
  | none => simp [h]
  | some b => simp [h, h2 b hz]
theorem dX7_worst_0 : decode cX7_worst 0 = .ok (.bipush (-6), 2) := by decide +kernel
theorem dX7_worst_2 : decode cX7_worst 2 = .ok (.istore_n 1, 1) := by decide +kernel
theorem dX7_worst_3 : decode cX7_worst 3 = .ok (.iconst 0, 1) := by decide +kernel
theorem dX7_worst_4 : decode cX7_worst 4 = .ok (.istore_n 2, 1) := by decide +kernel
theorem dX7_worst_5 : decode cX7_worst 5 = .ok (.iload_n 2, 1) := by decide +kernel
theorem dX7_worst_6 : decode cX7_worst 6 = .ok (.aload_n 0, 1) := by decide +kernel
theorem dX7_worst_7 : decode cX7_worst 7 = .ok (.getfield 89, 3) := by decide +kernel
theorem dX7_worst_10 : decode cX7_worst 10 = .ok (.if_icmp .ge 41, 3) := by decide +kernel
theorem dX7_worst_13 : decode cX7_worst 13 = .ok (.aload_n 0, 1) := by decide +kernel
theorem dX7_worst_14 : decode cX7_worst 14 = .ok (.getfield 25, 3) := by decide +kernel
theorem dX7_worst_17 : decode cX7_worst 17 = .ok (.iload_n 2, 1) := by decide +kernel
theorem dX7_worst_18 : decode cX7_worst 18 = .ok (.iaload, 1) := by decide +kernel
theorem dX7_worst_19 : decode cX7_worst 19 = .ok (.ifCond .le 24, 3) := by decide +kernel
theorem dX7_worst_22 : decode cX7_worst 22 = .ok (.iload_n 1, 1) := by decide +kernel
theorem dX7_worst_23 : decode cX7_worst 23 = .ok (.ifCond .lt 16, 3) := by decide +kernel
theorem dX7_worst_26 : decode cX7_worst 26 = .ok (.aload_n 0, 1) := by decide +kernel
theorem dX7_worst_27 : decode cX7_worst 27 = .ok (.iload_n 2, 1) := by decide +kernel
theorem dX7_worst_28 : decode cX7_worst 28 = .ok (.invokevirtual 153, 3) := by decide +kernel
theorem dX7_worst_31 : decode cX7_worst 31 = .ok (.aload_n 0, 1) := by decide +kernel
theorem dX7_worst_32 : decode cX7_worst 32 = .ok (.iload_n 1, 1) := by decide +kernel
theorem dX7_worst_33 : decode cX7_worst 33 = .ok (.invokevirtual 153, 3) := by decide +kernel
theorem dX7_worst_36 : decode cX7_worst 36 = .ok (.if_icmp .ge 7, 3) := by decide +kernel
theorem dX7_worst_39 : decode cX7_worst 39 = .ok (.iload_n 2, 1) := by decide +kernel
theorem dX7_worst_40 : decode cX7_worst 40 = .ok (.goto 4, 3) := by decide +kernel
theorem dX7_worst_43 : decode cX7_worst 43 = .ok (.iload_n 1, 1) := by decide +kernel
theorem dX7_worst_44 : decode cX7_worst 44 = .ok (.istore_n 1, 1) := by decide +kernel
theorem dX7_worst_45 : decode cX7_worst 45 = .ok (.iinc 2 1, 3) := by decide +kernel
theorem dX7_worst_48 : decode cX7_worst 48 = .ok (.goto (-43), 3) := by decide +kernel
theorem dX7_worst_51 : decode cX7_worst 51 = .ok (.iload_n 1, 1) := by decide +kernel
theorem dX7_worst_52 : decode cX7_worst 52 = .ok (.ireturn, 1) := by decide +kernel
theorem l_X7_worst {d : List Nat} {T : vT} {M : vM} {n t lag : Nat} {g l : Option Nat} {hist : Nat → Int → Int} (hB : vB T) (hS : mS M n t g l) (hL : mL M n t hist) (ht : t ≤ 600) (hlag : M 200 8 = lag) (hl3 : lag ≤ 3) : ∀ p, p ≤ n →
    vV m_X7_worst d d (vPi fun r T1 M1 => r = pOr (-6) (pMin (fun j => decide (0 < M 212 j)) (pSeen (M 211) (M 212) (hist (t - lag)) (M 200 12)) n) ∧ T = T1 ∧ M = M1) 5 [some (vR 200), some (vI (pOr (-6) (pMin (fun j => decide (0 < M 212 j)) (pSeen (M 211) (M 212) (hist (t - lag)) (M 200 12)) p))), some (vI p)] [] d T M := by
  have hc := hS.1
  have hn := hS.2.1
  refine vUp ?_
  intro p hp ih
  obtain ⟨r, hr⟩ : ∃ r, pMin (fun j => decide (0 < M 212 j)) (pSeen (M 211) (M 212) (hist (t - lag)) (M 200 12)) p = r := ⟨_, rfl⟩
  rw [hr]
  have keep : (decide (0 < M 212 p) = false ∨ ∃ b, r = some b ∧ pSeen (M 211) (M 212) (hist (t - lag)) (M 200 12) b ≤ pSeen (M 211) (M 212) (hist (t - lag)) (M 200 12) p) → pMin (fun j => decide (0 < M 212 j)) (pSeen (M 211) (M 212) (hist (t - lag)) (M 200 12)) (p + 1) = r := fun h => by rw [← hr]; exact pMin_keep (by rw [hr]; exact h)
  have take : decide (0 < M 212 p) = true → (∀ b, r = some b → pSeen (M 211) (M 212) (hist (t - lag)) (M 200 12) p < pSeen (M 211) (M 212) (hist (t - lag)) (M 200 12) b) → pMin (fun j => decide (0 < M 212 j)) (pSeen (M 211) (M 212) (hist (t - lag)) (M 200 12)) (p + 1) = some p := fun h1 h2 => pMin_take h1 (by rw [hr]; exact h2)
  have hlt : ∀ b, r = some b → b < p := fun b hb => pMin_lt (hr.trans hb)
  cases r with
  | none =>
    rw [pOr_n]
    refine vV.iload_n dX7_worst_5 rfl ?_
    refine vV.aload_n dX7_worst_6 rfl ?_
    refine vV.geti (z := 4) dX7_worst_7 fl_X7_89 (by first | rfl | assumption) rfl rfl ?_
    refine vV.icmp_ge (tgt := 51) dX7_worst_10 (by decide) (fun h10 => ?_) (fun h10 => ?_)
    · skip
      refine vV.iload_n dX7_worst_51 rfl ?_
      refine vV.ri dX7_worst_52 rfl ?_
      rw [show n = p by omega, hr]; exact ⟨rfl, rfl, rfl⟩
    · skip
      refine vV.aload_n dX7_worst_13 rfl ?_
      refine vV.getr dX7_worst_14 fl_X7_25 (by first | rfl | assumption) rfl (by first | assumption | exact hB _ _ _ rfl) ?_
      refine vV.iload_n dX7_worst_17 rfl ?_
      refine vV.iald dX7_worst_18 (by first | rfl | assumption) (by omega) (by omega) ?_
      refine vV.if_le (tgt := 43) dX7_worst_19 (by decide) (fun h19 => ?_) (fun h19 => ?_)
      · skip
        rw [keep (Or.inl (by simp; omega)), pOr_n] at ih
        refine vV.iload_n dX7_worst_43 rfl ?_
        refine vV.istore_n (L' := [_, _, _]) dX7_worst_44 (by decide) rfl ?_
        refine vV.iinc (L' := [_, _, _]) dX7_worst_45 (by decide) rfl (⟨by omega, by omega⟩) rfl ?_
        refine vV.goto (tgt := 5) dX7_worst_48 (by decide) ?_
        exact ih (by omega)
      · skip
        refine vV.iload_n dX7_worst_22 rfl ?_
        refine vV.if_lt (tgt := 39) dX7_worst_23 (by decide) (fun h23 => ?_) (fun h23 => ?_)
        · skip
          rw [take (by simp; omega) (fun b hb => nomatch hb), pOr_s] at ih
          refine vV.iload_n dX7_worst_39 rfl ?_
          refine vV.goto (tgt := 44) dX7_worst_40 (by decide) ?_
          refine vV.istore_n (L' := [_, _, _]) dX7_worst_44 (by decide) rfl ?_
          refine vV.iinc (L' := [_, _, _]) dX7_worst_45 (by decide) rfl (⟨by omega, by omega⟩) rfl ?_
          refine vV.goto (tgt := 5) dX7_worst_48 (by decide) ?_
          exact ih (by omega)
        · skip
          omega
  | some b =>
    have hbp := hlt b rfl
    rw [pOr_s]
    refine vV.iload_n dX7_worst_5 rfl ?_
    refine vV.aload_n dX7_worst_6 rfl ?_
    refine vV.geti (z := 4) dX7_worst_7 fl_X7_89 (by first | rfl | assumption) rfl rfl ?_
    refine vV.icmp_ge (tgt := 51) dX7_worst_10 (by decide) (fun h10 => ?_) (fun h10 => ?_)
    · skip
      refine vV.iload_n dX7_worst_51 rfl ?_
      refine vV.ri dX7_worst_52 rfl ?_
      rw [show n = p by omega, hr]; exact ⟨rfl, rfl, rfl⟩
    · skip
      refine vV.aload_n dX7_worst_13 rfl ?_
      refine vV.getr dX7_worst_14 fl_X7_25 (by first | rfl | assumption) rfl (by first | assumption | exact hB _ _ _ rfl) ?_
      refine vV.iload_n dX7_worst_17 rfl ?_
      refine vV.iald dX7_worst_18 (by first | rfl | assumption) (by omega) (by omega) ?_
      refine vV.if_le (tgt := 43) dX7_worst_19 (by decide) (fun h19 => ?_) (fun h19 => ?_)
      · skip
        rw [keep (Or.inl (by simp; omega)), pOr_s] at ih
        refine vV.iload_n dX7_worst_43 rfl ?_
        refine vV.istore_n (L' := [_, _, _]) dX7_worst_44 (by decide) rfl ?_
        refine vV.iinc (L' := [_, _, _]) dX7_worst_45 (by decide) rfl (⟨by omega, by omega⟩) rfl ?_
        refine vV.goto (tgt := 5) dX7_worst_48 (by decide) ?_
        exact ih (by omega)
      · skip
        refine vV.iload_n dX7_worst_22 rfl ?_
        refine vV.if_lt (tgt := 39) dX7_worst_23 (by decide) (fun h23 => ?_) (fun h23 => ?_)
        · skip
          omega
        · skip
          refine vV.aload_n dX7_worst_26 rfl ?_
          refine vV.iload_n dX7_worst_27 rfl ?_
          refine vV.cVi dX7_worst_28 ml_X7_153 cw_X7_seen iw_X7_seen (by first | rfl | assumption) rfl (by unfold vRoom; decide) (c_X7_seen hB hS hL ht hlag hl3 (p := p) (by omega)) rfl rfl (Nat.le_of_ble_eq_true rfl) ?_
          rintro x28 _ _ hx28 ⟨rfl, rfl, rfl⟩
          refine vV.aload_n dX7_worst_31 rfl ?_
          refine vV.iload_n dX7_worst_32 rfl ?_
          refine vV.cVi dX7_worst_33 ml_X7_153 cw_X7_seen iw_X7_seen (by first | rfl | assumption) rfl (by unfold vRoom; decide) (c_X7_seen hB hS hL ht hlag hl3 (p := b) (by omega)) rfl rfl (Nat.le_of_ble_eq_true rfl) ?_
          rintro x33 _ _ hx33 ⟨rfl, rfl, rfl⟩
          refine vV.icmp_ge (tgt := 43) dX7_worst_36 (by decide) (fun h36 => ?_) (fun h36 => ?_)
          · skip
            rw [keep (Or.inr ⟨b, rfl, h36⟩), pOr_s] at ih
            refine vV.iload_n dX7_worst_43 rfl ?_
            refine vV.istore_n (L' := [_, _, _]) dX7_worst_44 (by decide) rfl ?_
            refine vV.iinc (L' := [_, _, _]) dX7_worst_45 (by decide) rfl (⟨by omega, by omega⟩) rfl ?_
            refine vV.goto (tgt := 5) dX7_worst_48 (by decide) ?_
            exact ih (by omega)
          · skip
            rw [take (by simp; omega) (fun b' hb => by cases hb; exact h36), pOr_s] at ih
            refine vV.iload_n dX7_worst_39 rfl ?_
            refine vV.goto (tgt := 44) dX7_worst_40 (by decide) ?_
            refine vV.istore_n (L' := [_, _, _]) dX7_worst_44 (by decide) rfl ?_
            refine vV.iinc (L' := [_, _, _]) dX7_worst_45 (by decide) rfl (⟨by omega, by omega⟩) rfl ?_
            refine vV.goto (tgt := 5) dX7_worst_48 (by decide) ?_
            exact ih (by omega)
theorem c_X7_worst {d : List Nat} {T : vT} {M : vM} {n t lag : Nat} {g l : Option Nat} {hist : Nat → Int → Int} (hB : vB T) (hS : mS M n t g l) (hL : mL M n t hist) (ht : t ≤ 600) (hlag : M 200 8 = lag) (hl3 : lag ≤ 3) : vCon m_X7_worst d d [vR 200] T M (vPi fun r T1 M1 => r = pOr (-6) (pMin (fun j => decide (0 < M 212 j)) (pSeen (M 211) (M 212) (hist (t - lag)) (M 200 12)) n) ∧ T = T1 ∧ M = M1) := by
  refine vCon.of (by decide) rfl rfl (Nat.le_of_ble_eq_true rfl) ?_
  have h := l_X7_worst (d := d) hB hS hL ht hlag hl3 0 (by omega)
  refine vV.bipush (v := (-6)) dX7_worst_0 (by decide) (by decide) ?_
  refine vV.istore_n (L' := [_, _, _]) dX7_worst_2 (by decide) rfl ?_
  refine vV.iconst dX7_worst_3 (by decide) ?_
  refine vV.istore_n (L' := [_, _, _]) dX7_worst_4 (by decide) rfl ?_
  exact h
end
section
/-! ===== own: the reference: goals ===== -/
theorem dX7_near_0 : decode cX7_near 0 = .ok (.bipush (-6), 2) := by decide +kernel
theorem dX7_near_2 : decode cX7_near 2 = .ok (.istore_n 1, 1) := by decide +kernel
theorem dX7_near_3 : decode cX7_near 3 = .ok (.iconst 0, 1) := by decide +kernel
theorem dX7_near_4 : decode cX7_near 4 = .ok (.istore_n 2, 1) := by decide +kernel
theorem dX7_near_5 : decode cX7_near 5 = .ok (.iload_n 2, 1) := by decide +kernel
theorem dX7_near_6 : decode cX7_near 6 = .ok (.aload_n 0, 1) := by decide +kernel
theorem dX7_near_7 : decode cX7_near 7 = .ok (.getfield 89, 3) := by decide +kernel
theorem dX7_near_10 : decode cX7_near 10 = .ok (.if_icmp .ge 50, 3) := by decide +kernel
theorem dX7_near_13 : decode cX7_near 13 = .ok (.aload_n 0, 1) := by decide +kernel
theorem dX7_near_14 : decode cX7_near 14 = .ok (.getfield 25, 3) := by decide +kernel
theorem dX7_near_17 : decode cX7_near 17 = .ok (.iload_n 2, 1) := by decide +kernel
theorem dX7_near_18 : decode cX7_near 18 = .ok (.iaload, 1) := by decide +kernel
theorem dX7_near_19 : decode cX7_near 19 = .ok (.ifCond .le 33, 3) := by decide +kernel
theorem dX7_near_22 : decode cX7_near 22 = .ok (.aload_n 0, 1) := by decide +kernel
theorem dX7_near_23 : decode cX7_near 23 = .ok (.iload_n 2, 1) := by decide +kernel
theorem dX7_near_24 : decode cX7_near 24 = .ok (.invokevirtual 153, 3) := by decide +kernel
theorem dX7_near_27 : decode cX7_near 27 = .ok (.iconst 5, 1) := by decide +kernel
theorem dX7_near_28 : decode cX7_near 28 = .ok (.if_icmp .gt 24, 3) := by decide +kernel
theorem dX7_near_31 : decode cX7_near 31 = .ok (.iload_n 1, 1) := by decide +kernel
theorem dX7_near_32 : decode cX7_near 32 = .ok (.ifCond .lt 16, 3) := by decide +kernel
theorem dX7_near_35 : decode cX7_near 35 = .ok (.aload_n 0, 1) := by decide +kernel
theorem dX7_near_36 : decode cX7_near 36 = .ok (.iload_n 2, 1) := by decide +kernel
theorem dX7_near_37 : decode cX7_near 37 = .ok (.invokevirtual 156, 3) := by decide +kernel
theorem dX7_near_40 : decode cX7_near 40 = .ok (.aload_n 0, 1) := by decide +kernel
theorem dX7_near_41 : decode cX7_near 41 = .ok (.iload_n 1, 1) := by decide +kernel
theorem dX7_near_42 : decode cX7_near 42 = .ok (.invokevirtual 156, 3) := by decide +kernel
theorem dX7_near_45 : decode cX7_near 45 = .ok (.if_icmp .ge 7, 3) := by decide +kernel
theorem dX7_near_48 : decode cX7_near 48 = .ok (.iload_n 2, 1) := by decide +kernel
theorem dX7_near_49 : decode cX7_near 49 = .ok (.goto 4, 3) := by decide +kernel
theorem dX7_near_52 : decode cX7_near 52 = .ok (.iload_n 1, 1) := by decide +kernel
theorem dX7_near_53 : decode cX7_near 53 = .ok (.istore_n 1, 1) := by decide +kernel
theorem dX7_near_54 : decode cX7_near 54 = .ok (.iinc 2 1, 3) := by decide +kernel
theorem dX7_near_57 : decode cX7_near 57 = .ok (.goto (-52), 3) := by decide +kernel
theorem dX7_near_60 : decode cX7_near 60 = .ok (.iload_n 1, 1) := by decide +kernel
theorem dX7_near_61 : decode cX7_near 61 = .ok (.ifCond .ge 10, 3) := by decide +kernel
theorem dX7_near_64 : decode cX7_near 64 = .ok (.aload_n 0, 1) := by decide +kernel
theorem dX7_near_65 : decode cX7_near 65 = .ok (.invokevirtual 159, 3) := by decide +kernel
theorem dX7_near_68 : decode cX7_near 68 = .ok (.goto 4, 3) := by decide +kernel
theorem dX7_near_71 : decode cX7_near 71 = .ok (.iload_n 1, 1) := by decide +kernel
theorem dX7_near_72 : decode cX7_near 72 = .ok (.ireturn, 1) := by decide +kernel
theorem l_X7_near {d : List Nat} {T : vT} {M : vM} {n t lag : Nat} {g l : Option Nat} {hist : Nat → Int → Int} (hB : vB T) (hS : mS M n t g l) (hL : mL M n t hist) (ht : t ≤ 600) (hlag : M 200 8 = lag) (hl3 : lag ≤ 3) (S : Nat → Bool) (hSd : S = fun j : Nat => decide (0 < M 212 j) && decide (pSeen (M 211) (M 212) (hist (t - lag)) (M 200 12) j ≤ 5)) (v : Nat → Int) (hvd : v = pFar (M 211) (M 200 12)) (Wr : Option Nat) (hWr : Wr = pMin (fun j => decide (0 < M 212 j)) (pSeen (M 211) (M 212) (hist (t - lag)) (M 200 12)) n) : ∀ p, p ≤ n →
    vV m_X7_near d d (vPi fun r T1 M1 => r = pOr (-6) ((pMin S v n).or Wr) ∧ T = T1 ∧ M = M1) 5 [some (vR 200), some (vI (pOr (-6) (pMin S v p))), some (vI p)] [] d T M := by
  have hc := hS.1
  have hn := hS.2.1
  refine vUp ?_
  intro p hp ih
  obtain ⟨r, hr⟩ : ∃ r, pMin S v p = r := ⟨_, rfl⟩
  rw [hr]
  have keep : (S p = false ∨ ∃ b, r = some b ∧ v b ≤ v p) → pMin S v (p + 1) = r := fun h => by rw [← hr]; exact pMin_keep (by rw [hr]; exact h)
  have take : S p = true → (∀ b, r = some b → v p < v b) → pMin S v (p + 1) = some p := fun h1 h2 => pMin_take h1 (by rw [hr]; exact h2)
  have hlt : ∀ b, r = some b → b < p := fun b hb => pMin_lt (hr.trans hb)
  cases r with
  | none =>
    rw [pOr_n]
    refine vV.iload_n dX7_near_5 rfl ?_
    refine vV.aload_n dX7_near_6 rfl ?_
    refine vV.geti (z := 4) dX7_near_7 fl_X7_89 (by first | rfl | assumption) rfl rfl ?_
    refine vV.icmp_ge (tgt := 60) dX7_near_10 (by decide) (fun h10 => ?_) (fun h10 => ?_)
    · skip
      refine vV.iload_n dX7_near_60 rfl ?_
      refine vV.if_ge (tgt := 71) dX7_near_61 (by decide) (fun h61 => ?_) (fun h61 => ?_)
      · skip
        omega
      · skip
        refine vV.aload_n dX7_near_64 rfl ?_
        refine vV.cVi dX7_near_65 ml_X7_159 cw_X7_worst iw_X7_worst (by first | rfl | assumption) rfl (by unfold vRoom; decide) (c_X7_worst hB hS hL ht hlag hl3) rfl rfl (Nat.le_of_ble_eq_true rfl) ?_
        rintro x65 _ _ hx65 ⟨rfl, rfl, rfl⟩
        refine vV.goto (tgt := 72) dX7_near_68 (by decide) ?_
        refine vV.ri dX7_near_72 rfl ?_
        have hpn : p = n := by omega
        subst hpn
        rw [hr, hWr]; exact ⟨rfl, rfl, rfl⟩
    · skip
      refine vV.aload_n dX7_near_13 rfl ?_
      refine vV.getr dX7_near_14 fl_X7_25 (by first | rfl | assumption) rfl (by first | assumption | exact hB _ _ _ rfl) ?_
      refine vV.iload_n dX7_near_17 rfl ?_
      refine vV.iald dX7_near_18 (by first | rfl | assumption) (by omega) (by omega) ?_
      refine vV.if_le (tgt := 52) dX7_near_19 (by decide) (fun h19 => ?_) (fun h19 => ?_)
      · skip
        rw [keep (Or.inl (by rw [hSd]; simp; omega)), pOr_n] at ih
        refine vV.iload_n dX7_near_52 rfl ?_
        refine vV.istore_n (L' := [_, _, _]) dX7_near_53 (by decide) rfl ?_
        refine vV.iinc (L' := [_, _, _]) dX7_near_54 (by decide) rfl (⟨by omega, by omega⟩) rfl ?_
        refine vV.goto (tgt := 5) dX7_near_57 (by decide) ?_
        exact ih (by omega)
      · skip
        refine vV.aload_n dX7_near_22 rfl ?_
        refine vV.iload_n dX7_near_23 rfl ?_
        refine vV.cVi dX7_near_24 ml_X7_153 cw_X7_seen iw_X7_seen (by first | rfl | assumption) rfl (by unfold vRoom; decide) (c_X7_seen hB hS hL ht hlag hl3 (p := p) (by omega)) rfl rfl (Nat.le_of_ble_eq_true rfl) ?_
        rintro x24 _ _ hx24 ⟨rfl, rfl, rfl⟩
        refine vV.iconst dX7_near_27 (by decide) ?_
        refine vV.icmp_gt (tgt := 52) dX7_near_28 (by decide) (fun h28 => ?_) (fun h28 => ?_)
        · skip
          rw [keep (Or.inl (by rw [hSd]; simp; omega)), pOr_n] at ih
          refine vV.iload_n dX7_near_52 rfl ?_
          refine vV.istore_n (L' := [_, _, _]) dX7_near_53 (by decide) rfl ?_
          refine vV.iinc (L' := [_, _, _]) dX7_near_54 (by decide) rfl (⟨by omega, by omega⟩) rfl ?_
          refine vV.goto (tgt := 5) dX7_near_57 (by decide) ?_
          exact ih (by omega)
        · skip
          refine vV.iload_n dX7_near_31 rfl ?_
          refine vV.if_lt (tgt := 48) dX7_near_32 (by decide) (fun h32 => ?_) (fun h32 => ?_)
          · skip
            rw [take (by rw [hSd]; simp; omega) (fun b hb => nomatch hb), pOr_s] at ih
            refine vV.iload_n dX7_near_48 rfl ?_
            refine vV.goto (tgt := 53) dX7_near_49 (by decide) ?_
            refine vV.istore_n (L' := [_, _, _]) dX7_near_53 (by decide) rfl ?_
            refine vV.iinc (L' := [_, _, _]) dX7_near_54 (by decide) rfl (⟨by omega, by omega⟩) rfl ?_
            refine vV.goto (tgt := 5) dX7_near_57 (by decide) ?_
            exact ih (by omega)
          · skip
            omega
  | some b =>
    have hbp := hlt b rfl
    rw [pOr_s]
    refine vV.iload_n dX7_near_5 rfl ?_
    refine vV.aload_n dX7_near_6 rfl ?_
    refine vV.geti (z := 4) dX7_near_7 fl_X7_89 (by first | rfl | assumption) rfl rfl ?_
    refine vV.icmp_ge (tgt := 60) dX7_near_10 (by decide) (fun h10 => ?_) (fun h10 => ?_)
    · skip
      refine vV.iload_n dX7_near_60 rfl ?_
      refine vV.if_ge (tgt := 71) dX7_near_61 (by decide) (fun h61 => ?_) (fun h61 => ?_)
      · skip
        refine vV.iload_n dX7_near_71 rfl ?_
        refine vV.ri dX7_near_72 rfl ?_
        rw [show n = p by omega, hr]; exact ⟨rfl, rfl, rfl⟩
      · skip
        omega
    · skip
      refine vV.aload_n dX7_near_13 rfl ?_
      refine vV.getr dX7_near_14 fl_X7_25 (by first | rfl | assumption) rfl (by first | assumption | exact hB _ _ _ rfl) ?_
      refine vV.iload_n dX7_near_17 rfl ?_
      refine vV.iald dX7_near_18 (by first | rfl | assumption) (by omega) (by omega) ?_
      refine vV.if_le (tgt := 52) dX7_near_19 (by decide) (fun h19 => ?_) (fun h19 => ?_)
      · skip
        rw [keep (Or.inl (by rw [hSd]; simp; omega)), pOr_s] at ih
        refine vV.iload_n dX7_near_52 rfl ?_
        refine vV.istore_n (L' := [_, _, _]) dX7_near_53 (by decide) rfl ?_
        refine vV.iinc (L' := [_, _, _]) dX7_near_54 (by decide) rfl (⟨by omega, by omega⟩) rfl ?_
        refine vV.goto (tgt := 5) dX7_near_57 (by decide) ?_
        exact ih (by omega)
      · skip
        refine vV.aload_n dX7_near_22 rfl ?_
        refine vV.iload_n dX7_near_23 rfl ?_
        refine vV.cVi dX7_near_24 ml_X7_153 cw_X7_seen iw_X7_seen (by first | rfl | assumption) rfl (by unfold vRoom; decide) (c_X7_seen hB hS hL ht hlag hl3 (p := p) (by omega)) rfl rfl (Nat.le_of_ble_eq_true rfl) ?_
        rintro x24 _ _ hx24 ⟨rfl, rfl, rfl⟩
        refine vV.iconst dX7_near_27 (by decide) ?_
        refine vV.icmp_gt (tgt := 52) dX7_near_28 (by decide) (fun h28 => ?_) (fun h28 => ?_)
        · skip
          rw [keep (Or.inl (by rw [hSd]; simp; omega)), pOr_s] at ih
          refine vV.iload_n dX7_near_52 rfl ?_
          refine vV.istore_n (L' := [_, _, _]) dX7_near_53 (by decide) rfl ?_
          refine vV.iinc (L' := [_, _, _]) dX7_near_54 (by decide) rfl (⟨by omega, by omega⟩) rfl ?_
          refine vV.goto (tgt := 5) dX7_near_57 (by decide) ?_
          exact ih (by omega)
        · skip
          refine vV.iload_n dX7_near_31 rfl ?_
          refine vV.if_lt (tgt := 48) dX7_near_32 (by decide) (fun h32 => ?_) (fun h32 => ?_)
          · skip
            omega
          · skip
            refine vV.aload_n dX7_near_35 rfl ?_
            refine vV.iload_n dX7_near_36 rfl ?_
            refine vV.cVi dX7_near_37 ml_X7_156 cw_X7_far iw_X7_far (by first | rfl | assumption) rfl (by unfold vRoom; decide) (c_X7_far hB hS (p := p) (by omega)) rfl rfl (Nat.le_of_ble_eq_true rfl) ?_
            rintro x37 _ _ hx37 ⟨rfl, rfl, rfl⟩
            refine vV.aload_n dX7_near_40 rfl ?_
            refine vV.iload_n dX7_near_41 rfl ?_
            refine vV.cVi dX7_near_42 ml_X7_156 cw_X7_far iw_X7_far (by first | rfl | assumption) rfl (by unfold vRoom; decide) (c_X7_far hB hS (p := b) (by omega)) rfl rfl (Nat.le_of_ble_eq_true rfl) ?_
            rintro x42 _ _ hx42 ⟨rfl, rfl, rfl⟩
            refine vV.icmp_ge (tgt := 52) dX7_near_45 (by decide) (fun h45 => ?_) (fun h45 => ?_)
            · skip
              rw [keep (Or.inr ⟨b, rfl, by rw [hvd]; exact h45⟩), pOr_s] at ih
              refine vV.iload_n dX7_near_52 rfl ?_
              refine vV.istore_n (L' := [_, _, _]) dX7_near_53 (by decide) rfl ?_
              refine vV.iinc (L' := [_, _, _]) dX7_near_54 (by decide) rfl (⟨by omega, by omega⟩) rfl ?_
              refine vV.goto (tgt := 5) dX7_near_57 (by decide) ?_
              exact ih (by omega)
            · skip
              rw [take (by rw [hSd]; simp; omega) (fun b' hb => by cases hb; rw [hvd]; exact h45), pOr_s] at ih
              refine vV.iload_n dX7_near_48 rfl ?_
              refine vV.goto (tgt := 53) dX7_near_49 (by decide) ?_
              refine vV.istore_n (L' := [_, _, _]) dX7_near_53 (by decide) rfl ?_
              refine vV.iinc (L' := [_, _, _]) dX7_near_54 (by decide) rfl (⟨by omega, by omega⟩) rfl ?_
              refine vV.goto (tgt := 5) dX7_near_57 (by decide) ?_
              exact ih (by omega)
def pWorst (n : Nat) (pl tu f : Int → Int) (man : Int) : Option Nat := pMin (fun j => decide (0 < tu j)) (pSeen pl tu f man) n
def pNear (n : Nat) (pl tu f : Int → Int) (man : Int) : Option Nat := (pMin (fun j => decide (0 < tu j) && decide (pSeen pl tu f man j ≤ 5)) (pFar pl man) n).or (pWorst n pl tu f man)
theorem c_X7_near {d : List Nat} {T : vT} {M : vM} {n t lag : Nat} {g l : Option Nat} {hist : Nat → Int → Int} (hB : vB T) (hS : mS M n t g l) (hL : mL M n t hist) (ht : t ≤ 600) (hlag : M 200 8 = lag) (hl3 : lag ≤ 3) : vCon m_X7_near d d [vR 200] T M (vPi fun r T1 M1 => r = pOr (-6) (pNear n (M 211) (M 212) (hist (t - lag)) (M 200 12)) ∧ T = T1 ∧ M = M1) := by
  refine vCon.of (by decide) rfl rfl (Nat.le_of_ble_eq_true rfl) ?_
  have h := l_X7_near (d := d) hB hS hL ht hlag hl3 _ rfl _ rfl _ rfl 0 (by omega)
  refine vV.bipush (v := (-6)) dX7_near_0 (by decide) (by decide) ?_
  refine vV.istore_n (L' := [_, _, _]) dX7_near_2 (by decide) rfl ?_
  refine vV.iconst dX7_near_3 (by decide) ?_
  refine vV.istore_n (L' := [_, _, _]) dX7_near_4 (by decide) rfl ?_
  exact h
theorem dX7_left_0 : decode cX7_left 0 = .ok (.bipush (-6), 2) := by decide +kernel
theorem dX7_left_2 : decode cX7_left 2 = .ok (.istore_n 1, 1) := by decide +kernel
theorem dX7_left_3 : decode cX7_left 3 = .ok (.iconst 0, 1) := by decide +kernel
theorem dX7_left_4 : decode cX7_left 4 = .ok (.istore_n 2, 1) := by decide +kernel
theorem dX7_left_5 : decode cX7_left 5 = .ok (.iconst 0, 1) := by decide +kernel
theorem dX7_left_6 : decode cX7_left 6 = .ok (.istore_n 3, 1) := by decide +kernel
theorem dX7_left_7 : decode cX7_left 7 = .ok (.iload_n 3, 1) := by decide +kernel
theorem dX7_left_8 : decode cX7_left 8 = .ok (.aload_n 0, 1) := by decide +kernel
theorem dX7_left_9 : decode cX7_left 9 = .ok (.getfield 89, 3) := by decide +kernel
theorem dX7_left_12 : decode cX7_left 12 = .ok (.if_icmp .ge 53, 3) := by decide +kernel
theorem dX7_left_15 : decode cX7_left 15 = .ok (.aload_n 0, 1) := by decide +kernel
theorem dX7_left_16 : decode cX7_left 16 = .ok (.iload_n 3, 1) := by decide +kernel
theorem dX7_left_17 : decode cX7_left 17 = .ok (.invokevirtual 153, 3) := by decide +kernel
theorem dX7_left_20 : decode cX7_left 20 = .ok (.aload_n 0, 1) := by decide +kernel
theorem dX7_left_21 : decode cX7_left 21 = .ok (.getfield 16, 3) := by decide +kernel
theorem dX7_left_24 : decode cX7_left 24 = .ok (.iload_n 3, 1) := by decide +kernel
theorem dX7_left_25 : decode cX7_left 25 = .ok (.iaload, 1) := by decide +kernel
theorem dX7_left_26 : decode cX7_left 26 = .ok (.idiv, 1) := by decide +kernel
theorem dX7_left_27 : decode cX7_left 27 = .ok (.aload_n 0, 1) := by decide +kernel
theorem dX7_left_28 : decode cX7_left 28 = .ok (.iload_n 3, 1) := by decide +kernel
theorem dX7_left_29 : decode cX7_left 29 = .ok (.invokevirtual 156, 3) := by decide +kernel
theorem dX7_left_32 : decode cX7_left 32 = .ok (.isub, 1) := by decide +kernel
theorem dX7_left_33 : decode cX7_left 33 = .ok (.istore 4, 2) := by decide +kernel
theorem dX7_left_35 : decode cX7_left 35 = .ok (.aload_n 0, 1) := by decide +kernel
theorem dX7_left_36 : decode cX7_left 36 = .ok (.getfield 25, 3) := by decide +kernel
theorem dX7_left_39 : decode cX7_left 39 = .ok (.iload_n 3, 1) := by decide +kernel
theorem dX7_left_40 : decode cX7_left 40 = .ok (.iaload, 1) := by decide +kernel
theorem dX7_left_41 : decode cX7_left 41 = .ok (.ifCond .le 18, 3) := by decide +kernel
theorem dX7_left_44 : decode cX7_left 44 = .ok (.iload_n 1, 1) := by decide +kernel
theorem dX7_left_45 : decode cX7_left 45 = .ok (.ifCond .lt 9, 3) := by decide +kernel
theorem dX7_left_48 : decode cX7_left 48 = .ok (.iload 4, 2) := by decide +kernel
theorem dX7_left_50 : decode cX7_left 50 = .ok (.iload_n 2, 1) := by decide +kernel
theorem dX7_left_51 : decode cX7_left 51 = .ok (.if_icmp .ge 8, 3) := by decide +kernel
theorem dX7_left_54 : decode cX7_left 54 = .ok (.iload_n 3, 1) := by decide +kernel
theorem dX7_left_55 : decode cX7_left 55 = .ok (.istore_n 1, 1) := by decide +kernel
theorem dX7_left_56 : decode cX7_left 56 = .ok (.iload 4, 2) := by decide +kernel
theorem dX7_left_58 : decode cX7_left 58 = .ok (.istore_n 2, 1) := by decide +kernel
theorem dX7_left_59 : decode cX7_left 59 = .ok (.iinc 3 1, 3) := by decide +kernel
theorem dX7_left_62 : decode cX7_left 62 = .ok (.goto (-55), 3) := by decide +kernel
theorem dX7_left_65 : decode cX7_left 65 = .ok (.iload_n 1, 1) := by decide +kernel
theorem dX7_left_66 : decode cX7_left 66 = .ok (.ireturn, 1) := by decide +kernel
/-- TURN by FALLS, less how far -/
def pLv (pl fa tu f : Int → Int) (man : Int) (p : Nat) : Int := pSeen pl tu f man p / fa p - pFar pl man p
def pLeft (n : Nat) (pl fa tu f : Int → Int) (man : Int) : Option Nat := pMin (fun j => decide (0 < tu j)) (pLv pl fa tu f man) n
theorem pSeen_rg {pl tu f : Int → Int} {man : Int} (h1 : ∀ j : Nat, 0 ≤ tu j ∧ tu j ≤ 15) (h2 : ∀ j : Nat, 0 ≤ f j ∧ f j ≤ 15) (p : Nat) : 0 ≤ pSeen pl tu f man p ∧ pSeen pl tu f man p ≤ 15 := by
  unfold pSeen; split
  · exact h1 p
  · exact h2 p
theorem pFar_rg {pl : Int → Int} {man : Int} (h1 : ∀ j : Nat, 0 ≤ pl j ∧ pl j ≤ 7) (h2 : 0 ≤ man ∧ man ≤ 7) (p : Nat) : 0 ≤ pFar pl man p ∧ pFar pl man p ≤ 7 := by
  unfold pFar pAbs; have := h1 p; split <;> omega
theorem tdiv_nn {x y : Int} (hx : 0 ≤ x) : x.tdiv y = x / y := Int.tdiv_eq_ediv_of_nonneg hx
theorem ediv_rg {x y : Int} (hx : 0 ≤ x) (hy : 0 < y) : 0 ≤ x / y ∧ x / y ≤ x := ⟨Int.ediv_nonneg hx (by omega), Int.ediv_le_self _ hx⟩
theorem l_X7_left {d : List Nat} {T : vT} {M : vM} {n t lag : Nat} {g l : Option Nat} {hist : Nat → Int → Int} (hB : vB T) (hS : mS M n t g l) (hL : mL M n t hist) (ht : t ≤ 600) (hlag : M 200 8 = lag) (hl3 : lag ≤ 3) (hf1 : ∀ j : Nat, j < n → 1 ≤ M 203 j) : ∀ p, p ≤ n → ∀ (y : Int) (x4 : Option vA), (∀ b, pMin (fun j => decide (0 < M 212 j)) (pLv (M 211) (M 203) (M 212) (hist (t - lag)) (M 200 12)) p = some b → y = pLv (M 211) (M 203) (M 212) (hist (t - lag)) (M 200 12) b) →
    vV m_X7_left d d (vPi fun r T1 M1 => r = pOr (-6) (pLeft n (M 211) (M 203) (M 212) (hist (t - lag)) (M 200 12)) ∧ T = T1 ∧ M = M1) 7 [some (vR 200), some (vI (pOr (-6) (pMin (fun j => decide (0 < M 212 j)) (pLv (M 211) (M 203) (M 212) (hist (t - lag)) (M 200 12)) p))), some (vI y), some (vI p), x4] [] d T M := by
  have hc := hS.1
  have hn := hS.2.1
  have hS2 := hS
  obtain ⟨s1, s2, s3, s4, s5, s6, s7, s8, s9, s10, s11, s12, s13, s14, s15, s16⟩ := hS2
  unfold pLeft
  obtain ⟨S, hSd⟩ : ∃ S : Nat → Bool, S = fun j : Nat => decide (0 < M 212 j) := ⟨_, rfl⟩
  obtain ⟨v, hvd⟩ : ∃ v, v = pLv (M 211) (M 203) (M 212) (hist (t - lag)) (M 200 12) := ⟨_, rfl⟩
  rw [← hSd, ← hvd]
  refine vUp ?_
  intro p hp ih y x4 hy
  have r1 := pSeen_rg (pl := M 211) (man := M 200 12) s3 (hL.2 (t - lag)) p
  have r2 := pFar_rg s4 s15 p
  obtain ⟨r, hr⟩ : ∃ r, pMin S v p = r := ⟨_, rfl⟩
  rw [hr] at hy ⊢
  have keep : (S p = false ∨ ∃ b, r = some b ∧ v b ≤ v p) → pMin S v (p + 1) = r := fun h => by rw [← hr]; exact pMin_keep (by rw [hr]; exact h)
  have take : S p = true → (∀ b, r = some b → v p < v b) → pMin S v (p + 1) = some p := fun h1 h2 => pMin_take h1 (by rw [hr]; exact h2)
  have hlt : ∀ b, r = some b → b < p := fun b hb => pMin_lt (hr.trans hb)
  cases r with
  | none =>
    rw [pOr_n]
    refine vV.iload_n dX7_left_7 rfl ?_
    refine vV.aload_n dX7_left_8 rfl ?_
    refine vV.geti (z := 4) dX7_left_9 fl_X7_89 (by first | rfl | assumption) rfl rfl ?_
    refine vV.icmp_ge (tgt := 65) dX7_left_12 (by decide) (fun h12 => ?_) (fun h12 => ?_)
    · skip
      refine vV.iload_n dX7_left_65 rfl ?_
      refine vV.ri dX7_left_66 rfl ?_
      rw [show n = p by omega, hr]; exact ⟨rfl, rfl, rfl⟩
    · skip
      refine vV.aload_n dX7_left_15 rfl ?_
      refine vV.iload_n dX7_left_16 rfl ?_
      refine vV.cVi dX7_left_17 ml_X7_153 cw_X7_seen iw_X7_seen (by first | rfl | assumption) rfl (by unfold vRoom; decide) (c_X7_seen hB hS hL ht hlag hl3 (p := p) (by omega)) rfl rfl (Nat.le_of_ble_eq_true rfl) ?_
      rintro x17 _ _ hx17 ⟨rfl, rfl, rfl⟩
      refine vV.aload_n dX7_left_20 rfl ?_
      refine vV.getr dX7_left_21 fl_X7_16 (by first | rfl | assumption) rfl (by first | assumption | exact hB _ _ _ rfl) ?_
      refine vV.iload_n dX7_left_24 rfl ?_
      refine vV.iald dX7_left_25 (by first | rfl | assumption) (by omega) (by omega) ?_
      have f1 := hf1 p (by omega)
      have r3 := ediv_rg (y := M 203 p) r1.1 (by omega)
      refine vV.idiv dX7_left_26 (by omega) (by rw [tdiv_nn r1.1]; exact ⟨by omega, by omega⟩) ?_
      rw [tdiv_nn r1.1]
      refine vV.aload_n dX7_left_27 rfl ?_
      refine vV.iload_n dX7_left_28 rfl ?_
      refine vV.cVi dX7_left_29 ml_X7_156 cw_X7_far iw_X7_far (by first | rfl | assumption) rfl (by unfold vRoom; decide) (c_X7_far hB hS (p := p) (by omega)) rfl rfl (Nat.le_of_ble_eq_true rfl) ?_
      rintro x29 _ _ hx29 ⟨rfl, rfl, rfl⟩
      refine vV.isub dX7_left_32 (⟨by omega, by omega⟩) ?_
      refine vV.istore (L' := [_, _, _, _, _]) dX7_left_33 (by decide) rfl ?_
      refine vV.aload_n dX7_left_35 rfl ?_
      refine vV.getr dX7_left_36 fl_X7_25 (by first | rfl | assumption) rfl (by first | assumption | exact hB _ _ _ rfl) ?_
      refine vV.iload_n dX7_left_39 rfl ?_
      refine vV.iald dX7_left_40 (by first | rfl | assumption) (by omega) (by omega) ?_
      refine vV.if_le (tgt := 59) dX7_left_41 (by decide) (fun h41 => ?_) (fun h41 => ?_)
      · skip
        rw [keep (Or.inl (by rw [hSd]; simp; omega)), pOr_n] at ih
        refine vV.iinc (L' := [_, _, _, _, _]) dX7_left_59 (by decide) rfl (⟨by omega, by omega⟩) rfl ?_
        refine vV.goto (tgt := 7) dX7_left_62 (by decide) ?_
        exact ih (by omega) _ _ (fun b hb => by cases hb <;> (rw [hvd]; rfl))
      · skip
        refine vV.iload_n dX7_left_44 rfl ?_
        refine vV.if_lt (tgt := 54) dX7_left_45 (by decide) (fun h45 => ?_) (fun h45 => ?_)
        · skip
          rw [take (by rw [hSd]; simp; omega) (fun b hb => nomatch hb), pOr_s] at ih
          refine vV.iload_n dX7_left_54 rfl ?_
          refine vV.istore_n (L' := [_, _, _, _, _]) dX7_left_55 (by decide) rfl ?_
          refine vV.iload dX7_left_56 rfl ?_
          refine vV.istore_n (L' := [_, _, _, _, _]) dX7_left_58 (by decide) rfl ?_
          refine vV.iinc (L' := [_, _, _, _, _]) dX7_left_59 (by decide) rfl (⟨by omega, by omega⟩) rfl ?_
          refine vV.goto (tgt := 7) dX7_left_62 (by decide) ?_
          exact ih (by omega) _ _ (fun b hb => by cases hb <;> (rw [hvd]; rfl))
        · skip
          omega
  | some b =>
    have hbp := hlt b rfl
    have hyb := hy b rfl
    rw [pOr_s]
    refine vV.iload_n dX7_left_7 rfl ?_
    refine vV.aload_n dX7_left_8 rfl ?_
    refine vV.geti (z := 4) dX7_left_9 fl_X7_89 (by first | rfl | assumption) rfl rfl ?_
    refine vV.icmp_ge (tgt := 65) dX7_left_12 (by decide) (fun h12 => ?_) (fun h12 => ?_)
    · skip
      refine vV.iload_n dX7_left_65 rfl ?_
      refine vV.ri dX7_left_66 rfl ?_
      rw [show n = p by omega, hr]; exact ⟨rfl, rfl, rfl⟩
    · skip
      refine vV.aload_n dX7_left_15 rfl ?_
      refine vV.iload_n dX7_left_16 rfl ?_
      refine vV.cVi dX7_left_17 ml_X7_153 cw_X7_seen iw_X7_seen (by first | rfl | assumption) rfl (by unfold vRoom; decide) (c_X7_seen hB hS hL ht hlag hl3 (p := p) (by omega)) rfl rfl (Nat.le_of_ble_eq_true rfl) ?_
      rintro x17 _ _ hx17 ⟨rfl, rfl, rfl⟩
      refine vV.aload_n dX7_left_20 rfl ?_
      refine vV.getr dX7_left_21 fl_X7_16 (by first | rfl | assumption) rfl (by first | assumption | exact hB _ _ _ rfl) ?_
      refine vV.iload_n dX7_left_24 rfl ?_
      refine vV.iald dX7_left_25 (by first | rfl | assumption) (by omega) (by omega) ?_
      have f1 := hf1 p (by omega)
      have r3 := ediv_rg (y := M 203 p) r1.1 (by omega)
      refine vV.idiv dX7_left_26 (by omega) (by rw [tdiv_nn r1.1]; exact ⟨by omega, by omega⟩) ?_
      rw [tdiv_nn r1.1]
      refine vV.aload_n dX7_left_27 rfl ?_
      refine vV.iload_n dX7_left_28 rfl ?_
      refine vV.cVi dX7_left_29 ml_X7_156 cw_X7_far iw_X7_far (by first | rfl | assumption) rfl (by unfold vRoom; decide) (c_X7_far hB hS (p := p) (by omega)) rfl rfl (Nat.le_of_ble_eq_true rfl) ?_
      rintro x29 _ _ hx29 ⟨rfl, rfl, rfl⟩
      refine vV.isub dX7_left_32 (⟨by omega, by omega⟩) ?_
      refine vV.istore (L' := [_, _, _, _, _]) dX7_left_33 (by decide) rfl ?_
      refine vV.aload_n dX7_left_35 rfl ?_
      refine vV.getr dX7_left_36 fl_X7_25 (by first | rfl | assumption) rfl (by first | assumption | exact hB _ _ _ rfl) ?_
      refine vV.iload_n dX7_left_39 rfl ?_
      refine vV.iald dX7_left_40 (by first | rfl | assumption) (by omega) (by omega) ?_
      refine vV.if_le (tgt := 59) dX7_left_41 (by decide) (fun h41 => ?_) (fun h41 => ?_)
      · skip
        rw [keep (Or.inl (by rw [hSd]; simp; omega)), pOr_s] at ih
        refine vV.iinc (L' := [_, _, _, _, _]) dX7_left_59 (by decide) rfl (⟨by omega, by omega⟩) rfl ?_
        refine vV.goto (tgt := 7) dX7_left_62 (by decide) ?_
        exact ih (by omega) _ _ (fun b' hb => by cases hb; first | exact hyb | (rw [hvd]; rfl))
      · skip
        refine vV.iload_n dX7_left_44 rfl ?_
        refine vV.if_lt (tgt := 54) dX7_left_45 (by decide) (fun h45 => ?_) (fun h45 => ?_)
        · skip
          omega
        · skip
          refine vV.iload dX7_left_48 rfl ?_
          refine vV.iload_n dX7_left_50 rfl ?_
          refine vV.icmp_ge (tgt := 59) dX7_left_51 (by decide) (fun h51 => ?_) (fun h51 => ?_)
          · skip
            rw [hyb] at h51
            rw [keep (Or.inr ⟨b, rfl, by rw [hvd] at h51 ⊢; exact h51⟩), pOr_s] at ih
            refine vV.iinc (L' := [_, _, _, _, _]) dX7_left_59 (by decide) rfl (⟨by omega, by omega⟩) rfl ?_
            refine vV.goto (tgt := 7) dX7_left_62 (by decide) ?_
            exact ih (by omega) _ _ (fun b' hb => by cases hb; first | exact hyb | (rw [hvd]; rfl))
          · skip
            rw [hyb] at h51
            rw [take (by rw [hSd]; simp; omega) (fun b' hb => by cases hb; rw [hvd] at h51 ⊢; exact h51), pOr_s] at ih
            refine vV.iload_n dX7_left_54 rfl ?_
            refine vV.istore_n (L' := [_, _, _, _, _]) dX7_left_55 (by decide) rfl ?_
            refine vV.iload dX7_left_56 rfl ?_
            refine vV.istore_n (L' := [_, _, _, _, _]) dX7_left_58 (by decide) rfl ?_
            refine vV.iinc (L' := [_, _, _, _, _]) dX7_left_59 (by decide) rfl (⟨by omega, by omega⟩) rfl ?_
            refine vV.goto (tgt := 7) dX7_left_62 (by decide) ?_
            exact ih (by omega) _ _ (fun b' hb => by cases hb; first | exact hyb | (rw [hvd]; rfl))
theorem c_X7_left {d : List Nat} {T : vT} {M : vM} {n t lag : Nat} {g l : Option Nat} {hist : Nat → Int → Int} (hB : vB T) (hS : mS M n t g l) (hL : mL M n t hist) (ht : t ≤ 600) (hlag : M 200 8 = lag) (hl3 : lag ≤ 3) (hf1 : ∀ j : Nat, j < n → 1 ≤ M 203 j) : vCon m_X7_left d d [vR 200] T M (vPi fun r T1 M1 => r = pOr (-6) (pLeft n (M 211) (M 203) (M 212) (hist (t - lag)) (M 200 12)) ∧ T = T1 ∧ M = M1) := by
  refine vCon.of (by decide) rfl rfl (Nat.le_of_ble_eq_true rfl) ?_
  have h := fun y x4 => l_X7_left (d := d) hB hS hL ht hlag hl3 hf1 0 (by omega) y x4 (fun b hb => nomatch hb)
  refine vV.bipush (v := (-6)) dX7_left_0 (by decide) (by decide) ?_
  refine vV.istore_n (L' := [_, _, _, _, _]) dX7_left_2 (by decide) rfl ?_
  refine vV.iconst dX7_left_3 (by decide) ?_
  refine vV.istore_n (L' := [_, _, _, _, _]) dX7_left_4 (by decide) rfl ?_
  refine vV.iconst dX7_left_5 (by decide) ?_
  refine vV.istore_n (L' := [_, _, _, _, _]) dX7_left_6 (by decide) rfl ?_
  exact h _ _
theorem dX7_following_0 : decode cX7_following 0 = .ok (.iconst 1, 1) := by decide +kernel
theorem dX7_following_1 : decode cX7_following 1 = .ok (.istore_n 1, 1) := by decide +kernel
theorem dX7_following_2 : decode cX7_following 2 = .ok (.iload_n 1, 1) := by decide +kernel
theorem dX7_following_3 : decode cX7_following 3 = .ok (.aload_n 0, 1) := by decide +kernel
theorem dX7_following_4 : decode cX7_following 4 = .ok (.getfield 89, 3) := by decide +kernel
theorem dX7_following_7 : decode cX7_following 7 = .ok (.if_icmp .gt 45, 3) := by decide +kernel
theorem dX7_following_10 : decode cX7_following 10 = .ok (.aload_n 0, 1) := by decide +kernel
theorem dX7_following_11 : decode cX7_following 11 = .ok (.getfield 132, 3) := by decide +kernel
theorem dX7_following_14 : decode cX7_following 14 = .ok (.ifCond .ge 9, 3) := by decide +kernel
theorem dX7_following_17 : decode cX7_following 17 = .ok (.iload_n 1, 1) := by decide +kernel
theorem dX7_following_18 : decode cX7_following 18 = .ok (.iconst 1, 1) := by decide +kernel
theorem dX7_following_19 : decode cX7_following 19 = .ok (.isub, 1) := by decide +kernel
theorem dX7_following_20 : decode cX7_following 20 = .ok (.goto 14, 3) := by decide +kernel
theorem dX7_following_23 : decode cX7_following 23 = .ok (.aload_n 0, 1) := by decide +kernel
theorem dX7_following_24 : decode cX7_following 24 = .ok (.getfield 132, 3) := by decide +kernel
theorem dX7_following_27 : decode cX7_following 27 = .ok (.iload_n 1, 1) := by decide +kernel
theorem dX7_following_28 : decode cX7_following 28 = .ok (.iadd, 1) := by decide +kernel
theorem dX7_following_29 : decode cX7_following 29 = .ok (.aload_n 0, 1) := by decide +kernel
theorem dX7_following_30 : decode cX7_following 30 = .ok (.getfield 89, 3) := by decide +kernel
theorem dX7_following_33 : decode cX7_following 33 = .ok (.irem, 1) := by decide +kernel
theorem dX7_following_34 : decode cX7_following 34 = .ok (.istore_n 2, 1) := by decide +kernel
theorem dX7_following_35 : decode cX7_following 35 = .ok (.aload_n 0, 1) := by decide +kernel
theorem dX7_following_36 : decode cX7_following 36 = .ok (.getfield 25, 3) := by decide +kernel
theorem dX7_following_39 : decode cX7_following 39 = .ok (.iload_n 2, 1) := by decide +kernel
theorem dX7_following_40 : decode cX7_following 40 = .ok (.iaload, 1) := by decide +kernel
theorem dX7_following_41 : decode cX7_following 41 = .ok (.ifCond .le 5, 3) := by decide +kernel
theorem dX7_following_44 : decode cX7_following 44 = .ok (.iload_n 2, 1) := by decide +kernel
theorem dX7_following_45 : decode cX7_following 45 = .ok (.ireturn, 1) := by decide +kernel
theorem dX7_following_46 : decode cX7_following 46 = .ok (.iinc 1 1, 3) := by decide +kernel
theorem dX7_following_49 : decode cX7_following 49 = .ok (.goto (-47), 3) := by decide +kernel
theorem dX7_following_52 : decode cX7_following 52 = .ok (.bipush (-6), 2) := by decide +kernel
theorem dX7_following_54 : decode cX7_following 54 = .ok (.ireturn, 1) := by decide +kernel
def pIdx (n : Nat) (l : Option Nat) (k : Nat) : Nat := match l with
  | none => k
  | some q => (q + 1 + k) % n
def pNext (n : Nat) (tu : Int → Int) (l : Option Nat) : Option Nat := (pFind (fun k => decide (0 < tu (pIdx n l k))) n).map (pIdx n l)
theorem pIdx_lt {n : Nat} {l : Option Nat} {k : Nat} (h : k < n) : pIdx n l k < n := by
  cases l with
  | none => exact h
  | some q => exact Nat.mod_lt _ (by omega)
theorem l_X7_following {d : List Nat} {T : vT} {M : vM} {n : Nat} {l : Option Nat} (hB : vB T) (hc : M 200 4 = n) (hn : n ≤ 6) (hl : M 200 15 = pOr (-6) l) (hln : ∀ k, l = some k → k < n) : ∀ p, p ≤ n → (∀ j : Nat, j < p → decide (0 < M 212 (pIdx n l j)) = false) → ∀ x2 : Option vA,
    vV m_X7_following d d (vPi fun r T1 M1 => r = pOr (-6) (pNext n (M 212) l) ∧ T = T1 ∧ M = M1) 2 [some (vR 200), some (vI ((p : Int) + 1)), x2] [] d T M := by
  unfold pNext
  refine vUp ?_
  intro p hp ih hj x2
  have hF0 : p = n → pOr (-6) ((pFind (fun k => decide (0 < M 212 (pIdx n l k))) n).map (pIdx n l)) = -6 := fun h => by rw [pFind_no (fun j hjn => hj j (by omega))]; rfl
  have hF1 : p < n → 0 < M 212 (pIdx n l p) → pOr (-6) ((pFind (fun k => decide (0 < M 212 (pIdx n l k))) n).map (pIdx n l)) = (pIdx n l p : Nat) := fun h h2 => by rw [pFind_yes h (by simpa using h2) hj]; rfl
  have hI : p < n → pIdx n l p < n := fun h => pIdx_lt h
  have hnx : ¬ 0 < M 212 (pIdx n l p) → ∀ j : Nat, j < p + 1 → decide (0 < M 212 (pIdx n l j)) = false := fun h j hjp => (Nat.lt_succ_iff_lt_or_eq.mp hjp).elim (hj j) (fun e => by subst e; simpa using h)
  cases l with
  | none =>
    rw [pOr_n] at hl
    obtain ⟨i, hi⟩ : ∃ i, i = pIdx n none p := ⟨_, rfl⟩
    have hip : i = p := hi
    rw [← hi] at hF1 hI hnx
    refine vV.iload_n dX7_following_2 rfl ?_
    refine vV.aload_n dX7_following_3 rfl ?_
    refine vV.geti (z := 4) dX7_following_4 fl_X7_89 (by first | rfl | assumption) rfl rfl ?_
    refine vV.icmp_gt (tgt := 52) dX7_following_7 (by decide) (fun h7 => ?_) (fun h7 => ?_)
    · skip
      refine vV.bipush (v := (-6)) dX7_following_52 (by decide) (by decide) ?_
      refine vV.ri dX7_following_54 rfl ?_
      exact ⟨(hF0 (by omega)).symm, rfl, rfl⟩
    · skip
      have hI' := hI (by omega)
      refine vV.aload_n dX7_following_10 rfl ?_
      refine vV.geti (z := 15) dX7_following_11 fl_X7_132 (by first | rfl | assumption) rfl rfl ?_
      refine vV.if_ge (tgt := 23) dX7_following_14 (by decide) (fun h14 => ?_) (fun h14 => ?_)
      · skip
        omega
      · skip
        refine vV.iload_n dX7_following_17 rfl ?_
        refine vV.iconst dX7_following_18 (by decide) ?_
        refine vV.isub dX7_following_19 (⟨by omega, by omega⟩) ?_
        refine vV.goto (tgt := 34) dX7_following_20 (by decide) ?_
        rw [show (p : Int) + 1 - 1 = (i : Int) by omega]
        refine vV.istore_n (L' := [_, _, _]) dX7_following_34 (by decide) rfl ?_
        refine vV.aload_n dX7_following_35 rfl ?_
        refine vV.getr dX7_following_36 fl_X7_25 (by first | rfl | assumption) rfl (by first | assumption | exact hB _ _ _ rfl) ?_
        refine vV.iload_n dX7_following_39 rfl ?_
        refine vV.iald dX7_following_40 (by first | rfl | assumption) (by omega) (by omega) ?_
        refine vV.if_le (tgt := 46) dX7_following_41 (by decide) (fun h41 => ?_) (fun h41 => ?_)
        · skip
          refine vV.iinc (L' := [_, _, _]) dX7_following_46 (by decide) rfl (⟨by omega, by omega⟩) rfl ?_
          refine vV.goto (tgt := 2) dX7_following_49 (by decide) ?_
          exact ih (by omega) (hnx (by omega)) _
        · skip
          refine vV.iload_n dX7_following_44 rfl ?_
          refine vV.ri dX7_following_45 rfl ?_
          exact ⟨(hF1 (by omega) (by omega)).symm, rfl, rfl⟩
  | some q =>
    have hq := hln q rfl
    rw [pOr_s] at hl
    obtain ⟨i, hi⟩ : ∃ i, i = pIdx n (some q) p := ⟨_, rfl⟩
    have hiq : (i : Int) = ((q : Int) + ((p : Int) + 1)) % (n : Int) := by rw [hi]; unfold pIdx; simp; congr 1; omega
    rw [← hi] at hF1 hI hnx
    refine vV.iload_n dX7_following_2 rfl ?_
    refine vV.aload_n dX7_following_3 rfl ?_
    refine vV.geti (z := 4) dX7_following_4 fl_X7_89 (by first | rfl | assumption) rfl rfl ?_
    refine vV.icmp_gt (tgt := 52) dX7_following_7 (by decide) (fun h7 => ?_) (fun h7 => ?_)
    · skip
      refine vV.bipush (v := (-6)) dX7_following_52 (by decide) (by decide) ?_
      refine vV.ri dX7_following_54 rfl ?_
      exact ⟨(hF0 (by omega)).symm, rfl, rfl⟩
    · skip
      have hI' := hI (by omega)
      refine vV.aload_n dX7_following_10 rfl ?_
      refine vV.geti (z := 15) dX7_following_11 fl_X7_132 (by first | rfl | assumption) rfl rfl ?_
      refine vV.if_ge (tgt := 23) dX7_following_14 (by decide) (fun h14 => ?_) (fun h14 => ?_)
      · skip
        refine vV.aload_n dX7_following_23 rfl ?_
        refine vV.geti (z := 15) dX7_following_24 fl_X7_132 (by first | rfl | assumption) rfl rfl ?_
        refine vV.iload_n dX7_following_27 rfl ?_
        refine vV.iadd dX7_following_28 (⟨by omega, by omega⟩) ?_
        refine vV.aload_n dX7_following_29 rfl ?_
        refine vV.geti (z := 4) dX7_following_30 fl_X7_89 (by first | rfl | assumption) rfl rfl ?_
        refine vV.irem dX7_following_33 (by omega) (by rw [hc, hl, tdiv_nn (by omega)]; have := ediv_rg (x := (q : Int) + ((p : Int) + 1)) (y := (n : Int)) (by omega) (by omega); exact ⟨by omega, by omega⟩) ?_
        rw [hl, hc, Int.tmod_eq_emod_of_nonneg (by omega), ← hiq]
        refine vV.istore_n (L' := [_, _, _]) dX7_following_34 (by decide) rfl ?_
        refine vV.aload_n dX7_following_35 rfl ?_
        refine vV.getr dX7_following_36 fl_X7_25 (by first | rfl | assumption) rfl (by first | assumption | exact hB _ _ _ rfl) ?_
        refine vV.iload_n dX7_following_39 rfl ?_
        refine vV.iald dX7_following_40 (by first | rfl | assumption) (by omega) (by omega) ?_
        refine vV.if_le (tgt := 46) dX7_following_41 (by decide) (fun h41 => ?_) (fun h41 => ?_)
        · skip
          refine vV.iinc (L' := [_, _, _]) dX7_following_46 (by decide) rfl (⟨by omega, by omega⟩) rfl ?_
          refine vV.goto (tgt := 2) dX7_following_49 (by decide) ?_
          exact ih (by omega) (hnx (by omega)) _
        · skip
          refine vV.iload_n dX7_following_44 rfl ?_
          refine vV.ri dX7_following_45 rfl ?_
          exact ⟨(hF1 (by omega) (by omega)).symm, rfl, rfl⟩
      · skip
        omega
theorem c_X7_following {d : List Nat} {T : vT} {M : vM} {n : Nat} {l : Option Nat} (hB : vB T) (hc : M 200 4 = n) (hn : n ≤ 6) (hl : M 200 15 = pOr (-6) l) (hln : ∀ k, l = some k → k < n) : vCon m_X7_following d d [vR 200] T M (vPi fun r T1 M1 => r = pOr (-6) (pNext n (M 212) l) ∧ T = T1 ∧ M = M1) := by
  refine vCon.of (by decide) rfl rfl (Nat.le_of_ble_eq_true rfl) ?_
  have h := l_X7_following (d := d) hB hc hn hl hln 0 (by omega) (fun j hj => by omega)
  refine vV.iconst dX7_following_0 (by decide) ?_
  refine vV.istore_n (L' := [_, _, _]) dX7_following_1 (by decide) rfl ?_
  exact h _
def pTake (rule : Int) (n : Nat) (pl fa tu f : Int → Int) (man : Int) (l : Option Nat) : Option Nat :=
  if rule = 0 then pWorst n pl tu f man else if rule = 1 then pNear n pl tu f man else if rule = 2 then pNext n tu l else pLeft n pl fa tu f man
def pNeed (tu : Int → Int) : Option Nat → Bool
  | none => true
  | some p => decide (tu p = 0)
def pG1 (rule : Int) (n : Nat) (pl fa tu f : Int → Int) (man : Int) (g l : Option Nat) : Option Nat := if pNeed tu g then pTake rule n pl fa tu f man l else g
def pW1 (tu : Int → Int) (g : Option Nat) (w : Int) : Int := if pNeed tu g then 0 else w
def pL1 (rule : Int) (n : Nat) (pl fa tu f : Int → Int) (man : Int) (g l : Option Nat) : Option Nat := if pNeed tu g then (pTake rule n pl fa tu f man l).or l else l
def pThing (pl : Int → Int) (man : Int) : Option Nat → Int
  | none => 0
  | some p => if pl p = man then 3 else if pl p < man then 1 else 2
theorem pNear_lt {n k : Nat} {pl tu f : Int → Int} {man : Int} (h : pNear n pl tu f man = some k) : k < n := by
  unfold pNear at h
  cases hz : pMin (fun j => decide (0 < tu j) && decide (pSeen pl tu f man j ≤ 5)) (pFar pl man) n with
  | none => rw [hz] at h; exact pMin_lt h
  | some b => rw [hz] at h; cases h; exact pMin_lt hz
theorem pNext_lt {n k : Nat} {tu : Int → Int} {l : Option Nat} (h : pNext n tu l = some k) : k < n := by
  unfold pNext at h
  cases hz : pFind (fun k => decide (0 < tu (pIdx n l k))) n with
  | none => rw [hz] at h; cases h
  | some b => rw [hz] at h; cases h; exact pIdx_lt (pFind_some hz).1
theorem pTake_lt {rule : Int} {n k : Nat} {pl fa tu f : Int → Int} {man : Int} {l : Option Nat} (h : pTake rule n pl fa tu f man l = some k) : k < n := by
  unfold pTake at h
  split at h
  · exact pMin_lt h
  · split at h
    · exact pNear_lt h
    · split at h
      · exact pNext_lt h
      · exact pMin_lt h
theorem pG1_lt {rule : Int} {n : Nat} {pl fa tu f : Int → Int} {man : Int} {g l : Option Nat} (hg : ∀ k, g = some k → k < n) : ∀ k, pG1 rule n pl fa tu f man g l = some k → k < n := by
  intro k h; unfold pG1 at h; split at h
  · exact pTake_lt h
  · exact hg k h
theorem pL1_lt {rule : Int} {n : Nat} {pl fa tu f : Int → Int} {man : Int} {g l : Option Nat} (hl : ∀ k, l = some k → k < n) : ∀ k, pL1 rule n pl fa tu f man g l = some k → k < n := by
  intro k h; unfold pL1 at h; split at h
  · cases hz : pTake rule n pl fa tu f man l with
    | none => rw [hz] at h; exact hl k h
    | some b => rw [hz] at h; cases h; exact pTake_lt hz
  · exact hl k h
end
section
/-! ===== own: the reference: thingBy, goBy ===== -/
theorem dX7_thingBy_0 : decode cX7_thingBy 0 = .ok (.aload_n 0, 1) := by decide +kernel
theorem dX7_thingBy_1 : decode cX7_thingBy 1 = .ok (.getfield 126, 3) := by decide +kernel
theorem dX7_thingBy_4 : decode cX7_thingBy 4 = .ok (.ifCond .lt 21, 3) := by decide +kernel
theorem dX7_thingBy_7 : decode cX7_thingBy 7 = .ok (.aload_n 0, 1) := by decide +kernel
theorem dX7_thingBy_8 : decode cX7_thingBy 8 = .ok (.getfield 25, 3) := by decide +kernel
theorem dX7_thingBy_11 : decode cX7_thingBy 11 = .ok (.aload_n 0, 1) := by decide +kernel
theorem dX7_thingBy_12 : decode cX7_thingBy 12 = .ok (.getfield 126, 3) := by decide +kernel
theorem dX7_thingBy_15 : decode cX7_thingBy 15 = .ok (.iaload, 1) := by decide +kernel
theorem dX7_thingBy_16 : decode cX7_thingBy 16 = .ok (.ifCond .ne 9, 3) := by decide +kernel
theorem dX7_thingBy_19 : decode cX7_thingBy 19 = .ok (.aload_n 0, 1) := by decide +kernel
theorem dX7_thingBy_20 : decode cX7_thingBy 20 = .ok (.bipush (-6), 2) := by decide +kernel
theorem dX7_thingBy_22 : decode cX7_thingBy 22 = .ok (.putfield 126, 3) := by decide +kernel
theorem dX7_thingBy_25 : decode cX7_thingBy 25 = .ok (.aload_n 0, 1) := by decide +kernel
theorem dX7_thingBy_26 : decode cX7_thingBy 26 = .ok (.getfield 126, 3) := by decide +kernel
theorem dX7_thingBy_29 : decode cX7_thingBy 29 = .ok (.ifCond .ge 73, 3) := by decide +kernel
theorem dX7_thingBy_32 : decode cX7_thingBy 32 = .ok (.aload_n 0, 1) := by decide +kernel
theorem dX7_thingBy_33 : decode cX7_thingBy 33 = .ok (.iconst 0, 1) := by decide +kernel
theorem dX7_thingBy_34 : decode cX7_thingBy 34 = .ok (.putfield 129, 3) := by decide +kernel
theorem dX7_thingBy_37 : decode cX7_thingBy 37 = .ok (.aload_n 0, 1) := by decide +kernel
theorem dX7_thingBy_38 : decode cX7_thingBy 38 = .ok (.iload_n 1, 1) := by decide +kernel
theorem dX7_thingBy_39 : decode cX7_thingBy 39 = .ok (.ifCond .ne 10, 3) := by decide +kernel
theorem dX7_thingBy_42 : decode cX7_thingBy 42 = .ok (.aload_n 0, 1) := by decide +kernel
theorem dX7_thingBy_43 : decode cX7_thingBy 43 = .ok (.invokevirtual 159, 3) := by decide +kernel
theorem dX7_thingBy_46 : decode cX7_thingBy 46 = .ok (.goto 31, 3) := by decide +kernel
theorem dX7_thingBy_49 : decode cX7_thingBy 49 = .ok (.iload_n 1, 1) := by decide +kernel
theorem dX7_thingBy_50 : decode cX7_thingBy 50 = .ok (.iconst 1, 1) := by decide +kernel
theorem dX7_thingBy_51 : decode cX7_thingBy 51 = .ok (.if_icmp .ne 10, 3) := by decide +kernel
theorem dX7_thingBy_54 : decode cX7_thingBy 54 = .ok (.aload_n 0, 1) := by decide +kernel
theorem dX7_thingBy_55 : decode cX7_thingBy 55 = .ok (.invokevirtual 162, 3) := by decide +kernel
theorem dX7_thingBy_58 : decode cX7_thingBy 58 = .ok (.goto 19, 3) := by decide +kernel
theorem dX7_thingBy_61 : decode cX7_thingBy 61 = .ok (.iload_n 1, 1) := by decide +kernel
theorem dX7_thingBy_62 : decode cX7_thingBy 62 = .ok (.iconst 2, 1) := by decide +kernel
theorem dX7_thingBy_63 : decode cX7_thingBy 63 = .ok (.if_icmp .ne 10, 3) := by decide +kernel
theorem dX7_thingBy_66 : decode cX7_thingBy 66 = .ok (.aload_n 0, 1) := by decide +kernel
theorem dX7_thingBy_67 : decode cX7_thingBy 67 = .ok (.invokevirtual 165, 3) := by decide +kernel
theorem dX7_thingBy_70 : decode cX7_thingBy 70 = .ok (.goto 7, 3) := by decide +kernel
theorem dX7_thingBy_73 : decode cX7_thingBy 73 = .ok (.aload_n 0, 1) := by decide +kernel
theorem dX7_thingBy_74 : decode cX7_thingBy 74 = .ok (.invokevirtual 168, 3) := by decide +kernel
theorem dX7_thingBy_77 : decode cX7_thingBy 77 = .ok (.putfield 126, 3) := by decide +kernel
theorem dX7_thingBy_80 : decode cX7_thingBy 80 = .ok (.aload_n 0, 1) := by decide +kernel
theorem dX7_thingBy_81 : decode cX7_thingBy 81 = .ok (.aload_n 0, 1) := by decide +kernel
theorem dX7_thingBy_82 : decode cX7_thingBy 82 = .ok (.getfield 126, 3) := by decide +kernel
theorem dX7_thingBy_85 : decode cX7_thingBy 85 = .ok (.ifCond .lt 10, 3) := by decide +kernel
theorem dX7_thingBy_88 : decode cX7_thingBy 88 = .ok (.aload_n 0, 1) := by decide +kernel
theorem dX7_thingBy_89 : decode cX7_thingBy 89 = .ok (.getfield 126, 3) := by decide +kernel
theorem dX7_thingBy_92 : decode cX7_thingBy 92 = .ok (.goto 7, 3) := by decide +kernel
theorem dX7_thingBy_95 : decode cX7_thingBy 95 = .ok (.aload_n 0, 1) := by decide +kernel
theorem dX7_thingBy_96 : decode cX7_thingBy 96 = .ok (.getfield 132, 3) := by decide +kernel
theorem dX7_thingBy_99 : decode cX7_thingBy 99 = .ok (.putfield 132, 3) := by decide +kernel
theorem dX7_thingBy_102 : decode cX7_thingBy 102 = .ok (.aload_n 0, 1) := by decide +kernel
theorem dX7_thingBy_103 : decode cX7_thingBy 103 = .ok (.getfield 126, 3) := by decide +kernel
theorem dX7_thingBy_106 : decode cX7_thingBy 106 = .ok (.ifCond .ge 5, 3) := by decide +kernel
theorem dX7_thingBy_109 : decode cX7_thingBy 109 = .ok (.iconst 0, 1) := by decide +kernel
theorem dX7_thingBy_110 : decode cX7_thingBy 110 = .ok (.ireturn, 1) := by decide +kernel
theorem dX7_thingBy_111 : decode cX7_thingBy 111 = .ok (.aload_n 0, 1) := by decide +kernel
theorem dX7_thingBy_112 : decode cX7_thingBy 112 = .ok (.getfield 22, 3) := by decide +kernel
theorem dX7_thingBy_115 : decode cX7_thingBy 115 = .ok (.aload_n 0, 1) := by decide +kernel
theorem dX7_thingBy_116 : decode cX7_thingBy 116 = .ok (.getfield 126, 3) := by decide +kernel
theorem dX7_thingBy_119 : decode cX7_thingBy 119 = .ok (.iaload, 1) := by decide +kernel
theorem dX7_thingBy_120 : decode cX7_thingBy 120 = .ok (.aload_n 0, 1) := by decide +kernel
theorem dX7_thingBy_121 : decode cX7_thingBy 121 = .ok (.getfield 123, 3) := by decide +kernel
theorem dX7_thingBy_124 : decode cX7_thingBy 124 = .ok (.if_icmp .ne 7, 3) := by decide +kernel
theorem dX7_thingBy_127 : decode cX7_thingBy 127 = .ok (.iconst 3, 1) := by decide +kernel
theorem dX7_thingBy_128 : decode cX7_thingBy 128 = .ok (.goto 24, 3) := by decide +kernel
theorem dX7_thingBy_131 : decode cX7_thingBy 131 = .ok (.aload_n 0, 1) := by decide +kernel
theorem dX7_thingBy_132 : decode cX7_thingBy 132 = .ok (.getfield 22, 3) := by decide +kernel
theorem dX7_thingBy_135 : decode cX7_thingBy 135 = .ok (.aload_n 0, 1) := by decide +kernel
theorem dX7_thingBy_136 : decode cX7_thingBy 136 = .ok (.getfield 126, 3) := by decide +kernel
theorem dX7_thingBy_139 : decode cX7_thingBy 139 = .ok (.iaload, 1) := by decide +kernel
theorem dX7_thingBy_140 : decode cX7_thingBy 140 = .ok (.aload_n 0, 1) := by decide +kernel
theorem dX7_thingBy_141 : decode cX7_thingBy 141 = .ok (.getfield 123, 3) := by decide +kernel
theorem dX7_thingBy_144 : decode cX7_thingBy 144 = .ok (.if_icmp .ge 7, 3) := by decide +kernel
theorem dX7_thingBy_147 : decode cX7_thingBy 147 = .ok (.iconst 1, 1) := by decide +kernel
theorem dX7_thingBy_148 : decode cX7_thingBy 148 = .ok (.goto 4, 3) := by decide +kernel
theorem dX7_thingBy_151 : decode cX7_thingBy 151 = .ok (.iconst 2, 1) := by decide +kernel
theorem dX7_thingBy_152 : decode cX7_thingBy 152 = .ok (.ireturn, 1) := by decide +kernel
theorem pThing_3 {pl : Int → Int} {man : Int} {p : Nat} (h : pl p = man) : pThing pl man (some p) = 3 := if_pos h
theorem pThing_1 {pl : Int → Int} {man : Int} {p : Nat} (h : pl p ≠ man) (h2 : pl p < man) : pThing pl man (some p) = 1 := (if_neg h).trans (if_pos h2)
theorem pThing_2 {pl : Int → Int} {man : Int} {p : Nat} (h : pl p ≠ man) (h2 : man ≤ pl p) : pThing pl man (some p) = 2 := (if_neg h).trans (if_neg (by omega))
theorem l_X7_tb102 {d : List Nat} {T : vT} {N : vM} {n : Nat} {g : Option Nat} {rule : Int} {P : Int → vT → vM → Prop} (hB : vB T) (hn : n ≤ 6) (hg : N 200 13 = pOr (-6) g) (hgn : ∀ k, g = some k → k < n) (hP : P (pThing (N 211) (N 200 12) g) T N) : vV m_X7_thingBy d d (vPi P) 102 [some (vR 200), some (vI rule)] [] d T N := by
  cases g with
  | none =>
    rw [pOr_n] at hg
    refine vV.aload_n dX7_thingBy_102 rfl ?_
    refine vV.geti (z := 13) dX7_thingBy_103 fl_X7_126 (by first | rfl | assumption) rfl rfl ?_
    refine vV.if_ge (tgt := 111) dX7_thingBy_106 (by decide) (fun h106 => ?_) (fun h106 => ?_)
    · skip
      omega
    · skip
      refine vV.iconst dX7_thingBy_109 (by decide) ?_
      refine vV.ri dX7_thingBy_110 rfl ?_
      exact hP
  | some p =>
    have hp := hgn p rfl
    rw [pOr_s] at hg
    refine vV.aload_n dX7_thingBy_102 rfl ?_
    refine vV.geti (z := 13) dX7_thingBy_103 fl_X7_126 (by first | rfl | assumption) rfl rfl ?_
    refine vV.if_ge (tgt := 111) dX7_thingBy_106 (by decide) (fun h106 => ?_) (fun h106 => ?_)
    · skip
      refine vV.aload_n dX7_thingBy_111 rfl ?_
      refine vV.getr dX7_thingBy_112 fl_X7_22 (by first | rfl | assumption) rfl (by first | assumption | exact hB _ _ _ rfl) ?_
      refine vV.aload_n dX7_thingBy_115 rfl ?_
      refine vV.geti (z := 13) dX7_thingBy_116 fl_X7_126 (by first | rfl | assumption) rfl rfl ?_
      rw [hg]
      refine vV.iald dX7_thingBy_119 (by first | rfl | assumption) (by omega) (by omega) ?_
      refine vV.aload_n dX7_thingBy_120 rfl ?_
      refine vV.geti (z := 12) dX7_thingBy_121 fl_X7_123 (by first | rfl | assumption) rfl rfl ?_
      refine vV.icmp_ne (tgt := 131) dX7_thingBy_124 (by decide) (fun h124 => ?_) (fun h124 => ?_)
      · skip
        refine vV.aload_n dX7_thingBy_131 rfl ?_
        refine vV.getr dX7_thingBy_132 fl_X7_22 (by first | rfl | assumption) rfl (by first | assumption | exact hB _ _ _ rfl) ?_
        refine vV.aload_n dX7_thingBy_135 rfl ?_
        refine vV.geti (z := 13) dX7_thingBy_136 fl_X7_126 (by first | rfl | assumption) rfl rfl ?_
        rw [hg]
        refine vV.iald dX7_thingBy_139 (by first | rfl | assumption) (by omega) (by omega) ?_
        refine vV.aload_n dX7_thingBy_140 rfl ?_
        refine vV.geti (z := 12) dX7_thingBy_141 fl_X7_123 (by first | rfl | assumption) rfl rfl ?_
        refine vV.icmp_ge (tgt := 151) dX7_thingBy_144 (by decide) (fun h144 => ?_) (fun h144 => ?_)
        · skip
          refine vV.iconst dX7_thingBy_151 (by decide) ?_
          refine vV.ri dX7_thingBy_152 rfl ?_
          first | (rw [pThing_3 h124] at hP; exact hP) | (rw [pThing_1 h124 h144] at hP; exact hP) | (rw [pThing_2 h124 h144] at hP; exact hP)
        · skip
          refine vV.iconst dX7_thingBy_147 (by decide) ?_
          refine vV.goto (tgt := 152) dX7_thingBy_148 (by decide) ?_
          refine vV.ri dX7_thingBy_152 rfl ?_
          first | (rw [pThing_3 h124] at hP; exact hP) | (rw [pThing_1 h124 h144] at hP; exact hP) | (rw [pThing_2 h124 h144] at hP; exact hP)
      · skip
        refine vV.iconst dX7_thingBy_127 (by decide) ?_
        refine vV.goto (tgt := 152) dX7_thingBy_128 (by decide) ?_
        refine vV.ri dX7_thingBy_152 rfl ?_
        first | (rw [pThing_3 h124] at hP; exact hP) | (rw [pThing_1 h124 h144] at hP; exact hP) | (rw [pThing_2 h124 h144] at hP; exact hP)
    · skip
      omega
theorem l_X7_tb77 {d : List Nat} {T : vT} {N : vM} {n : Nat} {l tk : Option Nat} {rule : Int} (hB : vB T) (hn : n ≤ 6) (hl : N 200 15 = pOr (-6) l) (htk : ∀ k, tk = some k → k < n) : vV m_X7_thingBy d d (vPi fun r T1 M1 => T = T1 ∧ r = pThing (N 211) (N 200 12) tk ∧ mSame [200] N M1 ∧ mSlot [13, 15] N M1 ∧ M1 200 13 = pOr (-6) tk ∧ M1 200 15 = pOr (-6) (tk.or l)) 77 [some (vR 200), some (vI rule)] [vI (pOr (-6) tk), vR 200] d T N := by
  have e211 : ∀ y z, vUpd (vUpd N 200 13 y) 200 15 z 211 = N 211 := fun y z => by funext j; rw [vUpd_nk (by decide), vUpd_nk (by decide)]
  have e12 : ∀ y z, vUpd (vUpd N 200 13 y) 200 15 z 200 12 = N 200 12 := fun y z => by rw [vUpd_ni (by decide), vUpd_ni (by decide)]
  have e13 : ∀ y z, vUpd (vUpd N 200 13 y) 200 15 z 200 13 = y := fun y z => by rw [vUpd_ni (by decide), vUpd_s]
  have hsm : ∀ y z, mSame [200] N (vUpd (vUpd N 200 13 y) 200 15 z) := fun y z k hk => by simp at hk; funext j; rw [vUpd_nk hk, vUpd_nk hk]
  have hsl : ∀ y z, mSlot [13, 15] N (vUpd (vUpd N 200 13 y) 200 15 z) := fun y z j hj => by simp at hj; rw [vUpd_ni hj.2, vUpd_ni hj.1]
  cases tk with
  | none =>
    rw [pOr_n]
    refine vV.puti (z := 13) dX7_thingBy_77 fl_X7_126 (by first | rfl | assumption) rfl rfl ?_
    refine vV.aload_n dX7_thingBy_80 rfl ?_
    refine vV.aload_n dX7_thingBy_81 rfl ?_
    refine vV.geti (z := 13) dX7_thingBy_82 fl_X7_126 (by first | rfl | assumption) rfl rfl ?_
    try simp (decide := true) only [vUpd_s, vUpd_nk, vUpd_ni, vRow_s, vRow_n, fSet_s, fSet_n, ne_eq, not_false_eq_true]
    refine vV.if_lt (tgt := 95) dX7_thingBy_85 (by decide) (fun h85 => ?_) (fun h85 => ?_)
    · skip
      refine vV.aload_n dX7_thingBy_95 rfl ?_
      refine vV.geti (z := 15) dX7_thingBy_96 fl_X7_132 (by first | rfl | assumption) rfl rfl ?_
      try simp (decide := true) only [vUpd_s, vUpd_nk, vUpd_ni, vRow_s, vRow_n, fSet_s, fSet_n, ne_eq, not_false_eq_true]
      rw [hl]
      refine vV.puti (z := 15) dX7_thingBy_99 fl_X7_132 (by first | rfl | assumption) rfl rfl ?_
      exact l_X7_tb102 (g := none) hB hn (by rw [e13]; rfl) (fun _ h => nomatch h) ⟨rfl, by rw [e211, e12], hsm _ _, hsl _ _, e13 _ _, by rw [vUpd_s]; rfl⟩
    · skip
      omega
  | some p =>
    rw [pOr_s]
    refine vV.puti (z := 13) dX7_thingBy_77 fl_X7_126 (by first | rfl | assumption) rfl rfl ?_
    refine vV.aload_n dX7_thingBy_80 rfl ?_
    refine vV.aload_n dX7_thingBy_81 rfl ?_
    refine vV.geti (z := 13) dX7_thingBy_82 fl_X7_126 (by first | rfl | assumption) rfl rfl ?_
    try simp (decide := true) only [vUpd_s, vUpd_nk, vUpd_ni, vRow_s, vRow_n, fSet_s, fSet_n, ne_eq, not_false_eq_true]
    refine vV.if_lt (tgt := 95) dX7_thingBy_85 (by decide) (fun h85 => ?_) (fun h85 => ?_)
    · skip
      omega
    · skip
      refine vV.aload_n dX7_thingBy_88 rfl ?_
      refine vV.geti (z := 13) dX7_thingBy_89 fl_X7_126 (by first | rfl | assumption) rfl rfl ?_
      try simp (decide := true) only [vUpd_s, vUpd_nk, vUpd_ni, vRow_s, vRow_n, fSet_s, fSet_n, ne_eq, not_false_eq_true]
      refine vV.goto (tgt := 99) dX7_thingBy_92 (by decide) ?_
      refine vV.puti (z := 15) dX7_thingBy_99 fl_X7_132 (by first | rfl | assumption) rfl rfl ?_
      exact l_X7_tb102 (g := some p) hB hn (by rw [e13]; rfl) htk ⟨rfl, by rw [e211, e12], hsm _ _, hsl _ _, e13 _ _, by rw [vUpd_s]; rfl⟩
/-- behind thingBy: the goal is g1, the last one l1 -/
def mTb (M M1 : vM) (w1 : Int) (g1 l1 : Option Nat) : Prop := mSame [200] M M1 ∧ mSlot [13, 14, 15] M M1 ∧ M1 200 13 = pOr (-6) g1 ∧ M1 200 14 = w1 ∧ M1 200 15 = pOr (-6) l1
theorem mS_tb {M M1 : vM} {n t : Nat} {g l g1 l1 : Option Nat} {w1 : Int} (hS : mS M n t g l) (h : mTb M M1 w1 g1 l1) (hw : 0 ≤ w1 ∧ w1 < M 200 7) (hg : ∀ k, g1 = some k → k < n) (hl : ∀ k, l1 = some k → k < n) : mS M1 n t g1 l1 := by
  obtain ⟨s1, s2, s3, s4, s5, s6, s7, s8, s9, s10, s11, s12, s13, s14, s15, s16⟩ := hS
  obtain ⟨t1, t2, t3, t4, t5⟩ := h
  exact ⟨by rw [t2 4 (by decide)]; exact s1, s2, by rw [t1 212 (by decide)]; exact s3, by rw [t1 211 (by decide)]; exact s4, by rw [t1 202 (by decide)]; exact s5, by rw [t1 203 (by decide)]; exact s6, by rw [t1 211 (by decide)]; exact s7, t3, hg, t5, hl, by rw [t4, t2 7 (by decide)]; exact hw, by rw [t2 7 (by decide)]; exact s13, by rw [t2 6 (by decide)]; exact s14, by rw [t2 12 (by decide)]; exact s15, by rw [t2 16 (by decide)]; exact s16⟩
theorem mL_tb {M M1 : vM} {n t : Nat} {hist : Nat → Int → Int} (hL : mL M n t hist) (h : M1 218 = M 218) : mL M1 n t hist := ⟨fun i hi => by rw [h]; exact hL.1 i hi, hL.2⟩
/-- a goal is taken, from N, where he has none -/
theorem l_X7_tb37 {d : List Nat} {T : vT} {N : vM} {n t lag : Nat} {l : Option Nat} {hist : Nat → Int → Int} {rule : Int} (hB : vB T) (hS : mS N n t none l) (hL : mL N n t hist) (ht : t ≤ 600) (hlag : N 200 8 = lag) (hl3 : lag ≤ 3) (hf1 : ∀ j : Nat, j < n → 1 ≤ N 203 j) (hr0 : 0 ≤ rule) (hr3 : rule ≤ 3) :
    vV m_X7_thingBy d d (vPi fun r T1 M1 => T = T1 ∧ r = pThing (N 211) (N 200 12) (pTake rule n (N 211) (N 203) (N 212) (hist (t - lag)) (N 200 12) l) ∧ mSame [200] N M1 ∧ mSlot [13, 15] N M1 ∧ M1 200 13 = pOr (-6) (pTake rule n (N 211) (N 203) (N 212) (hist (t - lag)) (N 200 12) l) ∧ M1 200 15 = pOr (-6) ((pTake rule n (N 211) (N 203) (N 212) (hist (t - lag)) (N 200 12) l).or l)) 37 [some (vR 200), some (vI rule)] [] d T N := by
  have hS2 := hS
  obtain ⟨s1, s2, s3, s4, s5, s6, s7, s8, s9, s10, s11, s12, s13, s14, s15, s16⟩ := hS2
  have h77 := l_X7_tb77 (d := d) (rule := rule) hB s2 s10 (fun k hk => pTake_lt (rule := rule) (n := n) (pl := N 211) (fa := N 203) (tu := N 212) (f := hist (t - lag)) (man := N 200 12) (l := l) hk)
  obtain ⟨tk, htk⟩ : ∃ tk, tk = pTake rule n (N 211) (N 203) (N 212) (hist (t - lag)) (N 200 12) l := ⟨_, rfl⟩
  rw [← htk] at h77 ⊢
  refine vV.aload_n dX7_thingBy_37 rfl ?_
  refine vV.iload_n dX7_thingBy_38 rfl ?_
  refine vV.if_ne (tgt := 49) dX7_thingBy_39 (by decide) (fun h39 => ?_) (fun h39 => ?_)
  · skip
    refine vV.iload_n dX7_thingBy_49 rfl ?_
    refine vV.iconst dX7_thingBy_50 (by decide) ?_
    refine vV.icmp_ne (tgt := 61) dX7_thingBy_51 (by decide) (fun h51 => ?_) (fun h51 => ?_)
    · skip
      refine vV.iload_n dX7_thingBy_61 rfl ?_
      refine vV.iconst dX7_thingBy_62 (by decide) ?_
      refine vV.icmp_ne (tgt := 73) dX7_thingBy_63 (by decide) (fun h63 => ?_) (fun h63 => ?_)
      · skip
        refine vV.aload_n dX7_thingBy_73 rfl ?_
        refine vV.cVi dX7_thingBy_74 ml_X7_168 cw_X7_left iw_X7_left (by first | rfl | assumption) rfl (by unfold vRoom; decide) (c_X7_left hB hS hL ht hlag hl3 hf1) rfl rfl (Nat.le_of_ble_eq_true rfl) ?_
        rintro x74 _ _ hx74 ⟨hxe, rfl, rfl⟩
        rw [show x74 = pOr (-6) tk from by rw [hxe, htk]; unfold pTake; rw [if_neg h39, if_neg h51, if_neg h63]]
        exact h77
      · skip
        refine vV.aload_n dX7_thingBy_66 rfl ?_
        refine vV.cVi dX7_thingBy_67 ml_X7_165 cw_X7_following iw_X7_following (by first | rfl | assumption) rfl (by unfold vRoom; decide) (c_X7_following hB s1 s2 s10 s11) rfl rfl (Nat.le_of_ble_eq_true rfl) ?_
        rintro x67 _ _ hx67 ⟨hxe, rfl, rfl⟩
        rw [show x67 = pOr (-6) tk from by rw [hxe, htk]; unfold pTake; rw [if_neg h39, if_neg h51, if_pos h63]]
        refine vV.goto (tgt := 77) dX7_thingBy_70 (by decide) ?_
        exact h77
    · skip
      refine vV.aload_n dX7_thingBy_54 rfl ?_
      refine vV.cVi dX7_thingBy_55 ml_X7_162 cw_X7_near iw_X7_near (by first | rfl | assumption) rfl (by unfold vRoom; decide) (c_X7_near hB hS hL ht hlag hl3) rfl rfl (Nat.le_of_ble_eq_true rfl) ?_
      rintro x55 _ _ hx55 ⟨hxe, rfl, rfl⟩
      rw [show x55 = pOr (-6) tk from by rw [hxe, htk]; unfold pTake; rw [if_neg h39, if_pos h51]]
      refine vV.goto (tgt := 77) dX7_thingBy_58 (by decide) ?_
      exact h77
  · skip
    refine vV.aload_n dX7_thingBy_42 rfl ?_
    refine vV.cVi dX7_thingBy_43 ml_X7_159 cw_X7_worst iw_X7_worst (by first | rfl | assumption) rfl (by unfold vRoom; decide) (c_X7_worst hB hS hL ht hlag hl3) rfl rfl (Nat.le_of_ble_eq_true rfl) ?_
    rintro x43 _ _ hx43 ⟨hxe, rfl, rfl⟩
    rw [show x43 = pOr (-6) tk from by rw [hxe, htk]; unfold pTake; rw [if_pos h39]; rfl]
    refine vV.goto (tgt := 77) dX7_thingBy_46 (by decide) ?_
    exact h77
/-- thingBy -/
theorem c_X7_thingBy {d : List Nat} {T : vT} {M : vM} {n t lag : Nat} {g l : Option Nat} {hist : Nat → Int → Int} {rule : Int} (hB : vB T) (hS : mS M n t g l) (hL : mL M n t hist) (ht : t ≤ 600) (hlag : M 200 8 = lag) (hl3 : lag ≤ 3) (hf1 : ∀ j : Nat, j < n → 1 ≤ M 203 j) (hr0 : 0 ≤ rule) (hr3 : rule ≤ 3) :
    vCon m_X7_thingBy d d [vR 200, vI rule] T M (vPi fun r T1 M1 => T = T1 ∧ r = pThing (M 211) (M 200 12) (pG1 rule n (M 211) (M 203) (M 212) (hist (t - lag)) (M 200 12) g l) ∧ mTb M M1 (pW1 (M 212) g (M 200 14)) (pG1 rule n (M 211) (M 203) (M 212) (hist (t - lag)) (M 200 12) g l) (pL1 rule n (M 211) (M 203) (M 212) (hist (t - lag)) (M 200 12) g l)) := by
  have hS2 := hS
  obtain ⟨s1, s2, s3, s4, s5, s6, s7, s8, s9, s10, s11, s12, s13, s14, s15, s16⟩ := hS2
  have key : ∀ N : vM, mSame [200] M N → mSlot [13, 14] M N → N 200 13 = -6 → N 200 14 = 0 → pNeed (M 212) g = true → vV m_X7_thingBy d d (vPi fun r T1 M1 => T = T1 ∧ r = pThing (M 211) (M 200 12) (pG1 rule n (M 211) (M 203) (M 212) (hist (t - lag)) (M 200 12) g l) ∧ mTb M M1 (pW1 (M 212) g (M 200 14)) (pG1 rule n (M 211) (M 203) (M 212) (hist (t - lag)) (M 200 12) g l) (pL1 rule n (M 211) (M 203) (M 212) (hist (t - lag)) (M 200 12) g l)) 37 [some (vR 200), some (vI rule)] [] d T N := by
    intro N n1 n2 n3 n4 hnd
    have e1 : N 211 = M 211 := n1 211 (by decide)
    have e2 : N 212 = M 212 := n1 212 (by decide)
    have e3 : N 203 = M 203 := n1 203 (by decide)
    have e4 : N 200 12 = M 200 12 := n2 12 (by decide)
    have hSN : mS N n t none l := mS_tb hS (w1 := 0) ⟨n1, fun j hj => n2 j (by simp at hj ⊢; omega), n3, n4, by rw [n2 15 (by decide)]; exact s10⟩ (by omega) (fun _ h => nomatch h) s11
    have h := l_X7_tb37 (d := d) (T := T) (N := N) hB hSN (mL_tb hL (n1 218 (by decide))) ht (by rw [n2 8 (by decide)]; exact hlag) hl3 (by rw [e3]; exact hf1) hr0 hr3
    refine h.imp ?_
    rintro r T1 M1 ⟨y, rfl, hy, rfl, rfl, b2, b3, b4, b5⟩
    rw [e1, e2, e3, e4] at b4 b5
    refine ⟨_, rfl, hy, rfl, ?_, ?_, ?_, ?_, ?_, ?_⟩
    · unfold pG1; rw [hnd, e1, e2, e3, e4]; rfl
    · intro k hk; rw [b2 k hk, n1 k hk]
    · intro j hj; simp at hj; rw [b3 j (by simp; omega), n2 j (by simp; omega)]
    · unfold pG1; rw [hnd]; exact b4
    · unfold pW1; rw [hnd, b3 14 (by decide)]; exact n4
    · unfold pL1; rw [hnd]; exact b5
  refine vCon.of (by decide) rfl rfl (Nat.le_of_ble_eq_true rfl) ?_
  cases g with
  | none =>
    rw [pOr_n] at s8
    refine vV.aload_n dX7_thingBy_0 rfl ?_
    refine vV.geti (z := 13) dX7_thingBy_1 fl_X7_126 (by first | rfl | assumption) rfl rfl ?_
    refine vV.if_lt (tgt := 25) dX7_thingBy_4 (by decide) (fun h4 => ?_) (fun h4 => ?_)
    · skip
      refine vV.aload_n dX7_thingBy_25 rfl ?_
      refine vV.geti (z := 13) dX7_thingBy_26 fl_X7_126 (by first | rfl | assumption) rfl rfl ?_
      refine vV.if_ge (tgt := 102) dX7_thingBy_29 (by decide) (fun h29 => ?_) (fun h29 => ?_)
      · skip
        omega
      · skip
        refine vV.aload_n dX7_thingBy_32 rfl ?_
        refine vV.iconst dX7_thingBy_33 (by decide) ?_
        refine vV.puti (z := 14) dX7_thingBy_34 fl_X7_129 (by first | rfl | assumption) rfl rfl ?_
        exact key _ (fun k hk => by simp at hk; funext j; rw [vUpd_nk hk]) (fun j hj => by simp at hj; rw [vUpd_ni hj.2]) (by rw [vUpd_ni (by decide)]; exact s8) (by rw [vUpd_s]) rfl
    · skip
      omega
  | some p =>
    have hp := s9 p rfl
    have b1 := s3 p
    rw [pOr_s] at s8
    refine vV.aload_n dX7_thingBy_0 rfl ?_
    refine vV.geti (z := 13) dX7_thingBy_1 fl_X7_126 (by first | rfl | assumption) rfl rfl ?_
    refine vV.if_lt (tgt := 25) dX7_thingBy_4 (by decide) (fun h4 => ?_) (fun h4 => ?_)
    · skip
      omega
    · skip
      refine vV.aload_n dX7_thingBy_7 rfl ?_
      refine vV.getr dX7_thingBy_8 fl_X7_25 (by first | rfl | assumption) rfl (by first | assumption | exact hB _ _ _ rfl) ?_
      refine vV.aload_n dX7_thingBy_11 rfl ?_
      refine vV.geti (z := 13) dX7_thingBy_12 fl_X7_126 (by first | rfl | assumption) rfl rfl ?_
      rw [s8]
      refine vV.iald dX7_thingBy_15 (by first | rfl | assumption) (by omega) (by omega) ?_
      refine vV.if_ne (tgt := 25) dX7_thingBy_16 (by decide) (fun h16 => ?_) (fun h16 => ?_)
      · skip
        have hnd : pNeed (M 212) (some p) = false := by simp [pNeed, h16]
        refine vV.aload_n dX7_thingBy_25 rfl ?_
        refine vV.geti (z := 13) dX7_thingBy_26 fl_X7_126 (by first | rfl | assumption) rfl rfl ?_
        refine vV.if_ge (tgt := 102) dX7_thingBy_29 (by decide) (fun h29 => ?_) (fun h29 => ?_)
        · skip
          exact l_X7_tb102 (g := some p) hB s2 s8 s9 ⟨rfl, by unfold pG1; rw [hnd]; rfl, fun k hk => rfl, fun j hj => rfl, by unfold pG1; rw [hnd]; exact s8, by unfold pW1; rw [hnd]; rfl, by unfold pL1; rw [hnd]; exact s10⟩
        · skip
          omega
        skip
      · skip
        have hnd : pNeed (M 212) (some p) = true := by simp [pNeed, h16]
        refine vV.aload_n dX7_thingBy_19 rfl ?_
        refine vV.bipush (v := (-6)) dX7_thingBy_20 (by decide) (by decide) ?_
        refine vV.puti (z := 13) dX7_thingBy_22 fl_X7_126 (by first | rfl | assumption) rfl rfl ?_
        refine vV.aload_n dX7_thingBy_25 rfl ?_
        refine vV.geti (z := 13) dX7_thingBy_26 fl_X7_126 (by first | rfl | assumption) rfl rfl ?_
        try simp (decide := true) only [vUpd_s]
        refine vV.if_ge (tgt := 102) dX7_thingBy_29 (by decide) (fun h29 => ?_) (fun h29 => ?_)
        · skip
          omega
        · skip
          refine vV.aload_n dX7_thingBy_32 rfl ?_
          refine vV.iconst dX7_thingBy_33 (by decide) ?_
          refine vV.puti (z := 14) dX7_thingBy_34 fl_X7_129 (by first | rfl | assumption) rfl rfl ?_
          exact key _ (fun k hk => by simp at hk; funext j; rw [vUpd_nk hk, vUpd_nk hk]) (fun j hj => by simp at hj; rw [vUpd_ni hj.2, vUpd_ni hj.1]) (by rw [vUpd_ni (by decide), vUpd_s]) (by rw [vUpd_s]) hnd
end
section
/-! ===== own: the walk by a rule, as numbers ===== -/
/-- his place, the turns, the goal, how long it is wound, the last goal -/
abbrev pS : Type := Int × (Int → Int) × Option Nat × Int × Option Nat
/-- what does not change: n, places, fulls, falls, gives, patience -/
abbrev pP : Type := Nat × (Int → Int) × (Int → Int) × (Int → Int) × Int × Int
/-- the goal is chosen by the rule, seeing f -/
def pCh (rule : Int) (P : pP) (f : Int → Int) (s : pS) : pS := (s.1, s.2.1, pG1 rule P.1 P.2.1 P.2.2.2.1 s.2.1 f s.1 s.2.2.1 s.2.2.2.2, pW1 s.2.1 s.2.2.1 s.2.2.2.1, pL1 rule P.1 P.2.1 P.2.2.2.1 s.2.1 f s.1 s.2.2.1 s.2.2.2.2)
/-- a thing is done -/
def pDo (P : pP) (th : Int) (s : pS) : pS :=
  (pMan s.1 th, pDown P.1 P.2.2.2.1 (pWind P.1 P.2.1 P.2.2.1 s.2.1 s.1 P.2.2.2.2.1 th), (pGo P.2.1 P.2.2.1 (pWind P.1 P.2.1 P.2.2.1 s.2.1 s.1 P.2.2.2.2.1 th) s.1 P.2.2.2.2.2 th s.2.2.1 s.2.2.2.1).1, (pGo P.2.1 P.2.2.1 (pWind P.1 P.2.1 P.2.2.1 s.2.1 s.1 P.2.2.2.2.1 th) s.1 P.2.2.2.2.2 th s.2.2.1 s.2.2.2.1).2, s.2.2.2.2)
def pStep (rule : Int) (P : pP) (f : Int → Int) (s : pS) : pS := pDo P (pThing P.2.1 s.1 (pCh rule P f s).2.2.1) (pCh rule P f s)
/-- all states up to t -/
def pH (rule : Int) (P : pP) (lag : Nat) (s : pS) : Nat → Nat → pS
  | 0 => fun _ => s
  | t + 1 => fun i => if i ≤ t then pH rule P lag s t i else pStep rule P (pH rule P lag s t (t - lag)).2.1 (pH rule P lag s t t)
def pTr (rule : Int) (P : pP) (lag : Nat) (s : pS) (t : Nat) : pS := pH rule P lag s t t
theorem pH_eq (rule : Int) (P : pP) (lag : Nat) (s : pS) : ∀ t i, i ≤ t → pH rule P lag s t i = pTr rule P lag s i
  | 0, i, h => by rw [show i = 0 by omega]; rfl
  | t + 1, i, h => by
    by_cases hi : i ≤ t
    · rw [← pH_eq rule P lag s t i hi]; show (if _ then _ else _) = _; rw [if_pos hi]
    · rw [show i = t + 1 by omega]; rfl
theorem pTr_0 (rule : Int) (P : pP) (lag : Nat) (s : pS) : pTr rule P lag s 0 = s := rfl
theorem pTr_s (rule : Int) (P : pP) (lag : Nat) (s : pS) (t : Nat) : pTr rule P lag s (t + 1) = pStep rule P (pTr rule P lag s (t - lag)).2.1 (pTr rule P lag s t) := by
  show (if _ then _ else _) = _
  rw [if_neg (by omega), pH_eq _ _ _ _ t (t - lag) (by omega), pH_eq _ _ _ _ t t (by omega)]
/-- the thing that a goal asks for can be done -/
theorem pThing_can {n : Nat} {pl tu : Int → Int} {man : Int} {g : Option Nat} (hdis : pDis n pl) (hpl : ∀ j : Nat, 0 ≤ pl j ∧ pl j ≤ 7) (hm : 0 ≤ man ∧ man ≤ 7) (hg : ∀ k, g = some k → k < n ∧ 0 < tu k) : pCan n pl tu man (pThing pl man g) = true := by
  cases g with
  | none => rfl
  | some p =>
    obtain ⟨h1, h2⟩ := hg p rfl
    have := hpl p
    by_cases a : pl p = man
    · rw [pThing_3 a]
      have hat : pAt n pl man = some p := by rw [← a]; exact pAt_of hdis h1
      unfold pCan; rw [hat]; simpa [pStd] using h2
    · by_cases b : pl p < man
      · rw [pThing_1 a b]; unfold pCan; simp; omega
      · rw [pThing_2 a (by omega)]; unfold pCan; simp; omega
theorem pThing_rg (pl : Int → Int) (man : Int) (g : Option Nat) : 0 ≤ pThing pl man g ∧ pThing pl man g ≤ 3 := by
  cases g with
  | none => show (0 : Int) ≤ 0 ∧ (0 : Int) ≤ 3; decide
  | some p => unfold pThing; simp only; split <;> (try split) <;> omega
/-- a goal that is taken stands -/
theorem pMin_S {S : Nat → Bool} {v : Nat → Int} : ∀ {n k : Nat}, pMin S v n = some k → S k = true
  | 0, k, h => by cases h
  | n + 1, k, h => by
    rw [pMin_s] at h
    cases hz : pMin S v n with
    | none => rw [hz] at h; simp only at h; split at h; cases h; assumption; cases h
    | some b =>
      have := pMin_S hz
      rw [hz] at h; simp only at h; split at h
      · rename_i hs; cases h; simp at hs; exact hs.1
      · cases h; exact this
theorem pTake_std {rule : Int} {n k : Nat} {pl fa tu f : Int → Int} {man : Int} {l : Option Nat} (h : pTake rule n pl fa tu f man l = some k) : 0 < tu k := by
  unfold pTake at h
  split at h
  · simpa using pMin_S h
  · split at h
    · unfold pNear at h
      cases hz : pMin (fun j => decide (0 < tu j) && decide (pSeen pl tu f man j ≤ 5)) (pFar pl man) n with
      | none => rw [hz] at h; simpa using pMin_S (show pMin _ _ n = some k from h)
      | some b => rw [hz] at h; cases h; have := pMin_S hz; simp at this; exact this.1
    · split at h
      · unfold pNext at h
        cases hz : pFind (fun k => decide (0 < tu (pIdx n l k))) n with
        | none => rw [hz] at h; cases h
        | some b => rw [hz] at h; cases h; simpa using (pFind_some hz).2.1
      · simpa using pMin_S h
theorem pG1_std {rule : Int} {n k : Nat} {pl fa tu f : Int → Int} {man : Int} {g l : Option Nat} (ht : ∀ j : Nat, 0 ≤ tu j) (h : pG1 rule n pl fa tu f man g l = some k) : 0 < tu k := by
  unfold pG1 at h
  split at h
  · exact pTake_std h
  · rename_i hn
    subst h
    simp [pNeed] at hn
    have := ht k; omega
/-- the reference's rows hold the state s at tick t -/
def mP (M : vM) (n : Nat) : pP := (n, M 211, M 202, M 203, M 200 6, M 200 7)
def mSt (M : vM) (n t : Nat) (hist : Nat → Int → Int) (s : pS) : Prop := mS M n t s.2.2.1 s.2.2.2.2 ∧ mL M n t hist ∧ M 200 12 = s.1 ∧ M 212 = s.2.1 ∧ M 200 14 = s.2.2.2.1 ∧ hist t = s.2.1 ∧ (∀ j : Nat, j < n → 1 ≤ M 203 j) ∧ (0 ≤ M 200 8 ∧ M 200 8 ≤ 3)
/-- what a walk leaves as it was -/
def mKeep (M M1 : vM) : Prop := mSame [200, 212, 218, 219] M M1 ∧ mSlot [12, 13, 14, 15, 16] M M1
theorem mKeep.rf (M : vM) : mKeep M M := ⟨fun _ _ => rfl, fun _ _ => rfl⟩
theorem mKeep.tr {M M1 M2 : vM} (h1 : mKeep M M1) (h2 : mKeep M1 M2) : mKeep M M2 := ⟨fun k hk => (h2.1 k hk).trans (h1.1 k hk), fun j hj => (h2.2 j hj).trans (h1.2 j hj)⟩
theorem mKeep.P {M M1 : vM} (h : mKeep M M1) (n : Nat) : mP M1 n = mP M n := by
  unfold mP; rw [h.1 211 (by decide), h.1 202 (by decide), h.1 203 (by decide), h.2 6 (by decide), h.2 7 (by decide)]
theorem dX7_goBy_0 : decode cX7_goBy 0 = .ok (.aload_n 0, 1) := by decide +kernel
theorem dX7_goBy_1 : decode cX7_goBy 1 = .ok (.aload_n 0, 1) := by decide +kernel
theorem dX7_goBy_2 : decode cX7_goBy 2 = .ok (.iload_n 1, 1) := by decide +kernel
theorem dX7_goBy_3 : decode cX7_goBy 3 = .ok (.invokevirtual 171, 3) := by decide +kernel
theorem dX7_goBy_6 : decode cX7_goBy 6 = .ok (.invokevirtual 174, 3) := by decide +kernel
theorem dX7_goBy_9 : decode cX7_goBy 9 = .ok (.return_, 1) := by decide +kernel
/-- goBy: a tick by the rule -/
theorem c_X7_goBy {d : List Nat} {T : vT} {M : vM} {n t lag : Nat} {hist : Nat → Int → Int} {s : pS} {rule : Int} (hB : vB T) (hM : mSt M n t hist s) (ht : t < 600) (hlag : M 200 8 = lag) (hr0 : 0 ≤ rule) (hr3 : rule ≤ 3) :
    vCon m_X7_goBy d d [vR 200, vI rule] T M (vPv fun T1 M1 => T = T1 ∧ mKeep M M1 ∧ ∃ hist', (∀ i, i ≤ t → hist' i = hist i) ∧ mSt M1 n (t + 1) hist' (pStep rule (mP M n) (hist (t - lag)) s) ∧ M1 219 = fSet (M 219) (t + 1) (pRest (M1 200 12) (M1 200 13) (M1 200 14) (M1 200 15))) := by
  obtain ⟨hS, hL, m1, m2, m3, m4, m5, m6⟩ := hM
  have hS2 := hS
  obtain ⟨s1, s2, s3, s4, s5, s6, s7, s8, s9, s10, s11, s12, s13, s14, s15, s16⟩ := hS2
  refine vCon.of (by decide) rfl rfl (Nat.le_of_ble_eq_true rfl) ?_
  refine vV.aload_n dX7_goBy_0 rfl ?_
  refine vV.aload_n dX7_goBy_1 rfl ?_
  refine vV.iload_n dX7_goBy_2 rfl ?_
  refine vV.cVi dX7_goBy_3 ml_X7_171 cw_X7_thingBy iw_X7_thingBy (by first | rfl | assumption) rfl (by unfold vRoom; decide) (c_X7_thingBy hB hS hL (by omega) hlag (by omega) m5 hr0 hr3) rfl rfl (Nat.le_of_ble_eq_true rfl) ?_
  rintro th _ N hth ⟨rfl, hthe, htb⟩
  obtain ⟨g1, hg1⟩ : ∃ g1, g1 = pG1 rule n (M 211) (M 203) (M 212) (hist (t - lag)) (M 200 12) s.2.2.1 s.2.2.2.2 := ⟨_, rfl⟩
  obtain ⟨l1, hl1⟩ : ∃ l1, l1 = pL1 rule n (M 211) (M 203) (M 212) (hist (t - lag)) (M 200 12) s.2.2.1 s.2.2.2.2 := ⟨_, rfl⟩
  obtain ⟨w1, hw1⟩ : ∃ w1, w1 = pW1 (M 212) s.2.2.1 (M 200 14) := ⟨_, rfl⟩
  rw [← hg1] at hthe
  rw [← hg1, ← hl1, ← hw1] at htb
  have hw1r : 0 ≤ w1 ∧ w1 < M 200 7 := by rw [hw1]; unfold pW1; split <;> omega
  have hg1n : ∀ k, g1 = some k → k < n := by rw [hg1]; exact pG1_lt s9
  have hl1n : ∀ k, l1 = some k → k < n := by rw [hl1]; exact pL1_lt s11
  have hSN : mS N n t g1 l1 := mS_tb hS htb hw1r hg1n hl1n
  have e1 : N 211 = M 211 := htb.1 211 (by decide)
  have e2 : N 212 = M 212 := htb.1 212 (by decide)
  have e3 : N 203 = M 203 := htb.1 203 (by decide)
  have e4 : N 202 = M 202 := htb.1 202 (by decide)
  have e5 : N 200 12 = M 200 12 := htb.2.1 12 (by decide)
  have e6 : N 200 6 = M 200 6 := htb.2.1 6 (by decide)
  have e7 : N 200 7 = M 200 7 := htb.2.1 7 (by decide)
  have hcan : pCan n (N 211) (N 212) (N 200 12) th = true := by
    rw [hthe, e1, e2, e5]
    exact pThing_can s7 s4 s15 (fun k hk => ⟨hg1n k hk, pG1_std (fun j => (s3 j).1) (hg1.symm.trans hk)⟩)
  have hthr := pThing_rg (M 211) (M 200 12) g1
  refine vV.cVv dX7_goBy_6 ml_X7_174 cw_X7_doThing iw_X7_doThing (by first | rfl | assumption) rfl (by unfold vRoom; decide) (c_X7_doThing hB hSN ht (by omega) (by omega) hcan) rfl rfl (Nat.le_of_ble_eq_true rfl) ?_
  rintro _ M1 ⟨rfl, htk, hS1⟩
  refine vV.rv dX7_goBy_9 rfl ?_
  obtain ⟨t1, t2, t3, t4, t5, t6, t7, t8, t9⟩ := htk
  rw [e1, e2, e4, e5, e6, e7, htb.2.2.2.1] at t5 t6 hS1
  rw [e1, e2, e3, e4, e5, e6] at t3
  rw [e5] at t4
  have hst : pStep rule (mP M n) (hist (t - lag)) s = (M1 200 12, M1 212, (pGo (M 211) (M 202) (pWind n (M 211) (M 202) (M 212) (M 200 12) (M 200 6) th) (M 200 12) (M 200 7) th g1 w1).1, M1 200 14, l1) := by
    rw [t3, t4, t6, hthe, hl1, hw1, hg1]
    unfold pStep pDo pCh mP
    simp only
    rw [← m1, ← m2, ← m3]
  have hk : mKeep M M1 := ⟨fun k hk => by rw [t1 k (by simp at hk ⊢; omega), htb.1 k (by simp at hk ⊢; omega)], fun j hj => by rw [t2 j (by simp at hj ⊢; omega), htb.2.1 j (by simp at hj ⊢; omega)]⟩
  refine ⟨rfl, hk, fun i => if i ≤ t then hist i else M1 212, fun i hi => if_pos hi, ?_, ?_⟩
  · rw [hst]
    refine ⟨hS1, ⟨fun i hi => ?_, fun i j => ?_⟩, rfl, rfl, rfl, if_neg (by omega), by rw [hk.1 203 (by decide)]; exact m5, by rw [hk.2 8 (by decide)]; exact m6⟩
    · rw [t8, htb.1 218 (by decide)]
      by_cases hit : i ≤ t
      · simp only [hit, if_true]; rw [fSet_n (by omega)]; exact hL.1 i hit
      · simp only [hit, if_false]; rw [show (i : Int) = (t : Int) + 1 by omega, fSet_s]
    · by_cases hit : i ≤ t
      · simp only [hit, if_true]; exact hL.2 i j
      · simp only [hit, if_false]; exact hS1.2.2.1 j
  · rw [t9, htb.1 219 (by decide)]
  skip
end
section
/-! ===== own: the reference: lasts, at, round ===== -/
def pRS (s : pS) : Int := pRest s.1 (pOr (-6) s.2.2.1) s.2.2.2.1 (pOr (-6) s.2.2.2.2)
/-- the reference stands at tick t of the walk from s0 -/
def mTj (M : vM) (rule : Int) (P : pP) (lag : Nat) (s0 : pS) (t : Nat) : Prop := mP M P.1 = P ∧ M 200 8 = lag ∧ (∃ hist, (∀ i, i ≤ t → hist i = (pTr rule P lag s0 i).2.1) ∧ mSt M P.1 t hist (pTr rule P lag s0 t)) ∧ ∀ i : Nat, i ≤ t → M 219 i = pRS (pTr rule P lag s0 i)
theorem mTj.S {M : vM} {rule : Int} {P : pP} {lag : Nat} {s0 : pS} {t : Nat} (h : mTj M rule P lag s0 t) : mS M P.1 t (pTr rule P lag s0 t).2.2.1 (pTr rule P lag s0 t).2.2.2.2 := by
  obtain ⟨-, -, ⟨hist, -, h1, -⟩, -⟩ := h; exact h1
theorem mTj.tu {M : vM} {rule : Int} {P : pP} {lag : Nat} {s0 : pS} {t : Nat} (h : mTj M rule P lag s0 t) : M 212 = (pTr rule P lag s0 t).2.1 := by
  obtain ⟨-, -, ⟨hist, -, -, -, -, h1, -⟩, -⟩ := h; exact h1
theorem mTj.man {M : vM} {rule : Int} {P : pP} {lag : Nat} {s0 : pS} {t : Nat} (h : mTj M rule P lag s0 t) : M 200 12 = (pTr rule P lag s0 t).1 := by
  obtain ⟨-, -, ⟨hist, -, -, -, h1, -⟩, -⟩ := h; exact h1
theorem c_X7_goByT {d : List Nat} {T : vT} {M : vM} {rule : Int} {P : pP} {lag : Nat} {s0 : pS} {t : Nat} (hB : vB T) (h : mTj M rule P lag s0 t) (ht : t < 600) (hr0 : 0 ≤ rule) (hr3 : rule ≤ 3) : vCon m_X7_goBy d d [vR 200, vI rule] T M (vPv fun T1 M1 => T = T1 ∧ mKeep M M1 ∧ mTj M1 rule P lag s0 (t + 1)) := by
  obtain ⟨h1, h2, ⟨hist, h3, h4⟩, h5⟩ := h
  have hc := c_X7_goBy (d := d) hB h4 ht h2 hr0 hr3
  intro l D q ρ sz hok hle
  intro p e ha hc1 hk s m args below hf hap hP hK
  obtain ⟨k, o, a1, a2, a3, ⟨⟨r, T1, M1, ρ1, b1, ⟨hr, hT, hk2, hist', c1, c2, c3⟩, b5⟩, b6⟩, a5⟩ := hc l D q ρ sz hok hle p e ha hc1 hk s m args below hf hap hP hK
  refine ⟨k, o, a1, a2, a3, ⟨⟨r, T1, M1, ρ1, b1, ⟨hr, hT, hk2, ?_⟩, b5⟩, b6⟩, a5⟩
  rw [h1, h3 (t - lag) (by omega), ← pTr_s] at c2
  refine ⟨(hk2.P P.1).trans h1, by rw [hk2.2 8 (by decide)]; exact h2, ⟨hist', fun i hi => ?_, c2⟩, fun i hi => ?_⟩
  · by_cases hit : i ≤ t
    · rw [c1 i hit, h3 i hit]
    · rw [show i = t + 1 by omega]; exact c2.2.2.2.2.2.1
  · rw [c3]
    by_cases hit : i ≤ t
    · rw [fSet_n (by omega)]; exact h5 i hit
    · rw [show (i : Int) = (t : Int) + 1 by omega, fSet_s, show i = t + 1 by omega]
      unfold pRS
      rw [← c2.2.2.1, ← c2.1.2.2.2.2.2.2.2.1, ← c2.2.2.2.2.1, ← c2.1.2.2.2.2.2.2.2.2.2.1]
/-- one more has fallen behind tick t + 1 -/
def pFell (rule : Int) (P : pP) (lag : Nat) (s0 : pS) (t : Nat) : Bool := decide (pBits (pTr rule P lag s0 (t + 1)).2.1 P.1 ≠ pBits s0.2.1 P.1)
def pLasts (rule : Int) (P : pP) (lag : Nat) (s0 : pS) : Option Nat := (pFind (pFell rule P lag s0) 600).map (· + 1)
theorem dX7_lastsOf_0 : decode cX7_lastsOf 0 = .ok (.aload_n 0, 1) := by decide +kernel
theorem dX7_lastsOf_1 : decode cX7_lastsOf 1 = .ok (.invokevirtual 212, 3) := by decide +kernel
theorem dX7_lastsOf_4 : decode cX7_lastsOf 4 = .ok (.istore_n 2, 1) := by decide +kernel
theorem dX7_lastsOf_5 : decode cX7_lastsOf 5 = .ok (.aload_n 0, 1) := by decide +kernel
theorem dX7_lastsOf_6 : decode cX7_lastsOf 6 = .ok (.getfield 135, 3) := by decide +kernel
theorem dX7_lastsOf_9 : decode cX7_lastsOf 9 = .ok (.sipush 600, 3) := by decide +kernel
theorem dX7_lastsOf_12 : decode cX7_lastsOf 12 = .ok (.if_icmp .ge 21, 3) := by decide +kernel
theorem dX7_lastsOf_15 : decode cX7_lastsOf 15 = .ok (.aload_n 0, 1) := by decide +kernel
theorem dX7_lastsOf_16 : decode cX7_lastsOf 16 = .ok (.iload_n 1, 1) := by decide +kernel
theorem dX7_lastsOf_17 : decode cX7_lastsOf 17 = .ok (.invokevirtual 226, 3) := by decide +kernel
theorem dX7_lastsOf_20 : decode cX7_lastsOf 20 = .ok (.aload_n 0, 1) := by decide +kernel
theorem dX7_lastsOf_21 : decode cX7_lastsOf 21 = .ok (.invokevirtual 212, 3) := by decide +kernel
theorem dX7_lastsOf_24 : decode cX7_lastsOf 24 = .ok (.iload_n 2, 1) := by decide +kernel
theorem dX7_lastsOf_25 : decode cX7_lastsOf 25 = .ok (.if_icmp .eq (-20), 3) := by decide +kernel
theorem dX7_lastsOf_28 : decode cX7_lastsOf 28 = .ok (.aload_n 0, 1) := by decide +kernel
theorem dX7_lastsOf_29 : decode cX7_lastsOf 29 = .ok (.getfield 135, 3) := by decide +kernel
theorem dX7_lastsOf_32 : decode cX7_lastsOf 32 = .ok (.ireturn, 1) := by decide +kernel
theorem dX7_lastsOf_33 : decode cX7_lastsOf 33 = .ok (.bipush (-6), 2) := by decide +kernel
theorem dX7_lastsOf_35 : decode cX7_lastsOf 35 = .ok (.ireturn, 1) := by decide +kernel
theorem l_X7_lastsOf {d : List Nat} {T : vT} {M : vM} {rule : Int} {P : pP} {lag : Nat} {s0 : pS} (hB : vB T) (hr0 : 0 ≤ rule) (hr3 : rule ≤ 3) : ∀ t, t ≤ 600 → ∀ N, mKeep M N → mTj N rule P lag s0 t → (∀ i, i < t → pFell rule P lag s0 i = false) →
    vV m_X7_lastsOf d d (vPi fun r T1 M1 => T = T1 ∧ mKeep M M1 ∧ r = pOr (-6) (pLasts rule P lag s0) ∧ (pLasts rule P lag s0 = none → mTj M1 rule P lag s0 600)) 5 [some (vR 200), some (vI rule), some (vI (pBits s0.2.1 P.1))] [] d T N := by
  refine vUp ?_
  intro t ht ih N hk hj hf
  have hS := hj.S
  have h16 := hS.2.2.2.2.2.2.2.2.2.2.2.2.2.2.2
  have hnone : t = 600 → pLasts rule P lag s0 = none := fun h => by unfold pLasts; rw [pFind_no (fun j hj' => hf j (by omega))]; rfl
  refine vV.aload_n dX7_lastsOf_5 rfl ?_
  refine vV.geti (z := 16) dX7_lastsOf_6 fl_X7_135 (by first | rfl | assumption) rfl rfl ?_
  refine vV.sipush (v := 600) dX7_lastsOf_9 (by decide) (by decide) ?_
  refine vV.icmp_ge (tgt := 33) dX7_lastsOf_12 (by decide) (fun h12 => ?_) (fun h12 => ?_)
  · skip
    refine vV.bipush (v := (-6)) dX7_lastsOf_33 (by decide) (by decide) ?_
    refine vV.ri dX7_lastsOf_35 rfl ?_
    have h600 : t = 600 := by omega
    exact ⟨rfl, hk, by rw [hnone h600]; rfl, fun _ => by rw [← h600]; exact hj⟩
  · skip
    refine vV.aload_n dX7_lastsOf_15 rfl ?_
    refine vV.iload_n dX7_lastsOf_16 rfl ?_
    refine vV.cVv dX7_lastsOf_17 ml_X7_226 cw_X7_goBy iw_X7_goBy (by first | rfl | assumption) rfl (by unfold vRoom; decide) (c_X7_goByT hB hj (by omega) hr0 hr3) rfl rfl (Nat.le_of_ble_eq_true rfl) ?_
    rintro _ N1 ⟨rfl, hk1, hj1⟩
    have hS1 := hj1.S
    have h161 := hS1.2.2.2.2.2.2.2.2.2.2.2.2.2.2.2
    refine vV.aload_n dX7_lastsOf_20 rfl ?_
    refine vV.cVi dX7_lastsOf_21 ml_X7_212 cw_X7_simStanding iw_X7_simStanding (by first | rfl | assumption) rfl (by unfold vRoom; decide) (c_X7_simStanding hB hS1.1 hS1.2.1) rfl rfl (Nat.le_of_ble_eq_true rfl) ?_
    rintro x21 _ _ hx21 ⟨rfl, rfl, rfl⟩
    rw [hj1.tu]
    refine vV.iload_n dX7_lastsOf_24 rfl ?_
    refine vV.icmp_eq (tgt := 5) dX7_lastsOf_25 (by decide) (fun h25 => ?_) (fun h25 => ?_)
    · skip
      exact ih (by omega) N1 (hk.tr hk1) hj1 (fun i hi => (Nat.lt_succ_iff_lt_or_eq.mp hi).elim (hf i) (fun e => by subst e; simpa [pFell] using h25))
    · skip
      have hfe : pLasts rule P lag s0 = some (t + 1) := by { unfold pLasts; rw [pFind_yes (p := t) (by omega) (by simpa [pFell] using h25) hf]; rfl }
      refine vV.aload_n dX7_lastsOf_28 rfl ?_
      refine vV.geti (z := 16) dX7_lastsOf_29 fl_X7_135 (by first | rfl | assumption) rfl rfl ?_
      refine vV.ri dX7_lastsOf_32 rfl ?_
      exact ⟨rfl, hk.tr hk1, by rw [h161, hfe]; rfl, fun z => by rw [hfe] at z; cases z⟩
theorem c_X7_lastsOf {d : List Nat} {T : vT} {M : vM} {rule : Int} {P : pP} {lag : Nat} {s0 : pS} (hB : vB T) (hr0 : 0 ≤ rule) (hr3 : rule ≤ 3) (hj : mTj M rule P lag s0 0) : vCon m_X7_lastsOf d d [vR 200, vI rule] T M (vPi fun r T1 M1 => T = T1 ∧ mKeep M M1 ∧ r = pOr (-6) (pLasts rule P lag s0) ∧ (pLasts rule P lag s0 = none → mTj M1 rule P lag s0 600)) := by
  have hS := hj.S
  refine vCon.of (by decide) rfl rfl (Nat.le_of_ble_eq_true rfl) ?_
  have h := l_X7_lastsOf (d := d) (M := M) hB hr0 hr3 0 (by omega) M (mKeep.rf M) hj (fun i hi => by omega)
  refine vV.aload_n dX7_lastsOf_0 rfl ?_
  refine vV.cVi dX7_lastsOf_1 ml_X7_212 cw_X7_simStanding iw_X7_simStanding (by first | rfl | assumption) rfl (by unfold vRoom; decide) (c_X7_simStanding hB hS.1 hS.2.1) rfl rfl (Nat.le_of_ble_eq_true rfl) ?_
  rintro x1 _ _ hx1 ⟨rfl, rfl, rfl⟩
  rw [hj.tu, pTr_0]
  refine vV.istore_n (L' := [_, _, _]) dX7_lastsOf_4 (by decide) rfl ?_
  exact h
/-- behind begin the reference stands at tick 0 -/
def mS0 (M : vM) (n : Nat) : pS := (M 200 5, pMix n (M 204) (M 212), none, 0, none)
def mPb (M : vM) (n : Nat) : pP := (n, pMix n (M 201) (M 211), M 202, M 203, M 200 6, M 200 7)
theorem mTj_begin {M M1 : vM} {n lag : Nat} {rule : Int} (hW : mW M n) (hlag : M 200 8 = lag) (h : mBegin M M1 n) : mTj M1 rule (mPb M n) lag (mS0 M n) 0 := by
  have hS := mS_begin hW h
  obtain ⟨hc, ⟨p1, p2, p3, p4, p5, p6, p7, p8, p9, p10, p11, p12, p13, p14⟩, w1, w2⟩ := hW
  obtain ⟨b1, b2, b3, b4, b5, b6, b7, b8, b9, b10, b11⟩ := h
  refine ⟨?_, by rw [b2 8 (by decide)]; exact hlag, ⟨fun _ => M1 212, fun i hi => by rw [show i = 0 by omega, pTr_0, b4]; rfl, hS, ⟨fun i hi => ?_, fun _ j => hS.2.2.1 j⟩, b5, b4, b7, b4, ?_, ?_⟩, fun i hi => ?_⟩
  · unfold mP mPb; rw [b3, b1 202 (by decide), b1 203 (by decide), b2 6 (by decide), b2 7 (by decide)]
  · rw [b10, show (i : Int) = 0 by omega, fSet_s]; rfl
  · rw [b1 203 (by decide)]; exact fun j hj => (p13 j hj).2
  · rw [b2 8 (by decide)]; exact p11
  · rw [b11, show (i : Int) = 0 by omega, fSet_s, show i = 0 by omega, pTr_0]; rfl
theorem dX7_isRule_0 : decode cX7_isRule 0 = .ok (.iload_n 0, 1) := by decide +kernel
theorem dX7_isRule_1 : decode cX7_isRule 1 = .ok (.i2l, 1) := by decide +kernel
theorem dX7_isRule_2 : decode cX7_isRule 2 = .ok (.lconst 0, 1) := by decide +kernel
theorem dX7_isRule_3 : decode cX7_isRule 3 = .ok (.ldc2_w 102, 3) := by decide +kernel
theorem dX7_isRule_6 : decode cX7_isRule 6 = .ok (.invokestatic 92, 3) := by decide +kernel
theorem dX7_isRule_9 : decode cX7_isRule 9 = .ok (.ireturn, 1) := by decide +kernel
theorem c_X7_isRule {d : List Nat} {T : vT} {M : vM} {r : Int} : vCon m_X7_isRule d d [vI r] T M (vPi fun y T1 M1 => y = (if 0 ≤ r ∧ r ≤ 3 then 1 else 0) ∧ T = T1 ∧ M = M1) := by
  refine vCon.of (by decide) rfl rfl (Nat.le_of_ble_eq_true rfl) ?_
  refine vV.iload_n dX7_isRule_0 rfl ?_
  refine vV.i2l dX7_isRule_1 ?_
  refine vV.lconst (v := 0) dX7_isRule_2 (by decide) (by decide) ?_
  refine vV.ldc2 (v := 3) dX7_isRule_3 kl_X7_102 (by decide) (by decide) ?_
  refine vV.cSi dX7_isRule_6 ml_X7_92 cw_X7_in sw_X7_in (by unfold vRoom; decide) c_X7_in rfl rfl (Nat.le_of_ble_eq_true rfl) ?_
  rintro x6 _ _ hx6 ⟨rfl, rfl, rfl⟩
  refine vV.rz dX7_isRule_9 rfl (by unfold pIn; split <;> simp) ?_
  exact ⟨rfl, rfl, rfl⟩
/-- what a walk from what is now leaves as it was -/
def mKeepB (M M1 : vM) : Prop := mSame [200, 211, 212, 218, 219] M M1 ∧ mSlot [12, 13, 14, 15, 16] M M1
theorem mBegin.keep {M M1 : vM} {n : Nat} (h : mBegin M M1 n) : mKeepB M M1 := ⟨h.1, h.2.1⟩
theorem mKeepB.tr {M M1 M2 : vM} (h1 : mKeepB M M1) (h2 : mKeep M1 M2) : mKeepB M M2 := ⟨fun k hk => (h2.1 k (by simp at hk ⊢; omega)).trans (h1.1 k hk), fun j hj => (h2.2 j hj).trans (h1.2 j hj)⟩
theorem mKeepB.rf (M : vM) : mKeepB M M := ⟨fun _ _ => rfl, fun _ _ => rfl⟩
/-- lasts(rule), as a number of what is now -/
def rLasts (rule : Int) (P : pP) (lag : Nat) (s0 : pS) (bits : Int) : Int := if ¬ (0 ≤ rule ∧ rule ≤ 3) then -2 else if bits = 0 then -3 else pOr (-6) (pLasts rule P lag s0)
theorem dX7_lasts_0 : decode cX7_lasts 0 = .ok (.iload_n 1, 1) := by decide +kernel
theorem dX7_lasts_1 : decode cX7_lasts 1 = .ok (.invokestatic 229, 3) := by decide +kernel
theorem dX7_lasts_4 : decode cX7_lasts 4 = .ok (.ifCond .ne 6, 3) := by decide +kernel
theorem dX7_lasts_7 : decode cX7_lasts 7 = .ok (.bipush (-2), 2) := by decide +kernel
theorem dX7_lasts_9 : decode cX7_lasts 9 = .ok (.ireturn, 1) := by decide +kernel
theorem dX7_lasts_10 : decode cX7_lasts 10 = .ok (.aload_n 0, 1) := by decide +kernel
theorem dX7_lasts_11 : decode cX7_lasts 11 = .ok (.invokevirtual 186, 3) := by decide +kernel
theorem dX7_lasts_14 : decode cX7_lasts 14 = .ok (.ifCond .ne 6, 3) := by decide +kernel
theorem dX7_lasts_17 : decode cX7_lasts 17 = .ok (.bipush (-3), 2) := by decide +kernel
theorem dX7_lasts_19 : decode cX7_lasts 19 = .ok (.ireturn, 1) := by decide +kernel
theorem dX7_lasts_20 : decode cX7_lasts 20 = .ok (.aload_n 0, 1) := by decide +kernel
theorem dX7_lasts_21 : decode cX7_lasts 21 = .ok (.invokevirtual 177, 3) := by decide +kernel
theorem dX7_lasts_24 : decode cX7_lasts 24 = .ok (.aload_n 0, 1) := by decide +kernel
theorem dX7_lasts_25 : decode cX7_lasts 25 = .ok (.iload_n 1, 1) := by decide +kernel
theorem dX7_lasts_26 : decode cX7_lasts 26 = .ok (.invokevirtual 232, 3) := by decide +kernel
theorem dX7_lasts_29 : decode cX7_lasts 29 = .ok (.ireturn, 1) := by decide +kernel
theorem c_X7_lasts {d : List Nat} {T : vT} {M : vM} {n lag : Nat} {rule : Int} (hB : vB T) (hW : mW M n) (hlag : M 200 8 = lag) : vCon m_X7_lasts d d [vR 200, vI rule] T M (vPi fun r T1 M1 => T = T1 ∧ mKeepB M M1 ∧ r = rLasts rule (mPb M n) lag (mS0 M n) (pBits (M 204) n)) := by
  unfold rLasts
  refine vCon.of (by decide) rfl rfl (Nat.le_of_ble_eq_true rfl) ?_
  refine vV.iload_n dX7_lasts_0 rfl ?_
  refine vV.cSi dX7_lasts_1 ml_X7_229 cw_X7_isRule sw_X7_isRule (by unfold vRoom; decide) c_X7_isRule rfl rfl (Nat.le_of_ble_eq_true rfl) ?_
  rintro x1 _ _ hx1 ⟨hxe, rfl, rfl⟩
  refine vV.if_ne (tgt := 10) dX7_lasts_4 (by decide) (fun h4 => ?_) (fun h4 => ?_)
  · skip
    have hir : 0 ≤ rule ∧ rule ≤ 3 := by { rcases Decidable.em (0 ≤ rule ∧ rule ≤ 3) with z | z; exact z; rw [hxe, if_neg z] at h4; omega }
    refine vV.aload_n dX7_lasts_10 rfl ?_
    refine vV.cVi dX7_lasts_11 ml_X7_186 cw_X7_standing iw_X7_standing (by first | rfl | assumption) rfl (by unfold vRoom; decide) (c_X7_standing hB hW.1 hW.2.1.1) rfl rfl (Nat.le_of_ble_eq_true rfl) ?_
    rintro x11 _ _ hx11 ⟨rfl, rfl, rfl⟩
    refine vV.if_ne (tgt := 20) dX7_lasts_14 (by decide) (fun h14 => ?_) (fun h14 => ?_)
    · skip
      refine vV.aload_n dX7_lasts_20 rfl ?_
      refine vV.cVv dX7_lasts_21 ml_X7_177 cw_X7_begin iw_X7_begin (by first | rfl | assumption) rfl (by unfold vRoom; decide) (c_X7_begin hB hW) rfl rfl (Nat.le_of_ble_eq_true rfl) ?_
      rintro _ N ⟨rfl, hb⟩
      have hj := mTj_begin (rule := rule) hW hlag hb
      refine vV.aload_n dX7_lasts_24 rfl ?_
      refine vV.iload_n dX7_lasts_25 rfl ?_
      refine vV.cVi dX7_lasts_26 ml_X7_232 cw_X7_lastsOf iw_X7_lastsOf (by first | rfl | assumption) rfl (by unfold vRoom; decide) (c_X7_lastsOf hB hir.1 hir.2 hj) rfl rfl (Nat.le_of_ble_eq_true rfl) ?_
      rintro x26 _ M1 hx26 ⟨rfl, hk1, hre, -⟩
      refine vV.ri dX7_lasts_29 rfl ?_
      exact ⟨rfl, hb.keep.tr hk1, by rw [if_neg (fun z => z hir), if_neg h14, hre]⟩
    · skip
      refine vV.bipush (v := (-3)) dX7_lasts_17 (by decide) (by decide) ?_
      refine vV.ri dX7_lasts_19 rfl ?_
      exact ⟨rfl, mKeepB.rf M, by rw [if_neg (fun z => z hir), if_pos h14]⟩
  · skip
    have hnr : ¬ (0 ≤ rule ∧ rule ≤ 3) := by { intro z; rw [hxe, if_pos z] at h4; omega }
    refine vV.bipush (v := (-2)) dX7_lasts_7 (by decide) (by decide) ?_
    refine vV.ri dX7_lasts_9 rfl ?_
    exact ⟨rfl, mKeepB.rf M, by rw [if_pos hnr]⟩
end
section
/-! ===== own: the reference: at, round ===== -/
theorem dX7_at_0 : decode cX7_at 0 = .ok (.iload_n 3, 1) := by decide +kernel
theorem dX7_at_1 : decode cX7_at 1 = .ok (.iconst (-1), 1) := by decide +kernel
theorem dX7_at_2 : decode cX7_at 2 = .ok (.if_icmp .eq 19, 3) := by decide +kernel
theorem dX7_at_5 : decode cX7_at 5 = .ok (.iload_n 3, 1) := by decide +kernel
theorem dX7_at_6 : decode cX7_at 6 = .ok (.bipush (-2), 2) := by decide +kernel
theorem dX7_at_8 : decode cX7_at 8 = .ok (.if_icmp .eq 13, 3) := by decide +kernel
theorem dX7_at_11 : decode cX7_at 11 = .ok (.aload_n 0, 1) := by decide +kernel
theorem dX7_at_12 : decode cX7_at 12 = .ok (.iload_n 3, 1) := by decide +kernel
theorem dX7_at_13 : decode cX7_at 13 = .ok (.invokevirtual 108, 3) := by decide +kernel
theorem dX7_at_16 : decode cX7_at 16 = .ok (.ifCond .ne 5, 3) := by decide +kernel
theorem dX7_at_19 : decode cX7_at 19 = .ok (.iconst (-1), 1) := by decide +kernel
theorem dX7_at_20 : decode cX7_at 20 = .ok (.ireturn, 1) := by decide +kernel
theorem dX7_at_21 : decode cX7_at 21 = .ok (.iload_n 1, 1) := by decide +kernel
theorem dX7_at_22 : decode cX7_at 22 = .ok (.invokestatic 229, 3) := by decide +kernel
theorem dX7_at_25 : decode cX7_at 25 = .ok (.ifCond .eq 15, 3) := by decide +kernel
theorem dX7_at_28 : decode cX7_at 28 = .ok (.iload_n 2, 1) := by decide +kernel
theorem dX7_at_29 : decode cX7_at 29 = .ok (.i2l, 1) := by decide +kernel
theorem dX7_at_30 : decode cX7_at 30 = .ok (.lconst 0, 1) := by decide +kernel
theorem dX7_at_31 : decode cX7_at 31 = .ok (.ldc2_w 235, 3) := by decide +kernel
theorem dX7_at_34 : decode cX7_at 34 = .ok (.invokestatic 92, 3) := by decide +kernel
theorem dX7_at_37 : decode cX7_at 37 = .ok (.ifCond .ne 6, 3) := by decide +kernel
theorem dX7_at_40 : decode cX7_at 40 = .ok (.bipush (-2), 2) := by decide +kernel
theorem dX7_at_42 : decode cX7_at 42 = .ok (.ireturn, 1) := by decide +kernel
theorem dX7_at_43 : decode cX7_at 43 = .ok (.aload_n 0, 1) := by decide +kernel
theorem dX7_at_44 : decode cX7_at 44 = .ok (.invokevirtual 177, 3) := by decide +kernel
theorem dX7_at_47 : decode cX7_at 47 = .ok (.iconst 0, 1) := by decide +kernel
theorem dX7_at_48 : decode cX7_at 48 = .ok (.istore 4, 2) := by decide +kernel
theorem dX7_at_50 : decode cX7_at 50 = .ok (.iload 4, 2) := by decide +kernel
theorem dX7_at_52 : decode cX7_at 52 = .ok (.iload_n 2, 1) := by decide +kernel
theorem dX7_at_53 : decode cX7_at 53 = .ok (.if_icmp .ge 14, 3) := by decide +kernel
theorem dX7_at_56 : decode cX7_at 56 = .ok (.aload_n 0, 1) := by decide +kernel
theorem dX7_at_57 : decode cX7_at 57 = .ok (.iload_n 1, 1) := by decide +kernel
theorem dX7_at_58 : decode cX7_at 58 = .ok (.invokevirtual 226, 3) := by decide +kernel
theorem dX7_at_61 : decode cX7_at 61 = .ok (.iinc 4 1, 3) := by decide +kernel
theorem dX7_at_64 : decode cX7_at 64 = .ok (.goto (-14), 3) := by decide +kernel
theorem dX7_at_67 : decode cX7_at 67 = .ok (.iload_n 3, 1) := by decide +kernel
theorem dX7_at_68 : decode cX7_at 68 = .ok (.iconst (-1), 1) := by decide +kernel
theorem dX7_at_69 : decode cX7_at 69 = .ok (.if_icmp .ne 10, 3) := by decide +kernel
theorem dX7_at_72 : decode cX7_at 72 = .ok (.aload_n 0, 1) := by decide +kernel
theorem dX7_at_73 : decode cX7_at 73 = .ok (.getfield 123, 3) := by decide +kernel
theorem dX7_at_76 : decode cX7_at 76 = .ok (.goto 22, 3) := by decide +kernel
theorem dX7_at_79 : decode cX7_at 79 = .ok (.iload_n 3, 1) := by decide +kernel
theorem dX7_at_80 : decode cX7_at 80 = .ok (.bipush (-2), 2) := by decide +kernel
theorem dX7_at_82 : decode cX7_at 82 = .ok (.if_icmp .ne 10, 3) := by decide +kernel
theorem dX7_at_85 : decode cX7_at 85 = .ok (.aload_n 0, 1) := by decide +kernel
theorem dX7_at_86 : decode cX7_at 86 = .ok (.getfield 126, 3) := by decide +kernel
theorem dX7_at_89 : decode cX7_at 89 = .ok (.goto 9, 3) := by decide +kernel
theorem dX7_at_92 : decode cX7_at 92 = .ok (.aload_n 0, 1) := by decide +kernel
theorem dX7_at_93 : decode cX7_at 93 = .ok (.getfield 25, 3) := by decide +kernel
theorem dX7_at_96 : decode cX7_at 96 = .ok (.iload_n 3, 1) := by decide +kernel
theorem dX7_at_97 : decode cX7_at 97 = .ok (.iaload, 1) := by decide +kernel
theorem dX7_at_98 : decode cX7_at 98 = .ok (.ireturn, 1) := by decide +kernel
def rAt (rule ticks plate : Int) (P : pP) (lag : Nat) (s0 : pS) : Int :=
  if plate ≠ -1 ∧ plate ≠ -2 ∧ ¬ (0 ≤ plate ∧ plate < P.1) then -1 else if ¬ (0 ≤ rule ∧ rule ≤ 3) ∨ ¬ (0 ≤ ticks ∧ ticks ≤ 600) then -2 else
  if plate = -1 then (pTr rule P lag s0 ticks.toNat).1 else if plate = -2 then pOr (-6) (pTr rule P lag s0 ticks.toNat).2.2.1 else (pTr rule P lag s0 ticks.toNat).2.1 plate
theorem l_X7_at {d : List Nat} {T : vT} {M : vM} {rule plate : Int} {P : pP} {lag m : Nat} {s0 : pS} (hB : vB T) (hr0 : 0 ≤ rule) (hr3 : rule ≤ 3) (hm : m ≤ 600) (hpl : plate = -1 ∨ plate = -2 ∨ (0 ≤ plate ∧ plate < P.1)) : ∀ t, t ≤ m → ∀ N, mKeepB M N → mTj N rule P lag s0 t →
    vV m_X7_at d d (vPi fun r T1 M1 => T = T1 ∧ mKeepB M M1 ∧ r = (if plate = -1 then (pTr rule P lag s0 m).1 else if plate = -2 then pOr (-6) (pTr rule P lag s0 m).2.2.1 else (pTr rule P lag s0 m).2.1 plate)) 50 [some (vR 200), some (vI rule), some (vI m), some (vI plate), some (vI t)] [] d T N := by
  refine vUp ?_
  intro t ht ih N hk hj
  have hS := hj.S
  have hn := hS.2.1
  refine vV.iload dX7_at_50 rfl ?_
  refine vV.iload_n dX7_at_52 rfl ?_
  refine vV.icmp_ge (tgt := 67) dX7_at_53 (by decide) (fun h53 => ?_) (fun h53 => ?_)
  · skip
    have htm : t = m := by omega
    subst htm
    refine vV.iload_n dX7_at_67 rfl ?_
    refine vV.iconst dX7_at_68 (by decide) ?_
    refine vV.icmp_ne (tgt := 79) dX7_at_69 (by decide) (fun h69 => ?_) (fun h69 => ?_)
    · skip
      refine vV.iload_n dX7_at_79 rfl ?_
      refine vV.bipush (v := (-2)) dX7_at_80 (by decide) (by decide) ?_
      refine vV.icmp_ne (tgt := 92) dX7_at_82 (by decide) (fun h82 => ?_) (fun h82 => ?_)
      · skip
        refine vV.aload_n dX7_at_92 rfl ?_
        refine vV.getr dX7_at_93 fl_X7_25 (by first | rfl | assumption) rfl (by first | assumption | exact hB _ _ _ rfl) ?_
        refine vV.iload_n dX7_at_96 rfl ?_
        refine vV.iald dX7_at_97 (by first | rfl | assumption) (by omega) (by omega) ?_
        refine vV.ri dX7_at_98 rfl ?_
        exact ⟨rfl, hk, by rw [if_neg h69, if_neg h82, hj.tu]⟩
      · skip
        refine vV.aload_n dX7_at_85 rfl ?_
        refine vV.geti (z := 13) dX7_at_86 fl_X7_126 (by first | rfl | assumption) rfl rfl ?_
        refine vV.goto (tgt := 98) dX7_at_89 (by decide) ?_
        refine vV.ri dX7_at_98 rfl ?_
        exact ⟨rfl, hk, by rw [if_neg h69, if_pos h82]; exact hS.2.2.2.2.2.2.2.1⟩
        skip
    · skip
      refine vV.aload_n dX7_at_72 rfl ?_
      refine vV.geti (z := 12) dX7_at_73 fl_X7_123 (by first | rfl | assumption) rfl rfl ?_
      refine vV.goto (tgt := 98) dX7_at_76 (by decide) ?_
      refine vV.ri dX7_at_98 rfl ?_
      exact ⟨rfl, hk, by rw [if_pos h69]; exact hj.man⟩
      skip
  · skip
    refine vV.aload_n dX7_at_56 rfl ?_
    refine vV.iload_n dX7_at_57 rfl ?_
    refine vV.cVv dX7_at_58 ml_X7_226 cw_X7_goBy iw_X7_goBy (by first | rfl | assumption) rfl (by unfold vRoom; decide) (c_X7_goByT hB hj (by omega) hr0 hr3) rfl rfl (Nat.le_of_ble_eq_true rfl) ?_
    rintro _ N1 ⟨rfl, hk1, hj1⟩
    refine vV.iinc (L' := [_, _, _, _, _]) dX7_at_61 (by decide) rfl (⟨by omega, by omega⟩) rfl ?_
    refine vV.goto (tgt := 50) dX7_at_64 (by decide) ?_
    exact ih (by omega) N1 (hk.tr hk1) hj1
theorem c_X7_at {d : List Nat} {T : vT} {M : vM} {n lag : Nat} {rule ticks plate : Int} (hB : vB T) (hW : mW M n) (hlag : M 200 8 = lag) : vCon m_X7_at d d [vR 200, vI rule, vI ticks, vI plate] T M (vPi fun r T1 M1 => T = T1 ∧ mKeepB M M1 ∧ r = rAt rule ticks plate (mPb M n) lag (mS0 M n)) := by
  unfold rAt
  have hn := hW.2.1.1
  have hPn : ((mPb M n).1 : Int) = (n : Int) := rfl
  refine vCon.of (by decide) rfl rfl (Nat.le_of_ble_eq_true rfl) ?_
  have hgo : (plate = -1 ∨ plate = -2 ∨ (0 ≤ plate ∧ plate < n)) → vV m_X7_at d d (vPi fun r T1 M1 => T = T1 ∧ mKeepB M M1 ∧ r = (if plate ≠ -1 ∧ plate ≠ -2 ∧ ¬ (0 ≤ plate ∧ plate < (mPb M n).1) then -1 else if ¬ (0 ≤ rule ∧ rule ≤ 3) ∨ ¬ (0 ≤ ticks ∧ ticks ≤ 600) then -2 else if plate = -1 then (pTr rule (mPb M n) lag (mS0 M n) ticks.toNat).1 else if plate = -2 then pOr (-6) (pTr rule (mPb M n) lag (mS0 M n) ticks.toNat).2.2.1 else (pTr rule (mPb M n) lag (mS0 M n) ticks.toNat).2.1 plate)) 21 [some (vR 200), some (vI rule), some (vI ticks), some (vI plate), none] [] d T M := by
    intro hpl
    rw [if_neg (by rw [hPn]; omega)]
    refine vV.iload_n dX7_at_21 rfl ?_
    refine vV.cSi dX7_at_22 ml_X7_229 cw_X7_isRule sw_X7_isRule (by unfold vRoom; decide) c_X7_isRule rfl rfl (Nat.le_of_ble_eq_true rfl) ?_
    rintro x22 _ _ hx22 ⟨hxe, rfl, rfl⟩
    refine vV.if_eq (tgt := 40) dX7_at_25 (by decide) (fun h25 => ?_) (fun h25 => ?_)
    · skip
      have hnr : ¬ (0 ≤ rule ∧ rule ≤ 3) := by { intro z; rw [hxe, if_pos z] at h25; omega }
      rw [if_pos (Or.inl hnr)]
      refine vV.bipush (v := (-2)) dX7_at_40 (by decide) (by decide) ?_
      refine vV.ri dX7_at_42 rfl ?_
      exact ⟨rfl, mKeepB.rf M, rfl⟩
    · skip
      have hir : 0 ≤ rule ∧ rule ≤ 3 := by { rcases Decidable.em (0 ≤ rule ∧ rule ≤ 3) with z | z; exact z; rw [hxe, if_neg z] at h25; omega }
      refine vV.iload_n dX7_at_28 rfl ?_
      refine vV.i2l dX7_at_29 ?_
      refine vV.lconst (v := 0) dX7_at_30 (by decide) (by decide) ?_
      refine vV.ldc2 (v := 600) dX7_at_31 kl_X7_235 (by decide) (by decide) ?_
      refine vV.cSi dX7_at_34 ml_X7_92 cw_X7_in sw_X7_in (by unfold vRoom; decide) c_X7_in rfl rfl (Nat.le_of_ble_eq_true rfl) ?_
      rintro x34 _ _ hx34 ⟨rfl, rfl, rfl⟩
      unfold pIn
      refine vV.if_ne (tgt := 43) dX7_at_37 (by decide) (fun h37 => ?_) (fun h37 => ?_)
      · skip
        have hti : 0 ≤ ticks ∧ ticks ≤ 600 := by { rcases Decidable.em (0 ≤ ticks ∧ ticks ≤ 600) with z | z; exact z; rw [if_neg z] at h37; omega }
        rw [if_neg (by omega)]
        refine vV.aload_n dX7_at_43 rfl ?_
        refine vV.cVv dX7_at_44 ml_X7_177 cw_X7_begin iw_X7_begin (by first | rfl | assumption) rfl (by unfold vRoom; decide) (c_X7_begin hB hW) rfl rfl (Nat.le_of_ble_eq_true rfl) ?_
        rintro _ N ⟨rfl, hb⟩
        have hj := mTj_begin (rule := rule) hW hlag hb
        obtain ⟨m, hm⟩ : ∃ m : Nat, (m : Int) = ticks := ⟨ticks.toNat, by omega⟩
        subst hm
        rw [Int.toNat_natCast]
        refine vV.iconst dX7_at_47 (by decide) ?_
        refine vV.istore (L' := [_, _, _, _, _]) dX7_at_48 (by decide) rfl ?_
        exact l_X7_at hB hir.1 hir.2 (by omega) (by rw [hPn]; exact hpl) 0 (by omega) N hb.keep hj
      · skip
        have hti : ¬ (0 ≤ ticks ∧ ticks ≤ 600) := by { intro z; rw [if_pos z] at h37; omega }
        rw [if_pos (Or.inr hti)]
        refine vV.bipush (v := (-2)) dX7_at_40 (by decide) (by decide) ?_
        refine vV.ri dX7_at_42 rfl ?_
        exact ⟨rfl, mKeepB.rf M, rfl⟩
  refine vV.iload_n dX7_at_0 rfl ?_
  refine vV.iconst dX7_at_1 (by decide) ?_
  refine vV.icmp_eq (tgt := 21) dX7_at_2 (by decide) (fun h2 => ?_) (fun h2 => ?_)
  · skip
    exact hgo (by omega)
  · skip
    refine vV.iload_n dX7_at_5 rfl ?_
    refine vV.bipush (v := (-2)) dX7_at_6 (by decide) (by decide) ?_
    refine vV.icmp_eq (tgt := 21) dX7_at_8 (by decide) (fun h8 => ?_) (fun h8 => ?_)
    · skip
      exact hgo (by omega)
    · skip
      refine vV.aload_n dX7_at_11 rfl ?_
      refine vV.iload_n dX7_at_12 rfl ?_
      refine vV.cVi dX7_at_13 ml_X7_108 cw_X7_isPlate iw_X7_isPlate (by first | rfl | assumption) rfl (by unfold vRoom; decide) (c_X7_isPlate hW.1 hn) rfl rfl (Nat.le_of_ble_eq_true rfl) ?_
      rintro x13 _ _ hx13 ⟨hxe, rfl, rfl⟩
      refine vV.if_ne (tgt := 21) dX7_at_16 (by decide) (fun h16 => ?_) (fun h16 => ?_)
      · skip
        have hip : 0 ≤ plate ∧ plate < n := by { rcases Decidable.em (0 ≤ plate ∧ plate < (n : Int)) with z | z; exact z; rw [hxe, if_neg z] at h16; omega }
        exact hgo (by omega)
      · skip
        have hip : ¬ (0 ≤ plate ∧ plate < n) := by { intro z; rw [hxe, if_pos z] at h16; omega }
        refine vV.iconst dX7_at_19 (by decide) ?_
        refine vV.ri dX7_at_20 rfl ?_
        exact ⟨rfl, mKeepB.rf M, by rw [if_pos (by rw [hPn]; exact ⟨h2, h8, hip⟩)]⟩
theorem dX7_isAs_0 : decode cX7_isAs 0 = .ok (.aload_n 0, 1) := by decide +kernel
theorem dX7_isAs_1 : decode cX7_isAs 1 = .ok (.getfield 31, 3) := by decide +kernel
theorem dX7_isAs_4 : decode cX7_isAs 4 = .ok (.iload_n 1, 1) := by decide +kernel
theorem dX7_isAs_5 : decode cX7_isAs 5 = .ok (.iaload, 1) := by decide +kernel
theorem dX7_isAs_6 : decode cX7_isAs 6 = .ok (.aload_n 0, 1) := by decide +kernel
theorem dX7_isAs_7 : decode cX7_isAs 7 = .ok (.getfield 31, 3) := by decide +kernel
theorem dX7_isAs_10 : decode cX7_isAs 10 = .ok (.iload_n 2, 1) := by decide +kernel
theorem dX7_isAs_11 : decode cX7_isAs 11 = .ok (.iaload, 1) := by decide +kernel
theorem dX7_isAs_12 : decode cX7_isAs 12 = .ok (.if_icmp .ne 7, 3) := by decide +kernel
theorem dX7_isAs_15 : decode cX7_isAs 15 = .ok (.iconst 1, 1) := by decide +kernel
theorem dX7_isAs_16 : decode cX7_isAs 16 = .ok (.goto 4, 3) := by decide +kernel
theorem dX7_isAs_19 : decode cX7_isAs 19 = .ok (.iconst 0, 1) := by decide +kernel
theorem dX7_isAs_20 : decode cX7_isAs 20 = .ok (.istore_n 3, 1) := by decide +kernel
theorem dX7_isAs_21 : decode cX7_isAs 21 = .ok (.iconst 0, 1) := by decide +kernel
theorem dX7_isAs_22 : decode cX7_isAs 22 = .ok (.istore 4, 2) := by decide +kernel
theorem dX7_isAs_24 : decode cX7_isAs 24 = .ok (.iload 4, 2) := by decide +kernel
theorem dX7_isAs_26 : decode cX7_isAs 26 = .ok (.aload_n 0, 1) := by decide +kernel
theorem dX7_isAs_27 : decode cX7_isAs 27 = .ok (.getfield 120, 3) := by decide +kernel
theorem dX7_isAs_30 : decode cX7_isAs 30 = .ok (.if_icmp .gt 60, 3) := by decide +kernel
theorem dX7_isAs_33 : decode cX7_isAs 33 = .ok (.iload_n 3, 1) := by decide +kernel
theorem dX7_isAs_34 : decode cX7_isAs 34 = .ok (.ifCond .eq 56, 3) := by decide +kernel
theorem dX7_isAs_37 : decode cX7_isAs 37 = .ok (.aload_n 0, 1) := by decide +kernel
theorem dX7_isAs_38 : decode cX7_isAs 38 = .ok (.getfield 28, 3) := by decide +kernel
theorem dX7_isAs_41 : decode cX7_isAs 41 = .ok (.iload_n 1, 1) := by decide +kernel
theorem dX7_isAs_42 : decode cX7_isAs 42 = .ok (.iload 4, 2) := by decide +kernel
theorem dX7_isAs_44 : decode cX7_isAs 44 = .ok (.if_icmp .ge 7, 3) := by decide +kernel
theorem dX7_isAs_47 : decode cX7_isAs 47 = .ok (.iconst 0, 1) := by decide +kernel
theorem dX7_isAs_48 : decode cX7_isAs 48 = .ok (.goto 7, 3) := by decide +kernel
theorem dX7_isAs_51 : decode cX7_isAs 51 = .ok (.iload_n 1, 1) := by decide +kernel
theorem dX7_isAs_52 : decode cX7_isAs 52 = .ok (.iload 4, 2) := by decide +kernel
theorem dX7_isAs_54 : decode cX7_isAs 54 = .ok (.isub, 1) := by decide +kernel
theorem dX7_isAs_55 : decode cX7_isAs 55 = .ok (.iaload, 1) := by decide +kernel
theorem dX7_isAs_56 : decode cX7_isAs 56 = .ok (.aload_n 0, 1) := by decide +kernel
theorem dX7_isAs_57 : decode cX7_isAs 57 = .ok (.getfield 28, 3) := by decide +kernel
theorem dX7_isAs_60 : decode cX7_isAs 60 = .ok (.iload_n 2, 1) := by decide +kernel
theorem dX7_isAs_61 : decode cX7_isAs 61 = .ok (.iload 4, 2) := by decide +kernel
theorem dX7_isAs_63 : decode cX7_isAs 63 = .ok (.if_icmp .ge 7, 3) := by decide +kernel
theorem dX7_isAs_66 : decode cX7_isAs 66 = .ok (.iconst 0, 1) := by decide +kernel
theorem dX7_isAs_67 : decode cX7_isAs 67 = .ok (.goto 7, 3) := by decide +kernel
theorem dX7_isAs_70 : decode cX7_isAs 70 = .ok (.iload_n 2, 1) := by decide +kernel
theorem dX7_isAs_71 : decode cX7_isAs 71 = .ok (.iload 4, 2) := by decide +kernel
theorem dX7_isAs_73 : decode cX7_isAs 73 = .ok (.isub, 1) := by decide +kernel
theorem dX7_isAs_74 : decode cX7_isAs 74 = .ok (.iaload, 1) := by decide +kernel
theorem dX7_isAs_75 : decode cX7_isAs 75 = .ok (.if_icmp .ne 7, 3) := by decide +kernel
theorem dX7_isAs_78 : decode cX7_isAs 78 = .ok (.iconst 1, 1) := by decide +kernel
theorem dX7_isAs_79 : decode cX7_isAs 79 = .ok (.goto 4, 3) := by decide +kernel
theorem dX7_isAs_82 : decode cX7_isAs 82 = .ok (.iconst 0, 1) := by decide +kernel
theorem dX7_isAs_83 : decode cX7_isAs 83 = .ok (.istore_n 3, 1) := by decide +kernel
theorem dX7_isAs_84 : decode cX7_isAs 84 = .ok (.iinc 4 1, 3) := by decide +kernel
theorem dX7_isAs_87 : decode cX7_isAs 87 = .ok (.goto (-63), 3) := by decide +kernel
theorem dX7_isAs_90 : decode cX7_isAs 90 = .ok (.iload_n 3, 1) := by decide +kernel
theorem dX7_isAs_91 : decode cX7_isAs 91 = .ok (.ireturn, 1) := by decide +kernel
def pAll (rule : Int) (P : pP) (lag : Nat) (s0 : pS) (a b : Nat) : Nat → Bool
  | 0 => true
  | k + 1 => pAll rule P lag s0 a b k && decide (pPack (pTr rule P lag s0 (a - k)).2.1 P.1 = pPack (pTr rule P lag s0 (b - k)).2.1 P.1)
theorem pAll_mono {rule : Int} {P : pP} {lag : Nat} {s0 : pS} {a b k : Nat} : ∀ {m}, k ≤ m → pAll rule P lag s0 a b k = false → pAll rule P lag s0 a b m = false
  | 0, h, hf => by rw [show k = 0 by omega] at hf; cases hf
  | m + 1, h, hf => by
    by_cases hk : k ≤ m
    · unfold pAll; rw [pAll_mono hk hf]; rfl
    · rw [show m + 1 = k by omega]; exact hf
/-- all is at tick a as at tick b -/
def pAs (rule : Int) (P : pP) (lag : Nat) (s0 : pS) (a b : Nat) : Bool := decide (pRS (pTr rule P lag s0 a) = pRS (pTr rule P lag s0 b)) && pAll rule P lag s0 a b (lag + 1)
theorem mTj.log {M : vM} {rule : Int} {P : pP} {lag : Nat} {s0 : pS} {t i : Nat} (h : mTj M rule P lag s0 t) (hi : i ≤ t) : M 218 i = pPack (pTr rule P lag s0 i).2.1 P.1 := by
  obtain ⟨-, -, ⟨hist, h1, -, h2, -⟩, -⟩ := h
  rw [h2.1 i hi, h1 i hi]
theorem l_X7_isAs {d : List Nat} {T : vT} {M : vM} {rule : Int} {P : pP} {lag a b : Nat} {s0 : pS} (hB : vB T) (hj : mTj M rule P lag s0 600) (ha : a ≤ 600) (hb : b ≤ 600) (hl3 : lag ≤ 3) (e : Bool) : ∀ k, k ≤ lag + 1 →
    vV m_X7_isAs d d (vPi fun r T1 M1 => r = bI (e && pAll rule P lag s0 a b (lag + 1)) ∧ T = T1 ∧ M = M1) 24 [some (vR 200), some (vI a), some (vI b), some (vI (bI (e && pAll rule P lag s0 a b k))), some (vI k)] [] d T M := by
  have hlag := hj.2.1
  refine vUp ?_
  intro k hk ih
  have h01 := bI_01 (e && pAll rule P lag s0 a b k)
  have hL1 := hj.log (i := a - k) (by omega)
  have hL2 := hj.log (i := b - k) (by omega)
  have hfe : k ≤ lag → (e && pAll rule P lag s0 a b k) = false → bI (e && pAll rule P lag s0 a b (lag + 1)) = 0 := by
    intro h1 h2
    cases he : e with
    | false => rfl
    | true => rw [he] at h2; simp at h2; rw [pAll_mono (show k ≤ lag + 1 by omega) h2]; rfl
  have hnx : (e && pAll rule P lag s0 a b k) = true → bI (e && pAll rule P lag s0 a b (k + 1)) = (if M 218 ((a - k : Nat) : Int) = M 218 ((b - k : Nat) : Int) then 1 else 0) := by
    intro h
    simp at h
    rw [hL1, hL2]
    unfold bI
    rw [show pAll rule P lag s0 a b (k + 1) = (pAll rule P lag s0 a b k && decide (pPack (pTr rule P lag s0 (a - k)).2.1 P.1 = pPack (pTr rule P lag s0 (b - k)).2.1 P.1)) from rfl, h.1, h.2]
    simp
  obtain ⟨c, hcc⟩ : ∃ c : Bool, c = (e && pAll rule P lag s0 a b k) := ⟨_, rfl⟩
  rw [← hcc] at hfe hnx h01 ⊢
  cases c with
  | false =>
    have hz := fun h => hfe h rfl
    refine vV.iload dX7_isAs_24 rfl ?_
    refine vV.aload_n dX7_isAs_26 rfl ?_
    refine vV.geti (z := 8) dX7_isAs_27 fl_X7_120 (by first | rfl | assumption) rfl rfl ?_
    refine vV.icmp_gt (tgt := 90) dX7_isAs_30 (by decide) (fun h30 => ?_) (fun h30 => ?_)
    · skip
      refine vV.iload_n dX7_isAs_90 rfl ?_
      refine vV.rz dX7_isAs_91 rfl (by first | exact Or.inl rfl | exact Or.inr rfl | assumption) ?_
      first | exact ⟨(hz (by omega)).symm, rfl, rfl⟩ | (refine ⟨?_, rfl, rfl⟩; rw [hcc, show k = lag + 1 by omega])
    · skip
      refine vV.iload_n dX7_isAs_33 rfl ?_
      refine vV.if_eq (tgt := 90) dX7_isAs_34 (by decide) (fun h34 => ?_) (fun h34 => ?_)
      · skip
        refine vV.iload_n dX7_isAs_90 rfl ?_
        refine vV.rz dX7_isAs_91 rfl (by first | exact Or.inl rfl | exact Or.inr rfl | assumption) ?_
        first | exact ⟨(hz (by omega)).symm, rfl, rfl⟩ | (refine ⟨?_, rfl, rfl⟩; rw [hcc, show k = lag + 1 by omega])
      · skip
        exact absurd rfl h34
  | true =>
    have hz := hnx rfl
    refine vV.iload dX7_isAs_24 rfl ?_
    refine vV.aload_n dX7_isAs_26 rfl ?_
    refine vV.geti (z := 8) dX7_isAs_27 fl_X7_120 (by first | rfl | assumption) rfl rfl ?_
    refine vV.icmp_gt (tgt := 90) dX7_isAs_30 (by decide) (fun h30 => ?_) (fun h30 => ?_)
    · skip
      refine vV.iload_n dX7_isAs_90 rfl ?_
      refine vV.rz dX7_isAs_91 rfl (by first | exact Or.inl rfl | exact Or.inr rfl | assumption) ?_
      (refine ⟨?_, rfl, rfl⟩; rw [hcc, show k = lag + 1 by omega])
    · skip
      refine vV.iload_n dX7_isAs_33 rfl ?_
      refine vV.if_eq (tgt := 90) dX7_isAs_34 (by decide) (fun h34 => ?_) (fun h34 => ?_)
      · skip
        exact absurd h34 (by decide)
      · skip
        refine vV.aload_n dX7_isAs_37 rfl ?_
        refine vV.getr dX7_isAs_38 fl_X7_28 (by first | rfl | assumption) rfl (by first | assumption | exact hB _ _ _ rfl) ?_
        refine vV.iload_n dX7_isAs_41 rfl ?_
        refine vV.iload dX7_isAs_42 rfl ?_
        refine vV.icmp_ge (tgt := 51) dX7_isAs_44 (by decide) (fun h44 => ?_) (fun h44 => ?_)
        · skip
          have ea : ((a : Int) - k) = ((a - k : Nat) : Int) := by omega
          refine vV.iload_n dX7_isAs_51 rfl ?_
          refine vV.iload dX7_isAs_52 rfl ?_
          refine vV.isub dX7_isAs_54 (⟨by omega, by omega⟩) ?_
          rw [ea]
          refine vV.iald dX7_isAs_55 (by first | rfl | assumption) (by omega) (by omega) ?_
          refine vV.aload_n dX7_isAs_56 rfl ?_
          refine vV.getr dX7_isAs_57 fl_X7_28 (by first | rfl | assumption) rfl (by first | assumption | exact hB _ _ _ rfl) ?_
          refine vV.iload_n dX7_isAs_60 rfl ?_
          refine vV.iload dX7_isAs_61 rfl ?_
          refine vV.icmp_ge (tgt := 70) dX7_isAs_63 (by decide) (fun h63 => ?_) (fun h63 => ?_)
          · skip
            have eb : ((b : Int) - k) = ((b - k : Nat) : Int) := by omega
            refine vV.iload_n dX7_isAs_70 rfl ?_
            refine vV.iload dX7_isAs_71 rfl ?_
            refine vV.isub dX7_isAs_73 (⟨by omega, by omega⟩) ?_
            rw [eb]
            refine vV.iald dX7_isAs_74 (by first | rfl | assumption) (by omega) (by omega) ?_
            refine vV.icmp_ne (tgt := 82) dX7_isAs_75 (by decide) (fun h75 => ?_) (fun h75 => ?_)
            · skip
              rw [if_neg h75] at hz
              refine vV.iconst dX7_isAs_82 (by decide) ?_
              refine vV.istore_n (L' := [_, _, _, _, _]) dX7_isAs_83 (by decide) rfl ?_
              refine vV.iinc (L' := [_, _, _, _, _]) dX7_isAs_84 (by decide) rfl (⟨by omega, by omega⟩) rfl ?_
              refine vV.goto (tgt := 24) dX7_isAs_87 (by decide) ?_
              rw [hz] at ih; exact ih (by omega)
            · skip
              rw [if_pos h75] at hz
              refine vV.iconst dX7_isAs_78 (by decide) ?_
              refine vV.goto (tgt := 83) dX7_isAs_79 (by decide) ?_
              refine vV.istore_n (L' := [_, _, _, _, _]) dX7_isAs_83 (by decide) rfl ?_
              refine vV.iinc (L' := [_, _, _, _, _]) dX7_isAs_84 (by decide) rfl (⟨by omega, by omega⟩) rfl ?_
              refine vV.goto (tgt := 24) dX7_isAs_87 (by decide) ?_
              rw [hz] at ih; exact ih (by omega)
          · skip
            have eb : (0 : Int) = ((b - k : Nat) : Int) := by omega
            refine vV.iconst dX7_isAs_66 (by decide) ?_
            refine vV.goto (tgt := 74) dX7_isAs_67 (by decide) ?_
            rw [eb]
            refine vV.iald dX7_isAs_74 (by first | rfl | assumption) (by omega) (by omega) ?_
            refine vV.icmp_ne (tgt := 82) dX7_isAs_75 (by decide) (fun h75 => ?_) (fun h75 => ?_)
            · skip
              rw [if_neg h75] at hz
              refine vV.iconst dX7_isAs_82 (by decide) ?_
              refine vV.istore_n (L' := [_, _, _, _, _]) dX7_isAs_83 (by decide) rfl ?_
              refine vV.iinc (L' := [_, _, _, _, _]) dX7_isAs_84 (by decide) rfl (⟨by omega, by omega⟩) rfl ?_
              refine vV.goto (tgt := 24) dX7_isAs_87 (by decide) ?_
              rw [hz] at ih; exact ih (by omega)
            · skip
              rw [if_pos h75] at hz
              refine vV.iconst dX7_isAs_78 (by decide) ?_
              refine vV.goto (tgt := 83) dX7_isAs_79 (by decide) ?_
              refine vV.istore_n (L' := [_, _, _, _, _]) dX7_isAs_83 (by decide) rfl ?_
              refine vV.iinc (L' := [_, _, _, _, _]) dX7_isAs_84 (by decide) rfl (⟨by omega, by omega⟩) rfl ?_
              refine vV.goto (tgt := 24) dX7_isAs_87 (by decide) ?_
              rw [hz] at ih; exact ih (by omega)
        · skip
          have ea : (0 : Int) = ((a - k : Nat) : Int) := by omega
          refine vV.iconst dX7_isAs_47 (by decide) ?_
          refine vV.goto (tgt := 55) dX7_isAs_48 (by decide) ?_
          rw [ea]
          refine vV.iald dX7_isAs_55 (by first | rfl | assumption) (by omega) (by omega) ?_
          refine vV.aload_n dX7_isAs_56 rfl ?_
          refine vV.getr dX7_isAs_57 fl_X7_28 (by first | rfl | assumption) rfl (by first | assumption | exact hB _ _ _ rfl) ?_
          refine vV.iload_n dX7_isAs_60 rfl ?_
          refine vV.iload dX7_isAs_61 rfl ?_
          refine vV.icmp_ge (tgt := 70) dX7_isAs_63 (by decide) (fun h63 => ?_) (fun h63 => ?_)
          · skip
            have eb : ((b : Int) - k) = ((b - k : Nat) : Int) := by omega
            refine vV.iload_n dX7_isAs_70 rfl ?_
            refine vV.iload dX7_isAs_71 rfl ?_
            refine vV.isub dX7_isAs_73 (⟨by omega, by omega⟩) ?_
            rw [eb]
            refine vV.iald dX7_isAs_74 (by first | rfl | assumption) (by omega) (by omega) ?_
            refine vV.icmp_ne (tgt := 82) dX7_isAs_75 (by decide) (fun h75 => ?_) (fun h75 => ?_)
            · skip
              rw [if_neg h75] at hz
              refine vV.iconst dX7_isAs_82 (by decide) ?_
              refine vV.istore_n (L' := [_, _, _, _, _]) dX7_isAs_83 (by decide) rfl ?_
              refine vV.iinc (L' := [_, _, _, _, _]) dX7_isAs_84 (by decide) rfl (⟨by omega, by omega⟩) rfl ?_
              refine vV.goto (tgt := 24) dX7_isAs_87 (by decide) ?_
              rw [hz] at ih; exact ih (by omega)
            · skip
              rw [if_pos h75] at hz
              refine vV.iconst dX7_isAs_78 (by decide) ?_
              refine vV.goto (tgt := 83) dX7_isAs_79 (by decide) ?_
              refine vV.istore_n (L' := [_, _, _, _, _]) dX7_isAs_83 (by decide) rfl ?_
              refine vV.iinc (L' := [_, _, _, _, _]) dX7_isAs_84 (by decide) rfl (⟨by omega, by omega⟩) rfl ?_
              refine vV.goto (tgt := 24) dX7_isAs_87 (by decide) ?_
              rw [hz] at ih; exact ih (by omega)
          · skip
            have eb : (0 : Int) = ((b - k : Nat) : Int) := by omega
            refine vV.iconst dX7_isAs_66 (by decide) ?_
            refine vV.goto (tgt := 74) dX7_isAs_67 (by decide) ?_
            rw [eb]
            refine vV.iald dX7_isAs_74 (by first | rfl | assumption) (by omega) (by omega) ?_
            refine vV.icmp_ne (tgt := 82) dX7_isAs_75 (by decide) (fun h75 => ?_) (fun h75 => ?_)
            · skip
              rw [if_neg h75] at hz
              refine vV.iconst dX7_isAs_82 (by decide) ?_
              refine vV.istore_n (L' := [_, _, _, _, _]) dX7_isAs_83 (by decide) rfl ?_
              refine vV.iinc (L' := [_, _, _, _, _]) dX7_isAs_84 (by decide) rfl (⟨by omega, by omega⟩) rfl ?_
              refine vV.goto (tgt := 24) dX7_isAs_87 (by decide) ?_
              rw [hz] at ih; exact ih (by omega)
            · skip
              rw [if_pos h75] at hz
              refine vV.iconst dX7_isAs_78 (by decide) ?_
              refine vV.goto (tgt := 83) dX7_isAs_79 (by decide) ?_
              refine vV.istore_n (L' := [_, _, _, _, _]) dX7_isAs_83 (by decide) rfl ?_
              refine vV.iinc (L' := [_, _, _, _, _]) dX7_isAs_84 (by decide) rfl (⟨by omega, by omega⟩) rfl ?_
              refine vV.goto (tgt := 24) dX7_isAs_87 (by decide) ?_
              rw [hz] at ih; exact ih (by omega)
theorem c_X7_isAs {d : List Nat} {T : vT} {M : vM} {rule : Int} {P : pP} {lag a b : Nat} {s0 : pS} (hB : vB T) (hj : mTj M rule P lag s0 600) (ha : a ≤ 600) (hb : b ≤ 600) (hl3 : lag ≤ 3) : vCon m_X7_isAs d d [vR 200, vI a, vI b] T M (vPi fun r T1 M1 => r = bI (pAs rule P lag s0 a b) ∧ T = T1 ∧ M = M1) := by
  have h1 := hj.2.2.2 a ha
  have h2 := hj.2.2.2 b hb
  refine vCon.of (by decide) rfl rfl (Nat.le_of_ble_eq_true rfl) ?_
  have h := l_X7_isAs (d := d) hB hj ha hb hl3 (decide (pRS (pTr rule P lag s0 a) = pRS (pTr rule P lag s0 b))) 0 (by omega)
  rw [← h1, ← h2] at h
  unfold pAs
  rw [← h1, ← h2]
  refine vV.aload_n dX7_isAs_0 rfl ?_
  refine vV.getr dX7_isAs_1 fl_X7_31 (by first | rfl | assumption) rfl (by first | assumption | exact hB _ _ _ rfl) ?_
  refine vV.iload_n dX7_isAs_4 rfl ?_
  refine vV.iald dX7_isAs_5 (by first | rfl | assumption) (by omega) (by omega) ?_
  refine vV.aload_n dX7_isAs_6 rfl ?_
  refine vV.getr dX7_isAs_7 fl_X7_31 (by first | rfl | assumption) rfl (by first | assumption | exact hB _ _ _ rfl) ?_
  refine vV.iload_n dX7_isAs_10 rfl ?_
  refine vV.iald dX7_isAs_11 (by first | rfl | assumption) (by omega) (by omega) ?_
  refine vV.icmp_ne (tgt := 19) dX7_isAs_12 (by decide) (fun h12 => ?_) (fun h12 => ?_)
  · skip
    rw [show decide (M 219 a = M 219 b) = false by simpa using h12] at h
    refine vV.iconst dX7_isAs_19 (by decide) ?_
    refine vV.istore_n (L' := [_, _, _, _, _]) dX7_isAs_20 (by decide) rfl ?_
    refine vV.iconst dX7_isAs_21 (by decide) ?_
    refine vV.istore (L' := [_, _, _, _, _]) dX7_isAs_22 (by decide) rfl ?_
    first | (rw [show decide (M 219 a = M 219 b) = false by simpa using h12]; exact h) | (rw [show decide (M 219 a = M 219 b) = true by simpa using h12]; exact h)
  · skip
    rw [show decide (M 219 a = M 219 b) = true by simpa using h12] at h
    refine vV.iconst dX7_isAs_15 (by decide) ?_
    refine vV.goto (tgt := 20) dX7_isAs_16 (by decide) ?_
    refine vV.istore_n (L' := [_, _, _, _, _]) dX7_isAs_20 (by decide) rfl ?_
    refine vV.iconst dX7_isAs_21 (by decide) ?_
    refine vV.istore (L' := [_, _, _, _, _]) dX7_isAs_22 (by decide) rfl ?_
    first | (rw [show decide (M 219 a = M 219 b) = false by simpa using h12]; exact h) | (rw [show decide (M 219 a = M 219 b) = true by simpa using h12]; exact h)
end
section
/-! ===== own: the reference: round ===== -/
theorem dX7_round_0 : decode cX7_round 0 = .ok (.iload_n 1, 1) := by decide +kernel
theorem dX7_round_1 : decode cX7_round 1 = .ok (.invokestatic 229, 3) := by decide +kernel
theorem dX7_round_4 : decode cX7_round 4 = .ok (.ifCond .eq 13, 3) := by decide +kernel
theorem dX7_round_7 : decode cX7_round 7 = .ok (.iload_n 2, 1) := by decide +kernel
theorem dX7_round_8 : decode cX7_round 8 = .ok (.i2l, 1) := by decide +kernel
theorem dX7_round_9 : decode cX7_round 9 = .ok (.lconst 0, 1) := by decide +kernel
theorem dX7_round_10 : decode cX7_round 10 = .ok (.lconst 1, 1) := by decide +kernel
theorem dX7_round_11 : decode cX7_round 11 = .ok (.invokestatic 92, 3) := by decide +kernel
theorem dX7_round_14 : decode cX7_round 14 = .ok (.ifCond .ne 6, 3) := by decide +kernel
theorem dX7_round_17 : decode cX7_round 17 = .ok (.bipush (-2), 2) := by decide +kernel
theorem dX7_round_19 : decode cX7_round 19 = .ok (.ireturn, 1) := by decide +kernel
theorem dX7_round_20 : decode cX7_round 20 = .ok (.aload_n 0, 1) := by decide +kernel
theorem dX7_round_21 : decode cX7_round 21 = .ok (.invokevirtual 186, 3) := by decide +kernel
theorem dX7_round_24 : decode cX7_round 24 = .ok (.ifCond .ne 6, 3) := by decide +kernel
theorem dX7_round_27 : decode cX7_round 27 = .ok (.bipush (-3), 2) := by decide +kernel
theorem dX7_round_29 : decode cX7_round 29 = .ok (.ireturn, 1) := by decide +kernel
theorem dX7_round_30 : decode cX7_round 30 = .ok (.aload_n 0, 1) := by decide +kernel
theorem dX7_round_31 : decode cX7_round 31 = .ok (.invokevirtual 177, 3) := by decide +kernel
theorem dX7_round_34 : decode cX7_round 34 = .ok (.aload_n 0, 1) := by decide +kernel
theorem dX7_round_35 : decode cX7_round 35 = .ok (.iload_n 1, 1) := by decide +kernel
theorem dX7_round_36 : decode cX7_round 36 = .ok (.invokevirtual 232, 3) := by decide +kernel
theorem dX7_round_39 : decode cX7_round 39 = .ok (.ifCond .lt 6, 3) := by decide +kernel
theorem dX7_round_42 : decode cX7_round 42 = .ok (.bipush (-6), 2) := by decide +kernel
theorem dX7_round_44 : decode cX7_round 44 = .ok (.ireturn, 1) := by decide +kernel
theorem dX7_round_45 : decode cX7_round 45 = .ok (.iconst 0, 1) := by decide +kernel
theorem dX7_round_46 : decode cX7_round 46 = .ok (.istore_n 3, 1) := by decide +kernel
theorem dX7_round_47 : decode cX7_round 47 = .ok (.iload_n 3, 1) := by decide +kernel
theorem dX7_round_48 : decode cX7_round 48 = .ok (.sipush 600, 3) := by decide +kernel
theorem dX7_round_51 : decode cX7_round 51 = .ok (.if_icmp .ge 51, 3) := by decide +kernel
theorem dX7_round_54 : decode cX7_round 54 = .ok (.iload_n 3, 1) := by decide +kernel
theorem dX7_round_55 : decode cX7_round 55 = .ok (.iconst 1, 1) := by decide +kernel
theorem dX7_round_56 : decode cX7_round 56 = .ok (.iadd, 1) := by decide +kernel
theorem dX7_round_57 : decode cX7_round 57 = .ok (.istore 4, 2) := by decide +kernel
theorem dX7_round_59 : decode cX7_round 59 = .ok (.iload 4, 2) := by decide +kernel
theorem dX7_round_61 : decode cX7_round 61 = .ok (.sipush 600, 3) := by decide +kernel
theorem dX7_round_64 : decode cX7_round 64 = .ok (.if_icmp .gt 32, 3) := by decide +kernel
theorem dX7_round_67 : decode cX7_round 67 = .ok (.aload_n 0, 1) := by decide +kernel
theorem dX7_round_68 : decode cX7_round 68 = .ok (.iload_n 3, 1) := by decide +kernel
theorem dX7_round_69 : decode cX7_round 69 = .ok (.iload 4, 2) := by decide +kernel
theorem dX7_round_71 : decode cX7_round 71 = .ok (.invokevirtual 237, 3) := by decide +kernel
theorem dX7_round_74 : decode cX7_round 74 = .ok (.ifCond .eq 16, 3) := by decide +kernel
theorem dX7_round_77 : decode cX7_round 77 = .ok (.iload_n 2, 1) := by decide +kernel
theorem dX7_round_78 : decode cX7_round 78 = .ok (.ifCond .ne 7, 3) := by decide +kernel
theorem dX7_round_81 : decode cX7_round 81 = .ok (.iload_n 3, 1) := by decide +kernel
theorem dX7_round_82 : decode cX7_round 82 = .ok (.goto 7, 3) := by decide +kernel
theorem dX7_round_85 : decode cX7_round 85 = .ok (.iload 4, 2) := by decide +kernel
theorem dX7_round_87 : decode cX7_round 87 = .ok (.iload_n 3, 1) := by decide +kernel
theorem dX7_round_88 : decode cX7_round 88 = .ok (.isub, 1) := by decide +kernel
theorem dX7_round_89 : decode cX7_round 89 = .ok (.ireturn, 1) := by decide +kernel
theorem dX7_round_90 : decode cX7_round 90 = .ok (.iinc 4 1, 3) := by decide +kernel
theorem dX7_round_93 : decode cX7_round 93 = .ok (.goto (-34), 3) := by decide +kernel
theorem dX7_round_96 : decode cX7_round 96 = .ok (.iinc 3 1, 3) := by decide +kernel
theorem dX7_round_99 : decode cX7_round 99 = .ok (.goto (-52), 3) := by decide +kernel
theorem dX7_round_102 : decode cX7_round 102 = .ok (.bipush (-6), 2) := by decide +kernel
theorem dX7_round_104 : decode cX7_round 104 = .ok (.ireturn, 1) := by decide +kernel
/-- how long behind a it first comes again, less one -/
def pRb (rule : Int) (P : pP) (lag : Nat) (s0 : pS) (a : Nat) : Option Nat := pFind (fun j => pAs rule P lag s0 a (a + 1 + j)) (600 - a)
def pRd (rule what : Int) (P : pP) (lag : Nat) (s0 : pS) : Option Nat → Int
  | none => -6
  | some a => if what = 0 then a else pOr 0 (pRb rule P lag s0 a) + 1
def pRa (rule : Int) (P : pP) (lag : Nat) (s0 : pS) : Option Nat := pFind (fun a => (pRb rule P lag s0 a).isSome) 600
theorem l_X7_round59 {d : List Nat} {T : vT} {M : vM} {rule what : Int} {P : pP} {lag a : Nat} {s0 : pS} {Pp : Int → vT → vM → Prop} (hB : vB T) (hj : mTj M rule P lag s0 600) (hl3 : lag ≤ 3) (ha : a < 600)
    (hno : (∀ i, i < 600 - a → pAs rule P lag s0 a (a + 1 + i) = false) → vV m_X7_round d d (vPi Pp) 96 [some (vR 200), some (vI rule), some (vI what), some (vI a), some (vI 601)] [] d T M)
    (hyes : ∀ j, pRb rule P lag s0 a = some j → Pp (if what = 0 then a else (j : Int) + 1) T M) : ∀ j, j ≤ 600 - a → (∀ i, i < j → pAs rule P lag s0 a (a + 1 + i) = false) →
    vV m_X7_round d d (vPi Pp) 59 [some (vR 200), some (vI rule), some (vI what), some (vI a), some (vI ((a + 1 + j : Nat) : Int))] [] d T M := by
  refine vUp ?_
  intro j hjl ih hf
  have hfd : a + 1 + j ≤ 600 → pAs rule P lag s0 a (a + 1 + j) = true → pRb rule P lag s0 a = some j := fun h1 h2 => pFind_yes (by omega) h2 hf
  refine vV.iload dX7_round_59 rfl ?_
  refine vV.sipush (v := 600) dX7_round_61 (by decide) (by decide) ?_
  refine vV.icmp_gt (tgt := 96) dX7_round_64 (by decide) (fun h64 => ?_) (fun h64 => ?_)
  · skip
    have h601 : a + 1 + j = 601 := by omega
    rw [h601]
    exact hno (fun i hi => hf i (by omega))
  · skip
    refine vV.aload_n dX7_round_67 rfl ?_
    refine vV.iload_n dX7_round_68 rfl ?_
    refine vV.iload dX7_round_69 rfl ?_
    refine vV.cVi dX7_round_71 ml_X7_237 cw_X7_isAs iw_X7_isAs (by first | rfl | assumption) rfl (by unfold vRoom; decide) (c_X7_isAs hB hj (a := a) (b := a + 1 + j) (by omega) (by omega) hl3) rfl rfl (Nat.le_of_ble_eq_true rfl) ?_
    rintro x71 _ _ hx71 ⟨rfl, rfl, rfl⟩
    refine vV.if_eq (tgt := 90) dX7_round_74 (by decide) (fun h74 => ?_) (fun h74 => ?_)
    · skip
      have has : pAs rule P lag s0 a (a + 1 + j) = false := by { revert h74; cases pAs rule P lag s0 a (a + 1 + j) <;> simp [bI] }
      refine vV.iinc (L' := [_, _, _, _, _]) dX7_round_90 (by decide) rfl (⟨by omega, by omega⟩) rfl ?_
      refine vV.goto (tgt := 59) dX7_round_93 (by decide) ?_
      exact ih (by omega) (fun i hi => (Nat.lt_succ_iff_lt_or_eq.mp hi).elim (hf i) (fun e => by subst e; exact has))
    · skip
      have has := hfd (by omega) (by { revert h74; cases pAs rule P lag s0 a (a + 1 + j) <;> simp [bI] })
      have hy := hyes j has
      refine vV.iload_n dX7_round_77 rfl ?_
      refine vV.if_ne (tgt := 85) dX7_round_78 (by decide) (fun h78 => ?_) (fun h78 => ?_)
      · skip
        rw [if_neg h78] at hy
        refine vV.iload dX7_round_85 rfl ?_
        refine vV.iload_n dX7_round_87 rfl ?_
        refine vV.isub dX7_round_88 (⟨by omega, by omega⟩) ?_
        refine vV.ri dX7_round_89 rfl ?_
        first | exact hy | (rw [show ((a + 1 + j : Nat) : Int) - a = (j : Int) + 1 by omega]; exact hy)
      · skip
        rw [if_pos h78] at hy
        refine vV.iload_n dX7_round_81 rfl ?_
        refine vV.goto (tgt := 89) dX7_round_82 (by decide) ?_
        refine vV.ri dX7_round_89 rfl ?_
        first | exact hy | (rw [show ((a + 1 + j : Nat) : Int) - a = (j : Int) + 1 by omega]; exact hy)
theorem l_X7_round47 {d : List Nat} {T : vT} {M0 M : vM} {rule what : Int} {P : pP} {lag : Nat} {s0 : pS} (hB : vB T) (hj : mTj M rule P lag s0 600) (hl3 : lag ≤ 3) (hk : mKeepB M0 M) : ∀ a, a ≤ 600 → (∀ i, i < a → (pRb rule P lag s0 i).isSome = false) → ∀ x4,
    vV m_X7_round d d (vPi fun r T1 M1 => T = T1 ∧ mKeepB M0 M1 ∧ r = pRd rule what P lag s0 (pRa rule P lag s0)) 47 [some (vR 200), some (vI rule), some (vI what), some (vI a), x4] [] d T M := by
  refine vUp ?_
  intro a ha ih hf x4
  refine vV.iload_n dX7_round_47 rfl ?_
  refine vV.sipush (v := 600) dX7_round_48 (by decide) (by decide) ?_
  refine vV.icmp_ge (tgt := 102) dX7_round_51 (by decide) (fun h51 => ?_) (fun h51 => ?_)
  · skip
    refine vV.bipush (v := (-6)) dX7_round_102 (by decide) (by decide) ?_
    refine vV.ri dX7_round_104 rfl ?_
    have h600 : pRa rule P lag s0 = none := pFind_no (fun i hi => hf i (by omega))
    exact ⟨rfl, hk, by rw [h600]; rfl⟩
  · skip
    refine vV.iload_n dX7_round_54 rfl ?_
    refine vV.iconst dX7_round_55 (by decide) ?_
    refine vV.iadd dX7_round_56 (⟨by omega, by omega⟩) ?_
    refine vV.istore (L' := [_, _, _, _, _]) dX7_round_57 (by decide) rfl ?_
    refine l_X7_round59 hB hj hl3 (by omega) ?_ ?_ 0 (by omega) (fun i hi => by omega)
    · intro hno
      have hnone : pRb rule P lag s0 a = none := pFind_no hno
      refine vV.iinc (L' := [_, _, _, _, _]) dX7_round_96 (by decide) rfl (⟨by omega, by omega⟩) rfl ?_
      refine vV.goto (tgt := 47) dX7_round_99 (by decide) ?_
      exact ih (by omega) (fun i hi => (Nat.lt_succ_iff_lt_or_eq.mp hi).elim (hf i) (fun e => by subst e; rw [hnone]; rfl)) _
    · intro j hjs
      have hra : pRa rule P lag s0 = some a := pFind_yes (by omega) (by rw [hjs]; rfl) hf
      refine ⟨rfl, hk, ?_⟩
      rw [hra]
      show _ = if what = 0 then (a : Int) else pOr 0 (pRb rule P lag s0 a) + 1
      rw [hjs, pOr_s]
def rRound (rule what : Int) (P : pP) (lag : Nat) (s0 : pS) (bits : Int) : Int := if ¬ (0 ≤ rule ∧ rule ≤ 3) ∨ ¬ (0 ≤ what ∧ what ≤ 1) then -2 else if bits = 0 then -3 else if (pLasts rule P lag s0).isSome then -6 else pRd rule what P lag s0 (pRa rule P lag s0)
theorem c_X7_round {d : List Nat} {T : vT} {M : vM} {n lag : Nat} {rule what : Int} (hB : vB T) (hW : mW M n) (hlag : M 200 8 = lag) : vCon m_X7_round d d [vR 200, vI rule, vI what] T M (vPi fun r T1 M1 => T = T1 ∧ mKeepB M M1 ∧ r = rRound rule what (mPb M n) lag (mS0 M n) (pBits (M 204) n)) := by
  unfold rRound
  have hl3 : lag ≤ 3 := by have := hW.2.1.2.2.2.2.2.2.2.2.2.2.1; have h8 : M 200 8 ≤ 3 := this.2; omega
  refine vCon.of (by decide) rfl rfl (Nat.le_of_ble_eq_true rfl) ?_
  refine vV.iload_n dX7_round_0 rfl ?_
  refine vV.cSi dX7_round_1 ml_X7_229 cw_X7_isRule sw_X7_isRule (by unfold vRoom; decide) c_X7_isRule rfl rfl (Nat.le_of_ble_eq_true rfl) ?_
  rintro x1 _ _ hx1 ⟨hxe, rfl, rfl⟩
  refine vV.if_eq (tgt := 17) dX7_round_4 (by decide) (fun h4 => ?_) (fun h4 => ?_)
  · skip
    have hnr : ¬ (0 ≤ rule ∧ rule ≤ 3) := by { intro z; rw [hxe, if_pos z] at h4; omega }
    rw [if_pos (Or.inl hnr)]
    refine vV.bipush (v := (-2)) dX7_round_17 (by decide) (by decide) ?_
    refine vV.ri dX7_round_19 rfl ?_
    exact ⟨rfl, mKeepB.rf M, rfl⟩
  · skip
    have hir : 0 ≤ rule ∧ rule ≤ 3 := by { rcases Decidable.em (0 ≤ rule ∧ rule ≤ 3) with z | z; exact z; rw [hxe, if_neg z] at h4; omega }
    refine vV.iload_n dX7_round_7 rfl ?_
    refine vV.i2l dX7_round_8 ?_
    refine vV.lconst (v := 0) dX7_round_9 (by decide) (by decide) ?_
    refine vV.lconst (v := 1) dX7_round_10 (by decide) (by decide) ?_
    refine vV.cSi dX7_round_11 ml_X7_92 cw_X7_in sw_X7_in (by unfold vRoom; decide) c_X7_in rfl rfl (Nat.le_of_ble_eq_true rfl) ?_
    rintro x11 _ _ hx11 ⟨rfl, rfl, rfl⟩
    unfold pIn
    refine vV.if_ne (tgt := 20) dX7_round_14 (by decide) (fun h14 => ?_) (fun h14 => ?_)
    · skip
      have hti : 0 ≤ what ∧ what ≤ 1 := by { rcases Decidable.em (0 ≤ what ∧ what ≤ 1) with z | z; exact z; rw [if_neg z] at h14; omega }
      rw [if_neg (by omega)]
      refine vV.aload_n dX7_round_20 rfl ?_
      refine vV.cVi dX7_round_21 ml_X7_186 cw_X7_standing iw_X7_standing (by first | rfl | assumption) rfl (by unfold vRoom; decide) (c_X7_standing hB hW.1 hW.2.1.1) rfl rfl (Nat.le_of_ble_eq_true rfl) ?_
      rintro x21 _ _ hx21 ⟨rfl, rfl, rfl⟩
      refine vV.if_ne (tgt := 30) dX7_round_24 (by decide) (fun h24 => ?_) (fun h24 => ?_)
      · skip
        rw [if_neg h24]
        refine vV.aload_n dX7_round_30 rfl ?_
        refine vV.cVv dX7_round_31 ml_X7_177 cw_X7_begin iw_X7_begin (by first | rfl | assumption) rfl (by unfold vRoom; decide) (c_X7_begin hB hW) rfl rfl (Nat.le_of_ble_eq_true rfl) ?_
        rintro _ N ⟨rfl, hb⟩
        have hj := mTj_begin (rule := rule) hW hlag hb
        refine vV.aload_n dX7_round_34 rfl ?_
        refine vV.iload_n dX7_round_35 rfl ?_
        refine vV.cVi dX7_round_36 ml_X7_232 cw_X7_lastsOf iw_X7_lastsOf (by first | rfl | assumption) rfl (by unfold vRoom; decide) (c_X7_lastsOf hB hir.1 hir.2 hj) rfl rfl (Nat.le_of_ble_eq_true rfl) ?_
        rintro x36 _ M1 hx36 ⟨rfl, hk1, hre, hno⟩
        rw [hre]
        refine vV.if_lt (tgt := 45) dX7_round_39 (by decide) (fun h39 => ?_) (fun h39 => ?_)
        · skip
          have hz : pLasts rule (mPb M n) lag (mS0 M n) = none := by { cases hq : pLasts rule (mPb M n) lag (mS0 M n) with | none => rfl | some q => rw [hq] at h39; simp [pOr] at h39; omega }
          rw [hz, if_neg (by simp)]
          refine vV.iconst dX7_round_45 (by decide) ?_
          refine vV.istore_n (L' := [_, _, _, _, _]) dX7_round_46 (by decide) rfl ?_
          exact l_X7_round47 hB (hno hz) hl3 (hb.keep.tr hk1) 0 (by omega) (fun i hi => by omega) _
        · skip
          have hz : (pLasts rule (mPb M n) lag (mS0 M n)).isSome = true := by { cases hq : pLasts rule (mPb M n) lag (mS0 M n) with | none => rw [hq] at h39; simp [pOr] at h39 | some q => rfl }
          rw [if_pos hz]
          refine vV.bipush (v := (-6)) dX7_round_42 (by decide) (by decide) ?_
          refine vV.ri dX7_round_44 rfl ?_
          exact ⟨rfl, hb.keep.tr hk1, rfl⟩
      · skip
        rw [if_pos h24]
        refine vV.bipush (v := (-3)) dX7_round_27 (by decide) (by decide) ?_
        refine vV.ri dX7_round_29 rfl ?_
        exact ⟨rfl, mKeepB.rf M, rfl⟩
    · skip
      have hti : ¬ (0 ≤ what ∧ what ≤ 1) := by { intro z; rw [if_pos z] at h14; omega }
      rw [if_pos (Or.inr hti)]
      refine vV.bipush (v := (-2)) dX7_round_17 (by decide) (by decide) ?_
      refine vV.ri dX7_round_19 rfl ?_
      exact ⟨rfl, mKeepB.rf M, rfl⟩
end
section
/-! ===== own: the class's walker: what he sees, goals ===== -/
def wS (M : vM) (n t : Nat) (g l : Option Nat) : Prop := sgW M 30 n ∧ M 70 2 = pOr (-1) g ∧ (∀ k, g = some k → k < n) ∧ M 70 4 = pOr (-1) l ∧ (∀ k, l = some k → k < n) ∧ (0 ≤ M 70 3 ∧ M 70 3 < M 35 2) ∧ M 70 1 = t
def wL (M : vM) (n t : Nat) (hist : Nat → Int → Int) : Prop := (∀ i : Nat, i ≤ t → M 76 i = pPack (hist i) n) ∧ ∀ (i j : Nat), 0 ≤ hist i j ∧ hist i j ≤ 15
theorem dX5_logged_0 : decode cX5_logged 0 = .ok (.iload_n 0, 1) := by decide +kernel
theorem dX5_logged_1 : decode cX5_logged 1 = .ok (.ifCond .ge 5, 3) := by decide +kernel
theorem dX5_logged_4 : decode cX5_logged 4 = .ok (.iconst 0, 1) := by decide +kernel
theorem dX5_logged_5 : decode cX5_logged 5 = .ok (.ireturn, 1) := by decide +kernel
theorem dX5_logged_6 : decode cX5_logged 6 = .ok (.iload_n 0, 1) := by decide +kernel
theorem dX5_logged_7 : decode cX5_logged 7 = .ok (.sipush 600, 3) := by decide +kernel
theorem dX5_logged_10 : decode cX5_logged 10 = .ok (.if_icmp .le 9, 3) := by decide +kernel
theorem dX5_logged_13 : decode cX5_logged 13 = .ok (.sipush 600, 3) := by decide +kernel
theorem dX5_logged_16 : decode cX5_logged 16 = .ok (.goto 4, 3) := by decide +kernel
theorem dX5_logged_19 : decode cX5_logged 19 = .ok (.iload_n 0, 1) := by decide +kernel
theorem dX5_logged_20 : decode cX5_logged 20 = .ok (.ireturn, 1) := by decide +kernel
theorem c_X5_logged {d : List Nat} {T : vT} {M : vM} {y : Int} : vCon m_X5_logged d d [vI y] T M (vPi fun r T1 M1 => r = (if y < 0 then 0 else if 600 < y then 600 else y) ∧ T = T1 ∧ M = M1) := by
  refine vCon.of (by decide) rfl rfl (Nat.le_of_ble_eq_true rfl) ?_
  refine vV.iload_n dX5_logged_0 rfl ?_
  refine vV.if_ge (tgt := 6) dX5_logged_1 (by decide) (fun h1 => ?_) (fun h1 => ?_)
  · skip
    refine vV.iload_n dX5_logged_6 rfl ?_
    refine vV.sipush (v := 600) dX5_logged_7 (by decide) (by decide) ?_
    refine vV.icmp_le (tgt := 19) dX5_logged_10 (by decide) (fun h10 => ?_) (fun h10 => ?_)
    · skip
      rw [if_neg (by omega), if_neg (by omega)]
      refine vV.iload_n dX5_logged_19 rfl ?_
      refine vV.ri dX5_logged_20 rfl ?_
      exact ⟨rfl, rfl, rfl⟩
    · skip
      rw [if_neg (by omega), if_pos h10]
      refine vV.sipush (v := 600) dX5_logged_13 (by decide) (by decide) ?_
      refine vV.goto (tgt := 20) dX5_logged_16 (by decide) ?_
      refine vV.ri dX5_logged_20 rfl ?_
      exact ⟨rfl, rfl, rfl⟩
  · skip
    refine vV.iconst dX5_logged_4 (by decide) ?_
    refine vV.ri dX5_logged_5 rfl ?_
    rw [if_pos h1]; exact ⟨rfl, rfl, rfl⟩
theorem dX5_far_0 : decode cX5_far 0 = .ok (.aload_n 0, 1) := by decide +kernel
theorem dX5_far_1 : decode cX5_far 1 = .ok (.getfield 12, 3) := by decide +kernel
theorem dX5_far_4 : decode cX5_far 4 = .ok (.getfield 62, 3) := by decide +kernel
theorem dX5_far_7 : decode cX5_far 7 = .ok (.iload_n 1, 1) := by decide +kernel
theorem dX5_far_8 : decode cX5_far 8 = .ok (.iaload, 1) := by decide +kernel
theorem dX5_far_9 : decode cX5_far 9 = .ok (.aload_n 0, 1) := by decide +kernel
theorem dX5_far_10 : decode cX5_far 10 = .ok (.getfield 12, 3) := by decide +kernel
theorem dX5_far_13 : decode cX5_far 13 = .ok (.getfield 52, 3) := by decide +kernel
theorem dX5_far_16 : decode cX5_far 16 = .ok (.iconst 0, 1) := by decide +kernel
theorem dX5_far_17 : decode cX5_far 17 = .ok (.iaload, 1) := by decide +kernel
theorem dX5_far_18 : decode cX5_far 18 = .ok (.isub, 1) := by decide +kernel
theorem dX5_far_19 : decode cX5_far 19 = .ok (.istore_n 2, 1) := by decide +kernel
theorem dX5_far_20 : decode cX5_far 20 = .ok (.iload_n 2, 1) := by decide +kernel
theorem dX5_far_21 : decode cX5_far 21 = .ok (.ifCond .ge 8, 3) := by decide +kernel
theorem dX5_far_24 : decode cX5_far 24 = .ok (.iload_n 2, 1) := by decide +kernel
theorem dX5_far_25 : decode cX5_far 25 = .ok (.ineg, 1) := by decide +kernel
theorem dX5_far_26 : decode cX5_far 26 = .ok (.goto 4, 3) := by decide +kernel
theorem dX5_far_29 : decode cX5_far 29 = .ok (.iload_n 2, 1) := by decide +kernel
theorem dX5_far_30 : decode cX5_far 30 = .ok (.ireturn, 1) := by decide +kernel
theorem c_X5_far {d : List Nat} {T : vT} {M : vM} {n p : Nat} (hB : vB T) (hW : sgW M 30 n) (hp : p < n) : vCon m_X5_far d d [vR 70, vI p] T M (vPi fun r T1 M1 => r = pFar (M 31) (M 35 0) p ∧ T = T1 ∧ M = M1) := by
  have hn := hW.le
  obtain ⟨-, -, -, -, hpl, -, -, -, hs0, -⟩ := hW
  have b1 : 0 ≤ M 31 p ∧ M 31 p ≤ 7 := hpl p
  have b2 : 0 ≤ M 35 0 ∧ M 35 0 ≤ 7 := hs0
  unfold pFar pAbs
  refine vCon.of (by decide) rfl rfl (Nat.le_of_ble_eq_true rfl) ?_
  refine vV.aload_n dX5_far_0 rfl ?_
  refine vV.getr dX5_far_1 fl_X5_12 (by first | rfl | assumption) rfl (by first | assumption | exact hB _ _ _ rfl) ?_
  refine vV.getr dX5_far_4 fl_X5_62 (by first | rfl | assumption) rfl (by first | assumption | exact hB _ _ _ rfl) ?_
  refine vV.iload_n dX5_far_7 rfl ?_
  refine vV.iald dX5_far_8 (by first | rfl | assumption) (by omega) (by omega) ?_
  refine vV.aload_n dX5_far_9 rfl ?_
  refine vV.getr dX5_far_10 fl_X5_12 (by first | rfl | assumption) rfl (by first | assumption | exact hB _ _ _ rfl) ?_
  refine vV.getr dX5_far_13 fl_X5_52 (by first | rfl | assumption) rfl (by first | assumption | exact hB _ _ _ rfl) ?_
  refine vV.iconst dX5_far_16 (by decide) ?_
  refine vV.iald dX5_far_17 (by first | rfl | assumption) (by omega) (by omega) ?_
  refine vV.isub dX5_far_18 (⟨by omega, by omega⟩) ?_
  refine vV.istore_n (L' := [_, _, _]) dX5_far_19 (by decide) rfl ?_
  refine vV.iload_n dX5_far_20 rfl ?_
  refine vV.if_ge (tgt := 29) dX5_far_21 (by decide) (fun h21 => ?_) (fun h21 => ?_)
  · skip
    rw [if_neg (by omega)]
    refine vV.iload_n dX5_far_29 rfl ?_
    refine vV.ri dX5_far_30 rfl ?_
    first | exact ⟨rfl, rfl, rfl⟩ | exact ⟨by omega, rfl, rfl⟩
  · skip
    rw [if_pos (by omega)]
    refine vV.iload_n dX5_far_24 rfl ?_
    refine vV.ineg dX5_far_25 (⟨by omega, by omega⟩) ?_
    refine vV.goto (tgt := 30) dX5_far_26 (by decide) ?_
    refine vV.ri dX5_far_30 rfl ?_
    first | exact ⟨rfl, rfl, rfl⟩ | exact ⟨by omega, rfl, rfl⟩
theorem dX5_seen_0 : decode cX5_seen 0 = .ok (.aload_n 0, 1) := by decide +kernel
theorem dX5_seen_1 : decode cX5_seen 1 = .ok (.getfield 12, 3) := by decide +kernel
theorem dX5_seen_4 : decode cX5_seen 4 = .ok (.getfield 62, 3) := by decide +kernel
theorem dX5_seen_7 : decode cX5_seen 7 = .ok (.iload_n 1, 1) := by decide +kernel
theorem dX5_seen_8 : decode cX5_seen 8 = .ok (.iaload, 1) := by decide +kernel
theorem dX5_seen_9 : decode cX5_seen 9 = .ok (.aload_n 0, 1) := by decide +kernel
theorem dX5_seen_10 : decode cX5_seen 10 = .ok (.getfield 12, 3) := by decide +kernel
theorem dX5_seen_13 : decode cX5_seen 13 = .ok (.getfield 52, 3) := by decide +kernel
theorem dX5_seen_16 : decode cX5_seen 16 = .ok (.iconst 0, 1) := by decide +kernel
theorem dX5_seen_17 : decode cX5_seen 17 = .ok (.iaload, 1) := by decide +kernel
theorem dX5_seen_18 : decode cX5_seen 18 = .ok (.if_icmp .ne 13, 3) := by decide +kernel
theorem dX5_seen_21 : decode cX5_seen 21 = .ok (.aload_n 0, 1) := by decide +kernel
theorem dX5_seen_22 : decode cX5_seen 22 = .ok (.getfield 12, 3) := by decide +kernel
theorem dX5_seen_25 : decode cX5_seen 25 = .ok (.getfield 55, 3) := by decide +kernel
theorem dX5_seen_28 : decode cX5_seen 28 = .ok (.iload_n 1, 1) := by decide +kernel
theorem dX5_seen_29 : decode cX5_seen 29 = .ok (.iaload, 1) := by decide +kernel
theorem dX5_seen_30 : decode cX5_seen 30 = .ok (.ireturn, 1) := by decide +kernel
theorem dX5_seen_31 : decode cX5_seen 31 = .ok (.aload_n 0, 1) := by decide +kernel
theorem dX5_seen_32 : decode cX5_seen 32 = .ok (.getfield 78, 3) := by decide +kernel
theorem dX5_seen_35 : decode cX5_seen 35 = .ok (.iconst 4, 1) := by decide +kernel
theorem dX5_seen_36 : decode cX5_seen 36 = .ok (.iload_n 1, 1) := by decide +kernel
theorem dX5_seen_37 : decode cX5_seen 37 = .ok (.imul, 1) := by decide +kernel
theorem dX5_seen_38 : decode cX5_seen 38 = .ok (.ishr, 1) := by decide +kernel
theorem dX5_seen_39 : decode cX5_seen 39 = .ok (.bipush 15, 2) := by decide +kernel
theorem dX5_seen_41 : decode cX5_seen 41 = .ok (.iand, 1) := by decide +kernel
theorem dX5_seen_42 : decode cX5_seen 42 = .ok (.ireturn, 1) := by decide +kernel
theorem c_X5_seen {d : List Nat} {T : vT} {M : vM} {n p : Nat} {f : Int → Int} (hB : vB T) (hW : sgW M 30 n) (hp : p < n) (hl : M 70 5 = pPack f n) (hf : ∀ j : Nat, 0 ≤ f j ∧ f j ≤ 15) : vCon m_X5_seen d d [vR 70, vI p] T M (vPi fun r T1 M1 => r = pSeen (M 31) (M 34) f (M 35 0) p ∧ T = T1 ∧ M = M1) := by
  have hn := hW.le
  have hdig := seen_dig hf hn hp
  unfold pSeen
  refine vCon.of (by decide) rfl rfl (Nat.le_of_ble_eq_true rfl) ?_
  refine vV.aload_n dX5_seen_0 rfl ?_
  refine vV.getr dX5_seen_1 fl_X5_12 (by first | rfl | assumption) rfl (by first | assumption | exact hB _ _ _ rfl) ?_
  refine vV.getr dX5_seen_4 fl_X5_62 (by first | rfl | assumption) rfl (by first | assumption | exact hB _ _ _ rfl) ?_
  refine vV.iload_n dX5_seen_7 rfl ?_
  refine vV.iald dX5_seen_8 (by first | rfl | assumption) (by omega) (by omega) ?_
  refine vV.aload_n dX5_seen_9 rfl ?_
  refine vV.getr dX5_seen_10 fl_X5_12 (by first | rfl | assumption) rfl (by first | assumption | exact hB _ _ _ rfl) ?_
  refine vV.getr dX5_seen_13 fl_X5_52 (by first | rfl | assumption) rfl (by first | assumption | exact hB _ _ _ rfl) ?_
  refine vV.iconst dX5_seen_16 (by decide) ?_
  refine vV.iald dX5_seen_17 (by first | rfl | assumption) (by omega) (by omega) ?_
  refine vV.icmp_ne (tgt := 31) dX5_seen_18 (by decide) (fun h18 => ?_) (fun h18 => ?_)
  · skip
    rw [if_neg h18]
    refine vV.aload_n dX5_seen_31 rfl ?_
    refine vV.geti (z := 5) dX5_seen_32 fl_X5_78 (by first | rfl | assumption) rfl rfl ?_
    rw [hl]
    refine vV.iconst dX5_seen_35 (by decide) ?_
    refine vV.iload_n dX5_seen_36 rfl ?_
    refine vV.imul dX5_seen_37 (⟨by omega, by omega⟩) ?_
    refine vV.ishr dX5_seen_38 ?_
    refine vV.bipush (v := 15) dX5_seen_39 (by decide) (by decide) ?_
    refine vV.iand dX5_seen_41 ?_
    refine vV.ri dX5_seen_42 rfl ?_
    first | exact ⟨rfl, rfl, rfl⟩ | exact ⟨hdig, rfl, rfl⟩
  · skip
    rw [if_pos h18]
    refine vV.aload_n dX5_seen_21 rfl ?_
    refine vV.getr dX5_seen_22 fl_X5_12 (by first | rfl | assumption) rfl (by first | assumption | exact hB _ _ _ rfl) ?_
    refine vV.getr dX5_seen_25 fl_X5_55 (by first | rfl | assumption) rfl (by first | assumption | exact hB _ _ _ rfl) ?_
    refine vV.iload_n dX5_seen_28 rfl ?_
    refine vV.iald dX5_seen_29 (by first | rfl | assumption) (by omega) (by omega) ?_
    refine vV.ri dX5_seen_30 rfl ?_
    first | exact ⟨rfl, rfl, rfl⟩ | exact ⟨hdig, rfl, rfl⟩
theorem dX5_worst_0 : decode cX5_worst 0 = .ok (.iconst (-1), 1) := by decide +kernel
theorem dX5_worst_1 : decode cX5_worst 1 = .ok (.istore_n 1, 1) := by decide +kernel
theorem dX5_worst_2 : decode cX5_worst 2 = .ok (.iconst 0, 1) := by decide +kernel
theorem dX5_worst_3 : decode cX5_worst 3 = .ok (.istore_n 2, 1) := by decide +kernel
theorem dX5_worst_4 : decode cX5_worst 4 = .ok (.iconst 0, 1) := by decide +kernel
theorem dX5_worst_5 : decode cX5_worst 5 = .ok (.istore_n 3, 1) := by decide +kernel
theorem dX5_worst_6 : decode cX5_worst 6 = .ok (.iload_n 3, 1) := by decide +kernel
theorem dX5_worst_7 : decode cX5_worst 7 = .ok (.aload_n 0, 1) := by decide +kernel
theorem dX5_worst_8 : decode cX5_worst 8 = .ok (.getfield 12, 3) := by decide +kernel
theorem dX5_worst_11 : decode cX5_worst 11 = .ok (.getfield 93, 3) := by decide +kernel
theorem dX5_worst_14 : decode cX5_worst 14 = .ok (.if_icmp .ge 42, 3) := by decide +kernel
theorem dX5_worst_17 : decode cX5_worst 17 = .ok (.aload_n 0, 1) := by decide +kernel
theorem dX5_worst_18 : decode cX5_worst 18 = .ok (.getfield 12, 3) := by decide +kernel
theorem dX5_worst_21 : decode cX5_worst 21 = .ok (.getfield 55, 3) := by decide +kernel
theorem dX5_worst_24 : decode cX5_worst 24 = .ok (.iload_n 3, 1) := by decide +kernel
theorem dX5_worst_25 : decode cX5_worst 25 = .ok (.iaload, 1) := by decide +kernel
theorem dX5_worst_26 : decode cX5_worst 26 = .ok (.ifCond .le 24, 3) := by decide +kernel
theorem dX5_worst_29 : decode cX5_worst 29 = .ok (.iload_n 1, 1) := by decide +kernel
theorem dX5_worst_30 : decode cX5_worst 30 = .ok (.ifCond .lt 12, 3) := by decide +kernel
theorem dX5_worst_33 : decode cX5_worst 33 = .ok (.aload_n 0, 1) := by decide +kernel
theorem dX5_worst_34 : decode cX5_worst 34 = .ok (.iload_n 3, 1) := by decide +kernel
theorem dX5_worst_35 : decode cX5_worst 35 = .ok (.invokevirtual 96, 3) := by decide +kernel
theorem dX5_worst_38 : decode cX5_worst 38 = .ok (.iload_n 2, 1) := by decide +kernel
theorem dX5_worst_39 : decode cX5_worst 39 = .ok (.if_icmp .ge 11, 3) := by decide +kernel
theorem dX5_worst_42 : decode cX5_worst 42 = .ok (.iload_n 3, 1) := by decide +kernel
theorem dX5_worst_43 : decode cX5_worst 43 = .ok (.istore_n 1, 1) := by decide +kernel
theorem dX5_worst_44 : decode cX5_worst 44 = .ok (.aload_n 0, 1) := by decide +kernel
theorem dX5_worst_45 : decode cX5_worst 45 = .ok (.iload_n 3, 1) := by decide +kernel
theorem dX5_worst_46 : decode cX5_worst 46 = .ok (.invokevirtual 96, 3) := by decide +kernel
theorem dX5_worst_49 : decode cX5_worst 49 = .ok (.istore_n 2, 1) := by decide +kernel
theorem dX5_worst_50 : decode cX5_worst 50 = .ok (.iinc 3 1, 3) := by decide +kernel
theorem dX5_worst_53 : decode cX5_worst 53 = .ok (.goto (-47), 3) := by decide +kernel
theorem dX5_worst_56 : decode cX5_worst 56 = .ok (.iload_n 1, 1) := by decide +kernel
theorem dX5_worst_57 : decode cX5_worst 57 = .ok (.ireturn, 1) := by decide +kernel
theorem l_X5_worst {d : List Nat} {T : vT} {M : vM} {n : Nat} {f : Int → Int} (hB : vB T) (hW : sgW M 30 n) (hl : M 70 5 = pPack f n) (hf : ∀ j : Nat, 0 ≤ f j ∧ f j ≤ 15) (S : Nat → Bool) (hSd : S = fun j : Nat => decide (0 < M 34 j)) (v : Nat → Int) (hvd : v = pSeen (M 31) (M 34) f (M 35 0)) : ∀ p, p ≤ n → ∀ y : Int, (∀ b, pMin S v p = some b → y = v b) →
    vV m_X5_worst d d (vPi fun r T1 M1 => r = pOr (-1) (pMin S v n) ∧ T = T1 ∧ M = M1) 6 [some (vR 70), some (vI (pOr (-1) (pMin S v p))), some (vI y), some (vI p)] [] d T M := by
  have hn := hW.le
  have hc : M 30 0 = n := hW.cnt
  refine vUp ?_
  intro p hp ih y hy
  obtain ⟨r, hr⟩ : ∃ r, pMin S v p = r := ⟨_, rfl⟩
  rw [hr] at hy ⊢
  have keep : (S p = false ∨ ∃ b, r = some b ∧ v b ≤ v p) → pMin S v (p + 1) = r := fun h => by rw [← hr]; exact pMin_keep (by rw [hr]; exact h)
  have take : S p = true → (∀ b, r = some b → v p < v b) → pMin S v (p + 1) = some p := fun h1 h2 => pMin_take h1 (by rw [hr]; exact h2)
  have hlt : ∀ b, r = some b → b < p := fun b hb => pMin_lt (hr.trans hb)
  cases r with
  | none =>
    rw [pOr_n]
    refine vV.iload_n dX5_worst_6 rfl ?_
    refine vV.aload_n dX5_worst_7 rfl ?_
    refine vV.getr dX5_worst_8 fl_X5_12 (by first | rfl | assumption) rfl (by first | assumption | exact hB _ _ _ rfl) ?_
    refine vV.geti (z := 0) dX5_worst_11 fl_X5_93 (by first | rfl | assumption) rfl rfl ?_
    refine vV.icmp_ge (tgt := 56) dX5_worst_14 (by decide) (fun h14 => ?_) (fun h14 => ?_)
    · skip
      refine vV.iload_n dX5_worst_56 rfl ?_
      refine vV.ri dX5_worst_57 rfl ?_
      rw [show n = p by omega, hr]; exact ⟨rfl, rfl, rfl⟩
    · skip
      refine vV.aload_n dX5_worst_17 rfl ?_
      refine vV.getr dX5_worst_18 fl_X5_12 (by first | rfl | assumption) rfl (by first | assumption | exact hB _ _ _ rfl) ?_
      refine vV.getr dX5_worst_21 fl_X5_55 (by first | rfl | assumption) rfl (by first | assumption | exact hB _ _ _ rfl) ?_
      refine vV.iload_n dX5_worst_24 rfl ?_
      refine vV.iald dX5_worst_25 (by first | rfl | assumption) (by omega) (by omega) ?_
      refine vV.if_le (tgt := 50) dX5_worst_26 (by decide) (fun h26 => ?_) (fun h26 => ?_)
      · skip
        rw [keep (Or.inl (by rw [hSd]; simp; omega)), pOr_n] at ih
        refine vV.iinc (L' := [_, _, _, _]) dX5_worst_50 (by decide) rfl (⟨by omega, by omega⟩) rfl ?_
        refine vV.goto (tgt := 6) dX5_worst_53 (by decide) ?_
        exact ih (by omega) _ (fun b hb => by cases hb <;> (rw [hvd]))
      · skip
        refine vV.iload_n dX5_worst_29 rfl ?_
        refine vV.if_lt (tgt := 42) dX5_worst_30 (by decide) (fun h30 => ?_) (fun h30 => ?_)
        · skip
          rw [take (by rw [hSd]; simp; omega) (fun b hb => nomatch hb), pOr_s] at ih
          refine vV.iload_n dX5_worst_42 rfl ?_
          refine vV.istore_n (L' := [_, _, _, _]) dX5_worst_43 (by decide) rfl ?_
          refine vV.aload_n dX5_worst_44 rfl ?_
          refine vV.iload_n dX5_worst_45 rfl ?_
          refine vV.cVi dX5_worst_46 ml_X5_96 cw_X5_seen iw_X5_seen (by first | rfl | assumption) rfl (by unfold vRoom; decide) (c_X5_seen hB hW (p := p) (by omega) hl hf) rfl rfl (Nat.le_of_ble_eq_true rfl) ?_
          rintro x46 _ _ hx46 ⟨rfl, rfl, rfl⟩
          refine vV.istore_n (L' := [_, _, _, _]) dX5_worst_49 (by decide) rfl ?_
          refine vV.iinc (L' := [_, _, _, _]) dX5_worst_50 (by decide) rfl (⟨by omega, by omega⟩) rfl ?_
          refine vV.goto (tgt := 6) dX5_worst_53 (by decide) ?_
          exact ih (by omega) _ (fun b hb => by cases hb <;> (rw [hvd]))
        · skip
          omega
  | some b =>
    have hbp := hlt b rfl
    have hyb := hy b rfl
    rw [pOr_s]
    refine vV.iload_n dX5_worst_6 rfl ?_
    refine vV.aload_n dX5_worst_7 rfl ?_
    refine vV.getr dX5_worst_8 fl_X5_12 (by first | rfl | assumption) rfl (by first | assumption | exact hB _ _ _ rfl) ?_
    refine vV.geti (z := 0) dX5_worst_11 fl_X5_93 (by first | rfl | assumption) rfl rfl ?_
    refine vV.icmp_ge (tgt := 56) dX5_worst_14 (by decide) (fun h14 => ?_) (fun h14 => ?_)
    · skip
      refine vV.iload_n dX5_worst_56 rfl ?_
      refine vV.ri dX5_worst_57 rfl ?_
      rw [show n = p by omega, hr]; exact ⟨rfl, rfl, rfl⟩
    · skip
      refine vV.aload_n dX5_worst_17 rfl ?_
      refine vV.getr dX5_worst_18 fl_X5_12 (by first | rfl | assumption) rfl (by first | assumption | exact hB _ _ _ rfl) ?_
      refine vV.getr dX5_worst_21 fl_X5_55 (by first | rfl | assumption) rfl (by first | assumption | exact hB _ _ _ rfl) ?_
      refine vV.iload_n dX5_worst_24 rfl ?_
      refine vV.iald dX5_worst_25 (by first | rfl | assumption) (by omega) (by omega) ?_
      refine vV.if_le (tgt := 50) dX5_worst_26 (by decide) (fun h26 => ?_) (fun h26 => ?_)
      · skip
        rw [keep (Or.inl (by rw [hSd]; simp; omega)), pOr_s] at ih
        refine vV.iinc (L' := [_, _, _, _]) dX5_worst_50 (by decide) rfl (⟨by omega, by omega⟩) rfl ?_
        refine vV.goto (tgt := 6) dX5_worst_53 (by decide) ?_
        exact ih (by omega) _ (fun b' hb => by cases hb; first | exact hyb | rw [hvd])
      · skip
        refine vV.iload_n dX5_worst_29 rfl ?_
        refine vV.if_lt (tgt := 42) dX5_worst_30 (by decide) (fun h30 => ?_) (fun h30 => ?_)
        · skip
          omega
        · skip
          refine vV.aload_n dX5_worst_33 rfl ?_
          refine vV.iload_n dX5_worst_34 rfl ?_
          refine vV.cVi dX5_worst_35 ml_X5_96 cw_X5_seen iw_X5_seen (by first | rfl | assumption) rfl (by unfold vRoom; decide) (c_X5_seen hB hW (p := p) (by omega) hl hf) rfl rfl (Nat.le_of_ble_eq_true rfl) ?_
          rintro x46 _ _ hx46 ⟨rfl, rfl, rfl⟩
          refine vV.iload_n dX5_worst_38 rfl ?_
          refine vV.icmp_ge (tgt := 50) dX5_worst_39 (by decide) (fun h39 => ?_) (fun h39 => ?_)
          · skip
            rw [hyb] at h39
            rw [keep (Or.inr ⟨b, rfl, by rw [hvd] at h39 ⊢; exact h39⟩), pOr_s] at ih
            refine vV.iinc (L' := [_, _, _, _]) dX5_worst_50 (by decide) rfl (⟨by omega, by omega⟩) rfl ?_
            refine vV.goto (tgt := 6) dX5_worst_53 (by decide) ?_
            exact ih (by omega) _ (fun b' hb => by cases hb; first | exact hyb | rw [hvd])
          · skip
            rw [hyb] at h39
            rw [take (by rw [hSd]; simp; omega) (fun b' hb => by cases hb; rw [hvd] at h39 ⊢; exact h39), pOr_s] at ih
            refine vV.iload_n dX5_worst_42 rfl ?_
            refine vV.istore_n (L' := [_, _, _, _]) dX5_worst_43 (by decide) rfl ?_
            refine vV.aload_n dX5_worst_44 rfl ?_
            refine vV.iload_n dX5_worst_45 rfl ?_
            refine vV.cVi dX5_worst_46 ml_X5_96 cw_X5_seen iw_X5_seen (by first | rfl | assumption) rfl (by unfold vRoom; decide) (c_X5_seen hB hW (p := p) (by omega) hl hf) rfl rfl (Nat.le_of_ble_eq_true rfl) ?_
            rintro x46 _ _ hx46 ⟨rfl, rfl, rfl⟩
            refine vV.istore_n (L' := [_, _, _, _]) dX5_worst_49 (by decide) rfl ?_
            refine vV.iinc (L' := [_, _, _, _]) dX5_worst_50 (by decide) rfl (⟨by omega, by omega⟩) rfl ?_
            refine vV.goto (tgt := 6) dX5_worst_53 (by decide) ?_
            exact ih (by omega) _ (fun b' hb => by cases hb; first | exact hyb | rw [hvd])
theorem c_X5_worst {d : List Nat} {T : vT} {M : vM} {n : Nat} {f : Int → Int} (hB : vB T) (hW : sgW M 30 n) (hl : M 70 5 = pPack f n) (hf : ∀ j : Nat, 0 ≤ f j ∧ f j ≤ 15) : vCon m_X5_worst d d [vR 70] T M (vPi fun r T1 M1 => r = pOr (-1) (pWorst n (M 31) (M 34) f (M 35 0)) ∧ T = T1 ∧ M = M1) := by
  refine vCon.of (by decide) rfl rfl (Nat.le_of_ble_eq_true rfl) ?_
  have h := l_X5_worst (d := d) hB hW hl hf _ rfl _ rfl 0 (by omega)
  refine vV.iconst dX5_worst_0 (by decide) ?_
  refine vV.istore_n (L' := [_, _, _, _]) dX5_worst_1 (by decide) rfl ?_
  refine vV.iconst dX5_worst_2 (by decide) ?_
  refine vV.istore_n (L' := [_, _, _, _]) dX5_worst_3 (by decide) rfl ?_
  refine vV.iconst dX5_worst_4 (by decide) ?_
  refine vV.istore_n (L' := [_, _, _, _]) dX5_worst_5 (by decide) rfl ?_
  exact h _ (fun b hb => nomatch hb)
theorem dX5_near_0 : decode cX5_near 0 = .ok (.iconst (-1), 1) := by decide +kernel
theorem dX5_near_1 : decode cX5_near 1 = .ok (.istore_n 1, 1) := by decide +kernel
theorem dX5_near_2 : decode cX5_near 2 = .ok (.iconst 0, 1) := by decide +kernel
theorem dX5_near_3 : decode cX5_near 3 = .ok (.istore_n 2, 1) := by decide +kernel
theorem dX5_near_4 : decode cX5_near 4 = .ok (.iload_n 2, 1) := by decide +kernel
theorem dX5_near_5 : decode cX5_near 5 = .ok (.aload_n 0, 1) := by decide +kernel
theorem dX5_near_6 : decode cX5_near 6 = .ok (.getfield 12, 3) := by decide +kernel
theorem dX5_near_9 : decode cX5_near 9 = .ok (.getfield 93, 3) := by decide +kernel
theorem dX5_near_12 : decode cX5_near 12 = .ok (.if_icmp .ge 49, 3) := by decide +kernel
theorem dX5_near_15 : decode cX5_near 15 = .ok (.aload_n 0, 1) := by decide +kernel
theorem dX5_near_16 : decode cX5_near 16 = .ok (.getfield 12, 3) := by decide +kernel
theorem dX5_near_19 : decode cX5_near 19 = .ok (.getfield 55, 3) := by decide +kernel
theorem dX5_near_22 : decode cX5_near 22 = .ok (.iload_n 2, 1) := by decide +kernel
theorem dX5_near_23 : decode cX5_near 23 = .ok (.iaload, 1) := by decide +kernel
theorem dX5_near_24 : decode cX5_near 24 = .ok (.ifCond .le 31, 3) := by decide +kernel
theorem dX5_near_27 : decode cX5_near 27 = .ok (.aload_n 0, 1) := by decide +kernel
theorem dX5_near_28 : decode cX5_near 28 = .ok (.iload_n 2, 1) := by decide +kernel
theorem dX5_near_29 : decode cX5_near 29 = .ok (.invokevirtual 96, 3) := by decide +kernel
theorem dX5_near_32 : decode cX5_near 32 = .ok (.iconst 5, 1) := by decide +kernel
theorem dX5_near_33 : decode cX5_near 33 = .ok (.if_icmp .gt 22, 3) := by decide +kernel
theorem dX5_near_36 : decode cX5_near 36 = .ok (.iload_n 1, 1) := by decide +kernel
theorem dX5_near_37 : decode cX5_near 37 = .ok (.ifCond .lt 16, 3) := by decide +kernel
theorem dX5_near_40 : decode cX5_near 40 = .ok (.aload_n 0, 1) := by decide +kernel
theorem dX5_near_41 : decode cX5_near 41 = .ok (.iload_n 2, 1) := by decide +kernel
theorem dX5_near_42 : decode cX5_near 42 = .ok (.invokevirtual 99, 3) := by decide +kernel
theorem dX5_near_45 : decode cX5_near 45 = .ok (.aload_n 0, 1) := by decide +kernel
theorem dX5_near_46 : decode cX5_near 46 = .ok (.iload_n 1, 1) := by decide +kernel
theorem dX5_near_47 : decode cX5_near 47 = .ok (.invokevirtual 99, 3) := by decide +kernel
theorem dX5_near_50 : decode cX5_near 50 = .ok (.if_icmp .ge 5, 3) := by decide +kernel
theorem dX5_near_53 : decode cX5_near 53 = .ok (.iload_n 2, 1) := by decide +kernel
theorem dX5_near_54 : decode cX5_near 54 = .ok (.istore_n 1, 1) := by decide +kernel
theorem dX5_near_55 : decode cX5_near 55 = .ok (.iinc 2 1, 3) := by decide +kernel
theorem dX5_near_58 : decode cX5_near 58 = .ok (.goto (-54), 3) := by decide +kernel
theorem dX5_near_61 : decode cX5_near 61 = .ok (.iload_n 1, 1) := by decide +kernel
theorem dX5_near_62 : decode cX5_near 62 = .ok (.ireturn, 1) := by decide +kernel
theorem l_X5_near {d : List Nat} {T : vT} {M : vM} {n : Nat} {f : Int → Int} (hB : vB T) (hW : sgW M 30 n) (hl : M 70 5 = pPack f n) (hf : ∀ j : Nat, 0 ≤ f j ∧ f j ≤ 15) (S : Nat → Bool) (hSd : S = fun j : Nat => decide (0 < M 34 j) && decide (pSeen (M 31) (M 34) f (M 35 0) j ≤ 5)) (v : Nat → Int) (hvd : v = pFar (M 31) (M 35 0)) : ∀ p, p ≤ n →
    vV m_X5_near d d (vPi fun r T1 M1 => r = pOr (-1) (pMin S v n) ∧ T = T1 ∧ M = M1) 4 [some (vR 70), some (vI (pOr (-1) (pMin S v p))), some (vI p)] [] d T M := by
  have hn := hW.le
  have hc : M 30 0 = n := hW.cnt
  refine vUp ?_
  intro p hp ih
  obtain ⟨r, hr⟩ : ∃ r, pMin S v p = r := ⟨_, rfl⟩
  rw [hr]
  have keep : (S p = false ∨ ∃ b, r = some b ∧ v b ≤ v p) → pMin S v (p + 1) = r := fun h => by rw [← hr]; exact pMin_keep (by rw [hr]; exact h)
  have take : S p = true → (∀ b, r = some b → v p < v b) → pMin S v (p + 1) = some p := fun h1 h2 => pMin_take h1 (by rw [hr]; exact h2)
  have hlt : ∀ b, r = some b → b < p := fun b hb => pMin_lt (hr.trans hb)
  cases r with
  | none =>
    rw [pOr_n]
    refine vV.iload_n dX5_near_4 rfl ?_
    refine vV.aload_n dX5_near_5 rfl ?_
    refine vV.getr dX5_near_6 fl_X5_12 (by first | rfl | assumption) rfl (by first | assumption | exact hB _ _ _ rfl) ?_
    refine vV.geti (z := 0) dX5_near_9 fl_X5_93 (by first | rfl | assumption) rfl rfl ?_
    refine vV.icmp_ge (tgt := 61) dX5_near_12 (by decide) (fun h12 => ?_) (fun h12 => ?_)
    · skip
      refine vV.iload_n dX5_near_61 rfl ?_
      refine vV.ri dX5_near_62 rfl ?_
      rw [show n = p by omega, hr]; exact ⟨rfl, rfl, rfl⟩
    · skip
      refine vV.aload_n dX5_near_15 rfl ?_
      refine vV.getr dX5_near_16 fl_X5_12 (by first | rfl | assumption) rfl (by first | assumption | exact hB _ _ _ rfl) ?_
      refine vV.getr dX5_near_19 fl_X5_55 (by first | rfl | assumption) rfl (by first | assumption | exact hB _ _ _ rfl) ?_
      refine vV.iload_n dX5_near_22 rfl ?_
      refine vV.iald dX5_near_23 (by first | rfl | assumption) (by omega) (by omega) ?_
      refine vV.if_le (tgt := 55) dX5_near_24 (by decide) (fun h24 => ?_) (fun h24 => ?_)
      · skip
        rw [keep (Or.inl (by rw [hSd]; simp; omega)), pOr_n] at ih
        refine vV.iinc (L' := [_, _, _]) dX5_near_55 (by decide) rfl (⟨by omega, by omega⟩) rfl ?_
        refine vV.goto (tgt := 4) dX5_near_58 (by decide) ?_
        exact ih (by omega)
      · skip
        refine vV.aload_n dX5_near_27 rfl ?_
        refine vV.iload_n dX5_near_28 rfl ?_
        refine vV.cVi dX5_near_29 ml_X5_96 cw_X5_seen iw_X5_seen (by first | rfl | assumption) rfl (by unfold vRoom; decide) (c_X5_seen hB hW (p := p) (by omega) hl hf) rfl rfl (Nat.le_of_ble_eq_true rfl) ?_
        rintro x29 _ _ hx29 ⟨rfl, rfl, rfl⟩
        refine vV.iconst dX5_near_32 (by decide) ?_
        refine vV.icmp_gt (tgt := 55) dX5_near_33 (by decide) (fun h33 => ?_) (fun h33 => ?_)
        · skip
          rw [keep (Or.inl (by rw [hSd]; simp; omega)), pOr_n] at ih
          refine vV.iinc (L' := [_, _, _]) dX5_near_55 (by decide) rfl (⟨by omega, by omega⟩) rfl ?_
          refine vV.goto (tgt := 4) dX5_near_58 (by decide) ?_
          exact ih (by omega)
        · skip
          refine vV.iload_n dX5_near_36 rfl ?_
          refine vV.if_lt (tgt := 53) dX5_near_37 (by decide) (fun h37 => ?_) (fun h37 => ?_)
          · skip
            rw [take (by rw [hSd]; simp; omega) (fun b hb => nomatch hb), pOr_s] at ih
            refine vV.iload_n dX5_near_53 rfl ?_
            refine vV.istore_n (L' := [_, _, _]) dX5_near_54 (by decide) rfl ?_
            refine vV.iinc (L' := [_, _, _]) dX5_near_55 (by decide) rfl (⟨by omega, by omega⟩) rfl ?_
            refine vV.goto (tgt := 4) dX5_near_58 (by decide) ?_
            exact ih (by omega)
          · skip
            omega
  | some b =>
    have hbp := hlt b rfl
    rw [pOr_s]
    refine vV.iload_n dX5_near_4 rfl ?_
    refine vV.aload_n dX5_near_5 rfl ?_
    refine vV.getr dX5_near_6 fl_X5_12 (by first | rfl | assumption) rfl (by first | assumption | exact hB _ _ _ rfl) ?_
    refine vV.geti (z := 0) dX5_near_9 fl_X5_93 (by first | rfl | assumption) rfl rfl ?_
    refine vV.icmp_ge (tgt := 61) dX5_near_12 (by decide) (fun h12 => ?_) (fun h12 => ?_)
    · skip
      refine vV.iload_n dX5_near_61 rfl ?_
      refine vV.ri dX5_near_62 rfl ?_
      rw [show n = p by omega, hr]; exact ⟨rfl, rfl, rfl⟩
    · skip
      refine vV.aload_n dX5_near_15 rfl ?_
      refine vV.getr dX5_near_16 fl_X5_12 (by first | rfl | assumption) rfl (by first | assumption | exact hB _ _ _ rfl) ?_
      refine vV.getr dX5_near_19 fl_X5_55 (by first | rfl | assumption) rfl (by first | assumption | exact hB _ _ _ rfl) ?_
      refine vV.iload_n dX5_near_22 rfl ?_
      refine vV.iald dX5_near_23 (by first | rfl | assumption) (by omega) (by omega) ?_
      refine vV.if_le (tgt := 55) dX5_near_24 (by decide) (fun h24 => ?_) (fun h24 => ?_)
      · skip
        rw [keep (Or.inl (by rw [hSd]; simp; omega)), pOr_s] at ih
        refine vV.iinc (L' := [_, _, _]) dX5_near_55 (by decide) rfl (⟨by omega, by omega⟩) rfl ?_
        refine vV.goto (tgt := 4) dX5_near_58 (by decide) ?_
        exact ih (by omega)
      · skip
        refine vV.aload_n dX5_near_27 rfl ?_
        refine vV.iload_n dX5_near_28 rfl ?_
        refine vV.cVi dX5_near_29 ml_X5_96 cw_X5_seen iw_X5_seen (by first | rfl | assumption) rfl (by unfold vRoom; decide) (c_X5_seen hB hW (p := p) (by omega) hl hf) rfl rfl (Nat.le_of_ble_eq_true rfl) ?_
        rintro x29 _ _ hx29 ⟨rfl, rfl, rfl⟩
        refine vV.iconst dX5_near_32 (by decide) ?_
        refine vV.icmp_gt (tgt := 55) dX5_near_33 (by decide) (fun h33 => ?_) (fun h33 => ?_)
        · skip
          rw [keep (Or.inl (by rw [hSd]; simp; omega)), pOr_s] at ih
          refine vV.iinc (L' := [_, _, _]) dX5_near_55 (by decide) rfl (⟨by omega, by omega⟩) rfl ?_
          refine vV.goto (tgt := 4) dX5_near_58 (by decide) ?_
          exact ih (by omega)
        · skip
          refine vV.iload_n dX5_near_36 rfl ?_
          refine vV.if_lt (tgt := 53) dX5_near_37 (by decide) (fun h37 => ?_) (fun h37 => ?_)
          · skip
            omega
          · skip
            refine vV.aload_n dX5_near_40 rfl ?_
            refine vV.iload_n dX5_near_41 rfl ?_
            refine vV.cVi dX5_near_42 ml_X5_99 cw_X5_far iw_X5_far (by first | rfl | assumption) rfl (by unfold vRoom; decide) (c_X5_far hB hW (p := p) (by omega)) rfl rfl (Nat.le_of_ble_eq_true rfl) ?_
            rintro x42 _ _ hx42 ⟨rfl, rfl, rfl⟩
            refine vV.aload_n dX5_near_45 rfl ?_
            refine vV.iload_n dX5_near_46 rfl ?_
            refine vV.cVi dX5_near_47 ml_X5_99 cw_X5_far iw_X5_far (by first | rfl | assumption) rfl (by unfold vRoom; decide) (c_X5_far hB hW (p := b) (by omega)) rfl rfl (Nat.le_of_ble_eq_true rfl) ?_
            rintro x47 _ _ hx47 ⟨rfl, rfl, rfl⟩
            refine vV.icmp_ge (tgt := 55) dX5_near_50 (by decide) (fun h50 => ?_) (fun h50 => ?_)
            · skip
              rw [keep (Or.inr ⟨b, rfl, by rw [hvd]; exact h50⟩), pOr_s] at ih
              refine vV.iinc (L' := [_, _, _]) dX5_near_55 (by decide) rfl (⟨by omega, by omega⟩) rfl ?_
              refine vV.goto (tgt := 4) dX5_near_58 (by decide) ?_
              exact ih (by omega)
            · skip
              rw [take (by rw [hSd]; simp; omega) (fun b' hb => by cases hb; rw [hvd]; exact h50), pOr_s] at ih
              refine vV.iload_n dX5_near_53 rfl ?_
              refine vV.istore_n (L' := [_, _, _]) dX5_near_54 (by decide) rfl ?_
              refine vV.iinc (L' := [_, _, _]) dX5_near_55 (by decide) rfl (⟨by omega, by omega⟩) rfl ?_
              refine vV.goto (tgt := 4) dX5_near_58 (by decide) ?_
              exact ih (by omega)
def pNearO (n : Nat) (pl tu f : Int → Int) (man : Int) : Option Nat := pMin (fun j => decide (0 < tu j) && decide (pSeen pl tu f man j ≤ 5)) (pFar pl man) n
theorem c_X5_near {d : List Nat} {T : vT} {M : vM} {n : Nat} {f : Int → Int} (hB : vB T) (hW : sgW M 30 n) (hl : M 70 5 = pPack f n) (hf : ∀ j : Nat, 0 ≤ f j ∧ f j ≤ 15) : vCon m_X5_near d d [vR 70] T M (vPi fun r T1 M1 => r = pOr (-1) (pNearO n (M 31) (M 34) f (M 35 0)) ∧ T = T1 ∧ M = M1) := by
  refine vCon.of (by decide) rfl rfl (Nat.le_of_ble_eq_true rfl) ?_
  have h := l_X5_near (d := d) hB hW hl hf _ rfl _ rfl 0 (by omega)
  refine vV.iconst dX5_near_0 (by decide) ?_
  refine vV.istore_n (L' := [_, _, _]) dX5_near_1 (by decide) rfl ?_
  refine vV.iconst dX5_near_2 (by decide) ?_
  refine vV.istore_n (L' := [_, _, _]) dX5_near_3 (by decide) rfl ?_
  exact h
theorem dX5_leastLeft_0 : decode cX5_leastLeft 0 = .ok (.iconst (-1), 1) := by decide +kernel
theorem dX5_leastLeft_1 : decode cX5_leastLeft 1 = .ok (.istore_n 1, 1) := by decide +kernel
theorem dX5_leastLeft_2 : decode cX5_leastLeft 2 = .ok (.iconst 0, 1) := by decide +kernel
theorem dX5_leastLeft_3 : decode cX5_leastLeft 3 = .ok (.istore_n 2, 1) := by decide +kernel
theorem dX5_leastLeft_4 : decode cX5_leastLeft 4 = .ok (.iconst 0, 1) := by decide +kernel
theorem dX5_leastLeft_5 : decode cX5_leastLeft 5 = .ok (.istore_n 3, 1) := by decide +kernel
theorem dX5_leastLeft_6 : decode cX5_leastLeft 6 = .ok (.iload_n 3, 1) := by decide +kernel
theorem dX5_leastLeft_7 : decode cX5_leastLeft 7 = .ok (.aload_n 0, 1) := by decide +kernel
theorem dX5_leastLeft_8 : decode cX5_leastLeft 8 = .ok (.getfield 12, 3) := by decide +kernel
theorem dX5_leastLeft_11 : decode cX5_leastLeft 11 = .ok (.getfield 93, 3) := by decide +kernel
theorem dX5_leastLeft_14 : decode cX5_leastLeft 14 = .ok (.if_icmp .ge 71, 3) := by decide +kernel
theorem dX5_leastLeft_17 : decode cX5_leastLeft 17 = .ok (.aload_n 0, 1) := by decide +kernel
theorem dX5_leastLeft_18 : decode cX5_leastLeft 18 = .ok (.getfield 12, 3) := by decide +kernel
theorem dX5_leastLeft_21 : decode cX5_leastLeft 21 = .ok (.getfield 55, 3) := by decide +kernel
theorem dX5_leastLeft_24 : decode cX5_leastLeft 24 = .ok (.iload_n 3, 1) := by decide +kernel
theorem dX5_leastLeft_25 : decode cX5_leastLeft 25 = .ok (.iaload, 1) := by decide +kernel
theorem dX5_leastLeft_26 : decode cX5_leastLeft 26 = .ok (.ifCond .le 53, 3) := by decide +kernel
theorem dX5_leastLeft_29 : decode cX5_leastLeft 29 = .ok (.aload_n 0, 1) := by decide +kernel
theorem dX5_leastLeft_30 : decode cX5_leastLeft 30 = .ok (.getfield 12, 3) := by decide +kernel
theorem dX5_leastLeft_33 : decode cX5_leastLeft 33 = .ok (.getfield 102, 3) := by decide +kernel
theorem dX5_leastLeft_36 : decode cX5_leastLeft 36 = .ok (.iload_n 3, 1) := by decide +kernel
theorem dX5_leastLeft_37 : decode cX5_leastLeft 37 = .ok (.iaload, 1) := by decide +kernel
theorem dX5_leastLeft_38 : decode cX5_leastLeft 38 = .ok (.ifCond .le 41, 3) := by decide +kernel
theorem dX5_leastLeft_41 : decode cX5_leastLeft 41 = .ok (.aload_n 0, 1) := by decide +kernel
theorem dX5_leastLeft_42 : decode cX5_leastLeft 42 = .ok (.iload_n 3, 1) := by decide +kernel
theorem dX5_leastLeft_43 : decode cX5_leastLeft 43 = .ok (.invokevirtual 96, 3) := by decide +kernel
theorem dX5_leastLeft_46 : decode cX5_leastLeft 46 = .ok (.aload_n 0, 1) := by decide +kernel
theorem dX5_leastLeft_47 : decode cX5_leastLeft 47 = .ok (.getfield 12, 3) := by decide +kernel
theorem dX5_leastLeft_50 : decode cX5_leastLeft 50 = .ok (.getfield 102, 3) := by decide +kernel
theorem dX5_leastLeft_53 : decode cX5_leastLeft 53 = .ok (.iload_n 3, 1) := by decide +kernel
theorem dX5_leastLeft_54 : decode cX5_leastLeft 54 = .ok (.iaload, 1) := by decide +kernel
theorem dX5_leastLeft_55 : decode cX5_leastLeft 55 = .ok (.idiv, 1) := by decide +kernel
theorem dX5_leastLeft_56 : decode cX5_leastLeft 56 = .ok (.aload_n 0, 1) := by decide +kernel
theorem dX5_leastLeft_57 : decode cX5_leastLeft 57 = .ok (.iload_n 3, 1) := by decide +kernel
theorem dX5_leastLeft_58 : decode cX5_leastLeft 58 = .ok (.invokevirtual 99, 3) := by decide +kernel
theorem dX5_leastLeft_61 : decode cX5_leastLeft 61 = .ok (.isub, 1) := by decide +kernel
theorem dX5_leastLeft_62 : decode cX5_leastLeft 62 = .ok (.istore 4, 2) := by decide +kernel
theorem dX5_leastLeft_64 : decode cX5_leastLeft 64 = .ok (.iload_n 1, 1) := by decide +kernel
theorem dX5_leastLeft_65 : decode cX5_leastLeft 65 = .ok (.ifCond .lt 9, 3) := by decide +kernel
theorem dX5_leastLeft_68 : decode cX5_leastLeft 68 = .ok (.iload 4, 2) := by decide +kernel
theorem dX5_leastLeft_70 : decode cX5_leastLeft 70 = .ok (.iload_n 2, 1) := by decide +kernel
theorem dX5_leastLeft_71 : decode cX5_leastLeft 71 = .ok (.if_icmp .ge 8, 3) := by decide +kernel
theorem dX5_leastLeft_74 : decode cX5_leastLeft 74 = .ok (.iload_n 3, 1) := by decide +kernel
theorem dX5_leastLeft_75 : decode cX5_leastLeft 75 = .ok (.istore_n 1, 1) := by decide +kernel
theorem dX5_leastLeft_76 : decode cX5_leastLeft 76 = .ok (.iload 4, 2) := by decide +kernel
theorem dX5_leastLeft_78 : decode cX5_leastLeft 78 = .ok (.istore_n 2, 1) := by decide +kernel
theorem dX5_leastLeft_79 : decode cX5_leastLeft 79 = .ok (.iinc 3 1, 3) := by decide +kernel
theorem dX5_leastLeft_82 : decode cX5_leastLeft 82 = .ok (.goto (-76), 3) := by decide +kernel
theorem dX5_leastLeft_85 : decode cX5_leastLeft 85 = .ok (.iload_n 1, 1) := by decide +kernel
theorem dX5_leastLeft_86 : decode cX5_leastLeft 86 = .ok (.ireturn, 1) := by decide +kernel
theorem l_X5_leastLeft {d : List Nat} {T : vT} {M : vM} {n : Nat} {f : Int → Int} (hB : vB T) (hW : sgW M 30 n) (hl : M 70 5 = pPack f n) (hf : ∀ j : Nat, 0 ≤ f j ∧ f j ≤ 15) (S : Nat → Bool) (hSd : S = fun j : Nat => decide (0 < M 34 j)) (v : Nat → Int) (hvd : v = pLv (M 31) (M 33) (M 34) f (M 35 0)) : ∀ p, p ≤ n → ∀ (y : Int) (x4 : Option vA), (∀ b, pMin S v p = some b → y = v b) →
    vV m_X5_leastLeft d d (vPi fun r T1 M1 => r = pOr (-1) (pMin S v n) ∧ T = T1 ∧ M = M1) 6 [some (vR 70), some (vI (pOr (-1) (pMin S v p))), some (vI y), some (vI p), x4] [] d T M := by
  have hn := hW.le
  have hc : M 30 0 = n := hW.cnt
  have htu := hW.tu
  have hW2 := hW
  obtain ⟨-, -, -, -, hpl, hfu, hfa, -, hs0, -, -, -, -, hmin, -⟩ := hW2
  refine vUp ?_
  intro p hp ih y x4 hy
  have r1 := pSeen_rg (pl := M 31) (tu := M 34) (f := f) (man := M 35 0) htu hf p
  have r2 := pFar_rg (pl := M 31) (man := M 35 0) (fun j => hpl j) hs0 p
  have r0 : 0 ≤ M 33 p ∧ M 33 p ≤ 3 := hfa p
  obtain ⟨r, hr⟩ : ∃ r, pMin S v p = r := ⟨_, rfl⟩
  rw [hr] at hy ⊢
  have keep : (S p = false ∨ ∃ b, r = some b ∧ v b ≤ v p) → pMin S v (p + 1) = r := fun h => by rw [← hr]; exact pMin_keep (by rw [hr]; exact h)
  have take : S p = true → (∀ b, r = some b → v p < v b) → pMin S v (p + 1) = some p := fun h1 h2 => pMin_take h1 (by rw [hr]; exact h2)
  have hlt : ∀ b, r = some b → b < p := fun b hb => pMin_lt (hr.trans hb)
  have hf1 : p < n → 1 ≤ M 33 p := fun h => (hmin p h).2
  cases r with
  | none =>
    rw [pOr_n]
    refine vV.iload_n dX5_leastLeft_6 rfl ?_
    refine vV.aload_n dX5_leastLeft_7 rfl ?_
    refine vV.getr dX5_leastLeft_8 fl_X5_12 (by first | rfl | assumption) rfl (by first | assumption | exact hB _ _ _ rfl) ?_
    refine vV.geti (z := 0) dX5_leastLeft_11 fl_X5_93 (by first | rfl | assumption) rfl rfl ?_
    refine vV.icmp_ge (tgt := 85) dX5_leastLeft_14 (by decide) (fun h14 => ?_) (fun h14 => ?_)
    · skip
      refine vV.iload_n dX5_leastLeft_85 rfl ?_
      refine vV.ri dX5_leastLeft_86 rfl ?_
      rw [show n = p by omega, hr]; exact ⟨rfl, rfl, rfl⟩
    · skip
      have f1 := hf1 (by omega)
      refine vV.aload_n dX5_leastLeft_17 rfl ?_
      refine vV.getr dX5_leastLeft_18 fl_X5_12 (by first | rfl | assumption) rfl (by first | assumption | exact hB _ _ _ rfl) ?_
      refine vV.getr dX5_leastLeft_21 fl_X5_55 (by first | rfl | assumption) rfl (by first | assumption | exact hB _ _ _ rfl) ?_
      refine vV.iload_n dX5_leastLeft_24 rfl ?_
      refine vV.iald dX5_leastLeft_25 (by first | rfl | assumption) (by omega) (by omega) ?_
      refine vV.if_le (tgt := 79) dX5_leastLeft_26 (by decide) (fun h26 => ?_) (fun h26 => ?_)
      · skip
        rw [keep (Or.inl (by rw [hSd]; simp; omega)), pOr_n] at ih
        refine vV.iinc (L' := [_, _, _, _, _]) dX5_leastLeft_79 (by decide) rfl (⟨by omega, by omega⟩) rfl ?_
        refine vV.goto (tgt := 6) dX5_leastLeft_82 (by decide) ?_
        exact ih (by omega) _ _ (fun b hb => by cases hb <;> (rw [hvd]; rfl))
      · skip
        refine vV.aload_n dX5_leastLeft_29 rfl ?_
        refine vV.getr dX5_leastLeft_30 fl_X5_12 (by first | rfl | assumption) rfl (by first | assumption | exact hB _ _ _ rfl) ?_
        refine vV.getr dX5_leastLeft_33 fl_X5_102 (by first | rfl | assumption) rfl (by first | assumption | exact hB _ _ _ rfl) ?_
        refine vV.iload_n dX5_leastLeft_36 rfl ?_
        refine vV.iald dX5_leastLeft_37 (by first | rfl | assumption) (by omega) (by omega) ?_
        refine vV.if_le (tgt := 79) dX5_leastLeft_38 (by decide) (fun h38 => ?_) (fun h38 => ?_)
        · skip
          omega
        · skip
          refine vV.aload_n dX5_leastLeft_41 rfl ?_
          refine vV.iload_n dX5_leastLeft_42 rfl ?_
          refine vV.cVi dX5_leastLeft_43 ml_X5_96 cw_X5_seen iw_X5_seen (by first | rfl | assumption) rfl (by unfold vRoom; decide) (c_X5_seen hB hW (p := p) (by omega) hl hf) rfl rfl (Nat.le_of_ble_eq_true rfl) ?_
          rintro x43 _ _ hx43 ⟨rfl, rfl, rfl⟩
          refine vV.aload_n dX5_leastLeft_46 rfl ?_
          refine vV.getr dX5_leastLeft_47 fl_X5_12 (by first | rfl | assumption) rfl (by first | assumption | exact hB _ _ _ rfl) ?_
          refine vV.getr dX5_leastLeft_50 fl_X5_102 (by first | rfl | assumption) rfl (by first | assumption | exact hB _ _ _ rfl) ?_
          refine vV.iload_n dX5_leastLeft_53 rfl ?_
          refine vV.iald dX5_leastLeft_54 (by first | rfl | assumption) (by omega) (by omega) ?_
          have r3 := ediv_rg (y := M 33 p) r1.1 (by omega)
          refine vV.idiv dX5_leastLeft_55 (by omega) (by rw [tdiv_nn r1.1]; exact ⟨by omega, by omega⟩) ?_
          rw [tdiv_nn r1.1]
          refine vV.aload_n dX5_leastLeft_56 rfl ?_
          refine vV.iload_n dX5_leastLeft_57 rfl ?_
          refine vV.cVi dX5_leastLeft_58 ml_X5_99 cw_X5_far iw_X5_far (by first | rfl | assumption) rfl (by unfold vRoom; decide) (c_X5_far hB hW (p := p) (by omega)) rfl rfl (Nat.le_of_ble_eq_true rfl) ?_
          rintro x58 _ _ hx58 ⟨rfl, rfl, rfl⟩
          refine vV.isub dX5_leastLeft_61 (⟨by omega, by omega⟩) ?_
          refine vV.istore (L' := [_, _, _, _, _]) dX5_leastLeft_62 (by decide) rfl ?_
          refine vV.iload_n dX5_leastLeft_64 rfl ?_
          refine vV.if_lt (tgt := 74) dX5_leastLeft_65 (by decide) (fun h65 => ?_) (fun h65 => ?_)
          · skip
            rw [take (by rw [hSd]; simp; omega) (fun b hb => nomatch hb), pOr_s] at ih
            refine vV.iload_n dX5_leastLeft_74 rfl ?_
            refine vV.istore_n (L' := [_, _, _, _, _]) dX5_leastLeft_75 (by decide) rfl ?_
            refine vV.iload dX5_leastLeft_76 rfl ?_
            refine vV.istore_n (L' := [_, _, _, _, _]) dX5_leastLeft_78 (by decide) rfl ?_
            refine vV.iinc (L' := [_, _, _, _, _]) dX5_leastLeft_79 (by decide) rfl (⟨by omega, by omega⟩) rfl ?_
            refine vV.goto (tgt := 6) dX5_leastLeft_82 (by decide) ?_
            exact ih (by omega) _ _ (fun b hb => by cases hb <;> (rw [hvd]; rfl))
          · skip
            omega
  | some b =>
    have hbp := hlt b rfl
    have hyb := hy b rfl
    rw [pOr_s]
    refine vV.iload_n dX5_leastLeft_6 rfl ?_
    refine vV.aload_n dX5_leastLeft_7 rfl ?_
    refine vV.getr dX5_leastLeft_8 fl_X5_12 (by first | rfl | assumption) rfl (by first | assumption | exact hB _ _ _ rfl) ?_
    refine vV.geti (z := 0) dX5_leastLeft_11 fl_X5_93 (by first | rfl | assumption) rfl rfl ?_
    refine vV.icmp_ge (tgt := 85) dX5_leastLeft_14 (by decide) (fun h14 => ?_) (fun h14 => ?_)
    · skip
      refine vV.iload_n dX5_leastLeft_85 rfl ?_
      refine vV.ri dX5_leastLeft_86 rfl ?_
      rw [show n = p by omega, hr]; exact ⟨rfl, rfl, rfl⟩
    · skip
      have f1 := hf1 (by omega)
      refine vV.aload_n dX5_leastLeft_17 rfl ?_
      refine vV.getr dX5_leastLeft_18 fl_X5_12 (by first | rfl | assumption) rfl (by first | assumption | exact hB _ _ _ rfl) ?_
      refine vV.getr dX5_leastLeft_21 fl_X5_55 (by first | rfl | assumption) rfl (by first | assumption | exact hB _ _ _ rfl) ?_
      refine vV.iload_n dX5_leastLeft_24 rfl ?_
      refine vV.iald dX5_leastLeft_25 (by first | rfl | assumption) (by omega) (by omega) ?_
      refine vV.if_le (tgt := 79) dX5_leastLeft_26 (by decide) (fun h26 => ?_) (fun h26 => ?_)
      · skip
        rw [keep (Or.inl (by rw [hSd]; simp; omega)), pOr_s] at ih
        refine vV.iinc (L' := [_, _, _, _, _]) dX5_leastLeft_79 (by decide) rfl (⟨by omega, by omega⟩) rfl ?_
        refine vV.goto (tgt := 6) dX5_leastLeft_82 (by decide) ?_
        exact ih (by omega) _ _ (fun b' hb => by cases hb; first | exact hyb | (rw [hvd]; rfl))
      · skip
        refine vV.aload_n dX5_leastLeft_29 rfl ?_
        refine vV.getr dX5_leastLeft_30 fl_X5_12 (by first | rfl | assumption) rfl (by first | assumption | exact hB _ _ _ rfl) ?_
        refine vV.getr dX5_leastLeft_33 fl_X5_102 (by first | rfl | assumption) rfl (by first | assumption | exact hB _ _ _ rfl) ?_
        refine vV.iload_n dX5_leastLeft_36 rfl ?_
        refine vV.iald dX5_leastLeft_37 (by first | rfl | assumption) (by omega) (by omega) ?_
        refine vV.if_le (tgt := 79) dX5_leastLeft_38 (by decide) (fun h38 => ?_) (fun h38 => ?_)
        · skip
          omega
        · skip
          refine vV.aload_n dX5_leastLeft_41 rfl ?_
          refine vV.iload_n dX5_leastLeft_42 rfl ?_
          refine vV.cVi dX5_leastLeft_43 ml_X5_96 cw_X5_seen iw_X5_seen (by first | rfl | assumption) rfl (by unfold vRoom; decide) (c_X5_seen hB hW (p := p) (by omega) hl hf) rfl rfl (Nat.le_of_ble_eq_true rfl) ?_
          rintro x43 _ _ hx43 ⟨rfl, rfl, rfl⟩
          refine vV.aload_n dX5_leastLeft_46 rfl ?_
          refine vV.getr dX5_leastLeft_47 fl_X5_12 (by first | rfl | assumption) rfl (by first | assumption | exact hB _ _ _ rfl) ?_
          refine vV.getr dX5_leastLeft_50 fl_X5_102 (by first | rfl | assumption) rfl (by first | assumption | exact hB _ _ _ rfl) ?_
          refine vV.iload_n dX5_leastLeft_53 rfl ?_
          refine vV.iald dX5_leastLeft_54 (by first | rfl | assumption) (by omega) (by omega) ?_
          have r3 := ediv_rg (y := M 33 p) r1.1 (by omega)
          refine vV.idiv dX5_leastLeft_55 (by omega) (by rw [tdiv_nn r1.1]; exact ⟨by omega, by omega⟩) ?_
          rw [tdiv_nn r1.1]
          refine vV.aload_n dX5_leastLeft_56 rfl ?_
          refine vV.iload_n dX5_leastLeft_57 rfl ?_
          refine vV.cVi dX5_leastLeft_58 ml_X5_99 cw_X5_far iw_X5_far (by first | rfl | assumption) rfl (by unfold vRoom; decide) (c_X5_far hB hW (p := p) (by omega)) rfl rfl (Nat.le_of_ble_eq_true rfl) ?_
          rintro x58 _ _ hx58 ⟨rfl, rfl, rfl⟩
          refine vV.isub dX5_leastLeft_61 (⟨by omega, by omega⟩) ?_
          refine vV.istore (L' := [_, _, _, _, _]) dX5_leastLeft_62 (by decide) rfl ?_
          refine vV.iload_n dX5_leastLeft_64 rfl ?_
          refine vV.if_lt (tgt := 74) dX5_leastLeft_65 (by decide) (fun h65 => ?_) (fun h65 => ?_)
          · skip
            omega
          · skip
            refine vV.iload dX5_leastLeft_68 rfl ?_
            refine vV.iload_n dX5_leastLeft_70 rfl ?_
            refine vV.icmp_ge (tgt := 79) dX5_leastLeft_71 (by decide) (fun h71 => ?_) (fun h71 => ?_)
            · skip
              rw [hyb] at h71
              rw [keep (Or.inr ⟨b, rfl, by rw [hvd] at h71 ⊢; exact h71⟩), pOr_s] at ih
              refine vV.iinc (L' := [_, _, _, _, _]) dX5_leastLeft_79 (by decide) rfl (⟨by omega, by omega⟩) rfl ?_
              refine vV.goto (tgt := 6) dX5_leastLeft_82 (by decide) ?_
              exact ih (by omega) _ _ (fun b' hb => by cases hb; first | exact hyb | (rw [hvd]; rfl))
            · skip
              rw [hyb] at h71
              rw [take (by rw [hSd]; simp; omega) (fun b' hb => by cases hb; rw [hvd] at h71 ⊢; exact h71), pOr_s] at ih
              refine vV.iload_n dX5_leastLeft_74 rfl ?_
              refine vV.istore_n (L' := [_, _, _, _, _]) dX5_leastLeft_75 (by decide) rfl ?_
              refine vV.iload dX5_leastLeft_76 rfl ?_
              refine vV.istore_n (L' := [_, _, _, _, _]) dX5_leastLeft_78 (by decide) rfl ?_
              refine vV.iinc (L' := [_, _, _, _, _]) dX5_leastLeft_79 (by decide) rfl (⟨by omega, by omega⟩) rfl ?_
              refine vV.goto (tgt := 6) dX5_leastLeft_82 (by decide) ?_
              exact ih (by omega) _ _ (fun b' hb => by cases hb; first | exact hyb | (rw [hvd]; rfl))
theorem c_X5_leastLeft {d : List Nat} {T : vT} {M : vM} {n : Nat} {f : Int → Int} (hB : vB T) (hW : sgW M 30 n) (hl : M 70 5 = pPack f n) (hf : ∀ j : Nat, 0 ≤ f j ∧ f j ≤ 15) : vCon m_X5_leastLeft d d [vR 70] T M (vPi fun r T1 M1 => r = pOr (-1) (pLeft n (M 31) (M 33) (M 34) f (M 35 0)) ∧ T = T1 ∧ M = M1) := by
  refine vCon.of (by decide) rfl rfl (Nat.le_of_ble_eq_true rfl) ?_
  have h := l_X5_leastLeft (d := d) hB hW hl hf _ rfl _ rfl 0 (by omega)
  refine vV.iconst dX5_leastLeft_0 (by decide) ?_
  refine vV.istore_n (L' := [_, _, _, _, _]) dX5_leastLeft_1 (by decide) rfl ?_
  refine vV.iconst dX5_leastLeft_2 (by decide) ?_
  refine vV.istore_n (L' := [_, _, _, _, _]) dX5_leastLeft_3 (by decide) rfl ?_
  refine vV.iconst dX5_leastLeft_4 (by decide) ?_
  refine vV.istore_n (L' := [_, _, _, _, _]) dX5_leastLeft_5 (by decide) rfl ?_
  exact h _ _ (fun b hb => nomatch hb)
end
section
/-! ===== own: the class's walker: choose, act ===== -/
theorem dX5_nextByNumber_0 : decode cX5_nextByNumber 0 = .ok (.aload_n 0, 1) := by decide +kernel
theorem dX5_nextByNumber_1 : decode cX5_nextByNumber 1 = .ok (.getfield 42, 3) := by decide +kernel
theorem dX5_nextByNumber_4 : decode cX5_nextByNumber 4 = .ok (.istore_n 1, 1) := by decide +kernel
theorem dX5_nextByNumber_5 : decode cX5_nextByNumber 5 = .ok (.iconst 0, 1) := by decide +kernel
theorem dX5_nextByNumber_6 : decode cX5_nextByNumber 6 = .ok (.istore_n 2, 1) := by decide +kernel
theorem dX5_nextByNumber_7 : decode cX5_nextByNumber 7 = .ok (.iload_n 2, 1) := by decide +kernel
theorem dX5_nextByNumber_8 : decode cX5_nextByNumber 8 = .ok (.aload_n 0, 1) := by decide +kernel
theorem dX5_nextByNumber_9 : decode cX5_nextByNumber 9 = .ok (.getfield 12, 3) := by decide +kernel
theorem dX5_nextByNumber_12 : decode cX5_nextByNumber 12 = .ok (.getfield 93, 3) := by decide +kernel
theorem dX5_nextByNumber_15 : decode cX5_nextByNumber 15 = .ok (.if_icmp .ge 44, 3) := by decide +kernel
theorem dX5_nextByNumber_18 : decode cX5_nextByNumber 18 = .ok (.iload_n 1, 1) := by decide +kernel
theorem dX5_nextByNumber_19 : decode cX5_nextByNumber 19 = .ok (.iconst 1, 1) := by decide +kernel
theorem dX5_nextByNumber_20 : decode cX5_nextByNumber 20 = .ok (.iadd, 1) := by decide +kernel
theorem dX5_nextByNumber_21 : decode cX5_nextByNumber 21 = .ok (.aload_n 0, 1) := by decide +kernel
theorem dX5_nextByNumber_22 : decode cX5_nextByNumber 22 = .ok (.getfield 12, 3) := by decide +kernel
theorem dX5_nextByNumber_25 : decode cX5_nextByNumber 25 = .ok (.getfield 93, 3) := by decide +kernel
theorem dX5_nextByNumber_28 : decode cX5_nextByNumber 28 = .ok (.if_icmp .ge 9, 3) := by decide +kernel
theorem dX5_nextByNumber_31 : decode cX5_nextByNumber 31 = .ok (.iload_n 1, 1) := by decide +kernel
theorem dX5_nextByNumber_32 : decode cX5_nextByNumber 32 = .ok (.iconst 1, 1) := by decide +kernel
theorem dX5_nextByNumber_33 : decode cX5_nextByNumber 33 = .ok (.iadd, 1) := by decide +kernel
theorem dX5_nextByNumber_34 : decode cX5_nextByNumber 34 = .ok (.goto 4, 3) := by decide +kernel
theorem dX5_nextByNumber_37 : decode cX5_nextByNumber 37 = .ok (.iconst 0, 1) := by decide +kernel
theorem dX5_nextByNumber_38 : decode cX5_nextByNumber 38 = .ok (.istore_n 1, 1) := by decide +kernel
theorem dX5_nextByNumber_39 : decode cX5_nextByNumber 39 = .ok (.aload_n 0, 1) := by decide +kernel
theorem dX5_nextByNumber_40 : decode cX5_nextByNumber 40 = .ok (.getfield 12, 3) := by decide +kernel
theorem dX5_nextByNumber_43 : decode cX5_nextByNumber 43 = .ok (.getfield 55, 3) := by decide +kernel
theorem dX5_nextByNumber_46 : decode cX5_nextByNumber 46 = .ok (.iload_n 1, 1) := by decide +kernel
theorem dX5_nextByNumber_47 : decode cX5_nextByNumber 47 = .ok (.iaload, 1) := by decide +kernel
theorem dX5_nextByNumber_48 : decode cX5_nextByNumber 48 = .ok (.ifCond .le 5, 3) := by decide +kernel
theorem dX5_nextByNumber_51 : decode cX5_nextByNumber 51 = .ok (.iload_n 1, 1) := by decide +kernel
theorem dX5_nextByNumber_52 : decode cX5_nextByNumber 52 = .ok (.ireturn, 1) := by decide +kernel
theorem dX5_nextByNumber_53 : decode cX5_nextByNumber 53 = .ok (.iinc 2 1, 3) := by decide +kernel
theorem dX5_nextByNumber_56 : decode cX5_nextByNumber 56 = .ok (.goto (-49), 3) := by decide +kernel
theorem dX5_nextByNumber_59 : decode cX5_nextByNumber 59 = .ok (.iconst (-1), 1) := by decide +kernel
theorem dX5_nextByNumber_60 : decode cX5_nextByNumber 60 = .ok (.ireturn, 1) := by decide +kernel
theorem mod_next {m n : Nat} (hn : 0 < n) : (m + 1) % n = if m % n + 1 < n then m % n + 1 else 0 := by
  have h1 : (m % n + 1) % n = (m + 1) % n := Nat.mod_add_mod m n 1
  have h2 := Nat.mod_lt m hn
  rw [← h1]
  split
  · rename_i h; exact Nat.mod_eq_of_lt h
  · rw [show m % n + 1 = n by omega, Nat.mod_self]
def pPv (n : Nat) (l : Option Nat) (i : Nat) : Int := match l with
  | none => (i : Int) - 1
  | some q => (((q + i) % n : Nat) : Int)
theorem pPv_n {n : Nat} {l : Option Nat} {i : Nat} (h : i < n) : (if pPv n l i + 1 < n then pPv n l i + 1 else 0) = (pIdx n l i : Nat) := by
  cases l with
  | none => show (if (i : Int) - 1 + 1 < n then (i : Int) - 1 + 1 else 0) = (i : Int); rw [if_pos (by omega)]; omega
  | some q =>
    have hm := mod_next (m := q + i) (n := n) (by omega)
    show (if (((q + i) % n : Nat) : Int) + 1 < n then (((q + i) % n : Nat) : Int) + 1 else 0) = (((q + 1 + i) % n : Nat) : Int)
    rw [show q + 1 + i = q + i + 1 by omega, hm]
    by_cases hh : (q + i) % n + 1 < n
    · rw [if_pos hh, if_pos (by omega)]; omega
    · rw [if_neg hh, if_neg (by omega)]; rfl
theorem pPv_s {n : Nat} {l : Option Nat} {i : Nat} : pPv n l (i + 1) = (pIdx n l i : Nat) := by
  cases l with
  | none => show ((i + 1 : Nat) : Int) - 1 = (i : Int); omega
  | some q => show (((q + (i + 1)) % n : Nat) : Int) = (((q + 1 + i) % n : Nat) : Int); rw [show q + (i + 1) = q + 1 + i by omega]
theorem pPv_rg {n : Nat} {l : Option Nat} {i : Nat} (hn : 0 < n) (h : i ≤ n) : -1 ≤ pPv n l i ∧ pPv n l i < n := by
  cases l with
  | none => show -1 ≤ (i : Int) - 1 ∧ (i : Int) - 1 < n; omega
  | some q => have := Nat.mod_lt (q + i) hn; show -1 ≤ (((q + i) % n : Nat) : Int) ∧ (((q + i) % n : Nat) : Int) < n; omega
theorem l_X5_next {d : List Nat} {T : vT} {M : vM} {n : Nat} {l : Option Nat} (hB : vB T) (hW : sgW M 30 n) : ∀ i, i ≤ n → (∀ j : Nat, j < i → decide (0 < M 34 (pIdx n l j)) = false) →
    vV m_X5_nextByNumber d d (vPi fun r T1 M1 => r = pOr (-1) (pNext n (M 34) l) ∧ T = T1 ∧ M = M1) 7 [some (vR 70), some (vI (pPv n l i)), some (vI i)] [] d T M := by
  have hn := hW.le
  have hc : M 30 0 = n := hW.cnt
  obtain ⟨R, hR⟩ : ∃ R, R = pOr (-1) (pNext n (M 34) l) := ⟨_, rfl⟩
  rw [← hR]
  unfold pNext at hR
  refine vUp ?_
  intro i hi ih hj
  have hF0 : i = n → R = -1 := fun h => by rw [hR, pFind_no (fun j hjn => hj j (by omega))]; rfl
  have hF1 : i < n → 0 < M 34 (pIdx n l i) → R = (pIdx n l i : Nat) := fun h h2 => by rw [hR, pFind_yes h (by simpa using h2) hj]; rfl
  have hI : i < n → pIdx n l i < n := fun h => pIdx_lt h
  have hnx : ¬ 0 < M 34 (pIdx n l i) → ∀ j : Nat, j < i + 1 → decide (0 < M 34 (pIdx n l j)) = false := fun h j hjp => (Nat.lt_succ_iff_lt_or_eq.mp hjp).elim (hj j) (fun e => by subst e; simpa using h)
  rw [pPv_s] at ih
  refine vV.iload_n dX5_nextByNumber_7 rfl ?_
  refine vV.aload_n dX5_nextByNumber_8 rfl ?_
  refine vV.getr dX5_nextByNumber_9 fl_X5_12 (by first | rfl | assumption) rfl (by first | assumption | exact hB _ _ _ rfl) ?_
  refine vV.geti (z := 0) dX5_nextByNumber_12 fl_X5_93 (by first | rfl | assumption) rfl rfl ?_
  refine vV.icmp_ge (tgt := 59) dX5_nextByNumber_15 (by decide) (fun h15 => ?_) (fun h15 => ?_)
  · skip
    refine vV.iconst dX5_nextByNumber_59 (by decide) ?_
    refine vV.ri dX5_nextByNumber_60 rfl ?_
    exact ⟨(hF0 (by omega)).symm, rfl, rfl⟩
  · skip
    have hI2 := hI (by omega)
    have hrg := pPv_rg (n := n) (l := l) (i := i) (by omega) hi
    have hpv := pPv_n (l := l) (show i < n by omega)
    refine vV.iload_n dX5_nextByNumber_18 rfl ?_
    refine vV.iconst dX5_nextByNumber_19 (by decide) ?_
    refine vV.iadd dX5_nextByNumber_20 (⟨by omega, by omega⟩) ?_
    refine vV.aload_n dX5_nextByNumber_21 rfl ?_
    refine vV.getr dX5_nextByNumber_22 fl_X5_12 (by first | rfl | assumption) rfl (by first | assumption | exact hB _ _ _ rfl) ?_
    refine vV.geti (z := 0) dX5_nextByNumber_25 fl_X5_93 (by first | rfl | assumption) rfl rfl ?_
    refine vV.icmp_ge (tgt := 37) dX5_nextByNumber_28 (by decide) (fun h28 => ?_) (fun h28 => ?_)
    · skip
      rw [if_neg (by omega)] at hpv
      refine vV.iconst dX5_nextByNumber_37 (by decide) ?_
      rw [hpv]
      refine vV.istore_n (L' := [_, _, _]) dX5_nextByNumber_38 (by decide) rfl ?_
      refine vV.aload_n dX5_nextByNumber_39 rfl ?_
      refine vV.getr dX5_nextByNumber_40 fl_X5_12 (by first | rfl | assumption) rfl (by first | assumption | exact hB _ _ _ rfl) ?_
      refine vV.getr dX5_nextByNumber_43 fl_X5_55 (by first | rfl | assumption) rfl (by first | assumption | exact hB _ _ _ rfl) ?_
      refine vV.iload_n dX5_nextByNumber_46 rfl ?_
      refine vV.iald dX5_nextByNumber_47 (by first | rfl | assumption) (by omega) (by omega) ?_
      refine vV.if_le (tgt := 53) dX5_nextByNumber_48 (by decide) (fun h48 => ?_) (fun h48 => ?_)
      · skip
        refine vV.iinc (L' := [_, _, _]) dX5_nextByNumber_53 (by decide) rfl (⟨by omega, by omega⟩) rfl ?_
        refine vV.goto (tgt := 7) dX5_nextByNumber_56 (by decide) ?_
        exact ih (by omega) (hnx (by omega))
      · skip
        refine vV.iload_n dX5_nextByNumber_51 rfl ?_
        refine vV.ri dX5_nextByNumber_52 rfl ?_
        exact ⟨(hF1 (by omega) (by omega)).symm, rfl, rfl⟩
    · skip
      rw [if_pos (by omega)] at hpv
      refine vV.iload_n dX5_nextByNumber_31 rfl ?_
      refine vV.iconst dX5_nextByNumber_32 (by decide) ?_
      refine vV.iadd dX5_nextByNumber_33 (⟨by omega, by omega⟩) ?_
      refine vV.goto (tgt := 38) dX5_nextByNumber_34 (by decide) ?_
      rw [hpv]
      refine vV.istore_n (L' := [_, _, _]) dX5_nextByNumber_38 (by decide) rfl ?_
      refine vV.aload_n dX5_nextByNumber_39 rfl ?_
      refine vV.getr dX5_nextByNumber_40 fl_X5_12 (by first | rfl | assumption) rfl (by first | assumption | exact hB _ _ _ rfl) ?_
      refine vV.getr dX5_nextByNumber_43 fl_X5_55 (by first | rfl | assumption) rfl (by first | assumption | exact hB _ _ _ rfl) ?_
      refine vV.iload_n dX5_nextByNumber_46 rfl ?_
      refine vV.iald dX5_nextByNumber_47 (by first | rfl | assumption) (by omega) (by omega) ?_
      refine vV.if_le (tgt := 53) dX5_nextByNumber_48 (by decide) (fun h48 => ?_) (fun h48 => ?_)
      · skip
        refine vV.iinc (L' := [_, _, _]) dX5_nextByNumber_53 (by decide) rfl (⟨by omega, by omega⟩) rfl ?_
        refine vV.goto (tgt := 7) dX5_nextByNumber_56 (by decide) ?_
        exact ih (by omega) (hnx (by omega))
      · skip
        refine vV.iload_n dX5_nextByNumber_51 rfl ?_
        refine vV.ri dX5_nextByNumber_52 rfl ?_
        exact ⟨(hF1 (by omega) (by omega)).symm, rfl, rfl⟩
theorem c_X5_nextByNumber {d : List Nat} {T : vT} {M : vM} {n : Nat} {l : Option Nat} (hB : vB T) (hW : sgW M 30 n) (hl : M 70 4 = pOr (-1) l) (hln : ∀ k, l = some k → k < n) : vCon m_X5_nextByNumber d d [vR 70] T M (vPi fun r T1 M1 => r = pOr (-1) (pNext n (M 34) l) ∧ T = T1 ∧ M = M1) := by
  refine vCon.of (by decide) rfl rfl (Nat.le_of_ble_eq_true rfl) ?_
  have h := l_X5_next (d := d) (l := l) hB hW 0 (by omega) (fun j hj => by omega)
  have e : pPv n l 0 = pOr (-1) l := by
    cases l with
    | none => rfl
    | some q => show (((q + 0) % n : Nat) : Int) = (q : Int); rw [Nat.add_zero, Nat.mod_eq_of_lt (hln q rfl)]
  rw [e] at h
  refine vV.aload_n dX5_nextByNumber_0 rfl ?_
  refine vV.geti (z := 4) dX5_nextByNumber_1 fl_X5_42 (by first | rfl | assumption) rfl rfl ?_
  rw [hl]
  refine vV.istore_n (L' := [_, _, _]) dX5_nextByNumber_4 (by decide) rfl ?_
  refine vV.iconst dX5_nextByNumber_5 (by decide) ?_
  refine vV.istore_n (L' := [_, _, _]) dX5_nextByNumber_6 (by decide) rfl ?_
  exact h
def wSlot (J : List Int) (M M1 : vM) : Prop := ∀ j, j ∉ J → M1 70 j = M 70 j
theorem dX5_takeGoal_0 : decode cX5_takeGoal 0 = .ok (.aload_n 0, 1) := by decide +kernel
theorem dX5_takeGoal_1 : decode cX5_takeGoal 1 = .ok (.aload_n 0, 1) := by decide +kernel
theorem dX5_takeGoal_2 : decode cX5_takeGoal 2 = .ok (.getfield 18, 3) := by decide +kernel
theorem dX5_takeGoal_5 : decode cX5_takeGoal 5 = .ok (.aload_n 0, 1) := by decide +kernel
theorem dX5_takeGoal_6 : decode cX5_takeGoal 6 = .ok (.getfield 32, 3) := by decide +kernel
theorem dX5_takeGoal_9 : decode cX5_takeGoal 9 = .ok (.aload_n 0, 1) := by decide +kernel
theorem dX5_takeGoal_10 : decode cX5_takeGoal 10 = .ok (.getfield 12, 3) := by decide +kernel
theorem dX5_takeGoal_13 : decode cX5_takeGoal 13 = .ok (.getfield 52, 3) := by decide +kernel
theorem dX5_takeGoal_16 : decode cX5_takeGoal 16 = .ok (.iconst 3, 1) := by decide +kernel
theorem dX5_takeGoal_17 : decode cX5_takeGoal 17 = .ok (.iaload, 1) := by decide +kernel
theorem dX5_takeGoal_18 : decode cX5_takeGoal 18 = .ok (.isub, 1) := by decide +kernel
theorem dX5_takeGoal_19 : decode cX5_takeGoal 19 = .ok (.invokestatic 75, 3) := by decide +kernel
theorem dX5_takeGoal_22 : decode cX5_takeGoal 22 = .ok (.iaload, 1) := by decide +kernel
theorem dX5_takeGoal_23 : decode cX5_takeGoal 23 = .ok (.putfield 78, 3) := by decide +kernel
theorem dX5_takeGoal_26 : decode cX5_takeGoal 26 = .ok (.iload_n 1, 1) := by decide +kernel
theorem dX5_takeGoal_27 : decode cX5_takeGoal 27 = .ok (.tableswitch 53 0 2 #[25, 30, 48], 25) := by decide +kernel
theorem dX5_takeGoal_52 : decode cX5_takeGoal 52 = .ok (.aload_n 0, 1) := by decide +kernel
theorem dX5_takeGoal_53 : decode cX5_takeGoal 53 = .ok (.invokevirtual 81, 3) := by decide +kernel
theorem dX5_takeGoal_56 : decode cX5_takeGoal 56 = .ok (.ireturn, 1) := by decide +kernel
theorem dX5_takeGoal_57 : decode cX5_takeGoal 57 = .ok (.aload_n 0, 1) := by decide +kernel
theorem dX5_takeGoal_58 : decode cX5_takeGoal 58 = .ok (.invokevirtual 84, 3) := by decide +kernel
theorem dX5_takeGoal_61 : decode cX5_takeGoal 61 = .ok (.istore_n 2, 1) := by decide +kernel
theorem dX5_takeGoal_62 : decode cX5_takeGoal 62 = .ok (.iload_n 2, 1) := by decide +kernel
theorem dX5_takeGoal_63 : decode cX5_takeGoal 63 = .ok (.ifCond .ge 10, 3) := by decide +kernel
theorem dX5_takeGoal_66 : decode cX5_takeGoal 66 = .ok (.aload_n 0, 1) := by decide +kernel
theorem dX5_takeGoal_67 : decode cX5_takeGoal 67 = .ok (.invokevirtual 81, 3) := by decide +kernel
theorem dX5_takeGoal_70 : decode cX5_takeGoal 70 = .ok (.goto 4, 3) := by decide +kernel
theorem dX5_takeGoal_73 : decode cX5_takeGoal 73 = .ok (.iload_n 2, 1) := by decide +kernel
theorem dX5_takeGoal_74 : decode cX5_takeGoal 74 = .ok (.ireturn, 1) := by decide +kernel
theorem dX5_takeGoal_75 : decode cX5_takeGoal 75 = .ok (.aload_n 0, 1) := by decide +kernel
theorem dX5_takeGoal_76 : decode cX5_takeGoal 76 = .ok (.invokevirtual 87, 3) := by decide +kernel
theorem dX5_takeGoal_79 : decode cX5_takeGoal 79 = .ok (.ireturn, 1) := by decide +kernel
theorem dX5_takeGoal_80 : decode cX5_takeGoal 80 = .ok (.aload_n 0, 1) := by decide +kernel
theorem dX5_takeGoal_81 : decode cX5_takeGoal 81 = .ok (.invokevirtual 90, 3) := by decide +kernel
theorem dX5_takeGoal_84 : decode cX5_takeGoal 84 = .ok (.ireturn, 1) := by decide +kernel
theorem c_X5_takeGoal {d : List Nat} {T : vT} {M : vM} {n t lag : Nat} {g l : Option Nat} {hist : Nat → Int → Int} {rule : Int} (hB : vB T) (hS : wS M n t g l) (hL : wL M n t hist) (ht : t ≤ 600) (hlag : M 35 3 = lag) (hl3 : lag ≤ 3) (hr0 : 0 ≤ rule) (hr3 : rule ≤ 3) :
    vCon m_X5_takeGoal d d [vR 70, vI rule] T M (vPi fun r T1 M1 => T = T1 ∧ mSame [70] M M1 ∧ wSlot [5] M M1 ∧ r = pOr (-1) (pTake rule n (M 31) (M 33) (M 34) (hist (t - lag)) (M 35 0) l)) := by
  obtain ⟨s1, s2, s3, s4, s5, s6, s7⟩ := hS
  have hlog := hL.1 (t - lag) (by omega)
  have hlg : (if M 70 1 - M 35 3 < 0 then 0 else if 600 < M 70 1 - M 35 3 then 600 else M 70 1 - M 35 3) = ((t - lag : Nat) : Int) := by
    rw [s7, hlag]
    split
    · omega
    · split <;> omega
  refine vCon.of (by decide) rfl rfl (Nat.le_of_ble_eq_true rfl) ?_
  refine vV.aload_n dX5_takeGoal_0 rfl ?_
  refine vV.aload_n dX5_takeGoal_1 rfl ?_
  refine vV.getr dX5_takeGoal_2 fl_X5_18 (by first | rfl | assumption) rfl (by first | assumption | exact hB _ _ _ rfl) ?_
  refine vV.aload_n dX5_takeGoal_5 rfl ?_
  refine vV.geti (z := 1) dX5_takeGoal_6 fl_X5_32 (by first | rfl | assumption) rfl rfl ?_
  refine vV.aload_n dX5_takeGoal_9 rfl ?_
  refine vV.getr dX5_takeGoal_10 fl_X5_12 (by first | rfl | assumption) rfl (by first | assumption | exact hB _ _ _ rfl) ?_
  refine vV.getr dX5_takeGoal_13 fl_X5_52 (by first | rfl | assumption) rfl (by first | assumption | exact hB _ _ _ rfl) ?_
  refine vV.iconst dX5_takeGoal_16 (by decide) ?_
  refine vV.iald dX5_takeGoal_17 (by first | rfl | assumption) (by omega) (by omega) ?_
  refine vV.isub dX5_takeGoal_18 (⟨by omega, by omega⟩) ?_
  refine vV.cSi dX5_takeGoal_19 ml_X5_75 cw_X5_logged sw_X5_logged (by unfold vRoom; decide) c_X5_logged rfl rfl (Nat.le_of_ble_eq_true rfl) ?_
  rintro x19 _ _ hx19 ⟨hxe, rfl, rfl⟩
  rw [hxe, hlg]
  refine vV.iald dX5_takeGoal_22 (by first | rfl | assumption) (by omega) (by omega) ?_
  rw [hlog]
  refine vV.puti (z := 5) dX5_takeGoal_23 fl_X5_78 (by first | rfl | assumption) rfl rfl ?_
  obtain ⟨N, hN⟩ : ∃ N, N = vUpd M 70 5 (pPack (hist (t - lag)) n) := ⟨_, rfl⟩
  rw [← hN]
  have hsm : mSame [70] M N := fun k hk => by simp at hk; rw [hN]; funext j; rw [vUpd_nk hk]
  have hsl : wSlot [5] M N := fun j hj => by simp at hj; rw [hN, vUpd_ni hj]
  have hl5 : N 70 5 = pPack (hist (t - lag)) n := by rw [hN, vUpd_s]
  have n31 : N 31 = M 31 := hsm 31 (by decide)
  have n33 : N 33 = M 33 := hsm 33 (by decide)
  have n34 : N 34 = M 34 := hsm 34 (by decide)
  have n35 : N 35 = M 35 := hsm 35 (by decide)
  have hWN : sgW N 30 n := by
    have e30 : N 30 = M 30 := hsm 30 (by decide)
    have e32 : N 32 = M 32 := hsm 32 (by decide)
    unfold sgW
    rw [e30, show N (30 + 1) = M (30 + 1) from n31, show N (30 + 2) = M (30 + 2) from e32, show N (30 + 3) = M (30 + 3) from n33, show N (30 + 4) = M (30 + 4) from n34, show N (30 + 5) = M (30 + 5) from n35]
    exact s1
  refine vV.iload_n dX5_takeGoal_26 rfl ?_
  have hs27 : (rule < 0 ∨ 2 < rule) ∨ rule = 0 ∨ rule = 1 ∨ rule = 2 := by omega
  rcases hs27 with h27 | h27 | h27 | h27
  · refine vV.tswD (tgt := 80) dX5_takeGoal_27 h27 (by decide) ?_
    refine vV.aload_n dX5_takeGoal_80 rfl ?_
    refine vV.cVi dX5_takeGoal_81 ml_X5_90 cw_X5_leastLeft iw_X5_leastLeft (by first | rfl | assumption) rfl (by unfold vRoom; decide) (c_X5_leastLeft hB hWN hl5 (hL.2 (t - lag))) rfl rfl (Nat.le_of_ble_eq_true rfl) ?_
    rintro x81 _ _ hx81 ⟨hxe2, rfl, rfl⟩
    rw [n31, n33, n34, n35] at hxe2
    refine vV.ri dX5_takeGoal_84 rfl ?_
    exact ⟨rfl, hsm, hsl, by rw [hxe2]; unfold pTake; rw [if_neg (by omega), if_neg (by omega), if_neg (by omega)]⟩
  · refine vV.tsw (tgt := 52) dX5_takeGoal_27 (0) h27 (by decide) (by decide) rfl (by decide) ?_
    refine vV.aload_n dX5_takeGoal_52 rfl ?_
    refine vV.cVi dX5_takeGoal_53 ml_X5_81 cw_X5_worst iw_X5_worst (by first | rfl | assumption) rfl (by unfold vRoom; decide) (c_X5_worst hB hWN hl5 (hL.2 (t - lag))) rfl rfl (Nat.le_of_ble_eq_true rfl) ?_
    rintro x53 _ _ hx53 ⟨hxe2, rfl, rfl⟩
    rw [n31, n34, n35] at hxe2
    refine vV.ri dX5_takeGoal_56 rfl ?_
    exact ⟨rfl, hsm, hsl, by rw [hxe2]; unfold pTake; rw [if_pos h27]⟩
  · refine vV.tsw (tgt := 57) dX5_takeGoal_27 (1) h27 (by decide) (by decide) rfl (by decide) ?_
    refine vV.aload_n dX5_takeGoal_57 rfl ?_
    refine vV.cVi dX5_takeGoal_58 ml_X5_84 cw_X5_near iw_X5_near (by first | rfl | assumption) rfl (by unfold vRoom; decide) (c_X5_near hB hWN hl5 (hL.2 (t - lag))) rfl rfl (Nat.le_of_ble_eq_true rfl) ?_
    rintro x58 _ _ hx58 ⟨hxe3, rfl, rfl⟩
    rw [n31, n34, n35] at hxe3
    refine vV.istore_n (L' := [_, _, _]) dX5_takeGoal_61 (by decide) rfl ?_
    refine vV.iload_n dX5_takeGoal_62 rfl ?_
    refine vV.if_ge (tgt := 73) dX5_takeGoal_63 (by decide) (fun h63 => ?_) (fun h63 => ?_)
    · skip
      refine vV.iload_n dX5_takeGoal_73 rfl ?_
      refine vV.ri dX5_takeGoal_74 rfl ?_
      refine ⟨rfl, hsm, hsl, ?_⟩; unfold pTake pNear; rw [if_neg (by omega), if_pos h27, show pMin _ _ n = pNearO n (M 31) (M 34) (hist (t - lag)) (M 35 0) from rfl]; cases hq : pNearO n (M 31) (M 34) (hist (t - lag)) (M 35 0) with | none => (rw [hq, pOr_n] at hxe3; first | (exact hxe2) | omega) | some q => (rw [hq, pOr_s] at hxe3; first | (exact hxe3) | omega)
    · skip
      refine vV.aload_n dX5_takeGoal_66 rfl ?_
      refine vV.cVi dX5_takeGoal_67 ml_X5_81 cw_X5_worst iw_X5_worst (by first | rfl | assumption) rfl (by unfold vRoom; decide) (c_X5_worst hB hWN hl5 (hL.2 (t - lag))) rfl rfl (Nat.le_of_ble_eq_true rfl) ?_
      rintro x53 _ _ hx53 ⟨hxe2, rfl, rfl⟩
      rw [n31, n34, n35] at hxe2
      refine vV.goto (tgt := 74) dX5_takeGoal_70 (by decide) ?_
      refine vV.ri dX5_takeGoal_74 rfl ?_
      refine ⟨rfl, hsm, hsl, ?_⟩; unfold pTake pNear; rw [if_neg (by omega), if_pos h27, show pMin _ _ n = pNearO n (M 31) (M 34) (hist (t - lag)) (M 35 0) from rfl]; cases hq : pNearO n (M 31) (M 34) (hist (t - lag)) (M 35 0) with | none => (rw [hq, pOr_n] at hxe3; first | (exact hxe2) | omega) | some q => (rw [hq, pOr_s] at hxe3; first | (exact hxe3) | omega)
  · refine vV.tsw (tgt := 75) dX5_takeGoal_27 (2) h27 (by decide) (by decide) rfl (by decide) ?_
    refine vV.aload_n dX5_takeGoal_75 rfl ?_
    refine vV.cVi dX5_takeGoal_76 ml_X5_87 cw_X5_nextByNumber iw_X5_nextByNumber (by first | rfl | assumption) rfl (by unfold vRoom; decide) (c_X5_nextByNumber hB hWN (by rw [hsl 4 (by decide)]; exact s4) s5) rfl rfl (Nat.le_of_ble_eq_true rfl) ?_
    rintro x76 _ _ hx76 ⟨hxe2, rfl, rfl⟩
    rw [n34] at hxe2
    refine vV.ri dX5_takeGoal_79 rfl ?_
    exact ⟨rfl, hsm, hsl, by rw [hxe2]; unfold pTake; rw [if_neg (by omega), if_neg (by omega), if_pos h27]⟩
  skip
end
section
/-! ===== own: the class's walker: choose, the log, begin, act ===== -/
theorem sgW_rows {M N : vM} {a n : Nat} (h0 : N a = M a) (h1 : N (a + 1) = M (a + 1)) (h2 : N (a + 2) = M (a + 2)) (h3 : N (a + 3) = M (a + 3)) (h4 : N (a + 4) = M (a + 4)) (h5 : N (a + 5) = M (a + 5)) (h : sgW M a n) : sgW N a n := by
  unfold sgW; rw [h0, h1, h2, h3, h4, h5]; exact h
theorem sgW_70 {M N : vM} {n : Nat} (h : mSame [70] M N) (hW : sgW M 30 n) : sgW N 30 n := sgW_rows (h _ (by decide)) (h _ (by decide)) (h _ (by decide)) (h _ (by decide)) (h _ (by decide)) (h _ (by decide)) hW
theorem dX5_choose_0 : decode cX5_choose 0 = .ok (.aload_n 0, 1) := by decide +kernel
theorem dX5_choose_1 : decode cX5_choose 1 = .ok (.getfield 36, 3) := by decide +kernel
theorem dX5_choose_4 : decode cX5_choose 4 = .ok (.ifCond .lt 18, 3) := by decide +kernel
theorem dX5_choose_7 : decode cX5_choose 7 = .ok (.aload_n 0, 1) := by decide +kernel
theorem dX5_choose_8 : decode cX5_choose 8 = .ok (.getfield 12, 3) := by decide +kernel
theorem dX5_choose_11 : decode cX5_choose 11 = .ok (.getfield 55, 3) := by decide +kernel
theorem dX5_choose_14 : decode cX5_choose 14 = .ok (.aload_n 0, 1) := by decide +kernel
theorem dX5_choose_15 : decode cX5_choose 15 = .ok (.getfield 36, 3) := by decide +kernel
theorem dX5_choose_18 : decode cX5_choose 18 = .ok (.iaload, 1) := by decide +kernel
theorem dX5_choose_19 : decode cX5_choose 19 = .ok (.ifCond .ne 34, 3) := by decide +kernel
theorem dX5_choose_22 : decode cX5_choose 22 = .ok (.aload_n 0, 1) := by decide +kernel
theorem dX5_choose_23 : decode cX5_choose 23 = .ok (.aload_n 0, 1) := by decide +kernel
theorem dX5_choose_24 : decode cX5_choose 24 = .ok (.iload_n 1, 1) := by decide +kernel
theorem dX5_choose_25 : decode cX5_choose 25 = .ok (.invokevirtual 58, 3) := by decide +kernel
theorem dX5_choose_28 : decode cX5_choose 28 = .ok (.putfield 36, 3) := by decide +kernel
theorem dX5_choose_31 : decode cX5_choose 31 = .ok (.aload_n 0, 1) := by decide +kernel
theorem dX5_choose_32 : decode cX5_choose 32 = .ok (.iconst 0, 1) := by decide +kernel
theorem dX5_choose_33 : decode cX5_choose 33 = .ok (.putfield 39, 3) := by decide +kernel
theorem dX5_choose_36 : decode cX5_choose 36 = .ok (.aload_n 0, 1) := by decide +kernel
theorem dX5_choose_37 : decode cX5_choose 37 = .ok (.getfield 36, 3) := by decide +kernel
theorem dX5_choose_40 : decode cX5_choose 40 = .ok (.ifCond .ge 5, 3) := by decide +kernel
theorem dX5_choose_43 : decode cX5_choose 43 = .ok (.iconst 0, 1) := by decide +kernel
theorem dX5_choose_44 : decode cX5_choose 44 = .ok (.ireturn, 1) := by decide +kernel
theorem dX5_choose_45 : decode cX5_choose 45 = .ok (.aload_n 0, 1) := by decide +kernel
theorem dX5_choose_46 : decode cX5_choose 46 = .ok (.aload_n 0, 1) := by decide +kernel
theorem dX5_choose_47 : decode cX5_choose 47 = .ok (.getfield 36, 3) := by decide +kernel
theorem dX5_choose_50 : decode cX5_choose 50 = .ok (.putfield 42, 3) := by decide +kernel
theorem dX5_choose_53 : decode cX5_choose 53 = .ok (.aload_n 0, 1) := by decide +kernel
theorem dX5_choose_54 : decode cX5_choose 54 = .ok (.getfield 12, 3) := by decide +kernel
theorem dX5_choose_57 : decode cX5_choose 57 = .ok (.getfield 62, 3) := by decide +kernel
theorem dX5_choose_60 : decode cX5_choose 60 = .ok (.aload_n 0, 1) := by decide +kernel
theorem dX5_choose_61 : decode cX5_choose 61 = .ok (.getfield 36, 3) := by decide +kernel
theorem dX5_choose_64 : decode cX5_choose 64 = .ok (.iaload, 1) := by decide +kernel
theorem dX5_choose_65 : decode cX5_choose 65 = .ok (.aload_n 0, 1) := by decide +kernel
theorem dX5_choose_66 : decode cX5_choose 66 = .ok (.getfield 12, 3) := by decide +kernel
theorem dX5_choose_69 : decode cX5_choose 69 = .ok (.getfield 52, 3) := by decide +kernel
theorem dX5_choose_72 : decode cX5_choose 72 = .ok (.iconst 0, 1) := by decide +kernel
theorem dX5_choose_73 : decode cX5_choose 73 = .ok (.iaload, 1) := by decide +kernel
theorem dX5_choose_74 : decode cX5_choose 74 = .ok (.isub, 1) := by decide +kernel
theorem dX5_choose_75 : decode cX5_choose 75 = .ok (.istore_n 2, 1) := by decide +kernel
theorem dX5_choose_76 : decode cX5_choose 76 = .ok (.iload_n 2, 1) := by decide +kernel
theorem dX5_choose_77 : decode cX5_choose 77 = .ok (.ifCond .ne 5, 3) := by decide +kernel
theorem dX5_choose_80 : decode cX5_choose 80 = .ok (.iconst 3, 1) := by decide +kernel
theorem dX5_choose_81 : decode cX5_choose 81 = .ok (.ireturn, 1) := by decide +kernel
theorem dX5_choose_82 : decode cX5_choose 82 = .ok (.iload_n 2, 1) := by decide +kernel
theorem dX5_choose_83 : decode cX5_choose 83 = .ok (.ifCond .ge 7, 3) := by decide +kernel
theorem dX5_choose_86 : decode cX5_choose 86 = .ok (.iconst 1, 1) := by decide +kernel
theorem dX5_choose_87 : decode cX5_choose 87 = .ok (.goto 4, 3) := by decide +kernel
theorem dX5_choose_90 : decode cX5_choose 90 = .ok (.iconst 2, 1) := by decide +kernel
theorem dX5_choose_91 : decode cX5_choose 91 = .ok (.ireturn, 1) := by decide +kernel
theorem l_X5_ch53 {d : List Nat} {T : vT} {N : vM} {n p : Nat} {rule : Int} {P : Int → vT → vM → Prop} (hB : vB T) (hW : sgW N 30 n) (hg : N 70 2 = (p : Int)) (hp : p < n) (hP : P (pThing (N 31) (N 35 0) (some p)) T N) (x2 : Option vA) : vV m_X5_choose d d (vPi P) 53 [some (vR 70), some (vI rule), x2] [] d T N := by
  have hn := hW.le
  obtain ⟨-, -, -, -, hpl, -, -, -, hs0, -⟩ := hW
  have b1 : 0 ≤ N 31 p ∧ N 31 p ≤ 7 := hpl p
  have b2 : 0 ≤ N 35 0 ∧ N 35 0 ≤ 7 := hs0
  refine vV.aload_n dX5_choose_53 rfl ?_
  refine vV.getr dX5_choose_54 fl_X5_12 (by first | rfl | assumption) rfl (by first | assumption | exact hB _ _ _ rfl) ?_
  refine vV.getr dX5_choose_57 fl_X5_62 (by first | rfl | assumption) rfl (by first | assumption | exact hB _ _ _ rfl) ?_
  refine vV.aload_n dX5_choose_60 rfl ?_
  refine vV.geti (z := 2) dX5_choose_61 fl_X5_36 (by first | rfl | assumption) rfl rfl ?_
  rw [hg]
  refine vV.iald dX5_choose_64 (by first | rfl | assumption) (by omega) (by omega) ?_
  refine vV.aload_n dX5_choose_65 rfl ?_
  refine vV.getr dX5_choose_66 fl_X5_12 (by first | rfl | assumption) rfl (by first | assumption | exact hB _ _ _ rfl) ?_
  refine vV.getr dX5_choose_69 fl_X5_52 (by first | rfl | assumption) rfl (by first | assumption | exact hB _ _ _ rfl) ?_
  refine vV.iconst dX5_choose_72 (by decide) ?_
  refine vV.iald dX5_choose_73 (by first | rfl | assumption) (by omega) (by omega) ?_
  refine vV.isub dX5_choose_74 (⟨by omega, by omega⟩) ?_
  refine vV.istore_n (L' := [_, _, _]) dX5_choose_75 (by decide) rfl ?_
  refine vV.iload_n dX5_choose_76 rfl ?_
  refine vV.if_ne (tgt := 82) dX5_choose_77 (by decide) (fun h77 => ?_) (fun h77 => ?_)
  · skip
    refine vV.iload_n dX5_choose_82 rfl ?_
    refine vV.if_ge (tgt := 90) dX5_choose_83 (by decide) (fun h83 => ?_) (fun h83 => ?_)
    · skip
      refine vV.iconst dX5_choose_90 (by decide) ?_
      refine vV.ri dX5_choose_91 rfl ?_
      first | (rw [pThing_1 (by omega) (by omega)] at hP; exact hP) | (rw [pThing_2 (by omega) (by omega)] at hP; exact hP)
    · skip
      refine vV.iconst dX5_choose_86 (by decide) ?_
      refine vV.goto (tgt := 91) dX5_choose_87 (by decide) ?_
      refine vV.ri dX5_choose_91 rfl ?_
      first | (rw [pThing_1 (by omega) (by omega)] at hP; exact hP) | (rw [pThing_2 (by omega) (by omega)] at hP; exact hP)
  · skip
    refine vV.iconst dX5_choose_80 (by decide) ?_
    refine vV.ri dX5_choose_81 rfl ?_
    rw [pThing_3 (by omega)] at hP; exact hP
theorem l_X5_ch28 {d : List Nat} {T : vT} {N : vM} {n : Nat} {l tk : Option Nat} {rule : Int} (hB : vB T) (hW : sgW N 30 n) (hl : N 70 4 = pOr (-1) l) (htk : ∀ k, tk = some k → k < n) (x2 : Option vA) : vV m_X5_choose d d (vPi fun r T1 M1 => T = T1 ∧ r = pThing (N 31) (N 35 0) tk ∧ mSame [70] N M1 ∧ wSlot [2, 3, 4] N M1 ∧ M1 70 2 = pOr (-1) tk ∧ M1 70 3 = 0 ∧ M1 70 4 = pOr (-1) (tk.or l)) 28 [some (vR 70), some (vI rule), x2] [vI (pOr (-1) tk), vR 70] d T N := by
  cases tk with
  | none =>
    rw [pOr_n]
    refine vV.puti (z := 2) dX5_choose_28 fl_X5_36 (by first | rfl | assumption) rfl rfl ?_
    refine vV.aload_n dX5_choose_31 rfl ?_
    refine vV.iconst dX5_choose_32 (by decide) ?_
    refine vV.puti (z := 3) dX5_choose_33 fl_X5_39 (by first | rfl | assumption) rfl rfl ?_
    refine vV.aload_n dX5_choose_36 rfl ?_
    refine vV.geti (z := 2) dX5_choose_37 fl_X5_36 (by first | rfl | assumption) rfl rfl ?_
    try simp (decide := true) only [vUpd_s, vUpd_nk, vUpd_ni, vRow_s, vRow_n, fSet_s, fSet_n, ne_eq, not_false_eq_true]
    refine vV.if_ge (tgt := 45) dX5_choose_40 (by decide) (fun h40 => ?_) (fun h40 => ?_)
    · skip
      omega
    · skip
      refine vV.iconst dX5_choose_43 (by decide) ?_
      refine vV.ri dX5_choose_44 rfl ?_
      refine ⟨rfl, rfl, fun k hk => ?_, fun j hj => ?_, ?_, ?_, ?_⟩
      · simp at hk; funext j; rw [vUpd_nk hk, vUpd_nk hk]
      · simp at hj; rw [vUpd_ni hj.2.1, vUpd_ni hj.1]
      · rw [vUpd_ni (by decide), vUpd_s]
      · rw [vUpd_s]
      · rw [vUpd_ni (by decide), vUpd_ni (by decide)]; exact hl
  | some p =>
    have hsm : ∀ x y z, mSame [70] N (vUpd (vUpd (vUpd N 70 2 x) 70 3 y) 70 4 z) := fun x y z k hk => by simp at hk; funext j; rw [vUpd_nk hk, vUpd_nk hk, vUpd_nk hk]
    rw [pOr_s]
    refine vV.puti (z := 2) dX5_choose_28 fl_X5_36 (by first | rfl | assumption) rfl rfl ?_
    refine vV.aload_n dX5_choose_31 rfl ?_
    refine vV.iconst dX5_choose_32 (by decide) ?_
    refine vV.puti (z := 3) dX5_choose_33 fl_X5_39 (by first | rfl | assumption) rfl rfl ?_
    refine vV.aload_n dX5_choose_36 rfl ?_
    refine vV.geti (z := 2) dX5_choose_37 fl_X5_36 (by first | rfl | assumption) rfl rfl ?_
    try simp (decide := true) only [vUpd_s, vUpd_nk, vUpd_ni, vRow_s, vRow_n, fSet_s, fSet_n, ne_eq, not_false_eq_true]
    refine vV.if_ge (tgt := 45) dX5_choose_40 (by decide) (fun h40 => ?_) (fun h40 => ?_)
    · skip
      refine vV.aload_n dX5_choose_45 rfl ?_
      refine vV.aload_n dX5_choose_46 rfl ?_
      refine vV.geti (z := 2) dX5_choose_47 fl_X5_36 (by first | rfl | assumption) rfl rfl ?_
      try simp (decide := true) only [vUpd_s, vUpd_nk, vUpd_ni, vRow_s, vRow_n, fSet_s, fSet_n, ne_eq, not_false_eq_true]
      refine vV.puti (z := 4) dX5_choose_50 fl_X5_42 (by first | rfl | assumption) rfl rfl ?_
      refine l_X5_ch53 hB (sgW_70 (hsm _ _ _) hW) (p := p) (by simp [vUpd]) (htk p rfl) ⟨rfl, ?_, hsm _ _ _, fun j hj => ?_, ?_, ?_, ?_⟩ _
      · rw [hsm _ _ _ 31 (by decide), hsm _ _ _ 35 (by decide)]
      · simp at hj; rw [vUpd_ni hj.2.2, vUpd_ni hj.2.1, vUpd_ni hj.1]
      · simp [vUpd, pOr]
      · simp [vUpd]
      · rw [vUpd_s]; rfl
    · skip
      omega
theorem c_X5_choose {d : List Nat} {T : vT} {M : vM} {n t lag : Nat} {g l : Option Nat} {hist : Nat → Int → Int} {rule : Int} (hB : vB T) (hS : wS M n t g l) (hL : wL M n t hist) (ht : t ≤ 600) (hlag : M 35 3 = lag) (hl3 : lag ≤ 3) (hr0 : 0 ≤ rule) (hr3 : rule ≤ 3) :
    vCon m_X5_choose d d [vR 70, vI rule] T M (vPi fun r T1 M1 => T = T1 ∧ r = pThing (M 31) (M 35 0) (pG1 rule n (M 31) (M 33) (M 34) (hist (t - lag)) (M 35 0) g l) ∧ mSame [70] M M1 ∧ wSlot [2, 3, 4, 5] M M1 ∧ M1 70 2 = pOr (-1) (pG1 rule n (M 31) (M 33) (M 34) (hist (t - lag)) (M 35 0) g l) ∧ M1 70 3 = pW1 (M 34) g (M 70 3) ∧ M1 70 4 = pOr (-1) (pL1 rule n (M 31) (M 33) (M 34) (hist (t - lag)) (M 35 0) g l)) := by
  have hS2 := hS
  obtain ⟨s1, s2, s3, s4, s5, s6, s7⟩ := hS2
  have hn := s1.le
  have key : ∀ N y x2, mSame [70] M N → wSlot [5] M N → y = pOr (-1) (pTake rule n (M 31) (M 33) (M 34) (hist (t - lag)) (M 35 0) l) → pNeed (M 34) g = true → vV m_X5_choose d d (vPi fun r T1 M1 => T = T1 ∧ r = pThing (M 31) (M 35 0) (pG1 rule n (M 31) (M 33) (M 34) (hist (t - lag)) (M 35 0) g l) ∧ mSame [70] M M1 ∧ wSlot [2, 3, 4, 5] M M1 ∧ M1 70 2 = pOr (-1) (pG1 rule n (M 31) (M 33) (M 34) (hist (t - lag)) (M 35 0) g l) ∧ M1 70 3 = pW1 (M 34) g (M 70 3) ∧ M1 70 4 = pOr (-1) (pL1 rule n (M 31) (M 33) (M 34) (hist (t - lag)) (M 35 0) g l)) 28 [some (vR 70), some (vI rule), x2] [vI y, vR 70] d T N := by
    intro N y x2 n1 n2 hy hnd
    subst hy
    have h := l_X5_ch28 (d := d) (T := T) (rule := rule) hB (sgW_70 n1 s1) (by rw [n2 4 (by decide)]; exact s4) (fun k hk => pTake_lt (rule := rule) (n := n) (pl := M 31) (fa := M 33) (tu := M 34) (f := hist (t - lag)) (man := M 35 0) (l := l) hk) x2
    refine h.imp ?_
    rintro r T1 M1 ⟨y, rfl, hy, rfl, rfl, b2, b3, b4, b5, b6⟩
    refine ⟨_, rfl, hy, rfl, ?_, ?_, ?_, ?_, ?_, ?_⟩
    · unfold pG1; rw [hnd, n1 31 (by decide), n1 35 (by decide)]; rfl
    · intro k hk; rw [b2 k hk, n1 k hk]
    · intro j hj; simp at hj; rw [b3 j (by simp; omega), n2 j (by simp; omega)]
    · unfold pG1; rw [hnd]; exact b4
    · unfold pW1; rw [hnd]; exact b5
    · unfold pL1; rw [hnd]; exact b6
  refine vCon.of (by decide) rfl rfl (Nat.le_of_ble_eq_true rfl) ?_
  cases g with
  | none =>
    rw [pOr_n] at s2
    refine vV.aload_n dX5_choose_0 rfl ?_
    refine vV.geti (z := 2) dX5_choose_1 fl_X5_36 (by first | rfl | assumption) rfl rfl ?_
    refine vV.if_lt (tgt := 22) dX5_choose_4 (by decide) (fun h4 => ?_) (fun h4 => ?_)
    · skip
      refine vV.aload_n dX5_choose_22 rfl ?_
      refine vV.aload_n dX5_choose_23 rfl ?_
      refine vV.iload_n dX5_choose_24 rfl ?_
      refine vV.cVi dX5_choose_25 ml_X5_58 cw_X5_takeGoal iw_X5_takeGoal (by first | rfl | assumption) rfl (by unfold vRoom; decide) (c_X5_takeGoal hB hS hL ht hlag hl3 hr0 hr3) rfl rfl (Nat.le_of_ble_eq_true rfl) ?_
      rintro x25 _ N hx25 ⟨rfl, q1, q2, q3⟩
      exact key N _ _ q1 q2 q3 rfl
    · skip
      omega
  | some p =>
    have hp := s3 p rfl
    have b1 := s1.tu p
    rw [pOr_s] at s2
    refine vV.aload_n dX5_choose_0 rfl ?_
    refine vV.geti (z := 2) dX5_choose_1 fl_X5_36 (by first | rfl | assumption) rfl rfl ?_
    refine vV.if_lt (tgt := 22) dX5_choose_4 (by decide) (fun h4 => ?_) (fun h4 => ?_)
    · skip
      omega
    · skip
      refine vV.aload_n dX5_choose_7 rfl ?_
      refine vV.getr dX5_choose_8 fl_X5_12 (by first | rfl | assumption) rfl (by first | assumption | exact hB _ _ _ rfl) ?_
      refine vV.getr dX5_choose_11 fl_X5_55 (by first | rfl | assumption) rfl (by first | assumption | exact hB _ _ _ rfl) ?_
      refine vV.aload_n dX5_choose_14 rfl ?_
      refine vV.geti (z := 2) dX5_choose_15 fl_X5_36 (by first | rfl | assumption) rfl rfl ?_
      rw [s2]
      refine vV.iald dX5_choose_18 (by first | rfl | assumption) (by omega) (by omega) ?_
      refine vV.if_ne (tgt := 53) dX5_choose_19 (by decide) (fun h19 => ?_) (fun h19 => ?_)
      · skip
        have hnd : pNeed (M 34) (some p) = false := by simp [pNeed]; exact h19
        exact l_X5_ch53 hB s1 s2 hp ⟨rfl, by unfold pG1; rw [hnd]; rfl, fun k hk => rfl, fun j hj => rfl, by unfold pG1; rw [hnd]; exact s2, by unfold pW1; rw [hnd]; rfl, by unfold pL1; rw [hnd]; exact s4⟩ _
      · skip
        have hnd : pNeed (M 34) (some p) = true := by simp [pNeed]; exact h19
        refine vV.aload_n dX5_choose_22 rfl ?_
        refine vV.aload_n dX5_choose_23 rfl ?_
        refine vV.iload_n dX5_choose_24 rfl ?_
        refine vV.cVi dX5_choose_25 ml_X5_58 cw_X5_takeGoal iw_X5_takeGoal (by first | rfl | assumption) rfl (by unfold vRoom; decide) (c_X5_takeGoal hB hS hL ht hlag hl3 hr0 hr3) rfl rfl (Nat.le_of_ble_eq_true rfl) ?_
        rintro x25 _ N hx25 ⟨rfl, q1, q2, q3⟩
        exact key N _ _ q1 q2 q3 hnd
def pLog (man g l w : Int) : Int := man + 8 * (g + 1) + 64 * (l + 1) + 512 * w
theorem pLog_or {man g l w : Int} (h1 : 0 ≤ man ∧ man ≤ 7) (h2 : -1 ≤ g ∧ g ≤ 5) (h3 : -1 ≤ l ∧ l ≤ 5) (h4 : 0 ≤ w ∧ w ≤ 9) : vOr (vOr (vOr man (vShl (g + 1) 3)) (vShl (l + 1) 6)) (vShl w 9) = pLog man g l w := by
  obtain ⟨a, ha⟩ : ∃ a : Nat, man = a := ⟨man.toNat, by omega⟩
  obtain ⟨b, hb⟩ : ∃ b : Nat, g + 1 = b := ⟨(g + 1).toNat, by omega⟩
  obtain ⟨c, hc⟩ : ∃ c : Nat, l + 1 = c := ⟨(l + 1).toNat, by omega⟩
  obtain ⟨e, he⟩ : ∃ e : Nat, w = e := ⟨w.toNat, by omega⟩
  unfold pLog
  rw [ha, hb, hc, he]
  have e1 : vShl (b : Int) 3 = ((2 ^ 3 * b : Nat) : Int) := by rw [show (3 : Int) = ((3 : Nat) : Int) from rfl, vShl_nat (by omega) (by omega), Nat.mul_comm]
  have e2 : vShl (c : Int) 6 = ((2 ^ 6 * c : Nat) : Int) := by rw [show (6 : Int) = ((6 : Nat) : Int) from rfl, vShl_nat (by omega) (by omega), Nat.mul_comm]
  have e3 : vShl (e : Int) 9 = ((2 ^ 9 * e : Nat) : Int) := by rw [show (9 : Int) = ((9 : Nat) : Int) from rfl, vShl_nat (by omega) (by omega), Nat.mul_comm]
  rw [e1, e2, e3, vOr_sum b (by omega) (by omega), vOr_sum c (by omega) (by omega), vOr_sum e (by omega) (by omega)]
  omega
theorem dX5_writeLog_0 : decode cX5_writeLog 0 = .ok (.aload_n 0, 1) := by decide +kernel
theorem dX5_writeLog_1 : decode cX5_writeLog 1 = .ok (.getfield 32, 3) := by decide +kernel
theorem dX5_writeLog_4 : decode cX5_writeLog 4 = .ok (.sipush 600, 3) := by decide +kernel
theorem dX5_writeLog_7 : decode cX5_writeLog 7 = .ok (.if_icmp .gt 64, 3) := by decide +kernel
theorem dX5_writeLog_10 : decode cX5_writeLog 10 = .ok (.aload_n 0, 1) := by decide +kernel
theorem dX5_writeLog_11 : decode cX5_writeLog 11 = .ok (.getfield 18, 3) := by decide +kernel
theorem dX5_writeLog_14 : decode cX5_writeLog 14 = .ok (.aload_n 0, 1) := by decide +kernel
theorem dX5_writeLog_15 : decode cX5_writeLog 15 = .ok (.getfield 32, 3) := by decide +kernel
theorem dX5_writeLog_18 : decode cX5_writeLog 18 = .ok (.aload_n 0, 1) := by decide +kernel
theorem dX5_writeLog_19 : decode cX5_writeLog 19 = .ok (.getfield 12, 3) := by decide +kernel
theorem dX5_writeLog_22 : decode cX5_writeLog 22 = .ok (.invokevirtual 48, 3) := by decide +kernel
theorem dX5_writeLog_25 : decode cX5_writeLog 25 = .ok (.iastore, 1) := by decide +kernel
theorem dX5_writeLog_26 : decode cX5_writeLog 26 = .ok (.aload_n 0, 1) := by decide +kernel
theorem dX5_writeLog_27 : decode cX5_writeLog 27 = .ok (.getfield 22, 3) := by decide +kernel
theorem dX5_writeLog_30 : decode cX5_writeLog 30 = .ok (.aload_n 0, 1) := by decide +kernel
theorem dX5_writeLog_31 : decode cX5_writeLog 31 = .ok (.getfield 32, 3) := by decide +kernel
theorem dX5_writeLog_34 : decode cX5_writeLog 34 = .ok (.aload_n 0, 1) := by decide +kernel
theorem dX5_writeLog_35 : decode cX5_writeLog 35 = .ok (.getfield 12, 3) := by decide +kernel
theorem dX5_writeLog_38 : decode cX5_writeLog 38 = .ok (.getfield 52, 3) := by decide +kernel
theorem dX5_writeLog_41 : decode cX5_writeLog 41 = .ok (.iconst 0, 1) := by decide +kernel
theorem dX5_writeLog_42 : decode cX5_writeLog 42 = .ok (.iaload, 1) := by decide +kernel
theorem dX5_writeLog_43 : decode cX5_writeLog 43 = .ok (.aload_n 0, 1) := by decide +kernel
theorem dX5_writeLog_44 : decode cX5_writeLog 44 = .ok (.getfield 36, 3) := by decide +kernel
theorem dX5_writeLog_47 : decode cX5_writeLog 47 = .ok (.iconst 1, 1) := by decide +kernel
theorem dX5_writeLog_48 : decode cX5_writeLog 48 = .ok (.iadd, 1) := by decide +kernel
theorem dX5_writeLog_49 : decode cX5_writeLog 49 = .ok (.iconst 3, 1) := by decide +kernel
theorem dX5_writeLog_50 : decode cX5_writeLog 50 = .ok (.ishl, 1) := by decide +kernel
theorem dX5_writeLog_51 : decode cX5_writeLog 51 = .ok (.ior, 1) := by decide +kernel
theorem dX5_writeLog_52 : decode cX5_writeLog 52 = .ok (.aload_n 0, 1) := by decide +kernel
theorem dX5_writeLog_53 : decode cX5_writeLog 53 = .ok (.getfield 42, 3) := by decide +kernel
theorem dX5_writeLog_56 : decode cX5_writeLog 56 = .ok (.iconst 1, 1) := by decide +kernel
theorem dX5_writeLog_57 : decode cX5_writeLog 57 = .ok (.iadd, 1) := by decide +kernel
theorem dX5_writeLog_58 : decode cX5_writeLog 58 = .ok (.bipush 6, 2) := by decide +kernel
theorem dX5_writeLog_60 : decode cX5_writeLog 60 = .ok (.ishl, 1) := by decide +kernel
theorem dX5_writeLog_61 : decode cX5_writeLog 61 = .ok (.ior, 1) := by decide +kernel
theorem dX5_writeLog_62 : decode cX5_writeLog 62 = .ok (.aload_n 0, 1) := by decide +kernel
theorem dX5_writeLog_63 : decode cX5_writeLog 63 = .ok (.getfield 39, 3) := by decide +kernel
theorem dX5_writeLog_66 : decode cX5_writeLog 66 = .ok (.bipush 9, 2) := by decide +kernel
theorem dX5_writeLog_68 : decode cX5_writeLog 68 = .ok (.ishl, 1) := by decide +kernel
theorem dX5_writeLog_69 : decode cX5_writeLog 69 = .ok (.ior, 1) := by decide +kernel
theorem dX5_writeLog_70 : decode cX5_writeLog 70 = .ok (.iastore, 1) := by decide +kernel
theorem dX5_writeLog_71 : decode cX5_writeLog 71 = .ok (.return_, 1) := by decide +kernel
theorem c_X5_writeLog {d : List Nat} {T : vT} {M : vM} {n t : Nat} (hB : vB T) (hW : sgW M 30 n) (ht : M 70 1 = t) (htt : t ≤ 600) (h2 : -1 ≤ M 70 2 ∧ M 70 2 ≤ 5) (h3 : -1 ≤ M 70 4 ∧ M 70 4 ≤ 5) (h4 : 0 ≤ M 70 3 ∧ M 70 3 ≤ 9) :
    vCon m_X5_writeLog d d [vR 70] T M (vPv fun T1 M1 => T = T1 ∧ M1 = vUpd (vUpd M 76 t (pPack (M 34) n)) 77 t (pLog (M 35 0) (M 70 2) (M 70 4) (M 70 3))) := by
  have h1 : 0 ≤ M 35 0 ∧ M 35 0 ≤ 7 := hW.2.2.2.2.2.2.2.2.1
  refine vCon.of (by decide) rfl rfl (Nat.le_of_ble_eq_true rfl) ?_
  refine vV.aload_n dX5_writeLog_0 rfl ?_
  refine vV.geti (z := 1) dX5_writeLog_1 fl_X5_32 (by first | rfl | assumption) rfl rfl ?_
  try simp (decide := true) only [vUpd_s, vUpd_nk, vUpd_ni, vRow_s, vRow_n, fSet_s, fSet_n, ne_eq, not_false_eq_true]
  refine vV.sipush (v := 600) dX5_writeLog_4 (by decide) (by decide) ?_
  refine vV.icmp_gt (tgt := 71) dX5_writeLog_7 (by decide) (fun h7 => ?_) (fun h7 => ?_)
  · skip
    omega
  · skip
    refine vV.aload_n dX5_writeLog_10 rfl ?_
    refine vV.getr dX5_writeLog_11 fl_X5_18 (by first | rfl | assumption) rfl (by first | assumption | exact hB _ _ _ rfl) ?_
    try simp (decide := true) only [vUpd_s, vUpd_nk, vUpd_ni, vRow_s, vRow_n, fSet_s, fSet_n, ne_eq, not_false_eq_true]
    refine vV.aload_n dX5_writeLog_14 rfl ?_
    refine vV.geti (z := 1) dX5_writeLog_15 fl_X5_32 (by first | rfl | assumption) rfl rfl ?_
    try simp (decide := true) only [vUpd_s, vUpd_nk, vUpd_ni, vRow_s, vRow_n, fSet_s, fSet_n, ne_eq, not_false_eq_true]
    refine vV.aload_n dX5_writeLog_18 rfl ?_
    refine vV.getr dX5_writeLog_19 fl_X5_12 (by first | rfl | assumption) rfl (by first | assumption | exact hB _ _ _ rfl) ?_
    try simp (decide := true) only [vUpd_s, vUpd_nk, vUpd_ni, vRow_s, vRow_n, fSet_s, fSet_n, ne_eq, not_false_eq_true]
    refine vV.cVi dX5_writeLog_22 ml_X5_48 cw_X3_packedTurns iw_X3_packedTurns (by first | rfl | assumption) rfl (by unfold vRoom; decide) (c_X3_packedTurns sgK_30 (sgT_30 hB) hW.cnt hW.le hW.tu) rfl rfl (Nat.le_of_ble_eq_true rfl) ?_
    rintro x22 _ _ hx22 ⟨rfl, rfl, rfl⟩
    refine vV.iast dX5_writeLog_25 (by first | rfl | assumption) (by omega) (by omega) ?_
    refine vV.aload_n dX5_writeLog_26 rfl ?_
    refine vV.getr dX5_writeLog_27 fl_X5_22 (by first | rfl | assumption) rfl (by first | assumption | exact hB _ _ _ rfl) ?_
    try simp (decide := true) only [vUpd_s, vUpd_nk, vUpd_ni, vRow_s, vRow_n, fSet_s, fSet_n, ne_eq, not_false_eq_true]
    refine vV.aload_n dX5_writeLog_30 rfl ?_
    refine vV.geti (z := 1) dX5_writeLog_31 fl_X5_32 (by first | rfl | assumption) rfl rfl ?_
    try simp (decide := true) only [vUpd_s, vUpd_nk, vUpd_ni, vRow_s, vRow_n, fSet_s, fSet_n, ne_eq, not_false_eq_true]
    refine vV.aload_n dX5_writeLog_34 rfl ?_
    refine vV.getr dX5_writeLog_35 fl_X5_12 (by first | rfl | assumption) rfl (by first | assumption | exact hB _ _ _ rfl) ?_
    try simp (decide := true) only [vUpd_s, vUpd_nk, vUpd_ni, vRow_s, vRow_n, fSet_s, fSet_n, ne_eq, not_false_eq_true]
    refine vV.getr dX5_writeLog_38 fl_X5_52 (by first | rfl | assumption) rfl (by first | assumption | exact hB _ _ _ rfl) ?_
    try simp (decide := true) only [vUpd_s, vUpd_nk, vUpd_ni, vRow_s, vRow_n, fSet_s, fSet_n, ne_eq, not_false_eq_true]
    refine vV.iconst dX5_writeLog_41 (by decide) ?_
    refine vV.iald dX5_writeLog_42 (by first | rfl | assumption) (by omega) (by omega) ?_
    try simp (decide := true) only [vUpd_s, vUpd_nk, vUpd_ni, vRow_s, vRow_n, fSet_s, fSet_n, ne_eq, not_false_eq_true]
    refine vV.aload_n dX5_writeLog_43 rfl ?_
    refine vV.geti (z := 2) dX5_writeLog_44 fl_X5_36 (by first | rfl | assumption) rfl rfl ?_
    try simp (decide := true) only [vUpd_s, vUpd_nk, vUpd_ni, vRow_s, vRow_n, fSet_s, fSet_n, ne_eq, not_false_eq_true]
    refine vV.iconst dX5_writeLog_47 (by decide) ?_
    refine vV.iadd dX5_writeLog_48 (⟨by omega, by omega⟩) ?_
    refine vV.iconst dX5_writeLog_49 (by decide) ?_
    refine vV.ishl dX5_writeLog_50 ?_
    refine vV.ior dX5_writeLog_51 ?_
    refine vV.aload_n dX5_writeLog_52 rfl ?_
    refine vV.geti (z := 4) dX5_writeLog_53 fl_X5_42 (by first | rfl | assumption) rfl rfl ?_
    try simp (decide := true) only [vUpd_s, vUpd_nk, vUpd_ni, vRow_s, vRow_n, fSet_s, fSet_n, ne_eq, not_false_eq_true]
    refine vV.iconst dX5_writeLog_56 (by decide) ?_
    refine vV.iadd dX5_writeLog_57 (⟨by omega, by omega⟩) ?_
    refine vV.bipush (v := 6) dX5_writeLog_58 (by decide) (by decide) ?_
    refine vV.ishl dX5_writeLog_60 ?_
    refine vV.ior dX5_writeLog_61 ?_
    refine vV.aload_n dX5_writeLog_62 rfl ?_
    refine vV.geti (z := 3) dX5_writeLog_63 fl_X5_39 (by first | rfl | assumption) rfl rfl ?_
    try simp (decide := true) only [vUpd_s, vUpd_nk, vUpd_ni, vRow_s, vRow_n, fSet_s, fSet_n, ne_eq, not_false_eq_true]
    refine vV.bipush (v := 9) dX5_writeLog_66 (by decide) (by decide) ?_
    refine vV.ishl dX5_writeLog_68 ?_
    refine vV.ior dX5_writeLog_69 ?_
    rw [pLog_or h1 h2 h3 h4, ht]
    refine vV.iast dX5_writeLog_70 (by first | rfl | assumption) (by omega) (by omega) ?_
    refine vV.rv dX5_writeLog_71 rfl ?_
    exact ⟨rfl, rfl⟩
end
section
/-! ===== own: the class's walker: begin, act ===== -/
theorem dX5_beginHere_0 : decode cX5_beginHere 0 = .ok (.aload_n 0, 1) := by decide +kernel
theorem dX5_beginHere_1 : decode cX5_beginHere 1 = .ok (.iconst 0, 1) := by decide +kernel
theorem dX5_beginHere_2 : decode cX5_beginHere 2 = .ok (.putfield 32, 3) := by decide +kernel
theorem dX5_beginHere_5 : decode cX5_beginHere 5 = .ok (.aload_n 0, 1) := by decide +kernel
theorem dX5_beginHere_6 : decode cX5_beginHere 6 = .ok (.iconst (-1), 1) := by decide +kernel
theorem dX5_beginHere_7 : decode cX5_beginHere 7 = .ok (.putfield 36, 3) := by decide +kernel
theorem dX5_beginHere_10 : decode cX5_beginHere 10 = .ok (.aload_n 0, 1) := by decide +kernel
theorem dX5_beginHere_11 : decode cX5_beginHere 11 = .ok (.iconst 0, 1) := by decide +kernel
theorem dX5_beginHere_12 : decode cX5_beginHere 12 = .ok (.putfield 39, 3) := by decide +kernel
theorem dX5_beginHere_15 : decode cX5_beginHere 15 = .ok (.aload_n 0, 1) := by decide +kernel
theorem dX5_beginHere_16 : decode cX5_beginHere 16 = .ok (.iconst (-1), 1) := by decide +kernel
theorem dX5_beginHere_17 : decode cX5_beginHere 17 = .ok (.putfield 42, 3) := by decide +kernel
theorem dX5_beginHere_20 : decode cX5_beginHere 20 = .ok (.aload_n 0, 1) := by decide +kernel
theorem dX5_beginHere_21 : decode cX5_beginHere 21 = .ok (.invokevirtual 45, 3) := by decide +kernel
theorem dX5_beginHere_24 : decode cX5_beginHere 24 = .ok (.return_, 1) := by decide +kernel
def wBeg (M M1 : vM) (n : Nat) : Prop := mSame [70, 76, 77] M M1 ∧ wSlot [1, 2, 3, 4] M M1 ∧ M1 70 1 = 0 ∧ M1 70 2 = -1 ∧ M1 70 3 = 0 ∧ M1 70 4 = -1 ∧ M1 76 = fSet (M 76) 0 (pPack (M 34) n) ∧ M1 77 = fSet (M 77) 0 (pLog (M 35 0) (-1) (-1) 0)
theorem c_X5_beginHere {d : List Nat} {T : vT} {M : vM} {n : Nat} (hB : vB T) (hW : sgW M 30 n) : vCon m_X5_beginHere d d [vR 70] T M (vPv fun T1 M1 => T = T1 ∧ wBeg M M1 n) := by
  refine vCon.of (by decide) rfl rfl (Nat.le_of_ble_eq_true rfl) ?_
  refine vV.aload_n dX5_beginHere_0 rfl ?_
  refine vV.iconst dX5_beginHere_1 (by decide) ?_
  refine vV.puti (z := 1) dX5_beginHere_2 fl_X5_32 (by first | rfl | assumption) rfl rfl ?_
  refine vV.aload_n dX5_beginHere_5 rfl ?_
  refine vV.iconst dX5_beginHere_6 (by decide) ?_
  refine vV.puti (z := 2) dX5_beginHere_7 fl_X5_36 (by first | rfl | assumption) rfl rfl ?_
  refine vV.aload_n dX5_beginHere_10 rfl ?_
  refine vV.iconst dX5_beginHere_11 (by decide) ?_
  refine vV.puti (z := 3) dX5_beginHere_12 fl_X5_39 (by first | rfl | assumption) rfl rfl ?_
  refine vV.aload_n dX5_beginHere_15 rfl ?_
  refine vV.iconst dX5_beginHere_16 (by decide) ?_
  refine vV.puti (z := 4) dX5_beginHere_17 fl_X5_42 (by first | rfl | assumption) rfl rfl ?_
  obtain ⟨N, hN⟩ : ∃ N, N = vUpd (vUpd (vUpd (vUpd M 70 1 0) 70 2 (-1)) 70 3 0) 70 4 (-1) := ⟨_, rfl⟩
  rw [← hN]
  have n1 : mSame [70] M N := fun k hk => by simp at hk; rw [hN]; funext j; rw [vUpd_nk hk, vUpd_nk hk, vUpd_nk hk, vUpd_nk hk]
  have n2 : wSlot [1, 2, 3, 4] M N := fun j hj => by simp at hj; rw [hN, vUpd_ni hj.2.2.2, vUpd_ni hj.2.2.1, vUpd_ni hj.2.1, vUpd_ni hj.1]
  have n3 : N 70 1 = (0 : Nat) := by rw [hN]; simp [vUpd]
  have n4 : N 70 2 = -1 := by rw [hN]; simp [vUpd]
  have n5 : N 70 3 = 0 := by rw [hN]; simp [vUpd]
  have n6 : N 70 4 = -1 := by rw [hN]; simp [vUpd]
  refine vV.aload_n dX5_beginHere_20 rfl ?_
  refine vV.cVv dX5_beginHere_21 ml_X5_45 cw_X5_writeLog iw_X5_writeLog (by first | rfl | assumption) rfl (by unfold vRoom; decide) (c_X5_writeLog (n := n) (t := 0) hB (sgW_70 n1 hW) n3 (by omega) (by omega) (by omega) (by omega)) rfl rfl (Nat.le_of_ble_eq_true rfl) ?_
  rintro _ _ ⟨rfl, rfl⟩
  refine vV.rv dX5_beginHere_24 rfl ?_
  have hsm : ∀ x y, mSame [76, 77] N (vUpd (vUpd N 76 (0 : Nat) x) 77 (0 : Nat) y) := fun x y k hk => by simp at hk; funext j; rw [vUpd_nk hk.2, vUpd_nk hk.1]
  refine ⟨rfl, fun k hk => ?_, fun j hj => ?_, ?_, ?_, ?_, ?_, ?_, ?_⟩
  · rw [hsm _ _ k (by simp at hk ⊢; omega), n1 k (by simp at hk ⊢; omega)]
  · rw [hsm _ _ 70 (by decide)]; exact n2 j hj
  · rw [hsm _ _ 70 (by decide)]; exact n3
  · rw [hsm _ _ 70 (by decide)]; exact n4
  · rw [hsm _ _ 70 (by decide)]; exact n5
  · rw [hsm _ _ 70 (by decide)]; exact n6
  · rw [vUpd_row (by decide), vUpd_r, vRow_s, n1 76 (by decide), n1 34 (by decide)]; rfl
  · rw [vUpd_r, vRow_s, vUpd_row (by decide), n1 77 (by decide), n1 35 (by decide), n4, n5, n6]; rfl
/-- the walker's state -/
def wP (M : vM) (n : Nat) : pP := (n, M 31, M 32, M 33, M 35 1, M 35 2)
def wSt (M : vM) (n t : Nat) (hist : Nat → Int → Int) (s : pS) : Prop := wS M n t s.2.2.1 s.2.2.2.2 ∧ wL M n t hist ∧ M 35 0 = s.1 ∧ M 34 = s.2.1 ∧ M 70 3 = s.2.2.2.1 ∧ hist t = s.2.1
theorem wBeg_st {M M1 : vM} {n : Nat} (hW : sgW M 30 n) (h : wBeg M M1 n) : wSt M1 n 0 (fun _ => M 34) (M 35 0, M 34, none, 0, none) := by
  obtain ⟨b1, b2, b3, b4, b5, b6, b7, b8⟩ := h
  have e34 : M1 34 = M 34 := b1 34 (by decide)
  have e35 : M1 35 = M 35 := b1 35 (by decide)
  have hp : 1 ≤ M 35 2 := hW.2.2.2.2.2.2.2.2.2.2.1.1
  refine ⟨⟨sgW_rows (b1 _ (by decide)) (b1 _ (by decide)) (b1 _ (by decide)) (b1 _ (by decide)) e34 e35 hW, b4, (fun _ h => nomatch h), b6, (fun _ h => nomatch h), ?_, b3⟩, ⟨fun i hi => ?_, fun i j => hW.tu j⟩, by rw [e35], e34, b5, rfl⟩
  · rw [b5, e35]; omega
  · rw [show i = 0 by omega, b7]; exact fSet_s _ _ _
theorem dX5_begin_0 : decode cX5_begin 0 = .ok (.aload_n 0, 1) := by decide +kernel
theorem dX5_begin_1 : decode cX5_begin 1 = .ok (.getfield 12, 3) := by decide +kernel
theorem dX5_begin_4 : decode cX5_begin 4 = .ok (.aload_n 1, 1) := by decide +kernel
theorem dX5_begin_5 : decode cX5_begin 5 = .ok (.invokevirtual 25, 3) := by decide +kernel
theorem dX5_begin_8 : decode cX5_begin 8 = .ok (.aload_n 0, 1) := by decide +kernel
theorem dX5_begin_9 : decode cX5_begin 9 = .ok (.invokevirtual 29, 3) := by decide +kernel
theorem dX5_begin_12 : decode cX5_begin 12 = .ok (.return_, 1) := by decide +kernel
theorem sgW_cp {M : vM} {a b n : Nat} (hab : a + 5 < b ∨ b + 5 < a) (h : sgW M b n) : sgW (sgCp M a b) a n := by
  unfold sgW sgCp
  refine ⟨?_, ?_⟩
  · simp only [vRow_n (show a ≠ a + 5 by omega), vRow_n (show a ≠ a + 4 by omega), vRow_n (show a ≠ a + 3 by omega), vRow_n (show a ≠ a + 2 by omega), vRow_n (show a ≠ a + 1 by omega), vRow_s, fSet_s]; exact h.1
  · simp only [vRow_s, vRow_n (show a + 1 ≠ a + 5 by omega), vRow_n (show a + 1 ≠ a + 4 by omega), vRow_n (show a + 1 ≠ a + 3 by omega), vRow_n (show a + 1 ≠ a + 2 by omega), vRow_n (show a + 2 ≠ a + 5 by omega), vRow_n (show a + 2 ≠ a + 4 by omega), vRow_n (show a + 2 ≠ a + 3 by omega), vRow_n (show a + 3 ≠ a + 5 by omega), vRow_n (show a + 3 ≠ a + 4 by omega), vRow_n (show a + 4 ≠ a + 5 by omega)]
    exact h.2
theorem c_X5_begin {d : List Nat} {T : vT} {M : vM} {n : Nat} (hB : vB T) (hZ : sgZ M 30) (hW : sgW M 10 n) : vCon m_X5_begin d d [vR 70, vR 10] T M (vPv fun T1 M1 => T = T1 ∧ wBeg (sgCp M 30 10) M1 n) := by
  refine vCon.of (by decide) rfl rfl (Nat.le_of_ble_eq_true rfl) ?_
  refine vV.aload_n dX5_begin_0 rfl ?_
  refine vV.getr dX5_begin_1 fl_X5_12 (by first | rfl | assumption) rfl (by first | assumption | exact hB _ _ _ rfl) ?_
  refine vV.aload_n dX5_begin_4 rfl ?_
  refine vV.cVv dX5_begin_5 ml_X5_25 cw_X3_copyFrom iw_X3_copyFrom (by first | rfl | assumption) rfl (by unfold vRoom; decide) (c_X3_copyFrom sgK_30 (sgT_30 hB) sgK_10 (sgT_10 hB) (by omega) hZ hW.z) rfl rfl (Nat.le_of_ble_eq_true rfl) ?_
  rintro _ _ ⟨rfl, rfl⟩
  refine vV.aload_n dX5_begin_8 rfl ?_
  refine vV.cVv dX5_begin_9 ml_X5_29 cw_X5_beginHere iw_X5_beginHere (by first | rfl | assumption) rfl (by unfold vRoom; decide) (c_X5_beginHere hB (sgW_cp (by omega) hW)) rfl rfl (Nat.le_of_ble_eq_true rfl) ?_
  rintro _ _ ⟨rfl, hbg⟩
  refine vV.rv dX5_begin_12 rfl ?_
  exact ⟨rfl, hbg⟩
theorem dX5_act_0 : decode cX5_act 0 = .ok (.aload_n 0, 1) := by decide +kernel
theorem dX5_act_1 : decode cX5_act 1 = .ok (.getfield 12, 3) := by decide +kernel
theorem dX5_act_4 : decode cX5_act 4 = .ok (.iload_n 1, 1) := by decide +kernel
theorem dX5_act_5 : decode cX5_act 5 = .ok (.invokevirtual 65, 3) := by decide +kernel
theorem dX5_act_8 : decode cX5_act 8 = .ok (.iload_n 1, 1) := by decide +kernel
theorem dX5_act_9 : decode cX5_act 9 = .ok (.iconst 3, 1) := by decide +kernel
theorem dX5_act_10 : decode cX5_act 10 = .ok (.if_icmp .ne 97, 3) := by decide +kernel
theorem dX5_act_13 : decode cX5_act 13 = .ok (.aload_n 0, 1) := by decide +kernel
theorem dX5_act_14 : decode cX5_act 14 = .ok (.getfield 36, 3) := by decide +kernel
theorem dX5_act_17 : decode cX5_act 17 = .ok (.ifCond .lt 90, 3) := by decide +kernel
theorem dX5_act_20 : decode cX5_act 20 = .ok (.aload_n 0, 1) := by decide +kernel
theorem dX5_act_21 : decode cX5_act 21 = .ok (.getfield 12, 3) := by decide +kernel
theorem dX5_act_24 : decode cX5_act 24 = .ok (.getfield 62, 3) := by decide +kernel
theorem dX5_act_27 : decode cX5_act 27 = .ok (.aload_n 0, 1) := by decide +kernel
theorem dX5_act_28 : decode cX5_act 28 = .ok (.getfield 36, 3) := by decide +kernel
theorem dX5_act_31 : decode cX5_act 31 = .ok (.iaload, 1) := by decide +kernel
theorem dX5_act_32 : decode cX5_act 32 = .ok (.aload_n 0, 1) := by decide +kernel
theorem dX5_act_33 : decode cX5_act 33 = .ok (.getfield 12, 3) := by decide +kernel
theorem dX5_act_36 : decode cX5_act 36 = .ok (.getfield 52, 3) := by decide +kernel
theorem dX5_act_39 : decode cX5_act 39 = .ok (.iconst 0, 1) := by decide +kernel
theorem dX5_act_40 : decode cX5_act 40 = .ok (.iaload, 1) := by decide +kernel
theorem dX5_act_41 : decode cX5_act 41 = .ok (.if_icmp .ne 66, 3) := by decide +kernel
theorem dX5_act_44 : decode cX5_act 44 = .ok (.aload_n 0, 1) := by decide +kernel
theorem dX5_act_45 : decode cX5_act 45 = .ok (.dup, 1) := by decide +kernel
theorem dX5_act_46 : decode cX5_act 46 = .ok (.getfield 39, 3) := by decide +kernel
theorem dX5_act_49 : decode cX5_act 49 = .ok (.iconst 1, 1) := by decide +kernel
theorem dX5_act_50 : decode cX5_act 50 = .ok (.iadd, 1) := by decide +kernel
theorem dX5_act_51 : decode cX5_act 51 = .ok (.putfield 39, 3) := by decide +kernel
theorem dX5_act_54 : decode cX5_act 54 = .ok (.aload_n 0, 1) := by decide +kernel
theorem dX5_act_55 : decode cX5_act 55 = .ok (.getfield 12, 3) := by decide +kernel
theorem dX5_act_58 : decode cX5_act 58 = .ok (.getfield 55, 3) := by decide +kernel
theorem dX5_act_61 : decode cX5_act 61 = .ok (.aload_n 0, 1) := by decide +kernel
theorem dX5_act_62 : decode cX5_act 62 = .ok (.getfield 36, 3) := by decide +kernel
theorem dX5_act_65 : decode cX5_act 65 = .ok (.iaload, 1) := by decide +kernel
theorem dX5_act_66 : decode cX5_act 66 = .ok (.aload_n 0, 1) := by decide +kernel
theorem dX5_act_67 : decode cX5_act 67 = .ok (.getfield 12, 3) := by decide +kernel
theorem dX5_act_70 : decode cX5_act 70 = .ok (.getfield 69, 3) := by decide +kernel
theorem dX5_act_73 : decode cX5_act 73 = .ok (.aload_n 0, 1) := by decide +kernel
theorem dX5_act_74 : decode cX5_act 74 = .ok (.getfield 36, 3) := by decide +kernel
theorem dX5_act_77 : decode cX5_act 77 = .ok (.iaload, 1) := by decide +kernel
theorem dX5_act_78 : decode cX5_act 78 = .ok (.if_icmp .eq 19, 3) := by decide +kernel
theorem dX5_act_81 : decode cX5_act 81 = .ok (.aload_n 0, 1) := by decide +kernel
theorem dX5_act_82 : decode cX5_act 82 = .ok (.getfield 39, 3) := by decide +kernel
theorem dX5_act_85 : decode cX5_act 85 = .ok (.aload_n 0, 1) := by decide +kernel
theorem dX5_act_86 : decode cX5_act 86 = .ok (.getfield 12, 3) := by decide +kernel
theorem dX5_act_89 : decode cX5_act 89 = .ok (.getfield 52, 3) := by decide +kernel
theorem dX5_act_92 : decode cX5_act 92 = .ok (.iconst 2, 1) := by decide +kernel
theorem dX5_act_93 : decode cX5_act 93 = .ok (.iaload, 1) := by decide +kernel
theorem dX5_act_94 : decode cX5_act 94 = .ok (.if_icmp .lt 13, 3) := by decide +kernel
theorem dX5_act_97 : decode cX5_act 97 = .ok (.aload_n 0, 1) := by decide +kernel
theorem dX5_act_98 : decode cX5_act 98 = .ok (.iconst (-1), 1) := by decide +kernel
theorem dX5_act_99 : decode cX5_act 99 = .ok (.putfield 36, 3) := by decide +kernel
theorem dX5_act_102 : decode cX5_act 102 = .ok (.aload_n 0, 1) := by decide +kernel
theorem dX5_act_103 : decode cX5_act 103 = .ok (.iconst 0, 1) := by decide +kernel
theorem dX5_act_104 : decode cX5_act 104 = .ok (.putfield 39, 3) := by decide +kernel
theorem dX5_act_107 : decode cX5_act 107 = .ok (.aload_n 0, 1) := by decide +kernel
theorem dX5_act_108 : decode cX5_act 108 = .ok (.getfield 12, 3) := by decide +kernel
theorem dX5_act_111 : decode cX5_act 111 = .ok (.invokevirtual 72, 3) := by decide +kernel
theorem dX5_act_114 : decode cX5_act 114 = .ok (.aload_n 0, 1) := by decide +kernel
theorem dX5_act_115 : decode cX5_act 115 = .ok (.dup, 1) := by decide +kernel
theorem dX5_act_116 : decode cX5_act 116 = .ok (.getfield 32, 3) := by decide +kernel
theorem dX5_act_119 : decode cX5_act 119 = .ok (.iconst 1, 1) := by decide +kernel
theorem dX5_act_120 : decode cX5_act 120 = .ok (.iadd, 1) := by decide +kernel
theorem dX5_act_121 : decode cX5_act 121 = .ok (.putfield 32, 3) := by decide +kernel
theorem dX5_act_124 : decode cX5_act 124 = .ok (.aload_n 0, 1) := by decide +kernel
theorem dX5_act_125 : decode cX5_act 125 = .ok (.invokevirtual 45, 3) := by decide +kernel
theorem dX5_act_128 : decode cX5_act 128 = .ok (.return_, 1) := by decide +kernel
def wTick (M M1 : vM) (n t : Nat) (g : Option Nat) (y : Int) : Prop := mSame [34, 35, 70, 76, 77] M M1 ∧ wSlot [1, 2, 3] M M1 ∧
  M1 34 = pDown n (M 33) (pWind n (M 31) (M 32) (M 34) (M 35 0) (M 35 1) y) ∧ M1 35 = fSet (M 35) 0 (pMan (M 35 0) y) ∧
  M1 70 2 = pOr (-1) (pGo (M 31) (M 32) (pWind n (M 31) (M 32) (M 34) (M 35 0) (M 35 1) y) (M 35 0) (M 35 2) y g (M 70 3)).1 ∧
  M1 70 3 = (pGo (M 31) (M 32) (pWind n (M 31) (M 32) (M 34) (M 35 0) (M 35 1) y) (M 35 0) (M 35 2) y g (M 70 3)).2 ∧
  M1 70 1 = (t + 1 : Nat) ∧ M1 76 = fSet (M 76) (t + 1 : Nat) (pPack (M1 34) n) ∧ M1 77 = fSet (M 77) (t + 1 : Nat) (pLog (M1 35 0) (M1 70 2) (M1 70 4) (M1 70 3))
theorem pGo_rg {pl fu tuW : Int → Int} {man pat thing : Int} {g : Option Nat} {w : Int} (hw : 0 ≤ w ∧ w < pat) : (0 ≤ (pGo pl fu tuW man pat thing g w).2 ∧ (pGo pl fu tuW man pat thing g w).2 < pat) ∧ ((pGo pl fu tuW man pat thing g w).1 = g ∨ (pGo pl fu tuW man pat thing g w).1 = none) := by
  cases g with
  | none => exact ⟨hw, Or.inl rfl⟩
  | some p =>
    unfold pGo; simp only
    split
    · split
      · exact ⟨by simp only; omega, Or.inr rfl⟩
      · exact ⟨by simp only; omega, Or.inl rfl⟩
    · exact ⟨hw, Or.inl rfl⟩
theorem pOr_rg {d : Int} {g : Option Nat} {n : Nat} (hn : n ≤ 6) (h : ∀ k, g = some k → k < n) (hd : -6 ≤ d ∧ d ≤ 5) : -6 ≤ pOr d g ∧ pOr d g ≤ 5 ∧ (d ≤ 0 → d ≤ pOr d g) := by
  cases g with
  | none => rw [pOr_n]; omega
  | some p => have := h p rfl; rw [pOr_s]; omega
theorem l_X5_act107 {d : List Nat} {T : vT} {M N : vM} {n t : Nat} {g l : Option Nat} {y : Int} (hB : vB T) (hS : wS M n t g l) (htt : t < 600) (hc : pCan n (M 31) (M 34) (M 35 0) y = true) (h1 : mSame [34, 35, 70] M N) (h2 : wSlot [2, 3] M N) (h3 : N 34 = pWind n (M 31) (M 32) (M 34) (M 35 0) (M 35 1) y) (h4 : N 35 = fSet (M 35) 0 (pMan (M 35 0) y))
    (h5 : N 70 2 = pOr (-1) (pGo (M 31) (M 32) (pWind n (M 31) (M 32) (M 34) (M 35 0) (M 35 1) y) (M 35 0) (M 35 2) y g (M 70 3)).1) (h6 : N 70 3 = (pGo (M 31) (M 32) (pWind n (M 31) (M 32) (M 34) (M 35 0) (M 35 1) y) (M 35 0) (M 35 2) y g (M 70 3)).2) :
    vV m_X5_act d d (vPv fun T1 M1 => T = T1 ∧ wTick M M1 n t g y ∧ wS M1 n (t + 1) (pGo (M 31) (M 32) (pWind n (M 31) (M 32) (M 34) (M 35 0) (M 35 1) y) (M 35 0) (M 35 2) y g (M 70 3)).1 l) 107 [some (vR 70), some (vI y)] [] d T N := by
  obtain ⟨s1, s2, s3, s4, s5, s6, s7⟩ := hS
  have hw := pWind_rg s1.2 y
  have hfu := s1.2.2.2.2.2.1
  have hfa := s1.fa
  refine vV.aload_n dX5_act_107 rfl ?_
  refine vV.getr dX5_act_108 fl_X5_12 (by first | rfl | assumption) rfl (by first | assumption | exact hB _ _ _ rfl) ?_
  refine vV.cVv dX5_act_111 ml_X5_72 cw_X3_runDown iw_X3_runDown (by first | rfl | assumption) rfl (by unfold vRoom; decide) (c_X3_runDown sgK_30 (sgT_30 hB) (n := n) (by rw [h1 30 (by decide)]; exact s1.1) s1.le (fun j => by rw [show (30 : Nat) + 4 = 34 from rfl, h3]; have a1 := hw j; have a2 := hfu j; exact ⟨a1.1, Int.le_trans a1.2 a2.2⟩) (fun j => by rw [h1 _ (by decide)]; exact hfa j)) rfl rfl (Nat.le_of_ble_eq_true rfl) ?_
  rintro _ _ ⟨rfl, rfl⟩
  obtain ⟨K, hK⟩ : ∃ K, K = vRow N 34 (pDown n (N 33) (N 34)) := ⟨_, rfl⟩
  rw [show (30 : Nat) + 4 = 34 from rfl, show (30 : Nat) + 3 = 33 from rfl, ← hK]
  have q0 : mSame [34] N K := fun k hk => by simp at hk; rw [hK, vRow_n hk]
  have q1 : K 34 = pDown n (M 33) (pWind n (M 31) (M 32) (M 34) (M 35 0) (M 35 1) y) := by rw [hK, vRow_s, h1 33 (by decide), h3]
  refine vV.aload_n dX5_act_114 rfl ?_
  refine vV.dup dX5_act_115 rfl ?_
  refine vV.geti (z := 1) dX5_act_116 fl_X5_32 (by first | rfl | assumption) rfl rfl ?_
  refine vV.iconst dX5_act_119 (by decide) ?_
  refine vV.iadd dX5_act_120 (⟨by rw [q0 70 (by decide), h2 1 (by decide), s7]; omega, by rw [q0 70 (by decide), h2 1 (by decide), s7]; omega⟩) ?_
  refine vV.puti (z := 1) dX5_act_121 fl_X5_32 (by first | rfl | assumption) rfl rfl ?_
  obtain ⟨J, hJ⟩ : ∃ J, J = vUpd K 70 1 (t + 1 : Nat) := ⟨_, rfl⟩
  rw [show K 70 1 + 1 = ((t + 1 : Nat) : Int) by rw [q0 70 (by decide), h2 1 (by decide), s7]; omega, ← hJ]
  have j0 : mSame [70] K J := fun k hk => by simp at hk; rw [hJ]; funext j; rw [vUpd_nk hk]
  have j1 : ∀ j, j ≠ 1 → J 70 j = N 70 j := fun j hj => by rw [hJ, vUpd_ni hj, q0 70 (by decide)]
  have j2 : J 70 1 = (t + 1 : Nat) := by rw [hJ, vUpd_s]
  have j34 : J 34 = pDown n (M 33) (pWind n (M 31) (M 32) (M 34) (M 35 0) (M 35 1) y) := by rw [j0 34 (by decide), q1]
  have j35 : J 35 = fSet (M 35) 0 (pMan (M 35 0) y) := by rw [j0 35 (by decide), q0 35 (by decide), h4]
  have jk : ∀ k, k ∉ [34, 35, 70] → J k = M k := fun k hk => by rw [j0 k (by simp at hk ⊢; omega), q0 k (by simp at hk ⊢; omega), h1 k hk]
  have jW : sgW J 30 n := by
    have hA := sgW_act s1 hc
    refine sgW_rows ?_ ?_ ?_ ?_ ?_ ?_ hA
    · rw [jk _ (by decide)]; rfl
    · rw [jk _ (by decide)]; rfl
    · rw [jk _ (by decide)]; rfl
    · rw [jk _ (by decide)]; rfl
    · rw [j34]; rfl
    · rw [j35]; rfl
  have hgo := pGo_rg (pl := M 31) (fu := M 32) (tuW := pWind n (M 31) (M 32) (M 34) (M 35 0) (M 35 1) y) (man := M 35 0) (thing := y) (g := g) s6
  have hgr : ∀ k, (pGo (M 31) (M 32) (pWind n (M 31) (M 32) (M 34) (M 35 0) (M 35 1) y) (M 35 0) (M 35 2) y g (M 70 3)).1 = some k → k < n := fun k hk => by
    rcases hgo.2 with h | h
    · rw [h] at hk; exact s3 k hk
    · rw [h] at hk; cases hk
  have r1 := pOr_rg (d := -1) s1.le hgr (by omega)
  have r2 := pOr_rg (d := -1) s1.le s5 (by omega)
  have hpat : M 35 2 ≤ 9 := s1.2.2.2.2.2.2.2.2.2.2.1.2
  have j702 : J 70 2 = pOr (-1) (pGo (M 31) (M 32) (pWind n (M 31) (M 32) (M 34) (M 35 0) (M 35 1) y) (M 35 0) (M 35 2) y g (M 70 3)).1 := by rw [j1 2 (by decide), h5]
  have j703 : J 70 3 = (pGo (M 31) (M 32) (pWind n (M 31) (M 32) (M 34) (M 35 0) (M 35 1) y) (M 35 0) (M 35 2) y g (M 70 3)).2 := by rw [j1 3 (by decide), h6]
  have j704 : J 70 4 = M 70 4 := by rw [j1 4 (by decide), h2 4 (by decide)]
  refine vV.aload_n dX5_act_124 rfl ?_
  refine vV.cVv dX5_act_125 ml_X5_45 cw_X5_writeLog iw_X5_writeLog (by first | rfl | assumption) rfl (by unfold vRoom; decide) (c_X5_writeLog (n := n) (t := t + 1) hB jW j2 (by omega) (by rw [j702]; omega) (by rw [j704, s4]; omega) (by rw [j703]; omega)) rfl rfl (Nat.le_of_ble_eq_true rfl) ?_
  rintro _ _ ⟨rfl, rfl⟩
  refine vV.rv dX5_act_128 rfl ?_
  have hsm : ∀ x z, mSame [76, 77] J (vUpd (vUpd J 76 (t + 1 : Nat) x) 77 (t + 1 : Nat) z) := fun x z k hk => by simp at hk; funext j; rw [vUpd_nk hk.2, vUpd_nk hk.1]
  refine ⟨rfl, ⟨fun k hk => ?_, fun j hj => ?_, ?_, ?_, ?_, ?_, ?_, ?_, ?_⟩, ?_, ?_, hgr, ?_, s5, ?_, ?_⟩
  · rw [hsm _ _ k (by simp at hk ⊢; omega), jk k (by simp at hk ⊢; omega)]
  · simp at hj; rw [hsm _ _ 70 (by decide), j1 j (by omega), h2 j (by simp; omega)]
  · rw [hsm _ _ 34 (by decide)]; exact j34
  · rw [hsm _ _ 35 (by decide)]; exact j35
  · rw [hsm _ _ 70 (by decide)]; exact j702
  · rw [hsm _ _ 70 (by decide)]; exact j703
  · rw [hsm _ _ 70 (by decide)]; exact j2
  · rw [hsm _ _ 34 (by decide), vUpd_row (by decide), vUpd_r, vRow_s, jk 76 (by decide)]
  · rw [hsm _ _ 35 (by decide), hsm _ _ 70 (by decide), vUpd_r, vRow_s, vUpd_row (by decide), jk 77 (by decide)]
  · exact sgW_rows (hsm _ _ _ (by decide)) (hsm _ _ _ (by decide)) (hsm _ _ _ (by decide)) (hsm _ _ _ (by decide)) (hsm _ _ _ (by decide)) (hsm _ _ _ (by decide)) jW
  · rw [hsm _ _ 70 (by decide)]; exact j702
  · rw [hsm _ _ 70 (by decide), j704]; exact s4
  · rw [hsm _ _ 70 (by decide), hsm _ _ 35 (by decide), j703, j35, fSet_n (by decide)]; exact hgo.1
  · rw [hsm _ _ 70 (by decide)]; exact j2
end
section
/-! ===== own: the class's walker: act; the walk by a rule ===== -/
theorem c_X5_act {d : List Nat} {T : vT} {M : vM} {n t : Nat} {g l : Option Nat} {y : Int} (hB : vB T) (hS : wS M n t g l) (htt : t < 600) (hc : pCan n (M 31) (M 34) (M 35 0) y = true) :
    vCon m_X5_act d d [vR 70, vI y] T M (vPv fun T1 M1 => T = T1 ∧ wTick M M1 n t g y ∧ wS M1 n (t + 1) (pGo (M 31) (M 32) (pWind n (M 31) (M 32) (M 34) (M 35 0) (M 35 1) y) (M 35 0) (M 35 2) y g (M 70 3)).1 l) := by
  have hS2 := hS
  obtain ⟨s1, s2, s3, s4, s5, s6, s7⟩ := hS2
  have hn := s1.le
  refine vCon.of (by decide) rfl rfl (Nat.le_of_ble_eq_true rfl) ?_
  refine vV.aload_n dX5_act_0 rfl ?_
  refine vV.getr dX5_act_1 fl_X5_12 (by first | rfl | assumption) rfl (by first | assumption | exact hB _ _ _ rfl) ?_
  refine vV.iload_n dX5_act_4 rfl ?_
  refine vV.cVv dX5_act_5 ml_X5_65 cw_X3_move iw_X3_move (by first | rfl | assumption) rfl (by unfold vRoom; decide) (c_X3_move sgK_30 (sgT_30 hB) s1) rfl rfl (Nat.le_of_ble_eq_true rfl) ?_
  rintro _ _ ⟨rfl, rfl⟩
  obtain ⟨N, hN⟩ : ∃ N, N = sgMv M 30 n y := ⟨_, rfl⟩
  rw [← hN]
  have n34 : N 34 = pWind n (M 31) (M 32) (M 34) (M 35 0) (M 35 1) y := by rw [hN]; unfold sgMv; rw [vRow_s]
  have n35 : N 35 = fSet (M 35) 0 (pMan (M 35 0) y) := by rw [hN]; unfold sgMv; rw [vRow_n (by decide), vRow_s]
  have nk : mSame [34, 35] M N := fun k hk => by simp at hk; rw [hN]; unfold sgMv; rw [vRow_n hk.1, vRow_n hk.2]
  have n70 : N 70 = M 70 := nk 70 (by decide)
  have n31 : N 31 = M 31 := nk 31 (by decide)
  have n32 : N 32 = M 32 := nk 32 (by decide)
  have n3 : y = 3 → N 35 0 = M 35 0 := fun h => by rw [n35, fSet_s, h]; rfl
  have n352 : N 35 2 = M 35 2 := by rw [n35, fSet_n (by decide)]
  have fin : ∀ K, mSame [70] N K → wSlot [2, 3] N K → (∀ q, pGo (M 31) (M 32) (pWind n (M 31) (M 32) (M 34) (M 35 0) (M 35 1) y) (M 35 0) (M 35 2) y g (M 70 3) = q → K 70 2 = pOr (-1) q.1 ∧ K 70 3 = q.2) → vV m_X5_act d d (vPv fun T1 M1 => T = T1 ∧ wTick M M1 n t g y ∧ wS M1 n (t + 1) (pGo (M 31) (M 32) (pWind n (M 31) (M 32) (M 34) (M 35 0) (M 35 1) y) (M 35 0) (M 35 2) y g (M 70 3)).1 l) 107 [some (vR 70), some (vI y)] [] d T K := fun K k1 k2 k3 =>
    l_X5_act107 hB hS htt hc (fun k hk => by rw [k1 k (by simp at hk ⊢; omega), nk k (by simp at hk ⊢; omega)]) (fun j hj => by rw [k2 j hj, n70]) (by rw [k1 34 (by decide), n34]) (by rw [k1 35 (by decide), n35]) (k3 _ rfl).1 (k3 _ rfl).2
  cases g with
  | none =>
    rw [pOr_n] at s2
    refine vV.iload_n dX5_act_8 rfl ?_
    refine vV.iconst dX5_act_9 (by decide) ?_
    refine vV.icmp_ne (tgt := 107) dX5_act_10 (by decide) (fun h10 => ?_) (fun h10 => ?_)
    · skip
      exact fin N (fun _ _ => rfl) (fun _ _ => rfl) (fun q hq => by subst hq; rw [n70]; exact ⟨s2, rfl⟩)
    · skip
      refine vV.aload_n dX5_act_13 rfl ?_
      refine vV.geti (z := 2) dX5_act_14 fl_X5_36 (by first | rfl | assumption) rfl rfl ?_
      refine vV.if_lt (tgt := 107) dX5_act_17 (by decide) (fun h17 => ?_) (fun h17 => ?_)
      · skip
        exact fin N (fun _ _ => rfl) (fun _ _ => rfl) (fun q hq => by subst hq; rw [n70]; exact ⟨s2, rfl⟩)
      · skip
        rw [n70, s2] at h17; omega
  | some p =>
    have hp := s3 p rfl
    rw [pOr_s] at s2
    have e2 : N 70 2 = (p : Int) := by rw [n70]; exact s2
    have e3 : N 70 3 = M 70 3 := by rw [n70]
    have hpat : M 35 2 ≤ 9 := s1.2.2.2.2.2.2.2.2.2.2.1.2
    refine vV.iload_n dX5_act_8 rfl ?_
    refine vV.iconst dX5_act_9 (by decide) ?_
    refine vV.icmp_ne (tgt := 107) dX5_act_10 (by decide) (fun h10 => ?_) (fun h10 => ?_)
    · skip
      refine fin N (fun _ _ => rfl) (fun _ _ => rfl) (fun q hq => ?_)
      rw [pGo_n h10] at hq
      subst hq
      exact ⟨e2, e3⟩
      skip
    · skip
      have hm := n3 h10
      refine vV.aload_n dX5_act_13 rfl ?_
      refine vV.geti (z := 2) dX5_act_14 fl_X5_36 (by first | rfl | assumption) rfl rfl ?_
      try simp (decide := true) only [vUpd_s, vUpd_nk, vUpd_ni, vRow_s, vRow_n, fSet_s, fSet_n, ne_eq, not_false_eq_true]
      refine vV.if_lt (tgt := 107) dX5_act_17 (by decide) (fun h17 => ?_) (fun h17 => ?_)
      · skip
        rw [e2] at h17; omega
      · skip
        refine vV.aload_n dX5_act_20 rfl ?_
        refine vV.getr dX5_act_21 fl_X5_12 (by first | rfl | assumption) rfl (by first | assumption | exact hB _ _ _ rfl) ?_
        try simp (decide := true) only [vUpd_s, vUpd_nk, vUpd_ni, vRow_s, vRow_n, fSet_s, fSet_n, ne_eq, not_false_eq_true]
        refine vV.getr dX5_act_24 fl_X5_62 (by first | rfl | assumption) rfl (by first | assumption | exact hB _ _ _ rfl) ?_
        try simp (decide := true) only [vUpd_s, vUpd_nk, vUpd_ni, vRow_s, vRow_n, fSet_s, fSet_n, ne_eq, not_false_eq_true]
        refine vV.aload_n dX5_act_27 rfl ?_
        refine vV.geti (z := 2) dX5_act_28 fl_X5_36 (by first | rfl | assumption) rfl rfl ?_
        try simp (decide := true) only [vUpd_s, vUpd_nk, vUpd_ni, vRow_s, vRow_n, fSet_s, fSet_n, ne_eq, not_false_eq_true]
        rw [e2]
        refine vV.iald dX5_act_31 (by first | rfl | assumption) (by omega) (by omega) ?_
        try simp (decide := true) only [vUpd_s, vUpd_nk, vUpd_ni, vRow_s, vRow_n, fSet_s, fSet_n, ne_eq, not_false_eq_true]
        refine vV.aload_n dX5_act_32 rfl ?_
        refine vV.getr dX5_act_33 fl_X5_12 (by first | rfl | assumption) rfl (by first | assumption | exact hB _ _ _ rfl) ?_
        try simp (decide := true) only [vUpd_s, vUpd_nk, vUpd_ni, vRow_s, vRow_n, fSet_s, fSet_n, ne_eq, not_false_eq_true]
        refine vV.getr dX5_act_36 fl_X5_52 (by first | rfl | assumption) rfl (by first | assumption | exact hB _ _ _ rfl) ?_
        try simp (decide := true) only [vUpd_s, vUpd_nk, vUpd_ni, vRow_s, vRow_n, fSet_s, fSet_n, ne_eq, not_false_eq_true]
        refine vV.iconst dX5_act_39 (by decide) ?_
        refine vV.iald dX5_act_40 (by first | rfl | assumption) (by omega) (by omega) ?_
        try simp (decide := true) only [vUpd_s, vUpd_nk, vUpd_ni, vRow_s, vRow_n, fSet_s, fSet_n, ne_eq, not_false_eq_true]
        rw [n31, hm]
        refine vV.icmp_ne (tgt := 107) dX5_act_41 (by decide) (fun h41 => ?_) (fun h41 => ?_)
        · skip
          refine fin N (fun _ _ => rfl) (fun _ _ => rfl) (fun q hq => ?_)
          unfold pGo at hq
          simp only at hq
          rw [if_neg (fun z => h41 z.2)] at hq
          subst hq
          exact ⟨e2, e3⟩
          skip
        · skip
          refine vV.aload_n dX5_act_44 rfl ?_
          refine vV.dup dX5_act_45 rfl ?_
          refine vV.geti (z := 3) dX5_act_46 fl_X5_39 (by first | rfl | assumption) rfl rfl ?_
          try simp (decide := true) only [vUpd_s, vUpd_nk, vUpd_ni, vRow_s, vRow_n, fSet_s, fSet_n, ne_eq, not_false_eq_true]
          refine vV.iconst dX5_act_49 (by decide) ?_
          refine vV.iadd dX5_act_50 (⟨by omega, by omega⟩) ?_
          refine vV.puti (z := 3) dX5_act_51 fl_X5_39 (by first | rfl | assumption) rfl rfl ?_
          refine vV.aload_n dX5_act_54 rfl ?_
          refine vV.getr dX5_act_55 fl_X5_12 (by first | rfl | assumption) rfl (by first | assumption | exact hB _ _ _ rfl) ?_
          try simp (decide := true) only [vUpd_s, vUpd_nk, vUpd_ni, vRow_s, vRow_n, fSet_s, fSet_n, ne_eq, not_false_eq_true]
          refine vV.getr dX5_act_58 fl_X5_55 (by first | rfl | assumption) rfl (by first | assumption | exact hB _ _ _ rfl) ?_
          try simp (decide := true) only [vUpd_s, vUpd_nk, vUpd_ni, vRow_s, vRow_n, fSet_s, fSet_n, ne_eq, not_false_eq_true]
          refine vV.aload_n dX5_act_61 rfl ?_
          refine vV.geti (z := 2) dX5_act_62 fl_X5_36 (by first | rfl | assumption) rfl rfl ?_
          try simp (decide := true) only [vUpd_s, vUpd_nk, vUpd_ni, vRow_s, vRow_n, fSet_s, fSet_n, ne_eq, not_false_eq_true]
          rw [e2]
          refine vV.iald dX5_act_65 (by first | rfl | assumption) (by omega) (by omega) ?_
          try simp (decide := true) only [vUpd_s, vUpd_nk, vUpd_ni, vRow_s, vRow_n, fSet_s, fSet_n, ne_eq, not_false_eq_true]
          refine vV.aload_n dX5_act_66 rfl ?_
          refine vV.getr dX5_act_67 fl_X5_12 (by first | rfl | assumption) rfl (by first | assumption | exact hB _ _ _ rfl) ?_
          try simp (decide := true) only [vUpd_s, vUpd_nk, vUpd_ni, vRow_s, vRow_n, fSet_s, fSet_n, ne_eq, not_false_eq_true]
          refine vV.getr dX5_act_70 fl_X5_69 (by first | rfl | assumption) rfl (by first | assumption | exact hB _ _ _ rfl) ?_
          try simp (decide := true) only [vUpd_s, vUpd_nk, vUpd_ni, vRow_s, vRow_n, fSet_s, fSet_n, ne_eq, not_false_eq_true]
          refine vV.aload_n dX5_act_73 rfl ?_
          refine vV.geti (z := 2) dX5_act_74 fl_X5_36 (by first | rfl | assumption) rfl rfl ?_
          try simp (decide := true) only [vUpd_s, vUpd_nk, vUpd_ni, vRow_s, vRow_n, fSet_s, fSet_n, ne_eq, not_false_eq_true]
          rw [e2]
          refine vV.iald dX5_act_77 (by first | rfl | assumption) (by omega) (by omega) ?_
          try simp (decide := true) only [vUpd_s, vUpd_nk, vUpd_ni, vRow_s, vRow_n, fSet_s, fSet_n, ne_eq, not_false_eq_true]
          rw [n34, n32]
          refine vV.icmp_eq (tgt := 97) dX5_act_78 (by decide) (fun h78 => ?_) (fun h78 => ?_)
          · skip
            have hgo : pGo (M 31) (M 32) (pWind n (M 31) (M 32) (M 34) (M 35 0) (M 35 1) y) (M 35 0) (M 35 2) y (some p) (M 70 3) = (none, 0) := by { unfold pGo; simp only; rw [if_pos ⟨h10, h41⟩, if_pos (Or.inl h78)] }
            refine vV.aload_n dX5_act_97 rfl ?_
            refine vV.iconst dX5_act_98 (by decide) ?_
            refine vV.puti (z := 2) dX5_act_99 fl_X5_36 (by first | rfl | assumption) rfl rfl ?_
            refine vV.aload_n dX5_act_102 rfl ?_
            refine vV.iconst dX5_act_103 (by decide) ?_
            refine vV.puti (z := 3) dX5_act_104 fl_X5_39 (by first | rfl | assumption) rfl rfl ?_
            refine fin _ (fun k hk => by simp at hk; funext j; simp [vUpd, hk]) (fun j hj => by simp at hj; simp [vUpd, hj]) (fun q hq => ?_)
            rw [hgo] at hq
            subst hq
            simp [vUpd, e2, e3, pOr]
          · skip
            refine vV.aload_n dX5_act_81 rfl ?_
            refine vV.geti (z := 3) dX5_act_82 fl_X5_39 (by first | rfl | assumption) rfl rfl ?_
            try simp (decide := true) only [vUpd_s, vUpd_nk, vUpd_ni, vRow_s, vRow_n, fSet_s, fSet_n, ne_eq, not_false_eq_true]
            refine vV.aload_n dX5_act_85 rfl ?_
            refine vV.getr dX5_act_86 fl_X5_12 (by first | rfl | assumption) rfl (by first | assumption | exact hB _ _ _ rfl) ?_
            try simp (decide := true) only [vUpd_s, vUpd_nk, vUpd_ni, vRow_s, vRow_n, fSet_s, fSet_n, ne_eq, not_false_eq_true]
            refine vV.getr dX5_act_89 fl_X5_52 (by first | rfl | assumption) rfl (by first | assumption | exact hB _ _ _ rfl) ?_
            try simp (decide := true) only [vUpd_s, vUpd_nk, vUpd_ni, vRow_s, vRow_n, fSet_s, fSet_n, ne_eq, not_false_eq_true]
            refine vV.iconst dX5_act_92 (by decide) ?_
            refine vV.iald dX5_act_93 (by first | rfl | assumption) (by omega) (by omega) ?_
            try simp (decide := true) only [vUpd_s, vUpd_nk, vUpd_ni, vRow_s, vRow_n, fSet_s, fSet_n, ne_eq, not_false_eq_true]
            refine vV.icmp_lt (tgt := 107) dX5_act_94 (by decide) (fun h94 => ?_) (fun h94 => ?_)
            · skip
              rw [e3, n352] at h94
              have hgo : pGo (M 31) (M 32) (pWind n (M 31) (M 32) (M 34) (M 35 0) (M 35 1) y) (M 35 0) (M 35 2) y (some p) (M 70 3) = (some p, M 70 3 + 1) := by { unfold pGo; simp only; rw [if_pos ⟨h10, h41⟩, if_neg (fun z => z.elim h78 (fun z2 => by omega))] }
              refine fin _ (fun k hk => by simp at hk; funext j; simp [vUpd, hk]) (fun j hj => by simp at hj; simp [vUpd, hj]) (fun q hq => ?_)
              rw [hgo] at hq
              subst hq
              simp [vUpd, e2, e3, pOr]
            · skip
              rw [e3, n352] at h94
              have hgo : pGo (M 31) (M 32) (pWind n (M 31) (M 32) (M 34) (M 35 0) (M 35 1) y) (M 35 0) (M 35 2) y (some p) (M 70 3) = (none, 0) := by { unfold pGo; simp only; rw [if_pos ⟨h10, h41⟩, if_pos (Or.inr (by omega))] }
              refine vV.aload_n dX5_act_97 rfl ?_
              refine vV.iconst dX5_act_98 (by decide) ?_
              refine vV.puti (z := 2) dX5_act_99 fl_X5_36 (by first | rfl | assumption) rfl rfl ?_
              refine vV.aload_n dX5_act_102 rfl ?_
              refine vV.iconst dX5_act_103 (by decide) ?_
              refine vV.puti (z := 3) dX5_act_104 fl_X5_39 (by first | rfl | assumption) rfl rfl ?_
              refine fin _ (fun k hk => by simp at hk; funext j; simp [vUpd, hk]) (fun j hj => by simp at hj; simp [vUpd, hj]) (fun q hq => ?_)
              rw [hgo] at hq
              subst hq
              simp [vUpd, e2, e3, pOr]
end
section
/-! ===== own: the class's walker: the walk by a rule ===== -/
def pLS (s : pS) : Int := pLog s.1 (pOr (-1) s.2.2.1) (pOr (-1) s.2.2.2.2) s.2.2.2.1
/-- what a walk of the walker leaves as it was -/
def wKeep (M M1 : vM) : Prop := mSame [34, 35, 70, 76, 77] M M1 ∧ (∀ j, j ≠ 0 → M1 35 j = M 35 j) ∧ (sgZ M 30 → sgZ M1 30)
theorem wKeep.rf (M : vM) : wKeep M M := ⟨fun _ _ => rfl, fun _ _ => rfl, id⟩
theorem wKeep.tr {M M1 M2 : vM} (h1 : wKeep M M1) (h2 : wKeep M1 M2) : wKeep M M2 := ⟨fun k hk => (h2.1 k hk).trans (h1.1 k hk), fun j hj => (h2.2.1 j hj).trans (h1.2.1 j hj), fun z => h2.2.2 (h1.2.2 z)⟩
def wTj (M : vM) (rule : Int) (P : pP) (lag : Nat) (s0 : pS) (t : Nat) : Prop := wP M P.1 = P ∧ M 35 3 = lag ∧ (∃ hist, (∀ i, i ≤ t → hist i = (pTr rule P lag s0 i).2.1) ∧ wSt M P.1 t hist (pTr rule P lag s0 t)) ∧ ∀ i : Nat, i ≤ t → M 77 i = pLS (pTr rule P lag s0 i)
theorem wTj.S {M : vM} {rule : Int} {P : pP} {lag : Nat} {s0 : pS} {t : Nat} (h : wTj M rule P lag s0 t) : wS M P.1 t (pTr rule P lag s0 t).2.2.1 (pTr rule P lag s0 t).2.2.2.2 := by
  obtain ⟨-, -, ⟨hist, -, h1, -⟩, -⟩ := h; exact h1
theorem wTj.tu {M : vM} {rule : Int} {P : pP} {lag : Nat} {s0 : pS} {t : Nat} (h : wTj M rule P lag s0 t) : M 34 = (pTr rule P lag s0 t).2.1 := by
  obtain ⟨-, -, ⟨hist, -, -, -, -, h1, -⟩, -⟩ := h; exact h1
theorem wTj.man {M : vM} {rule : Int} {P : pP} {lag : Nat} {s0 : pS} {t : Nat} (h : wTj M rule P lag s0 t) : M 35 0 = (pTr rule P lag s0 t).1 := by
  obtain ⟨-, -, ⟨hist, -, -, -, h1, -⟩, -⟩ := h; exact h1
theorem wTj.lag3 {M : vM} {rule : Int} {P : pP} {lag : Nat} {s0 : pS} {t : Nat} (h : wTj M rule P lag s0 t) : lag ≤ 3 := by
  have h1 := h.S.1.2.2.2.2.2.2.2.2.2.2.2.1
  have h2 : M 35 3 ≤ 3 := h1.2
  have h3 := h.2.1
  omega
theorem wTj.log {M : vM} {rule : Int} {P : pP} {lag : Nat} {s0 : pS} {t i : Nat} (h : wTj M rule P lag s0 t) (hi : i ≤ t) : M 76 i = pPack (pTr rule P lag s0 i).2.1 P.1 := by
  obtain ⟨-, -, ⟨hist, h1, -, h2, -⟩, -⟩ := h
  rw [h2.1 i hi, h1 i hi]
/-- behind choose -/
def wCho (M N : vM) (P : pP) (c : pS) (t : Nat) (r : Int) : Prop := r = pThing P.2.1 c.1 c.2.2.1 ∧ mSame [70] M N ∧ wS N P.1 t c.2.2.1 c.2.2.2.2 ∧ N 70 3 = c.2.2.2.1 ∧ pCan P.1 P.2.1 c.2.1 c.1 r = true ∧ M 35 0 = c.1 ∧ M 34 = c.2.1
theorem c_X5_chooseT {d : List Nat} {T : vT} {M : vM} {rule : Int} {P : pP} {lag : Nat} {s0 : pS} {t : Nat} (hB : vB T) (h : wTj M rule P lag s0 t) (ht : t < 600) (hr0 : 0 ≤ rule) (hr3 : rule ≤ 3) : vCon m_X5_choose d d [vR 70, vI rule] T M (vPi fun r T1 N => T = T1 ∧ wCho M N P (pCh rule P (pTr rule P lag s0 (t - lag)).2.1 (pTr rule P lag s0 t)) t r) := by
  have hl3 := h.lag3
  obtain ⟨h1, h2, ⟨hist, h3, hS, hL, m1, m2, m3, m4⟩, h5⟩ := h
  rw [← h3 (t - lag) (by omega)]
  obtain ⟨s, hs⟩ : ∃ s, s = pTr rule P lag s0 t := ⟨_, rfl⟩
  rw [← hs] at hS m1 m2 m3 m4 ⊢
  clear h3 h5 hs
  obtain ⟨n, pl, fu, fa, gv, pt⟩ := P
  simp only [wP, Prod.mk.injEq, true_and] at h1
  obtain ⟨rfl, rfl, rfl, rfl, rfl⟩ := h1
  obtain ⟨s1, s2, s3, s4, s5, s6, s7⟩ := hS
  have hpl := s1.2.2.2.2.1
  have hman := s1.2.2.2.2.2.2.2.2.1
  have hdis := s1.2.2.2.2.2.2.2.2.2.2.2.2.2.2
  refine (c_X5_choose (d := d) hB ⟨s1, s2, s3, s4, s5, s6, s7⟩ hL (by omega) h2 hl3 hr0 hr3).imp ?_
  rintro r T1 N ⟨rfl, a1, a2, a3, a4, a5, a6⟩
  refine ⟨rfl, ?_, a2, ⟨sgW_70 a2 s1, ?_, pG1_lt s3, ?_, pL1_lt s5, ?_, by rw [a3 1 (by decide)]; exact s7⟩, ?_, ?_, m1, m2⟩
  · rw [a1]; unfold pCh; simp only; rw [← m1, ← m2]
  · rw [a4]; unfold pCh; simp only; rw [← m1, ← m2]
  · rw [a6]; unfold pCh; simp only; rw [← m1, ← m2]
  · rw [a5, a2 35 (by decide)]; unfold pW1; split <;> omega
  · rw [a5]; unfold pCh; simp only; rw [← m2, ← m3]
  · rw [a1]; unfold pCh; simp only; rw [← m1, ← m2]
    exact pThing_can hdis (fun j => hpl j) hman (fun k hk => ⟨pG1_lt s3 k hk, pG1_std (fun j => (s1.tu j).1) hk⟩)
theorem c_X5_actT {d : List Nat} {T : vT} {M N : vM} {rule r : Int} {P : pP} {lag : Nat} {s0 : pS} {t : Nat} (hB : vB T) (h : wTj M rule P lag s0 t) (ht : t < 600) (hc : wCho M N P (pCh rule P (pTr rule P lag s0 (t - lag)).2.1 (pTr rule P lag s0 t)) t r) : vCon m_X5_act d d [vR 70, vI r] T N (vPv fun T1 M1 => T = T1 ∧ wKeep M M1 ∧ wTj M1 rule P lag s0 (t + 1)) := by
  have hst := pTr_s rule P lag s0 t
  obtain ⟨h1, h2, ⟨hist, h3, hS, hL, m1, m2, m3, m4⟩, h5⟩ := h
  obtain ⟨c1, c2, c3, c4, c5, c6, c7⟩ := hc
  have hPs : pStep rule P (pTr rule P lag s0 (t - lag)).2.1 (pTr rule P lag s0 t) = pDo P r (pCh rule P (pTr rule P lag s0 (t - lag)).2.1 (pTr rule P lag s0 t)) := by rw [c1]; rfl
  rw [hPs] at hst
  obtain ⟨c, hcd⟩ : ∃ c, c = pCh rule P (pTr rule P lag s0 (t - lag)).2.1 (pTr rule P lag s0 t) := ⟨_, rfl⟩
  rw [← hcd] at hst c1 c3 c4 c5 c6 c7
  clear hPs hcd
  have e0 : P.1 = (wP M P.1).1 := rfl
  have e31 : P.2.1 = M 31 := by rw [← h1]; rfl
  have e32 : P.2.2.1 = M 32 := by rw [← h1]; rfl
  have e33 : P.2.2.2.1 = M 33 := by rw [← h1]; rfl
  have eg : P.2.2.2.2.1 = M 35 1 := by rw [← h1]; rfl
  have ep : P.2.2.2.2.2 = M 35 2 := by rw [← h1]; rfl
  have n31 : N 31 = M 31 := c2 31 (by decide)
  have n32 : N 32 = M 32 := c2 32 (by decide)
  have n33 : N 33 = M 33 := c2 33 (by decide)
  have n34 : N 34 = M 34 := c2 34 (by decide)
  have n35 : N 35 = M 35 := c2 35 (by decide)
  have hA := c_X5_act (d := d) hB c3 ht (by rw [n31, n34, n35, ← e31, c6, c7]; exact c5)
  intro l D q ρ sz hok hle
  intro p e ha hc1 hk s m args below hf hap hP hK
  obtain ⟨k, o, a1, a2, a3, ⟨⟨r', T1, M1, ρ1, b1, ⟨hr, hT, hk2, hS1⟩, b5⟩, b6⟩, a5⟩ := hA l D q ρ sz hok hle p e ha hc1 hk s m args below hf hap hP hK
  refine ⟨k, o, a1, a2, a3, ⟨⟨r', T1, M1, ρ1, b1, ⟨hr, hT, ?_⟩, b5⟩, b6⟩, a5⟩
  obtain ⟨t1, t2, t3, t4, t5, t6, t7, t8, t9⟩ := hk2
  have t35 : ∀ j, j ≠ 0 → M1 35 j = M 35 j := fun j hj => by rw [t4, fSet_n hj, n35]
  have hst1 : (pTr rule P lag s0 (t + 1)).1 = M1 35 0 := by rw [hst, t4, fSet_s, n35, c6]; rfl
  have hst2 : (pTr rule P lag s0 (t + 1)).2.1 = M1 34 := by
    rw [hst, t3, n31, n32, n33, n34, n35, c6, c7, ← e31, ← e32, ← e33, ← eg]; rfl
  have hst3 : (pTr rule P lag s0 (t + 1)).2.2.1 = (pGo (N 31) (N 32) (pWind P.1 (N 31) (N 32) (N 34) (N 35 0) (N 35 1) r) (N 35 0) (N 35 2) r c.2.2.1 (N 70 3)).1 := by
    rw [hst, n31, n32, n34, n35, c6, c7, c4, ← e31, ← e32, ← eg, ← ep]; rfl
  have hst4 : (pTr rule P lag s0 (t + 1)).2.2.2.1 = M1 70 3 := by
    rw [t6, hst, n31, n32, n34, n35, c6, c7, c4, ← e31, ← e32, ← eg, ← ep]; rfl
  have hst5 : (pTr rule P lag s0 (t + 1)).2.2.2.2 = c.2.2.2.2 := by rw [hst]; rfl
  rw [← hst3, ← hst5] at hS1
  rw [← hst3] at t5
  refine ⟨⟨fun k hk => by rw [t1 k hk, c2 k (by simp at hk ⊢; omega)], t35, fun _ => hS1.1.z⟩, ?_, by rw [t35 3 (by decide)]; exact h2, ⟨fun i => if i ≤ t then hist i else M1 34, fun i hi => ?_, hS1, ⟨fun i hi => ?_, fun i j => ?_⟩, hst1.symm, hst2.symm, hst4.symm, ?_⟩, fun i hi => ?_⟩
  · rw [← h1]; unfold wP; simp only; rw [t1 31 (by decide), t1 32 (by decide), t1 33 (by decide), n31, n32, n33, t35 1 (by decide), t35 2 (by decide)]
  · simp only; split
    · rename_i hit; exact h3 i hit
    · rw [show i = t + 1 by omega]; exact hst2.symm
  · simp only
    rw [t8]
    by_cases hit : i ≤ t
    · rw [if_pos hit, fSet_n (by omega), c2 76 (by decide)]; exact hL.1 i hit
    · rw [if_neg hit, show i = t + 1 by omega, fSet_s]
  · simp only; split
    · exact hL.2 i j
    · exact hS1.1.tu j
  · simp only; rw [if_neg (by omega)]; exact hst2.symm
  · rw [t9]
    by_cases hit : i ≤ t
    · rw [fSet_n (by omega), c2 77 (by decide)]; exact h5 i hit
    · rw [show i = t + 1 by omega, fSet_s]
      unfold pLS
      rw [hst1, ← t5, ← hS1.2.2.2.1, hst4]
theorem dX5_ticksToFirstFall_0 : decode cX5_ticksToFirstFall 0 = .ok (.aload_n 0, 1) := by decide +kernel
theorem dX5_ticksToFirstFall_1 : decode cX5_ticksToFirstFall 1 = .ok (.getfield 12, 3) := by decide +kernel
theorem dX5_ticksToFirstFall_4 : decode cX5_ticksToFirstFall 4 = .ok (.invokevirtual 105, 3) := by decide +kernel
theorem dX5_ticksToFirstFall_7 : decode cX5_ticksToFirstFall 7 = .ok (.istore_n 2, 1) := by decide +kernel
theorem dX5_ticksToFirstFall_8 : decode cX5_ticksToFirstFall 8 = .ok (.iconst 1, 1) := by decide +kernel
theorem dX5_ticksToFirstFall_9 : decode cX5_ticksToFirstFall 9 = .ok (.istore_n 3, 1) := by decide +kernel
theorem dX5_ticksToFirstFall_10 : decode cX5_ticksToFirstFall 10 = .ok (.iload_n 3, 1) := by decide +kernel
theorem dX5_ticksToFirstFall_11 : decode cX5_ticksToFirstFall 11 = .ok (.sipush 600, 3) := by decide +kernel
theorem dX5_ticksToFirstFall_14 : decode cX5_ticksToFirstFall 14 = .ok (.if_icmp .gt 31, 3) := by decide +kernel
theorem dX5_ticksToFirstFall_17 : decode cX5_ticksToFirstFall 17 = .ok (.aload_n 0, 1) := by decide +kernel
theorem dX5_ticksToFirstFall_18 : decode cX5_ticksToFirstFall 18 = .ok (.aload_n 0, 1) := by decide +kernel
theorem dX5_ticksToFirstFall_19 : decode cX5_ticksToFirstFall 19 = .ok (.iload_n 1, 1) := by decide +kernel
theorem dX5_ticksToFirstFall_20 : decode cX5_ticksToFirstFall 20 = .ok (.invokevirtual 108, 3) := by decide +kernel
theorem dX5_ticksToFirstFall_23 : decode cX5_ticksToFirstFall 23 = .ok (.invokevirtual 111, 3) := by decide +kernel
theorem dX5_ticksToFirstFall_26 : decode cX5_ticksToFirstFall 26 = .ok (.aload_n 0, 1) := by decide +kernel
theorem dX5_ticksToFirstFall_27 : decode cX5_ticksToFirstFall 27 = .ok (.getfield 12, 3) := by decide +kernel
theorem dX5_ticksToFirstFall_30 : decode cX5_ticksToFirstFall 30 = .ok (.invokevirtual 105, 3) := by decide +kernel
theorem dX5_ticksToFirstFall_33 : decode cX5_ticksToFirstFall 33 = .ok (.iload_n 2, 1) := by decide +kernel
theorem dX5_ticksToFirstFall_34 : decode cX5_ticksToFirstFall 34 = .ok (.if_icmp .eq 5, 3) := by decide +kernel
theorem dX5_ticksToFirstFall_37 : decode cX5_ticksToFirstFall 37 = .ok (.iload_n 3, 1) := by decide +kernel
theorem dX5_ticksToFirstFall_38 : decode cX5_ticksToFirstFall 38 = .ok (.ireturn, 1) := by decide +kernel
theorem dX5_ticksToFirstFall_39 : decode cX5_ticksToFirstFall 39 = .ok (.iinc 3 1, 3) := by decide +kernel
theorem dX5_ticksToFirstFall_42 : decode cX5_ticksToFirstFall 42 = .ok (.goto (-32), 3) := by decide +kernel
theorem dX5_ticksToFirstFall_45 : decode cX5_ticksToFirstFall 45 = .ok (.sipush 601, 3) := by decide +kernel
theorem dX5_ticksToFirstFall_48 : decode cX5_ticksToFirstFall 48 = .ok (.ireturn, 1) := by decide +kernel
theorem l_X5_ttff {d : List Nat} {T : vT} {M : vM} {rule : Int} {P : pP} {lag : Nat} {s0 : pS} (hB : vB T) (hr0 : 0 ≤ rule) (hr3 : rule ≤ 3) : ∀ t, t ≤ 600 → ∀ N, wKeep M N → wTj N rule P lag s0 t → (∀ i, i < t → pFell rule P lag s0 i = false) →
    vV m_X5_ticksToFirstFall d d (vPi fun r T1 M1 => T = T1 ∧ wKeep M M1 ∧ r = pOr 601 (pLasts rule P lag s0)) 10 [some (vR 70), some (vI rule), some (vI (pBits s0.2.1 P.1)), some (vI ((t : Int) + 1))] [] d T N := by
  refine vUp ?_
  intro t ht ih N hk hj hf
  have hnone : t = 600 → pLasts rule P lag s0 = none := fun h => by unfold pLasts; rw [pFind_no (fun j hj' => hf j (by omega))]; rfl
  refine vV.iload_n dX5_ticksToFirstFall_10 rfl ?_
  refine vV.sipush (v := 600) dX5_ticksToFirstFall_11 (by decide) (by decide) ?_
  refine vV.icmp_gt (tgt := 45) dX5_ticksToFirstFall_14 (by decide) (fun h14 => ?_) (fun h14 => ?_)
  · skip
    refine vV.sipush (v := 601) dX5_ticksToFirstFall_45 (by decide) (by decide) ?_
    refine vV.ri dX5_ticksToFirstFall_48 rfl ?_
    have h600 : t = 600 := by omega
    exact ⟨rfl, hk, by rw [hnone h600]; rfl⟩
  · skip
    refine vV.aload_n dX5_ticksToFirstFall_17 rfl ?_
    refine vV.aload_n dX5_ticksToFirstFall_18 rfl ?_
    refine vV.iload_n dX5_ticksToFirstFall_19 rfl ?_
    refine vV.cVi dX5_ticksToFirstFall_20 ml_X5_108 cw_X5_choose iw_X5_choose (by first | rfl | assumption) rfl (by unfold vRoom; decide) (c_X5_chooseT hB hj (by omega) hr0 hr3) rfl rfl (Nat.le_of_ble_eq_true rfl) ?_
    rintro x20 _ N0 hx20 ⟨rfl, hch⟩
    refine vV.cVv dX5_ticksToFirstFall_23 ml_X5_111 cw_X5_act iw_X5_act (by first | rfl | assumption) rfl (by unfold vRoom; decide) (c_X5_actT hB hj (by omega) hch) rfl rfl (Nat.le_of_ble_eq_true rfl) ?_
    rintro _ N1 ⟨rfl, hk1, hj1⟩
    have hS1 := hj1.S
    refine vV.aload_n dX5_ticksToFirstFall_26 rfl ?_
    refine vV.getr dX5_ticksToFirstFall_27 fl_X5_12 (by first | rfl | assumption) rfl (by first | assumption | exact hB _ _ _ rfl) ?_
    refine vV.cVi dX5_ticksToFirstFall_30 ml_X5_105 cw_X3_standing iw_X3_standing (by first | rfl | assumption) rfl (by unfold vRoom; decide) (c_X3_standing sgK_30 (sgT_30 hB) hS1.1.cnt hS1.1.le) rfl rfl (Nat.le_of_ble_eq_true rfl) ?_
    rintro x30 _ _ hx30 ⟨rfl, rfl, rfl⟩
    rw [show (30 : Nat) + 4 = 34 from rfl, hj1.tu]
    refine vV.iload_n dX5_ticksToFirstFall_33 rfl ?_
    refine vV.icmp_eq (tgt := 39) dX5_ticksToFirstFall_34 (by decide) (fun h34 => ?_) (fun h34 => ?_)
    · skip
      refine vV.iinc (L' := [_, _, _, _]) dX5_ticksToFirstFall_39 (by decide) rfl (⟨by omega, by omega⟩) rfl ?_
      refine vV.goto (tgt := 10) dX5_ticksToFirstFall_42 (by decide) ?_
      exact ih (by omega) N1 (hk.tr hk1) hj1 (fun i hi => (Nat.lt_succ_iff_lt_or_eq.mp hi).elim (hf i) (fun e => by subst e; simpa [pFell] using h34))
    · skip
      have hfe : pLasts rule P lag s0 = some (t + 1) := by { unfold pLasts; rw [pFind_yes (p := t) (by omega) (by simpa [pFell] using h34) hf]; rfl }
      refine vV.iload_n dX5_ticksToFirstFall_37 rfl ?_
      refine vV.ri dX5_ticksToFirstFall_38 rfl ?_
      exact ⟨rfl, hk.tr hk1, by rw [hfe]; rfl⟩
theorem c_X5_ticksToFirstFall {d : List Nat} {T : vT} {M : vM} {rule : Int} {P : pP} {lag : Nat} {s0 : pS} (hB : vB T) (hr0 : 0 ≤ rule) (hr3 : rule ≤ 3) (hj : wTj M rule P lag s0 0) : vCon m_X5_ticksToFirstFall d d [vR 70, vI rule] T M (vPi fun r T1 M1 => T = T1 ∧ wKeep M M1 ∧ r = pOr 601 (pLasts rule P lag s0)) := by
  have hS := hj.S
  refine vCon.of (by decide) rfl rfl (Nat.le_of_ble_eq_true rfl) ?_
  have h := l_X5_ttff (d := d) (M := M) hB hr0 hr3 0 (by omega) M (wKeep.rf M) hj (fun i hi => by omega)
  refine vV.aload_n dX5_ticksToFirstFall_0 rfl ?_
  refine vV.getr dX5_ticksToFirstFall_1 fl_X5_12 (by first | rfl | assumption) rfl (by first | assumption | exact hB _ _ _ rfl) ?_
  refine vV.cVi dX5_ticksToFirstFall_4 ml_X5_105 cw_X3_standing iw_X3_standing (by first | rfl | assumption) rfl (by unfold vRoom; decide) (c_X3_standing sgK_30 (sgT_30 hB) hS.1.cnt hS.1.le) rfl rfl (Nat.le_of_ble_eq_true rfl) ?_
  rintro x1 _ _ hx1 ⟨rfl, rfl, rfl⟩
  rw [show (30 : Nat) + 4 = 34 from rfl, hj.tu, pTr_0]
  refine vV.istore_n (L' := [_, _, _, _]) dX5_ticksToFirstFall_7 (by decide) rfl ?_
  refine vV.iconst dX5_ticksToFirstFall_8 (by decide) ?_
  refine vV.istore_n (L' := [_, _, _, _]) dX5_ticksToFirstFall_9 (by decide) rfl ?_
  exact h
end
section
/-! ===== own: the class's walker: alike, goUntilItComesAgain ===== -/
theorem dX5_alike_0 : decode cX5_alike 0 = .ok (.aload_n 0, 1) := by decide +kernel
theorem dX5_alike_1 : decode cX5_alike 1 = .ok (.getfield 22, 3) := by decide +kernel
theorem dX5_alike_4 : decode cX5_alike 4 = .ok (.iload_n 1, 1) := by decide +kernel
theorem dX5_alike_5 : decode cX5_alike 5 = .ok (.iaload, 1) := by decide +kernel
theorem dX5_alike_6 : decode cX5_alike 6 = .ok (.aload_n 0, 1) := by decide +kernel
theorem dX5_alike_7 : decode cX5_alike 7 = .ok (.getfield 22, 3) := by decide +kernel
theorem dX5_alike_10 : decode cX5_alike 10 = .ok (.iload_n 2, 1) := by decide +kernel
theorem dX5_alike_11 : decode cX5_alike 11 = .ok (.iaload, 1) := by decide +kernel
theorem dX5_alike_12 : decode cX5_alike 12 = .ok (.if_icmp .eq 5, 3) := by decide +kernel
theorem dX5_alike_15 : decode cX5_alike 15 = .ok (.iconst 0, 1) := by decide +kernel
theorem dX5_alike_16 : decode cX5_alike 16 = .ok (.ireturn, 1) := by decide +kernel
theorem dX5_alike_17 : decode cX5_alike 17 = .ok (.iconst 0, 1) := by decide +kernel
theorem dX5_alike_18 : decode cX5_alike 18 = .ok (.istore_n 3, 1) := by decide +kernel
theorem dX5_alike_19 : decode cX5_alike 19 = .ok (.iload_n 3, 1) := by decide +kernel
theorem dX5_alike_20 : decode cX5_alike 20 = .ok (.aload_n 0, 1) := by decide +kernel
theorem dX5_alike_21 : decode cX5_alike 21 = .ok (.getfield 12, 3) := by decide +kernel
theorem dX5_alike_24 : decode cX5_alike 24 = .ok (.getfield 52, 3) := by decide +kernel
theorem dX5_alike_27 : decode cX5_alike 27 = .ok (.iconst 3, 1) := by decide +kernel
theorem dX5_alike_28 : decode cX5_alike 28 = .ok (.iaload, 1) := by decide +kernel
theorem dX5_alike_29 : decode cX5_alike 29 = .ok (.if_icmp .gt 36, 3) := by decide +kernel
theorem dX5_alike_32 : decode cX5_alike 32 = .ok (.aload_n 0, 1) := by decide +kernel
theorem dX5_alike_33 : decode cX5_alike 33 = .ok (.getfield 18, 3) := by decide +kernel
theorem dX5_alike_36 : decode cX5_alike 36 = .ok (.iload_n 1, 1) := by decide +kernel
theorem dX5_alike_37 : decode cX5_alike 37 = .ok (.iload_n 3, 1) := by decide +kernel
theorem dX5_alike_38 : decode cX5_alike 38 = .ok (.isub, 1) := by decide +kernel
theorem dX5_alike_39 : decode cX5_alike 39 = .ok (.invokestatic 75, 3) := by decide +kernel
theorem dX5_alike_42 : decode cX5_alike 42 = .ok (.iaload, 1) := by decide +kernel
theorem dX5_alike_43 : decode cX5_alike 43 = .ok (.aload_n 0, 1) := by decide +kernel
theorem dX5_alike_44 : decode cX5_alike 44 = .ok (.getfield 18, 3) := by decide +kernel
theorem dX5_alike_47 : decode cX5_alike 47 = .ok (.iload_n 2, 1) := by decide +kernel
theorem dX5_alike_48 : decode cX5_alike 48 = .ok (.iload_n 3, 1) := by decide +kernel
theorem dX5_alike_49 : decode cX5_alike 49 = .ok (.isub, 1) := by decide +kernel
theorem dX5_alike_50 : decode cX5_alike 50 = .ok (.invokestatic 75, 3) := by decide +kernel
theorem dX5_alike_53 : decode cX5_alike 53 = .ok (.iaload, 1) := by decide +kernel
theorem dX5_alike_54 : decode cX5_alike 54 = .ok (.if_icmp .eq 5, 3) := by decide +kernel
theorem dX5_alike_57 : decode cX5_alike 57 = .ok (.iconst 0, 1) := by decide +kernel
theorem dX5_alike_58 : decode cX5_alike 58 = .ok (.ireturn, 1) := by decide +kernel
theorem dX5_alike_59 : decode cX5_alike 59 = .ok (.iinc 3 1, 3) := by decide +kernel
theorem dX5_alike_62 : decode cX5_alike 62 = .ok (.goto (-43), 3) := by decide +kernel
theorem dX5_alike_65 : decode cX5_alike 65 = .ok (.iconst 1, 1) := by decide +kernel
theorem dX5_alike_66 : decode cX5_alike 66 = .ok (.ireturn, 1) := by decide +kernel
def pWa (rule : Int) (P : pP) (lag : Nat) (s0 : pS) (a b : Nat) : Bool := decide (pLS (pTr rule P lag s0 a) = pLS (pTr rule P lag s0 b)) && pAll rule P lag s0 a b (lag + 1)
theorem lg_nat {a k t : Nat} (h : a ≤ 600) : (if (a : Int) - k < 0 then (0 : Int) else if 600 < (a : Int) - k then 600 else (a : Int) - k) = ((a - k : Nat) : Int) := by
  split
  · omega
  · split <;> omega
theorem l_X5_alike {d : List Nat} {T : vT} {M : vM} {rule : Int} {P : pP} {lag a b t : Nat} {s0 : pS} (hB : vB T) (hj : wTj M rule P lag s0 t) (ht : t ≤ 600) (ha : a ≤ t) (hb : b ≤ t) : ∀ k, k ≤ lag + 1 → pAll rule P lag s0 a b k = true →
    vV m_X5_alike d d (vPi fun r T1 M1 => r = bI (pAll rule P lag s0 a b (lag + 1)) ∧ T = T1 ∧ M = M1) 19 [some (vR 70), some (vI a), some (vI b), some (vI k)] [] d T M := by
  have hlag := hj.2.1
  have hl3 := hj.lag3
  refine vUp ?_
  intro k hk ih hal
  have hL1 := hj.log (i := a - k) (by omega)
  have hL2 := hj.log (i := b - k) (by omega)
  have hnx : pAll rule P lag s0 a b (k + 1) = decide (M 76 ((a - k : Nat) : Int) = M 76 ((b - k : Nat) : Int)) := by
    rw [show pAll rule P lag s0 a b (k + 1) = (pAll rule P lag s0 a b k && decide (pPack (pTr rule P lag s0 (a - k)).2.1 P.1 = pPack (pTr rule P lag s0 (b - k)).2.1 P.1)) from rfl, hal, hL1, hL2, Bool.true_and]
  refine vV.iload_n dX5_alike_19 rfl ?_
  refine vV.aload_n dX5_alike_20 rfl ?_
  refine vV.getr dX5_alike_21 fl_X5_12 (by first | rfl | assumption) rfl (by first | assumption | exact hB _ _ _ rfl) ?_
  refine vV.getr dX5_alike_24 fl_X5_52 (by first | rfl | assumption) rfl (by first | assumption | exact hB _ _ _ rfl) ?_
  refine vV.iconst dX5_alike_27 (by decide) ?_
  refine vV.iald dX5_alike_28 (by first | rfl | assumption) (by omega) (by omega) ?_
  refine vV.icmp_gt (tgt := 65) dX5_alike_29 (by decide) (fun h29 => ?_) (fun h29 => ?_)
  · skip
    refine vV.iconst dX5_alike_65 (by decide) ?_
    refine vV.rz dX5_alike_66 rfl (by first | exact Or.inl rfl | exact Or.inr rfl | assumption) ?_
    refine ⟨?_, rfl, rfl⟩; rw [show lag + 1 = k by omega, hal]; rfl
  · skip
    refine vV.aload_n dX5_alike_32 rfl ?_
    refine vV.getr dX5_alike_33 fl_X5_18 (by first | rfl | assumption) rfl (by first | assumption | exact hB _ _ _ rfl) ?_
    refine vV.iload_n dX5_alike_36 rfl ?_
    refine vV.iload_n dX5_alike_37 rfl ?_
    refine vV.isub dX5_alike_38 (⟨by omega, by omega⟩) ?_
    refine vV.cSi dX5_alike_39 ml_X5_75 cw_X5_logged sw_X5_logged (by unfold vRoom; decide) c_X5_logged rfl rfl (Nat.le_of_ble_eq_true rfl) ?_
    rintro x39 _ _ hx39 ⟨hxa, rfl, rfl⟩
    rw [lg_nat (t := t) (by omega)] at hxa
    subst hxa
    refine vV.iald dX5_alike_42 (by first | rfl | assumption) (by omega) (by omega) ?_
    refine vV.aload_n dX5_alike_43 rfl ?_
    refine vV.getr dX5_alike_44 fl_X5_18 (by first | rfl | assumption) rfl (by first | assumption | exact hB _ _ _ rfl) ?_
    refine vV.iload_n dX5_alike_47 rfl ?_
    refine vV.iload_n dX5_alike_48 rfl ?_
    refine vV.isub dX5_alike_49 (⟨by omega, by omega⟩) ?_
    refine vV.cSi dX5_alike_50 ml_X5_75 cw_X5_logged sw_X5_logged (by unfold vRoom; decide) c_X5_logged rfl rfl (Nat.le_of_ble_eq_true rfl) ?_
    rintro x50 _ _ hx50 ⟨hxb, rfl, rfl⟩
    rw [lg_nat (t := t) (by omega)] at hxb
    subst hxb
    refine vV.iald dX5_alike_53 (by first | rfl | assumption) (by omega) (by omega) ?_
    refine vV.icmp_eq (tgt := 59) dX5_alike_54 (by decide) (fun h54 => ?_) (fun h54 => ?_)
    · skip
      refine vV.iinc (L' := [_, _, _, _]) dX5_alike_59 (by decide) rfl (⟨by omega, by omega⟩) rfl ?_
      refine vV.goto (tgt := 19) dX5_alike_62 (by decide) ?_
      exact ih (by omega) (by rw [hnx]; simpa using h54)
    · skip
      refine vV.iconst dX5_alike_57 (by decide) ?_
      refine vV.rz dX5_alike_58 rfl (by first | exact Or.inl rfl | exact Or.inr rfl | assumption) ?_
      refine ⟨?_, rfl, rfl⟩; rw [pAll_mono (k := k + 1) (by omega) (by rw [hnx]; simpa using h54)]; rfl
theorem c_X5_alike {d : List Nat} {T : vT} {M : vM} {rule : Int} {P : pP} {lag a b t : Nat} {s0 : pS} (hB : vB T) (hj : wTj M rule P lag s0 t) (ht : t ≤ 600) (ha : a ≤ t) (hb : b ≤ t) : vCon m_X5_alike d d [vR 70, vI a, vI b] T M (vPi fun r T1 M1 => r = bI (pWa rule P lag s0 a b) ∧ T = T1 ∧ M = M1) := by
  have h1 := hj.2.2.2 a ha
  have h2 := hj.2.2.2 b hb
  unfold pWa
  rw [← h1, ← h2]
  have h := l_X5_alike (d := d) hB hj ht ha hb 0 (by omega) rfl
  refine vCon.of (by decide) rfl rfl (Nat.le_of_ble_eq_true rfl) ?_
  refine vV.aload_n dX5_alike_0 rfl ?_
  refine vV.getr dX5_alike_1 fl_X5_22 (by first | rfl | assumption) rfl (by first | assumption | exact hB _ _ _ rfl) ?_
  refine vV.iload_n dX5_alike_4 rfl ?_
  refine vV.iald dX5_alike_5 (by first | rfl | assumption) (by omega) (by omega) ?_
  refine vV.aload_n dX5_alike_6 rfl ?_
  refine vV.getr dX5_alike_7 fl_X5_22 (by first | rfl | assumption) rfl (by first | assumption | exact hB _ _ _ rfl) ?_
  refine vV.iload_n dX5_alike_10 rfl ?_
  refine vV.iald dX5_alike_11 (by first | rfl | assumption) (by omega) (by omega) ?_
  refine vV.icmp_eq (tgt := 17) dX5_alike_12 (by decide) (fun h12 => ?_) (fun h12 => ?_)
  · skip
    refine vV.iconst dX5_alike_17 (by decide) ?_
    refine vV.istore_n (L' := [_, _, _, _]) dX5_alike_18 (by decide) rfl ?_
    rw [show decide (M 77 a = M 77 b) = true by simpa using h12, Bool.true_and]; exact h
  · skip
    refine vV.iconst dX5_alike_15 (by decide) ?_
    refine vV.rz dX5_alike_16 rfl (by first | exact Or.inl rfl | exact Or.inr rfl | assumption) ?_
    refine ⟨?_, rfl, rfl⟩; rw [show decide (M 77 a = M 77 b) = false by simpa using h12]; rfl
theorem dX5_goUntilItComesAgain_0 : decode cX5_goUntilItComesAgain 0 = .ok (.aload_n 0, 1) := by decide +kernel
theorem dX5_goUntilItComesAgain_1 : decode cX5_goUntilItComesAgain 1 = .ok (.getfield 12, 3) := by decide +kernel
theorem dX5_goUntilItComesAgain_4 : decode cX5_goUntilItComesAgain 4 = .ok (.invokevirtual 105, 3) := by decide +kernel
theorem dX5_goUntilItComesAgain_7 : decode cX5_goUntilItComesAgain 7 = .ok (.istore_n 2, 1) := by decide +kernel
theorem dX5_goUntilItComesAgain_8 : decode cX5_goUntilItComesAgain 8 = .ok (.iconst 1, 1) := by decide +kernel
theorem dX5_goUntilItComesAgain_9 : decode cX5_goUntilItComesAgain 9 = .ok (.istore_n 3, 1) := by decide +kernel
theorem dX5_goUntilItComesAgain_10 : decode cX5_goUntilItComesAgain 10 = .ok (.iload_n 3, 1) := by decide +kernel
theorem dX5_goUntilItComesAgain_11 : decode cX5_goUntilItComesAgain 11 = .ok (.sipush 600, 3) := by decide +kernel
theorem dX5_goUntilItComesAgain_14 : decode cX5_goUntilItComesAgain 14 = .ok (.if_icmp .gt 59, 3) := by decide +kernel
theorem dX5_goUntilItComesAgain_17 : decode cX5_goUntilItComesAgain 17 = .ok (.aload_n 0, 1) := by decide +kernel
theorem dX5_goUntilItComesAgain_18 : decode cX5_goUntilItComesAgain 18 = .ok (.aload_n 0, 1) := by decide +kernel
theorem dX5_goUntilItComesAgain_19 : decode cX5_goUntilItComesAgain 19 = .ok (.iload_n 1, 1) := by decide +kernel
theorem dX5_goUntilItComesAgain_20 : decode cX5_goUntilItComesAgain 20 = .ok (.invokevirtual 108, 3) := by decide +kernel
theorem dX5_goUntilItComesAgain_23 : decode cX5_goUntilItComesAgain 23 = .ok (.invokevirtual 111, 3) := by decide +kernel
theorem dX5_goUntilItComesAgain_26 : decode cX5_goUntilItComesAgain 26 = .ok (.aload_n 0, 1) := by decide +kernel
theorem dX5_goUntilItComesAgain_27 : decode cX5_goUntilItComesAgain 27 = .ok (.getfield 12, 3) := by decide +kernel
theorem dX5_goUntilItComesAgain_30 : decode cX5_goUntilItComesAgain 30 = .ok (.invokevirtual 105, 3) := by decide +kernel
theorem dX5_goUntilItComesAgain_33 : decode cX5_goUntilItComesAgain 33 = .ok (.iload_n 2, 1) := by decide +kernel
theorem dX5_goUntilItComesAgain_34 : decode cX5_goUntilItComesAgain 34 = .ok (.if_icmp .eq 5, 3) := by decide +kernel
theorem dX5_goUntilItComesAgain_37 : decode cX5_goUntilItComesAgain 37 = .ok (.iconst (-1), 1) := by decide +kernel
theorem dX5_goUntilItComesAgain_38 : decode cX5_goUntilItComesAgain 38 = .ok (.ireturn, 1) := by decide +kernel
theorem dX5_goUntilItComesAgain_39 : decode cX5_goUntilItComesAgain 39 = .ok (.iconst 0, 1) := by decide +kernel
theorem dX5_goUntilItComesAgain_40 : decode cX5_goUntilItComesAgain 40 = .ok (.istore 4, 2) := by decide +kernel
theorem dX5_goUntilItComesAgain_42 : decode cX5_goUntilItComesAgain 42 = .ok (.iload 4, 2) := by decide +kernel
theorem dX5_goUntilItComesAgain_44 : decode cX5_goUntilItComesAgain 44 = .ok (.iload_n 3, 1) := by decide +kernel
theorem dX5_goUntilItComesAgain_45 : decode cX5_goUntilItComesAgain 45 = .ok (.if_icmp .ge 22, 3) := by decide +kernel
theorem dX5_goUntilItComesAgain_48 : decode cX5_goUntilItComesAgain 48 = .ok (.aload_n 0, 1) := by decide +kernel
theorem dX5_goUntilItComesAgain_49 : decode cX5_goUntilItComesAgain 49 = .ok (.iload 4, 2) := by decide +kernel
theorem dX5_goUntilItComesAgain_51 : decode cX5_goUntilItComesAgain 51 = .ok (.iload_n 3, 1) := by decide +kernel
theorem dX5_goUntilItComesAgain_52 : decode cX5_goUntilItComesAgain 52 = .ok (.invokevirtual 114, 3) := by decide +kernel
theorem dX5_goUntilItComesAgain_55 : decode cX5_goUntilItComesAgain 55 = .ok (.ifCond .eq 6, 3) := by decide +kernel
theorem dX5_goUntilItComesAgain_58 : decode cX5_goUntilItComesAgain 58 = .ok (.iload 4, 2) := by decide +kernel
theorem dX5_goUntilItComesAgain_60 : decode cX5_goUntilItComesAgain 60 = .ok (.ireturn, 1) := by decide +kernel
theorem dX5_goUntilItComesAgain_61 : decode cX5_goUntilItComesAgain 61 = .ok (.iinc 4 1, 3) := by decide +kernel
theorem dX5_goUntilItComesAgain_64 : decode cX5_goUntilItComesAgain 64 = .ok (.goto (-22), 3) := by decide +kernel
theorem dX5_goUntilItComesAgain_67 : decode cX5_goUntilItComesAgain 67 = .ok (.iinc 3 1, 3) := by decide +kernel
theorem dX5_goUntilItComesAgain_70 : decode cX5_goUntilItComesAgain 70 = .ok (.goto (-60), 3) := by decide +kernel
theorem dX5_goUntilItComesAgain_73 : decode cX5_goUntilItComesAgain 73 = .ok (.iconst (-1), 1) := by decide +kernel
theorem dX5_goUntilItComesAgain_74 : decode cX5_goUntilItComesAgain 74 = .ok (.ireturn, 1) := by decide +kernel
/-- the first tick that was as tick t -/
def pFe (rule : Int) (P : pP) (lag : Nat) (s0 : pS) (t : Nat) : Option Nat := pFind (fun e => pWa rule P lag s0 e t) t
def pGx (rule : Int) (P : pP) (lag : Nat) (s0 : pS) (t : Nat) : Bool := pFell rule P lag s0 t || (pFe rule P lag s0 (t + 1)).isSome
def pGr (rule : Int) (P : pP) (lag : Nat) (s0 : pS) : Option (Nat × Nat) := match pFind (pGx rule P lag s0) 600 with
  | none => none
  | some t => if pFell rule P lag s0 t then none else (pFe rule P lag s0 (t + 1)).map (fun e => (e, t + 1))
def pGq (r : Int) (M1 : vM) : Option (Nat × Nat) → Prop
  | none => r = -1
  | some (e, u) => r = (e : Int) ∧ M1 70 1 = (u : Int)
theorem l_X5_gu42 {d : List Nat} {T : vT} {M : vM} {rule bits : Int} {P : pP} {lag t : Nat} {s0 : pS} {Pp : Int → vT → vM → Prop} (hB : vB T) (hj : wTj M rule P lag s0 t) (ht : t ≤ 600)
    (hno : pFe rule P lag s0 t = none → vV m_X5_goUntilItComesAgain d d (vPi Pp) 67 [some (vR 70), some (vI rule), some (vI bits), some (vI t), some (vI t)] [] d T M)
    (hyes : ∀ e, pFe rule P lag s0 t = some e → Pp e T M) : ∀ e, e ≤ t → (∀ i, i < e → pWa rule P lag s0 i t = false) →
    vV m_X5_goUntilItComesAgain d d (vPi Pp) 42 [some (vR 70), some (vI rule), some (vI bits), some (vI t), some (vI e)] [] d T M := by
  refine vUp ?_
  intro e he ih hf
  refine vV.iload dX5_goUntilItComesAgain_42 rfl ?_
  refine vV.iload_n dX5_goUntilItComesAgain_44 rfl ?_
  refine vV.icmp_ge (tgt := 67) dX5_goUntilItComesAgain_45 (by decide) (fun h45 => ?_) (fun h45 => ?_)
  · skip
    have het : e = t := by omega
    subst het
    exact hno (pFind_no hf)
  · skip
    refine vV.aload_n dX5_goUntilItComesAgain_48 rfl ?_
    refine vV.iload dX5_goUntilItComesAgain_49 rfl ?_
    refine vV.iload_n dX5_goUntilItComesAgain_51 rfl ?_
    refine vV.cVi dX5_goUntilItComesAgain_52 ml_X5_114 cw_X5_alike iw_X5_alike (by first | rfl | assumption) rfl (by unfold vRoom; decide) (c_X5_alike hB hj ht (a := e) (b := t) he (Nat.le_refl t)) rfl rfl (Nat.le_of_ble_eq_true rfl) ?_
    rintro x52 _ _ hx52 ⟨rfl, rfl, rfl⟩
    refine vV.if_eq (tgt := 61) dX5_goUntilItComesAgain_55 (by decide) (fun h55 => ?_) (fun h55 => ?_)
    · skip
      have has : pWa rule P lag s0 e t = false := by { revert h55; cases pWa rule P lag s0 e t <;> simp [bI] }
      refine vV.iinc (L' := [_, _, _, _, _]) dX5_goUntilItComesAgain_61 (by decide) rfl (⟨by omega, by omega⟩) rfl ?_
      refine vV.goto (tgt := 42) dX5_goUntilItComesAgain_64 (by decide) ?_
      exact ih (by omega) (fun i hi => (Nat.lt_succ_iff_lt_or_eq.mp hi).elim (hf i) (fun e => by subst e; exact has))
    · skip
      have has : pWa rule P lag s0 e t = true := by { revert h55; cases pWa rule P lag s0 e t <;> simp [bI] }
      refine vV.iload dX5_goUntilItComesAgain_58 rfl ?_
      refine vV.ri dX5_goUntilItComesAgain_60 rfl ?_
      exact hyes e (pFind_yes (by omega) has hf)
theorem l_X5_gu10 {d : List Nat} {T : vT} {M : vM} {rule : Int} {P : pP} {lag : Nat} {s0 : pS} (hB : vB T) (hr0 : 0 ≤ rule) (hr3 : rule ≤ 3) : ∀ t, t ≤ 600 → ∀ N, wKeep M N → wTj N rule P lag s0 t → (∀ i, i < t → pGx rule P lag s0 i = false) → ∀ x4,
    vV m_X5_goUntilItComesAgain d d (vPi fun r T1 M1 => T = T1 ∧ wKeep M M1 ∧ ∃ o, o = pGr rule P lag s0 ∧ pGq r M1 o) 10 [some (vR 70), some (vI rule), some (vI (pBits s0.2.1 P.1)), some (vI ((t : Int) + 1)), x4] [] d T N := by
  refine vUp ?_
  intro t ht ih N hk hj hf x4
  refine vV.iload_n dX5_goUntilItComesAgain_10 rfl ?_
  refine vV.sipush (v := 600) dX5_goUntilItComesAgain_11 (by decide) (by decide) ?_
  refine vV.icmp_gt (tgt := 73) dX5_goUntilItComesAgain_14 (by decide) (fun h14 => ?_) (fun h14 => ?_)
  · skip
    refine vV.iconst dX5_goUntilItComesAgain_73 (by decide) ?_
    refine vV.ri dX5_goUntilItComesAgain_74 rfl ?_
    refine ⟨rfl, hk, _, rfl, ?_⟩; unfold pGr; rw [pFind_no (fun i hi => hf i (by omega))]; rfl
  · skip
    refine vV.aload_n dX5_goUntilItComesAgain_17 rfl ?_
    refine vV.aload_n dX5_goUntilItComesAgain_18 rfl ?_
    refine vV.iload_n dX5_goUntilItComesAgain_19 rfl ?_
    refine vV.cVi dX5_goUntilItComesAgain_20 ml_X5_108 cw_X5_choose iw_X5_choose (by first | rfl | assumption) rfl (by unfold vRoom; decide) (c_X5_chooseT hB hj (by omega) hr0 hr3) rfl rfl (Nat.le_of_ble_eq_true rfl) ?_
    rintro x20 _ N0 hx20 ⟨rfl, hch⟩
    refine vV.cVv dX5_goUntilItComesAgain_23 ml_X5_111 cw_X5_act iw_X5_act (by first | rfl | assumption) rfl (by unfold vRoom; decide) (c_X5_actT hB hj (by omega) hch) rfl rfl (Nat.le_of_ble_eq_true rfl) ?_
    rintro _ N1 ⟨rfl, hk1, hj1⟩
    have hS1 := hj1.S
    refine vV.aload_n dX5_goUntilItComesAgain_26 rfl ?_
    refine vV.getr dX5_goUntilItComesAgain_27 fl_X5_12 (by first | rfl | assumption) rfl (by first | assumption | exact hB _ _ _ rfl) ?_
    refine vV.cVi dX5_goUntilItComesAgain_30 ml_X5_105 cw_X3_standing iw_X3_standing (by first | rfl | assumption) rfl (by unfold vRoom; decide) (c_X3_standing sgK_30 (sgT_30 hB) hS1.1.cnt hS1.1.le) rfl rfl (Nat.le_of_ble_eq_true rfl) ?_
    rintro x30 _ _ hx30 ⟨rfl, rfl, rfl⟩
    rw [show (30 : Nat) + 4 = 34 from rfl, hj1.tu]
    refine vV.iload_n dX5_goUntilItComesAgain_33 rfl ?_
    refine vV.icmp_eq (tgt := 39) dX5_goUntilItComesAgain_34 (by decide) (fun h34 => ?_) (fun h34 => ?_)
    · skip
      have hfe : pFell rule P lag s0 t = false := by simpa [pFell] using h34
      refine vV.iconst dX5_goUntilItComesAgain_39 (by decide) ?_
      refine vV.istore (L' := [_, _, _, _, _]) dX5_goUntilItComesAgain_40 (by decide) rfl ?_
      refine l_X5_gu42 (t := t + 1) hB hj1 (by omega) ?_ ?_ 0 (by omega) (fun i hi => by omega)
      · intro hno
        refine vV.iinc (L' := [_, _, _, _, _]) dX5_goUntilItComesAgain_67 (by decide) rfl (⟨by omega, by omega⟩) rfl ?_
        refine vV.goto (tgt := 10) dX5_goUntilItComesAgain_70 (by decide) ?_
        exact ih (by omega) N1 (hk.tr hk1) hj1 (fun i hi => (Nat.lt_succ_iff_lt_or_eq.mp hi).elim (hf i) (fun e => by subst e; unfold pGx; rw [hfe, hno]; rfl)) _
      · intro e hes
        refine ⟨rfl, hk.tr hk1, _, rfl, ?_⟩
        unfold pGr
        rw [pFind_yes (p := t) (by omega) (by unfold pGx; rw [hes]; simp) hf]
        simp only
        rw [if_neg (by rw [hfe]; simp), hes]
        exact ⟨rfl, hS1.2.2.2.2.2.2⟩
    · skip
      have hfe : pFell rule P lag s0 t = true := by simpa [pFell] using h34
      refine vV.iconst dX5_goUntilItComesAgain_37 (by decide) ?_
      refine vV.ri dX5_goUntilItComesAgain_38 rfl ?_
      refine ⟨rfl, hk.tr hk1, _, rfl, ?_⟩; unfold pGr; rw [pFind_yes (p := t) (by omega) (by unfold pGx; rw [hfe]; rfl) hf]; simp only; rw [if_pos hfe]; rfl
theorem c_X5_goUntilItComesAgain {d : List Nat} {T : vT} {M : vM} {rule : Int} {P : pP} {lag : Nat} {s0 : pS} (hB : vB T) (hr0 : 0 ≤ rule) (hr3 : rule ≤ 3) (hj : wTj M rule P lag s0 0) : vCon m_X5_goUntilItComesAgain d d [vR 70, vI rule] T M (vPi fun r T1 M1 => T = T1 ∧ wKeep M M1 ∧ ∃ o, o = pGr rule P lag s0 ∧ pGq r M1 o) := by
  have hS := hj.S
  refine vCon.of (by decide) rfl rfl (Nat.le_of_ble_eq_true rfl) ?_
  have h := l_X5_gu10 (d := d) (M := M) hB hr0 hr3 0 (by omega) M (wKeep.rf M) hj (fun i hi => by omega)
  refine vV.aload_n dX5_goUntilItComesAgain_0 rfl ?_
  refine vV.getr dX5_goUntilItComesAgain_1 fl_X5_12 (by first | rfl | assumption) rfl (by first | assumption | exact hB _ _ _ rfl) ?_
  refine vV.cVi dX5_goUntilItComesAgain_4 ml_X5_105 cw_X3_standing iw_X3_standing (by first | rfl | assumption) rfl (by unfold vRoom; decide) (c_X3_standing sgK_30 (sgT_30 hB) hS.1.cnt hS.1.le) rfl rfl (Nat.le_of_ble_eq_true rfl) ?_
  rintro x1 _ _ hx1 ⟨rfl, rfl, rfl⟩
  rw [show (30 : Nat) + 4 = 34 from rfl, hj.tu, pTr_0]
  refine vV.istore_n (L' := [_, _, _, _, _]) dX5_goUntilItComesAgain_7 (by decide) rfl ?_
  refine vV.iconst dX5_goUntilItComesAgain_8 (by decide) ?_
  refine vV.istore_n (L' := [_, _, _, _, _]) dX5_goUntilItComesAgain_9 (by decide) rfl ?_
  exact h _
end
section
/-! ===== own: the class: within, isRule, orNone, lasts, at, round ===== -/
theorem dX6_within_0 : decode cX6_within 0 = .ok (.iload_n 0, 1) := by decide +kernel
theorem dX6_within_1 : decode cX6_within 1 = .ok (.iload_n 1, 1) := by decide +kernel
theorem dX6_within_2 : decode cX6_within 2 = .ok (.if_icmp .lt 12, 3) := by decide +kernel
theorem dX6_within_5 : decode cX6_within 5 = .ok (.iload_n 0, 1) := by decide +kernel
theorem dX6_within_6 : decode cX6_within 6 = .ok (.iload_n 2, 1) := by decide +kernel
theorem dX6_within_7 : decode cX6_within 7 = .ok (.if_icmp .gt 7, 3) := by decide +kernel
theorem dX6_within_10 : decode cX6_within 10 = .ok (.iconst 1, 1) := by decide +kernel
theorem dX6_within_11 : decode cX6_within 11 = .ok (.goto 4, 3) := by decide +kernel
theorem dX6_within_14 : decode cX6_within 14 = .ok (.iconst 0, 1) := by decide +kernel
theorem dX6_within_15 : decode cX6_within 15 = .ok (.ireturn, 1) := by decide +kernel
theorem c_X6_within {d : List Nat} {T : vT} {M : vM} {x a b : Int} : vCon m_X6_within d d [vI x, vI a, vI b] T M (vPi fun y T1 M1 => y = (if a ≤ x ∧ x ≤ b then 1 else 0) ∧ T = T1 ∧ M = M1) := by
  refine vCon.of (by decide) rfl rfl (Nat.le_of_ble_eq_true rfl) ?_
  refine vV.iload_n dX6_within_0 rfl ?_
  refine vV.iload_n dX6_within_1 rfl ?_
  refine vV.icmp_lt (tgt := 14) dX6_within_2 (by decide) (fun h2 => ?_) (fun h2 => ?_)
  · skip
    refine vV.iconst dX6_within_14 (by decide) ?_
    refine vV.rz dX6_within_15 rfl (by first | exact Or.inl rfl | exact Or.inr rfl | assumption) ?_
    refine ⟨?_, rfl, rfl⟩
    first | rw [if_pos (by omega)] | rw [if_neg (by omega)]
  · skip
    refine vV.iload_n dX6_within_5 rfl ?_
    refine vV.iload_n dX6_within_6 rfl ?_
    refine vV.icmp_gt (tgt := 14) dX6_within_7 (by decide) (fun h7 => ?_) (fun h7 => ?_)
    · skip
      refine vV.iconst dX6_within_14 (by decide) ?_
      refine vV.rz dX6_within_15 rfl (by first | exact Or.inl rfl | exact Or.inr rfl | assumption) ?_
      refine ⟨?_, rfl, rfl⟩
      first | rw [if_pos (by omega)] | rw [if_neg (by omega)]
    · skip
      refine vV.iconst dX6_within_10 (by decide) ?_
      refine vV.goto (tgt := 15) dX6_within_11 (by decide) ?_
      refine vV.rz dX6_within_15 rfl (by first | exact Or.inl rfl | exact Or.inr rfl | assumption) ?_
      refine ⟨?_, rfl, rfl⟩
      first | rw [if_pos (by omega)] | rw [if_neg (by omega)]
theorem dX6_isRule_0 : decode cX6_isRule 0 = .ok (.iload_n 0, 1) := by decide +kernel
theorem dX6_isRule_1 : decode cX6_isRule 1 = .ok (.iconst 0, 1) := by decide +kernel
theorem dX6_isRule_2 : decode cX6_isRule 2 = .ok (.iconst 3, 1) := by decide +kernel
theorem dX6_isRule_3 : decode cX6_isRule 3 = .ok (.invokestatic 58, 3) := by decide +kernel
theorem dX6_isRule_6 : decode cX6_isRule 6 = .ok (.ireturn, 1) := by decide +kernel
theorem c_X6_isRule {d : List Nat} {T : vT} {M : vM} {r : Int} : vCon m_X6_isRule d d [vI r] T M (vPi fun y T1 M1 => y = (if 0 ≤ r ∧ r ≤ 3 then 1 else 0) ∧ T = T1 ∧ M = M1) := by
  refine vCon.of (by decide) rfl rfl (Nat.le_of_ble_eq_true rfl) ?_
  refine vV.iload_n dX6_isRule_0 rfl ?_
  refine vV.iconst dX6_isRule_1 (by decide) ?_
  refine vV.iconst dX6_isRule_2 (by decide) ?_
  refine vV.cSi dX6_isRule_3 ml_X6_58 cw_X6_within sw_X6_within (by unfold vRoom; decide) c_X6_within rfl rfl (Nat.le_of_ble_eq_true rfl) ?_
  rintro x3 _ _ hx3 ⟨rfl, rfl, rfl⟩
  refine vV.rz dX6_isRule_6 rfl (by split <;> simp) ?_
  exact ⟨rfl, rfl, rfl⟩
theorem dX6_orNone_0 : decode cX6_orNone 0 = .ok (.iload_n 0, 1) := by decide +kernel
theorem dX6_orNone_1 : decode cX6_orNone 1 = .ok (.sipush 600, 3) := by decide +kernel
theorem dX6_orNone_4 : decode cX6_orNone 4 = .ok (.if_icmp .le 8, 3) := by decide +kernel
theorem dX6_orNone_7 : decode cX6_orNone 7 = .ok (.bipush (-6), 2) := by decide +kernel
theorem dX6_orNone_9 : decode cX6_orNone 9 = .ok (.goto 4, 3) := by decide +kernel
theorem dX6_orNone_12 : decode cX6_orNone 12 = .ok (.iload_n 0, 1) := by decide +kernel
theorem dX6_orNone_13 : decode cX6_orNone 13 = .ok (.ireturn, 1) := by decide +kernel
theorem c_X6_orNone {d : List Nat} {T : vT} {M : vM} {r : Int} : vCon m_X6_orNone d d [vI r] T M (vPi fun y T1 M1 => y = (if r ≤ 600 then r else -6) ∧ T = T1 ∧ M = M1) := by
  refine vCon.of (by decide) rfl rfl (Nat.le_of_ble_eq_true rfl) ?_
  refine vV.iload_n dX6_orNone_0 rfl ?_
  refine vV.sipush (v := 600) dX6_orNone_1 (by decide) (by decide) ?_
  refine vV.icmp_le (tgt := 12) dX6_orNone_4 (by decide) (fun h4 => ?_) (fun h4 => ?_)
  · skip
    refine vV.iload_n dX6_orNone_12 rfl ?_
    refine vV.ri dX6_orNone_13 rfl ?_
    refine ⟨?_, rfl, rfl⟩
    first | rw [if_pos (by omega)] | rw [if_neg (by omega)]
  · skip
    refine vV.bipush (v := (-6)) dX6_orNone_7 (by decide) (by decide) ?_
    refine vV.goto (tgt := 13) dX6_orNone_9 (by decide) ?_
    refine vV.ri dX6_orNone_13 rfl ?_
    refine ⟨?_, rfl, rfl⟩
    first | rw [if_pos (by omega)] | rw [if_neg (by omega)]
def cP (M : vM) (n : Nat) : pP := (n, M 11, M 12, M 13, M 15 1, M 15 2)
def cS0 (M : vM) : pS := (M 15 0, M 14, none, 0, none)
def cKeepW (M M1 : vM) : Prop := mSame [30, 31, 32, 33, 34, 35, 70, 76, 77] M M1 ∧ (sgZ M 30 → sgZ M1 30)
theorem cKeepW.rf (M : vM) : cKeepW M M := ⟨fun _ _ => rfl, id⟩
theorem cKeepW.w {M M1 M2 : vM} (h1 : cKeepW M M1) (h2 : wKeep M1 M2) : cKeepW M M2 := ⟨fun k hk => (h2.1 k (by simp at hk ⊢; omega)).trans (h1.1 k hk), fun z => h2.2.2 (h1.2 z)⟩
theorem wTj_begin {M M1 : vM} {n lag : Nat} {rule : Int} (hW : sgW M 10 n) (hlag : M 15 3 = lag) (h : wBeg (sgCp M 30 10) M1 n) : wTj M1 rule (cP M n) lag (cS0 M) 0 ∧ cKeepW M M1 := by
  have hWc : sgW (sgCp M 30 10) 30 n := sgW_cp (by omega) hW
  have hs := wBeg_st hWc h
  obtain ⟨N, hN⟩ : ∃ N, N = sgCp M 30 10 := ⟨_, rfl⟩
  rw [← hN] at h hs hWc
  have n31 : N 31 = M 11 := by rw [hN]; rfl
  have n32 : N 32 = M 12 := by rw [hN]; rfl
  have n33 : N 33 = M 13 := by rw [hN]; rfl
  have n34 : N 34 = M 14 := by rw [hN]; rfl
  have n35 : N 35 = M 15 := by rw [hN]; rfl
  have nk : mSame [30, 31, 32, 33, 34, 35] M N := fun k hk => by
    simp at hk
    rw [hN]; unfold sgCp
    rw [vRow_n hk.2.2.2.2.2, vRow_n hk.2.2.2.2.1, vRow_n hk.2.2.2.1, vRow_n hk.2.2.1, vRow_n hk.2.1, vRow_n hk.1]
  obtain ⟨b1, b2, b3, b4, b5, b6, b7, b8⟩ := h
  rw [n34, n35] at hs
  have e35 : M1 35 = M 15 := by rw [b1 35 (by decide), n35]
  refine ⟨⟨?_, by rw [e35]; exact hlag, ⟨fun _ => M 14, fun i hi => by rw [show i = 0 by omega, pTr_0]; rfl, hs⟩, fun i hi => ?_⟩, fun k hk => ?_, fun _ => hs.1.1.z⟩
  · unfold wP cP; simp only; rw [b1 31 (by decide), b1 32 (by decide), b1 33 (by decide), n31, n32, n33, e35]
  · rw [b8, show (i : Int) = 0 by omega, fSet_s, show i = 0 by omega, pTr_0, n35]; rfl
  · rw [b1 k (by simp at hk ⊢; omega), nk k (by simp at hk ⊢; omega)]
theorem dX6_lasts_0 : decode cX6_lasts 0 = .ok (.iload_n 1, 1) := by decide +kernel
theorem dX6_lasts_1 : decode cX6_lasts 1 = .ok (.invokestatic 132, 3) := by decide +kernel
theorem dX6_lasts_4 : decode cX6_lasts 4 = .ok (.ifCond .ne 6, 3) := by decide +kernel
theorem dX6_lasts_7 : decode cX6_lasts 7 = .ok (.bipush (-2), 2) := by decide +kernel
theorem dX6_lasts_9 : decode cX6_lasts 9 = .ok (.ireturn, 1) := by decide +kernel
theorem dX6_lasts_10 : decode cX6_lasts 10 = .ok (.aload_n 0, 1) := by decide +kernel
theorem dX6_lasts_11 : decode cX6_lasts 11 = .ok (.getfield 10, 3) := by decide +kernel
theorem dX6_lasts_14 : decode cX6_lasts 14 = .ok (.invokevirtual 107, 3) := by decide +kernel
theorem dX6_lasts_17 : decode cX6_lasts 17 = .ok (.ifCond .ne 6, 3) := by decide +kernel
theorem dX6_lasts_20 : decode cX6_lasts 20 = .ok (.bipush (-3), 2) := by decide +kernel
theorem dX6_lasts_22 : decode cX6_lasts 22 = .ok (.ireturn, 1) := by decide +kernel
theorem dX6_lasts_23 : decode cX6_lasts 23 = .ok (.aload_n 0, 1) := by decide +kernel
theorem dX6_lasts_24 : decode cX6_lasts 24 = .ok (.getfield 33, 3) := by decide +kernel
theorem dX6_lasts_27 : decode cX6_lasts 27 = .ok (.aload_n 0, 1) := by decide +kernel
theorem dX6_lasts_28 : decode cX6_lasts 28 = .ok (.getfield 10, 3) := by decide +kernel
theorem dX6_lasts_31 : decode cX6_lasts 31 = .ok (.invokevirtual 135, 3) := by decide +kernel
theorem dX6_lasts_34 : decode cX6_lasts 34 = .ok (.aload_n 0, 1) := by decide +kernel
theorem dX6_lasts_35 : decode cX6_lasts 35 = .ok (.getfield 33, 3) := by decide +kernel
theorem dX6_lasts_38 : decode cX6_lasts 38 = .ok (.iload_n 1, 1) := by decide +kernel
theorem dX6_lasts_39 : decode cX6_lasts 39 = .ok (.invokevirtual 138, 3) := by decide +kernel
theorem dX6_lasts_42 : decode cX6_lasts 42 = .ok (.invokestatic 141, 3) := by decide +kernel
theorem dX6_lasts_45 : decode cX6_lasts 45 = .ok (.ireturn, 1) := by decide +kernel
theorem c_X6_lasts {d : List Nat} {T : vT} {M : vM} {n lag : Nat} {rule : Int} (hB : vB T) (hW : sgW M 10 n) (hZ : sgZ M 30) (hlag : M 15 3 = lag) : vCon m_X6_lasts d d [vR 0, vI rule] T M (vPi fun r T1 M1 => T = T1 ∧ cKeepW M M1 ∧ r = rLasts rule (cP M n) lag (cS0 M) (pBits (M 14) n)) := by
  unfold rLasts
  refine vCon.of (by decide) rfl rfl (Nat.le_of_ble_eq_true rfl) ?_
  refine vV.iload_n dX6_lasts_0 rfl ?_
  refine vV.cSi dX6_lasts_1 ml_X6_132 cw_X6_isRule sw_X6_isRule (by unfold vRoom; decide) c_X6_isRule rfl rfl (Nat.le_of_ble_eq_true rfl) ?_
  rintro x1 _ _ hx1 ⟨hxe, rfl, rfl⟩
  refine vV.if_ne (tgt := 10) dX6_lasts_4 (by decide) (fun h4 => ?_) (fun h4 => ?_)
  · skip
    have hir : 0 ≤ rule ∧ rule ≤ 3 := by { rcases Decidable.em (0 ≤ rule ∧ rule ≤ 3) with z | z; exact z; rw [hxe, if_neg z] at h4; omega }
    rw [if_neg (by omega)]
    refine vV.aload_n dX6_lasts_10 rfl ?_
    refine vV.getr dX6_lasts_11 fl_X6_10 (by first | rfl | assumption) rfl (by first | assumption | exact hB _ _ _ rfl) ?_
    refine vV.cVi dX6_lasts_14 ml_X6_107 cw_X3_standing iw_X3_standing (by first | rfl | assumption) rfl (by unfold vRoom; decide) (c_X3_standing sgK_10 (sgT_10 hB) hW.cnt hW.le) rfl rfl (Nat.le_of_ble_eq_true rfl) ?_
    rintro x14 _ _ hx14 ⟨rfl, rfl, rfl⟩
    rw [show (10 : Nat) + 4 = 14 from rfl]
    refine vV.if_ne (tgt := 23) dX6_lasts_17 (by decide) (fun h17 => ?_) (fun h17 => ?_)
    · skip
      rw [if_neg h17]
      refine vV.aload_n dX6_lasts_23 rfl ?_
      refine vV.getr dX6_lasts_24 fl_X6_33 (by first | rfl | assumption) rfl (by first | assumption | exact hB _ _ _ rfl) ?_
      refine vV.aload_n dX6_lasts_27 rfl ?_
      refine vV.getr dX6_lasts_28 fl_X6_10 (by first | rfl | assumption) rfl (by first | assumption | exact hB _ _ _ rfl) ?_
      refine vV.cVv dX6_lasts_31 ml_X6_135 cw_X5_begin iw_X5_begin (by first | rfl | assumption) rfl (by unfold vRoom; decide) (c_X5_begin hB hZ hW) rfl rfl (Nat.le_of_ble_eq_true rfl) ?_
      rintro _ N ⟨rfl, hb⟩
      obtain ⟨hj, hk⟩ := wTj_begin (rule := rule) hW hlag hb
      refine vV.aload_n dX6_lasts_34 rfl ?_
      refine vV.getr dX6_lasts_35 fl_X6_33 (by first | rfl | assumption) rfl (by first | assumption | exact hB _ _ _ rfl) ?_
      refine vV.iload_n dX6_lasts_38 rfl ?_
      refine vV.cVi dX6_lasts_39 ml_X6_138 cw_X5_ticksToFirstFall iw_X5_ticksToFirstFall (by first | rfl | assumption) rfl (by unfold vRoom; decide) (c_X5_ticksToFirstFall hB hir.1 hir.2 hj) rfl rfl (Nat.le_of_ble_eq_true rfl) ?_
      rintro x39 _ N1 hx39 ⟨rfl, hk1, hre⟩
      refine vV.cSi dX6_lasts_42 ml_X6_141 cw_X6_orNone sw_X6_orNone (by unfold vRoom; decide) c_X6_orNone rfl rfl (Nat.le_of_ble_eq_true rfl) ?_
      rintro x42 _ _ hx42 ⟨hrf, rfl, rfl⟩
      refine vV.ri dX6_lasts_45 rfl ?_
      refine ⟨rfl, hk.w hk1, ?_⟩; rw [hrf, hre]; cases hq : pLasts rule (cP M n) lag (cS0 M) with | none => rfl | some q => (rw [pOr_s, pOr_s, if_pos (by unfold pLasts at hq; cases hz : pFind (pFell rule (cP M n) lag (cS0 M)) 600 with | none => (rw [hz] at hq; cases hq) | some z => (rw [hz] at hq; cases hq; have := (pFind_some hz).1; show ((z + 1 : Nat) : Int) ≤ 600; omega))])
    · skip
      rw [if_pos h17]
      refine vV.bipush (v := (-3)) dX6_lasts_20 (by decide) (by decide) ?_
      refine vV.ri dX6_lasts_22 rfl ?_
      exact ⟨rfl, cKeepW.rf M, rfl⟩
  · skip
    have hnr : ¬ (0 ≤ rule ∧ rule ≤ 3) := by { intro z; rw [hxe, if_pos z] at h4; omega }
    rw [if_pos hnr]
    refine vV.bipush (v := (-2)) dX6_lasts_7 (by decide) (by decide) ?_
    refine vV.ri dX6_lasts_9 rfl ?_
    exact ⟨rfl, cKeepW.rf M, rfl⟩
end
section
/-! ===== own: the class: at, round ===== -/
theorem dX6_at_0 : decode cX6_at 0 = .ok (.iload_n 3, 1) := by decide +kernel
theorem dX6_at_1 : decode cX6_at 1 = .ok (.iconst (-1), 1) := by decide +kernel
theorem dX6_at_2 : decode cX6_at 2 = .ok (.if_icmp .eq 22, 3) := by decide +kernel
theorem dX6_at_5 : decode cX6_at 5 = .ok (.iload_n 3, 1) := by decide +kernel
theorem dX6_at_6 : decode cX6_at 6 = .ok (.bipush (-2), 2) := by decide +kernel
theorem dX6_at_8 : decode cX6_at 8 = .ok (.if_icmp .eq 16, 3) := by decide +kernel
theorem dX6_at_11 : decode cX6_at 11 = .ok (.aload_n 0, 1) := by decide +kernel
theorem dX6_at_12 : decode cX6_at 12 = .ok (.getfield 10, 3) := by decide +kernel
theorem dX6_at_15 : decode cX6_at 15 = .ok (.iload_n 3, 1) := by decide +kernel
theorem dX6_at_16 : decode cX6_at 16 = .ok (.invokevirtual 74, 3) := by decide +kernel
theorem dX6_at_19 : decode cX6_at 19 = .ok (.ifCond .ne 5, 3) := by decide +kernel
theorem dX6_at_22 : decode cX6_at 22 = .ok (.iconst (-1), 1) := by decide +kernel
theorem dX6_at_23 : decode cX6_at 23 = .ok (.ireturn, 1) := by decide +kernel
theorem dX6_at_24 : decode cX6_at 24 = .ok (.iload_n 1, 1) := by decide +kernel
theorem dX6_at_25 : decode cX6_at 25 = .ok (.invokestatic 132, 3) := by decide +kernel
theorem dX6_at_28 : decode cX6_at 28 = .ok (.ifCond .eq 14, 3) := by decide +kernel
theorem dX6_at_31 : decode cX6_at 31 = .ok (.iload_n 2, 1) := by decide +kernel
theorem dX6_at_32 : decode cX6_at 32 = .ok (.iconst 0, 1) := by decide +kernel
theorem dX6_at_33 : decode cX6_at 33 = .ok (.sipush 600, 3) := by decide +kernel
theorem dX6_at_36 : decode cX6_at 36 = .ok (.invokestatic 58, 3) := by decide +kernel
theorem dX6_at_39 : decode cX6_at 39 = .ok (.ifCond .ne 6, 3) := by decide +kernel
theorem dX6_at_42 : decode cX6_at 42 = .ok (.bipush (-2), 2) := by decide +kernel
theorem dX6_at_44 : decode cX6_at 44 = .ok (.ireturn, 1) := by decide +kernel
theorem dX6_at_45 : decode cX6_at 45 = .ok (.aload_n 0, 1) := by decide +kernel
theorem dX6_at_46 : decode cX6_at 46 = .ok (.getfield 33, 3) := by decide +kernel
theorem dX6_at_49 : decode cX6_at 49 = .ok (.aload_n 0, 1) := by decide +kernel
theorem dX6_at_50 : decode cX6_at 50 = .ok (.getfield 10, 3) := by decide +kernel
theorem dX6_at_53 : decode cX6_at 53 = .ok (.invokevirtual 135, 3) := by decide +kernel
theorem dX6_at_56 : decode cX6_at 56 = .ok (.iconst 0, 1) := by decide +kernel
theorem dX6_at_57 : decode cX6_at 57 = .ok (.istore 4, 2) := by decide +kernel
theorem dX6_at_59 : decode cX6_at 59 = .ok (.iload 4, 2) := by decide +kernel
theorem dX6_at_61 : decode cX6_at 61 = .ok (.iload_n 2, 1) := by decide +kernel
theorem dX6_at_62 : decode cX6_at 62 = .ok (.if_icmp .ge 24, 3) := by decide +kernel
theorem dX6_at_65 : decode cX6_at 65 = .ok (.aload_n 0, 1) := by decide +kernel
theorem dX6_at_66 : decode cX6_at 66 = .ok (.getfield 33, 3) := by decide +kernel
theorem dX6_at_69 : decode cX6_at 69 = .ok (.aload_n 0, 1) := by decide +kernel
theorem dX6_at_70 : decode cX6_at 70 = .ok (.getfield 33, 3) := by decide +kernel
theorem dX6_at_73 : decode cX6_at 73 = .ok (.iload_n 1, 1) := by decide +kernel
theorem dX6_at_74 : decode cX6_at 74 = .ok (.invokevirtual 144, 3) := by decide +kernel
theorem dX6_at_77 : decode cX6_at 77 = .ok (.invokevirtual 147, 3) := by decide +kernel
theorem dX6_at_80 : decode cX6_at 80 = .ok (.iinc 4 1, 3) := by decide +kernel
theorem dX6_at_83 : decode cX6_at 83 = .ok (.goto (-24), 3) := by decide +kernel
theorem dX6_at_86 : decode cX6_at 86 = .ok (.iload_n 3, 1) := by decide +kernel
theorem dX6_at_87 : decode cX6_at 87 = .ok (.iconst (-1), 1) := by decide +kernel
theorem dX6_at_88 : decode cX6_at 88 = .ok (.if_icmp .ne 16, 3) := by decide +kernel
theorem dX6_at_91 : decode cX6_at 91 = .ok (.aload_n 0, 1) := by decide +kernel
theorem dX6_at_92 : decode cX6_at 92 = .ok (.getfield 33, 3) := by decide +kernel
theorem dX6_at_95 : decode cX6_at 95 = .ok (.getfield 148, 3) := by decide +kernel
theorem dX6_at_98 : decode cX6_at 98 = .ok (.getfield 91, 3) := by decide +kernel
theorem dX6_at_101 : decode cX6_at 101 = .ok (.iconst 0, 1) := by decide +kernel
theorem dX6_at_102 : decode cX6_at 102 = .ok (.iaload, 1) := by decide +kernel
theorem dX6_at_103 : decode cX6_at 103 = .ok (.ireturn, 1) := by decide +kernel
theorem dX6_at_104 : decode cX6_at 104 = .ok (.iload_n 3, 1) := by decide +kernel
theorem dX6_at_105 : decode cX6_at 105 = .ok (.bipush (-2), 2) := by decide +kernel
theorem dX6_at_107 : decode cX6_at 107 = .ok (.if_icmp .ne 26, 3) := by decide +kernel
theorem dX6_at_110 : decode cX6_at 110 = .ok (.aload_n 0, 1) := by decide +kernel
theorem dX6_at_111 : decode cX6_at 111 = .ok (.getfield 33, 3) := by decide +kernel
theorem dX6_at_114 : decode cX6_at 114 = .ok (.getfield 151, 3) := by decide +kernel
theorem dX6_at_117 : decode cX6_at 117 = .ok (.ifCond .ge 8, 3) := by decide +kernel
theorem dX6_at_120 : decode cX6_at 120 = .ok (.bipush (-6), 2) := by decide +kernel
theorem dX6_at_122 : decode cX6_at 122 = .ok (.goto 10, 3) := by decide +kernel
theorem dX6_at_125 : decode cX6_at 125 = .ok (.aload_n 0, 1) := by decide +kernel
theorem dX6_at_126 : decode cX6_at 126 = .ok (.getfield 33, 3) := by decide +kernel
theorem dX6_at_129 : decode cX6_at 129 = .ok (.getfield 151, 3) := by decide +kernel
theorem dX6_at_132 : decode cX6_at 132 = .ok (.ireturn, 1) := by decide +kernel
theorem dX6_at_133 : decode cX6_at 133 = .ok (.aload_n 0, 1) := by decide +kernel
theorem dX6_at_134 : decode cX6_at 134 = .ok (.getfield 33, 3) := by decide +kernel
theorem dX6_at_137 : decode cX6_at 137 = .ok (.getfield 148, 3) := by decide +kernel
theorem dX6_at_140 : decode cX6_at 140 = .ok (.getfield 82, 3) := by decide +kernel
theorem dX6_at_143 : decode cX6_at 143 = .ok (.iload_n 3, 1) := by decide +kernel
theorem dX6_at_144 : decode cX6_at 144 = .ok (.iaload, 1) := by decide +kernel
theorem dX6_at_145 : decode cX6_at 145 = .ok (.ireturn, 1) := by decide +kernel
theorem l_X6_at {d : List Nat} {T : vT} {M : vM} {rule plate : Int} {P : pP} {lag m : Nat} {s0 : pS} (hB : vB T) (hr0 : 0 ≤ rule) (hr3 : rule ≤ 3) (hm : m ≤ 600) (hpl : plate = -1 ∨ plate = -2 ∨ (0 ≤ plate ∧ plate < P.1)) : ∀ t, t ≤ m → ∀ N, cKeepW M N → wTj N rule P lag s0 t →
    vV m_X6_at d d (vPi fun r T1 M1 => T = T1 ∧ cKeepW M M1 ∧ r = (if plate = -1 then (pTr rule P lag s0 m).1 else if plate = -2 then pOr (-6) (pTr rule P lag s0 m).2.2.1 else (pTr rule P lag s0 m).2.1 plate)) 59 [some (vR 0), some (vI rule), some (vI m), some (vI plate), some (vI t)] [] d T N := by
  refine vUp ?_
  intro t ht ih N hk hj
  have hS := hj.S
  have hn := hS.1.le
  have hg := hS.2.1
  have htu := hj.tu
  have hman := hj.man
  refine vV.iload dX6_at_59 rfl ?_
  refine vV.iload_n dX6_at_61 rfl ?_
  refine vV.icmp_ge (tgt := 86) dX6_at_62 (by decide) (fun h62 => ?_) (fun h62 => ?_)
  · skip
    have htm : t = m := by omega
    subst htm
    refine vV.iload_n dX6_at_86 rfl ?_
    refine vV.iconst dX6_at_87 (by decide) ?_
    refine vV.icmp_ne (tgt := 104) dX6_at_88 (by decide) (fun h88 => ?_) (fun h88 => ?_)
    · skip
      refine vV.iload_n dX6_at_104 rfl ?_
      refine vV.bipush (v := (-2)) dX6_at_105 (by decide) (by decide) ?_
      refine vV.icmp_ne (tgt := 133) dX6_at_107 (by decide) (fun h107 => ?_) (fun h107 => ?_)
      · skip
        refine vV.aload_n dX6_at_133 rfl ?_
        refine vV.getr dX6_at_134 fl_X6_33 (by first | rfl | assumption) rfl (by first | assumption | exact hB _ _ _ rfl) ?_
        refine vV.getr dX6_at_137 fl_X6_148 (by first | rfl | assumption) rfl (by first | assumption | exact hB _ _ _ rfl) ?_
        refine vV.getr dX6_at_140 fl_X6_82 (by first | rfl | assumption) rfl (by first | assumption | exact hB _ _ _ rfl) ?_
        refine vV.iload_n dX6_at_143 rfl ?_
        refine vV.iald dX6_at_144 (by first | rfl | assumption) (by omega) (by omega) ?_
        refine vV.ri dX6_at_145 rfl ?_
        exact ⟨rfl, hk, by rw [if_neg h88, if_neg h107, ← htu]⟩
      · skip
        refine vV.aload_n dX6_at_110 rfl ?_
        refine vV.getr dX6_at_111 fl_X6_33 (by first | rfl | assumption) rfl (by first | assumption | exact hB _ _ _ rfl) ?_
        refine vV.geti (z := 2) dX6_at_114 fl_X6_151 (by first | rfl | assumption) rfl rfl ?_
        refine vV.if_ge (tgt := 125) dX6_at_117 (by decide) (fun h117 => ?_) (fun h117 => ?_)
        · skip
          have hgo : pOr (-6) (pTr rule P lag s0 t).2.2.1 = N 70 2 := by { rw [hg] at h117 ⊢; cases hq : (pTr rule P lag s0 t).2.2.1 with | none => (rw [hq, pOr_n] at h117; omega) | some q => rfl }
          refine vV.aload_n dX6_at_125 rfl ?_
          refine vV.getr dX6_at_126 fl_X6_33 (by first | rfl | assumption) rfl (by first | assumption | exact hB _ _ _ rfl) ?_
          refine vV.geti (z := 2) dX6_at_129 fl_X6_151 (by first | rfl | assumption) rfl rfl ?_
          refine vV.ri dX6_at_132 rfl ?_
          exact ⟨rfl, hk, by rw [if_neg h88, if_pos h107, hgo]⟩
        · skip
          have hgo : pOr (-6) (pTr rule P lag s0 t).2.2.1 = -6 := by { rw [hg] at h117; cases hq : (pTr rule P lag s0 t).2.2.1 with | none => rfl | some q => (rw [hq, pOr_s] at h117; omega) }
          refine vV.bipush (v := (-6)) dX6_at_120 (by decide) (by decide) ?_
          refine vV.goto (tgt := 132) dX6_at_122 (by decide) ?_
          refine vV.ri dX6_at_132 rfl ?_
          exact ⟨rfl, hk, by rw [if_neg h88, if_pos h107, hgo]⟩
    · skip
      refine vV.aload_n dX6_at_91 rfl ?_
      refine vV.getr dX6_at_92 fl_X6_33 (by first | rfl | assumption) rfl (by first | assumption | exact hB _ _ _ rfl) ?_
      refine vV.getr dX6_at_95 fl_X6_148 (by first | rfl | assumption) rfl (by first | assumption | exact hB _ _ _ rfl) ?_
      refine vV.getr dX6_at_98 fl_X6_91 (by first | rfl | assumption) rfl (by first | assumption | exact hB _ _ _ rfl) ?_
      refine vV.iconst dX6_at_101 (by decide) ?_
      refine vV.iald dX6_at_102 (by first | rfl | assumption) (by omega) (by omega) ?_
      refine vV.ri dX6_at_103 rfl ?_
      exact ⟨rfl, hk, by rw [if_pos h88]; exact hman⟩
  · skip
    refine vV.aload_n dX6_at_65 rfl ?_
    refine vV.getr dX6_at_66 fl_X6_33 (by first | rfl | assumption) rfl (by first | assumption | exact hB _ _ _ rfl) ?_
    refine vV.aload_n dX6_at_69 rfl ?_
    refine vV.getr dX6_at_70 fl_X6_33 (by first | rfl | assumption) rfl (by first | assumption | exact hB _ _ _ rfl) ?_
    refine vV.iload_n dX6_at_73 rfl ?_
    refine vV.cVi dX6_at_74 ml_X6_144 cw_X5_choose iw_X5_choose (by first | rfl | assumption) rfl (by unfold vRoom; decide) (c_X5_chooseT hB hj (by omega) hr0 hr3) rfl rfl (Nat.le_of_ble_eq_true rfl) ?_
    rintro x74 _ N0 hx74 ⟨rfl, hch⟩
    refine vV.cVv dX6_at_77 ml_X6_147 cw_X5_act iw_X5_act (by first | rfl | assumption) rfl (by unfold vRoom; decide) (c_X5_actT hB hj (by omega) hch) rfl rfl (Nat.le_of_ble_eq_true rfl) ?_
    rintro _ N1 ⟨rfl, hk1, hj1⟩
    refine vV.iinc (L' := [_, _, _, _, _]) dX6_at_80 (by decide) rfl (⟨by omega, by omega⟩) rfl ?_
    refine vV.goto (tgt := 59) dX6_at_83 (by decide) ?_
    exact ih (by omega) N1 (hk.w hk1) hj1
theorem c_X6_at {d : List Nat} {T : vT} {M : vM} {n lag : Nat} {rule ticks plate : Int} (hB : vB T) (hW : sgW M 10 n) (hZ : sgZ M 30) (hlag : M 15 3 = lag) : vCon m_X6_at d d [vR 0, vI rule, vI ticks, vI plate] T M (vPi fun r T1 M1 => T = T1 ∧ cKeepW M M1 ∧ r = rAt rule ticks plate (cP M n) lag (cS0 M)) := by
  unfold rAt
  have hn := hW.le
  have hPn : ((cP M n).1 : Int) = (n : Int) := rfl
  have hc : M 10 0 = n := hW.cnt
  refine vCon.of (by decide) rfl rfl (Nat.le_of_ble_eq_true rfl) ?_
  have hgo : (plate = -1 ∨ plate = -2 ∨ (0 ≤ plate ∧ plate < n)) → vV m_X6_at d d (vPi fun r T1 M1 => T = T1 ∧ cKeepW M M1 ∧ r = (if plate ≠ -1 ∧ plate ≠ -2 ∧ ¬ (0 ≤ plate ∧ plate < (cP M n).1) then -1 else if ¬ (0 ≤ rule ∧ rule ≤ 3) ∨ ¬ (0 ≤ ticks ∧ ticks ≤ 600) then -2 else if plate = -1 then (pTr rule (cP M n) lag (cS0 M) ticks.toNat).1 else if plate = -2 then pOr (-6) (pTr rule (cP M n) lag (cS0 M) ticks.toNat).2.2.1 else (pTr rule (cP M n) lag (cS0 M) ticks.toNat).2.1 plate)) 24 [some (vR 0), some (vI rule), some (vI ticks), some (vI plate), none] [] d T M := by
    intro hpl
    rw [if_neg (by rw [hPn]; omega)]
    refine vV.iload_n dX6_at_24 rfl ?_
    refine vV.cSi dX6_at_25 ml_X6_132 cw_X6_isRule sw_X6_isRule (by unfold vRoom; decide) c_X6_isRule rfl rfl (Nat.le_of_ble_eq_true rfl) ?_
    rintro x25 _ _ hx25 ⟨hxe, rfl, rfl⟩
    refine vV.if_eq (tgt := 42) dX6_at_28 (by decide) (fun h28 => ?_) (fun h28 => ?_)
    · skip
      have hnr : ¬ (0 ≤ rule ∧ rule ≤ 3) := by { intro z; rw [hxe, if_pos z] at h28; omega }
      rw [if_pos (Or.inl hnr)]
      refine vV.bipush (v := (-2)) dX6_at_42 (by decide) (by decide) ?_
      refine vV.ri dX6_at_44 rfl ?_
      exact ⟨rfl, cKeepW.rf M, rfl⟩
    · skip
      have hir : 0 ≤ rule ∧ rule ≤ 3 := by { rcases Decidable.em (0 ≤ rule ∧ rule ≤ 3) with z | z; exact z; rw [hxe, if_neg z] at h28; omega }
      refine vV.iload_n dX6_at_31 rfl ?_
      refine vV.iconst dX6_at_32 (by decide) ?_
      refine vV.sipush (v := 600) dX6_at_33 (by decide) (by decide) ?_
      refine vV.cSi dX6_at_36 ml_X6_58 cw_X6_within sw_X6_within (by unfold vRoom; decide) c_X6_within rfl rfl (Nat.le_of_ble_eq_true rfl) ?_
      rintro x36 _ _ hx36 ⟨rfl, rfl, rfl⟩
      refine vV.if_ne (tgt := 45) dX6_at_39 (by decide) (fun h39 => ?_) (fun h39 => ?_)
      · skip
        have hti : 0 ≤ ticks ∧ ticks ≤ 600 := by { rcases Decidable.em (0 ≤ ticks ∧ ticks ≤ 600) with z | z; exact z; rw [if_neg z] at h39; omega }
        rw [if_neg (by omega)]
        refine vV.aload_n dX6_at_45 rfl ?_
        refine vV.getr dX6_at_46 fl_X6_33 (by first | rfl | assumption) rfl (by first | assumption | exact hB _ _ _ rfl) ?_
        refine vV.aload_n dX6_at_49 rfl ?_
        refine vV.getr dX6_at_50 fl_X6_10 (by first | rfl | assumption) rfl (by first | assumption | exact hB _ _ _ rfl) ?_
        refine vV.cVv dX6_at_53 ml_X6_135 cw_X5_begin iw_X5_begin (by first | rfl | assumption) rfl (by unfold vRoom; decide) (c_X5_begin hB hZ hW) rfl rfl (Nat.le_of_ble_eq_true rfl) ?_
        rintro _ N ⟨rfl, hb⟩
        obtain ⟨hj, hk⟩ := wTj_begin (rule := rule) hW hlag hb
        obtain ⟨m, hm⟩ : ∃ m : Nat, (m : Int) = ticks := ⟨ticks.toNat, by omega⟩
        subst hm
        rw [Int.toNat_natCast]
        refine vV.iconst dX6_at_56 (by decide) ?_
        refine vV.istore (L' := [_, _, _, _, _]) dX6_at_57 (by decide) rfl ?_
        exact l_X6_at hB hir.1 hir.2 (by omega) (by rw [hPn]; exact hpl) 0 (by omega) N hk hj
      · skip
        have hti : ¬ (0 ≤ ticks ∧ ticks ≤ 600) := by { intro z; rw [if_pos z] at h39; omega }
        rw [if_pos (Or.inr hti)]
        refine vV.bipush (v := (-2)) dX6_at_42 (by decide) (by decide) ?_
        refine vV.ri dX6_at_44 rfl ?_
        exact ⟨rfl, cKeepW.rf M, rfl⟩
  refine vV.iload_n dX6_at_0 rfl ?_
  refine vV.iconst dX6_at_1 (by decide) ?_
  refine vV.icmp_eq (tgt := 24) dX6_at_2 (by decide) (fun h2 => ?_) (fun h2 => ?_)
  · skip
    exact hgo (by omega)
  · skip
    refine vV.iload_n dX6_at_5 rfl ?_
    refine vV.bipush (v := (-2)) dX6_at_6 (by decide) (by decide) ?_
    refine vV.icmp_eq (tgt := 24) dX6_at_8 (by decide) (fun h8 => ?_) (fun h8 => ?_)
    · skip
      exact hgo (by omega)
    · skip
      refine vV.aload_n dX6_at_11 rfl ?_
      refine vV.getr dX6_at_12 fl_X6_10 (by first | rfl | assumption) rfl (by first | assumption | exact hB _ _ _ rfl) ?_
      refine vV.iload_n dX6_at_15 rfl ?_
      refine vV.cVi dX6_at_16 ml_X6_74 cw_X3_has iw_X3_has (by first | rfl | assumption) rfl (by unfold vRoom; decide) (c_X3_has sgK_10) rfl rfl (Nat.le_of_ble_eq_true rfl) ?_
      rintro x16 _ _ hx16 ⟨hxe, rfl, rfl⟩
      rw [hc] at hxe
      refine vV.if_ne (tgt := 24) dX6_at_19 (by decide) (fun h19 => ?_) (fun h19 => ?_)
      · skip
        have hip : 0 ≤ plate ∧ plate < n := by { rcases Decidable.em (0 ≤ plate ∧ plate < (n : Int)) with z | z; exact z; rw [hxe, if_neg z] at h19; omega }
        exact hgo (by omega)
      · skip
        have hip : ¬ (0 ≤ plate ∧ plate < n) := by { intro z; rw [hxe, if_pos z] at h19; omega }
        refine vV.iconst dX6_at_22 (by decide) ?_
        refine vV.ri dX6_at_23 rfl ?_
        exact ⟨rfl, cKeepW.rf M, by rw [if_pos (by rw [hPn]; exact ⟨h2, h8, hip⟩)]⟩
theorem dX6_round_0 : decode cX6_round 0 = .ok (.iload_n 1, 1) := by decide +kernel
theorem dX6_round_1 : decode cX6_round 1 = .ok (.invokestatic 132, 3) := by decide +kernel
theorem dX6_round_4 : decode cX6_round 4 = .ok (.ifCond .eq 12, 3) := by decide +kernel
theorem dX6_round_7 : decode cX6_round 7 = .ok (.iload_n 2, 1) := by decide +kernel
theorem dX6_round_8 : decode cX6_round 8 = .ok (.iconst 0, 1) := by decide +kernel
theorem dX6_round_9 : decode cX6_round 9 = .ok (.iconst 1, 1) := by decide +kernel
theorem dX6_round_10 : decode cX6_round 10 = .ok (.invokestatic 58, 3) := by decide +kernel
theorem dX6_round_13 : decode cX6_round 13 = .ok (.ifCond .ne 6, 3) := by decide +kernel
theorem dX6_round_16 : decode cX6_round 16 = .ok (.bipush (-2), 2) := by decide +kernel
theorem dX6_round_18 : decode cX6_round 18 = .ok (.ireturn, 1) := by decide +kernel
theorem dX6_round_19 : decode cX6_round 19 = .ok (.aload_n 0, 1) := by decide +kernel
theorem dX6_round_20 : decode cX6_round 20 = .ok (.getfield 10, 3) := by decide +kernel
theorem dX6_round_23 : decode cX6_round 23 = .ok (.invokevirtual 107, 3) := by decide +kernel
theorem dX6_round_26 : decode cX6_round 26 = .ok (.ifCond .ne 6, 3) := by decide +kernel
theorem dX6_round_29 : decode cX6_round 29 = .ok (.bipush (-3), 2) := by decide +kernel
theorem dX6_round_31 : decode cX6_round 31 = .ok (.ireturn, 1) := by decide +kernel
theorem dX6_round_32 : decode cX6_round 32 = .ok (.aload_n 0, 1) := by decide +kernel
theorem dX6_round_33 : decode cX6_round 33 = .ok (.getfield 33, 3) := by decide +kernel
theorem dX6_round_36 : decode cX6_round 36 = .ok (.aload_n 0, 1) := by decide +kernel
theorem dX6_round_37 : decode cX6_round 37 = .ok (.getfield 10, 3) := by decide +kernel
theorem dX6_round_40 : decode cX6_round 40 = .ok (.invokevirtual 135, 3) := by decide +kernel
theorem dX6_round_43 : decode cX6_round 43 = .ok (.aload_n 0, 1) := by decide +kernel
theorem dX6_round_44 : decode cX6_round 44 = .ok (.getfield 33, 3) := by decide +kernel
theorem dX6_round_47 : decode cX6_round 47 = .ok (.iload_n 1, 1) := by decide +kernel
theorem dX6_round_48 : decode cX6_round 48 = .ok (.invokevirtual 154, 3) := by decide +kernel
theorem dX6_round_51 : decode cX6_round 51 = .ok (.istore_n 3, 1) := by decide +kernel
theorem dX6_round_52 : decode cX6_round 52 = .ok (.iload_n 3, 1) := by decide +kernel
theorem dX6_round_53 : decode cX6_round 53 = .ok (.ifCond .ge 6, 3) := by decide +kernel
theorem dX6_round_56 : decode cX6_round 56 = .ok (.bipush (-6), 2) := by decide +kernel
theorem dX6_round_58 : decode cX6_round 58 = .ok (.ireturn, 1) := by decide +kernel
theorem dX6_round_59 : decode cX6_round 59 = .ok (.iload_n 2, 1) := by decide +kernel
theorem dX6_round_60 : decode cX6_round 60 = .ok (.ifCond .ne 7, 3) := by decide +kernel
theorem dX6_round_63 : decode cX6_round 63 = .ok (.iload_n 3, 1) := by decide +kernel
theorem dX6_round_64 : decode cX6_round 64 = .ok (.goto 12, 3) := by decide +kernel
theorem dX6_round_67 : decode cX6_round 67 = .ok (.aload_n 0, 1) := by decide +kernel
theorem dX6_round_68 : decode cX6_round 68 = .ok (.getfield 33, 3) := by decide +kernel
theorem dX6_round_71 : decode cX6_round 71 = .ok (.getfield 157, 3) := by decide +kernel
theorem dX6_round_74 : decode cX6_round 74 = .ok (.iload_n 3, 1) := by decide +kernel
theorem dX6_round_75 : decode cX6_round 75 = .ok (.isub, 1) := by decide +kernel
theorem dX6_round_76 : decode cX6_round 76 = .ok (.ireturn, 1) := by decide +kernel
def pRe (what : Int) : Option (Nat × Nat) → Int
  | none => -6
  | some (e, u) => if what = 0 then e else (u : Int) - e
def sRound (rule what : Int) (P : pP) (lag : Nat) (s0 : pS) (bits : Int) : Int := if ¬ (0 ≤ rule ∧ rule ≤ 3) ∨ ¬ (0 ≤ what ∧ what ≤ 1) then -2 else if bits = 0 then -3 else pRe what (pGr rule P lag s0)
theorem pGr_rg {rule : Int} {P : pP} {lag : Nat} {s0 : pS} {e u : Nat} (h : pGr rule P lag s0 = some (e, u)) : e < u ∧ u ≤ 600 := by
  unfold pGr at h
  cases hz : pFind (pGx rule P lag s0) 600 with
  | none => rw [hz] at h; cases h
  | some t =>
    have h1 := (pFind_some hz).1
    rw [hz] at h; simp only at h
    split at h
    · cases h
    · cases hy : pFe rule P lag s0 (t + 1) with
      | none => rw [hy] at h; cases h
      | some z => rw [hy] at h; cases h; have := (pFind_some hy).1; omega
theorem l_X6_round51 {d : List Nat} {T : vT} {M N1 : vM} {rule what x48 : Int} {o : Option (Nat × Nat)} (hB : vB T) (hk : cKeepW M N1) (hre : pGq x48 N1 o) (hrg : ∀ e u, o = some (e, u) → e < u ∧ u ≤ 600) : vV m_X6_round d d (vPi fun r T1 M1 => T = T1 ∧ cKeepW M M1 ∧ r = pRe what o) 51 [some (vR 0), some (vI rule), some (vI what), none] [vI x48] d T N1 := by
  cases o with
  | none =>
    have hre2 : x48 = -1 := hre
    subst hre2
    clear hrg
    refine vV.istore_n (L' := [_, _, _, _]) dX6_round_51 (by decide) rfl ?_
    refine vV.iload_n dX6_round_52 rfl ?_
    refine vV.if_ge (tgt := 59) dX6_round_53 (by decide) (fun h53 => ?_) (fun h53 => ?_)
    · skip
      omega
    · skip
      refine vV.bipush (v := (-6)) dX6_round_56 (by decide) (by decide) ?_
      refine vV.ri dX6_round_58 rfl ?_
      exact ⟨rfl, hk, rfl⟩
  | some z =>
    obtain ⟨e, u⟩ := z
    obtain ⟨hre2, hu⟩ : x48 = (e : Int) ∧ N1 70 1 = (u : Int) := hre
    subst hre2
    have heu := hrg e u rfl
    clear hrg
    refine vV.istore_n (L' := [_, _, _, _]) dX6_round_51 (by decide) rfl ?_
    refine vV.iload_n dX6_round_52 rfl ?_
    refine vV.if_ge (tgt := 59) dX6_round_53 (by decide) (fun h53 => ?_) (fun h53 => ?_)
    · skip
      refine vV.iload_n dX6_round_59 rfl ?_
      refine vV.if_ne (tgt := 67) dX6_round_60 (by decide) (fun h60 => ?_) (fun h60 => ?_)
      · skip
        refine vV.aload_n dX6_round_67 rfl ?_
        refine vV.getr dX6_round_68 fl_X6_33 (by first | rfl | assumption) rfl (by first | assumption | exact hB _ _ _ rfl) ?_
        refine vV.geti (z := 1) dX6_round_71 fl_X6_157 (by first | rfl | assumption) rfl rfl ?_
        refine vV.iload_n dX6_round_74 rfl ?_
        refine vV.isub dX6_round_75 (⟨by omega, by omega⟩) ?_
        refine vV.ri dX6_round_76 rfl ?_
        refine ⟨rfl, hk, ?_⟩; unfold pRe; simp only; first | rw [if_pos h60] | rw [if_neg h60, hu]
      · skip
        refine vV.iload_n dX6_round_63 rfl ?_
        refine vV.goto (tgt := 76) dX6_round_64 (by decide) ?_
        refine vV.ri dX6_round_76 rfl ?_
        refine ⟨rfl, hk, ?_⟩; unfold pRe; simp only; first | rw [if_pos h60] | rw [if_neg h60, hu]
    · skip
      omega
theorem c_X6_round {d : List Nat} {T : vT} {M : vM} {n lag : Nat} {rule what : Int} (hB : vB T) (hW : sgW M 10 n) (hZ : sgZ M 30) (hlag : M 15 3 = lag) : vCon m_X6_round d d [vR 0, vI rule, vI what] T M (vPi fun r T1 M1 => T = T1 ∧ cKeepW M M1 ∧ r = sRound rule what (cP M n) lag (cS0 M) (pBits (M 14) n)) := by
  unfold sRound
  obtain ⟨o, ho⟩ : ∃ o, o = pGr rule (cP M n) lag (cS0 M) := ⟨_, rfl⟩
  have hrg : ∀ e u, o = some (e, u) → e < u ∧ u ≤ 600 := fun e u h => pGr_rg (ho.symm.trans h)
  rw [← ho]
  refine vCon.of (by decide) rfl rfl (Nat.le_of_ble_eq_true rfl) ?_
  refine vV.iload_n dX6_round_0 rfl ?_
  refine vV.cSi dX6_round_1 ml_X6_132 cw_X6_isRule sw_X6_isRule (by unfold vRoom; decide) c_X6_isRule rfl rfl (Nat.le_of_ble_eq_true rfl) ?_
  rintro x1 _ _ hx1 ⟨hxe, rfl, rfl⟩
  refine vV.if_eq (tgt := 16) dX6_round_4 (by decide) (fun h4 => ?_) (fun h4 => ?_)
  · skip
    have hnr : ¬ (0 ≤ rule ∧ rule ≤ 3) := by { intro z; rw [hxe, if_pos z] at h4; omega }
    rw [if_pos (Or.inl hnr)]
    refine vV.bipush (v := (-2)) dX6_round_16 (by decide) (by decide) ?_
    refine vV.ri dX6_round_18 rfl ?_
    exact ⟨rfl, cKeepW.rf M, rfl⟩
  · skip
    have hir : 0 ≤ rule ∧ rule ≤ 3 := by { rcases Decidable.em (0 ≤ rule ∧ rule ≤ 3) with z | z; exact z; rw [hxe, if_neg z] at h4; omega }
    refine vV.iload_n dX6_round_7 rfl ?_
    refine vV.iconst dX6_round_8 (by decide) ?_
    refine vV.iconst dX6_round_9 (by decide) ?_
    refine vV.cSi dX6_round_10 ml_X6_58 cw_X6_within sw_X6_within (by unfold vRoom; decide) c_X6_within rfl rfl (Nat.le_of_ble_eq_true rfl) ?_
    rintro x10 _ _ hx10 ⟨rfl, rfl, rfl⟩
    refine vV.if_ne (tgt := 19) dX6_round_13 (by decide) (fun h13 => ?_) (fun h13 => ?_)
    · skip
      have hti : 0 ≤ what ∧ what ≤ 1 := by { rcases Decidable.em (0 ≤ what ∧ what ≤ 1) with z | z; exact z; rw [if_neg z] at h13; omega }
      rw [if_neg (by omega)]
      refine vV.aload_n dX6_round_19 rfl ?_
      refine vV.getr dX6_round_20 fl_X6_10 (by first | rfl | assumption) rfl (by first | assumption | exact hB _ _ _ rfl) ?_
      refine vV.cVi dX6_round_23 ml_X6_107 cw_X3_standing iw_X3_standing (by first | rfl | assumption) rfl (by unfold vRoom; decide) (c_X3_standing sgK_10 (sgT_10 hB) hW.cnt hW.le) rfl rfl (Nat.le_of_ble_eq_true rfl) ?_
      rintro x23 _ _ hx23 ⟨rfl, rfl, rfl⟩
      rw [show (10 : Nat) + 4 = 14 from rfl]
      refine vV.if_ne (tgt := 32) dX6_round_26 (by decide) (fun h26 => ?_) (fun h26 => ?_)
      · skip
        rw [if_neg h26]
        refine vV.aload_n dX6_round_32 rfl ?_
        refine vV.getr dX6_round_33 fl_X6_33 (by first | rfl | assumption) rfl (by first | assumption | exact hB _ _ _ rfl) ?_
        refine vV.aload_n dX6_round_36 rfl ?_
        refine vV.getr dX6_round_37 fl_X6_10 (by first | rfl | assumption) rfl (by first | assumption | exact hB _ _ _ rfl) ?_
        refine vV.cVv dX6_round_40 ml_X6_135 cw_X5_begin iw_X5_begin (by first | rfl | assumption) rfl (by unfold vRoom; decide) (c_X5_begin hB hZ hW) rfl rfl (Nat.le_of_ble_eq_true rfl) ?_
        rintro _ N ⟨rfl, hb⟩
        obtain ⟨hj, hk⟩ := wTj_begin (rule := rule) hW hlag hb
        refine vV.aload_n dX6_round_43 rfl ?_
        refine vV.getr dX6_round_44 fl_X6_33 (by first | rfl | assumption) rfl (by first | assumption | exact hB _ _ _ rfl) ?_
        refine vV.iload_n dX6_round_47 rfl ?_
        refine vV.cVi dX6_round_48 ml_X6_154 cw_X5_goUntilItComesAgain iw_X5_goUntilItComesAgain (by first | rfl | assumption) rfl (by unfold vRoom; decide) (c_X5_goUntilItComesAgain hB hir.1 hir.2 hj) rfl rfl (Nat.le_of_ble_eq_true rfl) ?_
        rintro x48 _ N1 hx48 ⟨rfl, hk1, o', ho', hre⟩
        rw [← ho] at ho'
        subst ho'
        exact l_X6_round51 hB (hk.w hk1) hre hrg
      · skip
        rw [if_pos h26]
        refine vV.bipush (v := (-3)) dX6_round_29 (by decide) (by decide) ?_
        refine vV.ri dX6_round_31 rfl ?_
        exact ⟨rfl, cKeepW.rf M, rfl⟩
    · skip
      have hti : ¬ (0 ≤ what ∧ what ≤ 1) := by { intro z; rw [if_pos z] at h13; omega }
      rw [if_pos (Or.inr hti)]
      refine vV.bipush (v := (-2)) dX6_round_16 (by decide) (by decide) ?_
      refine vV.ri dX6_round_18 rfl ?_
      exact ⟨rfl, cKeepW.rf M, rfl⟩
end
section
/-! ===== own: the class: plate, turn, about, tick, say, wipe, fault ===== -/
theorem yes01 {c : Prop} [Decidable c] {y : Int} (h : y = if c then 1 else 0) (hy : y ≠ 0) : c := by
  rcases Decidable.em c with z | z
  · exact z
  · rw [if_neg z] at h; exact absurd h hy
theorem no01 {c : Prop} [Decidable c] {y : Int} (h : y = if c then 1 else 0) (hy : y = 0) : ¬ c := by
  intro z; rw [if_pos z] at h; omega
def pPlateR (n : Nat) (pl : Int → Int) (x y z : Int) : Int := if ¬ ((0 ≤ x ∧ x ≤ 7) ∧ (2 ≤ y ∧ y ≤ 15) ∧ 1 ≤ z ∧ z ≤ 3) then -2 else if (pAt n pl x).isSome then -5 else if 6 ≤ n then -4 else n
theorem pPlate_2 {n : Nat} {pl : Int → Int} {x y z : Int} (h : ¬ ((0 ≤ x ∧ x ≤ 7) ∧ (2 ≤ y ∧ y ≤ 15) ∧ 1 ≤ z ∧ z ≤ 3)) : pPlateR n pl x y z = -2 := if_pos h
theorem pPlate_5 {n : Nat} {pl : Int → Int} {x y z : Int} (h : (0 ≤ x ∧ x ≤ 7) ∧ (2 ≤ y ∧ y ≤ 15) ∧ 1 ≤ z ∧ z ≤ 3) (h2 : (pAt n pl x).isSome = true) : pPlateR n pl x y z = -5 := by unfold pPlateR; rw [if_neg (fun c => c h), if_pos h2]
theorem pPlate_4 {n : Nat} {pl : Int → Int} {x y z : Int} (h : (0 ≤ x ∧ x ≤ 7) ∧ (2 ≤ y ∧ y ≤ 15) ∧ 1 ≤ z ∧ z ≤ 3) (h2 : pAt n pl x = none) (h3 : 6 ≤ n) : pPlateR n pl x y z = -4 := by unfold pPlateR; rw [if_neg (fun c => c h), h2, if_neg (by simp), if_pos h3]
theorem pPlate_0 {n : Nat} {pl : Int → Int} {x y z : Int} (h : (0 ≤ x ∧ x ≤ 7) ∧ (2 ≤ y ∧ y ≤ 15) ∧ 1 ≤ z ∧ z ≤ 3) (h2 : pAt n pl x = none) (h3 : n < 6) : pPlateR n pl x y z = n := by unfold pPlateR; rw [if_neg (fun c => c h), h2, if_neg (by simp), if_neg (by omega)]
theorem pOr_none {o : Option Nat} (h : pOr (-1) o < 0) : o = none := by
  cases o with
  | none => rfl
  | some p => rw [pOr_s] at h; omega
theorem pOr_some {o : Option Nat} (h : 0 ≤ pOr (-1) o) : o.isSome = true := by
  cases o with
  | none => rw [pOr_n] at h; omega
  | some p => rfl
def sAdd (M : vM) (n : Nat) (x y z : Int) : vM := vUpd (vUpd (vUpd (vUpd (vUpd M 11 n x) 12 n y) 13 n z) 14 n y) 10 0 (n + 1)
theorem dX6_plate_0 : decode cX6_plate 0 = .ok (.iload_n 1, 1) := by decide +kernel
theorem dX6_plate_1 : decode cX6_plate 1 = .ok (.iconst 0, 1) := by decide +kernel
theorem dX6_plate_2 : decode cX6_plate 2 = .ok (.bipush 7, 2) := by decide +kernel
theorem dX6_plate_4 : decode cX6_plate 4 = .ok (.invokestatic 58, 3) := by decide +kernel
theorem dX6_plate_7 : decode cX6_plate 7 = .ok (.ifCond .eq 22, 3) := by decide +kernel
theorem dX6_plate_10 : decode cX6_plate 10 = .ok (.iload_n 2, 1) := by decide +kernel
theorem dX6_plate_11 : decode cX6_plate 11 = .ok (.iconst 2, 1) := by decide +kernel
theorem dX6_plate_12 : decode cX6_plate 12 = .ok (.bipush 15, 2) := by decide +kernel
theorem dX6_plate_14 : decode cX6_plate 14 = .ok (.invokestatic 58, 3) := by decide +kernel
theorem dX6_plate_17 : decode cX6_plate 17 = .ok (.ifCond .eq 12, 3) := by decide +kernel
theorem dX6_plate_20 : decode cX6_plate 20 = .ok (.iload_n 3, 1) := by decide +kernel
theorem dX6_plate_21 : decode cX6_plate 21 = .ok (.iconst 1, 1) := by decide +kernel
theorem dX6_plate_22 : decode cX6_plate 22 = .ok (.iconst 3, 1) := by decide +kernel
theorem dX6_plate_23 : decode cX6_plate 23 = .ok (.invokestatic 58, 3) := by decide +kernel
theorem dX6_plate_26 : decode cX6_plate 26 = .ok (.ifCond .ne 6, 3) := by decide +kernel
theorem dX6_plate_29 : decode cX6_plate 29 = .ok (.bipush (-2), 2) := by decide +kernel
theorem dX6_plate_31 : decode cX6_plate 31 = .ok (.ireturn, 1) := by decide +kernel
theorem dX6_plate_32 : decode cX6_plate 32 = .ok (.aload_n 0, 1) := by decide +kernel
theorem dX6_plate_33 : decode cX6_plate 33 = .ok (.getfield 10, 3) := by decide +kernel
theorem dX6_plate_36 : decode cX6_plate 36 = .ok (.iload_n 1, 1) := by decide +kernel
theorem dX6_plate_37 : decode cX6_plate 37 = .ok (.invokevirtual 62, 3) := by decide +kernel
theorem dX6_plate_40 : decode cX6_plate 40 = .ok (.ifCond .lt 6, 3) := by decide +kernel
theorem dX6_plate_43 : decode cX6_plate 43 = .ok (.bipush (-5), 2) := by decide +kernel
theorem dX6_plate_45 : decode cX6_plate 45 = .ok (.ireturn, 1) := by decide +kernel
theorem dX6_plate_46 : decode cX6_plate 46 = .ok (.aload_n 0, 1) := by decide +kernel
theorem dX6_plate_47 : decode cX6_plate 47 = .ok (.getfield 10, 3) := by decide +kernel
theorem dX6_plate_50 : decode cX6_plate 50 = .ok (.getfield 66, 3) := by decide +kernel
theorem dX6_plate_53 : decode cX6_plate 53 = .ok (.bipush 6, 2) := by decide +kernel
theorem dX6_plate_55 : decode cX6_plate 55 = .ok (.if_icmp .lt 6, 3) := by decide +kernel
theorem dX6_plate_58 : decode cX6_plate 58 = .ok (.bipush (-4), 2) := by decide +kernel
theorem dX6_plate_60 : decode cX6_plate 60 = .ok (.ireturn, 1) := by decide +kernel
theorem dX6_plate_61 : decode cX6_plate 61 = .ok (.aload_n 0, 1) := by decide +kernel
theorem dX6_plate_62 : decode cX6_plate 62 = .ok (.getfield 10, 3) := by decide +kernel
theorem dX6_plate_65 : decode cX6_plate 65 = .ok (.iload_n 1, 1) := by decide +kernel
theorem dX6_plate_66 : decode cX6_plate 66 = .ok (.iload_n 2, 1) := by decide +kernel
theorem dX6_plate_67 : decode cX6_plate 67 = .ok (.iload_n 3, 1) := by decide +kernel
theorem dX6_plate_68 : decode cX6_plate 68 = .ok (.invokevirtual 70, 3) := by decide +kernel
theorem dX6_plate_71 : decode cX6_plate 71 = .ok (.ireturn, 1) := by decide +kernel
theorem c_X6_plate {d : List Nat} {T : vT} {M : vM} {n : Nat} {x y z : Int} (hB : vB T) (hW : sgW M 10 n) : vCon m_X6_plate d d [vR 0, vI x, vI y, vI z] T M (vPi fun r T1 M1 => T = T1 ∧ r = pPlateR n (M 11) x y z ∧ M1 = (if 0 ≤ pPlateR n (M 11) x y z then sAdd M n x y z else M)) := by
  have hc : M 10 0 = n := hW.cnt
  refine vCon.of (by decide) rfl rfl (Nat.le_of_ble_eq_true rfl) ?_
  refine vV.iload_n dX6_plate_0 rfl ?_
  refine vV.iconst dX6_plate_1 (by decide) ?_
  refine vV.bipush (v := 7) dX6_plate_2 (by decide) (by decide) ?_
  refine vV.cSi dX6_plate_4 ml_X6_58 cw_X6_within sw_X6_within (by unfold vRoom; decide) c_X6_within rfl rfl (Nat.le_of_ble_eq_true rfl) ?_
  rintro x4 _ _ hx4 ⟨hy4, rfl, rfl⟩
  refine vV.if_eq (tgt := 29) dX6_plate_7 (by decide) (fun h7 => ?_) (fun h7 => ?_)
  · skip
    have e2 : pPlateR n (M 11) x y z = -2 := pPlate_2 (fun c => no01 hy4 h7 c.1)
    refine vV.bipush (v := (-2)) dX6_plate_29 (by decide) (by decide) ?_
    refine vV.ri dX6_plate_31 rfl ?_
    exact ⟨rfl, e2.symm, by rw [e2]; rfl⟩
  · skip
    have g1 := yes01 hy4 h7
    refine vV.iload_n dX6_plate_10 rfl ?_
    refine vV.iconst dX6_plate_11 (by decide) ?_
    refine vV.bipush (v := 15) dX6_plate_12 (by decide) (by decide) ?_
    refine vV.cSi dX6_plate_14 ml_X6_58 cw_X6_within sw_X6_within (by unfold vRoom; decide) c_X6_within rfl rfl (Nat.le_of_ble_eq_true rfl) ?_
    rintro x14 _ _ hx14 ⟨hy14, rfl, rfl⟩
    refine vV.if_eq (tgt := 29) dX6_plate_17 (by decide) (fun h17 => ?_) (fun h17 => ?_)
    · skip
      have e2 : pPlateR n (M 11) x y z = -2 := pPlate_2 (fun c => no01 hy14 h17 c.2.1)
      refine vV.bipush (v := (-2)) dX6_plate_29 (by decide) (by decide) ?_
      refine vV.ri dX6_plate_31 rfl ?_
      exact ⟨rfl, e2.symm, by rw [e2]; rfl⟩
    · skip
      have g2 := yes01 hy14 h17
      refine vV.iload_n dX6_plate_20 rfl ?_
      refine vV.iconst dX6_plate_21 (by decide) ?_
      refine vV.iconst dX6_plate_22 (by decide) ?_
      refine vV.cSi dX6_plate_23 ml_X6_58 cw_X6_within sw_X6_within (by unfold vRoom; decide) c_X6_within rfl rfl (Nat.le_of_ble_eq_true rfl) ?_
      rintro x23 _ _ hx23 ⟨hy23, rfl, rfl⟩
      refine vV.if_ne (tgt := 32) dX6_plate_26 (by decide) (fun h26 => ?_) (fun h26 => ?_)
      · skip
        have g3 := yes01 hy23 h26
        refine vV.aload_n dX6_plate_32 rfl ?_
        refine vV.getr dX6_plate_33 fl_X6_10 (by first | rfl | assumption) rfl (by first | assumption | exact hB _ _ _ rfl) ?_
        refine vV.iload_n dX6_plate_36 rfl ?_
        refine vV.cVi dX6_plate_37 ml_X6_62 cw_X3_plateOn iw_X3_plateOn (by first | rfl | assumption) rfl (by unfold vRoom; decide) (c_X3_plateOn sgK_10 (sgT_10 hB) hW.cnt hW.le) rfl rfl (Nat.le_of_ble_eq_true rfl) ?_
        rintro x37 _ _ hx37 ⟨hy37, rfl, rfl⟩
        rw [hy37]
        refine vV.if_lt (tgt := 46) dX6_plate_40 (by decide) (fun h40 => ?_) (fun h40 => ?_)
        · skip
          have g4 : pAt n (M 11) x = none := pOr_none h40
          refine vV.aload_n dX6_plate_46 rfl ?_
          refine vV.getr dX6_plate_47 fl_X6_10 (by first | rfl | assumption) rfl (by first | assumption | exact hB _ _ _ rfl) ?_
          refine vV.geti (z := 0) dX6_plate_50 fl_X6_66 (by first | rfl | assumption) rfl rfl ?_
          refine vV.bipush (v := 6) dX6_plate_53 (by decide) (by decide) ?_
          refine vV.icmp_lt (tgt := 61) dX6_plate_55 (by decide) (fun h55 => ?_) (fun h55 => ?_)
          · skip
            have e2 : pPlateR n (M 11) x y z = n := pPlate_0 ⟨g1, g2, g3⟩ g4 (by omega)
            refine vV.aload_n dX6_plate_61 rfl ?_
            refine vV.getr dX6_plate_62 fl_X6_10 (by first | rfl | assumption) rfl (by first | assumption | exact hB _ _ _ rfl) ?_
            refine vV.iload_n dX6_plate_65 rfl ?_
            refine vV.iload_n dX6_plate_66 rfl ?_
            refine vV.iload_n dX6_plate_67 rfl ?_
            refine vV.cVi dX6_plate_68 ml_X6_70 cw_X3_add iw_X3_add (by first | rfl | assumption) rfl (by unfold vRoom; decide) (c_X3_add sgK_10 (sgT_10 hB) hW.cnt (by omega)) rfl rfl (Nat.le_of_ble_eq_true rfl) ?_
            rintro x68 _ _ hx68 ⟨rfl, rfl, rfl⟩
            refine vV.ri dX6_plate_71 rfl ?_
            exact ⟨rfl, e2.symm, by rw [e2, if_pos (by omega)]; rfl⟩
          · skip
            have e2 : pPlateR n (M 11) x y z = -4 := pPlate_4 ⟨g1, g2, g3⟩ g4 (by omega)
            refine vV.bipush (v := (-4)) dX6_plate_58 (by decide) (by decide) ?_
            refine vV.ri dX6_plate_60 rfl ?_
            exact ⟨rfl, e2.symm, by rw [e2]; rfl⟩
        · skip
          have e2 : pPlateR n (M 11) x y z = -5 := pPlate_5 ⟨g1, g2, g3⟩ (pOr_some h40)
          refine vV.bipush (v := (-5)) dX6_plate_43 (by decide) (by decide) ?_
          refine vV.ri dX6_plate_45 rfl ?_
          exact ⟨rfl, e2.symm, by rw [e2]; rfl⟩
      · skip
        have e2 : pPlateR n (M 11) x y z = -2 := pPlate_2 (fun c => no01 hy23 h26 c.2.2)
        refine vV.bipush (v := (-2)) dX6_plate_29 (by decide) (by decide) ?_
        refine vV.ri dX6_plate_31 rfl ?_
        exact ⟨rfl, e2.symm, by rw [e2]; rfl⟩
def pTurnR (n : Nat) (fu tu : Int → Int) (p v : Int) : Int := if ¬ (0 ≤ p ∧ p < n) then -1 else if ¬ (0 ≤ v ∧ v ≤ fu p) then -2 else tu p
theorem dX6_turn_0 : decode cX6_turn 0 = .ok (.aload_n 0, 1) := by decide +kernel
theorem dX6_turn_1 : decode cX6_turn 1 = .ok (.getfield 10, 3) := by decide +kernel
theorem dX6_turn_4 : decode cX6_turn 4 = .ok (.iload_n 1, 1) := by decide +kernel
theorem dX6_turn_5 : decode cX6_turn 5 = .ok (.invokevirtual 74, 3) := by decide +kernel
theorem dX6_turn_8 : decode cX6_turn 8 = .ok (.ifCond .ne 5, 3) := by decide +kernel
theorem dX6_turn_11 : decode cX6_turn 11 = .ok (.iconst (-1), 1) := by decide +kernel
theorem dX6_turn_12 : decode cX6_turn 12 = .ok (.ireturn, 1) := by decide +kernel
theorem dX6_turn_13 : decode cX6_turn 13 = .ok (.iload_n 2, 1) := by decide +kernel
theorem dX6_turn_14 : decode cX6_turn 14 = .ok (.iconst 0, 1) := by decide +kernel
theorem dX6_turn_15 : decode cX6_turn 15 = .ok (.aload_n 0, 1) := by decide +kernel
theorem dX6_turn_16 : decode cX6_turn 16 = .ok (.getfield 10, 3) := by decide +kernel
theorem dX6_turn_19 : decode cX6_turn 19 = .ok (.getfield 78, 3) := by decide +kernel
theorem dX6_turn_22 : decode cX6_turn 22 = .ok (.iload_n 1, 1) := by decide +kernel
theorem dX6_turn_23 : decode cX6_turn 23 = .ok (.iaload, 1) := by decide +kernel
theorem dX6_turn_24 : decode cX6_turn 24 = .ok (.invokestatic 58, 3) := by decide +kernel
theorem dX6_turn_27 : decode cX6_turn 27 = .ok (.ifCond .ne 6, 3) := by decide +kernel
theorem dX6_turn_30 : decode cX6_turn 30 = .ok (.bipush (-2), 2) := by decide +kernel
theorem dX6_turn_32 : decode cX6_turn 32 = .ok (.ireturn, 1) := by decide +kernel
theorem dX6_turn_33 : decode cX6_turn 33 = .ok (.aload_n 0, 1) := by decide +kernel
theorem dX6_turn_34 : decode cX6_turn 34 = .ok (.getfield 10, 3) := by decide +kernel
theorem dX6_turn_37 : decode cX6_turn 37 = .ok (.getfield 82, 3) := by decide +kernel
theorem dX6_turn_40 : decode cX6_turn 40 = .ok (.iload_n 1, 1) := by decide +kernel
theorem dX6_turn_41 : decode cX6_turn 41 = .ok (.iaload, 1) := by decide +kernel
theorem dX6_turn_42 : decode cX6_turn 42 = .ok (.istore_n 3, 1) := by decide +kernel
theorem dX6_turn_43 : decode cX6_turn 43 = .ok (.aload_n 0, 1) := by decide +kernel
theorem dX6_turn_44 : decode cX6_turn 44 = .ok (.getfield 10, 3) := by decide +kernel
theorem dX6_turn_47 : decode cX6_turn 47 = .ok (.getfield 82, 3) := by decide +kernel
theorem dX6_turn_50 : decode cX6_turn 50 = .ok (.iload_n 1, 1) := by decide +kernel
theorem dX6_turn_51 : decode cX6_turn 51 = .ok (.iload_n 2, 1) := by decide +kernel
theorem dX6_turn_52 : decode cX6_turn 52 = .ok (.iastore, 1) := by decide +kernel
theorem dX6_turn_53 : decode cX6_turn 53 = .ok (.iload_n 3, 1) := by decide +kernel
theorem dX6_turn_54 : decode cX6_turn 54 = .ok (.ireturn, 1) := by decide +kernel
theorem c_X6_turn {d : List Nat} {T : vT} {M : vM} {n : Nat} {p v : Int} (hB : vB T) (hW : sgW M 10 n) : vCon m_X6_turn d d [vR 0, vI p, vI v] T M (vPi fun r T1 M1 => T = T1 ∧ r = pTurnR n (M 12) (M 14) p v ∧ M1 = (if 0 ≤ pTurnR n (M 12) (M 14) p v then vUpd M 14 p v else M)) := by
  have hc : M 10 0 = n := hW.cnt
  have hn := hW.le
  have htu : 0 ≤ M 14 p := (hW.2.2.2.2.2.2.2.1 p).1
  refine vCon.of (by decide) rfl rfl (Nat.le_of_ble_eq_true rfl) ?_
  refine vV.aload_n dX6_turn_0 rfl ?_
  refine vV.getr dX6_turn_1 fl_X6_10 (by first | rfl | assumption) rfl (by first | assumption | exact hB _ _ _ rfl) ?_
  refine vV.iload_n dX6_turn_4 rfl ?_
  refine vV.cVi dX6_turn_5 ml_X6_74 cw_X3_has iw_X3_has (by first | rfl | assumption) rfl (by unfold vRoom; decide) (c_X3_has sgK_10) rfl rfl (Nat.le_of_ble_eq_true rfl) ?_
  rintro x5 _ _ hx5 ⟨hy5, rfl, rfl⟩
  rw [hc] at hy5
  refine vV.if_ne (tgt := 13) dX6_turn_8 (by decide) (fun h8 => ?_) (fun h8 => ?_)
  · skip
    have g1 := yes01 hy5 h8
    refine vV.iload_n dX6_turn_13 rfl ?_
    refine vV.iconst dX6_turn_14 (by decide) ?_
    refine vV.aload_n dX6_turn_15 rfl ?_
    refine vV.getr dX6_turn_16 fl_X6_10 (by first | rfl | assumption) rfl (by first | assumption | exact hB _ _ _ rfl) ?_
    refine vV.getr dX6_turn_19 fl_X6_78 (by first | rfl | assumption) rfl (by first | assumption | exact hB _ _ _ rfl) ?_
    refine vV.iload_n dX6_turn_22 rfl ?_
    refine vV.iald dX6_turn_23 (by first | rfl | assumption) (by omega) (by omega) ?_
    refine vV.cSi dX6_turn_24 ml_X6_58 cw_X6_within sw_X6_within (by unfold vRoom; decide) c_X6_within rfl rfl (Nat.le_of_ble_eq_true rfl) ?_
    rintro x24 _ _ hx24 ⟨hy24, rfl, rfl⟩
    refine vV.if_ne (tgt := 33) dX6_turn_27 (by decide) (fun h27 => ?_) (fun h27 => ?_)
    · skip
      have e2 : pTurnR n (M 12) (M 14) p v = M 14 p := by { unfold pTurnR; rw [if_neg (fun c => c g1), if_neg (fun c => c (yes01 hy24 h27))] }
      refine vV.aload_n dX6_turn_33 rfl ?_
      refine vV.getr dX6_turn_34 fl_X6_10 (by first | rfl | assumption) rfl (by first | assumption | exact hB _ _ _ rfl) ?_
      refine vV.getr dX6_turn_37 fl_X6_82 (by first | rfl | assumption) rfl (by first | assumption | exact hB _ _ _ rfl) ?_
      refine vV.iload_n dX6_turn_40 rfl ?_
      refine vV.iald dX6_turn_41 (by first | rfl | assumption) (by omega) (by omega) ?_
      refine vV.istore_n (L' := [_, _, _, _]) dX6_turn_42 (by decide) rfl ?_
      refine vV.aload_n dX6_turn_43 rfl ?_
      refine vV.getr dX6_turn_44 fl_X6_10 (by first | rfl | assumption) rfl (by first | assumption | exact hB _ _ _ rfl) ?_
      refine vV.getr dX6_turn_47 fl_X6_82 (by first | rfl | assumption) rfl (by first | assumption | exact hB _ _ _ rfl) ?_
      refine vV.iload_n dX6_turn_50 rfl ?_
      refine vV.iload_n dX6_turn_51 rfl ?_
      refine vV.iast dX6_turn_52 (by first | rfl | assumption) (by omega) (by omega) ?_
      refine vV.iload_n dX6_turn_53 rfl ?_
      refine vV.ri dX6_turn_54 rfl ?_
      exact ⟨rfl, e2.symm, by rw [e2, if_pos htu]⟩
    · skip
      have e2 : pTurnR n (M 12) (M 14) p v = -2 := by { unfold pTurnR; rw [if_neg (fun c => c g1), if_pos (no01 hy24 h27)] }
      refine vV.bipush (v := (-2)) dX6_turn_30 (by decide) (by decide) ?_
      refine vV.ri dX6_turn_32 rfl ?_
      exact ⟨rfl, e2.symm, by rw [e2]; rfl⟩
  · skip
    have e2 : pTurnR n (M 12) (M 14) p v = -1 := if_pos (no01 hy5 h8)
    refine vV.iconst dX6_turn_11 (by decide) ?_
    refine vV.ri dX6_turn_12 rfl ?_
    exact ⟨rfl, e2.symm, by rw [e2]; rfl⟩
def pAboutR (n : Nat) (pl fu fa tu : Int → Int) (p w : Int) : Int := if ¬ (0 ≤ p ∧ p < n) then -1 else if w = 0 then pl p else if w = 1 then fu p else if w = 2 then fa p else if w = 3 then tu p else -2
theorem dX6_about_0 : decode cX6_about 0 = .ok (.aload_n 0, 1) := by decide +kernel
theorem dX6_about_1 : decode cX6_about 1 = .ok (.getfield 10, 3) := by decide +kernel
theorem dX6_about_4 : decode cX6_about 4 = .ok (.iload_n 1, 1) := by decide +kernel
theorem dX6_about_5 : decode cX6_about 5 = .ok (.invokevirtual 74, 3) := by decide +kernel
theorem dX6_about_8 : decode cX6_about 8 = .ok (.ifCond .ne 5, 3) := by decide +kernel
theorem dX6_about_11 : decode cX6_about 11 = .ok (.iconst (-1), 1) := by decide +kernel
theorem dX6_about_12 : decode cX6_about 12 = .ok (.ireturn, 1) := by decide +kernel
theorem dX6_about_13 : decode cX6_about 13 = .ok (.iload_n 2, 1) := by decide +kernel
theorem dX6_about_14 : decode cX6_about 14 = .ok (.tableswitch 70 0 3 #[30, 40, 50, 60], 30) := by decide +kernel
theorem dX6_about_44 : decode cX6_about 44 = .ok (.aload_n 0, 1) := by decide +kernel
theorem dX6_about_45 : decode cX6_about 45 = .ok (.getfield 10, 3) := by decide +kernel
theorem dX6_about_48 : decode cX6_about 48 = .ok (.getfield 94, 3) := by decide +kernel
theorem dX6_about_51 : decode cX6_about 51 = .ok (.iload_n 1, 1) := by decide +kernel
theorem dX6_about_52 : decode cX6_about 52 = .ok (.iaload, 1) := by decide +kernel
theorem dX6_about_53 : decode cX6_about 53 = .ok (.ireturn, 1) := by decide +kernel
theorem dX6_about_54 : decode cX6_about 54 = .ok (.aload_n 0, 1) := by decide +kernel
theorem dX6_about_55 : decode cX6_about 55 = .ok (.getfield 10, 3) := by decide +kernel
theorem dX6_about_58 : decode cX6_about 58 = .ok (.getfield 78, 3) := by decide +kernel
theorem dX6_about_61 : decode cX6_about 61 = .ok (.iload_n 1, 1) := by decide +kernel
theorem dX6_about_62 : decode cX6_about 62 = .ok (.iaload, 1) := by decide +kernel
theorem dX6_about_63 : decode cX6_about 63 = .ok (.ireturn, 1) := by decide +kernel
theorem dX6_about_64 : decode cX6_about 64 = .ok (.aload_n 0, 1) := by decide +kernel
theorem dX6_about_65 : decode cX6_about 65 = .ok (.getfield 10, 3) := by decide +kernel
theorem dX6_about_68 : decode cX6_about 68 = .ok (.getfield 97, 3) := by decide +kernel
theorem dX6_about_71 : decode cX6_about 71 = .ok (.iload_n 1, 1) := by decide +kernel
theorem dX6_about_72 : decode cX6_about 72 = .ok (.iaload, 1) := by decide +kernel
theorem dX6_about_73 : decode cX6_about 73 = .ok (.ireturn, 1) := by decide +kernel
theorem dX6_about_74 : decode cX6_about 74 = .ok (.aload_n 0, 1) := by decide +kernel
theorem dX6_about_75 : decode cX6_about 75 = .ok (.getfield 10, 3) := by decide +kernel
theorem dX6_about_78 : decode cX6_about 78 = .ok (.getfield 82, 3) := by decide +kernel
theorem dX6_about_81 : decode cX6_about 81 = .ok (.iload_n 1, 1) := by decide +kernel
theorem dX6_about_82 : decode cX6_about 82 = .ok (.iaload, 1) := by decide +kernel
theorem dX6_about_83 : decode cX6_about 83 = .ok (.ireturn, 1) := by decide +kernel
theorem dX6_about_84 : decode cX6_about 84 = .ok (.bipush (-2), 2) := by decide +kernel
theorem dX6_about_86 : decode cX6_about 86 = .ok (.ireturn, 1) := by decide +kernel
theorem c_X6_about {d : List Nat} {T : vT} {M : vM} {n : Nat} {p w : Int} (hB : vB T) (hW : sgW M 10 n) : vCon m_X6_about d d [vR 0, vI p, vI w] T M (vPi fun r T1 M1 => r = pAboutR n (M 11) (M 12) (M 13) (M 14) p w ∧ T = T1 ∧ M = M1) := by
  have hc : M 10 0 = n := hW.cnt
  have hn := hW.le
  unfold pAboutR
  refine vCon.of (by decide) rfl rfl (Nat.le_of_ble_eq_true rfl) ?_
  refine vV.aload_n dX6_about_0 rfl ?_
  refine vV.getr dX6_about_1 fl_X6_10 (by first | rfl | assumption) rfl (by first | assumption | exact hB _ _ _ rfl) ?_
  refine vV.iload_n dX6_about_4 rfl ?_
  refine vV.cVi dX6_about_5 ml_X6_74 cw_X3_has iw_X3_has (by first | rfl | assumption) rfl (by unfold vRoom; decide) (c_X3_has sgK_10) rfl rfl (Nat.le_of_ble_eq_true rfl) ?_
  rintro x5 _ _ hx5 ⟨hy5, rfl, rfl⟩
  rw [hc] at hy5
  refine vV.if_ne (tgt := 13) dX6_about_8 (by decide) (fun h8 => ?_) (fun h8 => ?_)
  · skip
    have g1 := yes01 hy5 h8
    rw [if_neg (fun c => c g1)]
    refine vV.iload_n dX6_about_13 rfl ?_
    have hs14 : (w < 0 ∨ 3 < w) ∨ w = 0 ∨ w = 1 ∨ w = 2 ∨ w = 3 := by omega
    rcases hs14 with h14 | h14 | h14 | h14 | h14
    · refine vV.tswD (tgt := 84) dX6_about_14 h14 (by decide) ?_
      refine vV.bipush (v := (-2)) dX6_about_84 (by decide) (by decide) ?_
      refine vV.ri dX6_about_86 rfl ?_
      exact ⟨by rw [if_neg (by omega), if_neg (by omega), if_neg (by omega), if_neg (by omega)], rfl, rfl⟩
    · refine vV.tsw (tgt := 44) dX6_about_14 (0) h14 (by decide) (by decide) rfl (by decide) ?_
      refine vV.aload_n dX6_about_44 rfl ?_
      refine vV.getr dX6_about_45 fl_X6_10 (by first | rfl | assumption) rfl (by first | assumption | exact hB _ _ _ rfl) ?_
      refine vV.getr dX6_about_48 fl_X6_94 (by first | rfl | assumption) rfl (by first | assumption | exact hB _ _ _ rfl) ?_
      refine vV.iload_n dX6_about_51 rfl ?_
      refine vV.iald dX6_about_52 (by first | rfl | assumption) (by omega) (by omega) ?_
      refine vV.ri dX6_about_53 rfl ?_
      exact ⟨by rw [if_pos h14], rfl, rfl⟩
    · refine vV.tsw (tgt := 54) dX6_about_14 (1) h14 (by decide) (by decide) rfl (by decide) ?_
      refine vV.aload_n dX6_about_54 rfl ?_
      refine vV.getr dX6_about_55 fl_X6_10 (by first | rfl | assumption) rfl (by first | assumption | exact hB _ _ _ rfl) ?_
      refine vV.getr dX6_about_58 fl_X6_78 (by first | rfl | assumption) rfl (by first | assumption | exact hB _ _ _ rfl) ?_
      refine vV.iload_n dX6_about_61 rfl ?_
      refine vV.iald dX6_about_62 (by first | rfl | assumption) (by omega) (by omega) ?_
      refine vV.ri dX6_about_63 rfl ?_
      exact ⟨by rw [if_neg (by omega), if_pos h14], rfl, rfl⟩
    · refine vV.tsw (tgt := 64) dX6_about_14 (2) h14 (by decide) (by decide) rfl (by decide) ?_
      refine vV.aload_n dX6_about_64 rfl ?_
      refine vV.getr dX6_about_65 fl_X6_10 (by first | rfl | assumption) rfl (by first | assumption | exact hB _ _ _ rfl) ?_
      refine vV.getr dX6_about_68 fl_X6_97 (by first | rfl | assumption) rfl (by first | assumption | exact hB _ _ _ rfl) ?_
      refine vV.iload_n dX6_about_71 rfl ?_
      refine vV.iald dX6_about_72 (by first | rfl | assumption) (by omega) (by omega) ?_
      refine vV.ri dX6_about_73 rfl ?_
      exact ⟨by rw [if_neg (by omega), if_neg (by omega), if_pos h14], rfl, rfl⟩
    · refine vV.tsw (tgt := 74) dX6_about_14 (3) h14 (by decide) (by decide) rfl (by decide) ?_
      refine vV.aload_n dX6_about_74 rfl ?_
      refine vV.getr dX6_about_75 fl_X6_10 (by first | rfl | assumption) rfl (by first | assumption | exact hB _ _ _ rfl) ?_
      refine vV.getr dX6_about_78 fl_X6_82 (by first | rfl | assumption) rfl (by first | assumption | exact hB _ _ _ rfl) ?_
      refine vV.iload_n dX6_about_81 rfl ?_
      refine vV.iald dX6_about_82 (by first | rfl | assumption) (by omega) (by omega) ?_
      refine vV.ri dX6_about_83 rfl ?_
      exact ⟨by rw [if_neg (by omega), if_neg (by omega), if_neg (by omega), if_pos h14], rfl, rfl⟩
  · skip
    rw [if_pos (no01 hy5 h8)]
    refine vV.iconst dX6_about_11 (by decide) ?_
    refine vV.ri dX6_about_12 rfl ?_
    exact ⟨rfl, rfl, rfl⟩
end
section
/-! ===== own: the class: a show ===== -/
abbrev pPos : Type := Int × (Int → Int)
def pT1 (P : pP) (th : Int) (s : pPos) : pPos := (pMan s.1 th, pDown P.1 P.2.2.2.1 (pWind P.1 P.2.1 P.2.2.1 s.2 s.1 P.2.2.2.2.1 th))
def pRn (P : pP) (q : Nat → Int) (s : pPos) : Nat → pPos
  | 0 => s
  | k + 1 => pT1 P (q k) (pRn P q s k)
def pCn (P : pP) (th : Int) (s : pPos) : Bool := pCan P.1 P.2.1 s.2 s.1 th
/-- the first thing that he can't do -/
def pDn (P : pP) (q : Nat → Int) (s : pPos) (a : Nat) : Option Nat := pFind (fun k => !pCn P (q k) (pRn P q s k)) a
def qL (l : List Int) (i : Nat) : Int := l[i]?.getD 0
theorem qL_has {f : Int → Int} {l : List Int} {i : Nat} (h : rHas f l) (hi : i < l.length) : f i = qL l i := by
  unfold qL
  rw [List.getElem?_eq_getElem hi]
  exact h i _ (List.getElem?_eq_getElem hi)
theorem pL_rg {sg : Int → Int} : ∀ i x, x ∈ pL sg i → 0 ≤ x ∧ x ≤ 3
  | 0, x, h => by simp [pL] at h
  | i + 1, x, h => by
    have ih := pL_rg (sg := sg) i
    by_cases ht : 0 ≤ pTh (sg i)
    · rw [pL_t ht] at h
      simp at h
      rcases h with h | h
      · exact ih x h
      · have := pTh_rg (sg i); omega
    · rw [pL_d (by omega)] at h
      simp at h
      rcases h with h | h
      · exact ih x h
      · rw [h.2]
        cases hq : (pL sg i).getLast? with
        | none => show (0 : Int) ≤ 0 ∧ (0 : Int) ≤ 3; decide
        | some y => exact ih y (List.mem_of_getLast? hq)
theorem qL_rg {sg : Int → Int} {m : Nat} (k : Nat) : 0 ≤ qL (pL sg m) k ∧ qL (pL sg m) k ≤ 3 := by
  unfold qL
  cases hq : (pL sg m)[k]? with
  | none => show (0 : Int) ≤ 0 ∧ (0 : Int) ≤ 3; decide
  | some y => exact pL_rg m y (List.mem_of_getElem? hq)
def cKeepT (M M1 : vM) : Prop := mSame [20, 21, 22, 23, 24, 25, 62] M M1 ∧ (sgZ M 20 → sgZ M1 20)
theorem cKeepT.rf (M : vM) : cKeepT M M := ⟨fun _ _ => rfl, id⟩
/-- the trial stands behind k things -/
def tS (M N : vM) (n : Nat) (l : List Int) (k : Nat) : Prop := mSame [20, 21, 22, 23, 24, 25, 62] M N ∧ sgW N 20 n ∧ N 21 = M 11 ∧ N 22 = M 12 ∧ N 23 = M 13 ∧ N 24 = (pRn (cP M n) (qL l) (M 15 0, M 14) k).2 ∧ N 25 = fSet (M 15) 0 (pRn (cP M n) (qL l) (M 15 0, M 14) k).1 ∧ rHas (N 62) l
theorem tS.keep {M N : vM} {n k : Nat} {l : List Int} (h : tS M N n l k) : cKeepT M N := ⟨h.1, fun _ => h.2.1.z⟩
theorem tS.can {M N : vM} {n k : Nat} {l : List Int} (h : tS M N n l k) (th : Int) : pCan n (N (20 + 1)) (N (20 + 4)) (N (20 + 5) 0) th = pCn (cP M n) th (pRn (cP M n) (qL l) (M 15 0, M 14) k) := by
  obtain ⟨-, -, h1, h2, h3, h4, h5, -⟩ := h
  rw [show N (20 + 1) = M 11 from h1, show N (20 + 4) = _ from h4, show N (20 + 5) = _ from h5, fSet_s]; rfl
theorem tS_0 {M : vM} {n : Nat} {l : List Int} {f : Int → Int} (hW : sgW M 10 n) (h : rHas f l) : tS M (vRow (sgCp M 20 10) 62 f) n l 0 := by
  have hc := sgW_cp (M := M) (a := 20) (b := 10) (by omega) hW
  refine ⟨fun k hk => ?_, sgW_rows ?_ ?_ ?_ ?_ ?_ ?_ hc, rfl, rfl, rfl, rfl, ?_, h⟩
  · simp at hk
    rw [vRow_n hk.2.2.2.2.2.2]; unfold sgCp
    rw [vRow_n hk.2.2.2.2.2.1, vRow_n hk.2.2.2.2.1, vRow_n hk.2.2.2.1, vRow_n hk.2.2.1, vRow_n hk.2.1, vRow_n hk.1]
  · exact vRow_n (by decide)
  · exact vRow_n (by decide)
  · exact vRow_n (by decide)
  · exact vRow_n (by decide)
  · exact vRow_n (by decide)
  · exact vRow_n (by decide)
  · show M 15 = fSet (M 15) 0 (M 15 0); rw [fSet_id]
theorem tS_s {M N : vM} {n k : Nat} {l : List Int} (h : tS M N n l k) (hc : pCn (cP M n) (qL l k) (pRn (cP M n) (qL l) (M 15 0, M 14) k) = true) : tS M (sgAct N 20 n (qL l k)) n l (k + 1) := by
  have hc2 := (h.can (qL l k)).trans hc
  obtain ⟨h0, hW, h1, h2, h3, h4, h5, h6⟩ := h
  have hA := sgW_act hW hc2
  refine ⟨fun j hj => ?_, hA, ?_, ?_, ?_, ?_, ?_, ?_⟩
  · rw [← h0 j hj]; simp at hj; unfold sgAct; rw [vRow_n hj.2.2.2.2.1, vRow_n hj.2.2.2.2.2.1]
  · rw [← h1]; rfl
  · rw [← h2]; rfl
  · rw [← h3]; rfl
  · show pDown n (N 23) (pWind n (N 21) (N 22) (N 24) (N 25 0) (N 25 1) (qL l k)) = _
    rw [h1, h2, h3, h4, h5, fSet_s, fSet_n (by decide)]; rfl
  · show fSet (N 25) 0 (pMan (N 25 0) (qL l k)) = _
    rw [h5, fSet_s]
    funext j; unfold fSet; split <;> rfl
  · show rHas (N 62) l; exact h6
/-- what a show comes to -/
def pShow (P : pP) (sg : Int → Int) (m : Nat) (s : pPos) : Option (Nat × pPos) :=
  if (pFind (pBad sg) m).isSome then none else if (pDn P (qL (pL sg m)) s (pL sg m).length).isSome then none else some ((pL sg m).length, pRn P (qL (pL sg m)) s (pL sg m).length)
def sShq (r : Int) (M M1 : vM) (n : Nat) : Option (Nat × pPos) → Prop
  | none => r = -5 ∧ cKeepT M M1
  | some (a, s) => r = (a : Int) ∧ mSame [10, 11, 12, 13, 14, 15, 20, 21, 22, 23, 24, 25, 60, 62] M M1 ∧ sgZ M1 20 ∧ sgW M1 10 n ∧ M1 11 = M 11 ∧ M1 12 = M 12 ∧ M1 13 = M 13 ∧ M1 14 = s.2 ∧ M1 15 = fSet (M 15) 0 s.1 ∧ M1 60 0 = 0
theorem pNo_of {sg : Int → Int} {m : Nat} (h : pFind (pBad sg) m = none) : pNo sg m := fun j hj => pFind_some.pFind_none h j hj
theorem bI_ne {b : Bool} (h : bI b ≠ 0) : b = true := by cases b <;> simp [bI] at h ⊢
theorem bI_eq {b : Bool} (h : bI b = 0) : b = false := by cases b <;> simp [bI] at h ⊢
theorem dX6_show_0 : decode cX6_show 0 = .ok (.aload_n 0, 1) := by decide +kernel
theorem dX6_show_1 : decode cX6_show 1 = .ok (.getfield 26, 3) := by decide +kernel
theorem dX6_show_4 : decode cX6_show 4 = .ok (.invokevirtual 116, 3) := by decide +kernel
theorem dX6_show_7 : decode cX6_show 7 = .ok (.ifCond .lt 6, 3) := by decide +kernel
theorem dX6_show_10 : decode cX6_show 10 = .ok (.bipush (-5), 2) := by decide +kernel
theorem dX6_show_12 : decode cX6_show 12 = .ok (.ireturn, 1) := by decide +kernel
theorem dX6_show_13 : decode cX6_show 13 = .ok (.aload_n 0, 1) := by decide +kernel
theorem dX6_show_14 : decode cX6_show 14 = .ok (.getfield 16, 3) := by decide +kernel
theorem dX6_show_17 : decode cX6_show 17 = .ok (.aload_n 0, 1) := by decide +kernel
theorem dX6_show_18 : decode cX6_show 18 = .ok (.getfield 10, 3) := by decide +kernel
theorem dX6_show_21 : decode cX6_show 21 = .ok (.invokevirtual 119, 3) := by decide +kernel
theorem dX6_show_24 : decode cX6_show 24 = .ok (.aload_n 0, 1) := by decide +kernel
theorem dX6_show_25 : decode cX6_show 25 = .ok (.getfield 26, 3) := by decide +kernel
theorem dX6_show_28 : decode cX6_show 28 = .ok (.invokevirtual 123, 3) := by decide +kernel
theorem dX6_show_31 : decode cX6_show 31 = .ok (.istore_n 1, 1) := by decide +kernel
theorem dX6_show_32 : decode cX6_show 32 = .ok (.iconst 0, 1) := by decide +kernel
theorem dX6_show_33 : decode cX6_show 33 = .ok (.istore_n 2, 1) := by decide +kernel
theorem dX6_show_34 : decode cX6_show 34 = .ok (.iload_n 2, 1) := by decide +kernel
theorem dX6_show_35 : decode cX6_show 35 = .ok (.iload_n 1, 1) := by decide +kernel
theorem dX6_show_36 : decode cX6_show 36 = .ok (.if_icmp .ge 47, 3) := by decide +kernel
theorem dX6_show_39 : decode cX6_show 39 = .ok (.aload_n 0, 1) := by decide +kernel
theorem dX6_show_40 : decode cX6_show 40 = .ok (.getfield 16, 3) := by decide +kernel
theorem dX6_show_43 : decode cX6_show 43 = .ok (.aload_n 0, 1) := by decide +kernel
theorem dX6_show_44 : decode cX6_show 44 = .ok (.getfield 26, 3) := by decide +kernel
theorem dX6_show_47 : decode cX6_show 47 = .ok (.getfield 126, 3) := by decide +kernel
theorem dX6_show_50 : decode cX6_show 50 = .ok (.iload_n 2, 1) := by decide +kernel
theorem dX6_show_51 : decode cX6_show 51 = .ok (.iaload, 1) := by decide +kernel
theorem dX6_show_52 : decode cX6_show 52 = .ok (.invokevirtual 100, 3) := by decide +kernel
theorem dX6_show_55 : decode cX6_show 55 = .ok (.ifCond .ne 6, 3) := by decide +kernel
theorem dX6_show_58 : decode cX6_show 58 = .ok (.bipush (-5), 2) := by decide +kernel
theorem dX6_show_60 : decode cX6_show 60 = .ok (.ireturn, 1) := by decide +kernel
theorem dX6_show_61 : decode cX6_show 61 = .ok (.aload_n 0, 1) := by decide +kernel
theorem dX6_show_62 : decode cX6_show 62 = .ok (.getfield 16, 3) := by decide +kernel
theorem dX6_show_65 : decode cX6_show 65 = .ok (.aload_n 0, 1) := by decide +kernel
theorem dX6_show_66 : decode cX6_show 66 = .ok (.getfield 26, 3) := by decide +kernel
theorem dX6_show_69 : decode cX6_show 69 = .ok (.getfield 126, 3) := by decide +kernel
theorem dX6_show_72 : decode cX6_show 72 = .ok (.iload_n 2, 1) := by decide +kernel
theorem dX6_show_73 : decode cX6_show 73 = .ok (.iaload, 1) := by decide +kernel
theorem dX6_show_74 : decode cX6_show 74 = .ok (.invokevirtual 103, 3) := by decide +kernel
theorem dX6_show_77 : decode cX6_show 77 = .ok (.iinc 2 1, 3) := by decide +kernel
theorem dX6_show_80 : decode cX6_show 80 = .ok (.goto (-46), 3) := by decide +kernel
theorem dX6_show_83 : decode cX6_show 83 = .ok (.aload_n 0, 1) := by decide +kernel
theorem dX6_show_84 : decode cX6_show 84 = .ok (.getfield 10, 3) := by decide +kernel
theorem dX6_show_87 : decode cX6_show 87 = .ok (.aload_n 0, 1) := by decide +kernel
theorem dX6_show_88 : decode cX6_show 88 = .ok (.getfield 16, 3) := by decide +kernel
theorem dX6_show_91 : decode cX6_show 91 = .ok (.invokevirtual 119, 3) := by decide +kernel
theorem dX6_show_94 : decode cX6_show 94 = .ok (.aload_n 0, 1) := by decide +kernel
theorem dX6_show_95 : decode cX6_show 95 = .ok (.getfield 26, 3) := by decide +kernel
theorem dX6_show_98 : decode cX6_show 98 = .ok (.iconst 0, 1) := by decide +kernel
theorem dX6_show_99 : decode cX6_show 99 = .ok (.putfield 113, 3) := by decide +kernel
theorem dX6_show_102 : decode cX6_show 102 = .ok (.iload_n 1, 1) := by decide +kernel
theorem dX6_show_103 : decode cX6_show 103 = .ok (.ireturn, 1) := by decide +kernel
theorem l_X6_show {d : List Nat} {T : vT} {M : vM} {n a : Nat} {l : List Int} {o : Option (Nat × pPos)} (hB : vB T) (hz10 : sgZ M 10) (ha : l.length = a) (ha2 : a ≤ 180) (hrg : ∀ k, 0 ≤ qL l k ∧ qL l k ≤ 3)
    (ho1 : (pDn (cP M n) (qL l) (M 15 0, M 14) a).isSome = true → o = none) (ho2 : pDn (cP M n) (qL l) (M 15 0, M 14) a = none → o = some (a, pRn (cP M n) (qL l) (M 15 0, M 14) a)) : ∀ k, k ≤ a → ∀ N, tS M N n l k → (∀ i, i < k → (!pCn (cP M n) (qL l i) (pRn (cP M n) (qL l) (M 15 0, M 14) i)) = false) →
    vV m_X6_show d d (vPi fun r T1 M1 => T = T1 ∧ ∃ o', o' = o ∧ sShq r M M1 n o') 34 [some (vR 0), some (vI a), some (vI k)] [] d T N := by
  refine vUp ?_
  intro k hk ih N htS hf
  have hq := hrg k
  have hca := htS.can (qL l k)
  have hz10N : sgZ N 10 := by
    have h0 := htS.1
    unfold sgZ
    rw [h0 _ (by decide), h0 _ (by decide), h0 _ (by decide), h0 _ (by decide), h0 _ (by decide)]
    exact hz10
  refine vV.iload_n dX6_show_34 rfl ?_
  refine vV.iload_n dX6_show_35 rfl ?_
  refine vV.icmp_ge (tgt := 83) dX6_show_36 (by decide) (fun h36 => ?_) (fun h36 => ?_)
  · skip
    have hka : k = a := by omega
    subst hka
    have hy := ho2 (pFind_no hf)
    clear ih ho1 ho2
    have hz10 := hz10N
    have hW := htS.2.1
    have hc := sgW_cp (M := N) (a := 10) (b := 20) (by omega) hW
    refine vV.aload_n dX6_show_83 rfl ?_
    refine vV.getr dX6_show_84 fl_X6_10 (by first | rfl | assumption) rfl (by first | assumption | exact hB _ _ _ rfl) ?_
    refine vV.aload_n dX6_show_87 rfl ?_
    refine vV.getr dX6_show_88 fl_X6_16 (by first | rfl | assumption) rfl (by first | assumption | exact hB _ _ _ rfl) ?_
    refine vV.cVv dX6_show_91 ml_X6_119 cw_X3_copyFrom iw_X3_copyFrom (by first | rfl | assumption) rfl (by unfold vRoom; decide) (c_X3_copyFrom sgK_10 (sgT_10 hB) sgK_20 (sgT_20 hB) (by omega) hz10 hW.z) rfl rfl (Nat.le_of_ble_eq_true rfl) ?_
    rintro _ _ ⟨rfl, rfl⟩
    refine vV.aload_n dX6_show_94 rfl ?_
    refine vV.getr dX6_show_95 fl_X6_26 (by first | rfl | assumption) rfl (by first | assumption | exact hB _ _ _ rfl) ?_
    refine vV.iconst dX6_show_98 (by decide) ?_
    refine vV.puti (z := 0) dX6_show_99 fl_X6_113 (by first | rfl | assumption) rfl rfl ?_
    refine vV.iload_n dX6_show_102 rfl ?_
    refine vV.ri dX6_show_103 rfl ?_
    obtain ⟨h0, -, h1, h2, h3, h4, h5, h6⟩ := htS
    have hsm : mSame [60] (sgCp N 10 20) (vUpd (sgCp N 10 20) 60 0 0) := fun k hk => by simp at hk; funext j; rw [vUpd_nk hk]
    refine ⟨rfl, _, hy.symm, rfl, fun k hk => ?_, ?_, sgW_rows (hsm _ (by decide)) (hsm _ (by decide)) (hsm _ (by decide)) (hsm _ (by decide)) (hsm _ (by decide)) (hsm _ (by decide)) hc, ?_, ?_, ?_, ?_, ?_, ?_⟩
    · rw [hsm k (by simp at hk ⊢; omega), ← h0 k (by simp at hk ⊢; omega)]
      simp at hk
      unfold sgCp
      rw [vRow_n hk.2.2.2.2.2.1, vRow_n hk.2.2.2.2.1, vRow_n hk.2.2.2.1, vRow_n hk.2.2.1, vRow_n hk.2.1, vRow_n hk.1]
    · have hz := hW.z
      have e1 : vUpd (sgCp N 10 20) 60 0 0 21 = N 21 := by rw [hsm _ (by decide)]; rfl
      have e2 : vUpd (sgCp N 10 20) 60 0 0 22 = N 22 := by rw [hsm _ (by decide)]; rfl
      have e3 : vUpd (sgCp N 10 20) 60 0 0 23 = N 23 := by rw [hsm _ (by decide)]; rfl
      have e4 : vUpd (sgCp N 10 20) 60 0 0 24 = N 24 := by rw [hsm _ (by decide)]; rfl
      have e5 : vUpd (sgCp N 10 20) 60 0 0 25 = N 25 := by rw [hsm _ (by decide)]; rfl
      unfold sgZ
      rw [show (20 : Nat) + 1 = 21 from rfl, show (20 : Nat) + 2 = 22 from rfl, show (20 : Nat) + 3 = 23 from rfl, show (20 : Nat) + 4 = 24 from rfl, show (20 : Nat) + 5 = 25 from rfl, e1, e2, e3, e4, e5]
      exact hz
    · rw [hsm _ (by decide), ← h1]; rfl
    · rw [hsm _ (by decide), ← h2]; rfl
    · rw [hsm _ (by decide), ← h3]; rfl
    · rw [hsm _ (by decide), ← h4]; rfl
    · rw [hsm _ (by decide), ← h5]; rfl
    · rw [vUpd_s]
  · skip
    refine vV.aload_n dX6_show_39 rfl ?_
    refine vV.getr dX6_show_40 fl_X6_16 (by first | rfl | assumption) rfl (by first | assumption | exact hB _ _ _ rfl) ?_
    refine vV.aload_n dX6_show_43 rfl ?_
    refine vV.getr dX6_show_44 fl_X6_26 (by first | rfl | assumption) rfl (by first | assumption | exact hB _ _ _ rfl) ?_
    refine vV.getr dX6_show_47 fl_X6_126 (by first | rfl | assumption) rfl (by first | assumption | exact hB _ _ _ rfl) ?_
    refine vV.iload_n dX6_show_50 rfl ?_
    refine vV.iald dX6_show_51 (by first | rfl | assumption) (by omega) (by omega) ?_
    rw [qL_has htS.2.2.2.2.2.2.2 (show k < l.length by omega)]
    refine vV.cVi dX6_show_52 ml_X6_100 cw_X3_can iw_X3_can (by first | rfl | assumption) rfl (by unfold vRoom; decide) (c_X3_can sgK_20 (sgT_20 hB) htS.2.1 hq.1 hq.2) rfl rfl (Nat.le_of_ble_eq_true rfl) ?_
    rintro x52 _ _ hx52 ⟨hy52, rfl, rfl⟩
    rw [hca] at hy52
    subst hy52
    refine vV.if_ne (tgt := 61) dX6_show_55 (by decide) (fun h55 => ?_) (fun h55 => ?_)
    · skip
      have hye := bI_ne h55
      refine vV.aload_n dX6_show_61 rfl ?_
      refine vV.getr dX6_show_62 fl_X6_16 (by first | rfl | assumption) rfl (by first | assumption | exact hB _ _ _ rfl) ?_
      refine vV.aload_n dX6_show_65 rfl ?_
      refine vV.getr dX6_show_66 fl_X6_26 (by first | rfl | assumption) rfl (by first | assumption | exact hB _ _ _ rfl) ?_
      refine vV.getr dX6_show_69 fl_X6_126 (by first | rfl | assumption) rfl (by first | assumption | exact hB _ _ _ rfl) ?_
      refine vV.iload_n dX6_show_72 rfl ?_
      refine vV.iald dX6_show_73 (by first | rfl | assumption) (by omega) (by omega) ?_
      rw [qL_has htS.2.2.2.2.2.2.2 (show k < l.length by omega)]
      refine vV.cVv dX6_show_74 ml_X6_103 cw_X3_act iw_X3_act (by first | rfl | assumption) rfl (by unfold vRoom; decide) (c_X3_act sgK_20 (sgT_20 hB) htS.2.1) rfl rfl (Nat.le_of_ble_eq_true rfl) ?_
      rintro _ _ ⟨rfl, rfl⟩
      refine vV.iinc (L' := [_, _, _]) dX6_show_77 (by decide) rfl (⟨by omega, by omega⟩) rfl ?_
      refine vV.goto (tgt := 34) dX6_show_80 (by decide) ?_
      exact ih (by omega) _ (tS_s htS hye) (fun i hi => (Nat.lt_succ_iff_lt_or_eq.mp hi).elim (hf i) (fun e => by subst e; rw [hye]; rfl))
    · skip
      have hno := bI_eq h55
      have hd : pDn (cP M n) (qL l) (M 15 0, M 14) a = some k := pFind_yes (by omega) (by rw [hno]; rfl) hf
      have hon := ho1 (by rw [hd]; rfl)
      refine vV.bipush (v := (-5)) dX6_show_58 (by decide) (by decide) ?_
      refine vV.ri dX6_show_60 rfl ?_
      exact ⟨rfl, none, hon.symm, rfl, htS.keep⟩
end
section
/-! ===== own: the class: show, judge ===== -/
theorem pOr_none' {o : Option Nat} (h : pOr (-1) o < 0) : o.isSome = false := by rw [pOr_none h]; rfl
theorem c_X6_show {d : List Nat} {T : vT} {M : vM} {n m : Nat} (hB : vB T) (hW : sgW M 10 n) (hz : sgZ M 20) (hm : M 60 0 = m) (hle : m ≤ 40) : vCon m_X6_show d d [vR 0] T M (vPi fun r T1 M1 => T = T1 ∧ ∃ o, o = pShow (cP M n) (M 61) m (M 15 0, M 14) ∧ sShq r M M1 n o) := by
  obtain ⟨o, ho⟩ : ∃ o, o = pShow (cP M n) (M 61) m (M 15 0, M 14) := ⟨_, rfl⟩
  rw [← ho]
  unfold pShow at ho
  refine vCon.of (by decide) rfl rfl (Nat.le_of_ble_eq_true rfl) ?_
  refine vV.aload_n dX6_show_0 rfl ?_
  refine vV.getr dX6_show_1 fl_X6_26 (by first | rfl | assumption) rfl (by first | assumption | exact hB _ _ _ rfl) ?_
  refine vV.cVi dX6_show_4 ml_X6_116 cw_X1_firstFault iw_X1_firstFault (by first | rfl | assumption) rfl (by unfold vRoom; decide) (c_X1_firstFault hB hm hle) rfl rfl (Nat.le_of_ble_eq_true rfl) ?_
  rintro x4 _ _ hx4 ⟨hy4, rfl, rfl⟩
  subst hy4
  refine vV.if_lt (tgt := 13) dX6_show_7 (by decide) (fun h7 => ?_) (fun h7 => ?_)
  · skip
    have hno := pNo_of (pOr_none h7)
    rw [pOr_none' h7, if_neg (by simp)] at ho
    have hlen := pL_len hno m (Nat.le_refl m)
    refine vV.aload_n dX6_show_13 rfl ?_
    refine vV.getr dX6_show_14 fl_X6_16 (by first | rfl | assumption) rfl (by first | assumption | exact hB _ _ _ rfl) ?_
    refine vV.aload_n dX6_show_17 rfl ?_
    refine vV.getr dX6_show_18 fl_X6_10 (by first | rfl | assumption) rfl (by first | assumption | exact hB _ _ _ rfl) ?_
    refine vV.cVv dX6_show_21 ml_X6_119 cw_X3_copyFrom iw_X3_copyFrom (by first | rfl | assumption) rfl (by unfold vRoom; decide) (c_X3_copyFrom sgK_20 (sgT_20 hB) sgK_10 (sgT_10 hB) (by omega) hz hW.z) rfl rfl (Nat.le_of_ble_eq_true rfl) ?_
    rintro _ _ ⟨rfl, rfl⟩
    refine vV.aload_n dX6_show_24 rfl ?_
    refine vV.getr dX6_show_25 fl_X6_26 (by first | rfl | assumption) rfl (by first | assumption | exact hB _ _ _ rfl) ?_
    refine vV.cVi dX6_show_28 ml_X6_123 cw_X1_read iw_X1_read (by first | rfl | assumption) rfl (by unfold vRoom; decide) (c_X1_read (M := sgCp M 20 10) (m := m) hB hm hle hno) rfl rfl (Nat.le_of_ble_eq_true rfl) ?_
    rintro x28 _ _ hx28 ⟨hy28, rfl, f, rfl, hf⟩
    rw [show sgCp M 20 10 61 = M 61 from rfl] at hy28 hf
    subst hy28
    refine vV.istore_n (L' := [_, _, _]) dX6_show_31 (by decide) rfl ?_
    refine vV.iconst dX6_show_32 (by decide) ?_
    refine vV.istore_n (L' := [_, _, _]) dX6_show_33 (by decide) rfl ?_
    exact l_X6_show hB hW.z rfl (by omega) (fun k => qL_rg k) (fun z => by rw [if_pos z] at ho; exact ho) (fun z => by rw [z, if_neg (by simp)] at ho; exact ho) 0 (by omega) _ (tS_0 hW hf) (fun i hi => by omega)
  · skip
    rw [if_pos (pOr_some h7)] at ho
    refine vV.bipush (v := (-5)) dX6_show_10 (by decide) (by decide) ?_
    refine vV.ri dX6_show_12 rfl ?_
    exact ⟨rfl, none, ho.symm, rfl, cKeepT.rf M⟩
theorem pFind_s1 {P : Nat → Bool} {n p : Nat} (h : pFind P n = some p) : pFind P (n + 1) = some p := by rw [pFind, h]
theorem pFind_s2 {P : Nat → Bool} {n : Nat} (h : pFind P n = none) : pFind P (n + 1) = if P n then some n else none := by rw [pFind, h]
/-- one falls with thing k -/
def pFf (P : pP) (q : Nat → Int) (s : pPos) (k : Nat) : Bool := decide (pBits (pRn P q s (k + 1)).2 P.1 ≠ pBits (pRn P q s k).2 P.1)
def pJw (w : Int) (P : pP) (s : pPos) (a e : Nat) (ff : Int) : Int := if w = 0 then a else if w = 1 then (if e < a then (e : Int) else -6) else if w = 2 then ff else if w = 3 then pBits s.2 P.1 else if w = 4 then s.1 else pSum s.2 P.1
def pJ (w : Int) (P : pP) (q : Nat → Int) (s : pPos) (a : Nat) : Int := pJw w P (pRn P q s ((pDn P q s a).getD a)) a ((pDn P q s a).getD a) (pOr (-6) (pFind (pFf P q s) ((pDn P q s a).getD a)))
theorem dX6_judge_0 : decode cX6_judge 0 = .ok (.iload_n 1, 1) := by decide +kernel
theorem dX6_judge_1 : decode cX6_judge 1 = .ok (.iconst 0, 1) := by decide +kernel
theorem dX6_judge_2 : decode cX6_judge 2 = .ok (.iconst 5, 1) := by decide +kernel
theorem dX6_judge_3 : decode cX6_judge 3 = .ok (.invokestatic 58, 3) := by decide +kernel
theorem dX6_judge_6 : decode cX6_judge 6 = .ok (.ifCond .ne 6, 3) := by decide +kernel
theorem dX6_judge_9 : decode cX6_judge 9 = .ok (.bipush (-2), 2) := by decide +kernel
theorem dX6_judge_11 : decode cX6_judge 11 = .ok (.ireturn, 1) := by decide +kernel
theorem dX6_judge_12 : decode cX6_judge 12 = .ok (.aload_n 0, 1) := by decide +kernel
theorem dX6_judge_13 : decode cX6_judge 13 = .ok (.getfield 26, 3) := by decide +kernel
theorem dX6_judge_16 : decode cX6_judge 16 = .ok (.invokevirtual 116, 3) := by decide +kernel
theorem dX6_judge_19 : decode cX6_judge 19 = .ok (.ifCond .lt 6, 3) := by decide +kernel
theorem dX6_judge_22 : decode cX6_judge 22 = .ok (.bipush (-5), 2) := by decide +kernel
theorem dX6_judge_24 : decode cX6_judge 24 = .ok (.ireturn, 1) := by decide +kernel
theorem dX6_judge_25 : decode cX6_judge 25 = .ok (.aload_n 0, 1) := by decide +kernel
theorem dX6_judge_26 : decode cX6_judge 26 = .ok (.getfield 16, 3) := by decide +kernel
theorem dX6_judge_29 : decode cX6_judge 29 = .ok (.aload_n 0, 1) := by decide +kernel
theorem dX6_judge_30 : decode cX6_judge 30 = .ok (.getfield 10, 3) := by decide +kernel
theorem dX6_judge_33 : decode cX6_judge 33 = .ok (.invokevirtual 119, 3) := by decide +kernel
theorem dX6_judge_36 : decode cX6_judge 36 = .ok (.aload_n 0, 1) := by decide +kernel
theorem dX6_judge_37 : decode cX6_judge 37 = .ok (.getfield 26, 3) := by decide +kernel
theorem dX6_judge_40 : decode cX6_judge 40 = .ok (.invokevirtual 123, 3) := by decide +kernel
theorem dX6_judge_43 : decode cX6_judge 43 = .ok (.istore_n 2, 1) := by decide +kernel
theorem dX6_judge_44 : decode cX6_judge 44 = .ok (.bipush (-6), 2) := by decide +kernel
theorem dX6_judge_46 : decode cX6_judge 46 = .ok (.istore_n 3, 1) := by decide +kernel
theorem dX6_judge_47 : decode cX6_judge 47 = .ok (.iconst 0, 1) := by decide +kernel
theorem dX6_judge_48 : decode cX6_judge 48 = .ok (.istore 4, 2) := by decide +kernel
theorem dX6_judge_50 : decode cX6_judge 50 = .ok (.iload 4, 2) := by decide +kernel
theorem dX6_judge_52 : decode cX6_judge 52 = .ok (.iload_n 2, 1) := by decide +kernel
theorem dX6_judge_53 : decode cX6_judge 53 = .ok (.if_icmp .ge 76, 3) := by decide +kernel
theorem dX6_judge_56 : decode cX6_judge 56 = .ok (.aload_n 0, 1) := by decide +kernel
theorem dX6_judge_57 : decode cX6_judge 57 = .ok (.getfield 16, 3) := by decide +kernel
theorem dX6_judge_60 : decode cX6_judge 60 = .ok (.aload_n 0, 1) := by decide +kernel
theorem dX6_judge_61 : decode cX6_judge 61 = .ok (.getfield 26, 3) := by decide +kernel
theorem dX6_judge_64 : decode cX6_judge 64 = .ok (.getfield 126, 3) := by decide +kernel
theorem dX6_judge_67 : decode cX6_judge 67 = .ok (.iload 4, 2) := by decide +kernel
theorem dX6_judge_69 : decode cX6_judge 69 = .ok (.iaload, 1) := by decide +kernel
theorem dX6_judge_70 : decode cX6_judge 70 = .ok (.invokevirtual 100, 3) := by decide +kernel
theorem dX6_judge_73 : decode cX6_judge 73 = .ok (.ifCond .eq 56, 3) := by decide +kernel
theorem dX6_judge_76 : decode cX6_judge 76 = .ok (.aload_n 0, 1) := by decide +kernel
theorem dX6_judge_77 : decode cX6_judge 77 = .ok (.getfield 16, 3) := by decide +kernel
theorem dX6_judge_80 : decode cX6_judge 80 = .ok (.invokevirtual 107, 3) := by decide +kernel
theorem dX6_judge_83 : decode cX6_judge 83 = .ok (.istore 5, 2) := by decide +kernel
theorem dX6_judge_85 : decode cX6_judge 85 = .ok (.aload_n 0, 1) := by decide +kernel
theorem dX6_judge_86 : decode cX6_judge 86 = .ok (.getfield 16, 3) := by decide +kernel
theorem dX6_judge_89 : decode cX6_judge 89 = .ok (.aload_n 0, 1) := by decide +kernel
theorem dX6_judge_90 : decode cX6_judge 90 = .ok (.getfield 26, 3) := by decide +kernel
theorem dX6_judge_93 : decode cX6_judge 93 = .ok (.getfield 126, 3) := by decide +kernel
theorem dX6_judge_96 : decode cX6_judge 96 = .ok (.iload 4, 2) := by decide +kernel
theorem dX6_judge_98 : decode cX6_judge 98 = .ok (.iaload, 1) := by decide +kernel
theorem dX6_judge_99 : decode cX6_judge 99 = .ok (.invokevirtual 103, 3) := by decide +kernel
theorem dX6_judge_102 : decode cX6_judge 102 = .ok (.iload_n 3, 1) := by decide +kernel
theorem dX6_judge_103 : decode cX6_judge 103 = .ok (.bipush (-6), 2) := by decide +kernel
theorem dX6_judge_105 : decode cX6_judge 105 = .ok (.if_icmp .ne 18, 3) := by decide +kernel
theorem dX6_judge_108 : decode cX6_judge 108 = .ok (.aload_n 0, 1) := by decide +kernel
theorem dX6_judge_109 : decode cX6_judge 109 = .ok (.getfield 16, 3) := by decide +kernel
theorem dX6_judge_112 : decode cX6_judge 112 = .ok (.invokevirtual 107, 3) := by decide +kernel
theorem dX6_judge_115 : decode cX6_judge 115 = .ok (.iload 5, 2) := by decide +kernel
theorem dX6_judge_117 : decode cX6_judge 117 = .ok (.if_icmp .eq 6, 3) := by decide +kernel
theorem dX6_judge_120 : decode cX6_judge 120 = .ok (.iload 4, 2) := by decide +kernel
theorem dX6_judge_122 : decode cX6_judge 122 = .ok (.istore_n 3, 1) := by decide +kernel
theorem dX6_judge_123 : decode cX6_judge 123 = .ok (.iinc 4 1, 3) := by decide +kernel
theorem dX6_judge_126 : decode cX6_judge 126 = .ok (.goto (-76), 3) := by decide +kernel
theorem dX6_judge_129 : decode cX6_judge 129 = .ok (.iload_n 1, 1) := by decide +kernel
theorem dX6_judge_130 : decode cX6_judge 130 = .ok (.tableswitch 70 0 4 #[34, 36, 50, 52, 60], 34) := by decide +kernel
theorem dX6_judge_164 : decode cX6_judge 164 = .ok (.iload_n 2, 1) := by decide +kernel
theorem dX6_judge_165 : decode cX6_judge 165 = .ok (.ireturn, 1) := by decide +kernel
theorem dX6_judge_166 : decode cX6_judge 166 = .ok (.iload 4, 2) := by decide +kernel
theorem dX6_judge_168 : decode cX6_judge 168 = .ok (.iload_n 2, 1) := by decide +kernel
theorem dX6_judge_169 : decode cX6_judge 169 = .ok (.if_icmp .ge 8, 3) := by decide +kernel
theorem dX6_judge_172 : decode cX6_judge 172 = .ok (.iload 4, 2) := by decide +kernel
theorem dX6_judge_174 : decode cX6_judge 174 = .ok (.goto 5, 3) := by decide +kernel
theorem dX6_judge_177 : decode cX6_judge 177 = .ok (.bipush (-6), 2) := by decide +kernel
theorem dX6_judge_179 : decode cX6_judge 179 = .ok (.ireturn, 1) := by decide +kernel
theorem dX6_judge_180 : decode cX6_judge 180 = .ok (.iload_n 3, 1) := by decide +kernel
theorem dX6_judge_181 : decode cX6_judge 181 = .ok (.ireturn, 1) := by decide +kernel
theorem dX6_judge_182 : decode cX6_judge 182 = .ok (.aload_n 0, 1) := by decide +kernel
theorem dX6_judge_183 : decode cX6_judge 183 = .ok (.getfield 16, 3) := by decide +kernel
theorem dX6_judge_186 : decode cX6_judge 186 = .ok (.invokevirtual 107, 3) := by decide +kernel
theorem dX6_judge_189 : decode cX6_judge 189 = .ok (.ireturn, 1) := by decide +kernel
theorem dX6_judge_190 : decode cX6_judge 190 = .ok (.aload_n 0, 1) := by decide +kernel
theorem dX6_judge_191 : decode cX6_judge 191 = .ok (.getfield 16, 3) := by decide +kernel
theorem dX6_judge_194 : decode cX6_judge 194 = .ok (.getfield 91, 3) := by decide +kernel
theorem dX6_judge_197 : decode cX6_judge 197 = .ok (.iconst 0, 1) := by decide +kernel
theorem dX6_judge_198 : decode cX6_judge 198 = .ok (.iaload, 1) := by decide +kernel
theorem dX6_judge_199 : decode cX6_judge 199 = .ok (.ireturn, 1) := by decide +kernel
theorem dX6_judge_200 : decode cX6_judge 200 = .ok (.aload_n 0, 1) := by decide +kernel
theorem dX6_judge_201 : decode cX6_judge 201 = .ok (.getfield 16, 3) := by decide +kernel
theorem dX6_judge_204 : decode cX6_judge 204 = .ok (.invokevirtual 129, 3) := by decide +kernel
theorem dX6_judge_207 : decode cX6_judge 207 = .ok (.ireturn, 1) := by decide +kernel
theorem l_X6_jd129 {d : List Nat} {T : vT} {M N : vM} {n a e : Nat} {l : List Int} {w ff : Int} (hB : vB T) (hw : 0 ≤ w ∧ w ≤ 5) (htS : tS M N n l e) (x5 : Option vA) : vV m_X6_judge d d (vPi fun r T1 M1 => T = T1 ∧ cKeepT M M1 ∧ r = pJw w (cP M n) (pRn (cP M n) (qL l) (M 15 0, M 14) e) a e ff) 129 [some (vR 0), some (vI w), some (vI a), some (vI ff), some (vI e), x5] [] d T N := by
  have hk := htS.keep
  have hW := htS.2.1
  have h4 := htS.2.2.2.2.2.1
  have h5 := htS.2.2.2.2.2.2.1
  unfold pJw
  refine vV.iload_n dX6_judge_129 rfl ?_
  have hs130 : (w < 0 ∨ 4 < w) ∨ w = 0 ∨ w = 1 ∨ w = 2 ∨ w = 3 ∨ w = 4 := by omega
  rcases hs130 with h130 | h130 | h130 | h130 | h130 | h130
  · refine vV.tswD (tgt := 200) dX6_judge_130 h130 (by decide) ?_
    refine vV.aload_n dX6_judge_200 rfl ?_
    refine vV.getr dX6_judge_201 fl_X6_16 (by first | rfl | assumption) rfl (by first | assumption | exact hB _ _ _ rfl) ?_
    refine vV.cVi dX6_judge_204 ml_X6_129 cw_X3_sumOfTurns iw_X3_sumOfTurns (by first | rfl | assumption) rfl (by unfold vRoom; decide) (c_X3_sumOfTurns sgK_20 (sgT_20 hB) hW.cnt hW.le hW.tu) rfl rfl (Nat.le_of_ble_eq_true rfl) ?_
    rintro x204 _ _ hx204 ⟨rfl, rfl, rfl⟩
    refine vV.ri dX6_judge_207 rfl ?_
    exact ⟨rfl, hk, by rw [if_neg (by omega), if_neg (by omega), if_neg (by omega), if_neg (by omega), if_neg (by omega), ← h4]; rfl⟩
  · refine vV.tsw (tgt := 164) dX6_judge_130 (0) h130 (by decide) (by decide) rfl (by decide) ?_
    refine vV.iload_n dX6_judge_164 rfl ?_
    refine vV.ri dX6_judge_165 rfl ?_
    exact ⟨rfl, hk, by rw [if_pos h130]⟩
  · refine vV.tsw (tgt := 166) dX6_judge_130 (1) h130 (by decide) (by decide) rfl (by decide) ?_
    refine vV.iload dX6_judge_166 rfl ?_
    refine vV.iload_n dX6_judge_168 rfl ?_
    refine vV.icmp_ge (tgt := 177) dX6_judge_169 (by decide) (fun h169 => ?_) (fun h169 => ?_)
    · skip
      have h169' : ¬ e < a := by omega
      refine vV.bipush (v := (-6)) dX6_judge_177 (by decide) (by decide) ?_
      refine vV.ri dX6_judge_179 rfl ?_
      exact ⟨rfl, hk, by rw [if_neg (by omega), if_pos h130]; first | rw [if_pos h169'] | rw [if_neg h169']⟩
    · skip
      have h169' : e < a := by omega
      refine vV.iload dX6_judge_172 rfl ?_
      refine vV.goto (tgt := 179) dX6_judge_174 (by decide) ?_
      refine vV.ri dX6_judge_179 rfl ?_
      exact ⟨rfl, hk, by rw [if_neg (by omega), if_pos h130]; first | rw [if_pos h169'] | rw [if_neg h169']⟩
  · refine vV.tsw (tgt := 180) dX6_judge_130 (2) h130 (by decide) (by decide) rfl (by decide) ?_
    refine vV.iload_n dX6_judge_180 rfl ?_
    refine vV.ri dX6_judge_181 rfl ?_
    exact ⟨rfl, hk, by rw [if_neg (by omega), if_neg (by omega), if_pos h130]⟩
  · refine vV.tsw (tgt := 182) dX6_judge_130 (3) h130 (by decide) (by decide) rfl (by decide) ?_
    refine vV.aload_n dX6_judge_182 rfl ?_
    refine vV.getr dX6_judge_183 fl_X6_16 (by first | rfl | assumption) rfl (by first | assumption | exact hB _ _ _ rfl) ?_
    refine vV.cVi dX6_judge_186 ml_X6_107 cw_X3_standing iw_X3_standing (by first | rfl | assumption) rfl (by unfold vRoom; decide) (c_X3_standing sgK_20 (sgT_20 hB) hW.cnt hW.le) rfl rfl (Nat.le_of_ble_eq_true rfl) ?_
    rintro x186 _ _ hx186 ⟨rfl, rfl, rfl⟩
    refine vV.ri dX6_judge_189 rfl ?_
    exact ⟨rfl, hk, by rw [if_neg (by omega), if_neg (by omega), if_neg (by omega), if_pos h130, ← h4]; rfl⟩
  · refine vV.tsw (tgt := 190) dX6_judge_130 (4) h130 (by decide) (by decide) rfl (by decide) ?_
    refine vV.aload_n dX6_judge_190 rfl ?_
    refine vV.getr dX6_judge_191 fl_X6_16 (by first | rfl | assumption) rfl (by first | assumption | exact hB _ _ _ rfl) ?_
    refine vV.getr dX6_judge_194 fl_X6_91 (by first | rfl | assumption) rfl (by first | assumption | exact hB _ _ _ rfl) ?_
    refine vV.iconst dX6_judge_197 (by decide) ?_
    refine vV.iald dX6_judge_198 (by first | rfl | assumption) (by omega) (by omega) ?_
    refine vV.ri dX6_judge_199 rfl ?_
    exact ⟨rfl, hk, by rw [if_neg (by omega), if_neg (by omega), if_neg (by omega), if_neg (by omega), if_pos h130, h5, fSet_s]⟩
theorem l_X6_judge {d : List Nat} {T : vT} {M : vM} {n a : Nat} {l : List Int} {w J : Int} (hB : vB T) (hw : 0 ≤ w ∧ w ≤ 5) (ha : l.length = a) (ha2 : a ≤ 180) (hrg : ∀ k, 0 ≤ qL l k ∧ qL l k ≤ 3)
    (hJ : ∀ e, (pDn (cP M n) (qL l) (M 15 0, M 14) a).getD a = e → J = pJw w (cP M n) (pRn (cP M n) (qL l) (M 15 0, M 14) e) a e (pOr (-6) (pFind (pFf (cP M n) (qL l) (M 15 0, M 14)) e))) : ∀ k, k ≤ a → ∀ N x5, tS M N n l k → (∀ i, i < k → (!pCn (cP M n) (qL l i) (pRn (cP M n) (qL l) (M 15 0, M 14) i)) = false) →
    vV m_X6_judge d d (vPi fun r T1 M1 => T = T1 ∧ cKeepT M M1 ∧ r = J) 50 [some (vR 0), some (vI w), some (vI a), some (vI (pOr (-6) (pFind (pFf (cP M n) (qL l) (M 15 0, M 14)) k))), some (vI k), x5] [] d T N := by
  refine vUp ?_
  intro k hk ih N x5 htS hf
  have hq := hrg k
  have hca := htS.can (qL l k)
  have hW := htS.2.1
  have h4 := htS.2.2.2.2.2.1
  obtain ⟨fo, hfo⟩ : ∃ fo, fo = pFind (pFf (cP M n) (qL l) (M 15 0, M 14)) k := ⟨_, rfl⟩
  have hfs1 : ∀ p, fo = some p → pFind (pFf (cP M n) (qL l) (M 15 0, M 14)) (k + 1) = some p := fun p h => pFind_s1 (hfo.symm.trans h)
  have hfs2 : fo = none → pFind (pFf (cP M n) (qL l) (M 15 0, M 14)) (k + 1) = if pFf (cP M n) (qL l) (M 15 0, M 14) k then some k else none := fun h => pFind_s2 (hfo.symm.trans h)
  have hJk := hJ k
  have hfn := fun h => pFind_some.pFind_none (P := pFf (cP M n) (qL l) (M 15 0, M 14)) (n := k) h
  rw [← hfo] at hJk ⊢
  refine vV.iload dX6_judge_50 rfl ?_
  refine vV.iload_n dX6_judge_52 rfl ?_
  refine vV.icmp_ge (tgt := 129) dX6_judge_53 (by decide) (fun h53 => ?_) (fun h53 => ?_)
  · skip
    have hz : (pDn (cP M n) (qL l) (M 15 0, M 14) a).getD a = k := by first | (rw [hd]; rfl) | (have hka : k = a := by omega); (rw [show pDn (cP M n) (qL l) (M 15 0, M 14) a = none from pFind_no (fun i hi => hf i (by omega))]; exact hka.symm)
    rw [hJk hz]
    exact l_X6_jd129 hB hw htS _
  · skip
    refine vV.aload_n dX6_judge_56 rfl ?_
    refine vV.getr dX6_judge_57 fl_X6_16 (by first | rfl | assumption) rfl (by first | assumption | exact hB _ _ _ rfl) ?_
    refine vV.aload_n dX6_judge_60 rfl ?_
    refine vV.getr dX6_judge_61 fl_X6_26 (by first | rfl | assumption) rfl (by first | assumption | exact hB _ _ _ rfl) ?_
    refine vV.getr dX6_judge_64 fl_X6_126 (by first | rfl | assumption) rfl (by first | assumption | exact hB _ _ _ rfl) ?_
    refine vV.iload dX6_judge_67 rfl ?_
    refine vV.iald dX6_judge_69 (by first | rfl | assumption) (by omega) (by omega) ?_
    rw [qL_has htS.2.2.2.2.2.2.2 (show k < l.length by omega)]
    refine vV.cVi dX6_judge_70 ml_X6_100 cw_X3_can iw_X3_can (by first | rfl | assumption) rfl (by unfold vRoom; decide) (c_X3_can sgK_20 (sgT_20 hB) htS.2.1 hq.1 hq.2) rfl rfl (Nat.le_of_ble_eq_true rfl) ?_
    rintro x70 _ _ hx70 ⟨hy70, rfl, rfl⟩
    rw [hca] at hy70
    subst hy70
    refine vV.if_eq (tgt := 129) dX6_judge_73 (by decide) (fun h73 => ?_) (fun h73 => ?_)
    · skip
      have hno := bI_eq h73
      have hd : pDn (cP M n) (qL l) (M 15 0, M 14) a = some k := pFind_yes (by omega) (by rw [hno]; rfl) hf
      have hz : (pDn (cP M n) (qL l) (M 15 0, M 14) a).getD a = k := by first | (rw [hd]; rfl) | (have hka : k = a := by omega); (rw [show pDn (cP M n) (qL l) (M 15 0, M 14) a = none from pFind_no (fun i hi => hf i (by omega))]; exact hka.symm)
      rw [hJk hz]
      exact l_X6_jd129 hB hw htS _
    · skip
      have hye := bI_ne h73
      refine vV.aload_n dX6_judge_76 rfl ?_
      refine vV.getr dX6_judge_77 fl_X6_16 (by first | rfl | assumption) rfl (by first | assumption | exact hB _ _ _ rfl) ?_
      refine vV.cVi dX6_judge_80 ml_X6_107 cw_X3_standing iw_X3_standing (by first | rfl | assumption) rfl (by unfold vRoom; decide) (c_X3_standing sgK_20 (sgT_20 hB) hW.cnt hW.le) rfl rfl (Nat.le_of_ble_eq_true rfl) ?_
      rintro x80 _ _ hx80 ⟨hy80, rfl, rfl⟩
      rw [show N (20 + 4) = _ from h4] at hy80
      subst hy80
      refine vV.istore (L' := [_, _, _, _, _, _]) dX6_judge_83 (by decide) rfl ?_
      refine vV.aload_n dX6_judge_85 rfl ?_
      refine vV.getr dX6_judge_86 fl_X6_16 (by first | rfl | assumption) rfl (by first | assumption | exact hB _ _ _ rfl) ?_
      refine vV.aload_n dX6_judge_89 rfl ?_
      refine vV.getr dX6_judge_90 fl_X6_26 (by first | rfl | assumption) rfl (by first | assumption | exact hB _ _ _ rfl) ?_
      refine vV.getr dX6_judge_93 fl_X6_126 (by first | rfl | assumption) rfl (by first | assumption | exact hB _ _ _ rfl) ?_
      refine vV.iload dX6_judge_96 rfl ?_
      refine vV.iald dX6_judge_98 (by first | rfl | assumption) (by omega) (by omega) ?_
      rw [qL_has htS.2.2.2.2.2.2.2 (show k < l.length by omega)]
      refine vV.cVv dX6_judge_99 ml_X6_103 cw_X3_act iw_X3_act (by first | rfl | assumption) rfl (by unfold vRoom; decide) (c_X3_act sgK_20 (sgT_20 hB) htS.2.1) rfl rfl (Nat.le_of_ble_eq_true rfl) ?_
      rintro _ _ ⟨rfl, rfl⟩
      have htS1 := tS_s htS hye
      have h41 := htS1.2.2.2.2.2.1
      refine vV.iload_n dX6_judge_102 rfl ?_
      refine vV.bipush (v := (-6)) dX6_judge_103 (by decide) (by decide) ?_
      refine vV.icmp_ne (tgt := 123) dX6_judge_105 (by decide) (fun h105 => ?_) (fun h105 => ?_)
      · skip
        have hfa : pOr (-6) (pFind (pFf (cP M n) (qL l) (M 15 0, M 14)) (k + 1)) = pOr (-6) fo := by { cases hq2 : fo with | none => (rw [hq2] at h105; exact absurd rfl h105) | some p => rw [hfs1 p hq2] }
        refine vV.iinc (L' := [_, _, _, _, _, _]) dX6_judge_123 (by decide) rfl (⟨by omega, by omega⟩) rfl ?_
        refine vV.goto (tgt := 50) dX6_judge_126 (by decide) ?_
        rw [hfa] at ih
        exact ih (by omega) _ _ htS1 (fun i hi => (Nat.lt_succ_iff_lt_or_eq.mp hi).elim (hf i) (fun e => by subst e; rw [hye]; rfl))
      · skip
        have hfoN : fo = none := by { cases fo with | none => rfl | some p => (rw [pOr_s] at h105; omega) }
        refine vV.aload_n dX6_judge_108 rfl ?_
        refine vV.getr dX6_judge_109 fl_X6_16 (by first | rfl | assumption) rfl (by first | assumption | exact hB _ _ _ rfl) ?_
        refine vV.cVi dX6_judge_112 ml_X6_107 cw_X3_standing iw_X3_standing (by first | rfl | assumption) rfl (by unfold vRoom; decide) (c_X3_standing sgK_20 (sgT_20 hB) htS1.2.1.cnt htS1.2.1.le) rfl rfl (Nat.le_of_ble_eq_true rfl) ?_
        rintro x112 _ _ hx112 ⟨hy112, rfl, rfl⟩
        rw [show sgAct N 20 n (qL l k) (20 + 4) = _ from h41] at hy112
        subst hy112
        refine vV.iload dX6_judge_115 rfl ?_
        refine vV.icmp_eq (tgt := 123) dX6_judge_117 (by decide) (fun h117 => ?_) (fun h117 => ?_)
        · skip
          have hfa : pOr (-6) (pFind (pFf (cP M n) (qL l) (M 15 0, M 14)) (k + 1)) = pOr (-6) fo := by { rw [hfs2 hfoN, hfoN, if_neg (by unfold pFf; simp; exact h117)] }
          refine vV.iinc (L' := [_, _, _, _, _, _]) dX6_judge_123 (by decide) rfl (⟨by omega, by omega⟩) rfl ?_
          refine vV.goto (tgt := 50) dX6_judge_126 (by decide) ?_
          rw [hfa] at ih
          exact ih (by omega) _ _ htS1 (fun i hi => (Nat.lt_succ_iff_lt_or_eq.mp hi).elim (hf i) (fun e => by subst e; rw [hye]; rfl))
        · skip
          have hfa : pOr (-6) (pFind (pFf (cP M n) (qL l) (M 15 0, M 14)) (k + 1)) = k := by { rw [hfs2 hfoN, if_pos (by unfold pFf; simp; exact h117)]; rfl }
          refine vV.iload dX6_judge_120 rfl ?_
          refine vV.istore_n (L' := [_, _, _, _, _, _]) dX6_judge_122 (by decide) rfl ?_
          refine vV.iinc (L' := [_, _, _, _, _, _]) dX6_judge_123 (by decide) rfl (⟨by omega, by omega⟩) rfl ?_
          refine vV.goto (tgt := 50) dX6_judge_126 (by decide) ?_
          rw [hfa] at ih
          exact ih (by omega) _ _ htS1 (fun i hi => (Nat.lt_succ_iff_lt_or_eq.mp hi).elim (hf i) (fun e => by subst e; rw [hye]; rfl))
def rJudge (w : Int) (P : pP) (sg : Int → Int) (m : Nat) (s : pPos) : Int := if ¬ (0 ≤ w ∧ w ≤ 5) then -2 else if (pFind (pBad sg) m).isSome then -5 else pJ w P (qL (pL sg m)) s (pL sg m).length
theorem c_X6_judge {d : List Nat} {T : vT} {M : vM} {n m : Nat} {w : Int} (hB : vB T) (hW : sgW M 10 n) (hz : sgZ M 20) (hm : M 60 0 = m) (hle : m ≤ 40) : vCon m_X6_judge d d [vR 0, vI w] T M (vPi fun r T1 M1 => T = T1 ∧ cKeepT M M1 ∧ r = rJudge w (cP M n) (M 61) m (M 15 0, M 14)) := by
  obtain ⟨J, hJ⟩ : ∃ J, J = rJudge w (cP M n) (M 61) m (M 15 0, M 14) := ⟨_, rfl⟩
  rw [← hJ]
  unfold rJudge at hJ
  refine vCon.of (by decide) rfl rfl (Nat.le_of_ble_eq_true rfl) ?_
  refine vV.iload_n dX6_judge_0 rfl ?_
  refine vV.iconst dX6_judge_1 (by decide) ?_
  refine vV.iconst dX6_judge_2 (by decide) ?_
  refine vV.cSi dX6_judge_3 ml_X6_58 cw_X6_within sw_X6_within (by unfold vRoom; decide) c_X6_within rfl rfl (Nat.le_of_ble_eq_true rfl) ?_
  rintro x3 _ _ hx3 ⟨hy3, rfl, rfl⟩
  refine vV.if_ne (tgt := 12) dX6_judge_6 (by decide) (fun h6 => ?_) (fun h6 => ?_)
  · skip
    have hw := yes01 hy3 h6
    rw [if_neg (fun c => c hw)] at hJ
    refine vV.aload_n dX6_judge_12 rfl ?_
    refine vV.getr dX6_judge_13 fl_X6_26 (by first | rfl | assumption) rfl (by first | assumption | exact hB _ _ _ rfl) ?_
    refine vV.cVi dX6_judge_16 ml_X6_116 cw_X1_firstFault iw_X1_firstFault (by first | rfl | assumption) rfl (by unfold vRoom; decide) (c_X1_firstFault hB hm hle) rfl rfl (Nat.le_of_ble_eq_true rfl) ?_
    rintro x16 _ _ hx16 ⟨hy16, rfl, rfl⟩
    subst hy16
    refine vV.if_lt (tgt := 25) dX6_judge_19 (by decide) (fun h19 => ?_) (fun h19 => ?_)
    · skip
      have hno := pNo_of (pOr_none h19)
      rw [pOr_none' h19, if_neg (by simp)] at hJ
      have hlen := pL_len hno m (Nat.le_refl m)
      refine vV.aload_n dX6_judge_25 rfl ?_
      refine vV.getr dX6_judge_26 fl_X6_16 (by first | rfl | assumption) rfl (by first | assumption | exact hB _ _ _ rfl) ?_
      refine vV.aload_n dX6_judge_29 rfl ?_
      refine vV.getr dX6_judge_30 fl_X6_10 (by first | rfl | assumption) rfl (by first | assumption | exact hB _ _ _ rfl) ?_
      refine vV.cVv dX6_judge_33 ml_X6_119 cw_X3_copyFrom iw_X3_copyFrom (by first | rfl | assumption) rfl (by unfold vRoom; decide) (c_X3_copyFrom sgK_20 (sgT_20 hB) sgK_10 (sgT_10 hB) (by omega) hz hW.z) rfl rfl (Nat.le_of_ble_eq_true rfl) ?_
      rintro _ _ ⟨rfl, rfl⟩
      refine vV.aload_n dX6_judge_36 rfl ?_
      refine vV.getr dX6_judge_37 fl_X6_26 (by first | rfl | assumption) rfl (by first | assumption | exact hB _ _ _ rfl) ?_
      refine vV.cVi dX6_judge_40 ml_X6_123 cw_X1_read iw_X1_read (by first | rfl | assumption) rfl (by unfold vRoom; decide) (c_X1_read (M := sgCp M 20 10) (m := m) hB hm hle hno) rfl rfl (Nat.le_of_ble_eq_true rfl) ?_
      rintro x40 _ _ hx40 ⟨hy40, rfl, f, rfl, hf⟩
      rw [show sgCp M 20 10 61 = M 61 from rfl] at hy40 hf
      subst hy40
      refine vV.istore_n (L' := [_, _, _, _, _, _]) dX6_judge_43 (by decide) rfl ?_
      refine vV.bipush (v := (-6)) dX6_judge_44 (by decide) (by decide) ?_
      refine vV.istore_n (L' := [_, _, _, _, _, _]) dX6_judge_46 (by decide) rfl ?_
      refine vV.iconst dX6_judge_47 (by decide) ?_
      refine vV.istore (L' := [_, _, _, _, _, _]) dX6_judge_48 (by decide) rfl ?_
      exact l_X6_judge hB hw rfl (by omega) (fun k => qL_rg k) (fun e he => by rw [hJ]; unfold pJ; rw [← he]) 0 (by omega) _ _ (tS_0 hW hf) (fun i hi => by omega)
    · skip
      rw [if_pos (pOr_some h19)] at hJ
      refine vV.bipush (v := (-5)) dX6_judge_22 (by decide) (by decide) ?_
      refine vV.ri dX6_judge_24 rfl ?_
      exact ⟨rfl, cKeepT.rf M, hJ.symm⟩
  · skip
    rw [if_pos (no01 hy3 h6)] at hJ
    refine vV.bipush (v := (-2)) dX6_judge_9 (by decide) (by decide) ?_
    refine vV.ri dX6_judge_11 rfl ?_
    exact ⟨rfl, cKeepT.rf M, hJ.symm⟩
end
section
/-! ===== own: the class: tick, say, wipe, fault ===== -/
def pTickR (P : pP) (s : pPos) (y : Int) : Int := if ¬ (0 ≤ y ∧ y ≤ 3) then -2 else if pCn P y s = false then -5 else pBits (pT1 P y s).2 P.1
theorem dX6_tick_0 : decode cX6_tick 0 = .ok (.iload_n 1, 1) := by decide +kernel
theorem dX6_tick_1 : decode cX6_tick 1 = .ok (.iconst 0, 1) := by decide +kernel
theorem dX6_tick_2 : decode cX6_tick 2 = .ok (.iconst 3, 1) := by decide +kernel
theorem dX6_tick_3 : decode cX6_tick 3 = .ok (.invokestatic 58, 3) := by decide +kernel
theorem dX6_tick_6 : decode cX6_tick 6 = .ok (.ifCond .ne 6, 3) := by decide +kernel
theorem dX6_tick_9 : decode cX6_tick 9 = .ok (.bipush (-2), 2) := by decide +kernel
theorem dX6_tick_11 : decode cX6_tick 11 = .ok (.ireturn, 1) := by decide +kernel
theorem dX6_tick_12 : decode cX6_tick 12 = .ok (.aload_n 0, 1) := by decide +kernel
theorem dX6_tick_13 : decode cX6_tick 13 = .ok (.getfield 10, 3) := by decide +kernel
theorem dX6_tick_16 : decode cX6_tick 16 = .ok (.iload_n 1, 1) := by decide +kernel
theorem dX6_tick_17 : decode cX6_tick 17 = .ok (.invokevirtual 100, 3) := by decide +kernel
theorem dX6_tick_20 : decode cX6_tick 20 = .ok (.ifCond .ne 6, 3) := by decide +kernel
theorem dX6_tick_23 : decode cX6_tick 23 = .ok (.bipush (-5), 2) := by decide +kernel
theorem dX6_tick_25 : decode cX6_tick 25 = .ok (.ireturn, 1) := by decide +kernel
theorem dX6_tick_26 : decode cX6_tick 26 = .ok (.aload_n 0, 1) := by decide +kernel
theorem dX6_tick_27 : decode cX6_tick 27 = .ok (.getfield 10, 3) := by decide +kernel
theorem dX6_tick_30 : decode cX6_tick 30 = .ok (.iload_n 1, 1) := by decide +kernel
theorem dX6_tick_31 : decode cX6_tick 31 = .ok (.invokevirtual 103, 3) := by decide +kernel
theorem dX6_tick_34 : decode cX6_tick 34 = .ok (.aload_n 0, 1) := by decide +kernel
theorem dX6_tick_35 : decode cX6_tick 35 = .ok (.getfield 10, 3) := by decide +kernel
theorem dX6_tick_38 : decode cX6_tick 38 = .ok (.invokevirtual 107, 3) := by decide +kernel
theorem dX6_tick_41 : decode cX6_tick 41 = .ok (.ireturn, 1) := by decide +kernel
theorem c_X6_tick {d : List Nat} {T : vT} {M : vM} {n : Nat} {y : Int} (hB : vB T) (hW : sgW M 10 n) : vCon m_X6_tick d d [vR 0, vI y] T M (vPi fun r T1 M1 => T = T1 ∧ r = pTickR (cP M n) (M 15 0, M 14) y ∧ M1 = (if 0 ≤ pTickR (cP M n) (M 15 0, M 14) y then sgAct M 10 n y else M) ∧ sgW M1 10 n) := by
  refine vCon.of (by decide) rfl rfl (Nat.le_of_ble_eq_true rfl) ?_
  refine vV.iload_n dX6_tick_0 rfl ?_
  refine vV.iconst dX6_tick_1 (by decide) ?_
  refine vV.iconst dX6_tick_2 (by decide) ?_
  refine vV.cSi dX6_tick_3 ml_X6_58 cw_X6_within sw_X6_within (by unfold vRoom; decide) c_X6_within rfl rfl (Nat.le_of_ble_eq_true rfl) ?_
  rintro x3 _ _ hx3 ⟨hy3, rfl, rfl⟩
  refine vV.if_ne (tgt := 12) dX6_tick_6 (by decide) (fun h6 => ?_) (fun h6 => ?_)
  · skip
    have g1 := yes01 hy3 h6
    refine vV.aload_n dX6_tick_12 rfl ?_
    refine vV.getr dX6_tick_13 fl_X6_10 (by first | rfl | assumption) rfl (by first | assumption | exact hB _ _ _ rfl) ?_
    refine vV.iload_n dX6_tick_16 rfl ?_
    refine vV.cVi dX6_tick_17 ml_X6_100 cw_X3_can iw_X3_can (by first | rfl | assumption) rfl (by unfold vRoom; decide) (c_X3_can sgK_10 (sgT_10 hB) hW g1.1 g1.2) rfl rfl (Nat.le_of_ble_eq_true rfl) ?_
    rintro x17 _ _ hx17 ⟨hy17, rfl, rfl⟩
    subst hy17
    refine vV.if_ne (tgt := 26) dX6_tick_20 (by decide) (fun h20 => ?_) (fun h20 => ?_)
    · skip
      have hye := bI_ne h20
      have hA := sgW_act hW hye
      refine vV.aload_n dX6_tick_26 rfl ?_
      refine vV.getr dX6_tick_27 fl_X6_10 (by first | rfl | assumption) rfl (by first | assumption | exact hB _ _ _ rfl) ?_
      refine vV.iload_n dX6_tick_30 rfl ?_
      refine vV.cVv dX6_tick_31 ml_X6_103 cw_X3_act iw_X3_act (by first | rfl | assumption) rfl (by unfold vRoom; decide) (c_X3_act sgK_10 (sgT_10 hB) hW) rfl rfl (Nat.le_of_ble_eq_true rfl) ?_
      rintro _ _ ⟨rfl, rfl⟩
      refine vV.aload_n dX6_tick_34 rfl ?_
      refine vV.getr dX6_tick_35 fl_X6_10 (by first | rfl | assumption) rfl (by first | assumption | exact hB _ _ _ rfl) ?_
      refine vV.cVi dX6_tick_38 ml_X6_107 cw_X3_standing iw_X3_standing (by first | rfl | assumption) rfl (by unfold vRoom; decide) (c_X3_standing sgK_10 (sgT_10 hB) hA.cnt hA.le) rfl rfl (Nat.le_of_ble_eq_true rfl) ?_
      rintro x38 _ _ hx38 ⟨hy38, rfl, rfl⟩
      have e2 : pTickR (cP M n) (M 15 0, M 14) y = x38 := by { unfold pTickR; rw [if_neg (fun c => c g1), if_neg (by rw [show pCn (cP M n) y (M 15 0, M 14) = true from hye]; simp), hy38]; rfl }
      have hp0 := (pBits_rg (sgAct M 10 n y (10 + 4)) n).1
      rw [← hy38] at hp0
      refine vV.ri dX6_tick_41 rfl ?_
      exact ⟨rfl, e2.symm, by rw [e2, if_pos hp0], hA⟩
    · skip
      have e2 : pTickR (cP M n) (M 15 0, M 14) y = -5 := by { unfold pTickR; rw [if_neg (fun c => c g1), if_pos (show pCn (cP M n) y (M 15 0, M 14) = false from bI_eq h20)] }
      refine vV.bipush (v := (-5)) dX6_tick_23 (by decide) (by decide) ?_
      refine vV.ri dX6_tick_25 rfl ?_
      exact ⟨rfl, e2.symm, by rw [e2]; rfl, hW⟩
  · skip
    have e2 : pTickR (cP M n) (M 15 0, M 14) y = -2 := if_pos (no01 hy3 h6)
    refine vV.bipush (v := (-2)) dX6_tick_9 (by decide) (by decide) ?_
    refine vV.ri dX6_tick_11 rfl ?_
    exact ⟨rfl, e2.symm, by rw [e2]; rfl, hW⟩
def pSayR (m : Nat) (c : Int) : Int := if ¬ (33 ≤ c ∧ c ≤ 126) then -2 else if m < 40 then (m : Int) + 1 else -4
theorem dX6_say_0 : decode cX6_say 0 = .ok (.iload_n 1, 1) := by decide +kernel
theorem dX6_say_1 : decode cX6_say 1 = .ok (.bipush 33, 2) := by decide +kernel
theorem dX6_say_3 : decode cX6_say 3 = .ok (.bipush 126, 2) := by decide +kernel
theorem dX6_say_5 : decode cX6_say 5 = .ok (.invokestatic 58, 3) := by decide +kernel
theorem dX6_say_8 : decode cX6_say 8 = .ok (.ifCond .ne 6, 3) := by decide +kernel
theorem dX6_say_11 : decode cX6_say 11 = .ok (.bipush (-2), 2) := by decide +kernel
theorem dX6_say_13 : decode cX6_say 13 = .ok (.ireturn, 1) := by decide +kernel
theorem dX6_say_14 : decode cX6_say 14 = .ok (.aload_n 0, 1) := by decide +kernel
theorem dX6_say_15 : decode cX6_say 15 = .ok (.getfield 26, 3) := by decide +kernel
theorem dX6_say_18 : decode cX6_say 18 = .ok (.iload_n 1, 1) := by decide +kernel
theorem dX6_say_19 : decode cX6_say 19 = .ok (.invokevirtual 111, 3) := by decide +kernel
theorem dX6_say_22 : decode cX6_say 22 = .ok (.ifCond .eq 13, 3) := by decide +kernel
theorem dX6_say_25 : decode cX6_say 25 = .ok (.aload_n 0, 1) := by decide +kernel
theorem dX6_say_26 : decode cX6_say 26 = .ok (.getfield 26, 3) := by decide +kernel
theorem dX6_say_29 : decode cX6_say 29 = .ok (.getfield 113, 3) := by decide +kernel
theorem dX6_say_32 : decode cX6_say 32 = .ok (.goto 5, 3) := by decide +kernel
theorem dX6_say_35 : decode cX6_say 35 = .ok (.bipush (-4), 2) := by decide +kernel
theorem dX6_say_37 : decode cX6_say 37 = .ok (.ireturn, 1) := by decide +kernel
theorem c_X6_say {d : List Nat} {T : vT} {M : vM} {m : Nat} {c : Int} (hB : vB T) (hm : M 60 0 = m) (hle : m ≤ 40) : vCon m_X6_say d d [vR 0, vI c] T M (vPi fun r T1 M1 => T = T1 ∧ r = pSayR m c ∧ M1 = (if 0 ≤ pSayR m c then vUpd (vUpd M 61 m c) 60 0 (m + 1) else M)) := by
  refine vCon.of (by decide) rfl rfl (Nat.le_of_ble_eq_true rfl) ?_
  refine vV.iload_n dX6_say_0 rfl ?_
  refine vV.bipush (v := 33) dX6_say_1 (by decide) (by decide) ?_
  refine vV.bipush (v := 126) dX6_say_3 (by decide) (by decide) ?_
  refine vV.cSi dX6_say_5 ml_X6_58 cw_X6_within sw_X6_within (by unfold vRoom; decide) c_X6_within rfl rfl (Nat.le_of_ble_eq_true rfl) ?_
  rintro x5 _ _ hx5 ⟨hy5, rfl, rfl⟩
  refine vV.if_ne (tgt := 14) dX6_say_8 (by decide) (fun h8 => ?_) (fun h8 => ?_)
  · skip
    have g1 := yes01 hy5 h8
    refine vV.aload_n dX6_say_14 rfl ?_
    refine vV.getr dX6_say_15 fl_X6_26 (by first | rfl | assumption) rfl (by first | assumption | exact hB _ _ _ rfl) ?_
    refine vV.iload_n dX6_say_18 rfl ?_
    refine vV.cVi dX6_say_19 ml_X6_111 cw_X1_add iw_X1_add (by first | rfl | assumption) rfl (by unfold vRoom; decide) (c_X1_add hB hm hle) rfl rfl (Nat.le_of_ble_eq_true rfl) ?_
    rintro x19 _ _ hx19 ⟨hy19, rfl, rfl⟩
    refine vV.if_eq (tgt := 35) dX6_say_22 (by decide) (fun h22 => ?_) (fun h22 => ?_)
    · skip
      have hlt := no01 hy19 h22
      have e2 : pSayR m c = -4 := by { unfold pSayR; rw [if_neg (fun c => c g1), if_neg hlt] }
      rw [if_neg hlt]
      refine vV.bipush (v := (-4)) dX6_say_35 (by decide) (by decide) ?_
      refine vV.ri dX6_say_37 rfl ?_
      first | exact ⟨rfl, by rw [e2, vUpd_s], by rw [e2, if_pos (by omega)]⟩ | exact ⟨rfl, e2.symm, by rw [e2]; rfl⟩
    · skip
      have hlt := yes01 hy19 h22
      have e2 : pSayR m c = (m : Int) + 1 := by { unfold pSayR; rw [if_neg (fun c => c g1), if_pos hlt] }
      rw [if_pos hlt]
      refine vV.aload_n dX6_say_25 rfl ?_
      refine vV.getr dX6_say_26 fl_X6_26 (by first | rfl | assumption) rfl (by first | assumption | exact hB _ _ _ rfl) ?_
      refine vV.geti (z := 0) dX6_say_29 fl_X6_113 (by first | rfl | assumption) rfl rfl ?_
      refine vV.goto (tgt := 37) dX6_say_32 (by decide) ?_
      refine vV.ri dX6_say_37 rfl ?_
      first | exact ⟨rfl, by rw [e2, vUpd_s], by rw [e2, if_pos (by omega)]⟩ | exact ⟨rfl, e2.symm, by rw [e2]; rfl⟩
  · skip
    have e2 : pSayR m c = -2 := if_pos (no01 hy5 h8)
    refine vV.bipush (v := (-2)) dX6_say_11 (by decide) (by decide) ?_
    refine vV.ri dX6_say_13 rfl ?_
    exact ⟨rfl, e2.symm, by rw [e2]; rfl⟩
theorem dX6_wipe_0 : decode cX6_wipe 0 = .ok (.aload_n 0, 1) := by decide +kernel
theorem dX6_wipe_1 : decode cX6_wipe 1 = .ok (.getfield 26, 3) := by decide +kernel
theorem dX6_wipe_4 : decode cX6_wipe 4 = .ok (.getfield 113, 3) := by decide +kernel
theorem dX6_wipe_7 : decode cX6_wipe 7 = .ok (.istore_n 1, 1) := by decide +kernel
theorem dX6_wipe_8 : decode cX6_wipe 8 = .ok (.aload_n 0, 1) := by decide +kernel
theorem dX6_wipe_9 : decode cX6_wipe 9 = .ok (.getfield 26, 3) := by decide +kernel
theorem dX6_wipe_12 : decode cX6_wipe 12 = .ok (.iconst 0, 1) := by decide +kernel
theorem dX6_wipe_13 : decode cX6_wipe 13 = .ok (.putfield 113, 3) := by decide +kernel
theorem dX6_wipe_16 : decode cX6_wipe 16 = .ok (.iload_n 1, 1) := by decide +kernel
theorem dX6_wipe_17 : decode cX6_wipe 17 = .ok (.ireturn, 1) := by decide +kernel
theorem c_X6_wipe {d : List Nat} {T : vT} {M : vM} (hB : vB T) : vCon m_X6_wipe d d [vR 0] T M (vPi fun r T1 M1 => T = T1 ∧ r = M 60 0 ∧ M1 = vUpd M 60 0 0) := by
  refine vCon.of (by decide) rfl rfl (Nat.le_of_ble_eq_true rfl) ?_
  refine vV.aload_n dX6_wipe_0 rfl ?_
  refine vV.getr dX6_wipe_1 fl_X6_26 (by first | rfl | assumption) rfl (by first | assumption | exact hB _ _ _ rfl) ?_
  refine vV.geti (z := 0) dX6_wipe_4 fl_X6_113 (by first | rfl | assumption) rfl rfl ?_
  refine vV.istore_n (L' := [_, _]) dX6_wipe_7 (by decide) rfl ?_
  refine vV.aload_n dX6_wipe_8 rfl ?_
  refine vV.getr dX6_wipe_9 fl_X6_26 (by first | rfl | assumption) rfl (by first | assumption | exact hB _ _ _ rfl) ?_
  refine vV.iconst dX6_wipe_12 (by decide) ?_
  refine vV.puti (z := 0) dX6_wipe_13 fl_X6_113 (by first | rfl | assumption) rfl rfl ?_
  refine vV.iload_n dX6_wipe_16 rfl ?_
  refine vV.ri dX6_wipe_17 rfl ?_
  exact ⟨rfl, rfl, rfl⟩
theorem dX6_fault_0 : decode cX6_fault 0 = .ok (.aload_n 0, 1) := by decide +kernel
theorem dX6_fault_1 : decode cX6_fault 1 = .ok (.getfield 26, 3) := by decide +kernel
theorem dX6_fault_4 : decode cX6_fault 4 = .ok (.invokevirtual 116, 3) := by decide +kernel
theorem dX6_fault_7 : decode cX6_fault 7 = .ok (.istore_n 1, 1) := by decide +kernel
theorem dX6_fault_8 : decode cX6_fault 8 = .ok (.iload_n 1, 1) := by decide +kernel
theorem dX6_fault_9 : decode cX6_fault 9 = .ok (.ifCond .ge 8, 3) := by decide +kernel
theorem dX6_fault_12 : decode cX6_fault 12 = .ok (.bipush (-6), 2) := by decide +kernel
theorem dX6_fault_14 : decode cX6_fault 14 = .ok (.goto 4, 3) := by decide +kernel
theorem dX6_fault_17 : decode cX6_fault 17 = .ok (.iload_n 1, 1) := by decide +kernel
theorem dX6_fault_18 : decode cX6_fault 18 = .ok (.ireturn, 1) := by decide +kernel
theorem c_X6_fault {d : List Nat} {T : vT} {M : vM} {m : Nat} (hB : vB T) (hm : M 60 0 = m) (hle : m ≤ 40) : vCon m_X6_fault d d [vR 0] T M (vPi fun r T1 M1 => r = pOr (-6) (pFind (pBad (M 61)) m) ∧ T = T1 ∧ M = M1) := by
  refine vCon.of (by decide) rfl rfl (Nat.le_of_ble_eq_true rfl) ?_
  refine vV.aload_n dX6_fault_0 rfl ?_
  refine vV.getr dX6_fault_1 fl_X6_26 (by first | rfl | assumption) rfl (by first | assumption | exact hB _ _ _ rfl) ?_
  refine vV.cVi dX6_fault_4 ml_X6_116 cw_X1_firstFault iw_X1_firstFault (by first | rfl | assumption) rfl (by unfold vRoom; decide) (c_X1_firstFault hB hm hle) rfl rfl (Nat.le_of_ble_eq_true rfl) ?_
  rintro x4 _ _ hx4 ⟨hy4, rfl, rfl⟩
  subst hy4
  refine vV.istore_n (L' := [_, _]) dX6_fault_7 (by decide) rfl ?_
  refine vV.iload_n dX6_fault_8 rfl ?_
  refine vV.if_ge (tgt := 17) dX6_fault_9 (by decide) (fun h9 => ?_) (fun h9 => ?_)
  · skip
    obtain ⟨q, hq⟩ := Option.isSome_iff_exists.mp (pOr_some h9)
    rw [hq]
    refine vV.iload_n dX6_fault_17 rfl ?_
    refine vV.ri dX6_fault_18 rfl ?_
    exact ⟨rfl, rfl, rfl⟩
  · skip
    rw [pOr_none h9]
    refine vV.bipush (v := (-6)) dX6_fault_12 (by decide) (by decide) ?_
    refine vV.goto (tgt := 18) dX6_fault_14 (by decide) ?_
    refine vV.ri dX6_fault_18 rfl ?_
    exact ⟨rfl, rfl, rfl⟩
end
section
theorem zz_end : True := trivial
end
