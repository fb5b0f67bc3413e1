section
-- ===== PART A: goes FIRST, ahead of the names: the tables' words, and 'selects' of the private methods out of them =====
/-- a private method of a class that the tables say can be made, by its rows of tables_1 -/
def lw_okq (q : MethodName × Nat) : Prop := (q.1.cls ≠ "java/lang/invoke/MethodHandle" ∧ q.1.cls ≠ "java/lang/invoke/VarHandle") ∧ Cond.instantiable q.1.cls q.2 ∈ tables_1 ∧ Cond.privateMethod q.1 ∈ tables_1 ∧ Cond.instanceMethod q.1 ∈ tables_1
theorem lw_p0 : lw_okq (⟨"SmellBorders", "isCell", "(I)Z"⟩, 15) := ⟨⟨by decide +kernel, by decide +kernel⟩, List.mem_of_getElem? (i := 16) (by decide +kernel), List.mem_of_getElem? (i := 240) (by decide +kernel), List.mem_of_getElem? (i := 241) (by decide +kernel)⟩
theorem lw_p1 : lw_okq (⟨"SmellBorders", "settleNow", "()V"⟩, 15) := ⟨⟨by decide +kernel, by decide +kernel⟩, List.mem_of_getElem? (i := 16) (by decide +kernel), List.mem_of_getElem? (i := 248) (by decide +kernel), List.mem_of_getElem? (i := 249) (by decide +kernel)⟩
theorem lw_p2 : lw_okq (⟨"SmellBorders$Valley", "spreadOn", "(IIII[I)Z"⟩, 3) := ⟨⟨by decide +kernel, by decide +kernel⟩, List.mem_of_getElem? (i := 41) (by decide +kernel), List.mem_of_getElem? (i := 302) (by decide +kernel), List.mem_of_getElem? (i := 303) (by decide +kernel)⟩
theorem lw_p3 : lw_okq (⟨"SmellBorders$Air", "mingle", "(II)V"⟩, 4) := ⟨⟨by decide +kernel, by decide +kernel⟩, List.mem_of_getElem? (i := 117) (by decide +kernel), List.mem_of_getElem? (i := 323) (by decide +kernel), List.mem_of_getElem? (i := 324) (by decide +kernel)⟩
theorem lw_p4 : lw_okq (⟨"SmellBorders", "tellOfCell", "(II)I"⟩, 15) := ⟨⟨by decide +kernel, by decide +kernel⟩, List.mem_of_getElem? (i := 16) (by decide +kernel), List.mem_of_getElem? (i := 327) (by decide +kernel), List.mem_of_getElem? (i := 328) (by decide +kernel)⟩
theorem lw_p5 : lw_okq (⟨"SmellBorders$Air", "isBorder", "(II)Z"⟩, 4) := ⟨⟨by decide +kernel, by decide +kernel⟩, List.mem_of_getElem? (i := 117) (by decide +kernel), List.mem_of_getElem? (i := 340) (by decide +kernel), List.mem_of_getElem? (i := 341) (by decide +kernel)⟩
theorem lw_p6 : lw_okq (⟨"SmellBorders", "find", "(I)LSmellBorders$Source;"⟩, 15) := ⟨⟨by decide +kernel, by decide +kernel⟩, List.mem_of_getElem? (i := 16) (by decide +kernel), List.mem_of_getElem? (i := 428) (by decide +kernel), List.mem_of_getElem? (i := 429) (by decide +kernel)⟩
theorem lw_p7 : lw_okq (⟨"SmellBorders", "tellOfSource", "(LSmellBorders$Source;II)I"⟩, 15) := ⟨⟨by decide +kernel, by decide +kernel⟩, List.mem_of_getElem? (i := 16) (by decide +kernel), List.mem_of_getElem? (i := 432) (by decide +kernel), List.mem_of_getElem? (i := 433) (by decide +kernel)⟩
theorem lw_p8 : lw_okq (⟨"SmellBorders", "wouldWin", "(III)Z"⟩, 15) := ⟨⟨by decide +kernel, by decide +kernel⟩, List.mem_of_getElem? (i := 16) (by decide +kernel), List.mem_of_getElem? (i := 503) (by decide +kernel), List.mem_of_getElem? (i := 504) (by decide +kernel)⟩
theorem lw_p9 : lw_okq (⟨"SmellBorders", "spreadOneMore", "(II)V"⟩, 15) := ⟨⟨by decide +kernel, by decide +kernel⟩, List.mem_of_getElem? (i := 16) (by decide +kernel), List.mem_of_getElem? (i := 507) (by decide +kernel), List.mem_of_getElem? (i := 508) (by decide +kernel)⟩
theorem lw_p10 : lw_okq (⟨"SmellBorders", "fewestWalls", "(II)I"⟩, 15) := ⟨⟨by decide +kernel, by decide +kernel⟩, List.mem_of_getElem? (i := 16) (by decide +kernel), List.mem_of_getElem? (i := 515) (by decide +kernel), List.mem_of_getElem? (i := 516) (by decide +kernel)⟩
theorem lw_p11 : lw_okq (⟨"SmellBorders", "cellsFreeForWalls", "(I)I"⟩, 15) := ⟨⟨by decide +kernel, by decide +kernel⟩, List.mem_of_getElem? (i := 16) (by decide +kernel), List.mem_of_getElem? (i := 519) (by decide +kernel), List.mem_of_getElem? (i := 520) (by decide +kernel)⟩
theorem lw_p12 : lw_okq (⟨"SmellBorders", "watchHolders", "()V"⟩, 15) := ⟨⟨by decide +kernel, by decide +kernel⟩, List.mem_of_getElem? (i := 16) (by decide +kernel), List.mem_of_getElem? (i := 533) (by decide +kernel), List.mem_of_getElem? (i := 534) (by decide +kernel)⟩
theorem lw_p13 : lw_okq (⟨"SmellBorders", "heldBy", "(II)I"⟩, 15) := ⟨⟨by decide +kernel, by decide +kernel⟩, List.mem_of_getElem? (i := 16) (by decide +kernel), List.mem_of_getElem? (i := 537) (by decide +kernel), List.mem_of_getElem? (i := 538) (by decide +kernel)⟩
theorem lw_p14 : lw_okq (⟨"SmellBorders", "mayAsk", "()Z"⟩, 15) := ⟨⟨by decide +kernel, by decide +kernel⟩, List.mem_of_getElem? (i := 16) (by decide +kernel), List.mem_of_getElem? (i := 557) (by decide +kernel), List.mem_of_getElem? (i := 558) (by decide +kernel)⟩
theorem lw_p15 : lw_okq (⟨"SmellBorders", "fitsNoses", "(I)Z"⟩, 15) := ⟨⟨by decide +kernel, by decide +kernel⟩, List.mem_of_getElem? (i := 16) (by decide +kernel), List.mem_of_getElem? (i := 561) (by decide +kernel), List.mem_of_getElem? (i := 562) (by decide +kernel)⟩
def lw_privs_1 : List (MethodName × Nat) := [(⟨"SmellBorders", "isCell", "(I)Z"⟩, 15), (⟨"SmellBorders", "settleNow", "()V"⟩, 15), (⟨"SmellBorders$Valley", "spreadOn", "(IIII[I)Z"⟩, 3), (⟨"SmellBorders$Air", "mingle", "(II)V"⟩, 4), (⟨"SmellBorders", "tellOfCell", "(II)I"⟩, 15), (⟨"SmellBorders$Air", "isBorder", "(II)Z"⟩, 4), (⟨"SmellBorders", "find", "(I)LSmellBorders$Source;"⟩, 15), (⟨"SmellBorders", "tellOfSource", "(LSmellBorders$Source;II)I"⟩, 15), (⟨"SmellBorders", "wouldWin", "(III)Z"⟩, 15), (⟨"SmellBorders", "spreadOneMore", "(II)V"⟩, 15), (⟨"SmellBorders", "fewestWalls", "(II)I"⟩, 15), (⟨"SmellBorders", "cellsFreeForWalls", "(I)I"⟩, 15), (⟨"SmellBorders", "watchHolders", "()V"⟩, 15), (⟨"SmellBorders", "heldBy", "(II)I"⟩, 15), (⟨"SmellBorders", "mayAsk", "()Z"⟩, 15), (⟨"SmellBorders", "fitsNoses", "(I)Z"⟩, 15)]
theorem lw_r1 : ∀ q ∈ lw_privs_1, lw_okq q := List.forall_mem_cons.mpr ⟨lw_p0, List.forall_mem_cons.mpr ⟨lw_p1, List.forall_mem_cons.mpr ⟨lw_p2, List.forall_mem_cons.mpr ⟨lw_p3, List.forall_mem_cons.mpr ⟨lw_p4, List.forall_mem_cons.mpr ⟨lw_p5, List.forall_mem_cons.mpr ⟨lw_p6, List.forall_mem_cons.mpr ⟨lw_p7, List.forall_mem_cons.mpr ⟨lw_p8, List.forall_mem_cons.mpr ⟨lw_p9, List.forall_mem_cons.mpr ⟨lw_p10, List.forall_mem_cons.mpr ⟨lw_p11, List.forall_mem_cons.mpr ⟨lw_p12, List.forall_mem_cons.mpr ⟨lw_p13, List.forall_mem_cons.mpr ⟨lw_p14, List.forall_mem_cons.mpr ⟨lw_p15, fun _ h => absurd h List.not_mem_nil⟩⟩⟩⟩⟩⟩⟩⟩⟩⟩⟩⟩⟩⟩⟩⟩
theorem lw_p16 : lw_okq (⟨"SmellBorders", "whoseWith", "(II)I"⟩, 15) := ⟨⟨by decide +kernel, by decide +kernel⟩, List.mem_of_getElem? (i := 16) (by decide +kernel), List.mem_of_getElem? (i := 568) (by decide +kernel), List.mem_of_getElem? (i := 569) (by decide +kernel)⟩
theorem lw_p17 : lw_okq (⟨"SmellBorders", "tallyFindings", "()I"⟩, 15) := ⟨⟨by decide +kernel, by decide +kernel⟩, List.mem_of_getElem? (i := 16) (by decide +kernel), List.mem_of_getElem? (i := 576) (by decide +kernel), List.mem_of_getElem? (i := 577) (by decide +kernel)⟩
theorem lw_p18 : lw_okq (⟨"SmellBorders", "cellOfFewestLeft", "()I"⟩, 15) := ⟨⟨by decide +kernel, by decide +kernel⟩, List.mem_of_getElem? (i := 16) (by decide +kernel), List.mem_of_getElem? (i := 580) (by decide +kernel), List.mem_of_getElem? (i := 581) (by decide +kernel)⟩
theorem lw_p19 : lw_okq (⟨"SmellBorders", "tellOfAll", "(I)I"⟩, 15) := ⟨⟨by decide +kernel, by decide +kernel⟩, List.mem_of_getElem? (i := 16) (by decide +kernel), List.mem_of_getElem? (i := 611) (by decide +kernel), List.mem_of_getElem? (i := 612) (by decide +kernel)⟩
theorem lw_p20 : lw_okq (⟨"SmellBorders", "digestCells", "(J)J"⟩, 15) := ⟨⟨by decide +kernel, by decide +kernel⟩, List.mem_of_getElem? (i := 16) (by decide +kernel), List.mem_of_getElem? (i := 628) (by decide +kernel), List.mem_of_getElem? (i := 629) (by decide +kernel)⟩
theorem lw_p21 : lw_okq (⟨"SmellBorders", "digestSource", "(JI)J"⟩, 15) := ⟨⟨by decide +kernel, by decide +kernel⟩, List.mem_of_getElem? (i := 16) (by decide +kernel), List.mem_of_getElem? (i := 636) (by decide +kernel), List.mem_of_getElem? (i := 637) (by decide +kernel)⟩
theorem lw_p22 : lw_okq (⟨"SmellBordersModel", "faultOf", "()I"⟩, 34) := ⟨⟨by decide +kernel, by decide +kernel⟩, List.mem_of_getElem? (i := 640) (by decide +kernel), List.mem_of_getElem? (i := 765) (by decide +kernel), List.mem_of_getElem? (i := 766) (by decide +kernel)⟩
theorem lw_p23 : lw_okq (⟨"SmellBordersModel", "opens", "()I"⟩, 34) := ⟨⟨by decide +kernel, by decide +kernel⟩, List.mem_of_getElem? (i := 640) (by decide +kernel), List.mem_of_getElem? (i := 778) (by decide +kernel), List.mem_of_getElem? (i := 779) (by decide +kernel)⟩
theorem lw_p24 : lw_okq (⟨"SmellBordersModel", "isCell", "(I)Z"⟩, 34) := ⟨⟨by decide +kernel, by decide +kernel⟩, List.mem_of_getElem? (i := 640) (by decide +kernel), List.mem_of_getElem? (i := 789) (by decide +kernel), List.mem_of_getElem? (i := 790) (by decide +kernel)⟩
theorem lw_p25 : lw_okq (⟨"SmellBordersModel", "lacks", "()Z"⟩, 34) := ⟨⟨by decide +kernel, by decide +kernel⟩, List.mem_of_getElem? (i := 640) (by decide +kernel), List.mem_of_getElem? (i := 794) (by decide +kernel), List.mem_of_getElem? (i := 795) (by decide +kernel)⟩
theorem lw_p26 : lw_okq (⟨"SmellBordersModel", "lay", "(IIIII)V"⟩, 34) := ⟨⟨by decide +kernel, by decide +kernel⟩, List.mem_of_getElem? (i := 640) (by decide +kernel), List.mem_of_getElem? (i := 798) (by decide +kernel), List.mem_of_getElem? (i := 799) (by decide +kernel)⟩
theorem lw_p27 : lw_okq (⟨"SmellBordersModel", "tellCell", "(II)I"⟩, 34) := ⟨⟨by decide +kernel, by decide +kernel⟩, List.mem_of_getElem? (i := 640) (by decide +kernel), List.mem_of_getElem? (i := 806) (by decide +kernel), List.mem_of_getElem? (i := 807) (by decide +kernel)⟩
theorem lw_p28 : lw_okq (⟨"SmellBordersModel", "layCells", "()V"⟩, 34) := ⟨⟨by decide +kernel, by decide +kernel⟩, List.mem_of_getElem? (i := 640) (by decide +kernel), List.mem_of_getElem? (i := 810) (by decide +kernel), List.mem_of_getElem? (i := 811) (by decide +kernel)⟩
theorem lw_p29 : lw_okq (⟨"SmellBordersModel", "layMuch", "(I)V"⟩, 34) := ⟨⟨by decide +kernel, by decide +kernel⟩, List.mem_of_getElem? (i := 640) (by decide +kernel), List.mem_of_getElem? (i := 814) (by decide +kernel), List.mem_of_getElem? (i := 815) (by decide +kernel)⟩
theorem lw_p30 : lw_okq (⟨"SmellBordersModel", "smells", "(I)Z"⟩, 34) := ⟨⟨by decide +kernel, by decide +kernel⟩, List.mem_of_getElem? (i := 640) (by decide +kernel), List.mem_of_getElem? (i := 818) (by decide +kernel), List.mem_of_getElem? (i := 819) (by decide +kernel)⟩
theorem lw_p31 : lw_okq (⟨"SmellBordersModel", "forceOf", "(I)I"⟩, 34) := ⟨⟨by decide +kernel, by decide +kernel⟩, List.mem_of_getElem? (i := 640) (by decide +kernel), List.mem_of_getElem? (i := 822) (by decide +kernel), List.mem_of_getElem? (i := 823) (by decide +kernel)⟩
def lw_privs_2 : List (MethodName × Nat) := [(⟨"SmellBorders", "whoseWith", "(II)I"⟩, 15), (⟨"SmellBorders", "tallyFindings", "()I"⟩, 15), (⟨"SmellBorders", "cellOfFewestLeft", "()I"⟩, 15), (⟨"SmellBorders", "tellOfAll", "(I)I"⟩, 15), (⟨"SmellBorders", "digestCells", "(J)J"⟩, 15), (⟨"SmellBorders", "digestSource", "(JI)J"⟩, 15), (⟨"SmellBordersModel", "faultOf", "()I"⟩, 34), (⟨"SmellBordersModel", "opens", "()I"⟩, 34), (⟨"SmellBordersModel", "isCell", "(I)Z"⟩, 34), (⟨"SmellBordersModel", "lacks", "()Z"⟩, 34), (⟨"SmellBordersModel", "lay", "(IIIII)V"⟩, 34), (⟨"SmellBordersModel", "tellCell", "(II)I"⟩, 34), (⟨"SmellBordersModel", "layCells", "()V"⟩, 34), (⟨"SmellBordersModel", "layMuch", "(I)V"⟩, 34), (⟨"SmellBordersModel", "smells", "(I)Z"⟩, 34), (⟨"SmellBordersModel", "forceOf", "(I)I"⟩, 34)]
theorem lw_r2 : ∀ q ∈ lw_privs_2, lw_okq q := List.forall_mem_cons.mpr ⟨lw_p16, List.forall_mem_cons.mpr ⟨lw_p17, List.forall_mem_cons.mpr ⟨lw_p18, List.forall_mem_cons.mpr ⟨lw_p19, List.forall_mem_cons.mpr ⟨lw_p20, List.forall_mem_cons.mpr ⟨lw_p21, List.forall_mem_cons.mpr ⟨lw_p22, List.forall_mem_cons.mpr ⟨lw_p23, List.forall_mem_cons.mpr ⟨lw_p24, List.forall_mem_cons.mpr ⟨lw_p25, List.forall_mem_cons.mpr ⟨lw_p26, List.forall_mem_cons.mpr ⟨lw_p27, List.forall_mem_cons.mpr ⟨lw_p28, List.forall_mem_cons.mpr ⟨lw_p29, List.forall_mem_cons.mpr ⟨lw_p30, List.forall_mem_cons.mpr ⟨lw_p31, fun _ h => absurd h List.not_mem_nil⟩⟩⟩⟩⟩⟩⟩⟩⟩⟩⟩⟩⟩⟩⟩⟩
theorem lw_p32 : lw_okq (⟨"SmellBordersModel", "lossOf", "(III)I"⟩, 34) := ⟨⟨by decide +kernel, by decide +kernel⟩, List.mem_of_getElem? (i := 640) (by decide +kernel), List.mem_of_getElem? (i := 829) (by decide +kernel), List.mem_of_getElem? (i := 830) (by decide +kernel)⟩
theorem lw_p33 : lw_okq (⟨"SmellBordersModel", "whose", "(I)I"⟩, 34) := ⟨⟨by decide +kernel, by decide +kernel⟩, List.mem_of_getElem? (i := 640) (by decide +kernel), List.mem_of_getElem? (i := 836) (by decide +kernel), List.mem_of_getElem? (i := 837) (by decide +kernel)⟩
theorem lw_p34 : lw_okq (⟨"SmellBordersModel", "bordersOf", "()I"⟩, 34) := ⟨⟨by decide +kernel, by decide +kernel⟩, List.mem_of_getElem? (i := 640) (by decide +kernel), List.mem_of_getElem? (i := 844) (by decide +kernel), List.mem_of_getElem? (i := 845) (by decide +kernel)⟩
theorem lw_p35 : lw_okq (⟨"SmellBordersModel", "isSource", "(I)Z"⟩, 34) := ⟨⟨by decide +kernel, by decide +kernel⟩, List.mem_of_getElem? (i := 640) (by decide +kernel), List.mem_of_getElem? (i := 852) (by decide +kernel), List.mem_of_getElem? (i := 853) (by decide +kernel)⟩
theorem lw_p36 : lw_okq (⟨"SmellBordersModel", "tell", "(II)I"⟩, 34) := ⟨⟨by decide +kernel, by decide +kernel⟩, List.mem_of_getElem? (i := 640) (by decide +kernel), List.mem_of_getElem? (i := 856) (by decide +kernel), List.mem_of_getElem? (i := 857) (by decide +kernel)⟩
theorem lw_p37 : lw_okq (⟨"SmellBordersModel", "ends", "()V"⟩, 34) := ⟨⟨by decide +kernel, by decide +kernel⟩, List.mem_of_getElem? (i := 640) (by decide +kernel), List.mem_of_getElem? (i := 891) (by decide +kernel), List.mem_of_getElem? (i := 892) (by decide +kernel)⟩
theorem lw_p38 : lw_okq (⟨"SmellBordersModel", "weakestOf", "(III)I"⟩, 34) := ⟨⟨by decide +kernel, by decide +kernel⟩, List.mem_of_getElem? (i := 640) (by decide +kernel), List.mem_of_getElem? (i := 899) (by decide +kernel), List.mem_of_getElem? (i := 900) (by decide +kernel)⟩
theorem lw_p39 : lw_okq (⟨"SmellBordersModel", "whoseBy", "(IIII)I"⟩, 34) := ⟨⟨by decide +kernel, by decide +kernel⟩, List.mem_of_getElem? (i := 640) (by decide +kernel), List.mem_of_getElem? (i := 903) (by decide +kernel), List.mem_of_getElem? (i := 904) (by decide +kernel)⟩
theorem lw_p40 : lw_okq (⟨"SmellBordersModel", "mayBeWalls", "(I)I"⟩, 34) := ⟨⟨by decide +kernel, by decide +kernel⟩, List.mem_of_getElem? (i := 640) (by decide +kernel), List.mem_of_getElem? (i := 914) (by decide +kernel), List.mem_of_getElem? (i := 915) (by decide +kernel)⟩
theorem lw_p41 : lw_okq (⟨"SmellBordersModel", "holdOf", "(II)I"⟩, 34) := ⟨⟨by decide +kernel, by decide +kernel⟩, List.mem_of_getElem? (i := 640) (by decide +kernel), List.mem_of_getElem? (i := 925) (by decide +kernel), List.mem_of_getElem? (i := 926) (by decide +kernel)⟩
theorem lw_p42 : lw_okq (⟨"SmellBordersModel", "isSmeltBy", "(I)Z"⟩, 34) := ⟨⟨by decide +kernel, by decide +kernel⟩, List.mem_of_getElem? (i := 640) (by decide +kernel), List.mem_of_getElem? (i := 942) (by decide +kernel), List.mem_of_getElem? (i := 943) (by decide +kernel)⟩
theorem lw_p43 : lw_okq (⟨"SmellBordersModel", "draw", "(I)I"⟩, 34) := ⟨⟨by decide +kernel, by decide +kernel⟩, List.mem_of_getElem? (i := 640) (by decide +kernel), List.mem_of_getElem? (i := 955) (by decide +kernel), List.mem_of_getElem? (i := 956) (by decide +kernel)⟩
theorem lw_p44 : lw_okq (⟨"SmellBordersModel", "countOf", "(I)I"⟩, 34) := ⟨⟨by decide +kernel, by decide +kernel⟩, List.mem_of_getElem? (i := 640) (by decide +kernel), List.mem_of_getElem? (i := 975) (by decide +kernel), List.mem_of_getElem? (i := 976) (by decide +kernel)⟩
theorem lw_p45 : lw_okq (⟨"SmellBordersModel", "burning", "()I"⟩, 34) := ⟨⟨by decide +kernel, by decide +kernel⟩, List.mem_of_getElem? (i := 640) (by decide +kernel), List.mem_of_getElem? (i := 979) (by decide +kernel), List.mem_of_getElem? (i := 980) (by decide +kernel)⟩
theorem lw_p46 : lw_okq (⟨"SmellBordersModel", "somebodys", "()I"⟩, 34) := ⟨⟨by decide +kernel, by decide +kernel⟩, List.mem_of_getElem? (i := 640) (by decide +kernel), List.mem_of_getElem? (i := 983) (by decide +kernel), List.mem_of_getElem? (i := 984) (by decide +kernel)⟩
theorem lw_p47 : lw_okq (⟨"SmellBordersModel", "sayCell", "(I)V"⟩, 34) := ⟨⟨by decide +kernel, by decide +kernel⟩, List.mem_of_getElem? (i := 640) (by decide +kernel), List.mem_of_getElem? (i := 992) (by decide +kernel), List.mem_of_getElem? (i := 993) (by decide +kernel)⟩
def lw_privs_3 : List (MethodName × Nat) := [(⟨"SmellBordersModel", "lossOf", "(III)I"⟩, 34), (⟨"SmellBordersModel", "whose", "(I)I"⟩, 34), (⟨"SmellBordersModel", "bordersOf", "()I"⟩, 34), (⟨"SmellBordersModel", "isSource", "(I)Z"⟩, 34), (⟨"SmellBordersModel", "tell", "(II)I"⟩, 34), (⟨"SmellBordersModel", "ends", "()V"⟩, 34), (⟨"SmellBordersModel", "weakestOf", "(III)I"⟩, 34), (⟨"SmellBordersModel", "whoseBy", "(IIII)I"⟩, 34), (⟨"SmellBordersModel", "mayBeWalls", "(I)I"⟩, 34), (⟨"SmellBordersModel", "holdOf", "(II)I"⟩, 34), (⟨"SmellBordersModel", "isSmeltBy", "(I)Z"⟩, 34), (⟨"SmellBordersModel", "draw", "(I)I"⟩, 34), (⟨"SmellBordersModel", "countOf", "(I)I"⟩, 34), (⟨"SmellBordersModel", "burning", "()I"⟩, 34), (⟨"SmellBordersModel", "somebodys", "()I"⟩, 34), (⟨"SmellBordersModel", "sayCell", "(I)V"⟩, 34)]
theorem lw_r3 : ∀ q ∈ lw_privs_3, lw_okq q := List.forall_mem_cons.mpr ⟨lw_p32, List.forall_mem_cons.mpr ⟨lw_p33, List.forall_mem_cons.mpr ⟨lw_p34, List.forall_mem_cons.mpr ⟨lw_p35, List.forall_mem_cons.mpr ⟨lw_p36, List.forall_mem_cons.mpr ⟨lw_p37, List.forall_mem_cons.mpr ⟨lw_p38, List.forall_mem_cons.mpr ⟨lw_p39, List.forall_mem_cons.mpr ⟨lw_p40, List.forall_mem_cons.mpr ⟨lw_p41, List.forall_mem_cons.mpr ⟨lw_p42, List.forall_mem_cons.mpr ⟨lw_p43, List.forall_mem_cons.mpr ⟨lw_p44, List.forall_mem_cons.mpr ⟨lw_p45, List.forall_mem_cons.mpr ⟨lw_p46, List.forall_mem_cons.mpr ⟨lw_p47, fun _ h => absurd h List.not_mem_nil⟩⟩⟩⟩⟩⟩⟩⟩⟩⟩⟩⟩⟩⟩⟩⟩
theorem lw_p48 : lw_okq (⟨"SmellBordersModel", "say", "(J)V"⟩, 34) := ⟨⟨by decide +kernel, by decide +kernel⟩, List.mem_of_getElem? (i := 640) (by decide +kernel), List.mem_of_getElem? (i := 996) (by decide +kernel), List.mem_of_getElem? (i := 997) (by decide +kernel)⟩
def lw_privs_4 : List (MethodName × Nat) := [(⟨"SmellBordersModel", "say", "(J)V"⟩, 34)]
theorem lw_r4 : ∀ q ∈ lw_privs_4, lw_okq q := List.forall_mem_cons.mpr ⟨lw_p48, fun _ h => absurd h List.not_mem_nil⟩
def lw_privs : List (MethodName × Nat) := lw_privs_1 ++ (lw_privs_2 ++ (lw_privs_3 ++ (lw_privs_4)))
def lw_tbl : List Cond := k2_sels lw_privs ++ tables_1
theorem lw_privs_ok : ∀ q ∈ lw_privs, lw_okq q := by
  show ∀ q ∈ lw_privs_1 ++ (lw_privs_2 ++ (lw_privs_3 ++ (lw_privs_4))), lw_okq q
  exact List.forall_mem_append.mpr ⟨lw_r1, List.forall_mem_append.mpr ⟨lw_r2, List.forall_mem_append.mpr ⟨lw_r3, lw_r4⟩⟩⟩
end
section
def RX0 : String := "SmellBorders$Air"
def TX0 : u_T := fun k => match k with
  | 0 => ("SmellBorders$Air", "most", "[I", true)
  | 1 => ("SmellBorders$Air", "by", "[I", true)
  | 2 => ("SmellBorders$Air", "whose", "[I", true)
  | _ => ("SmellBorders$Air", "left", "[I", true)
def tyX0 : Nat → FieldType := fun k => match k with
  | 0 => .array .int
  | 1 => .array .int
  | 2 => .array .int
  | _ => .array .int
theorem nmX0 : ∀ a, a < 4 → ∀ b, b < 4 → a ≠ b → (TX0 a).2.1 ≠ (TX0 b).2.1 := by decide +kernel
theorem tyX0_ok : ∀ k, k < 4 → parseFieldDescriptor (TX0 k).2.2.1 = some (tyX0 k) := by decide +kernel
abbrev cX0_init : ByteArray := prog_2_method_1_code
def yX0_init : MethodName := ⟨RX0, "<init>", "()V"⟩
abbrev cX0_settle : ByteArray := prog_2_method_2_code
def yX0_settle : MethodName := ⟨RX0, "settle", "(LSmellBorders$Valley;[LSmellBorders$Source;LSmellBorders$Standing;I)V"⟩
abbrev cX0_mingle : ByteArray := prog_2_method_3_code
def yX0_mingle : MethodName := ⟨RX0, "mingle", "(II)V"⟩
abbrev cX0_countBorders : ByteArray := prog_2_method_4_code
def yX0_countBorders : MethodName := ⟨RX0, "countBorders", "()I"⟩
abbrev cX0_isBorder : ByteArray := prog_2_method_5_code
def yX0_isBorder : MethodName := ⟨RX0, "isBorder", "(II)Z"⟩
abbrev cX0_countOwned : ByteArray := prog_2_method_6_code
def yX0_countOwned : MethodName := ⟨RX0, "countOwned", "()I"⟩
def RX1 : String := "SmellBorders$Cheese"
def TX1 : u_T := fun k => match k with
  | 0 => ("SmellBorders$Source", "parish", "I", true)
  | 1 => ("SmellBorders$Source", "cell", "I", true)
  | _ => ("SmellBorders$Source", "strength", "I", true)
def tyX1 : Nat → FieldType := fun k => match k with
  | 0 => .int
  | 1 => .int
  | _ => .int
theorem nmX1 : ∀ a, a < 3 → ∀ b, b < 3 → a ≠ b → (TX1 a).2.1 ≠ (TX1 b).2.1 := by decide +kernel
theorem tyX1_ok : ∀ k, k < 3 → parseFieldDescriptor (TX1 k).2.2.1 = some (tyX1 k) := by decide +kernel
abbrev cX1_init : ByteArray := prog_3_method_1_code
def yX1_init : MethodName := ⟨RX1, "<init>", "(III)V"⟩
abbrev cX1_kindNumber : ByteArray := prog_3_method_2_code
def yX1_kindNumber : MethodName := ⟨RX1, "kindNumber", "()I"⟩
abbrev cX1_force : ByteArray := prog_3_method_3_code
def yX1_force : MethodName := ⟨RX1, "force", "(I)I"⟩
def RX2 : String := "SmellBorders$Jasmine"
def TX2 : u_T := fun k => match k with
  | 0 => ("SmellBorders$Source", "parish", "I", true)
  | 1 => ("SmellBorders$Source", "cell", "I", true)
  | _ => ("SmellBorders$Source", "strength", "I", true)
def tyX2 : Nat → FieldType := fun k => match k with
  | 0 => .int
  | 1 => .int
  | _ => .int
theorem nmX2 : ∀ a, a < 3 → ∀ b, b < 3 → a ≠ b → (TX2 a).2.1 ≠ (TX2 b).2.1 := by decide +kernel
theorem tyX2_ok : ∀ k, k < 3 → parseFieldDescriptor (TX2 k).2.2.1 = some (tyX2 k) := by decide +kernel
abbrev cX2_init : ByteArray := prog_4_method_1_code
def yX2_init : MethodName := ⟨RX2, "<init>", "(III)V"⟩
abbrev cX2_kindNumber : ByteArray := prog_4_method_2_code
def yX2_kindNumber : MethodName := ⟨RX2, "kindNumber", "()I"⟩
abbrev cX2_smellsAt : ByteArray := prog_4_method_3_code
def yX2_smellsAt : MethodName := ⟨RX2, "smellsAt", "(IZ)Z"⟩
def RX3 : String := "SmellBorders$Page"
def TX3 : u_T := fun k => match k with
  | 0 => ("SmellBorders$Page", "letters", "[I", true)
  | _ => ("SmellBorders$Page", "many", "I", false)
def tyX3 : Nat → FieldType := fun k => match k with
  | 0 => .array .int
  | _ => .int
theorem nmX3 : ∀ a, a < 2 → ∀ b, b < 2 → a ≠ b → (TX3 a).2.1 ≠ (TX3 b).2.1 := by decide +kernel
theorem tyX3_ok : ∀ k, k < 2 → parseFieldDescriptor (TX3 k).2.2.1 = some (tyX3 k) := by decide +kernel
abbrev cX3_init : ByteArray := prog_5_method_1_code
def yX3_init : MethodName := ⟨RX3, "<init>", "()V"⟩
abbrev cX3_isFull : ByteArray := prog_5_method_2_code
def yX3_isFull : MethodName := ⟨RX3, "isFull", "()Z"⟩
abbrev cX3_append : ByteArray := prog_5_method_3_code
def yX3_append : MethodName := ⟨RX3, "append", "(I)V"⟩
abbrev cX3_firstWrong : ByteArray := prog_5_method_4_code
def yX3_firstWrong : MethodName := ⟨RX3, "firstWrong", "()I"⟩
abbrev cX3_isValley : ByteArray := prog_5_method_5_code
def yX3_isValley : MethodName := ⟨RX3, "isValley", "()Z"⟩
abbrev cX3_placeOf : ByteArray := prog_5_method_6_code
def yX3_placeOf : MethodName := ⟨RX3, "placeOf", "(I)I"⟩
abbrev cX3_fits : ByteArray := prog_5_method_7_code
def yX3_fits : MethodName := ⟨RX3, "fits", "(II)Z"⟩
def RX4 : String := "SmellBorders$Source"
def TX4 : u_T := fun k => match k with
  | 0 => ("SmellBorders$Source", "parish", "I", true)
  | 1 => ("SmellBorders$Source", "cell", "I", true)
  | _ => ("SmellBorders$Source", "strength", "I", true)
def tyX4 : Nat → FieldType := fun k => match k with
  | 0 => .int
  | 1 => .int
  | _ => .int
theorem nmX4 : ∀ a, a < 3 → ∀ b, b < 3 → a ≠ b → (TX4 a).2.1 ≠ (TX4 b).2.1 := by decide +kernel
theorem tyX4_ok : ∀ k, k < 3 → parseFieldDescriptor (TX4 k).2.2.1 = some (tyX4 k) := by decide +kernel
abbrev cX4_init : ByteArray := prog_6_method_1_code
def yX4_init : MethodName := ⟨RX4, "<init>", "(III)V"⟩
abbrev cX4_kindNumber : ByteArray := prog_6_method_2_code
def yX4_kindNumber : MethodName := ⟨RX4, "kindNumber", "()I"⟩
abbrev cX4_force : ByteArray := prog_6_method_3_code
def yX4_force : MethodName := ⟨RX4, "force", "(I)I"⟩
abbrev cX4_smellsAt : ByteArray := prog_6_method_4_code
def yX4_smellsAt : MethodName := ⟨RX4, "smellsAt", "(IZ)Z"⟩
abbrev cX4_ease : ByteArray := prog_6_method_5_code
def yX4_ease : MethodName := ⟨RX4, "ease", "()I"⟩
def RX5 : String := "SmellBorders$Standing"
def TX5 : u_T := fun k => match k with
  | 0 => ("SmellBorders$Standing", "sources", "I", false)
  | 1 => ("SmellBorders$Standing", "burns", "[Z", true)
  | 2 => ("SmellBorders$Standing", "burnt", "[I", true)
  | 3 => ("SmellBorders$Standing", "wind", "I", false)
  | 4 => ("SmellBorders$Standing", "frost", "Z", false)
  | 5 => ("SmellBorders$Standing", "hour", "I", false)
  | 6 => ("SmellBorders$Standing", "people", "[I", true)
  | 7 => ("SmellBorders$Standing", "taxes", "[I", true)
  | 8 => ("SmellBorders$Standing", "noses", "I", false)
  | 9 => ("SmellBorders$Standing", "noseCells", "[I", true)
  | _ => ("SmellBorders$Standing", "noseParishes", "[I", true)
def tyX5 : Nat → FieldType := fun k => match k with
  | 0 => .int
  | 1 => .array .boolean
  | 2 => .array .int
  | 3 => .int
  | 4 => .boolean
  | 5 => .int
  | 6 => .array .int
  | 7 => .array .int
  | 8 => .int
  | 9 => .array .int
  | _ => .array .int
theorem nmX5 : ∀ a, a < 11 → ∀ b, b < 11 → a ≠ b → (TX5 a).2.1 ≠ (TX5 b).2.1 := by decide +kernel
theorem tyX5_ok : ∀ k, k < 11 → parseFieldDescriptor (TX5 k).2.2.1 = some (tyX5 k) := by decide +kernel
abbrev cX5_init : ByteArray := prog_7_method_1_code
def yX5_init : MethodName := ⟨RX5, "<init>", "()V"⟩
abbrev cX5_copyFrom : ByteArray := prog_7_method_2_code
def yX5_copyFrom : MethodName := ⟨RX5, "copyFrom", "(LSmellBorders$Standing;)V"⟩
abbrev cX5_addSource : ByteArray := prog_7_method_3_code
def yX5_addSource : MethodName := ⟨RX5, "addSource", "()I"⟩
abbrev cX5_addNose : ByteArray := prog_7_method_4_code
def yX5_addNose : MethodName := ⟨RX5, "addNose", "(II)V"⟩
abbrev cX5_smells : ByteArray := prog_7_method_5_code
def yX5_smells : MethodName := ⟨RX5, "smells", "(LSmellBorders$Source;I)Z"⟩
abbrev cX5_countBurning : ByteArray := prog_7_method_6_code
def yX5_countBurning : MethodName := ⟨RX5, "countBurning", "()I"⟩
abbrev cX5_endHour : ByteArray := prog_7_method_7_code
def yX5_endHour : MethodName := ⟨RX5, "endHour", "()V"⟩
def RX6 : String := "SmellBorders$Tannery"
def TX6 : u_T := fun k => match k with
  | 0 => ("SmellBorders$Source", "parish", "I", true)
  | 1 => ("SmellBorders$Source", "cell", "I", true)
  | _ => ("SmellBorders$Source", "strength", "I", true)
def tyX6 : Nat → FieldType := fun k => match k with
  | 0 => .int
  | 1 => .int
  | _ => .int
theorem nmX6 : ∀ a, a < 3 → ∀ b, b < 3 → a ≠ b → (TX6 a).2.1 ≠ (TX6 b).2.1 := by decide +kernel
theorem tyX6_ok : ∀ k, k < 3 → parseFieldDescriptor (TX6 k).2.2.1 = some (tyX6 k) := by decide +kernel
abbrev cX6_init : ByteArray := prog_8_method_1_code
def yX6_init : MethodName := ⟨RX6, "<init>", "(III)V"⟩
abbrev cX6_kindNumber : ByteArray := prog_8_method_2_code
def yX6_kindNumber : MethodName := ⟨RX6, "kindNumber", "()I"⟩
abbrev cX6_ease : ByteArray := prog_8_method_3_code
def yX6_ease : MethodName := ⟨RX6, "ease", "()I"⟩
def RX7 : String := "SmellBorders$Valley"
def TX7 : u_T := fun k => match k with
  | 0 => ("SmellBorders$Valley", "ground", "[I", true)
  | 1 => ("SmellBorders$Valley", "open", "I", false)
  | _ => ("SmellBorders$Valley", "fade", "I", false)
def tyX7 : Nat → FieldType := fun k => match k with
  | 0 => .array .int
  | 1 => .int
  | _ => .int
theorem nmX7 : ∀ a, a < 3 → ∀ b, b < 3 → a ≠ b → (TX7 a).2.1 ≠ (TX7 b).2.1 := by decide +kernel
theorem tyX7_ok : ∀ k, k < 3 → parseFieldDescriptor (TX7 k).2.2.1 = some (tyX7 k) := by decide +kernel
abbrev cX7_init : ByteArray := prog_9_method_1_code
def yX7_init : MethodName := ⟨RX7, "<init>", "()V"⟩
abbrev cX7_isThere : ByteArray := prog_9_method_2_code
def yX7_isThere : MethodName := ⟨RX7, "isThere", "()Z"⟩
abbrev cX7_isOpen : ByteArray := prog_9_method_3_code
def yX7_isOpen : MethodName := ⟨RX7, "isOpen", "(I)Z"⟩
abbrev cX7_isWall : ByteArray := prog_9_method_4_code
def yX7_isWall : MethodName := ⟨RX7, "isWall", "(I)Z"⟩
abbrev cX7_take : ByteArray := prog_9_method_5_code
def yX7_take : MethodName := ⟨RX7, "take", "(LSmellBorders$Page;)V"⟩
abbrev cX7_beside : ByteArray := prog_9_method_6_code
def yX7_beside : MethodName := ⟨RX7, "beside", "(II)I"⟩
abbrev cX7_opposite : ByteArray := prog_9_method_7_code
def yX7_opposite : MethodName := ⟨RX7, "opposite", "(I)I"⟩
abbrev cX7_loss : ByteArray := prog_9_method_8_code
def yX7_loss : MethodName := ⟨RX7, "loss", "(IIII)I"⟩
abbrev cX7_spread : ByteArray := prog_9_method_9_code
def yX7_spread : MethodName := ⟨RX7, "spread", "(IIIII[I)V"⟩
abbrev cX7_spreadOn : ByteArray := prog_9_method_10_code
def yX7_spreadOn : MethodName := ⟨RX7, "spreadOn", "(IIII[I)Z"⟩
def RX8 : String := "SmellBorders$Vat"
def TX8 : u_T := fun k => match k with
  | 0 => ("SmellBorders$Source", "parish", "I", true)
  | 1 => ("SmellBorders$Source", "cell", "I", true)
  | _ => ("SmellBorders$Source", "strength", "I", true)
def tyX8 : Nat → FieldType := fun k => match k with
  | 0 => .int
  | 1 => .int
  | _ => .int
theorem nmX8 : ∀ a, a < 3 → ∀ b, b < 3 → a ≠ b → (TX8 a).2.1 ≠ (TX8 b).2.1 := by decide +kernel
theorem tyX8_ok : ∀ k, k < 3 → parseFieldDescriptor (TX8 k).2.2.1 = some (tyX8 k) := by decide +kernel
abbrev cX8_init : ByteArray := prog_10_method_1_code
def yX8_init : MethodName := ⟨RX8, "<init>", "(III)V"⟩
abbrev cX8_kindNumber : ByteArray := prog_10_method_2_code
def yX8_kindNumber : MethodName := ⟨RX8, "kindNumber", "()I"⟩
abbrev cX8_smellsAt : ByteArray := prog_10_method_3_code
def yX8_smellsAt : MethodName := ⟨RX8, "smellsAt", "(IZ)Z"⟩
def RX9 : String := "SmellBorders"
def TX9 : u_T := fun k => match k with
  | 0 => ("SmellBorders", "page", "LSmellBorders$Page;", true)
  | 1 => ("SmellBorders", "valley", "LSmellBorders$Valley;", true)
  | 2 => ("SmellBorders", "sources", "[LSmellBorders$Source;", true)
  | 3 => ("SmellBorders", "now", "LSmellBorders$Standing;", true)
  | 4 => ("SmellBorders", "kept", "LSmellBorders$Standing;", true)
  | 5 => ("SmellBorders", "ahead", "LSmellBorders$Standing;", true)
  | 6 => ("SmellBorders", "air", "LSmellBorders$Air;", true)
  | 7 => ("SmellBorders", "left", "[I", true)
  | 8 => ("SmellBorders", "holder", "[I", true)
  | 9 => ("SmellBorders", "held", "[I", true)
  | 10 => ("SmellBorders", "findings", "[I", true)
  | 11 => ("SmellBorders", "hasImage", "Z", false)
  | 12 => ("SmellBorders", "valleysRead", "I", false)
  | 13 => ("SmellBorders", "wallsDone", "I", false)
  | _ => ("SmellBorders", "asked", "I", false)
def tyX9 : Nat → FieldType := fun k => match k with
  | 0 => .object "SmellBorders$Page"
  | 1 => .object "SmellBorders$Valley"
  | 2 => .array (.object "SmellBorders$Source")
  | 3 => .object "SmellBorders$Standing"
  | 4 => .object "SmellBorders$Standing"
  | 5 => .object "SmellBorders$Standing"
  | 6 => .object "SmellBorders$Air"
  | 7 => .array .int
  | 8 => .array .int
  | 9 => .array .int
  | 10 => .array .int
  | 11 => .boolean
  | 12 => .int
  | 13 => .int
  | _ => .int
theorem nmX9 : ∀ a, a < 15 → ∀ b, b < 15 → a ≠ b → (TX9 a).2.1 ≠ (TX9 b).2.1 := by decide +kernel
theorem tyX9_ok : ∀ k, k < 15 → parseFieldDescriptor (TX9 k).2.2.1 = some (tyX9 k) := by decide +kernel
abbrev cX9_init : ByteArray := prog_1_method_1_code
def yX9_init : MethodName := ⟨RX9, "<init>", "()V"⟩
abbrev cX9_letter : ByteArray := prog_1_method_2_code
def yX9_letter : MethodName := ⟨RX9, "letter", "(I)I"⟩
abbrev cX9_blank : ByteArray := prog_1_method_3_code
def yX9_blank : MethodName := ⟨RX9, "blank", "()I"⟩
abbrev cX9_fault : ByteArray := prog_1_method_4_code
def yX9_fault : MethodName := ⟨RX9, "fault", "()I"⟩
abbrev cX9_valley : ByteArray := prog_1_method_5_code
def yX9_valley : MethodName := ⟨RX9, "valley", "()I"⟩
abbrev cX9_cell : ByteArray := prog_1_method_6_code
def yX9_cell : MethodName := ⟨RX9, "cell", "(II)I"⟩
abbrev cX9_borders : ByteArray := prog_1_method_7_code
def yX9_borders : MethodName := ⟨RX9, "borders", "()I"⟩
abbrev cX9_source : ByteArray := prog_1_method_8_code
def yX9_source : MethodName := ⟨RX9, "source", "(IIII)I"⟩
abbrev cX9_about : ByteArray := prog_1_method_9_code
def yX9_about : MethodName := ⟨RX9, "about", "(II)I"⟩
abbrev cX9_as : ByteArray := prog_1_method_10_code
def yX9_as : MethodName := ⟨RX9, "as", "(II)I"⟩
abbrev cX9_burn : ByteArray := prog_1_method_11_code
def yX9_burn : MethodName := ⟨RX9, "burn", "(IZ)I"⟩
abbrev cX9_wind : ByteArray := prog_1_method_12_code
def yX9_wind : MethodName := ⟨RX9, "wind", "(I)I"⟩
abbrev cX9_frost : ByteArray := prog_1_method_13_code
def yX9_frost : MethodName := ⟨RX9, "frost", "(Z)I"⟩
abbrev cX9_people : ByteArray := prog_1_method_14_code
def yX9_people : MethodName := ⟨RX9, "people", "(II)I"⟩
abbrev cX9_dusk : ByteArray := prog_1_method_15_code
def yX9_dusk : MethodName := ⟨RX9, "dusk", "()I"⟩
abbrev cX9_hour : ByteArray := prog_1_method_16_code
def yX9_hour : MethodName := ⟨RX9, "hour", "()I"⟩
abbrev cX9_weakest : ByteArray := prog_1_method_17_code
def yX9_weakest : MethodName := ⟨RX9, "weakest", "(III)I"⟩
abbrev cX9_walls : ByteArray := prog_1_method_18_code
def yX9_walls : MethodName := ⟨RX9, "walls", "(III)I"⟩
abbrev cX9_hold : ByteArray := prog_1_method_19_code
def yX9_hold : MethodName := ⟨RX9, "hold", "(II)I"⟩
abbrev cX9_nose : ByteArray := prog_1_method_20_code
def yX9_nose : MethodName := ⟨RX9, "nose", "(II)I"⟩
abbrev cX9_forget : ByteArray := prog_1_method_21_code
def yX9_forget : MethodName := ⟨RX9, "forget", "()I"⟩
abbrev cX9_unknown : ByteArray := prog_1_method_22_code
def yX9_unknown : MethodName := ⟨RX9, "unknown", "(I)I"⟩
abbrev cX9_sniff : ByteArray := prog_1_method_23_code
def yX9_sniff : MethodName := ⟨RX9, "sniff", "()I"⟩
abbrev cX9_days : ByteArray := prog_1_method_24_code
def yX9_days : MethodName := ⟨RX9, "days", "(III)I"⟩
abbrev cX9_image : ByteArray := prog_1_method_25_code
def yX9_image : MethodName := ⟨RX9, "image", "()I"⟩
abbrev cX9_restore : ByteArray := prog_1_method_26_code
def yX9_restore : MethodName := ⟨RX9, "restore", "()I"⟩
abbrev cX9_count : ByteArray := prog_1_method_27_code
def yX9_count : MethodName := ⟨RX9, "count", "(I)I"⟩
abbrev cX9_digest : ByteArray := prog_1_method_28_code
def yX9_digest : MethodName := ⟨RX9, "digest", "()J"⟩
abbrev cX9_isParish : ByteArray := prog_1_method_29_code
def yX9_isParish : MethodName := ⟨RX9, "isParish", "(I)Z"⟩
abbrev cX9_isZeroOrOne : ByteArray := prog_1_method_30_code
def yX9_isZeroOrOne : MethodName := ⟨RX9, "isZeroOrOne", "(I)Z"⟩
abbrev cX9_bit : ByteArray := prog_1_method_31_code
def yX9_bit : MethodName := ⟨RX9, "bit", "(Z)I"⟩
abbrev cX9_mix : ByteArray := prog_1_method_32_code
def yX9_mix : MethodName := ⟨RX9, "mix", "(JJ)J"⟩
abbrev cX9_nextSeed : ByteArray := prog_1_method_33_code
def yX9_nextSeed : MethodName := ⟨RX9, "nextSeed", "(I)I"⟩
abbrev cX9_draw : ByteArray := prog_1_method_34_code
def yX9_draw : MethodName := ⟨RX9, "draw", "(II)I"⟩
abbrev cX9_make : ByteArray := prog_1_method_35_code
def yX9_make : MethodName := ⟨RX9, "make", "(IIII)LSmellBorders$Source;"⟩
abbrev cX9_isOfKind : ByteArray := prog_1_method_36_code
def yX9_isOfKind : MethodName := ⟨RX9, "isOfKind", "(LSmellBorders$Source;I)Z"⟩
abbrev cX9_isCell : ByteArray := prog_1_method_37_code
def yX9_isCell : MethodName := ⟨RX9, "isCell", "(I)Z"⟩
abbrev cX9_find : ByteArray := prog_1_method_38_code
def yX9_find : MethodName := ⟨RX9, "find", "(I)LSmellBorders$Source;"⟩
abbrev cX9_settleNow : ByteArray := prog_1_method_39_code
def yX9_settleNow : MethodName := ⟨RX9, "settleNow", "()V"⟩
abbrev cX9_mayAsk : ByteArray := prog_1_method_40_code
def yX9_mayAsk : MethodName := ⟨RX9, "mayAsk", "()Z"⟩
abbrev cX9_tellOfCell : ByteArray := prog_1_method_41_code
def yX9_tellOfCell : MethodName := ⟨RX9, "tellOfCell", "(II)I"⟩
abbrev cX9_tellOfSource : ByteArray := prog_1_method_42_code
def yX9_tellOfSource : MethodName := ⟨RX9, "tellOfSource", "(LSmellBorders$Source;II)I"⟩
abbrev cX9_tellOfAll : ByteArray := prog_1_method_43_code
def yX9_tellOfAll : MethodName := ⟨RX9, "tellOfAll", "(I)I"⟩
abbrev cX9_digestCells : ByteArray := prog_1_method_44_code
def yX9_digestCells : MethodName := ⟨RX9, "digestCells", "(J)J"⟩
abbrev cX9_digestSource : ByteArray := prog_1_method_45_code
def yX9_digestSource : MethodName := ⟨RX9, "digestSource", "(JI)J"⟩
abbrev cX9_spreadOneMore : ByteArray := prog_1_method_46_code
def yX9_spreadOneMore : MethodName := ⟨RX9, "spreadOneMore", "(II)V"⟩
abbrev cX9_wouldWin : ByteArray := prog_1_method_47_code
def yX9_wouldWin : MethodName := ⟨RX9, "wouldWin", "(III)Z"⟩
abbrev cX9_fewestWalls : ByteArray := prog_1_method_48_code
def yX9_fewestWalls : MethodName := ⟨RX9, "fewestWalls", "(II)I"⟩
abbrev cX9_cellsFreeForWalls : ByteArray := prog_1_method_49_code
def yX9_cellsFreeForWalls : MethodName := ⟨RX9, "cellsFreeForWalls", "(I)I"⟩
abbrev cX9_watchHolders : ByteArray := prog_1_method_50_code
def yX9_watchHolders : MethodName := ⟨RX9, "watchHolders", "()V"⟩
abbrev cX9_heldBy : ByteArray := prog_1_method_51_code
def yX9_heldBy : MethodName := ⟨RX9, "heldBy", "(II)I"⟩
abbrev cX9_fitsNoses : ByteArray := prog_1_method_52_code
def yX9_fitsNoses : MethodName := ⟨RX9, "fitsNoses", "(I)Z"⟩
abbrev cX9_parishOf : ByteArray := prog_1_method_53_code
def yX9_parishOf : MethodName := ⟨RX9, "parishOf", "(I)I"⟩
abbrev cX9_whoseWith : ByteArray := prog_1_method_54_code
def yX9_whoseWith : MethodName := ⟨RX9, "whoseWith", "(II)I"⟩
abbrev cX9_tallyFindings : ByteArray := prog_1_method_55_code
def yX9_tallyFindings : MethodName := ⟨RX9, "tallyFindings", "()I"⟩
abbrev cX9_cellOfFewestLeft : ByteArray := prog_1_method_56_code
def yX9_cellOfFewestLeft : MethodName := ⟨RX9, "cellOfFewestLeft", "()I"⟩
def RX10 : String := "SmellBordersModel"
def TX10 : u_T := fun k => match k with
  | 0 => ("SmellBordersModel", "page", "[I", true)
  | 1 => ("SmellBordersModel", "pageMany", "I", false)
  | 2 => ("SmellBordersModel", "fade", "I", false)
  | 3 => ("SmellBordersModel", "windNow", "I", false)
  | 4 => ("SmellBordersModel", "frostNow", "I", false)
  | 5 => ("SmellBordersModel", "hourNow", "I", false)
  | 6 => ("SmellBordersModel", "valleysRead", "I", false)
  | 7 => ("SmellBordersModel", "ground", "[I", true)
  | 8 => ("SmellBordersModel", "people", "[I", true)
  | 9 => ("SmellBordersModel", "taxes", "[I", true)
  | 10 => ("SmellBordersModel", "sources", "I", false)
  | 11 => ("SmellBordersModel", "rows", "[I", true)
  | 12 => ("SmellBordersModel", "much", "[I", true)
  | 13 => ("SmellBordersModel", "byWhich", "[I", true)
  | 14 => ("SmellBordersModel", "most", "[I", true)
  | 15 => ("SmellBordersModel", "wallsMany", "I", false)
  | 16 => ("SmellBordersModel", "savedGround", "[I", true)
  | 17 => ("SmellBordersModel", "savedRows", "[I", true)
  | 18 => ("SmellBordersModel", "noseMany", "I", false)
  | 19 => ("SmellBordersModel", "asked", "I", false)
  | 20 => ("SmellBordersModel", "noses", "[I", true)
  | 21 => ("SmellBordersModel", "leftBy", "[I", true)
  | 22 => ("SmellBordersModel", "seedNow", "I", false)
  | 23 => ("SmellBordersModel", "keptValley", "I", false)
  | 24 => ("SmellBordersModel", "keptSources", "I", false)
  | 25 => ("SmellBordersModel", "keptWind", "I", false)
  | 26 => ("SmellBordersModel", "keptFrost", "I", false)
  | 27 => ("SmellBordersModel", "keptHour", "I", false)
  | 28 => ("SmellBordersModel", "keptNoseMany", "I", false)
  | 29 => ("SmellBordersModel", "keptRows", "[I", true)
  | 30 => ("SmellBordersModel", "keptPeople", "[I", true)
  | 31 => ("SmellBordersModel", "keptTaxes", "[I", true)
  | 32 => ("SmellBordersModel", "keptNoses", "[I", true)
  | _ => ("SmellBordersModel", "hash", "J", false)
def tyX10 : Nat → FieldType := fun k => match k with
  | 0 => .array .int
  | 1 => .int
  | 2 => .int
  | 3 => .int
  | 4 => .int
  | 5 => .int
  | 6 => .int
  | 7 => .array .int
  | 8 => .array .int
  | 9 => .array .int
  | 10 => .int
  | 11 => .array .int
  | 12 => .array .int
  | 13 => .array .int
  | 14 => .array .int
  | 15 => .int
  | 16 => .array .int
  | 17 => .array .int
  | 18 => .int
  | 19 => .int
  | 20 => .array .int
  | 21 => .array .int
  | 22 => .int
  | 23 => .int
  | 24 => .int
  | 25 => .int
  | 26 => .int
  | 27 => .int
  | 28 => .int
  | 29 => .array .int
  | 30 => .array .int
  | 31 => .array .int
  | 32 => .array .int
  | _ => .long
theorem nmX10 : ∀ a, a < 34 → ∀ b, b < 34 → a ≠ b → (TX10 a).2.1 ≠ (TX10 b).2.1 := by decide +kernel
theorem tyX10_ok : ∀ k, k < 34 → parseFieldDescriptor (TX10 k).2.2.1 = some (tyX10 k) := by decide +kernel
abbrev cX10_init : ByteArray := prog_12_method_1_code
def yX10_init : MethodName := ⟨RX10, "<init>", "()V"⟩
abbrev cX10_in : ByteArray := prog_12_method_2_code
def yX10_in : MethodName := ⟨RX10, "in", "(JJJ)Z"⟩
abbrev cX10_letter : ByteArray := prog_12_method_3_code
def yX10_letter : MethodName := ⟨RX10, "letter", "(I)I"⟩
abbrev cX10_blank : ByteArray := prog_12_method_4_code
def yX10_blank : MethodName := ⟨RX10, "blank", "()I"⟩
abbrev cX10_isGood : ByteArray := prog_12_method_5_code
def yX10_isGood : MethodName := ⟨RX10, "isGood", "(II)Z"⟩
abbrev cX10_faultOf : ByteArray := prog_12_method_6_code
def yX10_faultOf : MethodName := ⟨RX10, "faultOf", "()I"⟩
abbrev cX10_fault : ByteArray := prog_12_method_7_code
def yX10_fault : MethodName := ⟨RX10, "fault", "()I"⟩
abbrev cX10_opens : ByteArray := prog_12_method_8_code
def yX10_opens : MethodName := ⟨RX10, "opens", "()I"⟩
abbrev cX10_valley : ByteArray := prog_12_method_9_code
def yX10_valley : MethodName := ⟨RX10, "valley", "()I"⟩
abbrev cX10_lacks : ByteArray := prog_12_method_10_code
def yX10_lacks : MethodName := ⟨RX10, "lacks", "()Z"⟩
abbrev cX10_isCell : ByteArray := prog_12_method_11_code
def yX10_isCell : MethodName := ⟨RX10, "isCell", "(I)Z"⟩
abbrev cX10_isSource : ByteArray := prog_12_method_12_code
def yX10_isSource : MethodName := ⟨RX10, "isSource", "(I)Z"⟩
abbrev cX10_lay : ByteArray := prog_12_method_13_code
def yX10_lay : MethodName := ⟨RX10, "lay", "(IIIII)V"⟩
abbrev cX10_source : ByteArray := prog_12_method_14_code
def yX10_source : MethodName := ⟨RX10, "source", "(IIII)I"⟩
abbrev cX10_smells : ByteArray := prog_12_method_15_code
def yX10_smells : MethodName := ⟨RX10, "smells", "(I)Z"⟩
abbrev cX10_forceOf : ByteArray := prog_12_method_16_code
def yX10_forceOf : MethodName := ⟨RX10, "forceOf", "(I)I"⟩
abbrev cX10_beside : ByteArray := prog_12_method_17_code
def yX10_beside : MethodName := ⟨RX10, "beside", "(II)I"⟩
abbrev cX10_against : ByteArray := prog_12_method_18_code
def yX10_against : MethodName := ⟨RX10, "against", "(I)I"⟩
abbrev cX10_lossOf : ByteArray := prog_12_method_19_code
def yX10_lossOf : MethodName := ⟨RX10, "lossOf", "(III)I"⟩
abbrev cX10_layMuch : ByteArray := prog_12_method_20_code
def yX10_layMuch : MethodName := ⟨RX10, "layMuch", "(I)V"⟩
abbrev cX10_layCells : ByteArray := prog_12_method_21_code
def yX10_layCells : MethodName := ⟨RX10, "layCells", "()V"⟩
abbrev cX10_whose : ByteArray := prog_12_method_22_code
def yX10_whose : MethodName := ⟨RX10, "whose", "(I)I"⟩
abbrev cX10_tellCell : ByteArray := prog_12_method_23_code
def yX10_tellCell : MethodName := ⟨RX10, "tellCell", "(II)I"⟩
abbrev cX10_cell : ByteArray := prog_12_method_24_code
def yX10_cell : MethodName := ⟨RX10, "cell", "(II)I"⟩
abbrev cX10_bordersOf : ByteArray := prog_12_method_25_code
def yX10_bordersOf : MethodName := ⟨RX10, "bordersOf", "()I"⟩
abbrev cX10_borders : ByteArray := prog_12_method_26_code
def yX10_borders : MethodName := ⟨RX10, "borders", "()I"⟩
abbrev cX10_tell : ByteArray := prog_12_method_27_code
def yX10_tell : MethodName := ⟨RX10, "tell", "(II)I"⟩
abbrev cX10_about : ByteArray := prog_12_method_28_code
def yX10_about : MethodName := ⟨RX10, "about", "(II)I"⟩
abbrev cX10_as : ByteArray := prog_12_method_29_code
def yX10_as : MethodName := ⟨RX10, "as", "(II)I"⟩
abbrev cX10_burn : ByteArray := prog_12_method_30_code
def yX10_burn : MethodName := ⟨RX10, "burn", "(IZ)I"⟩
abbrev cX10_wind : ByteArray := prog_12_method_31_code
def yX10_wind : MethodName := ⟨RX10, "wind", "(I)I"⟩
abbrev cX10_frost : ByteArray := prog_12_method_32_code
def yX10_frost : MethodName := ⟨RX10, "frost", "(Z)I"⟩
abbrev cX10_people : ByteArray := prog_12_method_33_code
def yX10_people : MethodName := ⟨RX10, "people", "(II)I"⟩
abbrev cX10_dusk : ByteArray := prog_12_method_34_code
def yX10_dusk : MethodName := ⟨RX10, "dusk", "()I"⟩
abbrev cX10_ends : ByteArray := prog_12_method_35_code
def yX10_ends : MethodName := ⟨RX10, "ends", "()V"⟩
abbrev cX10_hour : ByteArray := prog_12_method_36_code
def yX10_hour : MethodName := ⟨RX10, "hour", "()I"⟩
abbrev cX10_whoseBy : ByteArray := prog_12_method_37_code
def yX10_whoseBy : MethodName := ⟨RX10, "whoseBy", "(IIII)I"⟩
abbrev cX10_weakestOf : ByteArray := prog_12_method_38_code
def yX10_weakestOf : MethodName := ⟨RX10, "weakestOf", "(III)I"⟩
abbrev cX10_weakest : ByteArray := prog_12_method_39_code
def yX10_weakest : MethodName := ⟨RX10, "weakest", "(III)I"⟩
abbrev cX10_copy : ByteArray := prog_12_method_40_code
def yX10_copy : MethodName := ⟨RX10, "copy", "([I[I)V"⟩
abbrev cX10_ones : ByteArray := prog_12_method_41_code
def yX10_ones : MethodName := ⟨RX10, "ones", "(I)I"⟩
abbrev cX10_mayBeWalls : ByteArray := prog_12_method_42_code
def yX10_mayBeWalls : MethodName := ⟨RX10, "mayBeWalls", "(I)I"⟩
abbrev cX10_walls : ByteArray := prog_12_method_43_code
def yX10_walls : MethodName := ⟨RX10, "walls", "(III)I"⟩
abbrev cX10_holdOf : ByteArray := prog_12_method_44_code
def yX10_holdOf : MethodName := ⟨RX10, "holdOf", "(II)I"⟩
abbrev cX10_hold : ByteArray := prog_12_method_45_code
def yX10_hold : MethodName := ⟨RX10, "hold", "(II)I"⟩
abbrev cX10_nose : ByteArray := prog_12_method_46_code
def yX10_nose : MethodName := ⟨RX10, "nose", "(II)I"⟩
abbrev cX10_forget : ByteArray := prog_12_method_47_code
def yX10_forget : MethodName := ⟨RX10, "forget", "()I"⟩
abbrev cX10_isSmeltBy : ByteArray := prog_12_method_48_code
def yX10_isSmeltBy : MethodName := ⟨RX10, "isSmeltBy", "(I)Z"⟩
abbrev cX10_unknown : ByteArray := prog_12_method_49_code
def yX10_unknown : MethodName := ⟨RX10, "unknown", "(I)I"⟩
abbrev cX10_sniff : ByteArray := prog_12_method_50_code
def yX10_sniff : MethodName := ⟨RX10, "sniff", "()I"⟩
abbrev cX10_draw : ByteArray := prog_12_method_51_code
def yX10_draw : MethodName := ⟨RX10, "draw", "(I)I"⟩
abbrev cX10_days : ByteArray := prog_12_method_52_code
def yX10_days : MethodName := ⟨RX10, "days", "(III)I"⟩
abbrev cX10_image : ByteArray := prog_12_method_53_code
def yX10_image : MethodName := ⟨RX10, "image", "()I"⟩
abbrev cX10_restore : ByteArray := prog_12_method_54_code
def yX10_restore : MethodName := ⟨RX10, "restore", "()I"⟩
abbrev cX10_burning : ByteArray := prog_12_method_55_code
def yX10_burning : MethodName := ⟨RX10, "burning", "()I"⟩
abbrev cX10_somebodys : ByteArray := prog_12_method_56_code
def yX10_somebodys : MethodName := ⟨RX10, "somebodys", "()I"⟩
abbrev cX10_countOf : ByteArray := prog_12_method_57_code
def yX10_countOf : MethodName := ⟨RX10, "countOf", "(I)I"⟩
abbrev cX10_count : ByteArray := prog_12_method_58_code
def yX10_count : MethodName := ⟨RX10, "count", "(I)I"⟩
abbrev cX10_say : ByteArray := prog_12_method_59_code
def yX10_say : MethodName := ⟨RX10, "say", "(J)V"⟩
abbrev cX10_sayCell : ByteArray := prog_12_method_60_code
def yX10_sayCell : MethodName := ⟨RX10, "sayCell", "(I)V"⟩
abbrev cX10_digest : ByteArray := prog_12_method_61_code
def yX10_digest : MethodName := ⟨RX10, "digest", "()J"⟩
def RJ6 : String := "java/lang/Integer"
def TJ6 : u_T := fun k => match k with
  | _ => ("", "", "", false)
def tyJ6 : Nat → FieldType := fun k => match k with
  | _ => .int
theorem nmJ6 : ∀ a, a < 0 → ∀ b, b < 0 → a ≠ b → (TJ6 a).2.1 ≠ (TJ6 b).2.1 := by decide +kernel
theorem tyJ6_ok : ∀ k, k < 0 → parseFieldDescriptor (TJ6 k).2.2.1 = some (tyJ6 k) := by decide +kernel
abbrev cJ6_bitCount_0f7a4 : ByteArray := prog_13_method_49_code
def yJ6_bitCount_0f7a4 : MethodName := ⟨RJ6, "bitCount", "(I)I"⟩
def RJ9 : String := "java/lang/Math"
def TJ9 : u_T := fun k => match k with
  | _ => ("", "", "", false)
def tyJ9 : Nat → FieldType := fun k => match k with
  | _ => .int
theorem nmJ9 : ∀ a, a < 0 → ∀ b, b < 0 → a ≠ b → (TJ9 a).2.1 ≠ (TJ9 b).2.1 := by decide +kernel
theorem tyJ9_ok : ∀ k, k < 0 → parseFieldDescriptor (TJ9 k).2.2.1 = some (tyJ9 k) := by decide +kernel
abbrev cJ9_max_7cf53 : ByteArray := prog_14_method_65_code
def yJ9_max_7cf53 : MethodName := ⟨RJ9, "max", "(II)I"⟩
abbrev cJ9_min_7cf53 : ByteArray := prog_14_method_69_code
def yJ9_min_7cf53 : MethodName := ⟨RJ9, "min", "(II)I"⟩
def RJ10 : String := "java/lang/System"
def TJ10 : u_T := fun k => match k with
  | _ => ("", "", "", false)
def tyJ10 : Nat → FieldType := fun k => match k with
  | _ => .int
theorem nmJ10 : ∀ a, a < 0 → ∀ b, b < 0 → a ≠ b → (TJ10 a).2.1 ≠ (TJ10 b).2.1 := by decide +kernel
theorem tyJ10_ok : ∀ k, k < 0 → parseFieldDescriptor (TJ10 k).2.2.1 = some (tyJ10 k) := by decide +kernel
def RL : String := "SmellBordersLaw"
abbrev cL_law : ByteArray := code
def yL_law : MethodName := ⟨RL, "law", "([I)Z"⟩
abbrev vwCl : List vw_C := [(RX0, TX0, 4), (RX1, TX1, 3), (RX2, TX2, 3), (RX3, TX3, 2), (RX4, TX4, 3), (RX5, TX5, 11), (RX6, TX6, 3), (RX7, TX7, 3), (RX8, TX8, 3), (RX9, TX9, 15), (RX10, TX10, 34)]
end
section
theorem dX0_init_0 : decode cX0_init 0 = .ok (.aload_n 0, 1) := by decide +kernel
theorem dX0_init_1 : decode cX0_init 1 = .ok (.invokespecial 3, 3) := by decide +kernel
theorem dX0_init_4 : decode cX0_init 4 = .ok (.aload_n 0, 1) := by decide +kernel
theorem dX0_init_5 : decode cX0_init 5 = .ok (.bipush 8, 2) := by decide +kernel
theorem dX0_init_7 : decode cX0_init 7 = .ok (.newarray .int, 2) := by decide +kernel
theorem dX0_init_9 : decode cX0_init 9 = .ok (.putfield 9, 3) := by decide +kernel
theorem dX0_init_12 : decode cX0_init 12 = .ok (.aload_n 0, 1) := by decide +kernel
theorem dX0_init_13 : decode cX0_init 13 = .ok (.bipush 8, 2) := by decide +kernel
theorem dX0_init_15 : decode cX0_init 15 = .ok (.newarray .int, 2) := by decide +kernel
theorem dX0_init_17 : decode cX0_init 17 = .ok (.putfield 15, 3) := by decide +kernel
theorem dX0_init_20 : decode cX0_init 20 = .ok (.aload_n 0, 1) := by decide +kernel
theorem dX0_init_21 : decode cX0_init 21 = .ok (.bipush 8, 2) := by decide +kernel
theorem dX0_init_23 : decode cX0_init 23 = .ok (.newarray .int, 2) := by decide +kernel
theorem dX0_init_25 : decode cX0_init 25 = .ok (.putfield 18, 3) := by decide +kernel
theorem dX0_init_28 : decode cX0_init 28 = .ok (.aload_n 0, 1) := by decide +kernel
theorem dX0_init_29 : decode cX0_init 29 = .ok (.bipush 8, 2) := by decide +kernel
theorem dX0_init_31 : decode cX0_init 31 = .ok (.newarray .int, 2) := by decide +kernel
theorem dX0_init_33 : decode cX0_init 33 = .ok (.putfield 21, 3) := by decide +kernel
theorem dX0_init_36 : decode cX0_init 36 = .ok (.return_, 1) := by decide +kernel
theorem dX0_settle_0 : decode cX0_settle 0 = .ok (.iconst 0, 1) := by decide +kernel
theorem dX0_settle_1 : decode cX0_settle 1 = .ok (.istore 5, 2) := by decide +kernel
theorem dX0_settle_3 : decode cX0_settle 3 = .ok (.iload 5, 2) := by decide +kernel
theorem dX0_settle_5 : decode cX0_settle 5 = .ok (.bipush 8, 2) := by decide +kernel
theorem dX0_settle_7 : decode cX0_settle 7 = .ok (.if_icmp .ge 33, 3) := by decide +kernel
theorem dX0_settle_10 : decode cX0_settle 10 = .ok (.aload_n 0, 1) := by decide +kernel
theorem dX0_settle_11 : decode cX0_settle 11 = .ok (.getfield 9, 3) := by decide +kernel
theorem dX0_settle_14 : decode cX0_settle 14 = .ok (.iload 5, 2) := by decide +kernel
theorem dX0_settle_16 : decode cX0_settle 16 = .ok (.iconst 0, 1) := by decide +kernel
theorem dX0_settle_17 : decode cX0_settle 17 = .ok (.iastore, 1) := by decide +kernel
theorem dX0_settle_18 : decode cX0_settle 18 = .ok (.aload_n 0, 1) := by decide +kernel
theorem dX0_settle_19 : decode cX0_settle 19 = .ok (.getfield 15, 3) := by decide +kernel
theorem dX0_settle_22 : decode cX0_settle 22 = .ok (.iload 5, 2) := by decide +kernel
theorem dX0_settle_24 : decode cX0_settle 24 = .ok (.iconst (-1), 1) := by decide +kernel
theorem dX0_settle_25 : decode cX0_settle 25 = .ok (.iastore, 1) := by decide +kernel
theorem dX0_settle_26 : decode cX0_settle 26 = .ok (.aload_n 0, 1) := by decide +kernel
theorem dX0_settle_27 : decode cX0_settle 27 = .ok (.getfield 18, 3) := by decide +kernel
theorem dX0_settle_30 : decode cX0_settle 30 = .ok (.iload 5, 2) := by decide +kernel
theorem dX0_settle_32 : decode cX0_settle 32 = .ok (.iconst (-1), 1) := by decide +kernel
theorem dX0_settle_33 : decode cX0_settle 33 = .ok (.iastore, 1) := by decide +kernel
theorem dX0_settle_34 : decode cX0_settle 34 = .ok (.iinc 5 1, 3) := by decide +kernel
theorem dX0_settle_37 : decode cX0_settle 37 = .ok (.goto (-34), 3) := by decide +kernel
theorem dX0_settle_40 : decode cX0_settle 40 = .ok (.iconst 0, 1) := by decide +kernel
theorem dX0_settle_41 : decode cX0_settle 41 = .ok (.istore 5, 2) := by decide +kernel
theorem dX0_settle_43 : decode cX0_settle 43 = .ok (.iload 5, 2) := by decide +kernel
theorem dX0_settle_45 : decode cX0_settle 45 = .ok (.aload_n 3, 1) := by decide +kernel
theorem dX0_settle_46 : decode cX0_settle 46 = .ok (.getfield 24, 3) := by decide +kernel
theorem dX0_settle_49 : decode cX0_settle 49 = .ok (.if_icmp .ge 78, 3) := by decide +kernel
theorem dX0_settle_52 : decode cX0_settle 52 = .ok (.aload_n 2, 1) := by decide +kernel
theorem dX0_settle_53 : decode cX0_settle 53 = .ok (.iload 5, 2) := by decide +kernel
theorem dX0_settle_55 : decode cX0_settle 55 = .ok (.aaload, 1) := by decide +kernel
theorem dX0_settle_56 : decode cX0_settle 56 = .ok (.astore 6, 2) := by decide +kernel
theorem dX0_settle_58 : decode cX0_settle 58 = .ok (.aload 6, 2) := by decide +kernel
theorem dX0_settle_60 : decode cX0_settle 60 = .ok (.ifnull 61, 3) := by decide +kernel
theorem dX0_settle_63 : decode cX0_settle 63 = .ok (.aload_n 3, 1) := by decide +kernel
theorem dX0_settle_64 : decode cX0_settle 64 = .ok (.aload 6, 2) := by decide +kernel
theorem dX0_settle_66 : decode cX0_settle 66 = .ok (.iload 5, 2) := by decide +kernel
theorem dX0_settle_68 : decode cX0_settle 68 = .ok (.invokevirtual 30, 3) := by decide +kernel
theorem dX0_settle_71 : decode cX0_settle 71 = .ok (.ifCond .eq 50, 3) := by decide +kernel
theorem dX0_settle_74 : decode cX0_settle 74 = .ok (.aload_n 1, 1) := by decide +kernel
theorem dX0_settle_75 : decode cX0_settle 75 = .ok (.aload 6, 2) := by decide +kernel
theorem dX0_settle_77 : decode cX0_settle 77 = .ok (.getfield 34, 3) := by decide +kernel
theorem dX0_settle_80 : decode cX0_settle 80 = .ok (.aload 6, 2) := by decide +kernel
theorem dX0_settle_82 : decode cX0_settle 82 = .ok (.aload_n 3, 1) := by decide +kernel
theorem dX0_settle_83 : decode cX0_settle 83 = .ok (.getfield 39, 3) := by decide +kernel
theorem dX0_settle_86 : decode cX0_settle 86 = .ok (.iload 5, 2) := by decide +kernel
theorem dX0_settle_88 : decode cX0_settle 88 = .ok (.iaload, 1) := by decide +kernel
theorem dX0_settle_89 : decode cX0_settle 89 = .ok (.invokevirtual 42, 3) := by decide +kernel
theorem dX0_settle_92 : decode cX0_settle 92 = .ok (.aload 6, 2) := by decide +kernel
theorem dX0_settle_94 : decode cX0_settle 94 = .ok (.invokevirtual 46, 3) := by decide +kernel
theorem dX0_settle_97 : decode cX0_settle 97 = .ok (.aload_n 3, 1) := by decide +kernel
theorem dX0_settle_98 : decode cX0_settle 98 = .ok (.getfield 50, 3) := by decide +kernel
theorem dX0_settle_101 : decode cX0_settle 101 = .ok (.iload 4, 2) := by decide +kernel
theorem dX0_settle_103 : decode cX0_settle 103 = .ok (.aload_n 0, 1) := by decide +kernel
theorem dX0_settle_104 : decode cX0_settle 104 = .ok (.getfield 21, 3) := by decide +kernel
theorem dX0_settle_107 : decode cX0_settle 107 = .ok (.invokevirtual 53, 3) := by decide +kernel
theorem dX0_settle_110 : decode cX0_settle 110 = .ok (.aload_n 0, 1) := by decide +kernel
theorem dX0_settle_111 : decode cX0_settle 111 = .ok (.aload 6, 2) := by decide +kernel
theorem dX0_settle_113 : decode cX0_settle 113 = .ok (.getfield 59, 3) := by decide +kernel
theorem dX0_settle_116 : decode cX0_settle 116 = .ok (.iload 5, 2) := by decide +kernel
theorem dX0_settle_118 : decode cX0_settle 118 = .ok (.invokevirtual 62, 3) := by decide +kernel
theorem dX0_settle_121 : decode cX0_settle 121 = .ok (.iinc 5 1, 3) := by decide +kernel
theorem dX0_settle_124 : decode cX0_settle 124 = .ok (.goto (-81), 3) := by decide +kernel
theorem dX0_settle_127 : decode cX0_settle 127 = .ok (.return_, 1) := by decide +kernel
theorem dX0_mingle_0 : decode cX0_mingle 0 = .ok (.iconst 0, 1) := by decide +kernel
theorem dX0_mingle_1 : decode cX0_mingle 1 = .ok (.istore_n 3, 1) := by decide +kernel
theorem dX0_mingle_2 : decode cX0_mingle 2 = .ok (.iload_n 3, 1) := by decide +kernel
theorem dX0_mingle_3 : decode cX0_mingle 3 = .ok (.bipush 8, 2) := by decide +kernel
theorem dX0_mingle_5 : decode cX0_mingle 5 = .ok (.if_icmp .ge 50, 3) := by decide +kernel
theorem dX0_mingle_8 : decode cX0_mingle 8 = .ok (.aload_n 0, 1) := by decide +kernel
theorem dX0_mingle_9 : decode cX0_mingle 9 = .ok (.getfield 21, 3) := by decide +kernel
theorem dX0_mingle_12 : decode cX0_mingle 12 = .ok (.iload_n 3, 1) := by decide +kernel
theorem dX0_mingle_13 : decode cX0_mingle 13 = .ok (.iaload, 1) := by decide +kernel
theorem dX0_mingle_14 : decode cX0_mingle 14 = .ok (.aload_n 0, 1) := by decide +kernel
theorem dX0_mingle_15 : decode cX0_mingle 15 = .ok (.getfield 9, 3) := by decide +kernel
theorem dX0_mingle_18 : decode cX0_mingle 18 = .ok (.iload_n 3, 1) := by decide +kernel
theorem dX0_mingle_19 : decode cX0_mingle 19 = .ok (.iaload, 1) := by decide +kernel
theorem dX0_mingle_20 : decode cX0_mingle 20 = .ok (.if_icmp .le 29, 3) := by decide +kernel
theorem dX0_mingle_23 : decode cX0_mingle 23 = .ok (.aload_n 0, 1) := by decide +kernel
theorem dX0_mingle_24 : decode cX0_mingle 24 = .ok (.getfield 9, 3) := by decide +kernel
theorem dX0_mingle_27 : decode cX0_mingle 27 = .ok (.iload_n 3, 1) := by decide +kernel
theorem dX0_mingle_28 : decode cX0_mingle 28 = .ok (.aload_n 0, 1) := by decide +kernel
theorem dX0_mingle_29 : decode cX0_mingle 29 = .ok (.getfield 21, 3) := by decide +kernel
theorem dX0_mingle_32 : decode cX0_mingle 32 = .ok (.iload_n 3, 1) := by decide +kernel
theorem dX0_mingle_33 : decode cX0_mingle 33 = .ok (.iaload, 1) := by decide +kernel
theorem dX0_mingle_34 : decode cX0_mingle 34 = .ok (.iastore, 1) := by decide +kernel
theorem dX0_mingle_35 : decode cX0_mingle 35 = .ok (.aload_n 0, 1) := by decide +kernel
theorem dX0_mingle_36 : decode cX0_mingle 36 = .ok (.getfield 15, 3) := by decide +kernel
theorem dX0_mingle_39 : decode cX0_mingle 39 = .ok (.iload_n 3, 1) := by decide +kernel
theorem dX0_mingle_40 : decode cX0_mingle 40 = .ok (.iload_n 2, 1) := by decide +kernel
theorem dX0_mingle_41 : decode cX0_mingle 41 = .ok (.iastore, 1) := by decide +kernel
theorem dX0_mingle_42 : decode cX0_mingle 42 = .ok (.aload_n 0, 1) := by decide +kernel
theorem dX0_mingle_43 : decode cX0_mingle 43 = .ok (.getfield 18, 3) := by decide +kernel
theorem dX0_mingle_46 : decode cX0_mingle 46 = .ok (.iload_n 3, 1) := by decide +kernel
theorem dX0_mingle_47 : decode cX0_mingle 47 = .ok (.iload_n 1, 1) := by decide +kernel
theorem dX0_mingle_48 : decode cX0_mingle 48 = .ok (.iastore, 1) := by decide +kernel
theorem dX0_mingle_49 : decode cX0_mingle 49 = .ok (.iinc 3 1, 3) := by decide +kernel
theorem dX0_mingle_52 : decode cX0_mingle 52 = .ok (.goto (-50), 3) := by decide +kernel
theorem dX0_mingle_55 : decode cX0_mingle 55 = .ok (.return_, 1) := by decide +kernel
theorem dX0_countBorders_0 : decode cX0_countBorders 0 = .ok (.iconst 0, 1) := by decide +kernel
theorem dX0_countBorders_1 : decode cX0_countBorders 1 = .ok (.istore_n 1, 1) := by decide +kernel
theorem dX0_countBorders_2 : decode cX0_countBorders 2 = .ok (.iconst 0, 1) := by decide +kernel
theorem dX0_countBorders_3 : decode cX0_countBorders 3 = .ok (.istore_n 2, 1) := by decide +kernel
theorem dX0_countBorders_4 : decode cX0_countBorders 4 = .ok (.iload_n 2, 1) := by decide +kernel
theorem dX0_countBorders_5 : decode cX0_countBorders 5 = .ok (.bipush 8, 2) := by decide +kernel
theorem dX0_countBorders_7 : decode cX0_countBorders 7 = .ok (.if_icmp .ge 41, 3) := by decide +kernel
theorem dX0_countBorders_10 : decode cX0_countBorders 10 = .ok (.aload_n 0, 1) := by decide +kernel
theorem dX0_countBorders_11 : decode cX0_countBorders 11 = .ok (.iload_n 2, 1) := by decide +kernel
theorem dX0_countBorders_12 : decode cX0_countBorders 12 = .ok (.iload_n 2, 1) := by decide +kernel
theorem dX0_countBorders_13 : decode cX0_countBorders 13 = .ok (.iconst 1, 1) := by decide +kernel
theorem dX0_countBorders_14 : decode cX0_countBorders 14 = .ok (.invokestatic 66, 3) := by decide +kernel
theorem dX0_countBorders_17 : decode cX0_countBorders 17 = .ok (.invokevirtual 70, 3) := by decide +kernel
theorem dX0_countBorders_20 : decode cX0_countBorders 20 = .ok (.ifCond .eq 6, 3) := by decide +kernel
theorem dX0_countBorders_23 : decode cX0_countBorders 23 = .ok (.iinc 1 1, 3) := by decide +kernel
theorem dX0_countBorders_26 : decode cX0_countBorders 26 = .ok (.aload_n 0, 1) := by decide +kernel
theorem dX0_countBorders_27 : decode cX0_countBorders 27 = .ok (.iload_n 2, 1) := by decide +kernel
theorem dX0_countBorders_28 : decode cX0_countBorders 28 = .ok (.iload_n 2, 1) := by decide +kernel
theorem dX0_countBorders_29 : decode cX0_countBorders 29 = .ok (.iconst 3, 1) := by decide +kernel
theorem dX0_countBorders_30 : decode cX0_countBorders 30 = .ok (.invokestatic 66, 3) := by decide +kernel
theorem dX0_countBorders_33 : decode cX0_countBorders 33 = .ok (.invokevirtual 70, 3) := by decide +kernel
theorem dX0_countBorders_36 : decode cX0_countBorders 36 = .ok (.ifCond .eq 6, 3) := by decide +kernel
theorem dX0_countBorders_39 : decode cX0_countBorders 39 = .ok (.iinc 1 1, 3) := by decide +kernel
theorem dX0_countBorders_42 : decode cX0_countBorders 42 = .ok (.iinc 2 1, 3) := by decide +kernel
theorem dX0_countBorders_45 : decode cX0_countBorders 45 = .ok (.goto (-41), 3) := by decide +kernel
theorem dX0_countBorders_48 : decode cX0_countBorders 48 = .ok (.iload_n 1, 1) := by decide +kernel
theorem dX0_countBorders_49 : decode cX0_countBorders 49 = .ok (.ireturn, 1) := by decide +kernel
theorem dX0_isBorder_0 : decode cX0_isBorder 0 = .ok (.iload_n 2, 1) := by decide +kernel
theorem dX0_isBorder_1 : decode cX0_isBorder 1 = .ok (.iconst (-1), 1) := by decide +kernel
theorem dX0_isBorder_2 : decode cX0_isBorder 2 = .ok (.if_icmp .eq 23, 3) := by decide +kernel
theorem dX0_isBorder_5 : decode cX0_isBorder 5 = .ok (.aload_n 0, 1) := by decide +kernel
theorem dX0_isBorder_6 : decode cX0_isBorder 6 = .ok (.getfield 18, 3) := by decide +kernel
theorem dX0_isBorder_9 : decode cX0_isBorder 9 = .ok (.iload_n 1, 1) := by decide +kernel
theorem dX0_isBorder_10 : decode cX0_isBorder 10 = .ok (.iaload, 1) := by decide +kernel
theorem dX0_isBorder_11 : decode cX0_isBorder 11 = .ok (.iconst (-1), 1) := by decide +kernel
theorem dX0_isBorder_12 : decode cX0_isBorder 12 = .ok (.if_icmp .eq 13, 3) := by decide +kernel
theorem dX0_isBorder_15 : decode cX0_isBorder 15 = .ok (.aload_n 0, 1) := by decide +kernel
theorem dX0_isBorder_16 : decode cX0_isBorder 16 = .ok (.getfield 18, 3) := by decide +kernel
theorem dX0_isBorder_19 : decode cX0_isBorder 19 = .ok (.iload_n 2, 1) := by decide +kernel
theorem dX0_isBorder_20 : decode cX0_isBorder 20 = .ok (.iaload, 1) := by decide +kernel
theorem dX0_isBorder_21 : decode cX0_isBorder 21 = .ok (.iconst (-1), 1) := by decide +kernel
theorem dX0_isBorder_22 : decode cX0_isBorder 22 = .ok (.if_icmp .ne 5, 3) := by decide +kernel
theorem dX0_isBorder_25 : decode cX0_isBorder 25 = .ok (.iconst 0, 1) := by decide +kernel
theorem dX0_isBorder_26 : decode cX0_isBorder 26 = .ok (.ireturn, 1) := by decide +kernel
theorem dX0_isBorder_27 : decode cX0_isBorder 27 = .ok (.aload_n 0, 1) := by decide +kernel
theorem dX0_isBorder_28 : decode cX0_isBorder 28 = .ok (.getfield 18, 3) := by decide +kernel
theorem dX0_isBorder_31 : decode cX0_isBorder 31 = .ok (.iload_n 1, 1) := by decide +kernel
theorem dX0_isBorder_32 : decode cX0_isBorder 32 = .ok (.iaload, 1) := by decide +kernel
theorem dX0_isBorder_33 : decode cX0_isBorder 33 = .ok (.aload_n 0, 1) := by decide +kernel
theorem dX0_isBorder_34 : decode cX0_isBorder 34 = .ok (.getfield 18, 3) := by decide +kernel
theorem dX0_isBorder_37 : decode cX0_isBorder 37 = .ok (.iload_n 2, 1) := by decide +kernel
theorem dX0_isBorder_38 : decode cX0_isBorder 38 = .ok (.iaload, 1) := by decide +kernel
theorem dX0_isBorder_39 : decode cX0_isBorder 39 = .ok (.if_icmp .eq 7, 3) := by decide +kernel
theorem dX0_isBorder_42 : decode cX0_isBorder 42 = .ok (.iconst 1, 1) := by decide +kernel
theorem dX0_isBorder_43 : decode cX0_isBorder 43 = .ok (.goto 4, 3) := by decide +kernel
theorem dX0_isBorder_46 : decode cX0_isBorder 46 = .ok (.iconst 0, 1) := by decide +kernel
theorem dX0_isBorder_47 : decode cX0_isBorder 47 = .ok (.ireturn, 1) := by decide +kernel
theorem dX0_countOwned_0 : decode cX0_countOwned 0 = .ok (.iconst 0, 1) := by decide +kernel
theorem dX0_countOwned_1 : decode cX0_countOwned 1 = .ok (.istore_n 1, 1) := by decide +kernel
theorem dX0_countOwned_2 : decode cX0_countOwned 2 = .ok (.iconst 0, 1) := by decide +kernel
theorem dX0_countOwned_3 : decode cX0_countOwned 3 = .ok (.istore_n 2, 1) := by decide +kernel
theorem dX0_countOwned_4 : decode cX0_countOwned 4 = .ok (.iload_n 2, 1) := by decide +kernel
theorem dX0_countOwned_5 : decode cX0_countOwned 5 = .ok (.bipush 8, 2) := by decide +kernel
theorem dX0_countOwned_7 : decode cX0_countOwned 7 = .ok (.if_icmp .ge 22, 3) := by decide +kernel
theorem dX0_countOwned_10 : decode cX0_countOwned 10 = .ok (.aload_n 0, 1) := by decide +kernel
theorem dX0_countOwned_11 : decode cX0_countOwned 11 = .ok (.getfield 18, 3) := by decide +kernel
theorem dX0_countOwned_14 : decode cX0_countOwned 14 = .ok (.iload_n 2, 1) := by decide +kernel
theorem dX0_countOwned_15 : decode cX0_countOwned 15 = .ok (.iaload, 1) := by decide +kernel
theorem dX0_countOwned_16 : decode cX0_countOwned 16 = .ok (.iconst (-1), 1) := by decide +kernel
theorem dX0_countOwned_17 : decode cX0_countOwned 17 = .ok (.if_icmp .eq 6, 3) := by decide +kernel
theorem dX0_countOwned_20 : decode cX0_countOwned 20 = .ok (.iinc 1 1, 3) := by decide +kernel
theorem dX0_countOwned_23 : decode cX0_countOwned 23 = .ok (.iinc 2 1, 3) := by decide +kernel
theorem dX0_countOwned_26 : decode cX0_countOwned 26 = .ok (.goto (-22), 3) := by decide +kernel
theorem dX0_countOwned_29 : decode cX0_countOwned 29 = .ok (.iload_n 1, 1) := by decide +kernel
theorem dX0_countOwned_30 : decode cX0_countOwned 30 = .ok (.ireturn, 1) := by decide +kernel
theorem dX1_init_0 : decode cX1_init 0 = .ok (.aload_n 0, 1) := by decide +kernel
theorem dX1_init_1 : decode cX1_init 1 = .ok (.iload_n 1, 1) := by decide +kernel
theorem dX1_init_2 : decode cX1_init 2 = .ok (.iload_n 2, 1) := by decide +kernel
theorem dX1_init_3 : decode cX1_init 3 = .ok (.iload_n 3, 1) := by decide +kernel
theorem dX1_init_4 : decode cX1_init 4 = .ok (.invokespecial 3, 3) := by decide +kernel
theorem dX1_init_7 : decode cX1_init 7 = .ok (.return_, 1) := by decide +kernel
theorem dX1_kindNumber_0 : decode cX1_kindNumber 0 = .ok (.iconst 1, 1) := by decide +kernel
theorem dX1_kindNumber_1 : decode cX1_kindNumber 1 = .ok (.ireturn, 1) := by decide +kernel
theorem dX1_force_0 : decode cX1_force 0 = .ok (.aload_n 0, 1) := by decide +kernel
theorem dX1_force_1 : decode cX1_force 1 = .ok (.getfield 9, 3) := by decide +kernel
theorem dX1_force_4 : decode cX1_force 4 = .ok (.iload_n 1, 1) := by decide +kernel
theorem dX1_force_5 : decode cX1_force 5 = .ok (.iadd, 1) := by decide +kernel
theorem dX1_force_6 : decode cX1_force 6 = .ok (.bipush 9, 2) := by decide +kernel
theorem dX1_force_8 : decode cX1_force 8 = .ok (.invokestatic 15, 3) := by decide +kernel
theorem dX1_force_11 : decode cX1_force 11 = .ok (.ireturn, 1) := by decide +kernel
theorem dX2_init_0 : decode cX2_init 0 = .ok (.aload_n 0, 1) := by decide +kernel
theorem dX2_init_1 : decode cX2_init 1 = .ok (.iload_n 1, 1) := by decide +kernel
theorem dX2_init_2 : decode cX2_init 2 = .ok (.iload_n 2, 1) := by decide +kernel
theorem dX2_init_3 : decode cX2_init 3 = .ok (.iload_n 3, 1) := by decide +kernel
theorem dX2_init_4 : decode cX2_init 4 = .ok (.invokespecial 1, 3) := by decide +kernel
theorem dX2_init_7 : decode cX2_init 7 = .ok (.return_, 1) := by decide +kernel
theorem dX2_kindNumber_0 : decode cX2_kindNumber 0 = .ok (.iconst 2, 1) := by decide +kernel
theorem dX2_kindNumber_1 : decode cX2_kindNumber 1 = .ok (.ireturn, 1) := by decide +kernel
theorem dX2_smellsAt_0 : decode cX2_smellsAt 0 = .ok (.iload_n 2, 1) := by decide +kernel
theorem dX2_smellsAt_1 : decode cX2_smellsAt 1 = .ok (.ifCond .ne 13, 3) := by decide +kernel
theorem dX2_smellsAt_4 : decode cX2_smellsAt 4 = .ok (.iload_n 1, 1) := by decide +kernel
theorem dX2_smellsAt_5 : decode cX2_smellsAt 5 = .ok (.iconst 2, 1) := by decide +kernel
theorem dX2_smellsAt_6 : decode cX2_smellsAt 6 = .ok (.irem, 1) := by decide +kernel
theorem dX2_smellsAt_7 : decode cX2_smellsAt 7 = .ok (.ifCond .ne 7, 3) := by decide +kernel
theorem dX2_smellsAt_10 : decode cX2_smellsAt 10 = .ok (.iconst 1, 1) := by decide +kernel
theorem dX2_smellsAt_11 : decode cX2_smellsAt 11 = .ok (.goto 4, 3) := by decide +kernel
theorem dX2_smellsAt_14 : decode cX2_smellsAt 14 = .ok (.iconst 0, 1) := by decide +kernel
theorem dX2_smellsAt_15 : decode cX2_smellsAt 15 = .ok (.ireturn, 1) := by decide +kernel
theorem dX3_init_0 : decode cX3_init 0 = .ok (.aload_n 0, 1) := by decide +kernel
theorem dX3_init_1 : decode cX3_init 1 = .ok (.invokespecial 3, 3) := by decide +kernel
theorem dX3_init_4 : decode cX3_init 4 = .ok (.aload_n 0, 1) := by decide +kernel
theorem dX3_init_5 : decode cX3_init 5 = .ok (.bipush 14, 2) := by decide +kernel
theorem dX3_init_7 : decode cX3_init 7 = .ok (.newarray .int, 2) := by decide +kernel
theorem dX3_init_9 : decode cX3_init 9 = .ok (.putfield 11, 3) := by decide +kernel
theorem dX3_init_12 : decode cX3_init 12 = .ok (.return_, 1) := by decide +kernel
theorem dX3_isFull_0 : decode cX3_isFull 0 = .ok (.aload_n 0, 1) := by decide +kernel
theorem dX3_isFull_1 : decode cX3_isFull 1 = .ok (.getfield 15, 3) := by decide +kernel
theorem dX3_isFull_4 : decode cX3_isFull 4 = .ok (.bipush 14, 2) := by decide +kernel
theorem dX3_isFull_6 : decode cX3_isFull 6 = .ok (.if_icmp .lt 7, 3) := by decide +kernel
theorem dX3_isFull_9 : decode cX3_isFull 9 = .ok (.iconst 1, 1) := by decide +kernel
theorem dX3_isFull_10 : decode cX3_isFull 10 = .ok (.goto 4, 3) := by decide +kernel
theorem dX3_isFull_13 : decode cX3_isFull 13 = .ok (.iconst 0, 1) := by decide +kernel
theorem dX3_isFull_14 : decode cX3_isFull 14 = .ok (.ireturn, 1) := by decide +kernel
theorem dX3_append_0 : decode cX3_append 0 = .ok (.aload_n 0, 1) := by decide +kernel
theorem dX3_append_1 : decode cX3_append 1 = .ok (.invokevirtual 19, 3) := by decide +kernel
theorem dX3_append_4 : decode cX3_append 4 = .ok (.ifCond .ne 20, 3) := by decide +kernel
theorem dX3_append_7 : decode cX3_append 7 = .ok (.aload_n 0, 1) := by decide +kernel
theorem dX3_append_8 : decode cX3_append 8 = .ok (.getfield 11, 3) := by decide +kernel
theorem dX3_append_11 : decode cX3_append 11 = .ok (.aload_n 0, 1) := by decide +kernel
theorem dX3_append_12 : decode cX3_append 12 = .ok (.dup, 1) := by decide +kernel
theorem dX3_append_13 : decode cX3_append 13 = .ok (.getfield 15, 3) := by decide +kernel
theorem dX3_append_16 : decode cX3_append 16 = .ok (.dup_x1, 1) := by decide +kernel
theorem dX3_append_17 : decode cX3_append 17 = .ok (.iconst 1, 1) := by decide +kernel
theorem dX3_append_18 : decode cX3_append 18 = .ok (.iadd, 1) := by decide +kernel
theorem dX3_append_19 : decode cX3_append 19 = .ok (.putfield 15, 3) := by decide +kernel
theorem dX3_append_22 : decode cX3_append 22 = .ok (.iload_n 1, 1) := by decide +kernel
theorem dX3_append_23 : decode cX3_append 23 = .ok (.iastore, 1) := by decide +kernel
theorem dX3_append_24 : decode cX3_append 24 = .ok (.return_, 1) := by decide +kernel
theorem dX3_firstWrong_0 : decode cX3_firstWrong 0 = .ok (.iconst 0, 1) := by decide +kernel
theorem dX3_firstWrong_1 : decode cX3_firstWrong 1 = .ok (.istore_n 1, 1) := by decide +kernel
theorem dX3_firstWrong_2 : decode cX3_firstWrong 2 = .ok (.iload_n 1, 1) := by decide +kernel
theorem dX3_firstWrong_3 : decode cX3_firstWrong 3 = .ok (.aload_n 0, 1) := by decide +kernel
theorem dX3_firstWrong_4 : decode cX3_firstWrong 4 = .ok (.getfield 15, 3) := by decide +kernel
theorem dX3_firstWrong_7 : decode cX3_firstWrong 7 = .ok (.if_icmp .ge 24, 3) := by decide +kernel
theorem dX3_firstWrong_10 : decode cX3_firstWrong 10 = .ok (.iload_n 1, 1) := by decide +kernel
theorem dX3_firstWrong_11 : decode cX3_firstWrong 11 = .ok (.aload_n 0, 1) := by decide +kernel
theorem dX3_firstWrong_12 : decode cX3_firstWrong 12 = .ok (.getfield 11, 3) := by decide +kernel
theorem dX3_firstWrong_15 : decode cX3_firstWrong 15 = .ok (.iload_n 1, 1) := by decide +kernel
theorem dX3_firstWrong_16 : decode cX3_firstWrong 16 = .ok (.iaload, 1) := by decide +kernel
theorem dX3_firstWrong_17 : decode cX3_firstWrong 17 = .ok (.invokestatic 23, 3) := by decide +kernel
theorem dX3_firstWrong_20 : decode cX3_firstWrong 20 = .ok (.ifCond .ne 5, 3) := by decide +kernel
theorem dX3_firstWrong_23 : decode cX3_firstWrong 23 = .ok (.iload_n 1, 1) := by decide +kernel
theorem dX3_firstWrong_24 : decode cX3_firstWrong 24 = .ok (.ireturn, 1) := by decide +kernel
theorem dX3_firstWrong_25 : decode cX3_firstWrong 25 = .ok (.iinc 1 1, 3) := by decide +kernel
theorem dX3_firstWrong_28 : decode cX3_firstWrong 28 = .ok (.goto (-26), 3) := by decide +kernel
theorem dX3_firstWrong_31 : decode cX3_firstWrong 31 = .ok (.aload_n 0, 1) := by decide +kernel
theorem dX3_firstWrong_32 : decode cX3_firstWrong 32 = .ok (.getfield 15, 3) := by decide +kernel
theorem dX3_firstWrong_35 : decode cX3_firstWrong 35 = .ok (.ireturn, 1) := by decide +kernel
theorem dX3_isValley_0 : decode cX3_isValley 0 = .ok (.aload_n 0, 1) := by decide +kernel
theorem dX3_isValley_1 : decode cX3_isValley 1 = .ok (.getfield 15, 3) := by decide +kernel
theorem dX3_isValley_4 : decode cX3_isValley 4 = .ok (.bipush 11, 2) := by decide +kernel
theorem dX3_isValley_6 : decode cX3_isValley 6 = .ok (.if_icmp .ne 18, 3) := by decide +kernel
theorem dX3_isValley_9 : decode cX3_isValley 9 = .ok (.aload_n 0, 1) := by decide +kernel
theorem dX3_isValley_10 : decode cX3_isValley 10 = .ok (.invokevirtual 27, 3) := by decide +kernel
theorem dX3_isValley_13 : decode cX3_isValley 13 = .ok (.aload_n 0, 1) := by decide +kernel
theorem dX3_isValley_14 : decode cX3_isValley 14 = .ok (.getfield 15, 3) := by decide +kernel
theorem dX3_isValley_17 : decode cX3_isValley 17 = .ok (.if_icmp .ne 7, 3) := by decide +kernel
theorem dX3_isValley_20 : decode cX3_isValley 20 = .ok (.iconst 1, 1) := by decide +kernel
theorem dX3_isValley_21 : decode cX3_isValley 21 = .ok (.goto 4, 3) := by decide +kernel
theorem dX3_isValley_24 : decode cX3_isValley 24 = .ok (.iconst 0, 1) := by decide +kernel
theorem dX3_isValley_25 : decode cX3_isValley 25 = .ok (.ireturn, 1) := by decide +kernel
theorem dX3_placeOf_0 : decode cX3_placeOf 0 = .ok (.iload_n 0, 1) := by decide +kernel
theorem dX3_placeOf_1 : decode cX3_placeOf 1 = .ok (.iconst 4, 1) := by decide +kernel
theorem dX3_placeOf_2 : decode cX3_placeOf 2 = .ok (.if_icmp .ge 7, 3) := by decide +kernel
theorem dX3_placeOf_5 : decode cX3_placeOf 5 = .ok (.iload_n 0, 1) := by decide +kernel
theorem dX3_placeOf_6 : decode cX3_placeOf 6 = .ok (.goto 6, 3) := by decide +kernel
theorem dX3_placeOf_9 : decode cX3_placeOf 9 = .ok (.iload_n 0, 1) := by decide +kernel
theorem dX3_placeOf_10 : decode cX3_placeOf 10 = .ok (.iconst 1, 1) := by decide +kernel
theorem dX3_placeOf_11 : decode cX3_placeOf 11 = .ok (.iadd, 1) := by decide +kernel
theorem dX3_placeOf_12 : decode cX3_placeOf 12 = .ok (.ireturn, 1) := by decide +kernel
theorem dX3_fits_0 : decode cX3_fits 0 = .ok (.iload_n 0, 1) := by decide +kernel
theorem dX3_fits_1 : decode cX3_fits 1 = .ok (.bipush 11, 2) := by decide +kernel
theorem dX3_fits_3 : decode cX3_fits 3 = .ok (.if_icmp .lt 5, 3) := by decide +kernel
theorem dX3_fits_6 : decode cX3_fits 6 = .ok (.iconst 0, 1) := by decide +kernel
theorem dX3_fits_7 : decode cX3_fits 7 = .ok (.ireturn, 1) := by decide +kernel
theorem dX3_fits_8 : decode cX3_fits 8 = .ok (.iload_n 0, 1) := by decide +kernel
theorem dX3_fits_9 : decode cX3_fits 9 = .ok (.iconst 4, 1) := by decide +kernel
theorem dX3_fits_10 : decode cX3_fits 10 = .ok (.if_icmp .ne 15, 3) := by decide +kernel
theorem dX3_fits_13 : decode cX3_fits 13 = .ok (.iload_n 1, 1) := by decide +kernel
theorem dX3_fits_14 : decode cX3_fits 14 = .ok (.bipush 47, 2) := by decide +kernel
theorem dX3_fits_16 : decode cX3_fits 16 = .ok (.if_icmp .ne 7, 3) := by decide +kernel
theorem dX3_fits_19 : decode cX3_fits 19 = .ok (.iconst 1, 1) := by decide +kernel
theorem dX3_fits_20 : decode cX3_fits 20 = .ok (.goto 4, 3) := by decide +kernel
theorem dX3_fits_23 : decode cX3_fits 23 = .ok (.iconst 0, 1) := by decide +kernel
theorem dX3_fits_24 : decode cX3_fits 24 = .ok (.ireturn, 1) := by decide +kernel
theorem dX3_fits_25 : decode cX3_fits 25 = .ok (.iload_n 0, 1) := by decide +kernel
theorem dX3_fits_26 : decode cX3_fits 26 = .ok (.bipush 9, 2) := by decide +kernel
theorem dX3_fits_28 : decode cX3_fits 28 = .ok (.if_icmp .ne 15, 3) := by decide +kernel
theorem dX3_fits_31 : decode cX3_fits 31 = .ok (.iload_n 1, 1) := by decide +kernel
theorem dX3_fits_32 : decode cX3_fits 32 = .ok (.bipush 59, 2) := by decide +kernel
theorem dX3_fits_34 : decode cX3_fits 34 = .ok (.if_icmp .ne 7, 3) := by decide +kernel
theorem dX3_fits_37 : decode cX3_fits 37 = .ok (.iconst 1, 1) := by decide +kernel
theorem dX3_fits_38 : decode cX3_fits 38 = .ok (.goto 4, 3) := by decide +kernel
theorem dX3_fits_41 : decode cX3_fits 41 = .ok (.iconst 0, 1) := by decide +kernel
theorem dX3_fits_42 : decode cX3_fits 42 = .ok (.ireturn, 1) := by decide +kernel
theorem dX3_fits_43 : decode cX3_fits 43 = .ok (.iload_n 0, 1) := by decide +kernel
theorem dX3_fits_44 : decode cX3_fits 44 = .ok (.bipush 10, 2) := by decide +kernel
theorem dX3_fits_46 : decode cX3_fits 46 = .ok (.if_icmp .ne 21, 3) := by decide +kernel
theorem dX3_fits_49 : decode cX3_fits 49 = .ok (.iload_n 1, 1) := by decide +kernel
theorem dX3_fits_50 : decode cX3_fits 50 = .ok (.bipush 49, 2) := by decide +kernel
theorem dX3_fits_52 : decode cX3_fits 52 = .ok (.if_icmp .lt 13, 3) := by decide +kernel
theorem dX3_fits_55 : decode cX3_fits 55 = .ok (.iload_n 1, 1) := by decide +kernel
theorem dX3_fits_56 : decode cX3_fits 56 = .ok (.bipush 51, 2) := by decide +kernel
theorem dX3_fits_58 : decode cX3_fits 58 = .ok (.if_icmp .gt 7, 3) := by decide +kernel
theorem dX3_fits_61 : decode cX3_fits 61 = .ok (.iconst 1, 1) := by decide +kernel
theorem dX3_fits_62 : decode cX3_fits 62 = .ok (.goto 4, 3) := by decide +kernel
theorem dX3_fits_65 : decode cX3_fits 65 = .ok (.iconst 0, 1) := by decide +kernel
theorem dX3_fits_66 : decode cX3_fits 66 = .ok (.ireturn, 1) := by decide +kernel
theorem dX3_fits_67 : decode cX3_fits 67 = .ok (.iload_n 1, 1) := by decide +kernel
theorem dX3_fits_68 : decode cX3_fits 68 = .ok (.bipush 46, 2) := by decide +kernel
theorem dX3_fits_70 : decode cX3_fits 70 = .ok (.if_icmp .eq 15, 3) := by decide +kernel
theorem dX3_fits_73 : decode cX3_fits 73 = .ok (.iload_n 1, 1) := by decide +kernel
theorem dX3_fits_74 : decode cX3_fits 74 = .ok (.bipush 35, 2) := by decide +kernel
theorem dX3_fits_76 : decode cX3_fits 76 = .ok (.if_icmp .eq 9, 3) := by decide +kernel
theorem dX3_fits_79 : decode cX3_fits 79 = .ok (.iload_n 1, 1) := by decide +kernel
theorem dX3_fits_80 : decode cX3_fits 80 = .ok (.bipush 119, 2) := by decide +kernel
theorem dX3_fits_82 : decode cX3_fits 82 = .ok (.if_icmp .ne 7, 3) := by decide +kernel
theorem dX3_fits_85 : decode cX3_fits 85 = .ok (.iconst 1, 1) := by decide +kernel
theorem dX3_fits_86 : decode cX3_fits 86 = .ok (.goto 4, 3) := by decide +kernel
theorem dX3_fits_89 : decode cX3_fits 89 = .ok (.iconst 0, 1) := by decide +kernel
theorem dX3_fits_90 : decode cX3_fits 90 = .ok (.ireturn, 1) := by decide +kernel
theorem dX4_init_0 : decode cX4_init 0 = .ok (.aload_n 0, 1) := by decide +kernel
theorem dX4_init_1 : decode cX4_init 1 = .ok (.invokespecial 1, 3) := by decide +kernel
theorem dX4_init_4 : decode cX4_init 4 = .ok (.aload_n 0, 1) := by decide +kernel
theorem dX4_init_5 : decode cX4_init 5 = .ok (.iload_n 1, 1) := by decide +kernel
theorem dX4_init_6 : decode cX4_init 6 = .ok (.putfield 7, 3) := by decide +kernel
theorem dX4_init_9 : decode cX4_init 9 = .ok (.aload_n 0, 1) := by decide +kernel
theorem dX4_init_10 : decode cX4_init 10 = .ok (.iload_n 2, 1) := by decide +kernel
theorem dX4_init_11 : decode cX4_init 11 = .ok (.putfield 13, 3) := by decide +kernel
theorem dX4_init_14 : decode cX4_init 14 = .ok (.aload_n 0, 1) := by decide +kernel
theorem dX4_init_15 : decode cX4_init 15 = .ok (.iload_n 3, 1) := by decide +kernel
theorem dX4_init_16 : decode cX4_init 16 = .ok (.putfield 16, 3) := by decide +kernel
theorem dX4_init_19 : decode cX4_init 19 = .ok (.return_, 1) := by decide +kernel
theorem dX4_kindNumber_0 : decode cX4_kindNumber 0 = .ok (.iconst 0, 1) := by decide +kernel
theorem dX4_kindNumber_1 : decode cX4_kindNumber 1 = .ok (.ireturn, 1) := by decide +kernel
theorem dX4_force_0 : decode cX4_force 0 = .ok (.aload_n 0, 1) := by decide +kernel
theorem dX4_force_1 : decode cX4_force 1 = .ok (.getfield 16, 3) := by decide +kernel
theorem dX4_force_4 : decode cX4_force 4 = .ok (.ireturn, 1) := by decide +kernel
theorem dX4_smellsAt_0 : decode cX4_smellsAt 0 = .ok (.iload_n 2, 1) := by decide +kernel
theorem dX4_smellsAt_1 : decode cX4_smellsAt 1 = .ok (.ifCond .ne 7, 3) := by decide +kernel
theorem dX4_smellsAt_4 : decode cX4_smellsAt 4 = .ok (.iconst 1, 1) := by decide +kernel
theorem dX4_smellsAt_5 : decode cX4_smellsAt 5 = .ok (.goto 4, 3) := by decide +kernel
theorem dX4_smellsAt_8 : decode cX4_smellsAt 8 = .ok (.iconst 0, 1) := by decide +kernel
theorem dX4_smellsAt_9 : decode cX4_smellsAt 9 = .ok (.ireturn, 1) := by decide +kernel
theorem dX4_ease_0 : decode cX4_ease 0 = .ok (.iconst 0, 1) := by decide +kernel
theorem dX4_ease_1 : decode cX4_ease 1 = .ok (.ireturn, 1) := by decide +kernel
theorem dX5_init_0 : decode cX5_init 0 = .ok (.aload_n 0, 1) := by decide +kernel
theorem dX5_init_1 : decode cX5_init 1 = .ok (.invokespecial 3, 3) := by decide +kernel
theorem dX5_init_4 : decode cX5_init 4 = .ok (.aload_n 0, 1) := by decide +kernel
theorem dX5_init_5 : decode cX5_init 5 = .ok (.bipush 6, 2) := by decide +kernel
theorem dX5_init_7 : decode cX5_init 7 = .ok (.newarray .boolean, 2) := by decide +kernel
theorem dX5_init_9 : decode cX5_init 9 = .ok (.putfield 9, 3) := by decide +kernel
theorem dX5_init_12 : decode cX5_init 12 = .ok (.aload_n 0, 1) := by decide +kernel
theorem dX5_init_13 : decode cX5_init 13 = .ok (.bipush 6, 2) := by decide +kernel
theorem dX5_init_15 : decode cX5_init 15 = .ok (.newarray .int, 2) := by decide +kernel
theorem dX5_init_17 : decode cX5_init 17 = .ok (.putfield 15, 3) := by decide +kernel
theorem dX5_init_20 : decode cX5_init 20 = .ok (.aload_n 0, 1) := by decide +kernel
theorem dX5_init_21 : decode cX5_init 21 = .ok (.bipush 8, 2) := by decide +kernel
theorem dX5_init_23 : decode cX5_init 23 = .ok (.newarray .int, 2) := by decide +kernel
theorem dX5_init_25 : decode cX5_init 25 = .ok (.putfield 19, 3) := by decide +kernel
theorem dX5_init_28 : decode cX5_init 28 = .ok (.aload_n 0, 1) := by decide +kernel
theorem dX5_init_29 : decode cX5_init 29 = .ok (.iconst 3, 1) := by decide +kernel
theorem dX5_init_30 : decode cX5_init 30 = .ok (.newarray .int, 2) := by decide +kernel
theorem dX5_init_32 : decode cX5_init 32 = .ok (.putfield 22, 3) := by decide +kernel
theorem dX5_init_35 : decode cX5_init 35 = .ok (.aload_n 0, 1) := by decide +kernel
theorem dX5_init_36 : decode cX5_init 36 = .ok (.bipush 8, 2) := by decide +kernel
theorem dX5_init_38 : decode cX5_init 38 = .ok (.newarray .int, 2) := by decide +kernel
theorem dX5_init_40 : decode cX5_init 40 = .ok (.putfield 25, 3) := by decide +kernel
theorem dX5_init_43 : decode cX5_init 43 = .ok (.aload_n 0, 1) := by decide +kernel
theorem dX5_init_44 : decode cX5_init 44 = .ok (.bipush 8, 2) := by decide +kernel
theorem dX5_init_46 : decode cX5_init 46 = .ok (.newarray .int, 2) := by decide +kernel
theorem dX5_init_48 : decode cX5_init 48 = .ok (.putfield 28, 3) := by decide +kernel
theorem dX5_init_51 : decode cX5_init 51 = .ok (.return_, 1) := by decide +kernel
theorem dX5_copyFrom_0 : decode cX5_copyFrom 0 = .ok (.aload_n 0, 1) := by decide +kernel
theorem dX5_copyFrom_1 : decode cX5_copyFrom 1 = .ok (.aload_n 1, 1) := by decide +kernel
theorem dX5_copyFrom_2 : decode cX5_copyFrom 2 = .ok (.getfield 31, 3) := by decide +kernel
theorem dX5_copyFrom_5 : decode cX5_copyFrom 5 = .ok (.putfield 31, 3) := by decide +kernel
theorem dX5_copyFrom_8 : decode cX5_copyFrom 8 = .ok (.iconst 0, 1) := by decide +kernel
theorem dX5_copyFrom_9 : decode cX5_copyFrom 9 = .ok (.istore_n 2, 1) := by decide +kernel
theorem dX5_copyFrom_10 : decode cX5_copyFrom 10 = .ok (.iload_n 2, 1) := by decide +kernel
theorem dX5_copyFrom_11 : decode cX5_copyFrom 11 = .ok (.bipush 6, 2) := by decide +kernel
theorem dX5_copyFrom_13 : decode cX5_copyFrom 13 = .ok (.if_icmp .ge 33, 3) := by decide +kernel
theorem dX5_copyFrom_16 : decode cX5_copyFrom 16 = .ok (.aload_n 0, 1) := by decide +kernel
theorem dX5_copyFrom_17 : decode cX5_copyFrom 17 = .ok (.getfield 9, 3) := by decide +kernel
theorem dX5_copyFrom_20 : decode cX5_copyFrom 20 = .ok (.iload_n 2, 1) := by decide +kernel
theorem dX5_copyFrom_21 : decode cX5_copyFrom 21 = .ok (.aload_n 1, 1) := by decide +kernel
theorem dX5_copyFrom_22 : decode cX5_copyFrom 22 = .ok (.getfield 9, 3) := by decide +kernel
theorem dX5_copyFrom_25 : decode cX5_copyFrom 25 = .ok (.iload_n 2, 1) := by decide +kernel
theorem dX5_copyFrom_26 : decode cX5_copyFrom 26 = .ok (.baload, 1) := by decide +kernel
theorem dX5_copyFrom_27 : decode cX5_copyFrom 27 = .ok (.bastore, 1) := by decide +kernel
theorem dX5_copyFrom_28 : decode cX5_copyFrom 28 = .ok (.aload_n 0, 1) := by decide +kernel
theorem dX5_copyFrom_29 : decode cX5_copyFrom 29 = .ok (.getfield 15, 3) := by decide +kernel
theorem dX5_copyFrom_32 : decode cX5_copyFrom 32 = .ok (.iload_n 2, 1) := by decide +kernel
theorem dX5_copyFrom_33 : decode cX5_copyFrom 33 = .ok (.aload_n 1, 1) := by decide +kernel
theorem dX5_copyFrom_34 : decode cX5_copyFrom 34 = .ok (.getfield 15, 3) := by decide +kernel
theorem dX5_copyFrom_37 : decode cX5_copyFrom 37 = .ok (.iload_n 2, 1) := by decide +kernel
theorem dX5_copyFrom_38 : decode cX5_copyFrom 38 = .ok (.iaload, 1) := by decide +kernel
theorem dX5_copyFrom_39 : decode cX5_copyFrom 39 = .ok (.iastore, 1) := by decide +kernel
theorem dX5_copyFrom_40 : decode cX5_copyFrom 40 = .ok (.iinc 2 1, 3) := by decide +kernel
theorem dX5_copyFrom_43 : decode cX5_copyFrom 43 = .ok (.goto (-33), 3) := by decide +kernel
theorem dX5_copyFrom_46 : decode cX5_copyFrom 46 = .ok (.aload_n 0, 1) := by decide +kernel
theorem dX5_copyFrom_47 : decode cX5_copyFrom 47 = .ok (.aload_n 1, 1) := by decide +kernel
theorem dX5_copyFrom_48 : decode cX5_copyFrom 48 = .ok (.getfield 35, 3) := by decide +kernel
theorem dX5_copyFrom_51 : decode cX5_copyFrom 51 = .ok (.putfield 35, 3) := by decide +kernel
theorem dX5_copyFrom_54 : decode cX5_copyFrom 54 = .ok (.aload_n 0, 1) := by decide +kernel
theorem dX5_copyFrom_55 : decode cX5_copyFrom 55 = .ok (.aload_n 1, 1) := by decide +kernel
theorem dX5_copyFrom_56 : decode cX5_copyFrom 56 = .ok (.getfield 38, 3) := by decide +kernel
theorem dX5_copyFrom_59 : decode cX5_copyFrom 59 = .ok (.putfield 38, 3) := by decide +kernel
theorem dX5_copyFrom_62 : decode cX5_copyFrom 62 = .ok (.aload_n 0, 1) := by decide +kernel
theorem dX5_copyFrom_63 : decode cX5_copyFrom 63 = .ok (.aload_n 1, 1) := by decide +kernel
theorem dX5_copyFrom_64 : decode cX5_copyFrom 64 = .ok (.getfield 42, 3) := by decide +kernel
theorem dX5_copyFrom_67 : decode cX5_copyFrom 67 = .ok (.putfield 42, 3) := by decide +kernel
theorem dX5_copyFrom_70 : decode cX5_copyFrom 70 = .ok (.aload_n 1, 1) := by decide +kernel
theorem dX5_copyFrom_71 : decode cX5_copyFrom 71 = .ok (.getfield 19, 3) := by decide +kernel
theorem dX5_copyFrom_74 : decode cX5_copyFrom 74 = .ok (.iconst 0, 1) := by decide +kernel
theorem dX5_copyFrom_75 : decode cX5_copyFrom 75 = .ok (.aload_n 0, 1) := by decide +kernel
theorem dX5_copyFrom_76 : decode cX5_copyFrom 76 = .ok (.getfield 19, 3) := by decide +kernel
theorem dX5_copyFrom_79 : decode cX5_copyFrom 79 = .ok (.iconst 0, 1) := by decide +kernel
theorem dX5_copyFrom_80 : decode cX5_copyFrom 80 = .ok (.bipush 8, 2) := by decide +kernel
theorem dX5_copyFrom_82 : decode cX5_copyFrom 82 = .ok (.invokestatic 45, 3) := by decide +kernel
theorem dX5_copyFrom_85 : decode cX5_copyFrom 85 = .ok (.aload_n 1, 1) := by decide +kernel
theorem dX5_copyFrom_86 : decode cX5_copyFrom 86 = .ok (.getfield 22, 3) := by decide +kernel
theorem dX5_copyFrom_89 : decode cX5_copyFrom 89 = .ok (.iconst 0, 1) := by decide +kernel
theorem dX5_copyFrom_90 : decode cX5_copyFrom 90 = .ok (.aload_n 0, 1) := by decide +kernel
theorem dX5_copyFrom_91 : decode cX5_copyFrom 91 = .ok (.getfield 22, 3) := by decide +kernel
theorem dX5_copyFrom_94 : decode cX5_copyFrom 94 = .ok (.iconst 0, 1) := by decide +kernel
theorem dX5_copyFrom_95 : decode cX5_copyFrom 95 = .ok (.iconst 3, 1) := by decide +kernel
theorem dX5_copyFrom_96 : decode cX5_copyFrom 96 = .ok (.invokestatic 45, 3) := by decide +kernel
theorem dX5_copyFrom_99 : decode cX5_copyFrom 99 = .ok (.aload_n 0, 1) := by decide +kernel
theorem dX5_copyFrom_100 : decode cX5_copyFrom 100 = .ok (.aload_n 1, 1) := by decide +kernel
theorem dX5_copyFrom_101 : decode cX5_copyFrom 101 = .ok (.getfield 51, 3) := by decide +kernel
theorem dX5_copyFrom_104 : decode cX5_copyFrom 104 = .ok (.putfield 51, 3) := by decide +kernel
theorem dX5_copyFrom_107 : decode cX5_copyFrom 107 = .ok (.aload_n 1, 1) := by decide +kernel
theorem dX5_copyFrom_108 : decode cX5_copyFrom 108 = .ok (.getfield 25, 3) := by decide +kernel
theorem dX5_copyFrom_111 : decode cX5_copyFrom 111 = .ok (.iconst 0, 1) := by decide +kernel
theorem dX5_copyFrom_112 : decode cX5_copyFrom 112 = .ok (.aload_n 0, 1) := by decide +kernel
theorem dX5_copyFrom_113 : decode cX5_copyFrom 113 = .ok (.getfield 25, 3) := by decide +kernel
theorem dX5_copyFrom_116 : decode cX5_copyFrom 116 = .ok (.iconst 0, 1) := by decide +kernel
theorem dX5_copyFrom_117 : decode cX5_copyFrom 117 = .ok (.bipush 8, 2) := by decide +kernel
theorem dX5_copyFrom_119 : decode cX5_copyFrom 119 = .ok (.invokestatic 45, 3) := by decide +kernel
theorem dX5_copyFrom_122 : decode cX5_copyFrom 122 = .ok (.aload_n 1, 1) := by decide +kernel
theorem dX5_copyFrom_123 : decode cX5_copyFrom 123 = .ok (.getfield 28, 3) := by decide +kernel
theorem dX5_copyFrom_126 : decode cX5_copyFrom 126 = .ok (.iconst 0, 1) := by decide +kernel
theorem dX5_copyFrom_127 : decode cX5_copyFrom 127 = .ok (.aload_n 0, 1) := by decide +kernel
theorem dX5_copyFrom_128 : decode cX5_copyFrom 128 = .ok (.getfield 28, 3) := by decide +kernel
theorem dX5_copyFrom_131 : decode cX5_copyFrom 131 = .ok (.iconst 0, 1) := by decide +kernel
theorem dX5_copyFrom_132 : decode cX5_copyFrom 132 = .ok (.bipush 8, 2) := by decide +kernel
theorem dX5_copyFrom_134 : decode cX5_copyFrom 134 = .ok (.invokestatic 45, 3) := by decide +kernel
theorem dX5_copyFrom_137 : decode cX5_copyFrom 137 = .ok (.return_, 1) := by decide +kernel
theorem dX5_addSource_0 : decode cX5_addSource 0 = .ok (.aload_n 0, 1) := by decide +kernel
theorem dX5_addSource_1 : decode cX5_addSource 1 = .ok (.getfield 31, 3) := by decide +kernel
theorem dX5_addSource_4 : decode cX5_addSource 4 = .ok (.bipush 6, 2) := by decide +kernel
theorem dX5_addSource_6 : decode cX5_addSource 6 = .ok (.if_icmp .lt 5, 3) := by decide +kernel
theorem dX5_addSource_9 : decode cX5_addSource 9 = .ok (.iconst (-1), 1) := by decide +kernel
theorem dX5_addSource_10 : decode cX5_addSource 10 = .ok (.ireturn, 1) := by decide +kernel
theorem dX5_addSource_11 : decode cX5_addSource 11 = .ok (.aload_n 0, 1) := by decide +kernel
theorem dX5_addSource_12 : decode cX5_addSource 12 = .ok (.getfield 9, 3) := by decide +kernel
theorem dX5_addSource_15 : decode cX5_addSource 15 = .ok (.aload_n 0, 1) := by decide +kernel
theorem dX5_addSource_16 : decode cX5_addSource 16 = .ok (.getfield 31, 3) := by decide +kernel
theorem dX5_addSource_19 : decode cX5_addSource 19 = .ok (.iconst 1, 1) := by decide +kernel
theorem dX5_addSource_20 : decode cX5_addSource 20 = .ok (.bastore, 1) := by decide +kernel
theorem dX5_addSource_21 : decode cX5_addSource 21 = .ok (.aload_n 0, 1) := by decide +kernel
theorem dX5_addSource_22 : decode cX5_addSource 22 = .ok (.getfield 15, 3) := by decide +kernel
theorem dX5_addSource_25 : decode cX5_addSource 25 = .ok (.aload_n 0, 1) := by decide +kernel
theorem dX5_addSource_26 : decode cX5_addSource 26 = .ok (.getfield 31, 3) := by decide +kernel
theorem dX5_addSource_29 : decode cX5_addSource 29 = .ok (.iconst 0, 1) := by decide +kernel
theorem dX5_addSource_30 : decode cX5_addSource 30 = .ok (.iastore, 1) := by decide +kernel
theorem dX5_addSource_31 : decode cX5_addSource 31 = .ok (.aload_n 0, 1) := by decide +kernel
theorem dX5_addSource_32 : decode cX5_addSource 32 = .ok (.dup, 1) := by decide +kernel
theorem dX5_addSource_33 : decode cX5_addSource 33 = .ok (.getfield 31, 3) := by decide +kernel
theorem dX5_addSource_36 : decode cX5_addSource 36 = .ok (.dup_x1, 1) := by decide +kernel
theorem dX5_addSource_37 : decode cX5_addSource 37 = .ok (.iconst 1, 1) := by decide +kernel
theorem dX5_addSource_38 : decode cX5_addSource 38 = .ok (.iadd, 1) := by decide +kernel
theorem dX5_addSource_39 : decode cX5_addSource 39 = .ok (.putfield 31, 3) := by decide +kernel
theorem dX5_addSource_42 : decode cX5_addSource 42 = .ok (.ireturn, 1) := by decide +kernel
theorem dX5_addNose_0 : decode cX5_addNose 0 = .ok (.aload_n 0, 1) := by decide +kernel
theorem dX5_addNose_1 : decode cX5_addNose 1 = .ok (.getfield 51, 3) := by decide +kernel
theorem dX5_addNose_4 : decode cX5_addNose 4 = .ok (.bipush 8, 2) := by decide +kernel
theorem dX5_addNose_6 : decode cX5_addNose 6 = .ok (.if_icmp .lt 4, 3) := by decide +kernel
theorem dX5_addNose_9 : decode cX5_addNose 9 = .ok (.return_, 1) := by decide +kernel
theorem dX5_addNose_10 : decode cX5_addNose 10 = .ok (.aload_n 0, 1) := by decide +kernel
theorem dX5_addNose_11 : decode cX5_addNose 11 = .ok (.getfield 25, 3) := by decide +kernel
theorem dX5_addNose_14 : decode cX5_addNose 14 = .ok (.aload_n 0, 1) := by decide +kernel
theorem dX5_addNose_15 : decode cX5_addNose 15 = .ok (.getfield 51, 3) := by decide +kernel
theorem dX5_addNose_18 : decode cX5_addNose 18 = .ok (.iload_n 1, 1) := by decide +kernel
theorem dX5_addNose_19 : decode cX5_addNose 19 = .ok (.iastore, 1) := by decide +kernel
theorem dX5_addNose_20 : decode cX5_addNose 20 = .ok (.aload_n 0, 1) := by decide +kernel
theorem dX5_addNose_21 : decode cX5_addNose 21 = .ok (.getfield 28, 3) := by decide +kernel
theorem dX5_addNose_24 : decode cX5_addNose 24 = .ok (.aload_n 0, 1) := by decide +kernel
theorem dX5_addNose_25 : decode cX5_addNose 25 = .ok (.getfield 51, 3) := by decide +kernel
theorem dX5_addNose_28 : decode cX5_addNose 28 = .ok (.iload_n 2, 1) := by decide +kernel
theorem dX5_addNose_29 : decode cX5_addNose 29 = .ok (.iastore, 1) := by decide +kernel
theorem dX5_addNose_30 : decode cX5_addNose 30 = .ok (.aload_n 0, 1) := by decide +kernel
theorem dX5_addNose_31 : decode cX5_addNose 31 = .ok (.dup, 1) := by decide +kernel
theorem dX5_addNose_32 : decode cX5_addNose 32 = .ok (.getfield 51, 3) := by decide +kernel
theorem dX5_addNose_35 : decode cX5_addNose 35 = .ok (.iconst 1, 1) := by decide +kernel
theorem dX5_addNose_36 : decode cX5_addNose 36 = .ok (.iadd, 1) := by decide +kernel
theorem dX5_addNose_37 : decode cX5_addNose 37 = .ok (.putfield 51, 3) := by decide +kernel
theorem dX5_addNose_40 : decode cX5_addNose 40 = .ok (.return_, 1) := by decide +kernel
theorem dX5_smells_0 : decode cX5_smells 0 = .ok (.aload_n 0, 1) := by decide +kernel
theorem dX5_smells_1 : decode cX5_smells 1 = .ok (.getfield 9, 3) := by decide +kernel
theorem dX5_smells_4 : decode cX5_smells 4 = .ok (.iload_n 2, 1) := by decide +kernel
theorem dX5_smells_5 : decode cX5_smells 5 = .ok (.baload, 1) := by decide +kernel
theorem dX5_smells_6 : decode cX5_smells 6 = .ok (.ifCond .eq 22, 3) := by decide +kernel
theorem dX5_smells_9 : decode cX5_smells 9 = .ok (.aload_n 1, 1) := by decide +kernel
theorem dX5_smells_10 : decode cX5_smells 10 = .ok (.aload_n 0, 1) := by decide +kernel
theorem dX5_smells_11 : decode cX5_smells 11 = .ok (.getfield 42, 3) := by decide +kernel
theorem dX5_smells_14 : decode cX5_smells 14 = .ok (.aload_n 0, 1) := by decide +kernel
theorem dX5_smells_15 : decode cX5_smells 15 = .ok (.getfield 38, 3) := by decide +kernel
theorem dX5_smells_18 : decode cX5_smells 18 = .ok (.invokevirtual 54, 3) := by decide +kernel
theorem dX5_smells_21 : decode cX5_smells 21 = .ok (.ifCond .eq 7, 3) := by decide +kernel
theorem dX5_smells_24 : decode cX5_smells 24 = .ok (.iconst 1, 1) := by decide +kernel
theorem dX5_smells_25 : decode cX5_smells 25 = .ok (.goto 4, 3) := by decide +kernel
theorem dX5_smells_28 : decode cX5_smells 28 = .ok (.iconst 0, 1) := by decide +kernel
theorem dX5_smells_29 : decode cX5_smells 29 = .ok (.ireturn, 1) := by decide +kernel
theorem dX5_countBurning_0 : decode cX5_countBurning 0 = .ok (.iconst 0, 1) := by decide +kernel
theorem dX5_countBurning_1 : decode cX5_countBurning 1 = .ok (.istore_n 1, 1) := by decide +kernel
theorem dX5_countBurning_2 : decode cX5_countBurning 2 = .ok (.iconst 0, 1) := by decide +kernel
theorem dX5_countBurning_3 : decode cX5_countBurning 3 = .ok (.istore_n 2, 1) := by decide +kernel
theorem dX5_countBurning_4 : decode cX5_countBurning 4 = .ok (.iload_n 2, 1) := by decide +kernel
theorem dX5_countBurning_5 : decode cX5_countBurning 5 = .ok (.aload_n 0, 1) := by decide +kernel
theorem dX5_countBurning_6 : decode cX5_countBurning 6 = .ok (.getfield 31, 3) := by decide +kernel
theorem dX5_countBurning_9 : decode cX5_countBurning 9 = .ok (.if_icmp .ge 21, 3) := by decide +kernel
theorem dX5_countBurning_12 : decode cX5_countBurning 12 = .ok (.aload_n 0, 1) := by decide +kernel
theorem dX5_countBurning_13 : decode cX5_countBurning 13 = .ok (.getfield 9, 3) := by decide +kernel
theorem dX5_countBurning_16 : decode cX5_countBurning 16 = .ok (.iload_n 2, 1) := by decide +kernel
theorem dX5_countBurning_17 : decode cX5_countBurning 17 = .ok (.baload, 1) := by decide +kernel
theorem dX5_countBurning_18 : decode cX5_countBurning 18 = .ok (.ifCond .eq 6, 3) := by decide +kernel
theorem dX5_countBurning_21 : decode cX5_countBurning 21 = .ok (.iinc 1 1, 3) := by decide +kernel
theorem dX5_countBurning_24 : decode cX5_countBurning 24 = .ok (.iinc 2 1, 3) := by decide +kernel
theorem dX5_countBurning_27 : decode cX5_countBurning 27 = .ok (.goto (-23), 3) := by decide +kernel
theorem dX5_countBurning_30 : decode cX5_countBurning 30 = .ok (.iload_n 1, 1) := by decide +kernel
theorem dX5_countBurning_31 : decode cX5_countBurning 31 = .ok (.ireturn, 1) := by decide +kernel
theorem dX5_endHour_0 : decode cX5_endHour 0 = .ok (.iconst 0, 1) := by decide +kernel
theorem dX5_endHour_1 : decode cX5_endHour 1 = .ok (.istore_n 1, 1) := by decide +kernel
theorem dX5_endHour_2 : decode cX5_endHour 2 = .ok (.iload_n 1, 1) := by decide +kernel
theorem dX5_endHour_3 : decode cX5_endHour 3 = .ok (.aload_n 0, 1) := by decide +kernel
theorem dX5_endHour_4 : decode cX5_endHour 4 = .ok (.getfield 31, 3) := by decide +kernel
theorem dX5_endHour_7 : decode cX5_endHour 7 = .ok (.if_icmp .ge 28, 3) := by decide +kernel
theorem dX5_endHour_10 : decode cX5_endHour 10 = .ok (.aload_n 0, 1) := by decide +kernel
theorem dX5_endHour_11 : decode cX5_endHour 11 = .ok (.getfield 9, 3) := by decide +kernel
theorem dX5_endHour_14 : decode cX5_endHour 14 = .ok (.iload_n 1, 1) := by decide +kernel
theorem dX5_endHour_15 : decode cX5_endHour 15 = .ok (.baload, 1) := by decide +kernel
theorem dX5_endHour_16 : decode cX5_endHour 16 = .ok (.ifCond .eq 13, 3) := by decide +kernel
theorem dX5_endHour_19 : decode cX5_endHour 19 = .ok (.aload_n 0, 1) := by decide +kernel
theorem dX5_endHour_20 : decode cX5_endHour 20 = .ok (.getfield 15, 3) := by decide +kernel
theorem dX5_endHour_23 : decode cX5_endHour 23 = .ok (.iload_n 1, 1) := by decide +kernel
theorem dX5_endHour_24 : decode cX5_endHour 24 = .ok (.dup2, 1) := by decide +kernel
theorem dX5_endHour_25 : decode cX5_endHour 25 = .ok (.iaload, 1) := by decide +kernel
theorem dX5_endHour_26 : decode cX5_endHour 26 = .ok (.iconst 1, 1) := by decide +kernel
theorem dX5_endHour_27 : decode cX5_endHour 27 = .ok (.iadd, 1) := by decide +kernel
theorem dX5_endHour_28 : decode cX5_endHour 28 = .ok (.iastore, 1) := by decide +kernel
theorem dX5_endHour_29 : decode cX5_endHour 29 = .ok (.iinc 1 1, 3) := by decide +kernel
theorem dX5_endHour_32 : decode cX5_endHour 32 = .ok (.goto (-30), 3) := by decide +kernel
theorem dX5_endHour_35 : decode cX5_endHour 35 = .ok (.aload_n 0, 1) := by decide +kernel
theorem dX5_endHour_36 : decode cX5_endHour 36 = .ok (.dup, 1) := by decide +kernel
theorem dX5_endHour_37 : decode cX5_endHour 37 = .ok (.getfield 42, 3) := by decide +kernel
theorem dX5_endHour_40 : decode cX5_endHour 40 = .ok (.iconst 1, 1) := by decide +kernel
theorem dX5_endHour_41 : decode cX5_endHour 41 = .ok (.iadd, 1) := by decide +kernel
theorem dX5_endHour_42 : decode cX5_endHour 42 = .ok (.putfield 42, 3) := by decide +kernel
theorem dX5_endHour_45 : decode cX5_endHour 45 = .ok (.return_, 1) := by decide +kernel
theorem dX6_init_0 : decode cX6_init 0 = .ok (.aload_n 0, 1) := by decide +kernel
theorem dX6_init_1 : decode cX6_init 1 = .ok (.iload_n 1, 1) := by decide +kernel
theorem dX6_init_2 : decode cX6_init 2 = .ok (.iload_n 2, 1) := by decide +kernel
theorem dX6_init_3 : decode cX6_init 3 = .ok (.iload_n 3, 1) := by decide +kernel
theorem dX6_init_4 : decode cX6_init 4 = .ok (.invokespecial 1, 3) := by decide +kernel
theorem dX6_init_7 : decode cX6_init 7 = .ok (.return_, 1) := by decide +kernel
theorem dX6_kindNumber_0 : decode cX6_kindNumber 0 = .ok (.iconst 3, 1) := by decide +kernel
theorem dX6_kindNumber_1 : decode cX6_kindNumber 1 = .ok (.ireturn, 1) := by decide +kernel
theorem dX6_ease_0 : decode cX6_ease 0 = .ok (.iconst 1, 1) := by decide +kernel
theorem dX6_ease_1 : decode cX6_ease 1 = .ok (.ireturn, 1) := by decide +kernel
theorem dX7_init_0 : decode cX7_init 0 = .ok (.aload_n 0, 1) := by decide +kernel
theorem dX7_init_1 : decode cX7_init 1 = .ok (.invokespecial 3, 3) := by decide +kernel
theorem dX7_init_4 : decode cX7_init 4 = .ok (.aload_n 0, 1) := by decide +kernel
theorem dX7_init_5 : decode cX7_init 5 = .ok (.bipush 8, 2) := by decide +kernel
theorem dX7_init_7 : decode cX7_init 7 = .ok (.newarray .int, 2) := by decide +kernel
theorem dX7_init_9 : decode cX7_init 9 = .ok (.putfield 9, 3) := by decide +kernel
theorem dX7_init_12 : decode cX7_init 12 = .ok (.return_, 1) := by decide +kernel
theorem dX7_isThere_0 : decode cX7_isThere 0 = .ok (.aload_n 0, 1) := by decide +kernel
theorem dX7_isThere_1 : decode cX7_isThere 1 = .ok (.getfield 15, 3) := by decide +kernel
theorem dX7_isThere_4 : decode cX7_isThere 4 = .ok (.ifCond .le 7, 3) := by decide +kernel
theorem dX7_isThere_7 : decode cX7_isThere 7 = .ok (.iconst 1, 1) := by decide +kernel
theorem dX7_isThere_8 : decode cX7_isThere 8 = .ok (.goto 4, 3) := by decide +kernel
theorem dX7_isThere_11 : decode cX7_isThere 11 = .ok (.iconst 0, 1) := by decide +kernel
theorem dX7_isThere_12 : decode cX7_isThere 12 = .ok (.ireturn, 1) := by decide +kernel
theorem dX7_isOpen_0 : decode cX7_isOpen 0 = .ok (.aload_n 0, 1) := by decide +kernel
theorem dX7_isOpen_1 : decode cX7_isOpen 1 = .ok (.getfield 9, 3) := by decide +kernel
theorem dX7_isOpen_4 : decode cX7_isOpen 4 = .ok (.iload_n 1, 1) := by decide +kernel
theorem dX7_isOpen_5 : decode cX7_isOpen 5 = .ok (.iaload, 1) := by decide +kernel
theorem dX7_isOpen_6 : decode cX7_isOpen 6 = .ok (.ifCond .ne 7, 3) := by decide +kernel
theorem dX7_isOpen_9 : decode cX7_isOpen 9 = .ok (.iconst 1, 1) := by decide +kernel
theorem dX7_isOpen_10 : decode cX7_isOpen 10 = .ok (.goto 4, 3) := by decide +kernel
theorem dX7_isOpen_13 : decode cX7_isOpen 13 = .ok (.iconst 0, 1) := by decide +kernel
theorem dX7_isOpen_14 : decode cX7_isOpen 14 = .ok (.ireturn, 1) := by decide +kernel
theorem dX7_isWall_0 : decode cX7_isWall 0 = .ok (.aload_n 0, 1) := by decide +kernel
theorem dX7_isWall_1 : decode cX7_isWall 1 = .ok (.getfield 9, 3) := by decide +kernel
theorem dX7_isWall_4 : decode cX7_isWall 4 = .ok (.iload_n 1, 1) := by decide +kernel
theorem dX7_isWall_5 : decode cX7_isWall 5 = .ok (.iaload, 1) := by decide +kernel
theorem dX7_isWall_6 : decode cX7_isWall 6 = .ok (.iconst 1, 1) := by decide +kernel
theorem dX7_isWall_7 : decode cX7_isWall 7 = .ok (.if_icmp .ne 7, 3) := by decide +kernel
theorem dX7_isWall_10 : decode cX7_isWall 10 = .ok (.iconst 1, 1) := by decide +kernel
theorem dX7_isWall_11 : decode cX7_isWall 11 = .ok (.goto 4, 3) := by decide +kernel
theorem dX7_isWall_14 : decode cX7_isWall 14 = .ok (.iconst 0, 1) := by decide +kernel
theorem dX7_isWall_15 : decode cX7_isWall 15 = .ok (.ireturn, 1) := by decide +kernel
theorem dX7_take_0 : decode cX7_take 0 = .ok (.aload_n 0, 1) := by decide +kernel
theorem dX7_take_1 : decode cX7_take 1 = .ok (.iconst 0, 1) := by decide +kernel
theorem dX7_take_2 : decode cX7_take 2 = .ok (.putfield 19, 3) := by decide +kernel
theorem dX7_take_5 : decode cX7_take 5 = .ok (.iconst 0, 1) := by decide +kernel
theorem dX7_take_6 : decode cX7_take 6 = .ok (.istore_n 2, 1) := by decide +kernel
theorem dX7_take_7 : decode cX7_take 7 = .ok (.iload_n 2, 1) := by decide +kernel
theorem dX7_take_8 : decode cX7_take 8 = .ok (.bipush 8, 2) := by decide +kernel
theorem dX7_take_10 : decode cX7_take 10 = .ok (.if_icmp .ge 62, 3) := by decide +kernel
theorem dX7_take_13 : decode cX7_take 13 = .ok (.aload_n 1, 1) := by decide +kernel
theorem dX7_take_14 : decode cX7_take 14 = .ok (.getfield 22, 3) := by decide +kernel
theorem dX7_take_17 : decode cX7_take 17 = .ok (.iload_n 2, 1) := by decide +kernel
theorem dX7_take_18 : decode cX7_take 18 = .ok (.invokestatic 27, 3) := by decide +kernel
theorem dX7_take_21 : decode cX7_take 21 = .ok (.iaload, 1) := by decide +kernel
theorem dX7_take_22 : decode cX7_take 22 = .ok (.istore_n 3, 1) := by decide +kernel
theorem dX7_take_23 : decode cX7_take 23 = .ok (.aload_n 0, 1) := by decide +kernel
theorem dX7_take_24 : decode cX7_take 24 = .ok (.getfield 9, 3) := by decide +kernel
theorem dX7_take_27 : decode cX7_take 27 = .ok (.iload_n 2, 1) := by decide +kernel
theorem dX7_take_28 : decode cX7_take 28 = .ok (.iload_n 3, 1) := by decide +kernel
theorem dX7_take_29 : decode cX7_take 29 = .ok (.bipush 35, 2) := by decide +kernel
theorem dX7_take_31 : decode cX7_take 31 = .ok (.if_icmp .ne 7, 3) := by decide +kernel
theorem dX7_take_34 : decode cX7_take 34 = .ok (.iconst 1, 1) := by decide +kernel
theorem dX7_take_35 : decode cX7_take 35 = .ok (.goto 14, 3) := by decide +kernel
theorem dX7_take_38 : decode cX7_take 38 = .ok (.iload_n 3, 1) := by decide +kernel
theorem dX7_take_39 : decode cX7_take 39 = .ok (.bipush 119, 2) := by decide +kernel
theorem dX7_take_41 : decode cX7_take 41 = .ok (.if_icmp .ne 7, 3) := by decide +kernel
theorem dX7_take_44 : decode cX7_take 44 = .ok (.iconst 2, 1) := by decide +kernel
theorem dX7_take_45 : decode cX7_take 45 = .ok (.goto 4, 3) := by decide +kernel
theorem dX7_take_48 : decode cX7_take 48 = .ok (.iconst 0, 1) := by decide +kernel
theorem dX7_take_49 : decode cX7_take 49 = .ok (.iastore, 1) := by decide +kernel
theorem dX7_take_50 : decode cX7_take 50 = .ok (.iload_n 3, 1) := by decide +kernel
theorem dX7_take_51 : decode cX7_take 51 = .ok (.bipush 46, 2) := by decide +kernel
theorem dX7_take_53 : decode cX7_take 53 = .ok (.if_icmp .ne 13, 3) := by decide +kernel
theorem dX7_take_56 : decode cX7_take 56 = .ok (.aload_n 0, 1) := by decide +kernel
theorem dX7_take_57 : decode cX7_take 57 = .ok (.dup, 1) := by decide +kernel
theorem dX7_take_58 : decode cX7_take 58 = .ok (.getfield 19, 3) := by decide +kernel
theorem dX7_take_61 : decode cX7_take 61 = .ok (.iconst 1, 1) := by decide +kernel
theorem dX7_take_62 : decode cX7_take 62 = .ok (.iadd, 1) := by decide +kernel
theorem dX7_take_63 : decode cX7_take 63 = .ok (.putfield 19, 3) := by decide +kernel
theorem dX7_take_66 : decode cX7_take 66 = .ok (.iinc 2 1, 3) := by decide +kernel
theorem dX7_take_69 : decode cX7_take 69 = .ok (.goto (-62), 3) := by decide +kernel
theorem dX7_take_72 : decode cX7_take 72 = .ok (.aload_n 0, 1) := by decide +kernel
theorem dX7_take_73 : decode cX7_take 73 = .ok (.aload_n 1, 1) := by decide +kernel
theorem dX7_take_74 : decode cX7_take 74 = .ok (.getfield 22, 3) := by decide +kernel
theorem dX7_take_77 : decode cX7_take 77 = .ok (.bipush 10, 2) := by decide +kernel
theorem dX7_take_79 : decode cX7_take 79 = .ok (.iaload, 1) := by decide +kernel
theorem dX7_take_80 : decode cX7_take 80 = .ok (.bipush 48, 2) := by decide +kernel
theorem dX7_take_82 : decode cX7_take 82 = .ok (.isub, 1) := by decide +kernel
theorem dX7_take_83 : decode cX7_take 83 = .ok (.putfield 15, 3) := by decide +kernel
theorem dX7_take_86 : decode cX7_take 86 = .ok (.return_, 1) := by decide +kernel
theorem dX7_beside_0 : decode cX7_beside 0 = .ok (.iload_n 1, 1) := by decide +kernel
theorem dX7_beside_1 : decode cX7_beside 1 = .ok (.tableswitch 86 1 4 #[31, 46, 60, 73], 31) := by decide +kernel
theorem dX7_beside_32 : decode cX7_beside 32 = .ok (.iload_n 0, 1) := by decide +kernel
theorem dX7_beside_33 : decode cX7_beside 33 = .ok (.iconst 4, 1) := by decide +kernel
theorem dX7_beside_34 : decode cX7_beside 34 = .ok (.irem, 1) := by decide +kernel
theorem dX7_beside_35 : decode cX7_beside 35 = .ok (.iconst 3, 1) := by decide +kernel
theorem dX7_beside_36 : decode cX7_beside 36 = .ok (.if_icmp .ge 9, 3) := by decide +kernel
theorem dX7_beside_39 : decode cX7_beside 39 = .ok (.iload_n 0, 1) := by decide +kernel
theorem dX7_beside_40 : decode cX7_beside 40 = .ok (.iconst 1, 1) := by decide +kernel
theorem dX7_beside_41 : decode cX7_beside 41 = .ok (.iadd, 1) := by decide +kernel
theorem dX7_beside_42 : decode cX7_beside 42 = .ok (.goto 4, 3) := by decide +kernel
theorem dX7_beside_45 : decode cX7_beside 45 = .ok (.iconst (-1), 1) := by decide +kernel
theorem dX7_beside_46 : decode cX7_beside 46 = .ok (.ireturn, 1) := by decide +kernel
theorem dX7_beside_47 : decode cX7_beside 47 = .ok (.iload_n 0, 1) := by decide +kernel
theorem dX7_beside_48 : decode cX7_beside 48 = .ok (.iconst 4, 1) := by decide +kernel
theorem dX7_beside_49 : decode cX7_beside 49 = .ok (.irem, 1) := by decide +kernel
theorem dX7_beside_50 : decode cX7_beside 50 = .ok (.ifCond .le 9, 3) := by decide +kernel
theorem dX7_beside_53 : decode cX7_beside 53 = .ok (.iload_n 0, 1) := by decide +kernel
theorem dX7_beside_54 : decode cX7_beside 54 = .ok (.iconst 1, 1) := by decide +kernel
theorem dX7_beside_55 : decode cX7_beside 55 = .ok (.isub, 1) := by decide +kernel
theorem dX7_beside_56 : decode cX7_beside 56 = .ok (.goto 4, 3) := by decide +kernel
theorem dX7_beside_59 : decode cX7_beside 59 = .ok (.iconst (-1), 1) := by decide +kernel
theorem dX7_beside_60 : decode cX7_beside 60 = .ok (.ireturn, 1) := by decide +kernel
theorem dX7_beside_61 : decode cX7_beside 61 = .ok (.iload_n 0, 1) := by decide +kernel
theorem dX7_beside_62 : decode cX7_beside 62 = .ok (.iconst 4, 1) := by decide +kernel
theorem dX7_beside_63 : decode cX7_beside 63 = .ok (.if_icmp .ge 9, 3) := by decide +kernel
theorem dX7_beside_66 : decode cX7_beside 66 = .ok (.iload_n 0, 1) := by decide +kernel
theorem dX7_beside_67 : decode cX7_beside 67 = .ok (.iconst 4, 1) := by decide +kernel
theorem dX7_beside_68 : decode cX7_beside 68 = .ok (.iadd, 1) := by decide +kernel
theorem dX7_beside_69 : decode cX7_beside 69 = .ok (.goto 4, 3) := by decide +kernel
theorem dX7_beside_72 : decode cX7_beside 72 = .ok (.iconst (-1), 1) := by decide +kernel
theorem dX7_beside_73 : decode cX7_beside 73 = .ok (.ireturn, 1) := by decide +kernel
theorem dX7_beside_74 : decode cX7_beside 74 = .ok (.iload_n 0, 1) := by decide +kernel
theorem dX7_beside_75 : decode cX7_beside 75 = .ok (.iconst 4, 1) := by decide +kernel
theorem dX7_beside_76 : decode cX7_beside 76 = .ok (.if_icmp .lt 9, 3) := by decide +kernel
theorem dX7_beside_79 : decode cX7_beside 79 = .ok (.iload_n 0, 1) := by decide +kernel
theorem dX7_beside_80 : decode cX7_beside 80 = .ok (.iconst 4, 1) := by decide +kernel
theorem dX7_beside_81 : decode cX7_beside 81 = .ok (.isub, 1) := by decide +kernel
theorem dX7_beside_82 : decode cX7_beside 82 = .ok (.goto 4, 3) := by decide +kernel
theorem dX7_beside_85 : decode cX7_beside 85 = .ok (.iconst (-1), 1) := by decide +kernel
theorem dX7_beside_86 : decode cX7_beside 86 = .ok (.ireturn, 1) := by decide +kernel
theorem dX7_beside_87 : decode cX7_beside 87 = .ok (.iconst (-1), 1) := by decide +kernel
theorem dX7_beside_88 : decode cX7_beside 88 = .ok (.ireturn, 1) := by decide +kernel
theorem dX7_opposite_0 : decode cX7_opposite 0 = .ok (.iload_n 0, 1) := by decide +kernel
theorem dX7_opposite_1 : decode cX7_opposite 1 = .ok (.iconst 2, 1) := by decide +kernel
theorem dX7_opposite_2 : decode cX7_opposite 2 = .ok (.irem, 1) := by decide +kernel
theorem dX7_opposite_3 : decode cX7_opposite 3 = .ok (.iconst 1, 1) := by decide +kernel
theorem dX7_opposite_4 : decode cX7_opposite 4 = .ok (.if_icmp .ne 9, 3) := by decide +kernel
theorem dX7_opposite_7 : decode cX7_opposite 7 = .ok (.iload_n 0, 1) := by decide +kernel
theorem dX7_opposite_8 : decode cX7_opposite 8 = .ok (.iconst 1, 1) := by decide +kernel
theorem dX7_opposite_9 : decode cX7_opposite 9 = .ok (.iadd, 1) := by decide +kernel
theorem dX7_opposite_10 : decode cX7_opposite 10 = .ok (.goto 6, 3) := by decide +kernel
theorem dX7_opposite_13 : decode cX7_opposite 13 = .ok (.iload_n 0, 1) := by decide +kernel
theorem dX7_opposite_14 : decode cX7_opposite 14 = .ok (.iconst 1, 1) := by decide +kernel
theorem dX7_opposite_15 : decode cX7_opposite 15 = .ok (.isub, 1) := by decide +kernel
theorem dX7_opposite_16 : decode cX7_opposite 16 = .ok (.ireturn, 1) := by decide +kernel
theorem dX7_loss_0 : decode cX7_loss 0 = .ok (.aload_n 0, 1) := by decide +kernel
theorem dX7_loss_1 : decode cX7_loss 1 = .ok (.getfield 15, 3) := by decide +kernel
theorem dX7_loss_4 : decode cX7_loss 4 = .ok (.iload_n 3, 1) := by decide +kernel
theorem dX7_loss_5 : decode cX7_loss 5 = .ok (.isub, 1) := by decide +kernel
theorem dX7_loss_6 : decode cX7_loss 6 = .ok (.istore 5, 2) := by decide +kernel
theorem dX7_loss_8 : decode cX7_loss 8 = .ok (.iload 4, 2) := by decide +kernel
theorem dX7_loss_10 : decode cX7_loss 10 = .ok (.iload_n 2, 1) := by decide +kernel
theorem dX7_loss_11 : decode cX7_loss 11 = .ok (.if_icmp .ne 6, 3) := by decide +kernel
theorem dX7_loss_14 : decode cX7_loss 14 = .ok (.iinc 5 (-1), 3) := by decide +kernel
theorem dX7_loss_17 : decode cX7_loss 17 = .ok (.iload 4, 2) := by decide +kernel
theorem dX7_loss_19 : decode cX7_loss 19 = .ok (.iload_n 2, 1) := by decide +kernel
theorem dX7_loss_20 : decode cX7_loss 20 = .ok (.invokestatic 31, 3) := by decide +kernel
theorem dX7_loss_23 : decode cX7_loss 23 = .ok (.if_icmp .ne 6, 3) := by decide +kernel
theorem dX7_loss_26 : decode cX7_loss 26 = .ok (.iinc 5 1, 3) := by decide +kernel
theorem dX7_loss_29 : decode cX7_loss 29 = .ok (.aload_n 0, 1) := by decide +kernel
theorem dX7_loss_30 : decode cX7_loss 30 = .ok (.getfield 9, 3) := by decide +kernel
theorem dX7_loss_33 : decode cX7_loss 33 = .ok (.iload_n 1, 1) := by decide +kernel
theorem dX7_loss_34 : decode cX7_loss 34 = .ok (.iaload, 1) := by decide +kernel
theorem dX7_loss_35 : decode cX7_loss 35 = .ok (.iconst 2, 1) := by decide +kernel
theorem dX7_loss_36 : decode cX7_loss 36 = .ok (.if_icmp .ne 6, 3) := by decide +kernel
theorem dX7_loss_39 : decode cX7_loss 39 = .ok (.iinc 5 2, 3) := by decide +kernel
theorem dX7_loss_42 : decode cX7_loss 42 = .ok (.iload 5, 2) := by decide +kernel
theorem dX7_loss_44 : decode cX7_loss 44 = .ok (.iconst 0, 1) := by decide +kernel
theorem dX7_loss_45 : decode cX7_loss 45 = .ok (.invokestatic 34, 3) := by decide +kernel
theorem dX7_loss_48 : decode cX7_loss 48 = .ok (.ireturn, 1) := by decide +kernel
theorem dX7_spread_0 : decode cX7_spread 0 = .ok (.iconst 0, 1) := by decide +kernel
theorem dX7_spread_1 : decode cX7_spread 1 = .ok (.istore 7, 2) := by decide +kernel
theorem dX7_spread_3 : decode cX7_spread 3 = .ok (.iload 7, 2) := by decide +kernel
theorem dX7_spread_5 : decode cX7_spread 5 = .ok (.bipush 8, 2) := by decide +kernel
theorem dX7_spread_7 : decode cX7_spread 7 = .ok (.if_icmp .ge 15, 3) := by decide +kernel
theorem dX7_spread_10 : decode cX7_spread 10 = .ok (.aload 6, 2) := by decide +kernel
theorem dX7_spread_12 : decode cX7_spread 12 = .ok (.iload 7, 2) := by decide +kernel
theorem dX7_spread_14 : decode cX7_spread 14 = .ok (.iconst 0, 1) := by decide +kernel
theorem dX7_spread_15 : decode cX7_spread 15 = .ok (.iastore, 1) := by decide +kernel
theorem dX7_spread_16 : decode cX7_spread 16 = .ok (.iinc 7 1, 3) := by decide +kernel
theorem dX7_spread_19 : decode cX7_spread 19 = .ok (.goto (-16), 3) := by decide +kernel
theorem dX7_spread_22 : decode cX7_spread 22 = .ok (.aload 6, 2) := by decide +kernel
theorem dX7_spread_24 : decode cX7_spread 24 = .ok (.iload_n 1, 1) := by decide +kernel
theorem dX7_spread_25 : decode cX7_spread 25 = .ok (.iload_n 2, 1) := by decide +kernel
theorem dX7_spread_26 : decode cX7_spread 26 = .ok (.iastore, 1) := by decide +kernel
theorem dX7_spread_27 : decode cX7_spread 27 = .ok (.iconst 1, 1) := by decide +kernel
theorem dX7_spread_28 : decode cX7_spread 28 = .ok (.istore 7, 2) := by decide +kernel
theorem dX7_spread_30 : decode cX7_spread 30 = .ok (.iconst 0, 1) := by decide +kernel
theorem dX7_spread_31 : decode cX7_spread 31 = .ok (.istore 8, 2) := by decide +kernel
theorem dX7_spread_33 : decode cX7_spread 33 = .ok (.iload 8, 2) := by decide +kernel
theorem dX7_spread_35 : decode cX7_spread 35 = .ok (.bipush 8, 2) := by decide +kernel
theorem dX7_spread_37 : decode cX7_spread 37 = .ok (.if_icmp .ge 60, 3) := by decide +kernel
theorem dX7_spread_40 : decode cX7_spread 40 = .ok (.iload 7, 2) := by decide +kernel
theorem dX7_spread_42 : decode cX7_spread 42 = .ok (.ifCond .eq 55, 3) := by decide +kernel
theorem dX7_spread_45 : decode cX7_spread 45 = .ok (.iconst 0, 1) := by decide +kernel
theorem dX7_spread_46 : decode cX7_spread 46 = .ok (.istore 7, 2) := by decide +kernel
theorem dX7_spread_48 : decode cX7_spread 48 = .ok (.iconst 0, 1) := by decide +kernel
theorem dX7_spread_49 : decode cX7_spread 49 = .ok (.istore 9, 2) := by decide +kernel
theorem dX7_spread_51 : decode cX7_spread 51 = .ok (.iload 9, 2) := by decide +kernel
theorem dX7_spread_53 : decode cX7_spread 53 = .ok (.bipush 8, 2) := by decide +kernel
theorem dX7_spread_55 : decode cX7_spread 55 = .ok (.if_icmp .ge 36, 3) := by decide +kernel
theorem dX7_spread_58 : decode cX7_spread 58 = .ok (.aload 6, 2) := by decide +kernel
theorem dX7_spread_60 : decode cX7_spread 60 = .ok (.iload 9, 2) := by decide +kernel
theorem dX7_spread_62 : decode cX7_spread 62 = .ok (.iaload, 1) := by decide +kernel
theorem dX7_spread_63 : decode cX7_spread 63 = .ok (.ifCond .le 22, 3) := by decide +kernel
theorem dX7_spread_66 : decode cX7_spread 66 = .ok (.aload_n 0, 1) := by decide +kernel
theorem dX7_spread_67 : decode cX7_spread 67 = .ok (.iload 9, 2) := by decide +kernel
theorem dX7_spread_69 : decode cX7_spread 69 = .ok (.iload_n 3, 1) := by decide +kernel
theorem dX7_spread_70 : decode cX7_spread 70 = .ok (.iload 4, 2) := by decide +kernel
theorem dX7_spread_72 : decode cX7_spread 72 = .ok (.iload 5, 2) := by decide +kernel
theorem dX7_spread_74 : decode cX7_spread 74 = .ok (.aload 6, 2) := by decide +kernel
theorem dX7_spread_76 : decode cX7_spread 76 = .ok (.invokevirtual 40, 3) := by decide +kernel
theorem dX7_spread_79 : decode cX7_spread 79 = .ok (.ifCond .eq 6, 3) := by decide +kernel
theorem dX7_spread_82 : decode cX7_spread 82 = .ok (.iconst 1, 1) := by decide +kernel
theorem dX7_spread_83 : decode cX7_spread 83 = .ok (.istore 7, 2) := by decide +kernel
theorem dX7_spread_85 : decode cX7_spread 85 = .ok (.iinc 9 1, 3) := by decide +kernel
theorem dX7_spread_88 : decode cX7_spread 88 = .ok (.goto (-37), 3) := by decide +kernel
theorem dX7_spread_91 : decode cX7_spread 91 = .ok (.iinc 8 1, 3) := by decide +kernel
theorem dX7_spread_94 : decode cX7_spread 94 = .ok (.goto (-61), 3) := by decide +kernel
theorem dX7_spread_97 : decode cX7_spread 97 = .ok (.return_, 1) := by decide +kernel
theorem dX7_spreadOn_0 : decode cX7_spreadOn 0 = .ok (.iconst 0, 1) := by decide +kernel
theorem dX7_spreadOn_1 : decode cX7_spreadOn 1 = .ok (.istore 6, 2) := by decide +kernel
theorem dX7_spreadOn_3 : decode cX7_spreadOn 3 = .ok (.iconst 1, 1) := by decide +kernel
theorem dX7_spreadOn_4 : decode cX7_spreadOn 4 = .ok (.istore 7, 2) := by decide +kernel
theorem dX7_spreadOn_6 : decode cX7_spreadOn 6 = .ok (.iload 7, 2) := by decide +kernel
theorem dX7_spreadOn_8 : decode cX7_spreadOn 8 = .ok (.iconst 4, 1) := by decide +kernel
theorem dX7_spreadOn_9 : decode cX7_spreadOn 9 = .ok (.if_icmp .gt 79, 3) := by decide +kernel
theorem dX7_spreadOn_12 : decode cX7_spreadOn 12 = .ok (.iload_n 1, 1) := by decide +kernel
theorem dX7_spreadOn_13 : decode cX7_spreadOn 13 = .ok (.iload 7, 2) := by decide +kernel
theorem dX7_spreadOn_15 : decode cX7_spreadOn 15 = .ok (.invokestatic 44, 3) := by decide +kernel
theorem dX7_spreadOn_18 : decode cX7_spreadOn 18 = .ok (.istore 8, 2) := by decide +kernel
theorem dX7_spreadOn_20 : decode cX7_spreadOn 20 = .ok (.iload 8, 2) := by decide +kernel
theorem dX7_spreadOn_22 : decode cX7_spreadOn 22 = .ok (.iconst (-1), 1) := by decide +kernel
theorem dX7_spreadOn_23 : decode cX7_spreadOn 23 = .ok (.if_icmp .eq 59, 3) := by decide +kernel
theorem dX7_spreadOn_26 : decode cX7_spreadOn 26 = .ok (.aload_n 0, 1) := by decide +kernel
theorem dX7_spreadOn_27 : decode cX7_spreadOn 27 = .ok (.iload 8, 2) := by decide +kernel
theorem dX7_spreadOn_29 : decode cX7_spreadOn 29 = .ok (.invokevirtual 47, 3) := by decide +kernel
theorem dX7_spreadOn_32 : decode cX7_spreadOn 32 = .ok (.ifCond .ne 50, 3) := by decide +kernel
theorem dX7_spreadOn_35 : decode cX7_spreadOn 35 = .ok (.iload 4, 2) := by decide +kernel
theorem dX7_spreadOn_37 : decode cX7_spreadOn 37 = .ok (.iload 8, 2) := by decide +kernel
theorem dX7_spreadOn_39 : decode cX7_spreadOn 39 = .ok (.ishr, 1) := by decide +kernel
theorem dX7_spreadOn_40 : decode cX7_spreadOn 40 = .ok (.iconst 1, 1) := by decide +kernel
theorem dX7_spreadOn_41 : decode cX7_spreadOn 41 = .ok (.iand, 1) := by decide +kernel
theorem dX7_spreadOn_42 : decode cX7_spreadOn 42 = .ok (.ifCond .ne 40, 3) := by decide +kernel
theorem dX7_spreadOn_45 : decode cX7_spreadOn 45 = .ok (.aload 5, 2) := by decide +kernel
theorem dX7_spreadOn_47 : decode cX7_spreadOn 47 = .ok (.iload_n 1, 1) := by decide +kernel
theorem dX7_spreadOn_48 : decode cX7_spreadOn 48 = .ok (.iaload, 1) := by decide +kernel
theorem dX7_spreadOn_49 : decode cX7_spreadOn 49 = .ok (.aload_n 0, 1) := by decide +kernel
theorem dX7_spreadOn_50 : decode cX7_spreadOn 50 = .ok (.iload 8, 2) := by decide +kernel
theorem dX7_spreadOn_52 : decode cX7_spreadOn 52 = .ok (.iload 7, 2) := by decide +kernel
theorem dX7_spreadOn_54 : decode cX7_spreadOn 54 = .ok (.iload_n 2, 1) := by decide +kernel
theorem dX7_spreadOn_55 : decode cX7_spreadOn 55 = .ok (.iload_n 3, 1) := by decide +kernel
theorem dX7_spreadOn_56 : decode cX7_spreadOn 56 = .ok (.invokevirtual 51, 3) := by decide +kernel
theorem dX7_spreadOn_59 : decode cX7_spreadOn 59 = .ok (.isub, 1) := by decide +kernel
theorem dX7_spreadOn_60 : decode cX7_spreadOn 60 = .ok (.istore 9, 2) := by decide +kernel
theorem dX7_spreadOn_62 : decode cX7_spreadOn 62 = .ok (.iload 9, 2) := by decide +kernel
theorem dX7_spreadOn_64 : decode cX7_spreadOn 64 = .ok (.aload 5, 2) := by decide +kernel
theorem dX7_spreadOn_66 : decode cX7_spreadOn 66 = .ok (.iload 8, 2) := by decide +kernel
theorem dX7_spreadOn_68 : decode cX7_spreadOn 68 = .ok (.iaload, 1) := by decide +kernel
theorem dX7_spreadOn_69 : decode cX7_spreadOn 69 = .ok (.if_icmp .le 13, 3) := by decide +kernel
theorem dX7_spreadOn_72 : decode cX7_spreadOn 72 = .ok (.aload 5, 2) := by decide +kernel
theorem dX7_spreadOn_74 : decode cX7_spreadOn 74 = .ok (.iload 8, 2) := by decide +kernel
theorem dX7_spreadOn_76 : decode cX7_spreadOn 76 = .ok (.iload 9, 2) := by decide +kernel
theorem dX7_spreadOn_78 : decode cX7_spreadOn 78 = .ok (.iastore, 1) := by decide +kernel
theorem dX7_spreadOn_79 : decode cX7_spreadOn 79 = .ok (.iconst 1, 1) := by decide +kernel
theorem dX7_spreadOn_80 : decode cX7_spreadOn 80 = .ok (.istore 6, 2) := by decide +kernel
theorem dX7_spreadOn_82 : decode cX7_spreadOn 82 = .ok (.iinc 7 1, 3) := by decide +kernel
theorem dX7_spreadOn_85 : decode cX7_spreadOn 85 = .ok (.goto (-79), 3) := by decide +kernel
theorem dX7_spreadOn_88 : decode cX7_spreadOn 88 = .ok (.iload 6, 2) := by decide +kernel
theorem dX7_spreadOn_90 : decode cX7_spreadOn 90 = .ok (.ireturn, 1) := by decide +kernel
theorem dX8_init_0 : decode cX8_init 0 = .ok (.aload_n 0, 1) := by decide +kernel
theorem dX8_init_1 : decode cX8_init 1 = .ok (.iload_n 1, 1) := by decide +kernel
theorem dX8_init_2 : decode cX8_init 2 = .ok (.iload_n 2, 1) := by decide +kernel
theorem dX8_init_3 : decode cX8_init 3 = .ok (.iload_n 3, 1) := by decide +kernel
theorem dX8_init_4 : decode cX8_init 4 = .ok (.invokespecial 1, 3) := by decide +kernel
theorem dX8_init_7 : decode cX8_init 7 = .ok (.return_, 1) := by decide +kernel
theorem dX8_kindNumber_0 : decode cX8_kindNumber 0 = .ok (.iconst 4, 1) := by decide +kernel
theorem dX8_kindNumber_1 : decode cX8_kindNumber 1 = .ok (.ireturn, 1) := by decide +kernel
theorem dX8_smellsAt_0 : decode cX8_smellsAt 0 = .ok (.iconst 1, 1) := by decide +kernel
theorem dX8_smellsAt_1 : decode cX8_smellsAt 1 = .ok (.ireturn, 1) := by decide +kernel
theorem dX9_init_0 : decode cX9_init 0 = .ok (.aload_n 0, 1) := by decide +kernel
theorem dX9_init_1 : decode cX9_init 1 = .ok (.invokespecial 3, 3) := by decide +kernel
theorem dX9_init_4 : decode cX9_init 4 = .ok (.aload_n 0, 1) := by decide +kernel
theorem dX9_init_5 : decode cX9_init 5 = .ok (.new 9, 3) := by decide +kernel
theorem dX9_init_8 : decode cX9_init 8 = .ok (.dup, 1) := by decide +kernel
theorem dX9_init_9 : decode cX9_init 9 = .ok (.invokespecial 11, 3) := by decide +kernel
theorem dX9_init_12 : decode cX9_init 12 = .ok (.putfield 12, 3) := by decide +kernel
theorem dX9_init_15 : decode cX9_init 15 = .ok (.aload_n 0, 1) := by decide +kernel
theorem dX9_init_16 : decode cX9_init 16 = .ok (.new 16, 3) := by decide +kernel
theorem dX9_init_19 : decode cX9_init 19 = .ok (.dup, 1) := by decide +kernel
theorem dX9_init_20 : decode cX9_init 20 = .ok (.invokespecial 18, 3) := by decide +kernel
theorem dX9_init_23 : decode cX9_init 23 = .ok (.putfield 19, 3) := by decide +kernel
theorem dX9_init_26 : decode cX9_init 26 = .ok (.aload_n 0, 1) := by decide +kernel
theorem dX9_init_27 : decode cX9_init 27 = .ok (.bipush 6, 2) := by decide +kernel
theorem dX9_init_29 : decode cX9_init 29 = .ok (.anewarray 23, 3) := by decide +kernel
theorem dX9_init_32 : decode cX9_init 32 = .ok (.putfield 25, 3) := by decide +kernel
theorem dX9_init_35 : decode cX9_init 35 = .ok (.aload_n 0, 1) := by decide +kernel
theorem dX9_init_36 : decode cX9_init 36 = .ok (.new 29, 3) := by decide +kernel
theorem dX9_init_39 : decode cX9_init 39 = .ok (.dup, 1) := by decide +kernel
theorem dX9_init_40 : decode cX9_init 40 = .ok (.invokespecial 31, 3) := by decide +kernel
theorem dX9_init_43 : decode cX9_init 43 = .ok (.putfield 32, 3) := by decide +kernel
theorem dX9_init_46 : decode cX9_init 46 = .ok (.aload_n 0, 1) := by decide +kernel
theorem dX9_init_47 : decode cX9_init 47 = .ok (.new 29, 3) := by decide +kernel
theorem dX9_init_50 : decode cX9_init 50 = .ok (.dup, 1) := by decide +kernel
theorem dX9_init_51 : decode cX9_init 51 = .ok (.invokespecial 31, 3) := by decide +kernel
theorem dX9_init_54 : decode cX9_init 54 = .ok (.putfield 36, 3) := by decide +kernel
theorem dX9_init_57 : decode cX9_init 57 = .ok (.aload_n 0, 1) := by decide +kernel
theorem dX9_init_58 : decode cX9_init 58 = .ok (.new 29, 3) := by decide +kernel
end
section
theorem dX9_init_61 : decode cX9_init 61 = .ok (.dup, 1) := by decide +kernel
theorem dX9_init_62 : decode cX9_init 62 = .ok (.invokespecial 31, 3) := by decide +kernel
theorem dX9_init_65 : decode cX9_init 65 = .ok (.putfield 39, 3) := by decide +kernel
theorem dX9_init_68 : decode cX9_init 68 = .ok (.aload_n 0, 1) := by decide +kernel
theorem dX9_init_69 : decode cX9_init 69 = .ok (.new 42, 3) := by decide +kernel
theorem dX9_init_72 : decode cX9_init 72 = .ok (.dup, 1) := by decide +kernel
theorem dX9_init_73 : decode cX9_init 73 = .ok (.invokespecial 44, 3) := by decide +kernel
theorem dX9_init_76 : decode cX9_init 76 = .ok (.putfield 45, 3) := by decide +kernel
theorem dX9_init_79 : decode cX9_init 79 = .ok (.aload_n 0, 1) := by decide +kernel
theorem dX9_init_80 : decode cX9_init 80 = .ok (.bipush 8, 2) := by decide +kernel
theorem dX9_init_82 : decode cX9_init 82 = .ok (.newarray .int, 2) := by decide +kernel
theorem dX9_init_84 : decode cX9_init 84 = .ok (.putfield 49, 3) := by decide +kernel
theorem dX9_init_87 : decode cX9_init 87 = .ok (.aload_n 0, 1) := by decide +kernel
theorem dX9_init_88 : decode cX9_init 88 = .ok (.bipush 8, 2) := by decide +kernel
theorem dX9_init_90 : decode cX9_init 90 = .ok (.newarray .int, 2) := by decide +kernel
theorem dX9_init_92 : decode cX9_init 92 = .ok (.putfield 53, 3) := by decide +kernel
theorem dX9_init_95 : decode cX9_init 95 = .ok (.aload_n 0, 1) := by decide +kernel
theorem dX9_init_96 : decode cX9_init 96 = .ok (.bipush 8, 2) := by decide +kernel
theorem dX9_init_98 : decode cX9_init 98 = .ok (.newarray .int, 2) := by decide +kernel
theorem dX9_init_100 : decode cX9_init 100 = .ok (.putfield 56, 3) := by decide +kernel
theorem dX9_init_103 : decode cX9_init 103 = .ok (.aload_n 0, 1) := by decide +kernel
theorem dX9_init_104 : decode cX9_init 104 = .ok (.bipush 32, 2) := by decide +kernel
theorem dX9_init_106 : decode cX9_init 106 = .ok (.newarray .int, 2) := by decide +kernel
theorem dX9_init_108 : decode cX9_init 108 = .ok (.putfield 59, 3) := by decide +kernel
theorem dX9_init_111 : decode cX9_init 111 = .ok (.return_, 1) := by decide +kernel
theorem dX9_letter_0 : decode cX9_letter 0 = .ok (.iload_n 1, 1) := by decide +kernel
theorem dX9_letter_1 : decode cX9_letter 1 = .ok (.iconst 1, 1) := by decide +kernel
theorem dX9_letter_2 : decode cX9_letter 2 = .ok (.if_icmp .lt 9, 3) := by decide +kernel
theorem dX9_letter_5 : decode cX9_letter 5 = .ok (.iload_n 1, 1) := by decide +kernel
theorem dX9_letter_6 : decode cX9_letter 6 = .ok (.bipush 126, 2) := by decide +kernel
theorem dX9_letter_8 : decode cX9_letter 8 = .ok (.if_icmp .le 6, 3) := by decide +kernel
theorem dX9_letter_11 : decode cX9_letter 11 = .ok (.bipush (-102), 2) := by decide +kernel
theorem dX9_letter_13 : decode cX9_letter 13 = .ok (.ireturn, 1) := by decide +kernel
theorem dX9_letter_14 : decode cX9_letter 14 = .ok (.aload_n 0, 1) := by decide +kernel
theorem dX9_letter_15 : decode cX9_letter 15 = .ok (.getfield 12, 3) := by decide +kernel
theorem dX9_letter_18 : decode cX9_letter 18 = .ok (.invokevirtual 62, 3) := by decide +kernel
theorem dX9_letter_21 : decode cX9_letter 21 = .ok (.ifCond .eq 6, 3) := by decide +kernel
theorem dX9_letter_24 : decode cX9_letter 24 = .ok (.bipush (-104), 2) := by decide +kernel
theorem dX9_letter_26 : decode cX9_letter 26 = .ok (.ireturn, 1) := by decide +kernel
theorem dX9_letter_27 : decode cX9_letter 27 = .ok (.aload_n 0, 1) := by decide +kernel
theorem dX9_letter_28 : decode cX9_letter 28 = .ok (.getfield 12, 3) := by decide +kernel
theorem dX9_letter_31 : decode cX9_letter 31 = .ok (.iload_n 1, 1) := by decide +kernel
theorem dX9_letter_32 : decode cX9_letter 32 = .ok (.invokevirtual 66, 3) := by decide +kernel
theorem dX9_letter_35 : decode cX9_letter 35 = .ok (.aload_n 0, 1) := by decide +kernel
theorem dX9_letter_36 : decode cX9_letter 36 = .ok (.getfield 12, 3) := by decide +kernel
theorem dX9_letter_39 : decode cX9_letter 39 = .ok (.getfield 70, 3) := by decide +kernel
theorem dX9_letter_42 : decode cX9_letter 42 = .ok (.ireturn, 1) := by decide +kernel
theorem dX9_blank_0 : decode cX9_blank 0 = .ok (.aload_n 0, 1) := by decide +kernel
theorem dX9_blank_1 : decode cX9_blank 1 = .ok (.getfield 12, 3) := by decide +kernel
theorem dX9_blank_4 : decode cX9_blank 4 = .ok (.getfield 70, 3) := by decide +kernel
theorem dX9_blank_7 : decode cX9_blank 7 = .ok (.istore_n 1, 1) := by decide +kernel
theorem dX9_blank_8 : decode cX9_blank 8 = .ok (.aload_n 0, 1) := by decide +kernel
theorem dX9_blank_9 : decode cX9_blank 9 = .ok (.getfield 12, 3) := by decide +kernel
theorem dX9_blank_12 : decode cX9_blank 12 = .ok (.iconst 0, 1) := by decide +kernel
theorem dX9_blank_13 : decode cX9_blank 13 = .ok (.putfield 70, 3) := by decide +kernel
theorem dX9_blank_16 : decode cX9_blank 16 = .ok (.iload_n 1, 1) := by decide +kernel
theorem dX9_blank_17 : decode cX9_blank 17 = .ok (.ireturn, 1) := by decide +kernel
theorem dX9_fault_0 : decode cX9_fault 0 = .ok (.aload_n 0, 1) := by decide +kernel
theorem dX9_fault_1 : decode cX9_fault 1 = .ok (.getfield 12, 3) := by decide +kernel
theorem dX9_fault_4 : decode cX9_fault 4 = .ok (.invokevirtual 74, 3) := by decide +kernel
theorem dX9_fault_7 : decode cX9_fault 7 = .ok (.ireturn, 1) := by decide +kernel
theorem dX9_valley_0 : decode cX9_valley 0 = .ok (.aload_n 0, 1) := by decide +kernel
theorem dX9_valley_1 : decode cX9_valley 1 = .ok (.getfield 12, 3) := by decide +kernel
theorem dX9_valley_4 : decode cX9_valley 4 = .ok (.invokevirtual 78, 3) := by decide +kernel
theorem dX9_valley_7 : decode cX9_valley 7 = .ok (.ifCond .ne 6, 3) := by decide +kernel
theorem dX9_valley_10 : decode cX9_valley 10 = .ok (.bipush (-103), 2) := by decide +kernel
theorem dX9_valley_12 : decode cX9_valley 12 = .ok (.ireturn, 1) := by decide +kernel
theorem dX9_valley_13 : decode cX9_valley 13 = .ok (.aload_n 0, 1) := by decide +kernel
theorem dX9_valley_14 : decode cX9_valley 14 = .ok (.getfield 19, 3) := by decide +kernel
theorem dX9_valley_17 : decode cX9_valley 17 = .ok (.aload_n 0, 1) := by decide +kernel
theorem dX9_valley_18 : decode cX9_valley 18 = .ok (.getfield 12, 3) := by decide +kernel
theorem dX9_valley_21 : decode cX9_valley 21 = .ok (.invokevirtual 81, 3) := by decide +kernel
theorem dX9_valley_24 : decode cX9_valley 24 = .ok (.aload_n 0, 1) := by decide +kernel
theorem dX9_valley_25 : decode cX9_valley 25 = .ok (.getfield 12, 3) := by decide +kernel
theorem dX9_valley_28 : decode cX9_valley 28 = .ok (.iconst 0, 1) := by decide +kernel
theorem dX9_valley_29 : decode cX9_valley 29 = .ok (.putfield 70, 3) := by decide +kernel
theorem dX9_valley_32 : decode cX9_valley 32 = .ok (.aload_n 0, 1) := by decide +kernel
theorem dX9_valley_33 : decode cX9_valley 33 = .ok (.getfield 32, 3) := by decide +kernel
theorem dX9_valley_36 : decode cX9_valley 36 = .ok (.new 29, 3) := by decide +kernel
theorem dX9_valley_39 : decode cX9_valley 39 = .ok (.dup, 1) := by decide +kernel
theorem dX9_valley_40 : decode cX9_valley 40 = .ok (.invokespecial 31, 3) := by decide +kernel
theorem dX9_valley_43 : decode cX9_valley 43 = .ok (.invokevirtual 85, 3) := by decide +kernel
theorem dX9_valley_46 : decode cX9_valley 46 = .ok (.aload_n 0, 1) := by decide +kernel
theorem dX9_valley_47 : decode cX9_valley 47 = .ok (.iconst 0, 1) := by decide +kernel
theorem dX9_valley_48 : decode cX9_valley 48 = .ok (.putfield 89, 3) := by decide +kernel
theorem dX9_valley_51 : decode cX9_valley 51 = .ok (.aload_n 0, 1) := by decide +kernel
theorem dX9_valley_52 : decode cX9_valley 52 = .ok (.dup, 1) := by decide +kernel
theorem dX9_valley_53 : decode cX9_valley 53 = .ok (.getfield 93, 3) := by decide +kernel
theorem dX9_valley_56 : decode cX9_valley 56 = .ok (.iconst 1, 1) := by decide +kernel
theorem dX9_valley_57 : decode cX9_valley 57 = .ok (.iadd, 1) := by decide +kernel
theorem dX9_valley_58 : decode cX9_valley 58 = .ok (.putfield 93, 3) := by decide +kernel
theorem dX9_valley_61 : decode cX9_valley 61 = .ok (.aload_n 0, 1) := by decide +kernel
theorem dX9_valley_62 : decode cX9_valley 62 = .ok (.getfield 19, 3) := by decide +kernel
theorem dX9_valley_65 : decode cX9_valley 65 = .ok (.getfield 96, 3) := by decide +kernel
theorem dX9_valley_68 : decode cX9_valley 68 = .ok (.ireturn, 1) := by decide +kernel
theorem dX9_cell_0 : decode cX9_cell 0 = .ok (.aload_n 0, 1) := by decide +kernel
theorem dX9_cell_1 : decode cX9_cell 1 = .ok (.iload_n 1, 1) := by decide +kernel
theorem dX9_cell_2 : decode cX9_cell 2 = .ok (.invokevirtual 99, 3) := by decide +kernel
theorem dX9_cell_5 : decode cX9_cell 5 = .ok (.ifCond .ne 6, 3) := by decide +kernel
theorem dX9_cell_8 : decode cX9_cell 8 = .ok (.bipush (-101), 2) := by decide +kernel
theorem dX9_cell_10 : decode cX9_cell 10 = .ok (.ireturn, 1) := by decide +kernel
theorem dX9_cell_11 : decode cX9_cell 11 = .ok (.iload_n 2, 1) := by decide +kernel
theorem dX9_cell_12 : decode cX9_cell 12 = .ok (.ifCond .lt 8, 3) := by decide +kernel
theorem dX9_cell_15 : decode cX9_cell 15 = .ok (.iload_n 2, 1) := by decide +kernel
theorem dX9_cell_16 : decode cX9_cell 16 = .ok (.iconst 4, 1) := by decide +kernel
theorem dX9_cell_17 : decode cX9_cell 17 = .ok (.if_icmp .le 6, 3) := by decide +kernel
theorem dX9_cell_20 : decode cX9_cell 20 = .ok (.bipush (-102), 2) := by decide +kernel
theorem dX9_cell_22 : decode cX9_cell 22 = .ok (.ireturn, 1) := by decide +kernel
theorem dX9_cell_23 : decode cX9_cell 23 = .ok (.aload_n 0, 1) := by decide +kernel
theorem dX9_cell_24 : decode cX9_cell 24 = .ok (.invokevirtual 103, 3) := by decide +kernel
theorem dX9_cell_27 : decode cX9_cell 27 = .ok (.aload_n 0, 1) := by decide +kernel
theorem dX9_cell_28 : decode cX9_cell 28 = .ok (.iload_n 1, 1) := by decide +kernel
theorem dX9_cell_29 : decode cX9_cell 29 = .ok (.iload_n 2, 1) := by decide +kernel
theorem dX9_cell_30 : decode cX9_cell 30 = .ok (.invokevirtual 106, 3) := by decide +kernel
theorem dX9_cell_33 : decode cX9_cell 33 = .ok (.ireturn, 1) := by decide +kernel
theorem dX9_borders_0 : decode cX9_borders 0 = .ok (.aload_n 0, 1) := by decide +kernel
theorem dX9_borders_1 : decode cX9_borders 1 = .ok (.invokevirtual 103, 3) := by decide +kernel
theorem dX9_borders_4 : decode cX9_borders 4 = .ok (.aload_n 0, 1) := by decide +kernel
theorem dX9_borders_5 : decode cX9_borders 5 = .ok (.getfield 45, 3) := by decide +kernel
theorem dX9_borders_8 : decode cX9_borders 8 = .ok (.invokevirtual 110, 3) := by decide +kernel
theorem dX9_borders_11 : decode cX9_borders 11 = .ok (.ireturn, 1) := by decide +kernel
theorem dX9_source_0 : decode cX9_source 0 = .ok (.iload_n 1, 1) := by decide +kernel
theorem dX9_source_1 : decode cX9_source 1 = .ok (.ifCond .lt 15, 3) := by decide +kernel
theorem dX9_source_4 : decode cX9_source 4 = .ok (.iload_n 1, 1) := by decide +kernel
theorem dX9_source_5 : decode cX9_source 5 = .ok (.iconst 5, 1) := by decide +kernel
theorem dX9_source_6 : decode cX9_source 6 = .ok (.if_icmp .ge 10, 3) := by decide +kernel
theorem dX9_source_9 : decode cX9_source 9 = .ok (.iload_n 2, 1) := by decide +kernel
theorem dX9_source_10 : decode cX9_source 10 = .ok (.invokestatic 113, 3) := by decide +kernel
theorem dX9_source_13 : decode cX9_source 13 = .ok (.ifCond .ne 6, 3) := by decide +kernel
theorem dX9_source_16 : decode cX9_source 16 = .ok (.bipush (-102), 2) := by decide +kernel
theorem dX9_source_18 : decode cX9_source 18 = .ok (.ireturn, 1) := by decide +kernel
theorem dX9_source_19 : decode cX9_source 19 = .ok (.iload 4, 2) := by decide +kernel
theorem dX9_source_21 : decode cX9_source 21 = .ok (.iconst 1, 1) := by decide +kernel
theorem dX9_source_22 : decode cX9_source 22 = .ok (.if_icmp .lt 10, 3) := by decide +kernel
theorem dX9_source_25 : decode cX9_source 25 = .ok (.iload 4, 2) := by decide +kernel
theorem dX9_source_27 : decode cX9_source 27 = .ok (.bipush 9, 2) := by decide +kernel
theorem dX9_source_29 : decode cX9_source 29 = .ok (.if_icmp .le 6, 3) := by decide +kernel
theorem dX9_source_32 : decode cX9_source 32 = .ok (.bipush (-102), 2) := by decide +kernel
theorem dX9_source_34 : decode cX9_source 34 = .ok (.ireturn, 1) := by decide +kernel
theorem dX9_source_35 : decode cX9_source 35 = .ok (.aload_n 0, 1) := by decide +kernel
theorem dX9_source_36 : decode cX9_source 36 = .ok (.iload_n 3, 1) := by decide +kernel
theorem dX9_source_37 : decode cX9_source 37 = .ok (.invokevirtual 99, 3) := by decide +kernel
theorem dX9_source_40 : decode cX9_source 40 = .ok (.ifCond .ne 6, 3) := by decide +kernel
theorem dX9_source_43 : decode cX9_source 43 = .ok (.bipush (-101), 2) := by decide +kernel
theorem dX9_source_45 : decode cX9_source 45 = .ok (.ireturn, 1) := by decide +kernel
theorem dX9_source_46 : decode cX9_source 46 = .ok (.aload_n 0, 1) := by decide +kernel
theorem dX9_source_47 : decode cX9_source 47 = .ok (.getfield 19, 3) := by decide +kernel
theorem dX9_source_50 : decode cX9_source 50 = .ok (.iload_n 3, 1) := by decide +kernel
theorem dX9_source_51 : decode cX9_source 51 = .ok (.invokevirtual 116, 3) := by decide +kernel
theorem dX9_source_54 : decode cX9_source 54 = .ok (.ifCond .ne 6, 3) := by decide +kernel
theorem dX9_source_57 : decode cX9_source 57 = .ok (.bipush (-103), 2) := by decide +kernel
theorem dX9_source_59 : decode cX9_source 59 = .ok (.ireturn, 1) := by decide +kernel
theorem dX9_source_60 : decode cX9_source 60 = .ok (.aload_n 0, 1) := by decide +kernel
theorem dX9_source_61 : decode cX9_source 61 = .ok (.getfield 32, 3) := by decide +kernel
theorem dX9_source_64 : decode cX9_source 64 = .ok (.getfield 119, 3) := by decide +kernel
theorem dX9_source_67 : decode cX9_source 67 = .ok (.bipush 6, 2) := by decide +kernel
theorem dX9_source_69 : decode cX9_source 69 = .ok (.if_icmp .lt 6, 3) := by decide +kernel
theorem dX9_source_72 : decode cX9_source 72 = .ok (.bipush (-104), 2) := by decide +kernel
theorem dX9_source_74 : decode cX9_source 74 = .ok (.ireturn, 1) := by decide +kernel
theorem dX9_source_75 : decode cX9_source 75 = .ok (.aload_n 0, 1) := by decide +kernel
theorem dX9_source_76 : decode cX9_source 76 = .ok (.getfield 25, 3) := by decide +kernel
theorem dX9_source_79 : decode cX9_source 79 = .ok (.aload_n 0, 1) := by decide +kernel
theorem dX9_source_80 : decode cX9_source 80 = .ok (.getfield 32, 3) := by decide +kernel
theorem dX9_source_83 : decode cX9_source 83 = .ok (.getfield 119, 3) := by decide +kernel
theorem dX9_source_86 : decode cX9_source 86 = .ok (.iload_n 1, 1) := by decide +kernel
theorem dX9_source_87 : decode cX9_source 87 = .ok (.iload_n 2, 1) := by decide +kernel
theorem dX9_source_88 : decode cX9_source 88 = .ok (.iload_n 3, 1) := by decide +kernel
theorem dX9_source_89 : decode cX9_source 89 = .ok (.iload 4, 2) := by decide +kernel
theorem dX9_source_91 : decode cX9_source 91 = .ok (.invokestatic 121, 3) := by decide +kernel
theorem dX9_source_94 : decode cX9_source 94 = .ok (.aastore, 1) := by decide +kernel
theorem dX9_source_95 : decode cX9_source 95 = .ok (.aload_n 0, 1) := by decide +kernel
theorem dX9_source_96 : decode cX9_source 96 = .ok (.getfield 32, 3) := by decide +kernel
theorem dX9_source_99 : decode cX9_source 99 = .ok (.invokevirtual 125, 3) := by decide +kernel
theorem dX9_source_102 : decode cX9_source 102 = .ok (.ireturn, 1) := by decide +kernel
theorem dX9_about_0 : decode cX9_about 0 = .ok (.aload_n 0, 1) := by decide +kernel
theorem dX9_about_1 : decode cX9_about 1 = .ok (.iload_n 1, 1) := by decide +kernel
theorem dX9_about_2 : decode cX9_about 2 = .ok (.invokevirtual 128, 3) := by decide +kernel
theorem dX9_about_5 : decode cX9_about 5 = .ok (.astore_n 3, 1) := by decide +kernel
theorem dX9_about_6 : decode cX9_about 6 = .ok (.aload_n 3, 1) := by decide +kernel
theorem dX9_about_7 : decode cX9_about 7 = .ok (.ifnonnull 6, 3) := by decide +kernel
theorem dX9_about_10 : decode cX9_about 10 = .ok (.bipush (-101), 2) := by decide +kernel
theorem dX9_about_12 : decode cX9_about 12 = .ok (.ireturn, 1) := by decide +kernel
theorem dX9_about_13 : decode cX9_about 13 = .ok (.iload_n 2, 1) := by decide +kernel
theorem dX9_about_14 : decode cX9_about 14 = .ok (.ifCond .lt 17, 3) := by decide +kernel
theorem dX9_about_17 : decode cX9_about 17 = .ok (.iload_n 2, 1) := by decide +kernel
theorem dX9_about_18 : decode cX9_about 18 = .ok (.bipush 7, 2) := by decide +kernel
theorem dX9_about_20 : decode cX9_about 20 = .ok (.if_icmp .gt 11, 3) := by decide +kernel
theorem dX9_about_23 : decode cX9_about 23 = .ok (.aload_n 0, 1) := by decide +kernel
theorem dX9_about_24 : decode cX9_about 24 = .ok (.aload_n 3, 1) := by decide +kernel
theorem dX9_about_25 : decode cX9_about 25 = .ok (.iload_n 1, 1) := by decide +kernel
theorem dX9_about_26 : decode cX9_about 26 = .ok (.iload_n 2, 1) := by decide +kernel
theorem dX9_about_27 : decode cX9_about 27 = .ok (.invokevirtual 132, 3) := by decide +kernel
theorem dX9_about_30 : decode cX9_about 30 = .ok (.ireturn, 1) := by decide +kernel
theorem dX9_about_31 : decode cX9_about 31 = .ok (.iload_n 2, 1) := by decide +kernel
theorem dX9_about_32 : decode cX9_about 32 = .ok (.bipush 10, 2) := by decide +kernel
theorem dX9_about_34 : decode cX9_about 34 = .ok (.if_icmp .lt 9, 3) := by decide +kernel
theorem dX9_about_37 : decode cX9_about 37 = .ok (.iload_n 2, 1) := by decide +kernel
theorem dX9_about_38 : decode cX9_about 38 = .ok (.bipush 18, 2) := by decide +kernel
theorem dX9_about_40 : decode cX9_about 40 = .ok (.if_icmp .lt 6, 3) := by decide +kernel
theorem dX9_about_43 : decode cX9_about 43 = .ok (.bipush (-102), 2) := by decide +kernel
theorem dX9_about_45 : decode cX9_about 45 = .ok (.ireturn, 1) := by decide +kernel
theorem dX9_about_46 : decode cX9_about 46 = .ok (.aload_n 0, 1) := by decide +kernel
theorem dX9_about_47 : decode cX9_about 47 = .ok (.getfield 32, 3) := by decide +kernel
theorem dX9_about_50 : decode cX9_about 50 = .ok (.aload_n 3, 1) := by decide +kernel
theorem dX9_about_51 : decode cX9_about 51 = .ok (.iload_n 1, 1) := by decide +kernel
theorem dX9_about_52 : decode cX9_about 52 = .ok (.invokevirtual 136, 3) := by decide +kernel
theorem dX9_about_55 : decode cX9_about 55 = .ok (.ifCond .ne 5, 3) := by decide +kernel
theorem dX9_about_58 : decode cX9_about 58 = .ok (.iconst 0, 1) := by decide +kernel
theorem dX9_about_59 : decode cX9_about 59 = .ok (.ireturn, 1) := by decide +kernel
theorem dX9_about_60 : decode cX9_about 60 = .ok (.aload_n 0, 1) := by decide +kernel
theorem dX9_about_61 : decode cX9_about 61 = .ok (.getfield 19, 3) := by decide +kernel
theorem dX9_about_64 : decode cX9_about 64 = .ok (.aload_n 3, 1) := by decide +kernel
theorem dX9_about_65 : decode cX9_about 65 = .ok (.getfield 140, 3) := by decide +kernel
theorem dX9_about_68 : decode cX9_about 68 = .ok (.aload_n 3, 1) := by decide +kernel
theorem dX9_about_69 : decode cX9_about 69 = .ok (.aload_n 0, 1) := by decide +kernel
theorem dX9_about_70 : decode cX9_about 70 = .ok (.getfield 32, 3) := by decide +kernel
theorem dX9_about_73 : decode cX9_about 73 = .ok (.getfield 143, 3) := by decide +kernel
theorem dX9_about_76 : decode cX9_about 76 = .ok (.iload_n 1, 1) := by decide +kernel
theorem dX9_about_77 : decode cX9_about 77 = .ok (.iaload, 1) := by decide +kernel
theorem dX9_about_78 : decode cX9_about 78 = .ok (.invokevirtual 146, 3) := by decide +kernel
theorem dX9_about_81 : decode cX9_about 81 = .ok (.aload_n 3, 1) := by decide +kernel
theorem dX9_about_82 : decode cX9_about 82 = .ok (.invokevirtual 150, 3) := by decide +kernel
theorem dX9_about_85 : decode cX9_about 85 = .ok (.aload_n 0, 1) := by decide +kernel
theorem dX9_about_86 : decode cX9_about 86 = .ok (.getfield 32, 3) := by decide +kernel
theorem dX9_about_89 : decode cX9_about 89 = .ok (.getfield 153, 3) := by decide +kernel
theorem dX9_about_92 : decode cX9_about 92 = .ok (.iconst 0, 1) := by decide +kernel
theorem dX9_about_93 : decode cX9_about 93 = .ok (.aload_n 0, 1) := by decide +kernel
theorem dX9_about_94 : decode cX9_about 94 = .ok (.getfield 49, 3) := by decide +kernel
theorem dX9_about_97 : decode cX9_about 97 = .ok (.invokevirtual 156, 3) := by decide +kernel
theorem dX9_about_100 : decode cX9_about 100 = .ok (.aload_n 0, 1) := by decide +kernel
theorem dX9_about_101 : decode cX9_about 101 = .ok (.getfield 49, 3) := by decide +kernel
theorem dX9_about_104 : decode cX9_about 104 = .ok (.iload_n 2, 1) := by decide +kernel
theorem dX9_about_105 : decode cX9_about 105 = .ok (.bipush 10, 2) := by decide +kernel
theorem dX9_about_107 : decode cX9_about 107 = .ok (.isub, 1) := by decide +kernel
theorem dX9_about_108 : decode cX9_about 108 = .ok (.iaload, 1) := by decide +kernel
theorem dX9_about_109 : decode cX9_about 109 = .ok (.ireturn, 1) := by decide +kernel
theorem dX9_as_0 : decode cX9_as 0 = .ok (.aload_n 0, 1) := by decide +kernel
theorem dX9_as_1 : decode cX9_as 1 = .ok (.iload_n 1, 1) := by decide +kernel
theorem dX9_as_2 : decode cX9_as 2 = .ok (.invokevirtual 128, 3) := by decide +kernel
theorem dX9_as_5 : decode cX9_as 5 = .ok (.astore_n 3, 1) := by decide +kernel
theorem dX9_as_6 : decode cX9_as 6 = .ok (.aload_n 3, 1) := by decide +kernel
theorem dX9_as_7 : decode cX9_as 7 = .ok (.ifnonnull 6, 3) := by decide +kernel
theorem dX9_as_10 : decode cX9_as 10 = .ok (.bipush (-101), 2) := by decide +kernel
theorem dX9_as_12 : decode cX9_as 12 = .ok (.ireturn, 1) := by decide +kernel
theorem dX9_as_13 : decode cX9_as 13 = .ok (.iload_n 2, 1) := by decide +kernel
theorem dX9_as_14 : decode cX9_as 14 = .ok (.ifCond .lt 8, 3) := by decide +kernel
theorem dX9_as_17 : decode cX9_as 17 = .ok (.iload_n 2, 1) := by decide +kernel
theorem dX9_as_18 : decode cX9_as 18 = .ok (.iconst 5, 1) := by decide +kernel
theorem dX9_as_19 : decode cX9_as 19 = .ok (.if_icmp .lt 6, 3) := by decide +kernel
theorem dX9_as_22 : decode cX9_as 22 = .ok (.bipush (-102), 2) := by decide +kernel
theorem dX9_as_24 : decode cX9_as 24 = .ok (.ireturn, 1) := by decide +kernel
theorem dX9_as_25 : decode cX9_as 25 = .ok (.aload_n 3, 1) := by decide +kernel
theorem dX9_as_26 : decode cX9_as 26 = .ok (.iload_n 2, 1) := by decide +kernel
theorem dX9_as_27 : decode cX9_as 27 = .ok (.invokestatic 160, 3) := by decide +kernel
theorem dX9_as_30 : decode cX9_as 30 = .ok (.ifCond .eq 7, 3) := by decide +kernel
theorem dX9_as_33 : decode cX9_as 33 = .ok (.iload_n 1, 1) := by decide +kernel
theorem dX9_as_34 : decode cX9_as 34 = .ok (.goto 4, 3) := by decide +kernel
theorem dX9_as_37 : decode cX9_as 37 = .ok (.iconst (-1), 1) := by decide +kernel
theorem dX9_as_38 : decode cX9_as 38 = .ok (.ireturn, 1) := by decide +kernel
theorem dX9_burn_0 : decode cX9_burn 0 = .ok (.aload_n 0, 1) := by decide +kernel
theorem dX9_burn_1 : decode cX9_burn 1 = .ok (.iload_n 1, 1) := by decide +kernel
theorem dX9_burn_2 : decode cX9_burn 2 = .ok (.invokevirtual 128, 3) := by decide +kernel
theorem dX9_burn_5 : decode cX9_burn 5 = .ok (.ifnonnull 6, 3) := by decide +kernel
theorem dX9_burn_8 : decode cX9_burn 8 = .ok (.bipush (-101), 2) := by decide +kernel
theorem dX9_burn_10 : decode cX9_burn 10 = .ok (.ireturn, 1) := by decide +kernel
theorem dX9_burn_11 : decode cX9_burn 11 = .ok (.aload_n 0, 1) := by decide +kernel
theorem dX9_burn_12 : decode cX9_burn 12 = .ok (.getfield 32, 3) := by decide +kernel
theorem dX9_burn_15 : decode cX9_burn 15 = .ok (.getfield 163, 3) := by decide +kernel
theorem dX9_burn_18 : decode cX9_burn 18 = .ok (.iload_n 1, 1) := by decide +kernel
theorem dX9_burn_19 : decode cX9_burn 19 = .ok (.baload, 1) := by decide +kernel
theorem dX9_burn_20 : decode cX9_burn 20 = .ok (.istore_n 3, 1) := by decide +kernel
theorem dX9_burn_21 : decode cX9_burn 21 = .ok (.aload_n 0, 1) := by decide +kernel
theorem dX9_burn_22 : decode cX9_burn 22 = .ok (.getfield 32, 3) := by decide +kernel
theorem dX9_burn_25 : decode cX9_burn 25 = .ok (.getfield 163, 3) := by decide +kernel
theorem dX9_burn_28 : decode cX9_burn 28 = .ok (.iload_n 1, 1) := by decide +kernel
theorem dX9_burn_29 : decode cX9_burn 29 = .ok (.iload_n 2, 1) := by decide +kernel
theorem dX9_burn_30 : decode cX9_burn 30 = .ok (.bastore, 1) := by decide +kernel
theorem dX9_burn_31 : decode cX9_burn 31 = .ok (.iload_n 3, 1) := by decide +kernel
theorem dX9_burn_32 : decode cX9_burn 32 = .ok (.invokestatic 167, 3) := by decide +kernel
theorem dX9_burn_35 : decode cX9_burn 35 = .ok (.ireturn, 1) := by decide +kernel
theorem dX9_wind_0 : decode cX9_wind 0 = .ok (.iload_n 1, 1) := by decide +kernel
theorem dX9_wind_1 : decode cX9_wind 1 = .ok (.ifCond .lt 8, 3) := by decide +kernel
theorem dX9_wind_4 : decode cX9_wind 4 = .ok (.iload_n 1, 1) := by decide +kernel
theorem dX9_wind_5 : decode cX9_wind 5 = .ok (.iconst 4, 1) := by decide +kernel
theorem dX9_wind_6 : decode cX9_wind 6 = .ok (.if_icmp .le 6, 3) := by decide +kernel
theorem dX9_wind_9 : decode cX9_wind 9 = .ok (.bipush (-102), 2) := by decide +kernel
theorem dX9_wind_11 : decode cX9_wind 11 = .ok (.ireturn, 1) := by decide +kernel
theorem dX9_wind_12 : decode cX9_wind 12 = .ok (.aload_n 0, 1) := by decide +kernel
theorem dX9_wind_13 : decode cX9_wind 13 = .ok (.getfield 19, 3) := by decide +kernel
theorem dX9_wind_16 : decode cX9_wind 16 = .ok (.invokevirtual 171, 3) := by decide +kernel
theorem dX9_wind_19 : decode cX9_wind 19 = .ok (.ifCond .ne 6, 3) := by decide +kernel
theorem dX9_wind_22 : decode cX9_wind 22 = .ok (.bipush (-103), 2) := by decide +kernel
theorem dX9_wind_24 : decode cX9_wind 24 = .ok (.ireturn, 1) := by decide +kernel
theorem dX9_wind_25 : decode cX9_wind 25 = .ok (.aload_n 0, 1) := by decide +kernel
theorem dX9_wind_26 : decode cX9_wind 26 = .ok (.getfield 32, 3) := by decide +kernel
theorem dX9_wind_29 : decode cX9_wind 29 = .ok (.getfield 153, 3) := by decide +kernel
theorem dX9_wind_32 : decode cX9_wind 32 = .ok (.istore_n 2, 1) := by decide +kernel
theorem dX9_wind_33 : decode cX9_wind 33 = .ok (.aload_n 0, 1) := by decide +kernel
theorem dX9_wind_34 : decode cX9_wind 34 = .ok (.getfield 32, 3) := by decide +kernel
theorem dX9_wind_37 : decode cX9_wind 37 = .ok (.iload_n 1, 1) := by decide +kernel
theorem dX9_wind_38 : decode cX9_wind 38 = .ok (.putfield 153, 3) := by decide +kernel
theorem dX9_wind_41 : decode cX9_wind 41 = .ok (.iload_n 2, 1) := by decide +kernel
theorem dX9_wind_42 : decode cX9_wind 42 = .ok (.ireturn, 1) := by decide +kernel
theorem dX9_frost_0 : decode cX9_frost 0 = .ok (.aload_n 0, 1) := by decide +kernel
theorem dX9_frost_1 : decode cX9_frost 1 = .ok (.getfield 19, 3) := by decide +kernel
theorem dX9_frost_4 : decode cX9_frost 4 = .ok (.invokevirtual 171, 3) := by decide +kernel
theorem dX9_frost_7 : decode cX9_frost 7 = .ok (.ifCond .ne 6, 3) := by decide +kernel
theorem dX9_frost_10 : decode cX9_frost 10 = .ok (.bipush (-103), 2) := by decide +kernel
theorem dX9_frost_12 : decode cX9_frost 12 = .ok (.ireturn, 1) := by decide +kernel
theorem dX9_frost_13 : decode cX9_frost 13 = .ok (.aload_n 0, 1) := by decide +kernel
theorem dX9_frost_14 : decode cX9_frost 14 = .ok (.getfield 32, 3) := by decide +kernel
theorem dX9_frost_17 : decode cX9_frost 17 = .ok (.getfield 174, 3) := by decide +kernel
theorem dX9_frost_20 : decode cX9_frost 20 = .ok (.istore_n 2, 1) := by decide +kernel
theorem dX9_frost_21 : decode cX9_frost 21 = .ok (.aload_n 0, 1) := by decide +kernel
theorem dX9_frost_22 : decode cX9_frost 22 = .ok (.getfield 32, 3) := by decide +kernel
theorem dX9_frost_25 : decode cX9_frost 25 = .ok (.iload_n 1, 1) := by decide +kernel
theorem dX9_frost_26 : decode cX9_frost 26 = .ok (.putfield 174, 3) := by decide +kernel
theorem dX9_frost_29 : decode cX9_frost 29 = .ok (.iload_n 2, 1) := by decide +kernel
theorem dX9_frost_30 : decode cX9_frost 30 = .ok (.invokestatic 167, 3) := by decide +kernel
theorem dX9_frost_33 : decode cX9_frost 33 = .ok (.ireturn, 1) := by decide +kernel
theorem dX9_people_0 : decode cX9_people 0 = .ok (.aload_n 0, 1) := by decide +kernel
theorem dX9_people_1 : decode cX9_people 1 = .ok (.iload_n 1, 1) := by decide +kernel
theorem dX9_people_2 : decode cX9_people 2 = .ok (.invokevirtual 99, 3) := by decide +kernel
theorem dX9_people_5 : decode cX9_people 5 = .ok (.ifCond .ne 6, 3) := by decide +kernel
theorem dX9_people_8 : decode cX9_people 8 = .ok (.bipush (-101), 2) := by decide +kernel
theorem dX9_people_10 : decode cX9_people 10 = .ok (.ireturn, 1) := by decide +kernel
theorem dX9_people_11 : decode cX9_people 11 = .ok (.iload_n 2, 1) := by decide +kernel
theorem dX9_people_12 : decode cX9_people 12 = .ok (.ifCond .lt 9, 3) := by decide +kernel
theorem dX9_people_15 : decode cX9_people 15 = .ok (.iload_n 2, 1) := by decide +kernel
theorem dX9_people_16 : decode cX9_people 16 = .ok (.bipush 9, 2) := by decide +kernel
theorem dX9_people_18 : decode cX9_people 18 = .ok (.if_icmp .le 6, 3) := by decide +kernel
theorem dX9_people_21 : decode cX9_people 21 = .ok (.bipush (-102), 2) := by decide +kernel
theorem dX9_people_23 : decode cX9_people 23 = .ok (.ireturn, 1) := by decide +kernel
theorem dX9_people_24 : decode cX9_people 24 = .ok (.aload_n 0, 1) := by decide +kernel
theorem dX9_people_25 : decode cX9_people 25 = .ok (.getfield 19, 3) := by decide +kernel
theorem dX9_people_28 : decode cX9_people 28 = .ok (.iload_n 1, 1) := by decide +kernel
theorem dX9_people_29 : decode cX9_people 29 = .ok (.invokevirtual 177, 3) := by decide +kernel
theorem dX9_people_32 : decode cX9_people 32 = .ok (.ifCond .eq 6, 3) := by decide +kernel
theorem dX9_people_35 : decode cX9_people 35 = .ok (.bipush (-103), 2) := by decide +kernel
theorem dX9_people_37 : decode cX9_people 37 = .ok (.ireturn, 1) := by decide +kernel
theorem dX9_people_38 : decode cX9_people 38 = .ok (.aload_n 0, 1) := by decide +kernel
theorem dX9_people_39 : decode cX9_people 39 = .ok (.getfield 32, 3) := by decide +kernel
theorem dX9_people_42 : decode cX9_people 42 = .ok (.getfield 180, 3) := by decide +kernel
theorem dX9_people_45 : decode cX9_people 45 = .ok (.iload_n 1, 1) := by decide +kernel
theorem dX9_people_46 : decode cX9_people 46 = .ok (.iaload, 1) := by decide +kernel
theorem dX9_people_47 : decode cX9_people 47 = .ok (.istore_n 3, 1) := by decide +kernel
theorem dX9_people_48 : decode cX9_people 48 = .ok (.aload_n 0, 1) := by decide +kernel
theorem dX9_people_49 : decode cX9_people 49 = .ok (.getfield 32, 3) := by decide +kernel
theorem dX9_people_52 : decode cX9_people 52 = .ok (.getfield 180, 3) := by decide +kernel
theorem dX9_people_55 : decode cX9_people 55 = .ok (.iload_n 1, 1) := by decide +kernel
theorem dX9_people_56 : decode cX9_people 56 = .ok (.iload_n 2, 1) := by decide +kernel
theorem dX9_people_57 : decode cX9_people 57 = .ok (.iastore, 1) := by decide +kernel
theorem dX9_people_58 : decode cX9_people 58 = .ok (.iload_n 3, 1) := by decide +kernel
theorem dX9_people_59 : decode cX9_people 59 = .ok (.ireturn, 1) := by decide +kernel
theorem dX9_dusk_0 : decode cX9_dusk 0 = .ok (.aload_n 0, 1) := by decide +kernel
theorem dX9_dusk_1 : decode cX9_dusk 1 = .ok (.getfield 19, 3) := by decide +kernel
theorem dX9_dusk_4 : decode cX9_dusk 4 = .ok (.invokevirtual 171, 3) := by decide +kernel
theorem dX9_dusk_7 : decode cX9_dusk 7 = .ok (.ifCond .ne 6, 3) := by decide +kernel
theorem dX9_dusk_10 : decode cX9_dusk 10 = .ok (.bipush (-103), 2) := by decide +kernel
theorem dX9_dusk_12 : decode cX9_dusk 12 = .ok (.ireturn, 1) := by decide +kernel
theorem dX9_dusk_13 : decode cX9_dusk 13 = .ok (.aload_n 0, 1) := by decide +kernel
theorem dX9_dusk_14 : decode cX9_dusk 14 = .ok (.invokevirtual 103, 3) := by decide +kernel
theorem dX9_dusk_17 : decode cX9_dusk 17 = .ok (.iconst 0, 1) := by decide +kernel
theorem dX9_dusk_18 : decode cX9_dusk 18 = .ok (.istore_n 1, 1) := by decide +kernel
theorem dX9_dusk_19 : decode cX9_dusk 19 = .ok (.iconst 0, 1) := by decide +kernel
theorem dX9_dusk_20 : decode cX9_dusk 20 = .ok (.istore_n 2, 1) := by decide +kernel
theorem dX9_dusk_21 : decode cX9_dusk 21 = .ok (.iconst 0, 1) := by decide +kernel
theorem dX9_dusk_22 : decode cX9_dusk 22 = .ok (.istore_n 3, 1) := by decide +kernel
theorem dX9_dusk_23 : decode cX9_dusk 23 = .ok (.iload_n 3, 1) := by decide +kernel
theorem dX9_dusk_24 : decode cX9_dusk 24 = .ok (.bipush 8, 2) := by decide +kernel
theorem dX9_dusk_26 : decode cX9_dusk 26 = .ok (.if_icmp .ge 75, 3) := by decide +kernel
theorem dX9_dusk_29 : decode cX9_dusk 29 = .ok (.aload_n 0, 1) := by decide +kernel
theorem dX9_dusk_30 : decode cX9_dusk 30 = .ok (.getfield 45, 3) := by decide +kernel
theorem dX9_dusk_33 : decode cX9_dusk 33 = .ok (.getfield 183, 3) := by decide +kernel
theorem dX9_dusk_36 : decode cX9_dusk 36 = .ok (.iload_n 3, 1) := by decide +kernel
theorem dX9_dusk_37 : decode cX9_dusk 37 = .ok (.iaload, 1) := by decide +kernel
theorem dX9_dusk_38 : decode cX9_dusk 38 = .ok (.istore 4, 2) := by decide +kernel
theorem dX9_dusk_40 : decode cX9_dusk 40 = .ok (.iload 4, 2) := by decide +kernel
theorem dX9_dusk_42 : decode cX9_dusk 42 = .ok (.iconst (-1), 1) := by decide +kernel
theorem dX9_dusk_43 : decode cX9_dusk 43 = .ok (.if_icmp .ne 18, 3) := by decide +kernel
theorem dX9_dusk_46 : decode cX9_dusk 46 = .ok (.iload_n 2, 1) := by decide +kernel
theorem dX9_dusk_47 : decode cX9_dusk 47 = .ok (.aload_n 0, 1) := by decide +kernel
theorem dX9_dusk_48 : decode cX9_dusk 48 = .ok (.getfield 32, 3) := by decide +kernel
theorem dX9_dusk_51 : decode cX9_dusk 51 = .ok (.getfield 180, 3) := by decide +kernel
theorem dX9_dusk_54 : decode cX9_dusk 54 = .ok (.iload_n 3, 1) := by decide +kernel
theorem dX9_dusk_55 : decode cX9_dusk 55 = .ok (.iaload, 1) := by decide +kernel
theorem dX9_dusk_56 : decode cX9_dusk 56 = .ok (.iadd, 1) := by decide +kernel
theorem dX9_dusk_57 : decode cX9_dusk 57 = .ok (.istore_n 2, 1) := by decide +kernel
theorem dX9_dusk_58 : decode cX9_dusk 58 = .ok (.goto 37, 3) := by decide +kernel
theorem dX9_dusk_61 : decode cX9_dusk 61 = .ok (.aload_n 0, 1) := by decide +kernel
theorem dX9_dusk_62 : decode cX9_dusk 62 = .ok (.getfield 32, 3) := by decide +kernel
theorem dX9_dusk_65 : decode cX9_dusk 65 = .ok (.getfield 186, 3) := by decide +kernel
theorem dX9_dusk_68 : decode cX9_dusk 68 = .ok (.iload 4, 2) := by decide +kernel
theorem dX9_dusk_70 : decode cX9_dusk 70 = .ok (.dup2, 1) := by decide +kernel
theorem dX9_dusk_71 : decode cX9_dusk 71 = .ok (.iaload, 1) := by decide +kernel
theorem dX9_dusk_72 : decode cX9_dusk 72 = .ok (.aload_n 0, 1) := by decide +kernel
theorem dX9_dusk_73 : decode cX9_dusk 73 = .ok (.getfield 32, 3) := by decide +kernel
theorem dX9_dusk_76 : decode cX9_dusk 76 = .ok (.getfield 180, 3) := by decide +kernel
theorem dX9_dusk_79 : decode cX9_dusk 79 = .ok (.iload_n 3, 1) := by decide +kernel
theorem dX9_dusk_80 : decode cX9_dusk 80 = .ok (.iaload, 1) := by decide +kernel
theorem dX9_dusk_81 : decode cX9_dusk 81 = .ok (.iadd, 1) := by decide +kernel
theorem dX9_dusk_82 : decode cX9_dusk 82 = .ok (.iastore, 1) := by decide +kernel
theorem dX9_dusk_83 : decode cX9_dusk 83 = .ok (.iload_n 1, 1) := by decide +kernel
theorem dX9_dusk_84 : decode cX9_dusk 84 = .ok (.aload_n 0, 1) := by decide +kernel
theorem dX9_dusk_85 : decode cX9_dusk 85 = .ok (.getfield 32, 3) := by decide +kernel
theorem dX9_dusk_88 : decode cX9_dusk 88 = .ok (.getfield 180, 3) := by decide +kernel
theorem dX9_dusk_91 : decode cX9_dusk 91 = .ok (.iload_n 3, 1) := by decide +kernel
theorem dX9_dusk_92 : decode cX9_dusk 92 = .ok (.iaload, 1) := by decide +kernel
theorem dX9_dusk_93 : decode cX9_dusk 93 = .ok (.iadd, 1) := by decide +kernel
theorem dX9_dusk_94 : decode cX9_dusk 94 = .ok (.istore_n 1, 1) := by decide +kernel
theorem dX9_dusk_95 : decode cX9_dusk 95 = .ok (.iinc 3 1, 3) := by decide +kernel
theorem dX9_dusk_98 : decode cX9_dusk 98 = .ok (.goto (-75), 3) := by decide +kernel
theorem dX9_dusk_101 : decode cX9_dusk 101 = .ok (.iconst 0, 1) := by decide +kernel
theorem dX9_dusk_102 : decode cX9_dusk 102 = .ok (.istore_n 3, 1) := by decide +kernel
theorem dX9_dusk_103 : decode cX9_dusk 103 = .ok (.iload_n 3, 1) := by decide +kernel
theorem dX9_dusk_104 : decode cX9_dusk 104 = .ok (.iconst 3, 1) := by decide +kernel
theorem dX9_dusk_105 : decode cX9_dusk 105 = .ok (.if_icmp .ge 24, 3) := by decide +kernel
theorem dX9_dusk_108 : decode cX9_dusk 108 = .ok (.aload_n 0, 1) := by decide +kernel
theorem dX9_dusk_109 : decode cX9_dusk 109 = .ok (.getfield 32, 3) := by decide +kernel
theorem dX9_dusk_112 : decode cX9_dusk 112 = .ok (.getfield 186, 3) := by decide +kernel
theorem dX9_dusk_115 : decode cX9_dusk 115 = .ok (.iload_n 3, 1) := by decide +kernel
theorem dX9_dusk_116 : decode cX9_dusk 116 = .ok (.dup2, 1) := by decide +kernel
theorem dX9_dusk_117 : decode cX9_dusk 117 = .ok (.iaload, 1) := by decide +kernel
theorem dX9_dusk_118 : decode cX9_dusk 118 = .ok (.iload_n 2, 1) := by decide +kernel
theorem dX9_dusk_119 : decode cX9_dusk 119 = .ok (.iconst 2, 1) := by decide +kernel
theorem dX9_dusk_120 : decode cX9_dusk 120 = .ok (.idiv, 1) := by decide +kernel
theorem dX9_dusk_121 : decode cX9_dusk 121 = .ok (.iadd, 1) := by decide +kernel
theorem dX9_dusk_122 : decode cX9_dusk 122 = .ok (.iastore, 1) := by decide +kernel
theorem dX9_dusk_123 : decode cX9_dusk 123 = .ok (.iinc 3 1, 3) := by decide +kernel
theorem dX9_dusk_126 : decode cX9_dusk 126 = .ok (.goto (-23), 3) := by decide +kernel
theorem dX9_dusk_129 : decode cX9_dusk 129 = .ok (.iload_n 1, 1) := by decide +kernel
theorem dX9_dusk_130 : decode cX9_dusk 130 = .ok (.iconst 3, 1) := by decide +kernel
theorem dX9_dusk_131 : decode cX9_dusk 131 = .ok (.iload_n 2, 1) := by decide +kernel
theorem dX9_dusk_132 : decode cX9_dusk 132 = .ok (.iconst 2, 1) := by decide +kernel
theorem dX9_dusk_133 : decode cX9_dusk 133 = .ok (.idiv, 1) := by decide +kernel
theorem dX9_dusk_134 : decode cX9_dusk 134 = .ok (.imul, 1) := by decide +kernel
theorem dX9_dusk_135 : decode cX9_dusk 135 = .ok (.iadd, 1) := by decide +kernel
theorem dX9_dusk_136 : decode cX9_dusk 136 = .ok (.ireturn, 1) := by decide +kernel
theorem dX9_hour_0 : decode cX9_hour 0 = .ok (.aload_n 0, 1) := by decide +kernel
theorem dX9_hour_1 : decode cX9_hour 1 = .ok (.getfield 19, 3) := by decide +kernel
theorem dX9_hour_4 : decode cX9_hour 4 = .ok (.invokevirtual 171, 3) := by decide +kernel
theorem dX9_hour_7 : decode cX9_hour 7 = .ok (.ifCond .ne 6, 3) := by decide +kernel
theorem dX9_hour_10 : decode cX9_hour 10 = .ok (.bipush (-103), 2) := by decide +kernel
theorem dX9_hour_12 : decode cX9_hour 12 = .ok (.ireturn, 1) := by decide +kernel
theorem dX9_hour_13 : decode cX9_hour 13 = .ok (.aload_n 0, 1) := by decide +kernel
theorem dX9_hour_14 : decode cX9_hour 14 = .ok (.getfield 32, 3) := by decide +kernel
theorem dX9_hour_17 : decode cX9_hour 17 = .ok (.invokevirtual 189, 3) := by decide +kernel
theorem dX9_hour_20 : decode cX9_hour 20 = .ok (.aload_n 0, 1) := by decide +kernel
theorem dX9_hour_21 : decode cX9_hour 21 = .ok (.getfield 32, 3) := by decide +kernel
theorem dX9_hour_24 : decode cX9_hour 24 = .ok (.getfield 192, 3) := by decide +kernel
theorem dX9_hour_27 : decode cX9_hour 27 = .ok (.ireturn, 1) := by decide +kernel
theorem dX9_weakest_0 : decode cX9_weakest 0 = .ok (.aload_n 0, 1) := by decide +kernel
theorem dX9_weakest_1 : decode cX9_weakest 1 = .ok (.iload_n 1, 1) := by decide +kernel
theorem dX9_weakest_2 : decode cX9_weakest 2 = .ok (.invokevirtual 99, 3) := by decide +kernel
theorem dX9_weakest_5 : decode cX9_weakest 5 = .ok (.ifCond .ne 6, 3) := by decide +kernel
theorem dX9_weakest_8 : decode cX9_weakest 8 = .ok (.bipush (-101), 2) := by decide +kernel
theorem dX9_weakest_10 : decode cX9_weakest 10 = .ok (.ireturn, 1) := by decide +kernel
theorem dX9_weakest_11 : decode cX9_weakest 11 = .ok (.iload_n 2, 1) := by decide +kernel
theorem dX9_weakest_12 : decode cX9_weakest 12 = .ok (.invokestatic 113, 3) := by decide +kernel
theorem dX9_weakest_15 : decode cX9_weakest 15 = .ok (.ifCond .eq 10, 3) := by decide +kernel
theorem dX9_weakest_18 : decode cX9_weakest 18 = .ok (.iload_n 3, 1) := by decide +kernel
theorem dX9_weakest_19 : decode cX9_weakest 19 = .ok (.invokestatic 195, 3) := by decide +kernel
theorem dX9_weakest_22 : decode cX9_weakest 22 = .ok (.ifCond .ne 6, 3) := by decide +kernel
theorem dX9_weakest_25 : decode cX9_weakest 25 = .ok (.bipush (-102), 2) := by decide +kernel
theorem dX9_weakest_27 : decode cX9_weakest 27 = .ok (.ireturn, 1) := by decide +kernel
theorem dX9_weakest_28 : decode cX9_weakest 28 = .ok (.aload_n 0, 1) := by decide +kernel
theorem dX9_weakest_29 : decode cX9_weakest 29 = .ok (.invokevirtual 103, 3) := by decide +kernel
theorem dX9_weakest_32 : decode cX9_weakest 32 = .ok (.aload_n 0, 1) := by decide +kernel
theorem dX9_weakest_33 : decode cX9_weakest 33 = .ok (.getfield 45, 3) := by decide +kernel
theorem dX9_weakest_36 : decode cX9_weakest 36 = .ok (.getfield 183, 3) := by decide +kernel
theorem dX9_weakest_39 : decode cX9_weakest 39 = .ok (.iload_n 1, 1) := by decide +kernel
theorem dX9_weakest_40 : decode cX9_weakest 40 = .ok (.iaload, 1) := by decide +kernel
theorem dX9_weakest_41 : decode cX9_weakest 41 = .ok (.iload_n 2, 1) := by decide +kernel
theorem dX9_weakest_42 : decode cX9_weakest 42 = .ok (.if_icmp .ne 13, 3) := by decide +kernel
theorem dX9_weakest_45 : decode cX9_weakest 45 = .ok (.iload_n 3, 1) := by decide +kernel
theorem dX9_weakest_46 : decode cX9_weakest 46 = .ok (.ifCond .ne 7, 3) := by decide +kernel
theorem dX9_weakest_49 : decode cX9_weakest 49 = .ok (.iconst 0, 1) := by decide +kernel
theorem dX9_weakest_50 : decode cX9_weakest 50 = .ok (.goto 4, 3) := by decide +kernel
theorem dX9_weakest_53 : decode cX9_weakest 53 = .ok (.iconst (-1), 1) := by decide +kernel
theorem dX9_weakest_54 : decode cX9_weakest 54 = .ok (.ireturn, 1) := by decide +kernel
theorem dX9_weakest_55 : decode cX9_weakest 55 = .ok (.iconst 1, 1) := by decide +kernel
theorem dX9_weakest_56 : decode cX9_weakest 56 = .ok (.istore 4, 2) := by decide +kernel
theorem dX9_weakest_58 : decode cX9_weakest 58 = .ok (.iload 4, 2) := by decide +kernel
theorem dX9_weakest_60 : decode cX9_weakest 60 = .ok (.bipush 9, 2) := by decide +kernel
theorem dX9_weakest_62 : decode cX9_weakest 62 = .ok (.if_icmp .gt 61, 3) := by decide +kernel
theorem dX9_weakest_65 : decode cX9_weakest 65 = .ok (.iconst 0, 1) := by decide +kernel
theorem dX9_weakest_66 : decode cX9_weakest 66 = .ok (.istore 5, 2) := by decide +kernel
theorem dX9_weakest_68 : decode cX9_weakest 68 = .ok (.iload 5, 2) := by decide +kernel
theorem dX9_weakest_70 : decode cX9_weakest 70 = .ok (.bipush 8, 2) := by decide +kernel
theorem dX9_weakest_72 : decode cX9_weakest 72 = .ok (.if_icmp .ge 45, 3) := by decide +kernel
theorem dX9_weakest_75 : decode cX9_weakest 75 = .ok (.aload_n 0, 1) := by decide +kernel
theorem dX9_weakest_76 : decode cX9_weakest 76 = .ok (.getfield 19, 3) := by decide +kernel
theorem dX9_weakest_79 : decode cX9_weakest 79 = .ok (.iload 5, 2) := by decide +kernel
theorem dX9_weakest_81 : decode cX9_weakest 81 = .ok (.invokevirtual 116, 3) := by decide +kernel
theorem dX9_weakest_84 : decode cX9_weakest 84 = .ok (.ifCond .eq 27, 3) := by decide +kernel
theorem dX9_weakest_87 : decode cX9_weakest 87 = .ok (.aload_n 0, 1) := by decide +kernel
theorem dX9_weakest_88 : decode cX9_weakest 88 = .ok (.iload_n 1, 1) := by decide +kernel
theorem dX9_weakest_89 : decode cX9_weakest 89 = .ok (.iload 5, 2) := by decide +kernel
theorem dX9_weakest_91 : decode cX9_weakest 91 = .ok (.iload 4, 2) := by decide +kernel
theorem dX9_weakest_93 : decode cX9_weakest 93 = .ok (.invokevirtual 198, 3) := by decide +kernel
theorem dX9_weakest_96 : decode cX9_weakest 96 = .ok (.ifCond .eq 15, 3) := by decide +kernel
theorem dX9_weakest_99 : decode cX9_weakest 99 = .ok (.iload_n 3, 1) := by decide +kernel
theorem dX9_weakest_100 : decode cX9_weakest 100 = .ok (.ifCond .ne 8, 3) := by decide +kernel
theorem dX9_weakest_103 : decode cX9_weakest 103 = .ok (.iload 4, 2) := by decide +kernel
theorem dX9_weakest_105 : decode cX9_weakest 105 = .ok (.goto 5, 3) := by decide +kernel
theorem dX9_weakest_108 : decode cX9_weakest 108 = .ok (.iload 5, 2) := by decide +kernel
theorem dX9_weakest_110 : decode cX9_weakest 110 = .ok (.ireturn, 1) := by decide +kernel
theorem dX9_weakest_111 : decode cX9_weakest 111 = .ok (.iinc 5 1, 3) := by decide +kernel
theorem dX9_weakest_114 : decode cX9_weakest 114 = .ok (.goto (-46), 3) := by decide +kernel
theorem dX9_weakest_117 : decode cX9_weakest 117 = .ok (.iinc 4 1, 3) := by decide +kernel
theorem dX9_weakest_120 : decode cX9_weakest 120 = .ok (.goto (-62), 3) := by decide +kernel
theorem dX9_weakest_123 : decode cX9_weakest 123 = .ok (.iconst (-1), 1) := by decide +kernel
theorem dX9_weakest_124 : decode cX9_weakest 124 = .ok (.ireturn, 1) := by decide +kernel
theorem dX9_walls_0 : decode cX9_walls 0 = .ok (.aload_n 0, 1) := by decide +kernel
theorem dX9_walls_1 : decode cX9_walls 1 = .ok (.iload_n 1, 1) := by decide +kernel
theorem dX9_walls_2 : decode cX9_walls 2 = .ok (.invokevirtual 99, 3) := by decide +kernel
theorem dX9_walls_5 : decode cX9_walls 5 = .ok (.ifCond .ne 6, 3) := by decide +kernel
theorem dX9_walls_8 : decode cX9_walls 8 = .ok (.bipush (-101), 2) := by decide +kernel
theorem dX9_walls_10 : decode cX9_walls 10 = .ok (.ireturn, 1) := by decide +kernel
theorem dX9_walls_11 : decode cX9_walls 11 = .ok (.iload_n 2, 1) := by decide +kernel
theorem dX9_walls_12 : decode cX9_walls 12 = .ok (.invokestatic 113, 3) := by decide +kernel
theorem dX9_walls_15 : decode cX9_walls 15 = .ok (.ifCond .eq 10, 3) := by decide +kernel
theorem dX9_walls_18 : decode cX9_walls 18 = .ok (.iload_n 3, 1) := by decide +kernel
theorem dX9_walls_19 : decode cX9_walls 19 = .ok (.invokestatic 195, 3) := by decide +kernel
theorem dX9_walls_22 : decode cX9_walls 22 = .ok (.ifCond .ne 6, 3) := by decide +kernel
theorem dX9_walls_25 : decode cX9_walls 25 = .ok (.bipush (-102), 2) := by decide +kernel
theorem dX9_walls_27 : decode cX9_walls 27 = .ok (.ireturn, 1) := by decide +kernel
theorem dX9_walls_28 : decode cX9_walls 28 = .ok (.aload_n 0, 1) := by decide +kernel
theorem dX9_walls_29 : decode cX9_walls 29 = .ok (.getfield 202, 3) := by decide +kernel
theorem dX9_walls_32 : decode cX9_walls 32 = .ok (.bipush 20, 2) := by decide +kernel
theorem dX9_walls_34 : decode cX9_walls 34 = .ok (.if_icmp .lt 6, 3) := by decide +kernel
theorem dX9_walls_37 : decode cX9_walls 37 = .ok (.bipush (-103), 2) := by decide +kernel
theorem dX9_walls_39 : decode cX9_walls 39 = .ok (.ireturn, 1) := by decide +kernel
theorem dX9_walls_40 : decode cX9_walls 40 = .ok (.aload_n 0, 1) := by decide +kernel
theorem dX9_walls_41 : decode cX9_walls 41 = .ok (.dup, 1) := by decide +kernel
theorem dX9_walls_42 : decode cX9_walls 42 = .ok (.getfield 202, 3) := by decide +kernel
theorem dX9_walls_45 : decode cX9_walls 45 = .ok (.iconst 1, 1) := by decide +kernel
theorem dX9_walls_46 : decode cX9_walls 46 = .ok (.iadd, 1) := by decide +kernel
theorem dX9_walls_47 : decode cX9_walls 47 = .ok (.putfield 202, 3) := by decide +kernel
theorem dX9_walls_50 : decode cX9_walls 50 = .ok (.aload_n 0, 1) := by decide +kernel
theorem dX9_walls_51 : decode cX9_walls 51 = .ok (.iload_n 1, 1) := by decide +kernel
theorem dX9_walls_52 : decode cX9_walls 52 = .ok (.iload_n 2, 1) := by decide +kernel
theorem dX9_walls_53 : decode cX9_walls 53 = .ok (.invokevirtual 205, 3) := by decide +kernel
theorem dX9_walls_56 : decode cX9_walls 56 = .ok (.istore 4, 2) := by decide +kernel
theorem dX9_walls_58 : decode cX9_walls 58 = .ok (.iload 4, 2) := by decide +kernel
theorem dX9_walls_60 : decode cX9_walls 60 = .ok (.iconst (-1), 1) := by decide +kernel
theorem dX9_walls_61 : decode cX9_walls 61 = .ok (.if_icmp .ne 5, 3) := by decide +kernel
theorem dX9_walls_64 : decode cX9_walls 64 = .ok (.iconst (-1), 1) := by decide +kernel
theorem dX9_walls_65 : decode cX9_walls 65 = .ok (.ireturn, 1) := by decide +kernel
theorem dX9_walls_66 : decode cX9_walls 66 = .ok (.iload_n 3, 1) := by decide +kernel
theorem dX9_walls_67 : decode cX9_walls 67 = .ok (.ifCond .ne 11, 3) := by decide +kernel
theorem dX9_walls_70 : decode cX9_walls 70 = .ok (.iload 4, 2) := by decide +kernel
theorem dX9_walls_72 : decode cX9_walls 72 = .ok (.invokestatic 208, 3) := by decide +kernel
theorem dX9_walls_75 : decode cX9_walls 75 = .ok (.goto 5, 3) := by decide +kernel
theorem dX9_walls_78 : decode cX9_walls 78 = .ok (.iload 4, 2) := by decide +kernel
theorem dX9_walls_80 : decode cX9_walls 80 = .ok (.ireturn, 1) := by decide +kernel
theorem dX9_hold_0 : decode cX9_hold 0 = .ok (.aload_n 0, 1) := by decide +kernel
theorem dX9_hold_1 : decode cX9_hold 1 = .ok (.iload_n 1, 1) := by decide +kernel
theorem dX9_hold_2 : decode cX9_hold 2 = .ok (.invokevirtual 99, 3) := by decide +kernel
theorem dX9_hold_5 : decode cX9_hold 5 = .ok (.ifCond .ne 6, 3) := by decide +kernel
theorem dX9_hold_8 : decode cX9_hold 8 = .ok (.bipush (-101), 2) := by decide +kernel
theorem dX9_hold_10 : decode cX9_hold 10 = .ok (.ireturn, 1) := by decide +kernel
theorem dX9_hold_11 : decode cX9_hold 11 = .ok (.iload_n 2, 1) := by decide +kernel
theorem dX9_hold_12 : decode cX9_hold 12 = .ok (.invokestatic 113, 3) := by decide +kernel
theorem dX9_hold_15 : decode cX9_hold 15 = .ok (.ifCond .ne 6, 3) := by decide +kernel
theorem dX9_hold_18 : decode cX9_hold 18 = .ok (.bipush (-102), 2) := by decide +kernel
theorem dX9_hold_20 : decode cX9_hold 20 = .ok (.ireturn, 1) := by decide +kernel
theorem dX9_hold_21 : decode cX9_hold 21 = .ok (.aload_n 0, 1) := by decide +kernel
theorem dX9_hold_22 : decode cX9_hold 22 = .ok (.invokevirtual 213, 3) := by decide +kernel
theorem dX9_hold_25 : decode cX9_hold 25 = .ok (.aload_n 0, 1) := by decide +kernel
theorem dX9_hold_26 : decode cX9_hold 26 = .ok (.iload_n 1, 1) := by decide +kernel
theorem dX9_hold_27 : decode cX9_hold 27 = .ok (.iload_n 2, 1) := by decide +kernel
theorem dX9_hold_28 : decode cX9_hold 28 = .ok (.invokevirtual 216, 3) := by decide +kernel
theorem dX9_hold_31 : decode cX9_hold 31 = .ok (.ireturn, 1) := by decide +kernel
theorem dX9_nose_0 : decode cX9_nose 0 = .ok (.aload_n 0, 1) := by decide +kernel
theorem dX9_nose_1 : decode cX9_nose 1 = .ok (.iload_n 1, 1) := by decide +kernel
theorem dX9_nose_2 : decode cX9_nose 2 = .ok (.invokevirtual 99, 3) := by decide +kernel
theorem dX9_nose_5 : decode cX9_nose 5 = .ok (.ifCond .ne 6, 3) := by decide +kernel
theorem dX9_nose_8 : decode cX9_nose 8 = .ok (.bipush (-101), 2) := by decide +kernel
theorem dX9_nose_10 : decode cX9_nose 10 = .ok (.ireturn, 1) := by decide +kernel
theorem dX9_nose_11 : decode cX9_nose 11 = .ok (.iload_n 2, 1) := by decide +kernel
theorem dX9_nose_12 : decode cX9_nose 12 = .ok (.iconst (-1), 1) := by decide +kernel
theorem dX9_nose_13 : decode cX9_nose 13 = .ok (.if_icmp .eq 13, 3) := by decide +kernel
theorem dX9_nose_16 : decode cX9_nose 16 = .ok (.iload_n 2, 1) := by decide +kernel
theorem dX9_nose_17 : decode cX9_nose 17 = .ok (.invokestatic 113, 3) := by decide +kernel
theorem dX9_nose_20 : decode cX9_nose 20 = .ok (.ifCond .ne 6, 3) := by decide +kernel
theorem dX9_nose_23 : decode cX9_nose 23 = .ok (.bipush (-102), 2) := by decide +kernel
theorem dX9_nose_25 : decode cX9_nose 25 = .ok (.ireturn, 1) := by decide +kernel
theorem dX9_nose_26 : decode cX9_nose 26 = .ok (.aload_n 0, 1) := by decide +kernel
theorem dX9_nose_27 : decode cX9_nose 27 = .ok (.getfield 32, 3) := by decide +kernel
theorem dX9_nose_30 : decode cX9_nose 30 = .ok (.getfield 219, 3) := by decide +kernel
theorem dX9_nose_33 : decode cX9_nose 33 = .ok (.bipush 8, 2) := by decide +kernel
theorem dX9_nose_35 : decode cX9_nose 35 = .ok (.if_icmp .lt 6, 3) := by decide +kernel
theorem dX9_nose_38 : decode cX9_nose 38 = .ok (.bipush (-104), 2) := by decide +kernel
theorem dX9_nose_40 : decode cX9_nose 40 = .ok (.ireturn, 1) := by decide +kernel
theorem dX9_nose_41 : decode cX9_nose 41 = .ok (.aload_n 0, 1) := by decide +kernel
theorem dX9_nose_42 : decode cX9_nose 42 = .ok (.getfield 32, 3) := by decide +kernel
theorem dX9_nose_45 : decode cX9_nose 45 = .ok (.iload_n 1, 1) := by decide +kernel
theorem dX9_nose_46 : decode cX9_nose 46 = .ok (.iload_n 2, 1) := by decide +kernel
theorem dX9_nose_47 : decode cX9_nose 47 = .ok (.invokevirtual 222, 3) := by decide +kernel
theorem dX9_nose_50 : decode cX9_nose 50 = .ok (.aload_n 0, 1) := by decide +kernel
theorem dX9_nose_51 : decode cX9_nose 51 = .ok (.getfield 32, 3) := by decide +kernel
theorem dX9_nose_54 : decode cX9_nose 54 = .ok (.getfield 219, 3) := by decide +kernel
theorem dX9_nose_57 : decode cX9_nose 57 = .ok (.ireturn, 1) := by decide +kernel
theorem dX9_forget_0 : decode cX9_forget 0 = .ok (.aload_n 0, 1) := by decide +kernel
theorem dX9_forget_1 : decode cX9_forget 1 = .ok (.getfield 32, 3) := by decide +kernel
theorem dX9_forget_4 : decode cX9_forget 4 = .ok (.getfield 219, 3) := by decide +kernel
theorem dX9_forget_7 : decode cX9_forget 7 = .ok (.istore_n 1, 1) := by decide +kernel
theorem dX9_forget_8 : decode cX9_forget 8 = .ok (.aload_n 0, 1) := by decide +kernel
theorem dX9_forget_9 : decode cX9_forget 9 = .ok (.getfield 32, 3) := by decide +kernel
theorem dX9_forget_12 : decode cX9_forget 12 = .ok (.iconst 0, 1) := by decide +kernel
theorem dX9_forget_13 : decode cX9_forget 13 = .ok (.putfield 219, 3) := by decide +kernel
theorem dX9_forget_16 : decode cX9_forget 16 = .ok (.iload_n 1, 1) := by decide +kernel
theorem dX9_forget_17 : decode cX9_forget 17 = .ok (.ireturn, 1) := by decide +kernel
theorem dX9_unknown_0 : decode cX9_unknown 0 = .ok (.iload_n 1, 1) := by decide +kernel
theorem dX9_unknown_1 : decode cX9_unknown 1 = .ok (.invokestatic 195, 3) := by decide +kernel
theorem dX9_unknown_4 : decode cX9_unknown 4 = .ok (.ifCond .ne 6, 3) := by decide +kernel
theorem dX9_unknown_7 : decode cX9_unknown 7 = .ok (.bipush (-102), 2) := by decide +kernel
theorem dX9_unknown_9 : decode cX9_unknown 9 = .ok (.ireturn, 1) := by decide +kernel
theorem dX9_unknown_10 : decode cX9_unknown 10 = .ok (.aload_n 0, 1) := by decide +kernel
theorem dX9_unknown_11 : decode cX9_unknown 11 = .ok (.invokevirtual 226, 3) := by decide +kernel
theorem dX9_unknown_14 : decode cX9_unknown 14 = .ok (.ifCond .ne 6, 3) := by decide +kernel
theorem dX9_unknown_17 : decode cX9_unknown 17 = .ok (.bipush (-103), 2) := by decide +kernel
theorem dX9_unknown_19 : decode cX9_unknown 19 = .ok (.ireturn, 1) := by decide +kernel
theorem dX9_unknown_20 : decode cX9_unknown 20 = .ok (.aload_n 0, 1) := by decide +kernel
theorem dX9_unknown_21 : decode cX9_unknown 21 = .ok (.dup, 1) := by decide +kernel
theorem dX9_unknown_22 : decode cX9_unknown 22 = .ok (.getfield 229, 3) := by decide +kernel
theorem dX9_unknown_25 : decode cX9_unknown 25 = .ok (.iconst 1, 1) := by decide +kernel
theorem dX9_unknown_26 : decode cX9_unknown 26 = .ok (.iadd, 1) := by decide +kernel
theorem dX9_unknown_27 : decode cX9_unknown 27 = .ok (.putfield 229, 3) := by decide +kernel
theorem dX9_unknown_30 : decode cX9_unknown 30 = .ok (.aload_n 0, 1) := by decide +kernel
theorem dX9_unknown_31 : decode cX9_unknown 31 = .ok (.invokevirtual 103, 3) := by decide +kernel
theorem dX9_unknown_34 : decode cX9_unknown 34 = .ok (.iconst 0, 1) := by decide +kernel
theorem dX9_unknown_35 : decode cX9_unknown 35 = .ok (.istore_n 2, 1) := by decide +kernel
theorem dX9_unknown_36 : decode cX9_unknown 36 = .ok (.iconst (-1), 1) := by decide +kernel
theorem dX9_unknown_37 : decode cX9_unknown 37 = .ok (.istore_n 3, 1) := by decide +kernel
theorem dX9_unknown_38 : decode cX9_unknown 38 = .ok (.iconst 0, 1) := by decide +kernel
theorem dX9_unknown_39 : decode cX9_unknown 39 = .ok (.istore 4, 2) := by decide +kernel
theorem dX9_unknown_41 : decode cX9_unknown 41 = .ok (.iload 4, 2) := by decide +kernel
theorem dX9_unknown_43 : decode cX9_unknown 43 = .ok (.sipush 216, 3) := by decide +kernel
theorem dX9_unknown_46 : decode cX9_unknown 46 = .ok (.if_icmp .ge 29, 3) := by decide +kernel
theorem dX9_unknown_49 : decode cX9_unknown 49 = .ok (.aload_n 0, 1) := by decide +kernel
theorem dX9_unknown_50 : decode cX9_unknown 50 = .ok (.iload 4, 2) := by decide +kernel
theorem dX9_unknown_52 : decode cX9_unknown 52 = .ok (.invokevirtual 232, 3) := by decide +kernel
theorem dX9_unknown_55 : decode cX9_unknown 55 = .ok (.ifCond .eq 14, 3) := by decide +kernel
theorem dX9_unknown_58 : decode cX9_unknown 58 = .ok (.iinc 2 1, 3) := by decide +kernel
theorem dX9_unknown_61 : decode cX9_unknown 61 = .ok (.iload_n 3, 1) := by decide +kernel
theorem dX9_unknown_62 : decode cX9_unknown 62 = .ok (.iconst (-1), 1) := by decide +kernel
theorem dX9_unknown_63 : decode cX9_unknown 63 = .ok (.if_icmp .ne 6, 3) := by decide +kernel
theorem dX9_unknown_66 : decode cX9_unknown 66 = .ok (.iload 4, 2) := by decide +kernel
theorem dX9_unknown_68 : decode cX9_unknown 68 = .ok (.istore_n 3, 1) := by decide +kernel
theorem dX9_unknown_69 : decode cX9_unknown 69 = .ok (.iinc 4 1, 3) := by decide +kernel
theorem dX9_unknown_72 : decode cX9_unknown 72 = .ok (.goto (-31), 3) := by decide +kernel
theorem dX9_unknown_75 : decode cX9_unknown 75 = .ok (.iload_n 1, 1) := by decide +kernel
theorem dX9_unknown_76 : decode cX9_unknown 76 = .ok (.ifCond .ne 7, 3) := by decide +kernel
theorem dX9_unknown_79 : decode cX9_unknown 79 = .ok (.iload_n 2, 1) := by decide +kernel
theorem dX9_unknown_80 : decode cX9_unknown 80 = .ok (.goto 4, 3) := by decide +kernel
theorem dX9_unknown_83 : decode cX9_unknown 83 = .ok (.iload_n 3, 1) := by decide +kernel
theorem dX9_unknown_84 : decode cX9_unknown 84 = .ok (.ireturn, 1) := by decide +kernel
theorem dX9_sniff_0 : decode cX9_sniff 0 = .ok (.aload_n 0, 1) := by decide +kernel
theorem dX9_sniff_1 : decode cX9_sniff 1 = .ok (.invokevirtual 226, 3) := by decide +kernel
theorem dX9_sniff_4 : decode cX9_sniff 4 = .ok (.ifCond .ne 6, 3) := by decide +kernel
theorem dX9_sniff_7 : decode cX9_sniff 7 = .ok (.bipush (-103), 2) := by decide +kernel
theorem dX9_sniff_9 : decode cX9_sniff 9 = .ok (.ireturn, 1) := by decide +kernel
theorem dX9_sniff_10 : decode cX9_sniff 10 = .ok (.aload_n 0, 1) := by decide +kernel
theorem dX9_sniff_11 : decode cX9_sniff 11 = .ok (.dup, 1) := by decide +kernel
theorem dX9_sniff_12 : decode cX9_sniff 12 = .ok (.getfield 229, 3) := by decide +kernel
theorem dX9_sniff_15 : decode cX9_sniff 15 = .ok (.iconst 1, 1) := by decide +kernel
theorem dX9_sniff_16 : decode cX9_sniff 16 = .ok (.iadd, 1) := by decide +kernel
theorem dX9_sniff_17 : decode cX9_sniff 17 = .ok (.putfield 229, 3) := by decide +kernel
theorem dX9_sniff_20 : decode cX9_sniff 20 = .ok (.aload_n 0, 1) := by decide +kernel
theorem dX9_sniff_21 : decode cX9_sniff 21 = .ok (.invokevirtual 103, 3) := by decide +kernel
theorem dX9_sniff_24 : decode cX9_sniff 24 = .ok (.aload_n 0, 1) := by decide +kernel
theorem dX9_sniff_25 : decode cX9_sniff 25 = .ok (.invokevirtual 235, 3) := by decide +kernel
theorem dX9_sniff_28 : decode cX9_sniff 28 = .ok (.ifCond .ne 7, 3) := by decide +kernel
theorem dX9_sniff_31 : decode cX9_sniff 31 = .ok (.iconst (-1), 1) := by decide +kernel
theorem dX9_sniff_32 : decode cX9_sniff 32 = .ok (.goto 7, 3) := by decide +kernel
theorem dX9_sniff_35 : decode cX9_sniff 35 = .ok (.aload_n 0, 1) := by decide +kernel
theorem dX9_sniff_36 : decode cX9_sniff 36 = .ok (.invokevirtual 238, 3) := by decide +kernel
theorem dX9_sniff_39 : decode cX9_sniff 39 = .ok (.ireturn, 1) := by decide +kernel
theorem dX9_days_0 : decode cX9_days 0 = .ok (.iload_n 1, 1) := by decide +kernel
theorem dX9_days_1 : decode cX9_days 1 = .ok (.iconst 1, 1) := by decide +kernel
theorem dX9_days_2 : decode cX9_days 2 = .ok (.if_icmp .lt 20, 3) := by decide +kernel
theorem dX9_days_5 : decode cX9_days 5 = .ok (.iload_n 1, 1) := by decide +kernel
theorem dX9_days_6 : decode cX9_days 6 = .ok (.bipush 60, 2) := by decide +kernel
theorem dX9_days_8 : decode cX9_days 8 = .ok (.if_icmp .gt 14, 3) := by decide +kernel
theorem dX9_days_11 : decode cX9_days 11 = .ok (.iload_n 2, 1) := by decide +kernel
theorem dX9_days_12 : decode cX9_days 12 = .ok (.ifCond .lt 10, 3) := by decide +kernel
theorem dX9_days_15 : decode cX9_days 15 = .ok (.iload_n 3, 1) := by decide +kernel
theorem dX9_days_16 : decode cX9_days 16 = .ok (.invokestatic 195, 3) := by decide +kernel
theorem dX9_days_19 : decode cX9_days 19 = .ok (.ifCond .ne 6, 3) := by decide +kernel
theorem dX9_days_22 : decode cX9_days 22 = .ok (.bipush (-102), 2) := by decide +kernel
theorem dX9_days_24 : decode cX9_days 24 = .ok (.ireturn, 1) := by decide +kernel
theorem dX9_days_25 : decode cX9_days 25 = .ok (.aload_n 0, 1) := by decide +kernel
theorem dX9_days_26 : decode cX9_days 26 = .ok (.getfield 19, 3) := by decide +kernel
theorem dX9_days_29 : decode cX9_days 29 = .ok (.invokevirtual 171, 3) := by decide +kernel
theorem dX9_days_32 : decode cX9_days 32 = .ok (.ifCond .ne 6, 3) := by decide +kernel
theorem dX9_days_35 : decode cX9_days 35 = .ok (.bipush (-103), 2) := by decide +kernel
theorem dX9_days_37 : decode cX9_days 37 = .ok (.ireturn, 1) := by decide +kernel
theorem dX9_days_38 : decode cX9_days 38 = .ok (.aload_n 0, 1) := by decide +kernel
theorem dX9_days_39 : decode cX9_days 39 = .ok (.getfield 39, 3) := by decide +kernel
theorem dX9_days_42 : decode cX9_days 42 = .ok (.aload_n 0, 1) := by decide +kernel
theorem dX9_days_43 : decode cX9_days 43 = .ok (.getfield 32, 3) := by decide +kernel
theorem dX9_days_46 : decode cX9_days 46 = .ok (.invokevirtual 85, 3) := by decide +kernel
theorem dX9_days_49 : decode cX9_days 49 = .ok (.iload_n 2, 1) := by decide +kernel
theorem dX9_days_50 : decode cX9_days 50 = .ok (.istore 4, 2) := by decide +kernel
theorem dX9_days_52 : decode cX9_days 52 = .ok (.iconst 0, 1) := by decide +kernel
theorem dX9_days_53 : decode cX9_days 53 = .ok (.istore 5, 2) := by decide +kernel
theorem dX9_days_55 : decode cX9_days 55 = .ok (.iconst 0, 1) := by decide +kernel
theorem dX9_days_56 : decode cX9_days 56 = .ok (.istore 6, 2) := by decide +kernel
theorem dX9_days_58 : decode cX9_days 58 = .ok (.iload 6, 2) := by decide +kernel
theorem dX9_days_60 : decode cX9_days 60 = .ok (.iload_n 1, 1) := by decide +kernel
theorem dX9_days_61 : decode cX9_days 61 = .ok (.if_icmp .ge 97, 3) := by decide +kernel
theorem dX9_days_64 : decode cX9_days 64 = .ok (.iload 4, 2) := by decide +kernel
theorem dX9_days_66 : decode cX9_days 66 = .ok (.invokestatic 241, 3) := by decide +kernel
theorem dX9_days_69 : decode cX9_days 69 = .ok (.istore 4, 2) := by decide +kernel
theorem dX9_days_71 : decode cX9_days 71 = .ok (.aload_n 0, 1) := by decide +kernel
theorem dX9_days_72 : decode cX9_days 72 = .ok (.getfield 39, 3) := by decide +kernel
theorem dX9_days_75 : decode cX9_days 75 = .ok (.iload 4, 2) := by decide +kernel
theorem dX9_days_77 : decode cX9_days 77 = .ok (.iconst 5, 1) := by decide +kernel
theorem dX9_days_78 : decode cX9_days 78 = .ok (.invokestatic 244, 3) := by decide +kernel
theorem dX9_days_81 : decode cX9_days 81 = .ok (.putfield 153, 3) := by decide +kernel
theorem dX9_days_84 : decode cX9_days 84 = .ok (.iload 4, 2) := by decide +kernel
theorem dX9_days_86 : decode cX9_days 86 = .ok (.invokestatic 241, 3) := by decide +kernel
theorem dX9_days_89 : decode cX9_days 89 = .ok (.istore 4, 2) := by decide +kernel
theorem dX9_days_91 : decode cX9_days 91 = .ok (.aload_n 0, 1) := by decide +kernel
theorem dX9_days_92 : decode cX9_days 92 = .ok (.getfield 39, 3) := by decide +kernel
theorem dX9_days_95 : decode cX9_days 95 = .ok (.iload 4, 2) := by decide +kernel
theorem dX9_days_97 : decode cX9_days 97 = .ok (.bipush 6, 2) := by decide +kernel
theorem dX9_days_99 : decode cX9_days 99 = .ok (.invokestatic 244, 3) := by decide +kernel
theorem dX9_days_102 : decode cX9_days 102 = .ok (.ifCond .ne 7, 3) := by decide +kernel
theorem dX9_days_105 : decode cX9_days 105 = .ok (.iconst 1, 1) := by decide +kernel
theorem dX9_days_106 : decode cX9_days 106 = .ok (.goto 4, 3) := by decide +kernel
theorem dX9_days_109 : decode cX9_days 109 = .ok (.iconst 0, 1) := by decide +kernel
theorem dX9_days_110 : decode cX9_days 110 = .ok (.putfield 174, 3) := by decide +kernel
theorem dX9_days_113 : decode cX9_days 113 = .ok (.aload_n 0, 1) := by decide +kernel
theorem dX9_days_114 : decode cX9_days 114 = .ok (.getfield 45, 3) := by decide +kernel
theorem dX9_days_117 : decode cX9_days 117 = .ok (.aload_n 0, 1) := by decide +kernel
theorem dX9_days_118 : decode cX9_days 118 = .ok (.getfield 19, 3) := by decide +kernel
theorem dX9_days_121 : decode cX9_days 121 = .ok (.aload_n 0, 1) := by decide +kernel
theorem dX9_days_122 : decode cX9_days 122 = .ok (.getfield 25, 3) := by decide +kernel
theorem dX9_days_125 : decode cX9_days 125 = .ok (.aload_n 0, 1) := by decide +kernel
theorem dX9_days_126 : decode cX9_days 126 = .ok (.getfield 39, 3) := by decide +kernel
theorem dX9_days_129 : decode cX9_days 129 = .ok (.iconst 0, 1) := by decide +kernel
theorem dX9_days_130 : decode cX9_days 130 = .ok (.invokevirtual 247, 3) := by decide +kernel
theorem dX9_days_133 : decode cX9_days 133 = .ok (.iload 5, 2) := by decide +kernel
theorem dX9_days_135 : decode cX9_days 135 = .ok (.aload_n 0, 1) := by decide +kernel
theorem dX9_days_136 : decode cX9_days 136 = .ok (.getfield 45, 3) := by decide +kernel
theorem dX9_days_139 : decode cX9_days 139 = .ok (.invokevirtual 110, 3) := by decide +kernel
theorem dX9_days_142 : decode cX9_days 142 = .ok (.iadd, 1) := by decide +kernel
theorem dX9_days_143 : decode cX9_days 143 = .ok (.istore 5, 2) := by decide +kernel
theorem dX9_days_145 : decode cX9_days 145 = .ok (.aload_n 0, 1) := by decide +kernel
theorem dX9_days_146 : decode cX9_days 146 = .ok (.getfield 39, 3) := by decide +kernel
theorem dX9_days_149 : decode cX9_days 149 = .ok (.invokevirtual 189, 3) := by decide +kernel
theorem dX9_days_152 : decode cX9_days 152 = .ok (.iinc 6 1, 3) := by decide +kernel
theorem dX9_days_155 : decode cX9_days 155 = .ok (.goto (-97), 3) := by decide +kernel
theorem dX9_days_158 : decode cX9_days 158 = .ok (.iload_n 3, 1) := by decide +kernel
theorem dX9_days_159 : decode cX9_days 159 = .ok (.ifCond .ne 8, 3) := by decide +kernel
theorem dX9_days_162 : decode cX9_days 162 = .ok (.iload 5, 2) := by decide +kernel
theorem dX9_days_164 : decode cX9_days 164 = .ok (.goto 5, 3) := by decide +kernel
theorem dX9_days_167 : decode cX9_days 167 = .ok (.iload 4, 2) := by decide +kernel
theorem dX9_days_169 : decode cX9_days 169 = .ok (.ireturn, 1) := by decide +kernel
theorem dX9_image_0 : decode cX9_image 0 = .ok (.aload_n 0, 1) := by decide +kernel
theorem dX9_image_1 : decode cX9_image 1 = .ok (.getfield 19, 3) := by decide +kernel
theorem dX9_image_4 : decode cX9_image 4 = .ok (.invokevirtual 171, 3) := by decide +kernel
theorem dX9_image_7 : decode cX9_image 7 = .ok (.ifCond .ne 6, 3) := by decide +kernel
theorem dX9_image_10 : decode cX9_image 10 = .ok (.bipush (-103), 2) := by decide +kernel
theorem dX9_image_12 : decode cX9_image 12 = .ok (.ireturn, 1) := by decide +kernel
theorem dX9_image_13 : decode cX9_image 13 = .ok (.aload_n 0, 1) := by decide +kernel
theorem dX9_image_14 : decode cX9_image 14 = .ok (.getfield 36, 3) := by decide +kernel
theorem dX9_image_17 : decode cX9_image 17 = .ok (.aload_n 0, 1) := by decide +kernel
theorem dX9_image_18 : decode cX9_image 18 = .ok (.getfield 32, 3) := by decide +kernel
theorem dX9_image_21 : decode cX9_image 21 = .ok (.invokevirtual 85, 3) := by decide +kernel
theorem dX9_image_24 : decode cX9_image 24 = .ok (.aload_n 0, 1) := by decide +kernel
theorem dX9_image_25 : decode cX9_image 25 = .ok (.iconst 1, 1) := by decide +kernel
theorem dX9_image_26 : decode cX9_image 26 = .ok (.putfield 89, 3) := by decide +kernel
theorem dX9_image_29 : decode cX9_image 29 = .ok (.aload_n 0, 1) := by decide +kernel
theorem dX9_image_30 : decode cX9_image 30 = .ok (.getfield 32, 3) := by decide +kernel
theorem dX9_image_33 : decode cX9_image 33 = .ok (.getfield 192, 3) := by decide +kernel
theorem dX9_image_36 : decode cX9_image 36 = .ok (.ireturn, 1) := by decide +kernel
theorem dX9_restore_0 : decode cX9_restore 0 = .ok (.aload_n 0, 1) := by decide +kernel
theorem dX9_restore_1 : decode cX9_restore 1 = .ok (.getfield 89, 3) := by decide +kernel
theorem dX9_restore_4 : decode cX9_restore 4 = .ok (.ifCond .ne 6, 3) := by decide +kernel
theorem dX9_restore_7 : decode cX9_restore 7 = .ok (.bipush (-103), 2) := by decide +kernel
theorem dX9_restore_9 : decode cX9_restore 9 = .ok (.ireturn, 1) := by decide +kernel
theorem dX9_restore_10 : decode cX9_restore 10 = .ok (.aload_n 0, 1) := by decide +kernel
theorem dX9_restore_11 : decode cX9_restore 11 = .ok (.getfield 32, 3) := by decide +kernel
theorem dX9_restore_14 : decode cX9_restore 14 = .ok (.aload_n 0, 1) := by decide +kernel
theorem dX9_restore_15 : decode cX9_restore 15 = .ok (.getfield 36, 3) := by decide +kernel
theorem dX9_restore_18 : decode cX9_restore 18 = .ok (.invokevirtual 85, 3) := by decide +kernel
theorem dX9_restore_21 : decode cX9_restore 21 = .ok (.aload_n 0, 1) := by decide +kernel
theorem dX9_restore_22 : decode cX9_restore 22 = .ok (.getfield 32, 3) := by decide +kernel
theorem dX9_restore_25 : decode cX9_restore 25 = .ok (.getfield 192, 3) := by decide +kernel
theorem dX9_restore_28 : decode cX9_restore 28 = .ok (.ireturn, 1) := by decide +kernel
theorem dX9_count_0 : decode cX9_count 0 = .ok (.iload_n 1, 1) := by decide +kernel
theorem dX9_count_1 : decode cX9_count 1 = .ok (.ifCond .lt 9, 3) := by decide +kernel
theorem dX9_count_4 : decode cX9_count 4 = .ok (.iload_n 1, 1) := by decide +kernel
theorem dX9_count_5 : decode cX9_count 5 = .ok (.bipush 16, 2) := by decide +kernel
theorem dX9_count_7 : decode cX9_count 7 = .ok (.if_icmp .lt 6, 3) := by decide +kernel
theorem dX9_count_10 : decode cX9_count 10 = .ok (.bipush (-102), 2) := by decide +kernel
theorem dX9_count_12 : decode cX9_count 12 = .ok (.ireturn, 1) := by decide +kernel
theorem dX9_count_13 : decode cX9_count 13 = .ok (.aload_n 0, 1) := by decide +kernel
theorem dX9_count_14 : decode cX9_count 14 = .ok (.invokevirtual 103, 3) := by decide +kernel
theorem dX9_count_17 : decode cX9_count 17 = .ok (.aload_n 0, 1) := by decide +kernel
theorem dX9_count_18 : decode cX9_count 18 = .ok (.iload_n 1, 1) := by decide +kernel
theorem dX9_count_19 : decode cX9_count 19 = .ok (.invokevirtual 251, 3) := by decide +kernel
theorem dX9_count_22 : decode cX9_count 22 = .ok (.ireturn, 1) := by decide +kernel
theorem dX9_digest_0 : decode cX9_digest 0 = .ok (.ldc2_w 254, 3) := by decide +kernel
theorem dX9_digest_3 : decode cX9_digest 3 = .ok (.lstore_n 1, 1) := by decide +kernel
theorem dX9_digest_4 : decode cX9_digest 4 = .ok (.aload_n 0, 1) := by decide +kernel
theorem dX9_digest_5 : decode cX9_digest 5 = .ok (.getfield 19, 3) := by decide +kernel
theorem dX9_digest_8 : decode cX9_digest 8 = .ok (.invokevirtual 171, 3) := by decide +kernel
theorem dX9_digest_11 : decode cX9_digest 11 = .ok (.ifCond .eq 20, 3) := by decide +kernel
theorem dX9_digest_14 : decode cX9_digest 14 = .ok (.aload_n 0, 1) := by decide +kernel
theorem dX9_digest_15 : decode cX9_digest 15 = .ok (.invokevirtual 213, 3) := by decide +kernel
theorem dX9_digest_18 : decode cX9_digest 18 = .ok (.aload_n 0, 1) := by decide +kernel
theorem dX9_digest_19 : decode cX9_digest 19 = .ok (.invokevirtual 103, 3) := by decide +kernel
theorem dX9_digest_22 : decode cX9_digest 22 = .ok (.aload_n 0, 1) := by decide +kernel
theorem dX9_digest_23 : decode cX9_digest 23 = .ok (.lload_n 1, 1) := by decide +kernel
theorem dX9_digest_24 : decode cX9_digest 24 = .ok (.invokevirtual 256, 3) := by decide +kernel
theorem dX9_digest_27 : decode cX9_digest 27 = .ok (.lstore_n 1, 1) := by decide +kernel
theorem dX9_digest_28 : decode cX9_digest 28 = .ok (.goto 7, 3) := by decide +kernel
theorem dX9_digest_31 : decode cX9_digest 31 = .ok (.aload_n 0, 1) := by decide +kernel
theorem dX9_digest_32 : decode cX9_digest 32 = .ok (.invokevirtual 103, 3) := by decide +kernel
theorem dX9_digest_35 : decode cX9_digest 35 = .ok (.iconst 0, 1) := by decide +kernel
theorem dX9_digest_36 : decode cX9_digest 36 = .ok (.istore_n 3, 1) := by decide +kernel
theorem dX9_digest_37 : decode cX9_digest 37 = .ok (.iload_n 3, 1) := by decide +kernel
theorem dX9_digest_38 : decode cX9_digest 38 = .ok (.aload_n 0, 1) := by decide +kernel
theorem dX9_digest_39 : decode cX9_digest 39 = .ok (.getfield 32, 3) := by decide +kernel
theorem dX9_digest_42 : decode cX9_digest 42 = .ok (.getfield 119, 3) := by decide +kernel
theorem dX9_digest_45 : decode cX9_digest 45 = .ok (.if_icmp .ge 16, 3) := by decide +kernel
theorem dX9_digest_48 : decode cX9_digest 48 = .ok (.aload_n 0, 1) := by decide +kernel
theorem dX9_digest_49 : decode cX9_digest 49 = .ok (.lload_n 1, 1) := by decide +kernel
theorem dX9_digest_50 : decode cX9_digest 50 = .ok (.iload_n 3, 1) := by decide +kernel
theorem dX9_digest_51 : decode cX9_digest 51 = .ok (.invokevirtual 260, 3) := by decide +kernel
theorem dX9_digest_54 : decode cX9_digest 54 = .ok (.lstore_n 1, 1) := by decide +kernel
theorem dX9_digest_55 : decode cX9_digest 55 = .ok (.iinc 3 1, 3) := by decide +kernel
theorem dX9_digest_58 : decode cX9_digest 58 = .ok (.goto (-21), 3) := by decide +kernel
theorem dX9_digest_61 : decode cX9_digest 61 = .ok (.lload_n 1, 1) := by decide +kernel
theorem dX9_digest_62 : decode cX9_digest 62 = .ok (.aload_n 0, 1) := by decide +kernel
theorem dX9_digest_63 : decode cX9_digest 63 = .ok (.getfield 45, 3) := by decide +kernel
theorem dX9_digest_66 : decode cX9_digest 66 = .ok (.invokevirtual 110, 3) := by decide +kernel
theorem dX9_digest_69 : decode cX9_digest 69 = .ok (.i2l, 1) := by decide +kernel
theorem dX9_digest_70 : decode cX9_digest 70 = .ok (.invokestatic 264, 3) := by decide +kernel
theorem dX9_digest_73 : decode cX9_digest 73 = .ok (.lstore_n 1, 1) := by decide +kernel
theorem dX9_digest_74 : decode cX9_digest 74 = .ok (.iconst 0, 1) := by decide +kernel
theorem dX9_digest_75 : decode cX9_digest 75 = .ok (.istore_n 3, 1) := by decide +kernel
theorem dX9_digest_76 : decode cX9_digest 76 = .ok (.iload_n 3, 1) := by decide +kernel
theorem dX9_digest_77 : decode cX9_digest 77 = .ok (.aload_n 0, 1) := by decide +kernel
theorem dX9_digest_78 : decode cX9_digest 78 = .ok (.getfield 12, 3) := by decide +kernel
theorem dX9_digest_81 : decode cX9_digest 81 = .ok (.getfield 70, 3) := by decide +kernel
theorem dX9_digest_84 : decode cX9_digest 84 = .ok (.if_icmp .ge 24, 3) := by decide +kernel
theorem dX9_digest_87 : decode cX9_digest 87 = .ok (.lload_n 1, 1) := by decide +kernel
theorem dX9_digest_88 : decode cX9_digest 88 = .ok (.aload_n 0, 1) := by decide +kernel
theorem dX9_digest_89 : decode cX9_digest 89 = .ok (.getfield 12, 3) := by decide +kernel
theorem dX9_digest_92 : decode cX9_digest 92 = .ok (.getfield 268, 3) := by decide +kernel
theorem dX9_digest_95 : decode cX9_digest 95 = .ok (.iload_n 3, 1) := by decide +kernel
theorem dX9_digest_96 : decode cX9_digest 96 = .ok (.iaload, 1) := by decide +kernel
theorem dX9_digest_97 : decode cX9_digest 97 = .ok (.i2l, 1) := by decide +kernel
theorem dX9_digest_98 : decode cX9_digest 98 = .ok (.invokestatic 264, 3) := by decide +kernel
theorem dX9_digest_101 : decode cX9_digest 101 = .ok (.lstore_n 1, 1) := by decide +kernel
theorem dX9_digest_102 : decode cX9_digest 102 = .ok (.iinc 3 1, 3) := by decide +kernel
theorem dX9_digest_105 : decode cX9_digest 105 = .ok (.goto (-29), 3) := by decide +kernel
theorem dX9_digest_108 : decode cX9_digest 108 = .ok (.iconst 0, 1) := by decide +kernel
theorem dX9_digest_109 : decode cX9_digest 109 = .ok (.istore_n 3, 1) := by decide +kernel
theorem dX9_digest_110 : decode cX9_digest 110 = .ok (.iload_n 3, 1) := by decide +kernel
theorem dX9_digest_111 : decode cX9_digest 111 = .ok (.bipush 16, 2) := by decide +kernel
theorem dX9_digest_113 : decode cX9_digest 113 = .ok (.if_icmp .ge 20, 3) := by decide +kernel
theorem dX9_digest_116 : decode cX9_digest 116 = .ok (.lload_n 1, 1) := by decide +kernel
theorem dX9_digest_117 : decode cX9_digest 117 = .ok (.aload_n 0, 1) := by decide +kernel
theorem dX9_digest_118 : decode cX9_digest 118 = .ok (.iload_n 3, 1) := by decide +kernel
theorem dX9_digest_119 : decode cX9_digest 119 = .ok (.invokevirtual 251, 3) := by decide +kernel
theorem dX9_digest_122 : decode cX9_digest 122 = .ok (.i2l, 1) := by decide +kernel
theorem dX9_digest_123 : decode cX9_digest 123 = .ok (.invokestatic 264, 3) := by decide +kernel
theorem dX9_digest_126 : decode cX9_digest 126 = .ok (.lstore_n 1, 1) := by decide +kernel
theorem dX9_digest_127 : decode cX9_digest 127 = .ok (.iinc 3 1, 3) := by decide +kernel
theorem dX9_digest_130 : decode cX9_digest 130 = .ok (.goto (-20), 3) := by decide +kernel
theorem dX9_digest_133 : decode cX9_digest 133 = .ok (.lload_n 1, 1) := by decide +kernel
theorem dX9_digest_134 : decode cX9_digest 134 = .ok (.lreturn, 1) := by decide +kernel
theorem dX9_isParish_0 : decode cX9_isParish 0 = .ok (.iload_n 0, 1) := by decide +kernel
theorem dX9_isParish_1 : decode cX9_isParish 1 = .ok (.ifCond .lt 12, 3) := by decide +kernel
theorem dX9_isParish_4 : decode cX9_isParish 4 = .ok (.iload_n 0, 1) := by decide +kernel
theorem dX9_isParish_5 : decode cX9_isParish 5 = .ok (.iconst 3, 1) := by decide +kernel
theorem dX9_isParish_6 : decode cX9_isParish 6 = .ok (.if_icmp .ge 7, 3) := by decide +kernel
theorem dX9_isParish_9 : decode cX9_isParish 9 = .ok (.iconst 1, 1) := by decide +kernel
theorem dX9_isParish_10 : decode cX9_isParish 10 = .ok (.goto 4, 3) := by decide +kernel
theorem dX9_isParish_13 : decode cX9_isParish 13 = .ok (.iconst 0, 1) := by decide +kernel
theorem dX9_isParish_14 : decode cX9_isParish 14 = .ok (.ireturn, 1) := by decide +kernel
theorem dX9_isZeroOrOne_0 : decode cX9_isZeroOrOne 0 = .ok (.iload_n 0, 1) := by decide +kernel
theorem dX9_isZeroOrOne_1 : decode cX9_isZeroOrOne 1 = .ok (.ifCond .eq 8, 3) := by decide +kernel
theorem dX9_isZeroOrOne_4 : decode cX9_isZeroOrOne 4 = .ok (.iload_n 0, 1) := by decide +kernel
theorem dX9_isZeroOrOne_5 : decode cX9_isZeroOrOne 5 = .ok (.iconst 1, 1) := by decide +kernel
theorem dX9_isZeroOrOne_6 : decode cX9_isZeroOrOne 6 = .ok (.if_icmp .ne 7, 3) := by decide +kernel
theorem dX9_isZeroOrOne_9 : decode cX9_isZeroOrOne 9 = .ok (.iconst 1, 1) := by decide +kernel
theorem dX9_isZeroOrOne_10 : decode cX9_isZeroOrOne 10 = .ok (.goto 4, 3) := by decide +kernel
theorem dX9_isZeroOrOne_13 : decode cX9_isZeroOrOne 13 = .ok (.iconst 0, 1) := by decide +kernel
theorem dX9_isZeroOrOne_14 : decode cX9_isZeroOrOne 14 = .ok (.ireturn, 1) := by decide +kernel
theorem dX9_bit_0 : decode cX9_bit 0 = .ok (.iload_n 0, 1) := by decide +kernel
theorem dX9_bit_1 : decode cX9_bit 1 = .ok (.ifCond .eq 7, 3) := by decide +kernel
theorem dX9_bit_4 : decode cX9_bit 4 = .ok (.iconst 1, 1) := by decide +kernel
end
section
theorem dX9_bit_5 : decode cX9_bit 5 = .ok (.goto 4, 3) := by decide +kernel
theorem dX9_bit_8 : decode cX9_bit 8 = .ok (.iconst 0, 1) := by decide +kernel
theorem dX9_bit_9 : decode cX9_bit 9 = .ok (.ireturn, 1) := by decide +kernel
theorem dX9_mix_0 : decode cX9_mix 0 = .ok (.ldc2_w 271, 3) := by decide +kernel
theorem dX9_mix_3 : decode cX9_mix 3 = .ok (.lload_n 0, 1) := by decide +kernel
theorem dX9_mix_4 : decode cX9_mix 4 = .ok (.lmul, 1) := by decide +kernel
theorem dX9_mix_5 : decode cX9_mix 5 = .ok (.lload_n 2, 1) := by decide +kernel
theorem dX9_mix_6 : decode cX9_mix 6 = .ok (.ladd, 1) := by decide +kernel
theorem dX9_mix_7 : decode cX9_mix 7 = .ok (.lreturn, 1) := by decide +kernel
theorem dX9_nextSeed_0 : decode cX9_nextSeed 0 = .ok (.ldc2_w 273, 3) := by decide +kernel
theorem dX9_nextSeed_3 : decode cX9_nextSeed 3 = .ok (.iload_n 0, 1) := by decide +kernel
theorem dX9_nextSeed_4 : decode cX9_nextSeed 4 = .ok (.i2l, 1) := by decide +kernel
theorem dX9_nextSeed_5 : decode cX9_nextSeed 5 = .ok (.lmul, 1) := by decide +kernel
theorem dX9_nextSeed_6 : decode cX9_nextSeed 6 = .ok (.ldc2_w 275, 3) := by decide +kernel
theorem dX9_nextSeed_9 : decode cX9_nextSeed 9 = .ok (.ladd, 1) := by decide +kernel
theorem dX9_nextSeed_10 : decode cX9_nextSeed 10 = .ok (.ldc2_w 277, 3) := by decide +kernel
theorem dX9_nextSeed_13 : decode cX9_nextSeed 13 = .ok (.lrem, 1) := by decide +kernel
theorem dX9_nextSeed_14 : decode cX9_nextSeed 14 = .ok (.l2i, 1) := by decide +kernel
theorem dX9_nextSeed_15 : decode cX9_nextSeed 15 = .ok (.ireturn, 1) := by decide +kernel
theorem dX9_draw_0 : decode cX9_draw 0 = .ok (.iload_n 1, 1) := by decide +kernel
theorem dX9_draw_1 : decode cX9_draw 1 = .ok (.ifCond .le 13, 3) := by decide +kernel
theorem dX9_draw_4 : decode cX9_draw 4 = .ok (.iload_n 0, 1) := by decide +kernel
theorem dX9_draw_5 : decode cX9_draw 5 = .ok (.ldc_w 279, 3) := by decide +kernel
theorem dX9_draw_8 : decode cX9_draw 8 = .ok (.idiv, 1) := by decide +kernel
theorem dX9_draw_9 : decode cX9_draw 9 = .ok (.iload_n 1, 1) := by decide +kernel
theorem dX9_draw_10 : decode cX9_draw 10 = .ok (.irem, 1) := by decide +kernel
theorem dX9_draw_11 : decode cX9_draw 11 = .ok (.goto 4, 3) := by decide +kernel
theorem dX9_draw_14 : decode cX9_draw 14 = .ok (.iconst 0, 1) := by decide +kernel
theorem dX9_draw_15 : decode cX9_draw 15 = .ok (.ireturn, 1) := by decide +kernel
theorem dX9_make_0 : decode cX9_make 0 = .ok (.iload_n 0, 1) := by decide +kernel
theorem dX9_make_1 : decode cX9_make 1 = .ok (.tableswitch 75 1 4 #[31, 42, 53, 64], 31) := by decide +kernel
theorem dX9_make_32 : decode cX9_make 32 = .ok (.new 280, 3) := by decide +kernel
theorem dX9_make_35 : decode cX9_make 35 = .ok (.dup, 1) := by decide +kernel
theorem dX9_make_36 : decode cX9_make 36 = .ok (.iload_n 1, 1) := by decide +kernel
theorem dX9_make_37 : decode cX9_make 37 = .ok (.iload_n 2, 1) := by decide +kernel
theorem dX9_make_38 : decode cX9_make 38 = .ok (.iload_n 3, 1) := by decide +kernel
theorem dX9_make_39 : decode cX9_make 39 = .ok (.invokespecial 282, 3) := by decide +kernel
theorem dX9_make_42 : decode cX9_make 42 = .ok (.areturn, 1) := by decide +kernel
theorem dX9_make_43 : decode cX9_make 43 = .ok (.new 285, 3) := by decide +kernel
theorem dX9_make_46 : decode cX9_make 46 = .ok (.dup, 1) := by decide +kernel
theorem dX9_make_47 : decode cX9_make 47 = .ok (.iload_n 1, 1) := by decide +kernel
theorem dX9_make_48 : decode cX9_make 48 = .ok (.iload_n 2, 1) := by decide +kernel
theorem dX9_make_49 : decode cX9_make 49 = .ok (.iload_n 3, 1) := by decide +kernel
theorem dX9_make_50 : decode cX9_make 50 = .ok (.invokespecial 287, 3) := by decide +kernel
theorem dX9_make_53 : decode cX9_make 53 = .ok (.areturn, 1) := by decide +kernel
theorem dX9_make_54 : decode cX9_make 54 = .ok (.new 288, 3) := by decide +kernel
theorem dX9_make_57 : decode cX9_make 57 = .ok (.dup, 1) := by decide +kernel
theorem dX9_make_58 : decode cX9_make 58 = .ok (.iload_n 1, 1) := by decide +kernel
theorem dX9_make_59 : decode cX9_make 59 = .ok (.iload_n 2, 1) := by decide +kernel
theorem dX9_make_60 : decode cX9_make 60 = .ok (.iload_n 3, 1) := by decide +kernel
theorem dX9_make_61 : decode cX9_make 61 = .ok (.invokespecial 290, 3) := by decide +kernel
theorem dX9_make_64 : decode cX9_make 64 = .ok (.areturn, 1) := by decide +kernel
theorem dX9_make_65 : decode cX9_make 65 = .ok (.new 291, 3) := by decide +kernel
theorem dX9_make_68 : decode cX9_make 68 = .ok (.dup, 1) := by decide +kernel
theorem dX9_make_69 : decode cX9_make 69 = .ok (.iload_n 1, 1) := by decide +kernel
theorem dX9_make_70 : decode cX9_make 70 = .ok (.iload_n 2, 1) := by decide +kernel
theorem dX9_make_71 : decode cX9_make 71 = .ok (.iload_n 3, 1) := by decide +kernel
theorem dX9_make_72 : decode cX9_make 72 = .ok (.invokespecial 293, 3) := by decide +kernel
theorem dX9_make_75 : decode cX9_make 75 = .ok (.areturn, 1) := by decide +kernel
theorem dX9_make_76 : decode cX9_make 76 = .ok (.new 23, 3) := by decide +kernel
theorem dX9_make_79 : decode cX9_make 79 = .ok (.dup, 1) := by decide +kernel
theorem dX9_make_80 : decode cX9_make 80 = .ok (.iload_n 1, 1) := by decide +kernel
theorem dX9_make_81 : decode cX9_make 81 = .ok (.iload_n 2, 1) := by decide +kernel
theorem dX9_make_82 : decode cX9_make 82 = .ok (.iload_n 3, 1) := by decide +kernel
theorem dX9_make_83 : decode cX9_make 83 = .ok (.invokespecial 294, 3) := by decide +kernel
theorem dX9_make_86 : decode cX9_make 86 = .ok (.areturn, 1) := by decide +kernel
theorem dX9_isOfKind_0 : decode cX9_isOfKind 0 = .ok (.iload_n 1, 1) := by decide +kernel
theorem dX9_isOfKind_1 : decode cX9_isOfKind 1 = .ok (.tableswitch 51 1 4 #[31, 36, 41, 46], 31) := by decide +kernel
theorem dX9_isOfKind_32 : decode cX9_isOfKind 32 = .ok (.aload_n 0, 1) := by decide +kernel
theorem dX9_isOfKind_33 : decode cX9_isOfKind 33 = .ok (.instanceof 280, 3) := by decide +kernel
theorem dX9_isOfKind_36 : decode cX9_isOfKind 36 = .ok (.ireturn, 1) := by decide +kernel
theorem dX9_isOfKind_37 : decode cX9_isOfKind 37 = .ok (.aload_n 0, 1) := by decide +kernel
theorem dX9_isOfKind_38 : decode cX9_isOfKind 38 = .ok (.instanceof 285, 3) := by decide +kernel
theorem dX9_isOfKind_41 : decode cX9_isOfKind 41 = .ok (.ireturn, 1) := by decide +kernel
theorem dX9_isOfKind_42 : decode cX9_isOfKind 42 = .ok (.aload_n 0, 1) := by decide +kernel
theorem dX9_isOfKind_43 : decode cX9_isOfKind 43 = .ok (.instanceof 288, 3) := by decide +kernel
theorem dX9_isOfKind_46 : decode cX9_isOfKind 46 = .ok (.ireturn, 1) := by decide +kernel
theorem dX9_isOfKind_47 : decode cX9_isOfKind 47 = .ok (.aload_n 0, 1) := by decide +kernel
theorem dX9_isOfKind_48 : decode cX9_isOfKind 48 = .ok (.instanceof 291, 3) := by decide +kernel
theorem dX9_isOfKind_51 : decode cX9_isOfKind 51 = .ok (.ireturn, 1) := by decide +kernel
theorem dX9_isOfKind_52 : decode cX9_isOfKind 52 = .ok (.iconst 1, 1) := by decide +kernel
theorem dX9_isOfKind_53 : decode cX9_isOfKind 53 = .ok (.ireturn, 1) := by decide +kernel
theorem dX9_isCell_0 : decode cX9_isCell 0 = .ok (.aload_n 0, 1) := by decide +kernel
theorem dX9_isCell_1 : decode cX9_isCell 1 = .ok (.getfield 19, 3) := by decide +kernel
theorem dX9_isCell_4 : decode cX9_isCell 4 = .ok (.invokevirtual 171, 3) := by decide +kernel
theorem dX9_isCell_7 : decode cX9_isCell 7 = .ok (.ifCond .eq 17, 3) := by decide +kernel
theorem dX9_isCell_10 : decode cX9_isCell 10 = .ok (.iload_n 1, 1) := by decide +kernel
theorem dX9_isCell_11 : decode cX9_isCell 11 = .ok (.ifCond .lt 13, 3) := by decide +kernel
theorem dX9_isCell_14 : decode cX9_isCell 14 = .ok (.iload_n 1, 1) := by decide +kernel
theorem dX9_isCell_15 : decode cX9_isCell 15 = .ok (.bipush 8, 2) := by decide +kernel
theorem dX9_isCell_17 : decode cX9_isCell 17 = .ok (.if_icmp .ge 7, 3) := by decide +kernel
theorem dX9_isCell_20 : decode cX9_isCell 20 = .ok (.iconst 1, 1) := by decide +kernel
theorem dX9_isCell_21 : decode cX9_isCell 21 = .ok (.goto 4, 3) := by decide +kernel
theorem dX9_isCell_24 : decode cX9_isCell 24 = .ok (.iconst 0, 1) := by decide +kernel
theorem dX9_isCell_25 : decode cX9_isCell 25 = .ok (.ireturn, 1) := by decide +kernel
theorem dX9_find_0 : decode cX9_find 0 = .ok (.iload_n 1, 1) := by decide +kernel
theorem dX9_find_1 : decode cX9_find 1 = .ok (.ifCond .lt 23, 3) := by decide +kernel
theorem dX9_find_4 : decode cX9_find 4 = .ok (.iload_n 1, 1) := by decide +kernel
theorem dX9_find_5 : decode cX9_find 5 = .ok (.aload_n 0, 1) := by decide +kernel
theorem dX9_find_6 : decode cX9_find 6 = .ok (.getfield 32, 3) := by decide +kernel
theorem dX9_find_9 : decode cX9_find 9 = .ok (.getfield 119, 3) := by decide +kernel
theorem dX9_find_12 : decode cX9_find 12 = .ok (.if_icmp .ge 12, 3) := by decide +kernel
theorem dX9_find_15 : decode cX9_find 15 = .ok (.aload_n 0, 1) := by decide +kernel
theorem dX9_find_16 : decode cX9_find 16 = .ok (.getfield 25, 3) := by decide +kernel
theorem dX9_find_19 : decode cX9_find 19 = .ok (.iload_n 1, 1) := by decide +kernel
theorem dX9_find_20 : decode cX9_find 20 = .ok (.aaload, 1) := by decide +kernel
theorem dX9_find_21 : decode cX9_find 21 = .ok (.goto 4, 3) := by decide +kernel
theorem dX9_find_24 : decode cX9_find 24 = .ok (.aconst_null, 1) := by decide +kernel
theorem dX9_find_25 : decode cX9_find 25 = .ok (.areturn, 1) := by decide +kernel
theorem dX9_settleNow_0 : decode cX9_settleNow 0 = .ok (.aload_n 0, 1) := by decide +kernel
theorem dX9_settleNow_1 : decode cX9_settleNow 1 = .ok (.getfield 45, 3) := by decide +kernel
theorem dX9_settleNow_4 : decode cX9_settleNow 4 = .ok (.aload_n 0, 1) := by decide +kernel
theorem dX9_settleNow_5 : decode cX9_settleNow 5 = .ok (.getfield 19, 3) := by decide +kernel
theorem dX9_settleNow_8 : decode cX9_settleNow 8 = .ok (.aload_n 0, 1) := by decide +kernel
theorem dX9_settleNow_9 : decode cX9_settleNow 9 = .ok (.getfield 25, 3) := by decide +kernel
theorem dX9_settleNow_12 : decode cX9_settleNow 12 = .ok (.aload_n 0, 1) := by decide +kernel
theorem dX9_settleNow_13 : decode cX9_settleNow 13 = .ok (.getfield 32, 3) := by decide +kernel
theorem dX9_settleNow_16 : decode cX9_settleNow 16 = .ok (.iconst 0, 1) := by decide +kernel
theorem dX9_settleNow_17 : decode cX9_settleNow 17 = .ok (.invokevirtual 247, 3) := by decide +kernel
theorem dX9_settleNow_20 : decode cX9_settleNow 20 = .ok (.return_, 1) := by decide +kernel
theorem dX9_mayAsk_0 : decode cX9_mayAsk 0 = .ok (.aload_n 0, 1) := by decide +kernel
theorem dX9_mayAsk_1 : decode cX9_mayAsk 1 = .ok (.getfield 19, 3) := by decide +kernel
theorem dX9_mayAsk_4 : decode cX9_mayAsk 4 = .ok (.invokevirtual 171, 3) := by decide +kernel
theorem dX9_mayAsk_7 : decode cX9_mayAsk 7 = .ok (.ifCond .eq 16, 3) := by decide +kernel
theorem dX9_mayAsk_10 : decode cX9_mayAsk 10 = .ok (.aload_n 0, 1) := by decide +kernel
theorem dX9_mayAsk_11 : decode cX9_mayAsk 11 = .ok (.getfield 229, 3) := by decide +kernel
theorem dX9_mayAsk_14 : decode cX9_mayAsk 14 = .ok (.bipush 30, 2) := by decide +kernel
theorem dX9_mayAsk_16 : decode cX9_mayAsk 16 = .ok (.if_icmp .ge 7, 3) := by decide +kernel
theorem dX9_mayAsk_19 : decode cX9_mayAsk 19 = .ok (.iconst 1, 1) := by decide +kernel
theorem dX9_mayAsk_20 : decode cX9_mayAsk 20 = .ok (.goto 4, 3) := by decide +kernel
theorem dX9_mayAsk_23 : decode cX9_mayAsk 23 = .ok (.iconst 0, 1) := by decide +kernel
theorem dX9_mayAsk_24 : decode cX9_mayAsk 24 = .ok (.ireturn, 1) := by decide +kernel
theorem dX9_tellOfCell_0 : decode cX9_tellOfCell 0 = .ok (.iload_n 2, 1) := by decide +kernel
theorem dX9_tellOfCell_1 : decode cX9_tellOfCell 1 = .ok (.tableswitch 71 0 3 #[31, 41, 51, 61], 31) := by decide +kernel
theorem dX9_tellOfCell_32 : decode cX9_tellOfCell 32 = .ok (.aload_n 0, 1) := by decide +kernel
theorem dX9_tellOfCell_33 : decode cX9_tellOfCell 33 = .ok (.getfield 19, 3) := by decide +kernel
theorem dX9_tellOfCell_36 : decode cX9_tellOfCell 36 = .ok (.getfield 295, 3) := by decide +kernel
theorem dX9_tellOfCell_39 : decode cX9_tellOfCell 39 = .ok (.iload_n 1, 1) := by decide +kernel
theorem dX9_tellOfCell_40 : decode cX9_tellOfCell 40 = .ok (.iaload, 1) := by decide +kernel
theorem dX9_tellOfCell_41 : decode cX9_tellOfCell 41 = .ok (.ireturn, 1) := by decide +kernel
theorem dX9_tellOfCell_42 : decode cX9_tellOfCell 42 = .ok (.aload_n 0, 1) := by decide +kernel
theorem dX9_tellOfCell_43 : decode cX9_tellOfCell 43 = .ok (.getfield 45, 3) := by decide +kernel
theorem dX9_tellOfCell_46 : decode cX9_tellOfCell 46 = .ok (.getfield 183, 3) := by decide +kernel
theorem dX9_tellOfCell_49 : decode cX9_tellOfCell 49 = .ok (.iload_n 1, 1) := by decide +kernel
theorem dX9_tellOfCell_50 : decode cX9_tellOfCell 50 = .ok (.iaload, 1) := by decide +kernel
theorem dX9_tellOfCell_51 : decode cX9_tellOfCell 51 = .ok (.ireturn, 1) := by decide +kernel
theorem dX9_tellOfCell_52 : decode cX9_tellOfCell 52 = .ok (.aload_n 0, 1) := by decide +kernel
theorem dX9_tellOfCell_53 : decode cX9_tellOfCell 53 = .ok (.getfield 45, 3) := by decide +kernel
theorem dX9_tellOfCell_56 : decode cX9_tellOfCell 56 = .ok (.getfield 298, 3) := by decide +kernel
theorem dX9_tellOfCell_59 : decode cX9_tellOfCell 59 = .ok (.iload_n 1, 1) := by decide +kernel
theorem dX9_tellOfCell_60 : decode cX9_tellOfCell 60 = .ok (.iaload, 1) := by decide +kernel
theorem dX9_tellOfCell_61 : decode cX9_tellOfCell 61 = .ok (.ireturn, 1) := by decide +kernel
theorem dX9_tellOfCell_62 : decode cX9_tellOfCell 62 = .ok (.aload_n 0, 1) := by decide +kernel
theorem dX9_tellOfCell_63 : decode cX9_tellOfCell 63 = .ok (.getfield 32, 3) := by decide +kernel
theorem dX9_tellOfCell_66 : decode cX9_tellOfCell 66 = .ok (.getfield 180, 3) := by decide +kernel
theorem dX9_tellOfCell_69 : decode cX9_tellOfCell 69 = .ok (.iload_n 1, 1) := by decide +kernel
theorem dX9_tellOfCell_70 : decode cX9_tellOfCell 70 = .ok (.iaload, 1) := by decide +kernel
theorem dX9_tellOfCell_71 : decode cX9_tellOfCell 71 = .ok (.ireturn, 1) := by decide +kernel
theorem dX9_tellOfCell_72 : decode cX9_tellOfCell 72 = .ok (.aload_n 0, 1) := by decide +kernel
theorem dX9_tellOfCell_73 : decode cX9_tellOfCell 73 = .ok (.getfield 45, 3) := by decide +kernel
theorem dX9_tellOfCell_76 : decode cX9_tellOfCell 76 = .ok (.getfield 301, 3) := by decide +kernel
theorem dX9_tellOfCell_79 : decode cX9_tellOfCell 79 = .ok (.iload_n 1, 1) := by decide +kernel
theorem dX9_tellOfCell_80 : decode cX9_tellOfCell 80 = .ok (.iaload, 1) := by decide +kernel
theorem dX9_tellOfCell_81 : decode cX9_tellOfCell 81 = .ok (.ireturn, 1) := by decide +kernel
theorem dX9_tellOfSource_0 : decode cX9_tellOfSource 0 = .ok (.iload_n 3, 1) := by decide +kernel
theorem dX9_tellOfSource_1 : decode cX9_tellOfSource 1 = .ok (.tableswitch 100 0 6 #[43, 48, 53, 58, 63, 76, 86], 43) := by decide +kernel
theorem dX9_tellOfSource_44 : decode cX9_tellOfSource 44 = .ok (.aload_n 1, 1) := by decide +kernel
theorem dX9_tellOfSource_45 : decode cX9_tellOfSource 45 = .ok (.invokevirtual 304, 3) := by decide +kernel
theorem dX9_tellOfSource_48 : decode cX9_tellOfSource 48 = .ok (.ireturn, 1) := by decide +kernel
theorem dX9_tellOfSource_49 : decode cX9_tellOfSource 49 = .ok (.aload_n 1, 1) := by decide +kernel
theorem dX9_tellOfSource_50 : decode cX9_tellOfSource 50 = .ok (.getfield 307, 3) := by decide +kernel
theorem dX9_tellOfSource_53 : decode cX9_tellOfSource 53 = .ok (.ireturn, 1) := by decide +kernel
theorem dX9_tellOfSource_54 : decode cX9_tellOfSource 54 = .ok (.aload_n 1, 1) := by decide +kernel
theorem dX9_tellOfSource_55 : decode cX9_tellOfSource 55 = .ok (.getfield 140, 3) := by decide +kernel
theorem dX9_tellOfSource_58 : decode cX9_tellOfSource 58 = .ok (.ireturn, 1) := by decide +kernel
theorem dX9_tellOfSource_59 : decode cX9_tellOfSource 59 = .ok (.aload_n 1, 1) := by decide +kernel
theorem dX9_tellOfSource_60 : decode cX9_tellOfSource 60 = .ok (.getfield 310, 3) := by decide +kernel
theorem dX9_tellOfSource_63 : decode cX9_tellOfSource 63 = .ok (.ireturn, 1) := by decide +kernel
theorem dX9_tellOfSource_64 : decode cX9_tellOfSource 64 = .ok (.aload_n 0, 1) := by decide +kernel
theorem dX9_tellOfSource_65 : decode cX9_tellOfSource 65 = .ok (.getfield 32, 3) := by decide +kernel
theorem dX9_tellOfSource_68 : decode cX9_tellOfSource 68 = .ok (.getfield 163, 3) := by decide +kernel
theorem dX9_tellOfSource_71 : decode cX9_tellOfSource 71 = .ok (.iload_n 2, 1) := by decide +kernel
theorem dX9_tellOfSource_72 : decode cX9_tellOfSource 72 = .ok (.baload, 1) := by decide +kernel
theorem dX9_tellOfSource_73 : decode cX9_tellOfSource 73 = .ok (.invokestatic 167, 3) := by decide +kernel
theorem dX9_tellOfSource_76 : decode cX9_tellOfSource 76 = .ok (.ireturn, 1) := by decide +kernel
theorem dX9_tellOfSource_77 : decode cX9_tellOfSource 77 = .ok (.aload_n 0, 1) := by decide +kernel
theorem dX9_tellOfSource_78 : decode cX9_tellOfSource 78 = .ok (.getfield 32, 3) := by decide +kernel
theorem dX9_tellOfSource_81 : decode cX9_tellOfSource 81 = .ok (.getfield 143, 3) := by decide +kernel
theorem dX9_tellOfSource_84 : decode cX9_tellOfSource 84 = .ok (.iload_n 2, 1) := by decide +kernel
theorem dX9_tellOfSource_85 : decode cX9_tellOfSource 85 = .ok (.iaload, 1) := by decide +kernel
theorem dX9_tellOfSource_86 : decode cX9_tellOfSource 86 = .ok (.ireturn, 1) := by decide +kernel
theorem dX9_tellOfSource_87 : decode cX9_tellOfSource 87 = .ok (.aload_n 1, 1) := by decide +kernel
theorem dX9_tellOfSource_88 : decode cX9_tellOfSource 88 = .ok (.aload_n 0, 1) := by decide +kernel
theorem dX9_tellOfSource_89 : decode cX9_tellOfSource 89 = .ok (.getfield 32, 3) := by decide +kernel
theorem dX9_tellOfSource_92 : decode cX9_tellOfSource 92 = .ok (.getfield 143, 3) := by decide +kernel
theorem dX9_tellOfSource_95 : decode cX9_tellOfSource 95 = .ok (.iload_n 2, 1) := by decide +kernel
theorem dX9_tellOfSource_96 : decode cX9_tellOfSource 96 = .ok (.iaload, 1) := by decide +kernel
theorem dX9_tellOfSource_97 : decode cX9_tellOfSource 97 = .ok (.invokevirtual 146, 3) := by decide +kernel
theorem dX9_tellOfSource_100 : decode cX9_tellOfSource 100 = .ok (.ireturn, 1) := by decide +kernel
theorem dX9_tellOfSource_101 : decode cX9_tellOfSource 101 = .ok (.aload_n 0, 1) := by decide +kernel
theorem dX9_tellOfSource_102 : decode cX9_tellOfSource 102 = .ok (.getfield 32, 3) := by decide +kernel
theorem dX9_tellOfSource_105 : decode cX9_tellOfSource 105 = .ok (.aload_n 1, 1) := by decide +kernel
theorem dX9_tellOfSource_106 : decode cX9_tellOfSource 106 = .ok (.iload_n 2, 1) := by decide +kernel
theorem dX9_tellOfSource_107 : decode cX9_tellOfSource 107 = .ok (.invokevirtual 136, 3) := by decide +kernel
theorem dX9_tellOfSource_110 : decode cX9_tellOfSource 110 = .ok (.invokestatic 167, 3) := by decide +kernel
theorem dX9_tellOfSource_113 : decode cX9_tellOfSource 113 = .ok (.ireturn, 1) := by decide +kernel
theorem dX9_tellOfAll_0 : decode cX9_tellOfAll 0 = .ok (.iload_n 1, 1) := by decide +kernel
theorem dX9_tellOfAll_1 : decode cX9_tellOfAll 1 = .ok (.tableswitch 181 0 14 #[75, 83, 91, 99, 107, 115, 126, 134, 134, 134, 147, 155, 163, 171, 176], 75) := by decide +kernel
theorem dX9_tellOfAll_76 : decode cX9_tellOfAll 76 = .ok (.aload_n 0, 1) := by decide +kernel
theorem dX9_tellOfAll_77 : decode cX9_tellOfAll 77 = .ok (.getfield 19, 3) := by decide +kernel
theorem dX9_tellOfAll_80 : decode cX9_tellOfAll 80 = .ok (.getfield 96, 3) := by decide +kernel
theorem dX9_tellOfAll_83 : decode cX9_tellOfAll 83 = .ok (.ireturn, 1) := by decide +kernel
theorem dX9_tellOfAll_84 : decode cX9_tellOfAll 84 = .ok (.aload_n 0, 1) := by decide +kernel
theorem dX9_tellOfAll_85 : decode cX9_tellOfAll 85 = .ok (.getfield 19, 3) := by decide +kernel
theorem dX9_tellOfAll_88 : decode cX9_tellOfAll 88 = .ok (.getfield 313, 3) := by decide +kernel
theorem dX9_tellOfAll_91 : decode cX9_tellOfAll 91 = .ok (.ireturn, 1) := by decide +kernel
theorem dX9_tellOfAll_92 : decode cX9_tellOfAll 92 = .ok (.aload_n 0, 1) := by decide +kernel
theorem dX9_tellOfAll_93 : decode cX9_tellOfAll 93 = .ok (.getfield 32, 3) := by decide +kernel
theorem dX9_tellOfAll_96 : decode cX9_tellOfAll 96 = .ok (.getfield 119, 3) := by decide +kernel
theorem dX9_tellOfAll_99 : decode cX9_tellOfAll 99 = .ok (.ireturn, 1) := by decide +kernel
theorem dX9_tellOfAll_100 : decode cX9_tellOfAll 100 = .ok (.aload_n 0, 1) := by decide +kernel
theorem dX9_tellOfAll_101 : decode cX9_tellOfAll 101 = .ok (.getfield 32, 3) := by decide +kernel
theorem dX9_tellOfAll_104 : decode cX9_tellOfAll 104 = .ok (.invokevirtual 316, 3) := by decide +kernel
theorem dX9_tellOfAll_107 : decode cX9_tellOfAll 107 = .ok (.ireturn, 1) := by decide +kernel
theorem dX9_tellOfAll_108 : decode cX9_tellOfAll 108 = .ok (.aload_n 0, 1) := by decide +kernel
theorem dX9_tellOfAll_109 : decode cX9_tellOfAll 109 = .ok (.getfield 32, 3) := by decide +kernel
theorem dX9_tellOfAll_112 : decode cX9_tellOfAll 112 = .ok (.getfield 153, 3) := by decide +kernel
theorem dX9_tellOfAll_115 : decode cX9_tellOfAll 115 = .ok (.ireturn, 1) := by decide +kernel
theorem dX9_tellOfAll_116 : decode cX9_tellOfAll 116 = .ok (.aload_n 0, 1) := by decide +kernel
theorem dX9_tellOfAll_117 : decode cX9_tellOfAll 117 = .ok (.getfield 32, 3) := by decide +kernel
theorem dX9_tellOfAll_120 : decode cX9_tellOfAll 120 = .ok (.getfield 174, 3) := by decide +kernel
theorem dX9_tellOfAll_123 : decode cX9_tellOfAll 123 = .ok (.invokestatic 167, 3) := by decide +kernel
theorem dX9_tellOfAll_126 : decode cX9_tellOfAll 126 = .ok (.ireturn, 1) := by decide +kernel
theorem dX9_tellOfAll_127 : decode cX9_tellOfAll 127 = .ok (.aload_n 0, 1) := by decide +kernel
theorem dX9_tellOfAll_128 : decode cX9_tellOfAll 128 = .ok (.getfield 32, 3) := by decide +kernel
theorem dX9_tellOfAll_131 : decode cX9_tellOfAll 131 = .ok (.getfield 192, 3) := by decide +kernel
theorem dX9_tellOfAll_134 : decode cX9_tellOfAll 134 = .ok (.ireturn, 1) := by decide +kernel
theorem dX9_tellOfAll_135 : decode cX9_tellOfAll 135 = .ok (.aload_n 0, 1) := by decide +kernel
theorem dX9_tellOfAll_136 : decode cX9_tellOfAll 136 = .ok (.getfield 32, 3) := by decide +kernel
theorem dX9_tellOfAll_139 : decode cX9_tellOfAll 139 = .ok (.getfield 186, 3) := by decide +kernel
theorem dX9_tellOfAll_142 : decode cX9_tellOfAll 142 = .ok (.iload_n 1, 1) := by decide +kernel
theorem dX9_tellOfAll_143 : decode cX9_tellOfAll 143 = .ok (.bipush 7, 2) := by decide +kernel
theorem dX9_tellOfAll_145 : decode cX9_tellOfAll 145 = .ok (.isub, 1) := by decide +kernel
theorem dX9_tellOfAll_146 : decode cX9_tellOfAll 146 = .ok (.iaload, 1) := by decide +kernel
theorem dX9_tellOfAll_147 : decode cX9_tellOfAll 147 = .ok (.ireturn, 1) := by decide +kernel
theorem dX9_tellOfAll_148 : decode cX9_tellOfAll 148 = .ok (.aload_n 0, 1) := by decide +kernel
theorem dX9_tellOfAll_149 : decode cX9_tellOfAll 149 = .ok (.getfield 45, 3) := by decide +kernel
theorem dX9_tellOfAll_152 : decode cX9_tellOfAll 152 = .ok (.invokevirtual 319, 3) := by decide +kernel
theorem dX9_tellOfAll_155 : decode cX9_tellOfAll 155 = .ok (.ireturn, 1) := by decide +kernel
theorem dX9_tellOfAll_156 : decode cX9_tellOfAll 156 = .ok (.aload_n 0, 1) := by decide +kernel
theorem dX9_tellOfAll_157 : decode cX9_tellOfAll 157 = .ok (.getfield 32, 3) := by decide +kernel
theorem dX9_tellOfAll_160 : decode cX9_tellOfAll 160 = .ok (.getfield 219, 3) := by decide +kernel
theorem dX9_tellOfAll_163 : decode cX9_tellOfAll 163 = .ok (.ireturn, 1) := by decide +kernel
theorem dX9_tellOfAll_164 : decode cX9_tellOfAll 164 = .ok (.aload_n 0, 1) := by decide +kernel
theorem dX9_tellOfAll_165 : decode cX9_tellOfAll 165 = .ok (.getfield 12, 3) := by decide +kernel
theorem dX9_tellOfAll_168 : decode cX9_tellOfAll 168 = .ok (.getfield 70, 3) := by decide +kernel
theorem dX9_tellOfAll_171 : decode cX9_tellOfAll 171 = .ok (.ireturn, 1) := by decide +kernel
theorem dX9_tellOfAll_172 : decode cX9_tellOfAll 172 = .ok (.aload_n 0, 1) := by decide +kernel
theorem dX9_tellOfAll_173 : decode cX9_tellOfAll 173 = .ok (.getfield 93, 3) := by decide +kernel
theorem dX9_tellOfAll_176 : decode cX9_tellOfAll 176 = .ok (.ireturn, 1) := by decide +kernel
theorem dX9_tellOfAll_177 : decode cX9_tellOfAll 177 = .ok (.aload_n 0, 1) := by decide +kernel
theorem dX9_tellOfAll_178 : decode cX9_tellOfAll 178 = .ok (.getfield 202, 3) := by decide +kernel
theorem dX9_tellOfAll_181 : decode cX9_tellOfAll 181 = .ok (.ireturn, 1) := by decide +kernel
theorem dX9_tellOfAll_182 : decode cX9_tellOfAll 182 = .ok (.aload_n 0, 1) := by decide +kernel
theorem dX9_tellOfAll_183 : decode cX9_tellOfAll 183 = .ok (.getfield 229, 3) := by decide +kernel
theorem dX9_tellOfAll_186 : decode cX9_tellOfAll 186 = .ok (.ireturn, 1) := by decide +kernel
theorem dX9_digestCells_0 : decode cX9_digestCells 0 = .ok (.lload_n 1, 1) := by decide +kernel
theorem dX9_digestCells_1 : decode cX9_digestCells 1 = .ok (.lstore_n 3, 1) := by decide +kernel
theorem dX9_digestCells_2 : decode cX9_digestCells 2 = .ok (.iconst 0, 1) := by decide +kernel
theorem dX9_digestCells_3 : decode cX9_digestCells 3 = .ok (.istore 5, 2) := by decide +kernel
theorem dX9_digestCells_5 : decode cX9_digestCells 5 = .ok (.iload 5, 2) := by decide +kernel
theorem dX9_digestCells_7 : decode cX9_digestCells 7 = .ok (.bipush 8, 2) := by decide +kernel
theorem dX9_digestCells_9 : decode cX9_digestCells 9 = .ok (.if_icmp .ge 67, 3) := by decide +kernel
theorem dX9_digestCells_12 : decode cX9_digestCells 12 = .ok (.iconst 0, 1) := by decide +kernel
theorem dX9_digestCells_13 : decode cX9_digestCells 13 = .ok (.istore 6, 2) := by decide +kernel
theorem dX9_digestCells_15 : decode cX9_digestCells 15 = .ok (.iload 6, 2) := by decide +kernel
theorem dX9_digestCells_17 : decode cX9_digestCells 17 = .ok (.iconst 4, 1) := by decide +kernel
theorem dX9_digestCells_18 : decode cX9_digestCells 18 = .ok (.if_icmp .gt 23, 3) := by decide +kernel
theorem dX9_digestCells_21 : decode cX9_digestCells 21 = .ok (.lload_n 3, 1) := by decide +kernel
theorem dX9_digestCells_22 : decode cX9_digestCells 22 = .ok (.aload_n 0, 1) := by decide +kernel
theorem dX9_digestCells_23 : decode cX9_digestCells 23 = .ok (.iload 5, 2) := by decide +kernel
theorem dX9_digestCells_25 : decode cX9_digestCells 25 = .ok (.iload 6, 2) := by decide +kernel
theorem dX9_digestCells_27 : decode cX9_digestCells 27 = .ok (.invokevirtual 106, 3) := by decide +kernel
theorem dX9_digestCells_30 : decode cX9_digestCells 30 = .ok (.i2l, 1) := by decide +kernel
theorem dX9_digestCells_31 : decode cX9_digestCells 31 = .ok (.invokestatic 264, 3) := by decide +kernel
theorem dX9_digestCells_34 : decode cX9_digestCells 34 = .ok (.lstore_n 3, 1) := by decide +kernel
theorem dX9_digestCells_35 : decode cX9_digestCells 35 = .ok (.iinc 6 1, 3) := by decide +kernel
theorem dX9_digestCells_38 : decode cX9_digestCells 38 = .ok (.goto (-23), 3) := by decide +kernel
theorem dX9_digestCells_41 : decode cX9_digestCells 41 = .ok (.iconst 0, 1) := by decide +kernel
theorem dX9_digestCells_42 : decode cX9_digestCells 42 = .ok (.istore 6, 2) := by decide +kernel
theorem dX9_digestCells_44 : decode cX9_digestCells 44 = .ok (.iload 6, 2) := by decide +kernel
theorem dX9_digestCells_46 : decode cX9_digestCells 46 = .ok (.iconst 3, 1) := by decide +kernel
theorem dX9_digestCells_47 : decode cX9_digestCells 47 = .ok (.if_icmp .ge 23, 3) := by decide +kernel
theorem dX9_digestCells_50 : decode cX9_digestCells 50 = .ok (.lload_n 3, 1) := by decide +kernel
theorem dX9_digestCells_51 : decode cX9_digestCells 51 = .ok (.aload_n 0, 1) := by decide +kernel
theorem dX9_digestCells_52 : decode cX9_digestCells 52 = .ok (.iload 5, 2) := by decide +kernel
theorem dX9_digestCells_54 : decode cX9_digestCells 54 = .ok (.iload 6, 2) := by decide +kernel
theorem dX9_digestCells_56 : decode cX9_digestCells 56 = .ok (.invokevirtual 216, 3) := by decide +kernel
theorem dX9_digestCells_59 : decode cX9_digestCells 59 = .ok (.i2l, 1) := by decide +kernel
theorem dX9_digestCells_60 : decode cX9_digestCells 60 = .ok (.invokestatic 264, 3) := by decide +kernel
theorem dX9_digestCells_63 : decode cX9_digestCells 63 = .ok (.lstore_n 3, 1) := by decide +kernel
theorem dX9_digestCells_64 : decode cX9_digestCells 64 = .ok (.iinc 6 1, 3) := by decide +kernel
theorem dX9_digestCells_67 : decode cX9_digestCells 67 = .ok (.goto (-23), 3) := by decide +kernel
theorem dX9_digestCells_70 : decode cX9_digestCells 70 = .ok (.iinc 5 1, 3) := by decide +kernel
theorem dX9_digestCells_73 : decode cX9_digestCells 73 = .ok (.goto (-68), 3) := by decide +kernel
theorem dX9_digestCells_76 : decode cX9_digestCells 76 = .ok (.lload_n 3, 1) := by decide +kernel
theorem dX9_digestCells_77 : decode cX9_digestCells 77 = .ok (.lreturn, 1) := by decide +kernel
theorem dX9_digestSource_0 : decode cX9_digestSource 0 = .ok (.aload_n 0, 1) := by decide +kernel
theorem dX9_digestSource_1 : decode cX9_digestSource 1 = .ok (.iload_n 3, 1) := by decide +kernel
theorem dX9_digestSource_2 : decode cX9_digestSource 2 = .ok (.invokevirtual 128, 3) := by decide +kernel
theorem dX9_digestSource_5 : decode cX9_digestSource 5 = .ok (.astore 4, 2) := by decide +kernel
theorem dX9_digestSource_7 : decode cX9_digestSource 7 = .ok (.aload 4, 2) := by decide +kernel
theorem dX9_digestSource_9 : decode cX9_digestSource 9 = .ok (.ifnonnull 5, 3) := by decide +kernel
theorem dX9_digestSource_12 : decode cX9_digestSource 12 = .ok (.lload_n 1, 1) := by decide +kernel
theorem dX9_digestSource_13 : decode cX9_digestSource 13 = .ok (.lreturn, 1) := by decide +kernel
theorem dX9_digestSource_14 : decode cX9_digestSource 14 = .ok (.lload_n 1, 1) := by decide +kernel
theorem dX9_digestSource_15 : decode cX9_digestSource 15 = .ok (.lstore 5, 2) := by decide +kernel
theorem dX9_digestSource_17 : decode cX9_digestSource 17 = .ok (.iconst 0, 1) := by decide +kernel
theorem dX9_digestSource_18 : decode cX9_digestSource 18 = .ok (.istore 7, 2) := by decide +kernel
theorem dX9_digestSource_20 : decode cX9_digestSource 20 = .ok (.iload 7, 2) := by decide +kernel
theorem dX9_digestSource_22 : decode cX9_digestSource 22 = .ok (.bipush 7, 2) := by decide +kernel
theorem dX9_digestSource_24 : decode cX9_digestSource 24 = .ok (.if_icmp .gt 26, 3) := by decide +kernel
theorem dX9_digestSource_27 : decode cX9_digestSource 27 = .ok (.lload 5, 2) := by decide +kernel
theorem dX9_digestSource_29 : decode cX9_digestSource 29 = .ok (.aload_n 0, 1) := by decide +kernel
theorem dX9_digestSource_30 : decode cX9_digestSource 30 = .ok (.aload 4, 2) := by decide +kernel
theorem dX9_digestSource_32 : decode cX9_digestSource 32 = .ok (.iload_n 3, 1) := by decide +kernel
theorem dX9_digestSource_33 : decode cX9_digestSource 33 = .ok (.iload 7, 2) := by decide +kernel
theorem dX9_digestSource_35 : decode cX9_digestSource 35 = .ok (.invokevirtual 132, 3) := by decide +kernel
theorem dX9_digestSource_38 : decode cX9_digestSource 38 = .ok (.i2l, 1) := by decide +kernel
theorem dX9_digestSource_39 : decode cX9_digestSource 39 = .ok (.invokestatic 264, 3) := by decide +kernel
theorem dX9_digestSource_42 : decode cX9_digestSource 42 = .ok (.lstore 5, 2) := by decide +kernel
theorem dX9_digestSource_44 : decode cX9_digestSource 44 = .ok (.iinc 7 1, 3) := by decide +kernel
theorem dX9_digestSource_47 : decode cX9_digestSource 47 = .ok (.goto (-27), 3) := by decide +kernel
theorem dX9_digestSource_50 : decode cX9_digestSource 50 = .ok (.lload 5, 2) := by decide +kernel
theorem dX9_digestSource_52 : decode cX9_digestSource 52 = .ok (.lreturn, 1) := by decide +kernel
theorem dX9_spreadOneMore_0 : decode cX9_spreadOneMore 0 = .ok (.aload_n 0, 1) := by decide +kernel
theorem dX9_spreadOneMore_1 : decode cX9_spreadOneMore 1 = .ok (.getfield 19, 3) := by decide +kernel
theorem dX9_spreadOneMore_4 : decode cX9_spreadOneMore 4 = .ok (.iload_n 1, 1) := by decide +kernel
theorem dX9_spreadOneMore_5 : decode cX9_spreadOneMore 5 = .ok (.aload_n 0, 1) := by decide +kernel
theorem dX9_spreadOneMore_6 : decode cX9_spreadOneMore 6 = .ok (.getfield 32, 3) := by decide +kernel
theorem dX9_spreadOneMore_9 : decode cX9_spreadOneMore 9 = .ok (.getfield 174, 3) := by decide +kernel
theorem dX9_spreadOneMore_12 : decode cX9_spreadOneMore 12 = .ok (.ifCond .eq 7, 3) := by decide +kernel
theorem dX9_spreadOneMore_15 : decode cX9_spreadOneMore 15 = .ok (.iconst 0, 1) := by decide +kernel
theorem dX9_spreadOneMore_16 : decode cX9_spreadOneMore 16 = .ok (.goto 4, 3) := by decide +kernel
theorem dX9_spreadOneMore_19 : decode cX9_spreadOneMore 19 = .ok (.iload_n 2, 1) := by decide +kernel
theorem dX9_spreadOneMore_20 : decode cX9_spreadOneMore 20 = .ok (.iconst 0, 1) := by decide +kernel
theorem dX9_spreadOneMore_21 : decode cX9_spreadOneMore 21 = .ok (.aload_n 0, 1) := by decide +kernel
theorem dX9_spreadOneMore_22 : decode cX9_spreadOneMore 22 = .ok (.getfield 32, 3) := by decide +kernel
theorem dX9_spreadOneMore_25 : decode cX9_spreadOneMore 25 = .ok (.getfield 153, 3) := by decide +kernel
theorem dX9_spreadOneMore_28 : decode cX9_spreadOneMore 28 = .ok (.iconst 0, 1) := by decide +kernel
theorem dX9_spreadOneMore_29 : decode cX9_spreadOneMore 29 = .ok (.aload_n 0, 1) := by decide +kernel
theorem dX9_spreadOneMore_30 : decode cX9_spreadOneMore 30 = .ok (.getfield 49, 3) := by decide +kernel
theorem dX9_spreadOneMore_33 : decode cX9_spreadOneMore 33 = .ok (.invokevirtual 156, 3) := by decide +kernel
theorem dX9_spreadOneMore_36 : decode cX9_spreadOneMore 36 = .ok (.return_, 1) := by decide +kernel
theorem dX9_wouldWin_0 : decode cX9_wouldWin 0 = .ok (.aload_n 0, 1) := by decide +kernel
theorem dX9_wouldWin_1 : decode cX9_wouldWin 1 = .ok (.iload_n 2, 1) := by decide +kernel
theorem dX9_wouldWin_2 : decode cX9_wouldWin 2 = .ok (.iload_n 3, 1) := by decide +kernel
theorem dX9_wouldWin_3 : decode cX9_wouldWin 3 = .ok (.invokevirtual 322, 3) := by decide +kernel
theorem dX9_wouldWin_6 : decode cX9_wouldWin 6 = .ok (.aload_n 0, 1) := by decide +kernel
theorem dX9_wouldWin_7 : decode cX9_wouldWin 7 = .ok (.getfield 49, 3) := by decide +kernel
theorem dX9_wouldWin_10 : decode cX9_wouldWin 10 = .ok (.iload_n 1, 1) := by decide +kernel
theorem dX9_wouldWin_11 : decode cX9_wouldWin 11 = .ok (.iaload, 1) := by decide +kernel
theorem dX9_wouldWin_12 : decode cX9_wouldWin 12 = .ok (.aload_n 0, 1) := by decide +kernel
theorem dX9_wouldWin_13 : decode cX9_wouldWin 13 = .ok (.getfield 45, 3) := by decide +kernel
theorem dX9_wouldWin_16 : decode cX9_wouldWin 16 = .ok (.getfield 298, 3) := by decide +kernel
theorem dX9_wouldWin_19 : decode cX9_wouldWin 19 = .ok (.iload_n 1, 1) := by decide +kernel
theorem dX9_wouldWin_20 : decode cX9_wouldWin 20 = .ok (.iaload, 1) := by decide +kernel
theorem dX9_wouldWin_21 : decode cX9_wouldWin 21 = .ok (.if_icmp .le 7, 3) := by decide +kernel
theorem dX9_wouldWin_24 : decode cX9_wouldWin 24 = .ok (.iconst 1, 1) := by decide +kernel
theorem dX9_wouldWin_25 : decode cX9_wouldWin 25 = .ok (.goto 4, 3) := by decide +kernel
theorem dX9_wouldWin_28 : decode cX9_wouldWin 28 = .ok (.iconst 0, 1) := by decide +kernel
theorem dX9_wouldWin_29 : decode cX9_wouldWin 29 = .ok (.ireturn, 1) := by decide +kernel
theorem dX9_fewestWalls_0 : decode cX9_fewestWalls 0 = .ok (.aload_n 0, 1) := by decide +kernel
theorem dX9_fewestWalls_1 : decode cX9_fewestWalls 1 = .ok (.iload_n 1, 1) := by decide +kernel
theorem dX9_fewestWalls_2 : decode cX9_fewestWalls 2 = .ok (.invokevirtual 325, 3) := by decide +kernel
theorem dX9_fewestWalls_5 : decode cX9_fewestWalls 5 = .ok (.istore_n 3, 1) := by decide +kernel
theorem dX9_fewestWalls_6 : decode cX9_fewestWalls 6 = .ok (.iconst (-1), 1) := by decide +kernel
theorem dX9_fewestWalls_7 : decode cX9_fewestWalls 7 = .ok (.istore 4, 2) := by decide +kernel
theorem dX9_fewestWalls_9 : decode cX9_fewestWalls 9 = .ok (.iconst 0, 1) := by decide +kernel
theorem dX9_fewestWalls_10 : decode cX9_fewestWalls 10 = .ok (.istore 5, 2) := by decide +kernel
theorem dX9_fewestWalls_12 : decode cX9_fewestWalls 12 = .ok (.iload 5, 2) := by decide +kernel
theorem dX9_fewestWalls_14 : decode cX9_fewestWalls 14 = .ok (.sipush 256, 3) := by decide +kernel
theorem dX9_fewestWalls_17 : decode cX9_fewestWalls 17 = .ok (.if_icmp .ge 87, 3) := by decide +kernel
theorem dX9_fewestWalls_20 : decode cX9_fewestWalls 20 = .ok (.iload 4, 2) := by decide +kernel
theorem dX9_fewestWalls_22 : decode cX9_fewestWalls 22 = .ok (.iconst (-1), 1) := by decide +kernel
theorem dX9_fewestWalls_23 : decode cX9_fewestWalls 23 = .ok (.if_icmp .eq 16, 3) := by decide +kernel
theorem dX9_fewestWalls_26 : decode cX9_fewestWalls 26 = .ok (.iload 5, 2) := by decide +kernel
theorem dX9_fewestWalls_28 : decode cX9_fewestWalls 28 = .ok (.invokestatic 208, 3) := by decide +kernel
theorem dX9_fewestWalls_31 : decode cX9_fewestWalls 31 = .ok (.iload 4, 2) := by decide +kernel
theorem dX9_fewestWalls_33 : decode cX9_fewestWalls 33 = .ok (.invokestatic 208, 3) := by decide +kernel
theorem dX9_fewestWalls_36 : decode cX9_fewestWalls 36 = .ok (.if_icmp .ge 7, 3) := by decide +kernel
theorem dX9_fewestWalls_39 : decode cX9_fewestWalls 39 = .ok (.iconst 1, 1) := by decide +kernel
theorem dX9_fewestWalls_40 : decode cX9_fewestWalls 40 = .ok (.goto 4, 3) := by decide +kernel
theorem dX9_fewestWalls_43 : decode cX9_fewestWalls 43 = .ok (.iconst 0, 1) := by decide +kernel
theorem dX9_fewestWalls_44 : decode cX9_fewestWalls 44 = .ok (.istore 6, 2) := by decide +kernel
theorem dX9_fewestWalls_46 : decode cX9_fewestWalls 46 = .ok (.iload 5, 2) := by decide +kernel
theorem dX9_fewestWalls_48 : decode cX9_fewestWalls 48 = .ok (.iload_n 3, 1) := by decide +kernel
theorem dX9_fewestWalls_49 : decode cX9_fewestWalls 49 = .ok (.iconst (-1), 1) := by decide +kernel
theorem dX9_fewestWalls_50 : decode cX9_fewestWalls 50 = .ok (.ixor, 1) := by decide +kernel
theorem dX9_fewestWalls_51 : decode cX9_fewestWalls 51 = .ok (.iand, 1) := by decide +kernel
theorem dX9_fewestWalls_52 : decode cX9_fewestWalls 52 = .ok (.ifCond .ne 46, 3) := by decide +kernel
theorem dX9_fewestWalls_55 : decode cX9_fewestWalls 55 = .ok (.iload 6, 2) := by decide +kernel
theorem dX9_fewestWalls_57 : decode cX9_fewestWalls 57 = .ok (.ifCond .eq 41, 3) := by decide +kernel
theorem dX9_fewestWalls_60 : decode cX9_fewestWalls 60 = .ok (.aload_n 0, 1) := by decide +kernel
theorem dX9_fewestWalls_61 : decode cX9_fewestWalls 61 = .ok (.getfield 45, 3) := by decide +kernel
theorem dX9_fewestWalls_64 : decode cX9_fewestWalls 64 = .ok (.aload_n 0, 1) := by decide +kernel
theorem dX9_fewestWalls_65 : decode cX9_fewestWalls 65 = .ok (.getfield 19, 3) := by decide +kernel
theorem dX9_fewestWalls_68 : decode cX9_fewestWalls 68 = .ok (.aload_n 0, 1) := by decide +kernel
theorem dX9_fewestWalls_69 : decode cX9_fewestWalls 69 = .ok (.getfield 25, 3) := by decide +kernel
theorem dX9_fewestWalls_72 : decode cX9_fewestWalls 72 = .ok (.aload_n 0, 1) := by decide +kernel
theorem dX9_fewestWalls_73 : decode cX9_fewestWalls 73 = .ok (.getfield 32, 3) := by decide +kernel
theorem dX9_fewestWalls_76 : decode cX9_fewestWalls 76 = .ok (.iload 5, 2) := by decide +kernel
theorem dX9_fewestWalls_78 : decode cX9_fewestWalls 78 = .ok (.invokevirtual 247, 3) := by decide +kernel
theorem dX9_fewestWalls_81 : decode cX9_fewestWalls 81 = .ok (.aload_n 0, 1) := by decide +kernel
theorem dX9_fewestWalls_82 : decode cX9_fewestWalls 82 = .ok (.getfield 45, 3) := by decide +kernel
theorem dX9_fewestWalls_85 : decode cX9_fewestWalls 85 = .ok (.getfield 183, 3) := by decide +kernel
theorem dX9_fewestWalls_88 : decode cX9_fewestWalls 88 = .ok (.iload_n 1, 1) := by decide +kernel
theorem dX9_fewestWalls_89 : decode cX9_fewestWalls 89 = .ok (.iaload, 1) := by decide +kernel
theorem dX9_fewestWalls_90 : decode cX9_fewestWalls 90 = .ok (.iload_n 2, 1) := by decide +kernel
theorem dX9_fewestWalls_91 : decode cX9_fewestWalls 91 = .ok (.if_icmp .eq 7, 3) := by decide +kernel
theorem dX9_fewestWalls_94 : decode cX9_fewestWalls 94 = .ok (.iload 5, 2) := by decide +kernel
theorem dX9_fewestWalls_96 : decode cX9_fewestWalls 96 = .ok (.istore 4, 2) := by decide +kernel
theorem dX9_fewestWalls_98 : decode cX9_fewestWalls 98 = .ok (.iinc 5 1, 3) := by decide +kernel
theorem dX9_fewestWalls_101 : decode cX9_fewestWalls 101 = .ok (.goto (-89), 3) := by decide +kernel
theorem dX9_fewestWalls_104 : decode cX9_fewestWalls 104 = .ok (.iload 4, 2) := by decide +kernel
theorem dX9_fewestWalls_106 : decode cX9_fewestWalls 106 = .ok (.ireturn, 1) := by decide +kernel
theorem dX9_cellsFreeForWalls_0 : decode cX9_cellsFreeForWalls 0 = .ok (.iconst 0, 1) := by decide +kernel
theorem dX9_cellsFreeForWalls_1 : decode cX9_cellsFreeForWalls 1 = .ok (.istore_n 2, 1) := by decide +kernel
theorem dX9_cellsFreeForWalls_2 : decode cX9_cellsFreeForWalls 2 = .ok (.iconst 0, 1) := by decide +kernel
theorem dX9_cellsFreeForWalls_3 : decode cX9_cellsFreeForWalls 3 = .ok (.istore_n 3, 1) := by decide +kernel
theorem dX9_cellsFreeForWalls_4 : decode cX9_cellsFreeForWalls 4 = .ok (.iload_n 3, 1) := by decide +kernel
theorem dX9_cellsFreeForWalls_5 : decode cX9_cellsFreeForWalls 5 = .ok (.bipush 8, 2) := by decide +kernel
theorem dX9_cellsFreeForWalls_7 : decode cX9_cellsFreeForWalls 7 = .ok (.if_icmp .ge 31, 3) := by decide +kernel
theorem dX9_cellsFreeForWalls_10 : decode cX9_cellsFreeForWalls 10 = .ok (.iload_n 3, 1) := by decide +kernel
theorem dX9_cellsFreeForWalls_11 : decode cX9_cellsFreeForWalls 11 = .ok (.iload_n 1, 1) := by decide +kernel
theorem dX9_cellsFreeForWalls_12 : decode cX9_cellsFreeForWalls 12 = .ok (.if_icmp .eq 20, 3) := by decide +kernel
theorem dX9_cellsFreeForWalls_15 : decode cX9_cellsFreeForWalls 15 = .ok (.aload_n 0, 1) := by decide +kernel
theorem dX9_cellsFreeForWalls_16 : decode cX9_cellsFreeForWalls 16 = .ok (.getfield 19, 3) := by decide +kernel
theorem dX9_cellsFreeForWalls_19 : decode cX9_cellsFreeForWalls 19 = .ok (.iload_n 3, 1) := by decide +kernel
theorem dX9_cellsFreeForWalls_20 : decode cX9_cellsFreeForWalls 20 = .ok (.invokevirtual 177, 3) := by decide +kernel
theorem dX9_cellsFreeForWalls_23 : decode cX9_cellsFreeForWalls 23 = .ok (.ifCond .ne 9, 3) := by decide +kernel
theorem dX9_cellsFreeForWalls_26 : decode cX9_cellsFreeForWalls 26 = .ok (.iload_n 2, 1) := by decide +kernel
theorem dX9_cellsFreeForWalls_27 : decode cX9_cellsFreeForWalls 27 = .ok (.iconst 1, 1) := by decide +kernel
theorem dX9_cellsFreeForWalls_28 : decode cX9_cellsFreeForWalls 28 = .ok (.iload_n 3, 1) := by decide +kernel
theorem dX9_cellsFreeForWalls_29 : decode cX9_cellsFreeForWalls 29 = .ok (.ishl, 1) := by decide +kernel
theorem dX9_cellsFreeForWalls_30 : decode cX9_cellsFreeForWalls 30 = .ok (.ior, 1) := by decide +kernel
theorem dX9_cellsFreeForWalls_31 : decode cX9_cellsFreeForWalls 31 = .ok (.istore_n 2, 1) := by decide +kernel
theorem dX9_cellsFreeForWalls_32 : decode cX9_cellsFreeForWalls 32 = .ok (.iinc 3 1, 3) := by decide +kernel
theorem dX9_cellsFreeForWalls_35 : decode cX9_cellsFreeForWalls 35 = .ok (.goto (-31), 3) := by decide +kernel
theorem dX9_cellsFreeForWalls_38 : decode cX9_cellsFreeForWalls 38 = .ok (.iconst 0, 1) := by decide +kernel
theorem dX9_cellsFreeForWalls_39 : decode cX9_cellsFreeForWalls 39 = .ok (.istore_n 3, 1) := by decide +kernel
theorem dX9_cellsFreeForWalls_40 : decode cX9_cellsFreeForWalls 40 = .ok (.iload_n 3, 1) := by decide +kernel
theorem dX9_cellsFreeForWalls_41 : decode cX9_cellsFreeForWalls 41 = .ok (.aload_n 0, 1) := by decide +kernel
theorem dX9_cellsFreeForWalls_42 : decode cX9_cellsFreeForWalls 42 = .ok (.getfield 32, 3) := by decide +kernel
theorem dX9_cellsFreeForWalls_45 : decode cX9_cellsFreeForWalls 45 = .ok (.getfield 119, 3) := by decide +kernel
theorem dX9_cellsFreeForWalls_48 : decode cX9_cellsFreeForWalls 48 = .ok (.if_icmp .ge 33, 3) := by decide +kernel
theorem dX9_cellsFreeForWalls_51 : decode cX9_cellsFreeForWalls 51 = .ok (.aload_n 0, 1) := by decide +kernel
theorem dX9_cellsFreeForWalls_52 : decode cX9_cellsFreeForWalls 52 = .ok (.iload_n 3, 1) := by decide +kernel
theorem dX9_cellsFreeForWalls_53 : decode cX9_cellsFreeForWalls 53 = .ok (.invokevirtual 128, 3) := by decide +kernel
theorem dX9_cellsFreeForWalls_56 : decode cX9_cellsFreeForWalls 56 = .ok (.astore 4, 2) := by decide +kernel
theorem dX9_cellsFreeForWalls_58 : decode cX9_cellsFreeForWalls 58 = .ok (.aload 4, 2) := by decide +kernel
theorem dX9_cellsFreeForWalls_60 : decode cX9_cellsFreeForWalls 60 = .ok (.ifnull 15, 3) := by decide +kernel
theorem dX9_cellsFreeForWalls_63 : decode cX9_cellsFreeForWalls 63 = .ok (.iload_n 2, 1) := by decide +kernel
theorem dX9_cellsFreeForWalls_64 : decode cX9_cellsFreeForWalls 64 = .ok (.iconst 1, 1) := by decide +kernel
theorem dX9_cellsFreeForWalls_65 : decode cX9_cellsFreeForWalls 65 = .ok (.aload 4, 2) := by decide +kernel
theorem dX9_cellsFreeForWalls_67 : decode cX9_cellsFreeForWalls 67 = .ok (.getfield 140, 3) := by decide +kernel
theorem dX9_cellsFreeForWalls_70 : decode cX9_cellsFreeForWalls 70 = .ok (.ishl, 1) := by decide +kernel
theorem dX9_cellsFreeForWalls_71 : decode cX9_cellsFreeForWalls 71 = .ok (.iconst (-1), 1) := by decide +kernel
theorem dX9_cellsFreeForWalls_72 : decode cX9_cellsFreeForWalls 72 = .ok (.ixor, 1) := by decide +kernel
theorem dX9_cellsFreeForWalls_73 : decode cX9_cellsFreeForWalls 73 = .ok (.iand, 1) := by decide +kernel
theorem dX9_cellsFreeForWalls_74 : decode cX9_cellsFreeForWalls 74 = .ok (.istore_n 2, 1) := by decide +kernel
theorem dX9_cellsFreeForWalls_75 : decode cX9_cellsFreeForWalls 75 = .ok (.iinc 3 1, 3) := by decide +kernel
theorem dX9_cellsFreeForWalls_78 : decode cX9_cellsFreeForWalls 78 = .ok (.goto (-38), 3) := by decide +kernel
theorem dX9_cellsFreeForWalls_81 : decode cX9_cellsFreeForWalls 81 = .ok (.iload_n 2, 1) := by decide +kernel
theorem dX9_cellsFreeForWalls_82 : decode cX9_cellsFreeForWalls 82 = .ok (.ireturn, 1) := by decide +kernel
theorem dX9_watchHolders_0 : decode cX9_watchHolders 0 = .ok (.aload_n 0, 1) := by decide +kernel
theorem dX9_watchHolders_1 : decode cX9_watchHolders 1 = .ok (.getfield 39, 3) := by decide +kernel
theorem dX9_watchHolders_4 : decode cX9_watchHolders 4 = .ok (.aload_n 0, 1) := by decide +kernel
theorem dX9_watchHolders_5 : decode cX9_watchHolders 5 = .ok (.getfield 32, 3) := by decide +kernel
theorem dX9_watchHolders_8 : decode cX9_watchHolders 8 = .ok (.invokevirtual 85, 3) := by decide +kernel
theorem dX9_watchHolders_11 : decode cX9_watchHolders 11 = .ok (.iconst 0, 1) := by decide +kernel
theorem dX9_watchHolders_12 : decode cX9_watchHolders 12 = .ok (.istore_n 1, 1) := by decide +kernel
theorem dX9_watchHolders_13 : decode cX9_watchHolders 13 = .ok (.iload_n 1, 1) := by decide +kernel
theorem dX9_watchHolders_14 : decode cX9_watchHolders 14 = .ok (.bipush 24, 2) := by decide +kernel
theorem dX9_watchHolders_16 : decode cX9_watchHolders 16 = .ok (.if_icmp .ge 124, 3) := by decide +kernel
theorem dX9_watchHolders_19 : decode cX9_watchHolders 19 = .ok (.aload_n 0, 1) := by decide +kernel
theorem dX9_watchHolders_20 : decode cX9_watchHolders 20 = .ok (.getfield 45, 3) := by decide +kernel
theorem dX9_watchHolders_23 : decode cX9_watchHolders 23 = .ok (.aload_n 0, 1) := by decide +kernel
theorem dX9_watchHolders_24 : decode cX9_watchHolders 24 = .ok (.getfield 19, 3) := by decide +kernel
theorem dX9_watchHolders_27 : decode cX9_watchHolders 27 = .ok (.aload_n 0, 1) := by decide +kernel
theorem dX9_watchHolders_28 : decode cX9_watchHolders 28 = .ok (.getfield 25, 3) := by decide +kernel
theorem dX9_watchHolders_31 : decode cX9_watchHolders 31 = .ok (.aload_n 0, 1) := by decide +kernel
theorem dX9_watchHolders_32 : decode cX9_watchHolders 32 = .ok (.getfield 39, 3) := by decide +kernel
theorem dX9_watchHolders_35 : decode cX9_watchHolders 35 = .ok (.iconst 0, 1) := by decide +kernel
theorem dX9_watchHolders_36 : decode cX9_watchHolders 36 = .ok (.invokevirtual 247, 3) := by decide +kernel
theorem dX9_watchHolders_39 : decode cX9_watchHolders 39 = .ok (.iconst 0, 1) := by decide +kernel
theorem dX9_watchHolders_40 : decode cX9_watchHolders 40 = .ok (.istore_n 2, 1) := by decide +kernel
theorem dX9_watchHolders_41 : decode cX9_watchHolders 41 = .ok (.iload_n 2, 1) := by decide +kernel
theorem dX9_watchHolders_42 : decode cX9_watchHolders 42 = .ok (.bipush 8, 2) := by decide +kernel
theorem dX9_watchHolders_44 : decode cX9_watchHolders 44 = .ok (.if_icmp .ge 83, 3) := by decide +kernel
theorem dX9_watchHolders_47 : decode cX9_watchHolders 47 = .ok (.iload_n 1, 1) := by decide +kernel
theorem dX9_watchHolders_48 : decode cX9_watchHolders 48 = .ok (.ifCond .ne 25, 3) := by decide +kernel
theorem dX9_watchHolders_51 : decode cX9_watchHolders 51 = .ok (.aload_n 0, 1) := by decide +kernel
theorem dX9_watchHolders_52 : decode cX9_watchHolders 52 = .ok (.getfield 53, 3) := by decide +kernel
theorem dX9_watchHolders_55 : decode cX9_watchHolders 55 = .ok (.iload_n 2, 1) := by decide +kernel
theorem dX9_watchHolders_56 : decode cX9_watchHolders 56 = .ok (.aload_n 0, 1) := by decide +kernel
theorem dX9_watchHolders_57 : decode cX9_watchHolders 57 = .ok (.getfield 45, 3) := by decide +kernel
theorem dX9_watchHolders_60 : decode cX9_watchHolders 60 = .ok (.getfield 183, 3) := by decide +kernel
theorem dX9_watchHolders_63 : decode cX9_watchHolders 63 = .ok (.iload_n 2, 1) := by decide +kernel
theorem dX9_watchHolders_64 : decode cX9_watchHolders 64 = .ok (.iaload, 1) := by decide +kernel
theorem dX9_watchHolders_65 : decode cX9_watchHolders 65 = .ok (.iastore, 1) := by decide +kernel
theorem dX9_watchHolders_66 : decode cX9_watchHolders 66 = .ok (.aload_n 0, 1) := by decide +kernel
theorem dX9_watchHolders_67 : decode cX9_watchHolders 67 = .ok (.getfield 56, 3) := by decide +kernel
theorem dX9_watchHolders_70 : decode cX9_watchHolders 70 = .ok (.iload_n 2, 1) := by decide +kernel
theorem dX9_watchHolders_71 : decode cX9_watchHolders 71 = .ok (.iconst 0, 1) := by decide +kernel
theorem dX9_watchHolders_72 : decode cX9_watchHolders 72 = .ok (.iastore, 1) := by decide +kernel
theorem dX9_watchHolders_73 : decode cX9_watchHolders 73 = .ok (.aload_n 0, 1) := by decide +kernel
theorem dX9_watchHolders_74 : decode cX9_watchHolders 74 = .ok (.getfield 56, 3) := by decide +kernel
theorem dX9_watchHolders_77 : decode cX9_watchHolders 77 = .ok (.iload_n 2, 1) := by decide +kernel
theorem dX9_watchHolders_78 : decode cX9_watchHolders 78 = .ok (.iaload, 1) := by decide +kernel
theorem dX9_watchHolders_79 : decode cX9_watchHolders 79 = .ok (.iload_n 1, 1) := by decide +kernel
theorem dX9_watchHolders_80 : decode cX9_watchHolders 80 = .ok (.if_icmp .ne 7, 3) := by decide +kernel
theorem dX9_watchHolders_83 : decode cX9_watchHolders 83 = .ok (.iconst 1, 1) := by decide +kernel
theorem dX9_watchHolders_84 : decode cX9_watchHolders 84 = .ok (.goto 4, 3) := by decide +kernel
theorem dX9_watchHolders_87 : decode cX9_watchHolders 87 = .ok (.iconst 0, 1) := by decide +kernel
theorem dX9_watchHolders_88 : decode cX9_watchHolders 88 = .ok (.istore_n 3, 1) := by decide +kernel
theorem dX9_watchHolders_89 : decode cX9_watchHolders 89 = .ok (.iload_n 3, 1) := by decide +kernel
theorem dX9_watchHolders_90 : decode cX9_watchHolders 90 = .ok (.ifCond .eq 31, 3) := by decide +kernel
theorem dX9_watchHolders_93 : decode cX9_watchHolders 93 = .ok (.aload_n 0, 1) := by decide +kernel
theorem dX9_watchHolders_94 : decode cX9_watchHolders 94 = .ok (.getfield 45, 3) := by decide +kernel
theorem dX9_watchHolders_97 : decode cX9_watchHolders 97 = .ok (.getfield 183, 3) := by decide +kernel
theorem dX9_watchHolders_100 : decode cX9_watchHolders 100 = .ok (.iload_n 2, 1) := by decide +kernel
theorem dX9_watchHolders_101 : decode cX9_watchHolders 101 = .ok (.iaload, 1) := by decide +kernel
theorem dX9_watchHolders_102 : decode cX9_watchHolders 102 = .ok (.aload_n 0, 1) := by decide +kernel
theorem dX9_watchHolders_103 : decode cX9_watchHolders 103 = .ok (.getfield 53, 3) := by decide +kernel
theorem dX9_watchHolders_106 : decode cX9_watchHolders 106 = .ok (.iload_n 2, 1) := by decide +kernel
theorem dX9_watchHolders_107 : decode cX9_watchHolders 107 = .ok (.iaload, 1) := by decide +kernel
theorem dX9_watchHolders_108 : decode cX9_watchHolders 108 = .ok (.if_icmp .ne 13, 3) := by decide +kernel
theorem dX9_watchHolders_111 : decode cX9_watchHolders 111 = .ok (.aload_n 0, 1) := by decide +kernel
theorem dX9_watchHolders_112 : decode cX9_watchHolders 112 = .ok (.getfield 56, 3) := by decide +kernel
theorem dX9_watchHolders_115 : decode cX9_watchHolders 115 = .ok (.iload_n 2, 1) := by decide +kernel
theorem dX9_watchHolders_116 : decode cX9_watchHolders 116 = .ok (.dup2, 1) := by decide +kernel
theorem dX9_watchHolders_117 : decode cX9_watchHolders 117 = .ok (.iaload, 1) := by decide +kernel
theorem dX9_watchHolders_118 : decode cX9_watchHolders 118 = .ok (.iconst 1, 1) := by decide +kernel
theorem dX9_watchHolders_119 : decode cX9_watchHolders 119 = .ok (.iadd, 1) := by decide +kernel
theorem dX9_watchHolders_120 : decode cX9_watchHolders 120 = .ok (.iastore, 1) := by decide +kernel
theorem dX9_watchHolders_121 : decode cX9_watchHolders 121 = .ok (.iinc 2 1, 3) := by decide +kernel
theorem dX9_watchHolders_124 : decode cX9_watchHolders 124 = .ok (.goto (-83), 3) := by decide +kernel
theorem dX9_watchHolders_127 : decode cX9_watchHolders 127 = .ok (.aload_n 0, 1) := by decide +kernel
theorem dX9_watchHolders_128 : decode cX9_watchHolders 128 = .ok (.getfield 39, 3) := by decide +kernel
theorem dX9_watchHolders_131 : decode cX9_watchHolders 131 = .ok (.invokevirtual 189, 3) := by decide +kernel
theorem dX9_watchHolders_134 : decode cX9_watchHolders 134 = .ok (.iinc 1 1, 3) := by decide +kernel
theorem dX9_watchHolders_137 : decode cX9_watchHolders 137 = .ok (.goto (-124), 3) := by decide +kernel
theorem dX9_watchHolders_140 : decode cX9_watchHolders 140 = .ok (.return_, 1) := by decide +kernel
theorem dX9_heldBy_0 : decode cX9_heldBy 0 = .ok (.aload_n 0, 1) := by decide +kernel
theorem dX9_heldBy_1 : decode cX9_heldBy 1 = .ok (.getfield 53, 3) := by decide +kernel
theorem dX9_heldBy_4 : decode cX9_heldBy 4 = .ok (.iload_n 1, 1) := by decide +kernel
theorem dX9_heldBy_5 : decode cX9_heldBy 5 = .ok (.iaload, 1) := by decide +kernel
theorem dX9_heldBy_6 : decode cX9_heldBy 6 = .ok (.iload_n 2, 1) := by decide +kernel
theorem dX9_heldBy_7 : decode cX9_heldBy 7 = .ok (.if_icmp .ne 12, 3) := by decide +kernel
theorem dX9_heldBy_10 : decode cX9_heldBy 10 = .ok (.aload_n 0, 1) := by decide +kernel
theorem dX9_heldBy_11 : decode cX9_heldBy 11 = .ok (.getfield 56, 3) := by decide +kernel
theorem dX9_heldBy_14 : decode cX9_heldBy 14 = .ok (.iload_n 1, 1) := by decide +kernel
theorem dX9_heldBy_15 : decode cX9_heldBy 15 = .ok (.iaload, 1) := by decide +kernel
theorem dX9_heldBy_16 : decode cX9_heldBy 16 = .ok (.goto 4, 3) := by decide +kernel
theorem dX9_heldBy_19 : decode cX9_heldBy 19 = .ok (.iconst 0, 1) := by decide +kernel
theorem dX9_heldBy_20 : decode cX9_heldBy 20 = .ok (.ireturn, 1) := by decide +kernel
theorem dX9_fitsNoses_0 : decode cX9_fitsNoses 0 = .ok (.iload_n 1, 1) := by decide +kernel
theorem dX9_fitsNoses_1 : decode cX9_fitsNoses 1 = .ok (.bipush 27, 2) := by decide +kernel
theorem dX9_fitsNoses_3 : decode cX9_fitsNoses 3 = .ok (.idiv, 1) := by decide +kernel
theorem dX9_fitsNoses_4 : decode cX9_fitsNoses 4 = .ok (.istore_n 2, 1) := by decide +kernel
theorem dX9_fitsNoses_5 : decode cX9_fitsNoses 5 = .ok (.aload_n 0, 1) := by decide +kernel
theorem dX9_fitsNoses_6 : decode cX9_fitsNoses 6 = .ok (.getfield 19, 3) := by decide +kernel
theorem dX9_fitsNoses_9 : decode cX9_fitsNoses 9 = .ok (.iload_n 2, 1) := by decide +kernel
theorem dX9_fitsNoses_10 : decode cX9_fitsNoses 10 = .ok (.invokevirtual 116, 3) := by decide +kernel
theorem dX9_fitsNoses_13 : decode cX9_fitsNoses 13 = .ok (.ifCond .ne 5, 3) := by decide +kernel
theorem dX9_fitsNoses_16 : decode cX9_fitsNoses 16 = .ok (.iconst 0, 1) := by decide +kernel
theorem dX9_fitsNoses_17 : decode cX9_fitsNoses 17 = .ok (.ireturn, 1) := by decide +kernel
theorem dX9_fitsNoses_18 : decode cX9_fitsNoses 18 = .ok (.aload_n 0, 1) := by decide +kernel
theorem dX9_fitsNoses_19 : decode cX9_fitsNoses 19 = .ok (.iload_n 2, 1) := by decide +kernel
theorem dX9_fitsNoses_20 : decode cX9_fitsNoses 20 = .ok (.iload_n 1, 1) := by decide +kernel
theorem dX9_fitsNoses_21 : decode cX9_fitsNoses 21 = .ok (.bipush 9, 2) := by decide +kernel
theorem dX9_fitsNoses_23 : decode cX9_fitsNoses 23 = .ok (.irem, 1) := by decide +kernel
theorem dX9_fitsNoses_24 : decode cX9_fitsNoses 24 = .ok (.iconst 1, 1) := by decide +kernel
theorem dX9_fitsNoses_25 : decode cX9_fitsNoses 25 = .ok (.iadd, 1) := by decide +kernel
theorem dX9_fitsNoses_26 : decode cX9_fitsNoses 26 = .ok (.invokevirtual 322, 3) := by decide +kernel
theorem dX9_fitsNoses_29 : decode cX9_fitsNoses 29 = .ok (.iload_n 1, 1) := by decide +kernel
theorem dX9_fitsNoses_30 : decode cX9_fitsNoses 30 = .ok (.invokestatic 328, 3) := by decide +kernel
theorem dX9_fitsNoses_33 : decode cX9_fitsNoses 33 = .ok (.istore_n 3, 1) := by decide +kernel
theorem dX9_fitsNoses_34 : decode cX9_fitsNoses 34 = .ok (.iconst 0, 1) := by decide +kernel
theorem dX9_fitsNoses_35 : decode cX9_fitsNoses 35 = .ok (.istore 4, 2) := by decide +kernel
theorem dX9_fitsNoses_37 : decode cX9_fitsNoses 37 = .ok (.iload 4, 2) := by decide +kernel
theorem dX9_fitsNoses_39 : decode cX9_fitsNoses 39 = .ok (.aload_n 0, 1) := by decide +kernel
theorem dX9_fitsNoses_40 : decode cX9_fitsNoses 40 = .ok (.getfield 32, 3) := by decide +kernel
theorem dX9_fitsNoses_43 : decode cX9_fitsNoses 43 = .ok (.getfield 219, 3) := by decide +kernel
theorem dX9_fitsNoses_46 : decode cX9_fitsNoses 46 = .ok (.if_icmp .ge 39, 3) := by decide +kernel
theorem dX9_fitsNoses_49 : decode cX9_fitsNoses 49 = .ok (.aload_n 0, 1) := by decide +kernel
theorem dX9_fitsNoses_50 : decode cX9_fitsNoses 50 = .ok (.aload_n 0, 1) := by decide +kernel
theorem dX9_fitsNoses_51 : decode cX9_fitsNoses 51 = .ok (.getfield 32, 3) := by decide +kernel
theorem dX9_fitsNoses_54 : decode cX9_fitsNoses 54 = .ok (.getfield 331, 3) := by decide +kernel
theorem dX9_fitsNoses_57 : decode cX9_fitsNoses 57 = .ok (.iload 4, 2) := by decide +kernel
theorem dX9_fitsNoses_59 : decode cX9_fitsNoses 59 = .ok (.iaload, 1) := by decide +kernel
theorem dX9_fitsNoses_60 : decode cX9_fitsNoses 60 = .ok (.iload_n 3, 1) := by decide +kernel
theorem dX9_fitsNoses_61 : decode cX9_fitsNoses 61 = .ok (.invokevirtual 334, 3) := by decide +kernel
theorem dX9_fitsNoses_64 : decode cX9_fitsNoses 64 = .ok (.aload_n 0, 1) := by decide +kernel
theorem dX9_fitsNoses_65 : decode cX9_fitsNoses 65 = .ok (.getfield 32, 3) := by decide +kernel
theorem dX9_fitsNoses_68 : decode cX9_fitsNoses 68 = .ok (.getfield 337, 3) := by decide +kernel
theorem dX9_fitsNoses_71 : decode cX9_fitsNoses 71 = .ok (.iload 4, 2) := by decide +kernel
theorem dX9_fitsNoses_73 : decode cX9_fitsNoses 73 = .ok (.iaload, 1) := by decide +kernel
theorem dX9_fitsNoses_74 : decode cX9_fitsNoses 74 = .ok (.if_icmp .eq 5, 3) := by decide +kernel
theorem dX9_fitsNoses_77 : decode cX9_fitsNoses 77 = .ok (.iconst 0, 1) := by decide +kernel
theorem dX9_fitsNoses_78 : decode cX9_fitsNoses 78 = .ok (.ireturn, 1) := by decide +kernel
theorem dX9_fitsNoses_79 : decode cX9_fitsNoses 79 = .ok (.iinc 4 1, 3) := by decide +kernel
theorem dX9_fitsNoses_82 : decode cX9_fitsNoses 82 = .ok (.goto (-45), 3) := by decide +kernel
theorem dX9_fitsNoses_85 : decode cX9_fitsNoses 85 = .ok (.iconst 1, 1) := by decide +kernel
theorem dX9_fitsNoses_86 : decode cX9_fitsNoses 86 = .ok (.ireturn, 1) := by decide +kernel
theorem dX9_parishOf_0 : decode cX9_parishOf 0 = .ok (.iload_n 0, 1) := by decide +kernel
theorem dX9_parishOf_1 : decode cX9_parishOf 1 = .ok (.bipush 9, 2) := by decide +kernel
theorem dX9_parishOf_3 : decode cX9_parishOf 3 = .ok (.idiv, 1) := by decide +kernel
theorem dX9_parishOf_4 : decode cX9_parishOf 4 = .ok (.iconst 3, 1) := by decide +kernel
theorem dX9_parishOf_5 : decode cX9_parishOf 5 = .ok (.irem, 1) := by decide +kernel
theorem dX9_parishOf_6 : decode cX9_parishOf 6 = .ok (.ireturn, 1) := by decide +kernel
theorem dX9_whoseWith_0 : decode cX9_whoseWith 0 = .ok (.aload_n 0, 1) := by decide +kernel
theorem dX9_whoseWith_1 : decode cX9_whoseWith 1 = .ok (.getfield 49, 3) := by decide +kernel
theorem dX9_whoseWith_4 : decode cX9_whoseWith 4 = .ok (.iload_n 1, 1) := by decide +kernel
theorem dX9_whoseWith_5 : decode cX9_whoseWith 5 = .ok (.iaload, 1) := by decide +kernel
theorem dX9_whoseWith_6 : decode cX9_whoseWith 6 = .ok (.aload_n 0, 1) := by decide +kernel
theorem dX9_whoseWith_7 : decode cX9_whoseWith 7 = .ok (.getfield 45, 3) := by decide +kernel
theorem dX9_whoseWith_10 : decode cX9_whoseWith 10 = .ok (.getfield 298, 3) := by decide +kernel
theorem dX9_whoseWith_13 : decode cX9_whoseWith 13 = .ok (.iload_n 1, 1) := by decide +kernel
theorem dX9_whoseWith_14 : decode cX9_whoseWith 14 = .ok (.iaload, 1) := by decide +kernel
theorem dX9_whoseWith_15 : decode cX9_whoseWith 15 = .ok (.if_icmp .le 7, 3) := by decide +kernel
theorem dX9_whoseWith_18 : decode cX9_whoseWith 18 = .ok (.iload_n 2, 1) := by decide +kernel
theorem dX9_whoseWith_19 : decode cX9_whoseWith 19 = .ok (.goto 12, 3) := by decide +kernel
theorem dX9_whoseWith_22 : decode cX9_whoseWith 22 = .ok (.aload_n 0, 1) := by decide +kernel
theorem dX9_whoseWith_23 : decode cX9_whoseWith 23 = .ok (.getfield 45, 3) := by decide +kernel
theorem dX9_whoseWith_26 : decode cX9_whoseWith 26 = .ok (.getfield 183, 3) := by decide +kernel
theorem dX9_whoseWith_29 : decode cX9_whoseWith 29 = .ok (.iload_n 1, 1) := by decide +kernel
theorem dX9_whoseWith_30 : decode cX9_whoseWith 30 = .ok (.iaload, 1) := by decide +kernel
theorem dX9_whoseWith_31 : decode cX9_whoseWith 31 = .ok (.ireturn, 1) := by decide +kernel
theorem dX9_tallyFindings_0 : decode cX9_tallyFindings 0 = .ok (.iconst 0, 1) := by decide +kernel
theorem dX9_tallyFindings_1 : decode cX9_tallyFindings 1 = .ok (.istore_n 1, 1) := by decide +kernel
theorem dX9_tallyFindings_2 : decode cX9_tallyFindings 2 = .ok (.iload_n 1, 1) := by decide +kernel
theorem dX9_tallyFindings_3 : decode cX9_tallyFindings 3 = .ok (.aload_n 0, 1) := by decide +kernel
theorem dX9_tallyFindings_4 : decode cX9_tallyFindings 4 = .ok (.getfield 59, 3) := by decide +kernel
theorem dX9_tallyFindings_7 : decode cX9_tallyFindings 7 = .ok (.arraylength, 1) := by decide +kernel
theorem dX9_tallyFindings_8 : decode cX9_tallyFindings 8 = .ok (.if_icmp .ge 16, 3) := by decide +kernel
theorem dX9_tallyFindings_11 : decode cX9_tallyFindings 11 = .ok (.aload_n 0, 1) := by decide +kernel
theorem dX9_tallyFindings_12 : decode cX9_tallyFindings 12 = .ok (.getfield 59, 3) := by decide +kernel
theorem dX9_tallyFindings_15 : decode cX9_tallyFindings 15 = .ok (.iload_n 1, 1) := by decide +kernel
theorem dX9_tallyFindings_16 : decode cX9_tallyFindings 16 = .ok (.iconst 0, 1) := by decide +kernel
theorem dX9_tallyFindings_17 : decode cX9_tallyFindings 17 = .ok (.iastore, 1) := by decide +kernel
theorem dX9_tallyFindings_18 : decode cX9_tallyFindings 18 = .ok (.iinc 1 1, 3) := by decide +kernel
theorem dX9_tallyFindings_21 : decode cX9_tallyFindings 21 = .ok (.goto (-19), 3) := by decide +kernel
theorem dX9_tallyFindings_24 : decode cX9_tallyFindings 24 = .ok (.iconst 0, 1) := by decide +kernel
theorem dX9_tallyFindings_25 : decode cX9_tallyFindings 25 = .ok (.istore_n 1, 1) := by decide +kernel
theorem dX9_tallyFindings_26 : decode cX9_tallyFindings 26 = .ok (.iconst 0, 1) := by decide +kernel
theorem dX9_tallyFindings_27 : decode cX9_tallyFindings 27 = .ok (.istore_n 2, 1) := by decide +kernel
theorem dX9_tallyFindings_28 : decode cX9_tallyFindings 28 = .ok (.iload_n 2, 1) := by decide +kernel
theorem dX9_tallyFindings_29 : decode cX9_tallyFindings 29 = .ok (.sipush 216, 3) := by decide +kernel
theorem dX9_tallyFindings_32 : decode cX9_tallyFindings 32 = .ok (.if_icmp .ge 62, 3) := by decide +kernel
theorem dX9_tallyFindings_35 : decode cX9_tallyFindings 35 = .ok (.aload_n 0, 1) := by decide +kernel
theorem dX9_tallyFindings_36 : decode cX9_tallyFindings 36 = .ok (.iload_n 2, 1) := by decide +kernel
theorem dX9_tallyFindings_37 : decode cX9_tallyFindings 37 = .ok (.invokevirtual 232, 3) := by decide +kernel
theorem dX9_tallyFindings_40 : decode cX9_tallyFindings 40 = .ok (.ifCond .eq 48, 3) := by decide +kernel
theorem dX9_tallyFindings_43 : decode cX9_tallyFindings 43 = .ok (.iinc 1 1, 3) := by decide +kernel
theorem dX9_tallyFindings_46 : decode cX9_tallyFindings 46 = .ok (.iconst 0, 1) := by decide +kernel
theorem dX9_tallyFindings_47 : decode cX9_tallyFindings 47 = .ok (.istore_n 3, 1) := by decide +kernel
theorem dX9_tallyFindings_48 : decode cX9_tallyFindings 48 = .ok (.iload_n 3, 1) := by decide +kernel
theorem dX9_tallyFindings_49 : decode cX9_tallyFindings 49 = .ok (.bipush 8, 2) := by decide +kernel
theorem dX9_tallyFindings_51 : decode cX9_tallyFindings 51 = .ok (.if_icmp .ge 37, 3) := by decide +kernel
theorem dX9_tallyFindings_54 : decode cX9_tallyFindings 54 = .ok (.aload_n 0, 1) := by decide +kernel
theorem dX9_tallyFindings_55 : decode cX9_tallyFindings 55 = .ok (.iload_n 3, 1) := by decide +kernel
theorem dX9_tallyFindings_56 : decode cX9_tallyFindings 56 = .ok (.iload_n 2, 1) := by decide +kernel
theorem dX9_tallyFindings_57 : decode cX9_tallyFindings 57 = .ok (.invokestatic 328, 3) := by decide +kernel
theorem dX9_tallyFindings_60 : decode cX9_tallyFindings 60 = .ok (.invokevirtual 334, 3) := by decide +kernel
theorem dX9_tallyFindings_63 : decode cX9_tallyFindings 63 = .ok (.istore 4, 2) := by decide +kernel
theorem dX9_tallyFindings_65 : decode cX9_tallyFindings 65 = .ok (.aload_n 0, 1) := by decide +kernel
theorem dX9_tallyFindings_66 : decode cX9_tallyFindings 66 = .ok (.getfield 59, 3) := by decide +kernel
theorem dX9_tallyFindings_69 : decode cX9_tallyFindings 69 = .ok (.iload_n 3, 1) := by decide +kernel
theorem dX9_tallyFindings_70 : decode cX9_tallyFindings 70 = .ok (.iconst 4, 1) := by decide +kernel
theorem dX9_tallyFindings_71 : decode cX9_tallyFindings 71 = .ok (.imul, 1) := by decide +kernel
theorem dX9_tallyFindings_72 : decode cX9_tallyFindings 72 = .ok (.iload 4, 2) := by decide +kernel
theorem dX9_tallyFindings_74 : decode cX9_tallyFindings 74 = .ok (.iadd, 1) := by decide +kernel
theorem dX9_tallyFindings_75 : decode cX9_tallyFindings 75 = .ok (.iconst 1, 1) := by decide +kernel
theorem dX9_tallyFindings_76 : decode cX9_tallyFindings 76 = .ok (.iadd, 1) := by decide +kernel
theorem dX9_tallyFindings_77 : decode cX9_tallyFindings 77 = .ok (.dup2, 1) := by decide +kernel
theorem dX9_tallyFindings_78 : decode cX9_tallyFindings 78 = .ok (.iaload, 1) := by decide +kernel
theorem dX9_tallyFindings_79 : decode cX9_tallyFindings 79 = .ok (.iconst 1, 1) := by decide +kernel
theorem dX9_tallyFindings_80 : decode cX9_tallyFindings 80 = .ok (.iadd, 1) := by decide +kernel
theorem dX9_tallyFindings_81 : decode cX9_tallyFindings 81 = .ok (.iastore, 1) := by decide +kernel
theorem dX9_tallyFindings_82 : decode cX9_tallyFindings 82 = .ok (.iinc 3 1, 3) := by decide +kernel
theorem dX9_tallyFindings_85 : decode cX9_tallyFindings 85 = .ok (.goto (-37), 3) := by decide +kernel
theorem dX9_tallyFindings_88 : decode cX9_tallyFindings 88 = .ok (.iinc 2 1, 3) := by decide +kernel
theorem dX9_tallyFindings_91 : decode cX9_tallyFindings 91 = .ok (.goto (-63), 3) := by decide +kernel
theorem dX9_tallyFindings_94 : decode cX9_tallyFindings 94 = .ok (.iload_n 1, 1) := by decide +kernel
theorem dX9_tallyFindings_95 : decode cX9_tallyFindings 95 = .ok (.ireturn, 1) := by decide +kernel
theorem dX9_cellOfFewestLeft_0 : decode cX9_cellOfFewestLeft 0 = .ok (.iconst (-1), 1) := by decide +kernel
theorem dX9_cellOfFewestLeft_1 : decode cX9_cellOfFewestLeft 1 = .ok (.istore_n 1, 1) := by decide +kernel
theorem dX9_cellOfFewestLeft_2 : decode cX9_cellOfFewestLeft 2 = .ok (.sipush 217, 3) := by decide +kernel
theorem dX9_cellOfFewestLeft_5 : decode cX9_cellOfFewestLeft 5 = .ok (.istore_n 2, 1) := by decide +kernel
theorem dX9_cellOfFewestLeft_6 : decode cX9_cellOfFewestLeft 6 = .ok (.iconst 0, 1) := by decide +kernel
theorem dX9_cellOfFewestLeft_7 : decode cX9_cellOfFewestLeft 7 = .ok (.istore_n 3, 1) := by decide +kernel
theorem dX9_cellOfFewestLeft_8 : decode cX9_cellOfFewestLeft 8 = .ok (.iload_n 3, 1) := by decide +kernel
theorem dX9_cellOfFewestLeft_9 : decode cX9_cellOfFewestLeft 9 = .ok (.bipush 8, 2) := by decide +kernel
theorem dX9_cellOfFewestLeft_11 : decode cX9_cellOfFewestLeft 11 = .ok (.if_icmp .ge 56, 3) := by decide +kernel
theorem dX9_cellOfFewestLeft_14 : decode cX9_cellOfFewestLeft 14 = .ok (.iconst 0, 1) := by decide +kernel
theorem dX9_cellOfFewestLeft_15 : decode cX9_cellOfFewestLeft 15 = .ok (.istore 4, 2) := by decide +kernel
theorem dX9_cellOfFewestLeft_17 : decode cX9_cellOfFewestLeft 17 = .ok (.iconst 0, 1) := by decide +kernel
theorem dX9_cellOfFewestLeft_18 : decode cX9_cellOfFewestLeft 18 = .ok (.istore 5, 2) := by decide +kernel
theorem dX9_cellOfFewestLeft_20 : decode cX9_cellOfFewestLeft 20 = .ok (.iload 5, 2) := by decide +kernel
theorem dX9_cellOfFewestLeft_22 : decode cX9_cellOfFewestLeft 22 = .ok (.iconst 4, 1) := by decide +kernel
theorem dX9_cellOfFewestLeft_23 : decode cX9_cellOfFewestLeft 23 = .ok (.if_icmp .ge 27, 3) := by decide +kernel
theorem dX9_cellOfFewestLeft_26 : decode cX9_cellOfFewestLeft 26 = .ok (.iload 4, 2) := by decide +kernel
theorem dX9_cellOfFewestLeft_28 : decode cX9_cellOfFewestLeft 28 = .ok (.aload_n 0, 1) := by decide +kernel
theorem dX9_cellOfFewestLeft_29 : decode cX9_cellOfFewestLeft 29 = .ok (.getfield 59, 3) := by decide +kernel
theorem dX9_cellOfFewestLeft_32 : decode cX9_cellOfFewestLeft 32 = .ok (.iload_n 3, 1) := by decide +kernel
theorem dX9_cellOfFewestLeft_33 : decode cX9_cellOfFewestLeft 33 = .ok (.iconst 4, 1) := by decide +kernel
theorem dX9_cellOfFewestLeft_34 : decode cX9_cellOfFewestLeft 34 = .ok (.imul, 1) := by decide +kernel
theorem dX9_cellOfFewestLeft_35 : decode cX9_cellOfFewestLeft 35 = .ok (.iload 5, 2) := by decide +kernel
theorem dX9_cellOfFewestLeft_37 : decode cX9_cellOfFewestLeft 37 = .ok (.iadd, 1) := by decide +kernel
theorem dX9_cellOfFewestLeft_38 : decode cX9_cellOfFewestLeft 38 = .ok (.iaload, 1) := by decide +kernel
theorem dX9_cellOfFewestLeft_39 : decode cX9_cellOfFewestLeft 39 = .ok (.invokestatic 340, 3) := by decide +kernel
theorem dX9_cellOfFewestLeft_42 : decode cX9_cellOfFewestLeft 42 = .ok (.istore 4, 2) := by decide +kernel
theorem dX9_cellOfFewestLeft_44 : decode cX9_cellOfFewestLeft 44 = .ok (.iinc 5 1, 3) := by decide +kernel
theorem dX9_cellOfFewestLeft_47 : decode cX9_cellOfFewestLeft 47 = .ok (.goto (-27), 3) := by decide +kernel
theorem dX9_cellOfFewestLeft_50 : decode cX9_cellOfFewestLeft 50 = .ok (.iload 4, 2) := by decide +kernel
theorem dX9_cellOfFewestLeft_52 : decode cX9_cellOfFewestLeft 52 = .ok (.iload_n 2, 1) := by decide +kernel
theorem dX9_cellOfFewestLeft_53 : decode cX9_cellOfFewestLeft 53 = .ok (.if_icmp .ge 8, 3) := by decide +kernel
theorem dX9_cellOfFewestLeft_56 : decode cX9_cellOfFewestLeft 56 = .ok (.iload 4, 2) := by decide +kernel
theorem dX9_cellOfFewestLeft_58 : decode cX9_cellOfFewestLeft 58 = .ok (.istore_n 2, 1) := by decide +kernel
theorem dX9_cellOfFewestLeft_59 : decode cX9_cellOfFewestLeft 59 = .ok (.iload_n 3, 1) := by decide +kernel
theorem dX9_cellOfFewestLeft_60 : decode cX9_cellOfFewestLeft 60 = .ok (.istore_n 1, 1) := by decide +kernel
theorem dX9_cellOfFewestLeft_61 : decode cX9_cellOfFewestLeft 61 = .ok (.iinc 3 1, 3) := by decide +kernel
theorem dX9_cellOfFewestLeft_64 : decode cX9_cellOfFewestLeft 64 = .ok (.goto (-56), 3) := by decide +kernel
theorem dX9_cellOfFewestLeft_67 : decode cX9_cellOfFewestLeft 67 = .ok (.iload_n 1, 1) := by decide +kernel
theorem dX9_cellOfFewestLeft_68 : decode cX9_cellOfFewestLeft 68 = .ok (.ireturn, 1) := by decide +kernel
theorem dX10_init_0 : decode cX10_init 0 = .ok (.aload_n 0, 1) := by decide +kernel
theorem dX10_init_1 : decode cX10_init 1 = .ok (.invokespecial 1, 3) := by decide +kernel
theorem dX10_init_4 : decode cX10_init 4 = .ok (.aload_n 0, 1) := by decide +kernel
theorem dX10_init_5 : decode cX10_init 5 = .ok (.bipush 14, 2) := by decide +kernel
theorem dX10_init_7 : decode cX10_init 7 = .ok (.newarray .int, 2) := by decide +kernel
theorem dX10_init_9 : decode cX10_init 9 = .ok (.putfield 7, 3) := by decide +kernel
theorem dX10_init_12 : decode cX10_init 12 = .ok (.aload_n 0, 1) := by decide +kernel
theorem dX10_init_13 : decode cX10_init 13 = .ok (.bipush 8, 2) := by decide +kernel
theorem dX10_init_15 : decode cX10_init 15 = .ok (.newarray .int, 2) := by decide +kernel
theorem dX10_init_17 : decode cX10_init 17 = .ok (.putfield 13, 3) := by decide +kernel
theorem dX10_init_20 : decode cX10_init 20 = .ok (.aload_n 0, 1) := by decide +kernel
theorem dX10_init_21 : decode cX10_init 21 = .ok (.bipush 8, 2) := by decide +kernel
theorem dX10_init_23 : decode cX10_init 23 = .ok (.newarray .int, 2) := by decide +kernel
theorem dX10_init_25 : decode cX10_init 25 = .ok (.putfield 16, 3) := by decide +kernel
theorem dX10_init_28 : decode cX10_init 28 = .ok (.aload_n 0, 1) := by decide +kernel
theorem dX10_init_29 : decode cX10_init 29 = .ok (.iconst 3, 1) := by decide +kernel
theorem dX10_init_30 : decode cX10_init 30 = .ok (.newarray .int, 2) := by decide +kernel
theorem dX10_init_32 : decode cX10_init 32 = .ok (.putfield 19, 3) := by decide +kernel
theorem dX10_init_35 : decode cX10_init 35 = .ok (.aload_n 0, 1) := by decide +kernel
theorem dX10_init_36 : decode cX10_init 36 = .ok (.bipush 42, 2) := by decide +kernel
theorem dX10_init_38 : decode cX10_init 38 = .ok (.newarray .int, 2) := by decide +kernel
theorem dX10_init_40 : decode cX10_init 40 = .ok (.putfield 22, 3) := by decide +kernel
theorem dX10_init_43 : decode cX10_init 43 = .ok (.aload_n 0, 1) := by decide +kernel
theorem dX10_init_44 : decode cX10_init 44 = .ok (.bipush 8, 2) := by decide +kernel
theorem dX10_init_46 : decode cX10_init 46 = .ok (.newarray .int, 2) := by decide +kernel
theorem dX10_init_48 : decode cX10_init 48 = .ok (.putfield 25, 3) := by decide +kernel
theorem dX10_init_51 : decode cX10_init 51 = .ok (.aload_n 0, 1) := by decide +kernel
theorem dX10_init_52 : decode cX10_init 52 = .ok (.bipush 8, 2) := by decide +kernel
theorem dX10_init_54 : decode cX10_init 54 = .ok (.newarray .int, 2) := by decide +kernel
theorem dX10_init_56 : decode cX10_init 56 = .ok (.putfield 28, 3) := by decide +kernel
theorem dX10_init_59 : decode cX10_init 59 = .ok (.aload_n 0, 1) := by decide +kernel
theorem dX10_init_60 : decode cX10_init 60 = .ok (.bipush 8, 2) := by decide +kernel
theorem dX10_init_62 : decode cX10_init 62 = .ok (.newarray .int, 2) := by decide +kernel
theorem dX10_init_64 : decode cX10_init 64 = .ok (.putfield 31, 3) := by decide +kernel
theorem dX10_init_67 : decode cX10_init 67 = .ok (.aload_n 0, 1) := by decide +kernel
theorem dX10_init_68 : decode cX10_init 68 = .ok (.bipush 8, 2) := by decide +kernel
theorem dX10_init_70 : decode cX10_init 70 = .ok (.newarray .int, 2) := by decide +kernel
theorem dX10_init_72 : decode cX10_init 72 = .ok (.putfield 34, 3) := by decide +kernel
theorem dX10_init_75 : decode cX10_init 75 = .ok (.aload_n 0, 1) := by decide +kernel
theorem dX10_init_76 : decode cX10_init 76 = .ok (.bipush 42, 2) := by decide +kernel
theorem dX10_init_78 : decode cX10_init 78 = .ok (.newarray .int, 2) := by decide +kernel
theorem dX10_init_80 : decode cX10_init 80 = .ok (.putfield 37, 3) := by decide +kernel
theorem dX10_init_83 : decode cX10_init 83 = .ok (.aload_n 0, 1) := by decide +kernel
theorem dX10_init_84 : decode cX10_init 84 = .ok (.bipush 16, 2) := by decide +kernel
theorem dX10_init_86 : decode cX10_init 86 = .ok (.newarray .int, 2) := by decide +kernel
theorem dX10_init_88 : decode cX10_init 88 = .ok (.putfield 40, 3) := by decide +kernel
theorem dX10_init_91 : decode cX10_init 91 = .ok (.aload_n 0, 1) := by decide +kernel
theorem dX10_init_92 : decode cX10_init 92 = .ok (.bipush 32, 2) := by decide +kernel
theorem dX10_init_94 : decode cX10_init 94 = .ok (.newarray .int, 2) := by decide +kernel
theorem dX10_init_96 : decode cX10_init 96 = .ok (.putfield 43, 3) := by decide +kernel
theorem dX10_init_99 : decode cX10_init 99 = .ok (.aload_n 0, 1) := by decide +kernel
theorem dX10_init_100 : decode cX10_init 100 = .ok (.bipush 42, 2) := by decide +kernel
theorem dX10_init_102 : decode cX10_init 102 = .ok (.newarray .int, 2) := by decide +kernel
theorem dX10_init_104 : decode cX10_init 104 = .ok (.putfield 46, 3) := by decide +kernel
theorem dX10_init_107 : decode cX10_init 107 = .ok (.aload_n 0, 1) := by decide +kernel
theorem dX10_init_108 : decode cX10_init 108 = .ok (.bipush 8, 2) := by decide +kernel
theorem dX10_init_110 : decode cX10_init 110 = .ok (.newarray .int, 2) := by decide +kernel
theorem dX10_init_112 : decode cX10_init 112 = .ok (.putfield 49, 3) := by decide +kernel
theorem dX10_init_115 : decode cX10_init 115 = .ok (.aload_n 0, 1) := by decide +kernel
theorem dX10_init_116 : decode cX10_init 116 = .ok (.iconst 3, 1) := by decide +kernel
theorem dX10_init_117 : decode cX10_init 117 = .ok (.newarray .int, 2) := by decide +kernel
theorem dX10_init_119 : decode cX10_init 119 = .ok (.putfield 52, 3) := by decide +kernel
theorem dX10_init_122 : decode cX10_init 122 = .ok (.aload_n 0, 1) := by decide +kernel
theorem dX10_init_123 : decode cX10_init 123 = .ok (.bipush 16, 2) := by decide +kernel
theorem dX10_init_125 : decode cX10_init 125 = .ok (.newarray .int, 2) := by decide +kernel
theorem dX10_init_127 : decode cX10_init 127 = .ok (.putfield 55, 3) := by decide +kernel
theorem dX10_init_130 : decode cX10_init 130 = .ok (.aload_n 0, 1) := by decide +kernel
theorem dX10_init_131 : decode cX10_init 131 = .ok (.iconst (-1), 1) := by decide +kernel
theorem dX10_init_132 : decode cX10_init 132 = .ok (.putfield 58, 3) := by decide +kernel
theorem dX10_init_135 : decode cX10_init 135 = .ok (.return_, 1) := by decide +kernel
theorem dX10_in_0 : decode cX10_in 0 = .ok (.lload_n 0, 1) := by decide +kernel
theorem dX10_in_1 : decode cX10_in 1 = .ok (.lload_n 2, 1) := by decide +kernel
theorem dX10_in_2 : decode cX10_in 2 = .ok (.lcmp, 1) := by decide +kernel
theorem dX10_in_3 : decode cX10_in 3 = .ok (.ifCond .lt 14, 3) := by decide +kernel
theorem dX10_in_6 : decode cX10_in 6 = .ok (.lload_n 0, 1) := by decide +kernel
theorem dX10_in_7 : decode cX10_in 7 = .ok (.lload 4, 2) := by decide +kernel
theorem dX10_in_9 : decode cX10_in 9 = .ok (.lcmp, 1) := by decide +kernel
theorem dX10_in_10 : decode cX10_in 10 = .ok (.ifCond .gt 7, 3) := by decide +kernel
theorem dX10_in_13 : decode cX10_in 13 = .ok (.iconst 1, 1) := by decide +kernel
theorem dX10_in_14 : decode cX10_in 14 = .ok (.goto 4, 3) := by decide +kernel
theorem dX10_in_17 : decode cX10_in 17 = .ok (.iconst 0, 1) := by decide +kernel
theorem dX10_in_18 : decode cX10_in 18 = .ok (.ireturn, 1) := by decide +kernel
theorem dX10_letter_0 : decode cX10_letter 0 = .ok (.iload_n 1, 1) := by decide +kernel
theorem dX10_letter_1 : decode cX10_letter 1 = .ok (.i2l, 1) := by decide +kernel
theorem dX10_letter_2 : decode cX10_letter 2 = .ok (.lconst 1, 1) := by decide +kernel
theorem dX10_letter_3 : decode cX10_letter 3 = .ok (.ldc2_w 62, 3) := by decide +kernel
theorem dX10_letter_6 : decode cX10_letter 6 = .ok (.invokestatic 64, 3) := by decide +kernel
theorem dX10_letter_9 : decode cX10_letter 9 = .ok (.ifCond .ne 6, 3) := by decide +kernel
theorem dX10_letter_12 : decode cX10_letter 12 = .ok (.bipush (-102), 2) := by decide +kernel
theorem dX10_letter_14 : decode cX10_letter 14 = .ok (.ireturn, 1) := by decide +kernel
theorem dX10_letter_15 : decode cX10_letter 15 = .ok (.aload_n 0, 1) := by decide +kernel
theorem dX10_letter_16 : decode cX10_letter 16 = .ok (.getfield 68, 3) := by decide +kernel
theorem dX10_letter_19 : decode cX10_letter 19 = .ok (.bipush 14, 2) := by decide +kernel
theorem dX10_letter_21 : decode cX10_letter 21 = .ok (.if_icmp .ne 6, 3) := by decide +kernel
theorem dX10_letter_24 : decode cX10_letter 24 = .ok (.bipush (-104), 2) := by decide +kernel
theorem dX10_letter_26 : decode cX10_letter 26 = .ok (.ireturn, 1) := by decide +kernel
theorem dX10_letter_27 : decode cX10_letter 27 = .ok (.aload_n 0, 1) := by decide +kernel
theorem dX10_letter_28 : decode cX10_letter 28 = .ok (.getfield 7, 3) := by decide +kernel
theorem dX10_letter_31 : decode cX10_letter 31 = .ok (.aload_n 0, 1) := by decide +kernel
theorem dX10_letter_32 : decode cX10_letter 32 = .ok (.getfield 68, 3) := by decide +kernel
theorem dX10_letter_35 : decode cX10_letter 35 = .ok (.iload_n 1, 1) := by decide +kernel
theorem dX10_letter_36 : decode cX10_letter 36 = .ok (.iastore, 1) := by decide +kernel
theorem dX10_letter_37 : decode cX10_letter 37 = .ok (.aload_n 0, 1) := by decide +kernel
theorem dX10_letter_38 : decode cX10_letter 38 = .ok (.dup, 1) := by decide +kernel
theorem dX10_letter_39 : decode cX10_letter 39 = .ok (.getfield 68, 3) := by decide +kernel
theorem dX10_letter_42 : decode cX10_letter 42 = .ok (.iconst 1, 1) := by decide +kernel
theorem dX10_letter_43 : decode cX10_letter 43 = .ok (.iadd, 1) := by decide +kernel
theorem dX10_letter_44 : decode cX10_letter 44 = .ok (.putfield 68, 3) := by decide +kernel
theorem dX10_letter_47 : decode cX10_letter 47 = .ok (.aload_n 0, 1) := by decide +kernel
theorem dX10_letter_48 : decode cX10_letter 48 = .ok (.getfield 68, 3) := by decide +kernel
theorem dX10_letter_51 : decode cX10_letter 51 = .ok (.ireturn, 1) := by decide +kernel
theorem dX10_blank_0 : decode cX10_blank 0 = .ok (.aload_n 0, 1) := by decide +kernel
theorem dX10_blank_1 : decode cX10_blank 1 = .ok (.getfield 68, 3) := by decide +kernel
theorem dX10_blank_4 : decode cX10_blank 4 = .ok (.istore_n 1, 1) := by decide +kernel
theorem dX10_blank_5 : decode cX10_blank 5 = .ok (.aload_n 0, 1) := by decide +kernel
theorem dX10_blank_6 : decode cX10_blank 6 = .ok (.iconst 0, 1) := by decide +kernel
theorem dX10_blank_7 : decode cX10_blank 7 = .ok (.putfield 68, 3) := by decide +kernel
theorem dX10_blank_10 : decode cX10_blank 10 = .ok (.iload_n 1, 1) := by decide +kernel
theorem dX10_blank_11 : decode cX10_blank 11 = .ok (.ireturn, 1) := by decide +kernel
theorem dX10_isGood_0 : decode cX10_isGood 0 = .ok (.iload_n 0, 1) := by decide +kernel
theorem dX10_isGood_1 : decode cX10_isGood 1 = .ok (.iconst 4, 1) := by decide +kernel
theorem dX10_isGood_2 : decode cX10_isGood 2 = .ok (.if_icmp .ne 15, 3) := by decide +kernel
theorem dX10_isGood_5 : decode cX10_isGood 5 = .ok (.iload_n 1, 1) := by decide +kernel
theorem dX10_isGood_6 : decode cX10_isGood 6 = .ok (.bipush 47, 2) := by decide +kernel
theorem dX10_isGood_8 : decode cX10_isGood 8 = .ok (.if_icmp .ne 7, 3) := by decide +kernel
theorem dX10_isGood_11 : decode cX10_isGood 11 = .ok (.iconst 1, 1) := by decide +kernel
theorem dX10_isGood_12 : decode cX10_isGood 12 = .ok (.goto 4, 3) := by decide +kernel
theorem dX10_isGood_15 : decode cX10_isGood 15 = .ok (.iconst 0, 1) := by decide +kernel
theorem dX10_isGood_16 : decode cX10_isGood 16 = .ok (.ireturn, 1) := by decide +kernel
theorem dX10_isGood_17 : decode cX10_isGood 17 = .ok (.iload_n 0, 1) := by decide +kernel
theorem dX10_isGood_18 : decode cX10_isGood 18 = .ok (.bipush 9, 2) := by decide +kernel
theorem dX10_isGood_20 : decode cX10_isGood 20 = .ok (.if_icmp .ne 15, 3) := by decide +kernel
theorem dX10_isGood_23 : decode cX10_isGood 23 = .ok (.iload_n 1, 1) := by decide +kernel
theorem dX10_isGood_24 : decode cX10_isGood 24 = .ok (.bipush 59, 2) := by decide +kernel
theorem dX10_isGood_26 : decode cX10_isGood 26 = .ok (.if_icmp .ne 7, 3) := by decide +kernel
theorem dX10_isGood_29 : decode cX10_isGood 29 = .ok (.iconst 1, 1) := by decide +kernel
theorem dX10_isGood_30 : decode cX10_isGood 30 = .ok (.goto 4, 3) := by decide +kernel
theorem dX10_isGood_33 : decode cX10_isGood 33 = .ok (.iconst 0, 1) := by decide +kernel
theorem dX10_isGood_34 : decode cX10_isGood 34 = .ok (.ireturn, 1) := by decide +kernel
theorem dX10_isGood_35 : decode cX10_isGood 35 = .ok (.iload_n 0, 1) := by decide +kernel
theorem dX10_isGood_36 : decode cX10_isGood 36 = .ok (.bipush 10, 2) := by decide +kernel
theorem dX10_isGood_38 : decode cX10_isGood 38 = .ok (.if_icmp .ge 29, 3) := by decide +kernel
theorem dX10_isGood_41 : decode cX10_isGood 41 = .ok (.iload_n 1, 1) := by decide +kernel
theorem dX10_isGood_42 : decode cX10_isGood 42 = .ok (.bipush 46, 2) := by decide +kernel
theorem dX10_isGood_44 : decode cX10_isGood 44 = .ok (.if_icmp .eq 15, 3) := by decide +kernel
theorem dX10_isGood_47 : decode cX10_isGood 47 = .ok (.iload_n 1, 1) := by decide +kernel
theorem dX10_isGood_48 : decode cX10_isGood 48 = .ok (.bipush 35, 2) := by decide +kernel
theorem dX10_isGood_50 : decode cX10_isGood 50 = .ok (.if_icmp .eq 9, 3) := by decide +kernel
theorem dX10_isGood_53 : decode cX10_isGood 53 = .ok (.iload_n 1, 1) := by decide +kernel
theorem dX10_isGood_54 : decode cX10_isGood 54 = .ok (.bipush 119, 2) := by decide +kernel
theorem dX10_isGood_56 : decode cX10_isGood 56 = .ok (.if_icmp .ne 7, 3) := by decide +kernel
theorem dX10_isGood_59 : decode cX10_isGood 59 = .ok (.iconst 1, 1) := by decide +kernel
theorem dX10_isGood_60 : decode cX10_isGood 60 = .ok (.goto 32, 3) := by decide +kernel
theorem dX10_isGood_63 : decode cX10_isGood 63 = .ok (.iconst 0, 1) := by decide +kernel
theorem dX10_isGood_64 : decode cX10_isGood 64 = .ok (.goto 28, 3) := by decide +kernel
theorem dX10_isGood_67 : decode cX10_isGood 67 = .ok (.iload_n 0, 1) := by decide +kernel
theorem dX10_isGood_68 : decode cX10_isGood 68 = .ok (.bipush 10, 2) := by decide +kernel
theorem dX10_isGood_70 : decode cX10_isGood 70 = .ok (.if_icmp .ne 21, 3) := by decide +kernel
theorem dX10_isGood_73 : decode cX10_isGood 73 = .ok (.iload_n 1, 1) := by decide +kernel
theorem dX10_isGood_74 : decode cX10_isGood 74 = .ok (.i2l, 1) := by decide +kernel
theorem dX10_isGood_75 : decode cX10_isGood 75 = .ok (.ldc2_w 71, 3) := by decide +kernel
theorem dX10_isGood_78 : decode cX10_isGood 78 = .ok (.ldc2_w 73, 3) := by decide +kernel
theorem dX10_isGood_81 : decode cX10_isGood 81 = .ok (.invokestatic 64, 3) := by decide +kernel
end
section
theorem dX10_isGood_84 : decode cX10_isGood 84 = .ok (.ifCond .eq 7, 3) := by decide +kernel
theorem dX10_isGood_87 : decode cX10_isGood 87 = .ok (.iconst 1, 1) := by decide +kernel
theorem dX10_isGood_88 : decode cX10_isGood 88 = .ok (.goto 4, 3) := by decide +kernel
theorem dX10_isGood_91 : decode cX10_isGood 91 = .ok (.iconst 0, 1) := by decide +kernel
theorem dX10_isGood_92 : decode cX10_isGood 92 = .ok (.ireturn, 1) := by decide +kernel
theorem dX10_faultOf_0 : decode cX10_faultOf 0 = .ok (.iconst 0, 1) := by decide +kernel
theorem dX10_faultOf_1 : decode cX10_faultOf 1 = .ok (.istore_n 1, 1) := by decide +kernel
theorem dX10_faultOf_2 : decode cX10_faultOf 2 = .ok (.iload_n 1, 1) := by decide +kernel
theorem dX10_faultOf_3 : decode cX10_faultOf 3 = .ok (.aload_n 0, 1) := by decide +kernel
theorem dX10_faultOf_4 : decode cX10_faultOf 4 = .ok (.getfield 68, 3) := by decide +kernel
theorem dX10_faultOf_7 : decode cX10_faultOf 7 = .ok (.if_icmp .ge 22, 3) := by decide +kernel
theorem dX10_faultOf_10 : decode cX10_faultOf 10 = .ok (.iload_n 1, 1) := by decide +kernel
theorem dX10_faultOf_11 : decode cX10_faultOf 11 = .ok (.aload_n 0, 1) := by decide +kernel
theorem dX10_faultOf_12 : decode cX10_faultOf 12 = .ok (.getfield 7, 3) := by decide +kernel
theorem dX10_faultOf_15 : decode cX10_faultOf 15 = .ok (.iload_n 1, 1) := by decide +kernel
theorem dX10_faultOf_16 : decode cX10_faultOf 16 = .ok (.iaload, 1) := by decide +kernel
theorem dX10_faultOf_17 : decode cX10_faultOf 17 = .ok (.invokestatic 75, 3) := by decide +kernel
theorem dX10_faultOf_20 : decode cX10_faultOf 20 = .ok (.ifCond .eq 9, 3) := by decide +kernel
theorem dX10_faultOf_23 : decode cX10_faultOf 23 = .ok (.iinc 1 1, 3) := by decide +kernel
theorem dX10_faultOf_26 : decode cX10_faultOf 26 = .ok (.goto (-24), 3) := by decide +kernel
theorem dX10_faultOf_29 : decode cX10_faultOf 29 = .ok (.iload_n 1, 1) := by decide +kernel
theorem dX10_faultOf_30 : decode cX10_faultOf 30 = .ok (.ireturn, 1) := by decide +kernel
theorem dX10_fault_0 : decode cX10_fault 0 = .ok (.aload_n 0, 1) := by decide +kernel
theorem dX10_fault_1 : decode cX10_fault 1 = .ok (.invokevirtual 79, 3) := by decide +kernel
theorem dX10_fault_4 : decode cX10_fault 4 = .ok (.ireturn, 1) := by decide +kernel
theorem dX10_opens_0 : decode cX10_opens 0 = .ok (.iconst 0, 1) := by decide +kernel
theorem dX10_opens_1 : decode cX10_opens 1 = .ok (.istore_n 1, 1) := by decide +kernel
theorem dX10_opens_2 : decode cX10_opens 2 = .ok (.iconst 0, 1) := by decide +kernel
theorem dX10_opens_3 : decode cX10_opens 3 = .ok (.istore_n 2, 1) := by decide +kernel
theorem dX10_opens_4 : decode cX10_opens 4 = .ok (.iload_n 2, 1) := by decide +kernel
theorem dX10_opens_5 : decode cX10_opens 5 = .ok (.bipush 8, 2) := by decide +kernel
theorem dX10_opens_7 : decode cX10_opens 7 = .ok (.if_icmp .ge 33, 3) := by decide +kernel
theorem dX10_opens_10 : decode cX10_opens 10 = .ok (.aload_n 0, 1) := by decide +kernel
theorem dX10_opens_11 : decode cX10_opens 11 = .ok (.getfield 83, 3) := by decide +kernel
theorem dX10_opens_14 : decode cX10_opens 14 = .ok (.ifCond .le 26, 3) := by decide +kernel
theorem dX10_opens_17 : decode cX10_opens 17 = .ok (.iload_n 1, 1) := by decide +kernel
theorem dX10_opens_18 : decode cX10_opens 18 = .ok (.aload_n 0, 1) := by decide +kernel
theorem dX10_opens_19 : decode cX10_opens 19 = .ok (.getfield 13, 3) := by decide +kernel
theorem dX10_opens_22 : decode cX10_opens 22 = .ok (.iload_n 2, 1) := by decide +kernel
theorem dX10_opens_23 : decode cX10_opens 23 = .ok (.iaload, 1) := by decide +kernel
theorem dX10_opens_24 : decode cX10_opens 24 = .ok (.ifCond .ne 7, 3) := by decide +kernel
theorem dX10_opens_27 : decode cX10_opens 27 = .ok (.iconst 1, 1) := by decide +kernel
theorem dX10_opens_28 : decode cX10_opens 28 = .ok (.goto 4, 3) := by decide +kernel
theorem dX10_opens_31 : decode cX10_opens 31 = .ok (.iconst 0, 1) := by decide +kernel
theorem dX10_opens_32 : decode cX10_opens 32 = .ok (.iadd, 1) := by decide +kernel
theorem dX10_opens_33 : decode cX10_opens 33 = .ok (.istore_n 1, 1) := by decide +kernel
theorem dX10_opens_34 : decode cX10_opens 34 = .ok (.iinc 2 1, 3) := by decide +kernel
theorem dX10_opens_37 : decode cX10_opens 37 = .ok (.goto (-33), 3) := by decide +kernel
theorem dX10_opens_40 : decode cX10_opens 40 = .ok (.iload_n 1, 1) := by decide +kernel
theorem dX10_opens_41 : decode cX10_opens 41 = .ok (.ireturn, 1) := by decide +kernel
theorem dX10_valley_0 : decode cX10_valley 0 = .ok (.aload_n 0, 1) := by decide +kernel
theorem dX10_valley_1 : decode cX10_valley 1 = .ok (.getfield 68, 3) := by decide +kernel
theorem dX10_valley_4 : decode cX10_valley 4 = .ok (.bipush 11, 2) := by decide +kernel
theorem dX10_valley_6 : decode cX10_valley 6 = .ok (.if_icmp .ne 12, 3) := by decide +kernel
theorem dX10_valley_9 : decode cX10_valley 9 = .ok (.aload_n 0, 1) := by decide +kernel
theorem dX10_valley_10 : decode cX10_valley 10 = .ok (.invokevirtual 79, 3) := by decide +kernel
theorem dX10_valley_13 : decode cX10_valley 13 = .ok (.bipush 11, 2) := by decide +kernel
theorem dX10_valley_15 : decode cX10_valley 15 = .ok (.if_icmp .ge 6, 3) := by decide +kernel
theorem dX10_valley_18 : decode cX10_valley 18 = .ok (.bipush (-103), 2) := by decide +kernel
theorem dX10_valley_20 : decode cX10_valley 20 = .ok (.ireturn, 1) := by decide +kernel
theorem dX10_valley_21 : decode cX10_valley 21 = .ok (.iconst 0, 1) := by decide +kernel
theorem dX10_valley_22 : decode cX10_valley 22 = .ok (.istore_n 1, 1) := by decide +kernel
theorem dX10_valley_23 : decode cX10_valley 23 = .ok (.iload_n 1, 1) := by decide +kernel
theorem dX10_valley_24 : decode cX10_valley 24 = .ok (.bipush 8, 2) := by decide +kernel
theorem dX10_valley_26 : decode cX10_valley 26 = .ok (.if_icmp .ge 54, 3) := by decide +kernel
theorem dX10_valley_29 : decode cX10_valley 29 = .ok (.aload_n 0, 1) := by decide +kernel
theorem dX10_valley_30 : decode cX10_valley 30 = .ok (.getfield 7, 3) := by decide +kernel
theorem dX10_valley_33 : decode cX10_valley 33 = .ok (.iload_n 1, 1) := by decide +kernel
theorem dX10_valley_34 : decode cX10_valley 34 = .ok (.iload_n 1, 1) := by decide +kernel
theorem dX10_valley_35 : decode cX10_valley 35 = .ok (.iconst 4, 1) := by decide +kernel
theorem dX10_valley_36 : decode cX10_valley 36 = .ok (.idiv, 1) := by decide +kernel
theorem dX10_valley_37 : decode cX10_valley 37 = .ok (.iadd, 1) := by decide +kernel
theorem dX10_valley_38 : decode cX10_valley 38 = .ok (.iaload, 1) := by decide +kernel
theorem dX10_valley_39 : decode cX10_valley 39 = .ok (.istore_n 2, 1) := by decide +kernel
theorem dX10_valley_40 : decode cX10_valley 40 = .ok (.aload_n 0, 1) := by decide +kernel
theorem dX10_valley_41 : decode cX10_valley 41 = .ok (.getfield 13, 3) := by decide +kernel
theorem dX10_valley_44 : decode cX10_valley 44 = .ok (.iload_n 1, 1) := by decide +kernel
theorem dX10_valley_45 : decode cX10_valley 45 = .ok (.iload_n 2, 1) := by decide +kernel
theorem dX10_valley_46 : decode cX10_valley 46 = .ok (.bipush 35, 2) := by decide +kernel
theorem dX10_valley_48 : decode cX10_valley 48 = .ok (.if_icmp .ne 7, 3) := by decide +kernel
theorem dX10_valley_51 : decode cX10_valley 51 = .ok (.iconst 1, 1) := by decide +kernel
theorem dX10_valley_52 : decode cX10_valley 52 = .ok (.goto 14, 3) := by decide +kernel
theorem dX10_valley_55 : decode cX10_valley 55 = .ok (.iload_n 2, 1) := by decide +kernel
theorem dX10_valley_56 : decode cX10_valley 56 = .ok (.bipush 119, 2) := by decide +kernel
theorem dX10_valley_58 : decode cX10_valley 58 = .ok (.if_icmp .ne 7, 3) := by decide +kernel
theorem dX10_valley_61 : decode cX10_valley 61 = .ok (.iconst 2, 1) := by decide +kernel
theorem dX10_valley_62 : decode cX10_valley 62 = .ok (.goto 4, 3) := by decide +kernel
theorem dX10_valley_65 : decode cX10_valley 65 = .ok (.iconst 0, 1) := by decide +kernel
theorem dX10_valley_66 : decode cX10_valley 66 = .ok (.iastore, 1) := by decide +kernel
theorem dX10_valley_67 : decode cX10_valley 67 = .ok (.aload_n 0, 1) := by decide +kernel
theorem dX10_valley_68 : decode cX10_valley 68 = .ok (.getfield 16, 3) := by decide +kernel
theorem dX10_valley_71 : decode cX10_valley 71 = .ok (.iload_n 1, 1) := by decide +kernel
theorem dX10_valley_72 : decode cX10_valley 72 = .ok (.iconst 0, 1) := by decide +kernel
theorem dX10_valley_73 : decode cX10_valley 73 = .ok (.iastore, 1) := by decide +kernel
theorem dX10_valley_74 : decode cX10_valley 74 = .ok (.iinc 1 1, 3) := by decide +kernel
theorem dX10_valley_77 : decode cX10_valley 77 = .ok (.goto (-54), 3) := by decide +kernel
theorem dX10_valley_80 : decode cX10_valley 80 = .ok (.iconst 0, 1) := by decide +kernel
theorem dX10_valley_81 : decode cX10_valley 81 = .ok (.istore_n 1, 1) := by decide +kernel
theorem dX10_valley_82 : decode cX10_valley 82 = .ok (.iload_n 1, 1) := by decide +kernel
theorem dX10_valley_83 : decode cX10_valley 83 = .ok (.iconst 3, 1) := by decide +kernel
theorem dX10_valley_84 : decode cX10_valley 84 = .ok (.if_icmp .ge 16, 3) := by decide +kernel
theorem dX10_valley_87 : decode cX10_valley 87 = .ok (.aload_n 0, 1) := by decide +kernel
theorem dX10_valley_88 : decode cX10_valley 88 = .ok (.getfield 19, 3) := by decide +kernel
theorem dX10_valley_91 : decode cX10_valley 91 = .ok (.iload_n 1, 1) := by decide +kernel
theorem dX10_valley_92 : decode cX10_valley 92 = .ok (.iconst 0, 1) := by decide +kernel
theorem dX10_valley_93 : decode cX10_valley 93 = .ok (.iastore, 1) := by decide +kernel
theorem dX10_valley_94 : decode cX10_valley 94 = .ok (.iinc 1 1, 3) := by decide +kernel
theorem dX10_valley_97 : decode cX10_valley 97 = .ok (.goto (-15), 3) := by decide +kernel
theorem dX10_valley_100 : decode cX10_valley 100 = .ok (.aload_n 0, 1) := by decide +kernel
theorem dX10_valley_101 : decode cX10_valley 101 = .ok (.aload_n 0, 1) := by decide +kernel
theorem dX10_valley_102 : decode cX10_valley 102 = .ok (.getfield 7, 3) := by decide +kernel
theorem dX10_valley_105 : decode cX10_valley 105 = .ok (.bipush 10, 2) := by decide +kernel
theorem dX10_valley_107 : decode cX10_valley 107 = .ok (.iaload, 1) := by decide +kernel
theorem dX10_valley_108 : decode cX10_valley 108 = .ok (.bipush 48, 2) := by decide +kernel
theorem dX10_valley_110 : decode cX10_valley 110 = .ok (.isub, 1) := by decide +kernel
theorem dX10_valley_111 : decode cX10_valley 111 = .ok (.putfield 83, 3) := by decide +kernel
theorem dX10_valley_114 : decode cX10_valley 114 = .ok (.aload_n 0, 1) := by decide +kernel
theorem dX10_valley_115 : decode cX10_valley 115 = .ok (.iconst 0, 1) := by decide +kernel
theorem dX10_valley_116 : decode cX10_valley 116 = .ok (.putfield 86, 3) := by decide +kernel
theorem dX10_valley_119 : decode cX10_valley 119 = .ok (.aload_n 0, 1) := by decide +kernel
theorem dX10_valley_120 : decode cX10_valley 120 = .ok (.iconst 0, 1) := by decide +kernel
theorem dX10_valley_121 : decode cX10_valley 121 = .ok (.putfield 89, 3) := by decide +kernel
theorem dX10_valley_124 : decode cX10_valley 124 = .ok (.aload_n 0, 1) := by decide +kernel
theorem dX10_valley_125 : decode cX10_valley 125 = .ok (.iconst 0, 1) := by decide +kernel
theorem dX10_valley_126 : decode cX10_valley 126 = .ok (.putfield 92, 3) := by decide +kernel
theorem dX10_valley_129 : decode cX10_valley 129 = .ok (.aload_n 0, 1) := by decide +kernel
theorem dX10_valley_130 : decode cX10_valley 130 = .ok (.iconst 0, 1) := by decide +kernel
theorem dX10_valley_131 : decode cX10_valley 131 = .ok (.putfield 95, 3) := by decide +kernel
theorem dX10_valley_134 : decode cX10_valley 134 = .ok (.aload_n 0, 1) := by decide +kernel
theorem dX10_valley_135 : decode cX10_valley 135 = .ok (.iconst 0, 1) := by decide +kernel
theorem dX10_valley_136 : decode cX10_valley 136 = .ok (.putfield 98, 3) := by decide +kernel
theorem dX10_valley_139 : decode cX10_valley 139 = .ok (.aload_n 0, 1) := by decide +kernel
theorem dX10_valley_140 : decode cX10_valley 140 = .ok (.dup, 1) := by decide +kernel
theorem dX10_valley_141 : decode cX10_valley 141 = .ok (.getfield 101, 3) := by decide +kernel
theorem dX10_valley_144 : decode cX10_valley 144 = .ok (.iconst 1, 1) := by decide +kernel
theorem dX10_valley_145 : decode cX10_valley 145 = .ok (.iadd, 1) := by decide +kernel
theorem dX10_valley_146 : decode cX10_valley 146 = .ok (.putfield 101, 3) := by decide +kernel
theorem dX10_valley_149 : decode cX10_valley 149 = .ok (.aload_n 0, 1) := by decide +kernel
theorem dX10_valley_150 : decode cX10_valley 150 = .ok (.iconst 0, 1) := by decide +kernel
theorem dX10_valley_151 : decode cX10_valley 151 = .ok (.putfield 68, 3) := by decide +kernel
theorem dX10_valley_154 : decode cX10_valley 154 = .ok (.aload_n 0, 1) := by decide +kernel
theorem dX10_valley_155 : decode cX10_valley 155 = .ok (.invokevirtual 104, 3) := by decide +kernel
theorem dX10_valley_158 : decode cX10_valley 158 = .ok (.ireturn, 1) := by decide +kernel
theorem dX10_lacks_0 : decode cX10_lacks 0 = .ok (.aload_n 0, 1) := by decide +kernel
theorem dX10_lacks_1 : decode cX10_lacks 1 = .ok (.getfield 83, 3) := by decide +kernel
theorem dX10_lacks_4 : decode cX10_lacks 4 = .ok (.ifCond .ne 7, 3) := by decide +kernel
theorem dX10_lacks_7 : decode cX10_lacks 7 = .ok (.iconst 1, 1) := by decide +kernel
theorem dX10_lacks_8 : decode cX10_lacks 8 = .ok (.goto 4, 3) := by decide +kernel
theorem dX10_lacks_11 : decode cX10_lacks 11 = .ok (.iconst 0, 1) := by decide +kernel
theorem dX10_lacks_12 : decode cX10_lacks 12 = .ok (.ireturn, 1) := by decide +kernel
theorem dX10_isCell_0 : decode cX10_isCell 0 = .ok (.iload_n 1, 1) := by decide +kernel
theorem dX10_isCell_1 : decode cX10_isCell 1 = .ok (.i2l, 1) := by decide +kernel
theorem dX10_isCell_2 : decode cX10_isCell 2 = .ok (.lconst 0, 1) := by decide +kernel
theorem dX10_isCell_3 : decode cX10_isCell 3 = .ok (.ldc2_w 107, 3) := by decide +kernel
theorem dX10_isCell_6 : decode cX10_isCell 6 = .ok (.invokestatic 64, 3) := by decide +kernel
theorem dX10_isCell_9 : decode cX10_isCell 9 = .ok (.ifCond .eq 14, 3) := by decide +kernel
theorem dX10_isCell_12 : decode cX10_isCell 12 = .ok (.aload_n 0, 1) := by decide +kernel
theorem dX10_isCell_13 : decode cX10_isCell 13 = .ok (.invokevirtual 109, 3) := by decide +kernel
theorem dX10_isCell_16 : decode cX10_isCell 16 = .ok (.ifCond .ne 7, 3) := by decide +kernel
theorem dX10_isCell_19 : decode cX10_isCell 19 = .ok (.iconst 1, 1) := by decide +kernel
theorem dX10_isCell_20 : decode cX10_isCell 20 = .ok (.goto 4, 3) := by decide +kernel
theorem dX10_isCell_23 : decode cX10_isCell 23 = .ok (.iconst 0, 1) := by decide +kernel
theorem dX10_isCell_24 : decode cX10_isCell 24 = .ok (.ireturn, 1) := by decide +kernel
theorem dX10_isSource_0 : decode cX10_isSource 0 = .ok (.iload_n 1, 1) := by decide +kernel
theorem dX10_isSource_1 : decode cX10_isSource 1 = .ok (.i2l, 1) := by decide +kernel
theorem dX10_isSource_2 : decode cX10_isSource 2 = .ok (.lconst 0, 1) := by decide +kernel
theorem dX10_isSource_3 : decode cX10_isSource 3 = .ok (.aload_n 0, 1) := by decide +kernel
theorem dX10_isSource_4 : decode cX10_isSource 4 = .ok (.getfield 95, 3) := by decide +kernel
theorem dX10_isSource_7 : decode cX10_isSource 7 = .ok (.iconst 1, 1) := by decide +kernel
theorem dX10_isSource_8 : decode cX10_isSource 8 = .ok (.isub, 1) := by decide +kernel
theorem dX10_isSource_9 : decode cX10_isSource 9 = .ok (.i2l, 1) := by decide +kernel
theorem dX10_isSource_10 : decode cX10_isSource 10 = .ok (.invokestatic 64, 3) := by decide +kernel
theorem dX10_isSource_13 : decode cX10_isSource 13 = .ok (.ireturn, 1) := by decide +kernel
theorem dX10_lay_0 : decode cX10_lay 0 = .ok (.aload_n 0, 1) := by decide +kernel
theorem dX10_lay_1 : decode cX10_lay 1 = .ok (.getfield 22, 3) := by decide +kernel
theorem dX10_lay_4 : decode cX10_lay 4 = .ok (.bipush 6, 2) := by decide +kernel
theorem dX10_lay_6 : decode cX10_lay 6 = .ok (.iload_n 1, 1) := by decide +kernel
theorem dX10_lay_7 : decode cX10_lay 7 = .ok (.imul, 1) := by decide +kernel
theorem dX10_lay_8 : decode cX10_lay 8 = .ok (.iload_n 2, 1) := by decide +kernel
theorem dX10_lay_9 : decode cX10_lay 9 = .ok (.iastore, 1) := by decide +kernel
theorem dX10_lay_10 : decode cX10_lay 10 = .ok (.aload_n 0, 1) := by decide +kernel
theorem dX10_lay_11 : decode cX10_lay 11 = .ok (.getfield 22, 3) := by decide +kernel
theorem dX10_lay_14 : decode cX10_lay 14 = .ok (.bipush 6, 2) := by decide +kernel
theorem dX10_lay_16 : decode cX10_lay 16 = .ok (.iload_n 1, 1) := by decide +kernel
theorem dX10_lay_17 : decode cX10_lay 17 = .ok (.imul, 1) := by decide +kernel
theorem dX10_lay_18 : decode cX10_lay 18 = .ok (.iconst 1, 1) := by decide +kernel
theorem dX10_lay_19 : decode cX10_lay 19 = .ok (.iadd, 1) := by decide +kernel
theorem dX10_lay_20 : decode cX10_lay 20 = .ok (.iload_n 3, 1) := by decide +kernel
theorem dX10_lay_21 : decode cX10_lay 21 = .ok (.iastore, 1) := by decide +kernel
theorem dX10_lay_22 : decode cX10_lay 22 = .ok (.aload_n 0, 1) := by decide +kernel
theorem dX10_lay_23 : decode cX10_lay 23 = .ok (.getfield 22, 3) := by decide +kernel
theorem dX10_lay_26 : decode cX10_lay 26 = .ok (.bipush 6, 2) := by decide +kernel
theorem dX10_lay_28 : decode cX10_lay 28 = .ok (.iload_n 1, 1) := by decide +kernel
theorem dX10_lay_29 : decode cX10_lay 29 = .ok (.imul, 1) := by decide +kernel
theorem dX10_lay_30 : decode cX10_lay 30 = .ok (.iconst 2, 1) := by decide +kernel
theorem dX10_lay_31 : decode cX10_lay 31 = .ok (.iadd, 1) := by decide +kernel
theorem dX10_lay_32 : decode cX10_lay 32 = .ok (.iload 4, 2) := by decide +kernel
theorem dX10_lay_34 : decode cX10_lay 34 = .ok (.iastore, 1) := by decide +kernel
theorem dX10_lay_35 : decode cX10_lay 35 = .ok (.aload_n 0, 1) := by decide +kernel
theorem dX10_lay_36 : decode cX10_lay 36 = .ok (.getfield 22, 3) := by decide +kernel
theorem dX10_lay_39 : decode cX10_lay 39 = .ok (.bipush 6, 2) := by decide +kernel
theorem dX10_lay_41 : decode cX10_lay 41 = .ok (.iload_n 1, 1) := by decide +kernel
theorem dX10_lay_42 : decode cX10_lay 42 = .ok (.imul, 1) := by decide +kernel
theorem dX10_lay_43 : decode cX10_lay 43 = .ok (.iconst 3, 1) := by decide +kernel
theorem dX10_lay_44 : decode cX10_lay 44 = .ok (.iadd, 1) := by decide +kernel
theorem dX10_lay_45 : decode cX10_lay 45 = .ok (.iload 5, 2) := by decide +kernel
theorem dX10_lay_47 : decode cX10_lay 47 = .ok (.iastore, 1) := by decide +kernel
theorem dX10_lay_48 : decode cX10_lay 48 = .ok (.aload_n 0, 1) := by decide +kernel
theorem dX10_lay_49 : decode cX10_lay 49 = .ok (.getfield 22, 3) := by decide +kernel
theorem dX10_lay_52 : decode cX10_lay 52 = .ok (.bipush 6, 2) := by decide +kernel
theorem dX10_lay_54 : decode cX10_lay 54 = .ok (.iload_n 1, 1) := by decide +kernel
theorem dX10_lay_55 : decode cX10_lay 55 = .ok (.imul, 1) := by decide +kernel
theorem dX10_lay_56 : decode cX10_lay 56 = .ok (.iconst 4, 1) := by decide +kernel
theorem dX10_lay_57 : decode cX10_lay 57 = .ok (.iadd, 1) := by decide +kernel
theorem dX10_lay_58 : decode cX10_lay 58 = .ok (.iconst 1, 1) := by decide +kernel
theorem dX10_lay_59 : decode cX10_lay 59 = .ok (.iastore, 1) := by decide +kernel
theorem dX10_lay_60 : decode cX10_lay 60 = .ok (.aload_n 0, 1) := by decide +kernel
theorem dX10_lay_61 : decode cX10_lay 61 = .ok (.getfield 22, 3) := by decide +kernel
theorem dX10_lay_64 : decode cX10_lay 64 = .ok (.bipush 6, 2) := by decide +kernel
theorem dX10_lay_66 : decode cX10_lay 66 = .ok (.iload_n 1, 1) := by decide +kernel
theorem dX10_lay_67 : decode cX10_lay 67 = .ok (.imul, 1) := by decide +kernel
theorem dX10_lay_68 : decode cX10_lay 68 = .ok (.iconst 5, 1) := by decide +kernel
theorem dX10_lay_69 : decode cX10_lay 69 = .ok (.iadd, 1) := by decide +kernel
theorem dX10_lay_70 : decode cX10_lay 70 = .ok (.iconst 0, 1) := by decide +kernel
theorem dX10_lay_71 : decode cX10_lay 71 = .ok (.iastore, 1) := by decide +kernel
theorem dX10_lay_72 : decode cX10_lay 72 = .ok (.return_, 1) := by decide +kernel
theorem dX10_source_0 : decode cX10_source 0 = .ok (.iload_n 1, 1) := by decide +kernel
theorem dX10_source_1 : decode cX10_source 1 = .ok (.i2l, 1) := by decide +kernel
theorem dX10_source_2 : decode cX10_source 2 = .ok (.lconst 0, 1) := by decide +kernel
theorem dX10_source_3 : decode cX10_source 3 = .ok (.ldc2_w 113, 3) := by decide +kernel
theorem dX10_source_6 : decode cX10_source 6 = .ok (.invokestatic 64, 3) := by decide +kernel
theorem dX10_source_9 : decode cX10_source 9 = .ok (.ifCond .eq 28, 3) := by decide +kernel
theorem dX10_source_12 : decode cX10_source 12 = .ok (.iload_n 2, 1) := by decide +kernel
theorem dX10_source_13 : decode cX10_source 13 = .ok (.i2l, 1) := by decide +kernel
theorem dX10_source_14 : decode cX10_source 14 = .ok (.lconst 0, 1) := by decide +kernel
theorem dX10_source_15 : decode cX10_source 15 = .ok (.ldc2_w 115, 3) := by decide +kernel
theorem dX10_source_18 : decode cX10_source 18 = .ok (.invokestatic 64, 3) := by decide +kernel
theorem dX10_source_21 : decode cX10_source 21 = .ok (.ifCond .eq 16, 3) := by decide +kernel
theorem dX10_source_24 : decode cX10_source 24 = .ok (.iload 4, 2) := by decide +kernel
theorem dX10_source_26 : decode cX10_source 26 = .ok (.i2l, 1) := by decide +kernel
theorem dX10_source_27 : decode cX10_source 27 = .ok (.lconst 1, 1) := by decide +kernel
theorem dX10_source_28 : decode cX10_source 28 = .ok (.ldc2_w 117, 3) := by decide +kernel
theorem dX10_source_31 : decode cX10_source 31 = .ok (.invokestatic 64, 3) := by decide +kernel
theorem dX10_source_34 : decode cX10_source 34 = .ok (.ifCond .ne 6, 3) := by decide +kernel
theorem dX10_source_37 : decode cX10_source 37 = .ok (.bipush (-102), 2) := by decide +kernel
theorem dX10_source_39 : decode cX10_source 39 = .ok (.ireturn, 1) := by decide +kernel
theorem dX10_source_40 : decode cX10_source 40 = .ok (.aload_n 0, 1) := by decide +kernel
theorem dX10_source_41 : decode cX10_source 41 = .ok (.iload_n 3, 1) := by decide +kernel
theorem dX10_source_42 : decode cX10_source 42 = .ok (.invokevirtual 119, 3) := by decide +kernel
theorem dX10_source_45 : decode cX10_source 45 = .ok (.ifCond .ne 6, 3) := by decide +kernel
theorem dX10_source_48 : decode cX10_source 48 = .ok (.bipush (-101), 2) := by decide +kernel
theorem dX10_source_50 : decode cX10_source 50 = .ok (.ireturn, 1) := by decide +kernel
theorem dX10_source_51 : decode cX10_source 51 = .ok (.aload_n 0, 1) := by decide +kernel
theorem dX10_source_52 : decode cX10_source 52 = .ok (.getfield 13, 3) := by decide +kernel
theorem dX10_source_55 : decode cX10_source 55 = .ok (.iload_n 3, 1) := by decide +kernel
theorem dX10_source_56 : decode cX10_source 56 = .ok (.iaload, 1) := by decide +kernel
theorem dX10_source_57 : decode cX10_source 57 = .ok (.ifCond .eq 6, 3) := by decide +kernel
theorem dX10_source_60 : decode cX10_source 60 = .ok (.bipush (-103), 2) := by decide +kernel
theorem dX10_source_62 : decode cX10_source 62 = .ok (.ireturn, 1) := by decide +kernel
theorem dX10_source_63 : decode cX10_source 63 = .ok (.aload_n 0, 1) := by decide +kernel
theorem dX10_source_64 : decode cX10_source 64 = .ok (.getfield 95, 3) := by decide +kernel
theorem dX10_source_67 : decode cX10_source 67 = .ok (.bipush 6, 2) := by decide +kernel
theorem dX10_source_69 : decode cX10_source 69 = .ok (.if_icmp .ne 6, 3) := by decide +kernel
theorem dX10_source_72 : decode cX10_source 72 = .ok (.bipush (-104), 2) := by decide +kernel
theorem dX10_source_74 : decode cX10_source 74 = .ok (.ireturn, 1) := by decide +kernel
theorem dX10_source_75 : decode cX10_source 75 = .ok (.aload_n 0, 1) := by decide +kernel
theorem dX10_source_76 : decode cX10_source 76 = .ok (.aload_n 0, 1) := by decide +kernel
theorem dX10_source_77 : decode cX10_source 77 = .ok (.getfield 95, 3) := by decide +kernel
theorem dX10_source_80 : decode cX10_source 80 = .ok (.iload_n 1, 1) := by decide +kernel
theorem dX10_source_81 : decode cX10_source 81 = .ok (.iload_n 2, 1) := by decide +kernel
theorem dX10_source_82 : decode cX10_source 82 = .ok (.iload_n 3, 1) := by decide +kernel
theorem dX10_source_83 : decode cX10_source 83 = .ok (.iload 4, 2) := by decide +kernel
theorem dX10_source_85 : decode cX10_source 85 = .ok (.invokevirtual 123, 3) := by decide +kernel
theorem dX10_source_88 : decode cX10_source 88 = .ok (.aload_n 0, 1) := by decide +kernel
theorem dX10_source_89 : decode cX10_source 89 = .ok (.dup, 1) := by decide +kernel
theorem dX10_source_90 : decode cX10_source 90 = .ok (.getfield 95, 3) := by decide +kernel
theorem dX10_source_93 : decode cX10_source 93 = .ok (.iconst 1, 1) := by decide +kernel
theorem dX10_source_94 : decode cX10_source 94 = .ok (.iadd, 1) := by decide +kernel
theorem dX10_source_95 : decode cX10_source 95 = .ok (.putfield 95, 3) := by decide +kernel
theorem dX10_source_98 : decode cX10_source 98 = .ok (.aload_n 0, 1) := by decide +kernel
theorem dX10_source_99 : decode cX10_source 99 = .ok (.getfield 95, 3) := by decide +kernel
theorem dX10_source_102 : decode cX10_source 102 = .ok (.iconst 1, 1) := by decide +kernel
theorem dX10_source_103 : decode cX10_source 103 = .ok (.isub, 1) := by decide +kernel
theorem dX10_source_104 : decode cX10_source 104 = .ok (.ireturn, 1) := by decide +kernel
theorem dX10_smells_0 : decode cX10_smells 0 = .ok (.aload_n 0, 1) := by decide +kernel
theorem dX10_smells_1 : decode cX10_smells 1 = .ok (.getfield 22, 3) := by decide +kernel
theorem dX10_smells_4 : decode cX10_smells 4 = .ok (.bipush 6, 2) := by decide +kernel
theorem dX10_smells_6 : decode cX10_smells 6 = .ok (.iload_n 1, 1) := by decide +kernel
theorem dX10_smells_7 : decode cX10_smells 7 = .ok (.imul, 1) := by decide +kernel
theorem dX10_smells_8 : decode cX10_smells 8 = .ok (.iaload, 1) := by decide +kernel
theorem dX10_smells_9 : decode cX10_smells 9 = .ok (.istore_n 2, 1) := by decide +kernel
theorem dX10_smells_10 : decode cX10_smells 10 = .ok (.aload_n 0, 1) := by decide +kernel
theorem dX10_smells_11 : decode cX10_smells 11 = .ok (.getfield 22, 3) := by decide +kernel
theorem dX10_smells_14 : decode cX10_smells 14 = .ok (.bipush 6, 2) := by decide +kernel
theorem dX10_smells_16 : decode cX10_smells 16 = .ok (.iload_n 1, 1) := by decide +kernel
theorem dX10_smells_17 : decode cX10_smells 17 = .ok (.imul, 1) := by decide +kernel
theorem dX10_smells_18 : decode cX10_smells 18 = .ok (.iconst 4, 1) := by decide +kernel
theorem dX10_smells_19 : decode cX10_smells 19 = .ok (.iadd, 1) := by decide +kernel
theorem dX10_smells_20 : decode cX10_smells 20 = .ok (.iaload, 1) := by decide +kernel
theorem dX10_smells_21 : decode cX10_smells 21 = .ok (.iconst 1, 1) := by decide +kernel
theorem dX10_smells_22 : decode cX10_smells 22 = .ok (.if_icmp .ne 33, 3) := by decide +kernel
theorem dX10_smells_25 : decode cX10_smells 25 = .ok (.iload_n 2, 1) := by decide +kernel
theorem dX10_smells_26 : decode cX10_smells 26 = .ok (.iconst 4, 1) := by decide +kernel
theorem dX10_smells_27 : decode cX10_smells 27 = .ok (.if_icmp .eq 24, 3) := by decide +kernel
theorem dX10_smells_30 : decode cX10_smells 30 = .ok (.aload_n 0, 1) := by decide +kernel
theorem dX10_smells_31 : decode cX10_smells 31 = .ok (.getfield 89, 3) := by decide +kernel
theorem dX10_smells_34 : decode cX10_smells 34 = .ok (.ifCond .ne 21, 3) := by decide +kernel
theorem dX10_smells_37 : decode cX10_smells 37 = .ok (.iload_n 2, 1) := by decide +kernel
theorem dX10_smells_38 : decode cX10_smells 38 = .ok (.iconst 2, 1) := by decide +kernel
theorem dX10_smells_39 : decode cX10_smells 39 = .ok (.if_icmp .ne 12, 3) := by decide +kernel
theorem dX10_smells_42 : decode cX10_smells 42 = .ok (.aload_n 0, 1) := by decide +kernel
theorem dX10_smells_43 : decode cX10_smells 43 = .ok (.getfield 92, 3) := by decide +kernel
theorem dX10_smells_46 : decode cX10_smells 46 = .ok (.iconst 2, 1) := by decide +kernel
theorem dX10_smells_47 : decode cX10_smells 47 = .ok (.irem, 1) := by decide +kernel
theorem dX10_smells_48 : decode cX10_smells 48 = .ok (.ifCond .ne 7, 3) := by decide +kernel
theorem dX10_smells_51 : decode cX10_smells 51 = .ok (.iconst 1, 1) := by decide +kernel
theorem dX10_smells_52 : decode cX10_smells 52 = .ok (.goto 4, 3) := by decide +kernel
theorem dX10_smells_55 : decode cX10_smells 55 = .ok (.iconst 0, 1) := by decide +kernel
theorem dX10_smells_56 : decode cX10_smells 56 = .ok (.ireturn, 1) := by decide +kernel
theorem dX10_forceOf_0 : decode cX10_forceOf 0 = .ok (.aload_n 0, 1) := by decide +kernel
theorem dX10_forceOf_1 : decode cX10_forceOf 1 = .ok (.getfield 22, 3) := by decide +kernel
theorem dX10_forceOf_4 : decode cX10_forceOf 4 = .ok (.bipush 6, 2) := by decide +kernel
theorem dX10_forceOf_6 : decode cX10_forceOf 6 = .ok (.iload_n 1, 1) := by decide +kernel
theorem dX10_forceOf_7 : decode cX10_forceOf 7 = .ok (.imul, 1) := by decide +kernel
theorem dX10_forceOf_8 : decode cX10_forceOf 8 = .ok (.iconst 3, 1) := by decide +kernel
theorem dX10_forceOf_9 : decode cX10_forceOf 9 = .ok (.iadd, 1) := by decide +kernel
theorem dX10_forceOf_10 : decode cX10_forceOf 10 = .ok (.iaload, 1) := by decide +kernel
theorem dX10_forceOf_11 : decode cX10_forceOf 11 = .ok (.aload_n 0, 1) := by decide +kernel
theorem dX10_forceOf_12 : decode cX10_forceOf 12 = .ok (.getfield 22, 3) := by decide +kernel
theorem dX10_forceOf_15 : decode cX10_forceOf 15 = .ok (.bipush 6, 2) := by decide +kernel
theorem dX10_forceOf_17 : decode cX10_forceOf 17 = .ok (.iload_n 1, 1) := by decide +kernel
theorem dX10_forceOf_18 : decode cX10_forceOf 18 = .ok (.imul, 1) := by decide +kernel
theorem dX10_forceOf_19 : decode cX10_forceOf 19 = .ok (.iaload, 1) := by decide +kernel
theorem dX10_forceOf_20 : decode cX10_forceOf 20 = .ok (.iconst 1, 1) := by decide +kernel
theorem dX10_forceOf_21 : decode cX10_forceOf 21 = .ok (.if_icmp .ne 17, 3) := by decide +kernel
theorem dX10_forceOf_24 : decode cX10_forceOf 24 = .ok (.aload_n 0, 1) := by decide +kernel
theorem dX10_forceOf_25 : decode cX10_forceOf 25 = .ok (.getfield 22, 3) := by decide +kernel
theorem dX10_forceOf_28 : decode cX10_forceOf 28 = .ok (.bipush 6, 2) := by decide +kernel
theorem dX10_forceOf_30 : decode cX10_forceOf 30 = .ok (.iload_n 1, 1) := by decide +kernel
theorem dX10_forceOf_31 : decode cX10_forceOf 31 = .ok (.imul, 1) := by decide +kernel
theorem dX10_forceOf_32 : decode cX10_forceOf 32 = .ok (.iconst 5, 1) := by decide +kernel
theorem dX10_forceOf_33 : decode cX10_forceOf 33 = .ok (.iadd, 1) := by decide +kernel
theorem dX10_forceOf_34 : decode cX10_forceOf 34 = .ok (.iaload, 1) := by decide +kernel
theorem dX10_forceOf_35 : decode cX10_forceOf 35 = .ok (.goto 4, 3) := by decide +kernel
theorem dX10_forceOf_38 : decode cX10_forceOf 38 = .ok (.iconst 0, 1) := by decide +kernel
theorem dX10_forceOf_39 : decode cX10_forceOf 39 = .ok (.iadd, 1) := by decide +kernel
theorem dX10_forceOf_40 : decode cX10_forceOf 40 = .ok (.istore_n 2, 1) := by decide +kernel
theorem dX10_forceOf_41 : decode cX10_forceOf 41 = .ok (.iload_n 2, 1) := by decide +kernel
theorem dX10_forceOf_42 : decode cX10_forceOf 42 = .ok (.bipush 9, 2) := by decide +kernel
theorem dX10_forceOf_44 : decode cX10_forceOf 44 = .ok (.if_icmp .le 8, 3) := by decide +kernel
theorem dX10_forceOf_47 : decode cX10_forceOf 47 = .ok (.bipush 9, 2) := by decide +kernel
theorem dX10_forceOf_49 : decode cX10_forceOf 49 = .ok (.goto 4, 3) := by decide +kernel
theorem dX10_forceOf_52 : decode cX10_forceOf 52 = .ok (.iload_n 2, 1) := by decide +kernel
theorem dX10_forceOf_53 : decode cX10_forceOf 53 = .ok (.ireturn, 1) := by decide +kernel
theorem dX10_beside_0 : decode cX10_beside 0 = .ok (.iload_n 0, 1) := by decide +kernel
theorem dX10_beside_1 : decode cX10_beside 1 = .ok (.iconst 4, 1) := by decide +kernel
theorem dX10_beside_2 : decode cX10_beside 2 = .ok (.irem, 1) := by decide +kernel
theorem dX10_beside_3 : decode cX10_beside 3 = .ok (.istore_n 2, 1) := by decide +kernel
theorem dX10_beside_4 : decode cX10_beside 4 = .ok (.iload_n 1, 1) := by decide +kernel
theorem dX10_beside_5 : decode cX10_beside 5 = .ok (.iconst 1, 1) := by decide +kernel
theorem dX10_beside_6 : decode cX10_beside 6 = .ok (.if_icmp .ne 16, 3) := by decide +kernel
theorem dX10_beside_9 : decode cX10_beside 9 = .ok (.iload_n 2, 1) := by decide +kernel
theorem dX10_beside_10 : decode cX10_beside 10 = .ok (.iconst 3, 1) := by decide +kernel
theorem dX10_beside_11 : decode cX10_beside 11 = .ok (.if_icmp .ge 9, 3) := by decide +kernel
theorem dX10_beside_14 : decode cX10_beside 14 = .ok (.iload_n 0, 1) := by decide +kernel
theorem dX10_beside_15 : decode cX10_beside 15 = .ok (.iconst 1, 1) := by decide +kernel
theorem dX10_beside_16 : decode cX10_beside 16 = .ok (.iadd, 1) := by decide +kernel
theorem dX10_beside_17 : decode cX10_beside 17 = .ok (.goto 4, 3) := by decide +kernel
theorem dX10_beside_20 : decode cX10_beside 20 = .ok (.iconst (-1), 1) := by decide +kernel
theorem dX10_beside_21 : decode cX10_beside 21 = .ok (.ireturn, 1) := by decide +kernel
theorem dX10_beside_22 : decode cX10_beside 22 = .ok (.iload_n 1, 1) := by decide +kernel
theorem dX10_beside_23 : decode cX10_beside 23 = .ok (.iconst 2, 1) := by decide +kernel
theorem dX10_beside_24 : decode cX10_beside 24 = .ok (.if_icmp .ne 15, 3) := by decide +kernel
theorem dX10_beside_27 : decode cX10_beside 27 = .ok (.iload_n 2, 1) := by decide +kernel
theorem dX10_beside_28 : decode cX10_beside 28 = .ok (.ifCond .le 9, 3) := by decide +kernel
theorem dX10_beside_31 : decode cX10_beside 31 = .ok (.iload_n 0, 1) := by decide +kernel
theorem dX10_beside_32 : decode cX10_beside 32 = .ok (.iconst 1, 1) := by decide +kernel
theorem dX10_beside_33 : decode cX10_beside 33 = .ok (.isub, 1) := by decide +kernel
theorem dX10_beside_34 : decode cX10_beside 34 = .ok (.goto 4, 3) := by decide +kernel
theorem dX10_beside_37 : decode cX10_beside 37 = .ok (.iconst (-1), 1) := by decide +kernel
theorem dX10_beside_38 : decode cX10_beside 38 = .ok (.ireturn, 1) := by decide +kernel
theorem dX10_beside_39 : decode cX10_beside 39 = .ok (.iload_n 1, 1) := by decide +kernel
theorem dX10_beside_40 : decode cX10_beside 40 = .ok (.iconst 3, 1) := by decide +kernel
theorem dX10_beside_41 : decode cX10_beside 41 = .ok (.if_icmp .ne 18, 3) := by decide +kernel
theorem dX10_beside_44 : decode cX10_beside 44 = .ok (.iload_n 0, 1) := by decide +kernel
theorem dX10_beside_45 : decode cX10_beside 45 = .ok (.iconst 4, 1) := by decide +kernel
theorem dX10_beside_46 : decode cX10_beside 46 = .ok (.if_icmp .ge 9, 3) := by decide +kernel
theorem dX10_beside_49 : decode cX10_beside 49 = .ok (.iload_n 0, 1) := by decide +kernel
theorem dX10_beside_50 : decode cX10_beside 50 = .ok (.iconst 4, 1) := by decide +kernel
theorem dX10_beside_51 : decode cX10_beside 51 = .ok (.iadd, 1) := by decide +kernel
theorem dX10_beside_52 : decode cX10_beside 52 = .ok (.goto 19, 3) := by decide +kernel
theorem dX10_beside_55 : decode cX10_beside 55 = .ok (.iconst (-1), 1) := by decide +kernel
theorem dX10_beside_56 : decode cX10_beside 56 = .ok (.goto 15, 3) := by decide +kernel
theorem dX10_beside_59 : decode cX10_beside 59 = .ok (.iload_n 0, 1) := by decide +kernel
theorem dX10_beside_60 : decode cX10_beside 60 = .ok (.iconst 3, 1) := by decide +kernel
theorem dX10_beside_61 : decode cX10_beside 61 = .ok (.if_icmp .le 9, 3) := by decide +kernel
theorem dX10_beside_64 : decode cX10_beside 64 = .ok (.iload_n 0, 1) := by decide +kernel
theorem dX10_beside_65 : decode cX10_beside 65 = .ok (.iconst 4, 1) := by decide +kernel
theorem dX10_beside_66 : decode cX10_beside 66 = .ok (.isub, 1) := by decide +kernel
theorem dX10_beside_67 : decode cX10_beside 67 = .ok (.goto 4, 3) := by decide +kernel
theorem dX10_beside_70 : decode cX10_beside 70 = .ok (.iconst (-1), 1) := by decide +kernel
theorem dX10_beside_71 : decode cX10_beside 71 = .ok (.ireturn, 1) := by decide +kernel
theorem dX10_against_0 : decode cX10_against 0 = .ok (.iload_n 0, 1) := by decide +kernel
theorem dX10_against_1 : decode cX10_against 1 = .ok (.ifCond .ne 7, 3) := by decide +kernel
theorem dX10_against_4 : decode cX10_against 4 = .ok (.iconst 0, 1) := by decide +kernel
theorem dX10_against_5 : decode cX10_against 5 = .ok (.goto 19, 3) := by decide +kernel
theorem dX10_against_8 : decode cX10_against 8 = .ok (.iload_n 0, 1) := by decide +kernel
theorem dX10_against_9 : decode cX10_against 9 = .ok (.iconst 2, 1) := by decide +kernel
theorem dX10_against_10 : decode cX10_against 10 = .ok (.irem, 1) := by decide +kernel
theorem dX10_against_11 : decode cX10_against 11 = .ok (.iconst 1, 1) := by decide +kernel
theorem dX10_against_12 : decode cX10_against 12 = .ok (.if_icmp .ne 9, 3) := by decide +kernel
theorem dX10_against_15 : decode cX10_against 15 = .ok (.iload_n 0, 1) := by decide +kernel
theorem dX10_against_16 : decode cX10_against 16 = .ok (.iconst 1, 1) := by decide +kernel
theorem dX10_against_17 : decode cX10_against 17 = .ok (.iadd, 1) := by decide +kernel
theorem dX10_against_18 : decode cX10_against 18 = .ok (.goto 6, 3) := by decide +kernel
theorem dX10_against_21 : decode cX10_against 21 = .ok (.iload_n 0, 1) := by decide +kernel
theorem dX10_against_22 : decode cX10_against 22 = .ok (.iconst 1, 1) := by decide +kernel
theorem dX10_against_23 : decode cX10_against 23 = .ok (.isub, 1) := by decide +kernel
theorem dX10_against_24 : decode cX10_against 24 = .ok (.ireturn, 1) := by decide +kernel
theorem dX10_lossOf_0 : decode cX10_lossOf 0 = .ok (.aload_n 0, 1) := by decide +kernel
theorem dX10_lossOf_1 : decode cX10_lossOf 1 = .ok (.getfield 83, 3) := by decide +kernel
theorem dX10_lossOf_4 : decode cX10_lossOf 4 = .ok (.iload_n 1, 1) := by decide +kernel
theorem dX10_lossOf_5 : decode cX10_lossOf 5 = .ok (.iconst 2, 1) := by decide +kernel
theorem dX10_lossOf_6 : decode cX10_lossOf 6 = .ok (.if_icmp .le 7, 3) := by decide +kernel
theorem dX10_lossOf_9 : decode cX10_lossOf 9 = .ok (.iconst 1, 1) := by decide +kernel
theorem dX10_lossOf_10 : decode cX10_lossOf 10 = .ok (.goto 4, 3) := by decide +kernel
theorem dX10_lossOf_13 : decode cX10_lossOf 13 = .ok (.iconst 0, 1) := by decide +kernel
theorem dX10_lossOf_14 : decode cX10_lossOf 14 = .ok (.isub, 1) := by decide +kernel
theorem dX10_lossOf_15 : decode cX10_lossOf 15 = .ok (.istore 4, 2) := by decide +kernel
theorem dX10_lossOf_17 : decode cX10_lossOf 17 = .ok (.iload 4, 2) := by decide +kernel
theorem dX10_lossOf_19 : decode cX10_lossOf 19 = .ok (.iload_n 2, 1) := by decide +kernel
theorem dX10_lossOf_20 : decode cX10_lossOf 20 = .ok (.aload_n 0, 1) := by decide +kernel
theorem dX10_lossOf_21 : decode cX10_lossOf 21 = .ok (.getfield 86, 3) := by decide +kernel
theorem dX10_lossOf_24 : decode cX10_lossOf 24 = .ok (.if_icmp .ne 7, 3) := by decide +kernel
theorem dX10_lossOf_27 : decode cX10_lossOf 27 = .ok (.iconst (-1), 1) := by decide +kernel
theorem dX10_lossOf_28 : decode cX10_lossOf 28 = .ok (.goto 26, 3) := by decide +kernel
theorem dX10_lossOf_31 : decode cX10_lossOf 31 = .ok (.aload_n 0, 1) := by decide +kernel
theorem dX10_lossOf_32 : decode cX10_lossOf 32 = .ok (.getfield 86, 3) := by decide +kernel
theorem dX10_lossOf_35 : decode cX10_lossOf 35 = .ok (.ifCond .le 18, 3) := by decide +kernel
theorem dX10_lossOf_38 : decode cX10_lossOf 38 = .ok (.iload_n 2, 1) := by decide +kernel
theorem dX10_lossOf_39 : decode cX10_lossOf 39 = .ok (.aload_n 0, 1) := by decide +kernel
theorem dX10_lossOf_40 : decode cX10_lossOf 40 = .ok (.getfield 86, 3) := by decide +kernel
theorem dX10_lossOf_43 : decode cX10_lossOf 43 = .ok (.invokestatic 127, 3) := by decide +kernel
theorem dX10_lossOf_46 : decode cX10_lossOf 46 = .ok (.if_icmp .ne 7, 3) := by decide +kernel
theorem dX10_lossOf_49 : decode cX10_lossOf 49 = .ok (.iconst 1, 1) := by decide +kernel
theorem dX10_lossOf_50 : decode cX10_lossOf 50 = .ok (.goto 4, 3) := by decide +kernel
theorem dX10_lossOf_53 : decode cX10_lossOf 53 = .ok (.iconst 0, 1) := by decide +kernel
theorem dX10_lossOf_54 : decode cX10_lossOf 54 = .ok (.iadd, 1) := by decide +kernel
theorem dX10_lossOf_55 : decode cX10_lossOf 55 = .ok (.istore 4, 2) := by decide +kernel
theorem dX10_lossOf_57 : decode cX10_lossOf 57 = .ok (.iload 4, 2) := by decide +kernel
theorem dX10_lossOf_59 : decode cX10_lossOf 59 = .ok (.aload_n 0, 1) := by decide +kernel
theorem dX10_lossOf_60 : decode cX10_lossOf 60 = .ok (.getfield 13, 3) := by decide +kernel
theorem dX10_lossOf_63 : decode cX10_lossOf 63 = .ok (.iload_n 3, 1) := by decide +kernel
theorem dX10_lossOf_64 : decode cX10_lossOf 64 = .ok (.iaload, 1) := by decide +kernel
theorem dX10_lossOf_65 : decode cX10_lossOf 65 = .ok (.iconst 2, 1) := by decide +kernel
theorem dX10_lossOf_66 : decode cX10_lossOf 66 = .ok (.if_icmp .ne 7, 3) := by decide +kernel
theorem dX10_lossOf_69 : decode cX10_lossOf 69 = .ok (.iconst 2, 1) := by decide +kernel
theorem dX10_lossOf_70 : decode cX10_lossOf 70 = .ok (.goto 4, 3) := by decide +kernel
theorem dX10_lossOf_73 : decode cX10_lossOf 73 = .ok (.iconst 0, 1) := by decide +kernel
theorem dX10_lossOf_74 : decode cX10_lossOf 74 = .ok (.iadd, 1) := by decide +kernel
theorem dX10_lossOf_75 : decode cX10_lossOf 75 = .ok (.istore 4, 2) := by decide +kernel
theorem dX10_lossOf_77 : decode cX10_lossOf 77 = .ok (.iload 4, 2) := by decide +kernel
theorem dX10_lossOf_79 : decode cX10_lossOf 79 = .ok (.ifCond .ge 7, 3) := by decide +kernel
theorem dX10_lossOf_82 : decode cX10_lossOf 82 = .ok (.iconst 0, 1) := by decide +kernel
theorem dX10_lossOf_83 : decode cX10_lossOf 83 = .ok (.goto 5, 3) := by decide +kernel
theorem dX10_lossOf_86 : decode cX10_lossOf 86 = .ok (.iload 4, 2) := by decide +kernel
theorem dX10_lossOf_88 : decode cX10_lossOf 88 = .ok (.ireturn, 1) := by decide +kernel
theorem dX10_layMuch_0 : decode cX10_layMuch 0 = .ok (.iconst 0, 1) := by decide +kernel
theorem dX10_layMuch_1 : decode cX10_layMuch 1 = .ok (.istore_n 2, 1) := by decide +kernel
theorem dX10_layMuch_2 : decode cX10_layMuch 2 = .ok (.iload_n 2, 1) := by decide +kernel
theorem dX10_layMuch_3 : decode cX10_layMuch 3 = .ok (.bipush 8, 2) := by decide +kernel
theorem dX10_layMuch_5 : decode cX10_layMuch 5 = .ok (.if_icmp .ge 16, 3) := by decide +kernel
theorem dX10_layMuch_8 : decode cX10_layMuch 8 = .ok (.aload_n 0, 1) := by decide +kernel
theorem dX10_layMuch_9 : decode cX10_layMuch 9 = .ok (.getfield 25, 3) := by decide +kernel
theorem dX10_layMuch_12 : decode cX10_layMuch 12 = .ok (.iload_n 2, 1) := by decide +kernel
theorem dX10_layMuch_13 : decode cX10_layMuch 13 = .ok (.iconst 0, 1) := by decide +kernel
theorem dX10_layMuch_14 : decode cX10_layMuch 14 = .ok (.iastore, 1) := by decide +kernel
theorem dX10_layMuch_15 : decode cX10_layMuch 15 = .ok (.iinc 2 1, 3) := by decide +kernel
theorem dX10_layMuch_18 : decode cX10_layMuch 18 = .ok (.goto (-16), 3) := by decide +kernel
theorem dX10_layMuch_21 : decode cX10_layMuch 21 = .ok (.aload_n 0, 1) := by decide +kernel
theorem dX10_layMuch_22 : decode cX10_layMuch 22 = .ok (.iload_n 1, 1) := by decide +kernel
theorem dX10_layMuch_23 : decode cX10_layMuch 23 = .ok (.invokevirtual 131, 3) := by decide +kernel
theorem dX10_layMuch_26 : decode cX10_layMuch 26 = .ok (.ifCond .ne 4, 3) := by decide +kernel
theorem dX10_layMuch_29 : decode cX10_layMuch 29 = .ok (.return_, 1) := by decide +kernel
theorem dX10_layMuch_30 : decode cX10_layMuch 30 = .ok (.aload_n 0, 1) := by decide +kernel
theorem dX10_layMuch_31 : decode cX10_layMuch 31 = .ok (.getfield 25, 3) := by decide +kernel
theorem dX10_layMuch_34 : decode cX10_layMuch 34 = .ok (.aload_n 0, 1) := by decide +kernel
theorem dX10_layMuch_35 : decode cX10_layMuch 35 = .ok (.getfield 22, 3) := by decide +kernel
theorem dX10_layMuch_38 : decode cX10_layMuch 38 = .ok (.bipush 6, 2) := by decide +kernel
theorem dX10_layMuch_40 : decode cX10_layMuch 40 = .ok (.iload_n 1, 1) := by decide +kernel
theorem dX10_layMuch_41 : decode cX10_layMuch 41 = .ok (.imul, 1) := by decide +kernel
theorem dX10_layMuch_42 : decode cX10_layMuch 42 = .ok (.iconst 2, 1) := by decide +kernel
theorem dX10_layMuch_43 : decode cX10_layMuch 43 = .ok (.iadd, 1) := by decide +kernel
theorem dX10_layMuch_44 : decode cX10_layMuch 44 = .ok (.iaload, 1) := by decide +kernel
theorem dX10_layMuch_45 : decode cX10_layMuch 45 = .ok (.aload_n 0, 1) := by decide +kernel
theorem dX10_layMuch_46 : decode cX10_layMuch 46 = .ok (.iload_n 1, 1) := by decide +kernel
theorem dX10_layMuch_47 : decode cX10_layMuch 47 = .ok (.invokevirtual 134, 3) := by decide +kernel
theorem dX10_layMuch_50 : decode cX10_layMuch 50 = .ok (.iastore, 1) := by decide +kernel
theorem dX10_layMuch_51 : decode cX10_layMuch 51 = .ok (.iconst 1, 1) := by decide +kernel
theorem dX10_layMuch_52 : decode cX10_layMuch 52 = .ok (.istore_n 2, 1) := by decide +kernel
theorem dX10_layMuch_53 : decode cX10_layMuch 53 = .ok (.iload_n 2, 1) := by decide +kernel
theorem dX10_layMuch_54 : decode cX10_layMuch 54 = .ok (.ifCond .eq 150, 3) := by decide +kernel
theorem dX10_layMuch_57 : decode cX10_layMuch 57 = .ok (.iconst 0, 1) := by decide +kernel
theorem dX10_layMuch_58 : decode cX10_layMuch 58 = .ok (.istore_n 2, 1) := by decide +kernel
theorem dX10_layMuch_59 : decode cX10_layMuch 59 = .ok (.iconst 0, 1) := by decide +kernel
theorem dX10_layMuch_60 : decode cX10_layMuch 60 = .ok (.istore_n 3, 1) := by decide +kernel
theorem dX10_layMuch_61 : decode cX10_layMuch 61 = .ok (.iload_n 3, 1) := by decide +kernel
theorem dX10_layMuch_62 : decode cX10_layMuch 62 = .ok (.bipush 32, 2) := by decide +kernel
theorem dX10_layMuch_64 : decode cX10_layMuch 64 = .ok (.if_icmp .ge 137, 3) := by decide +kernel
theorem dX10_layMuch_67 : decode cX10_layMuch 67 = .ok (.iload_n 3, 1) := by decide +kernel
theorem dX10_layMuch_68 : decode cX10_layMuch 68 = .ok (.iconst 4, 1) := by decide +kernel
theorem dX10_layMuch_69 : decode cX10_layMuch 69 = .ok (.idiv, 1) := by decide +kernel
theorem dX10_layMuch_70 : decode cX10_layMuch 70 = .ok (.istore 4, 2) := by decide +kernel
theorem dX10_layMuch_72 : decode cX10_layMuch 72 = .ok (.iload_n 3, 1) := by decide +kernel
theorem dX10_layMuch_73 : decode cX10_layMuch 73 = .ok (.iconst 4, 1) := by decide +kernel
theorem dX10_layMuch_74 : decode cX10_layMuch 74 = .ok (.irem, 1) := by decide +kernel
theorem dX10_layMuch_75 : decode cX10_layMuch 75 = .ok (.iconst 1, 1) := by decide +kernel
theorem dX10_layMuch_76 : decode cX10_layMuch 76 = .ok (.iadd, 1) := by decide +kernel
theorem dX10_layMuch_77 : decode cX10_layMuch 77 = .ok (.istore 5, 2) := by decide +kernel
theorem dX10_layMuch_79 : decode cX10_layMuch 79 = .ok (.iload 4, 2) := by decide +kernel
theorem dX10_layMuch_81 : decode cX10_layMuch 81 = .ok (.iload 5, 2) := by decide +kernel
theorem dX10_layMuch_83 : decode cX10_layMuch 83 = .ok (.invokestatic 137, 3) := by decide +kernel
theorem dX10_layMuch_86 : decode cX10_layMuch 86 = .ok (.istore 6, 2) := by decide +kernel
theorem dX10_layMuch_88 : decode cX10_layMuch 88 = .ok (.iload 6, 2) := by decide +kernel
theorem dX10_layMuch_90 : decode cX10_layMuch 90 = .ok (.iconst (-1), 1) := by decide +kernel
theorem dX10_layMuch_91 : decode cX10_layMuch 91 = .ok (.if_icmp .eq 104, 3) := by decide +kernel
theorem dX10_layMuch_94 : decode cX10_layMuch 94 = .ok (.aload_n 0, 1) := by decide +kernel
theorem dX10_layMuch_95 : decode cX10_layMuch 95 = .ok (.getfield 13, 3) := by decide +kernel
theorem dX10_layMuch_98 : decode cX10_layMuch 98 = .ok (.iload 6, 2) := by decide +kernel
theorem dX10_layMuch_100 : decode cX10_layMuch 100 = .ok (.iaload, 1) := by decide +kernel
theorem dX10_layMuch_101 : decode cX10_layMuch 101 = .ok (.iconst 1, 1) := by decide +kernel
theorem dX10_layMuch_102 : decode cX10_layMuch 102 = .ok (.if_icmp .eq 93, 3) := by decide +kernel
theorem dX10_layMuch_105 : decode cX10_layMuch 105 = .ok (.aload_n 0, 1) := by decide +kernel
theorem dX10_layMuch_106 : decode cX10_layMuch 106 = .ok (.getfield 25, 3) := by decide +kernel
theorem dX10_layMuch_109 : decode cX10_layMuch 109 = .ok (.iload 4, 2) := by decide +kernel
theorem dX10_layMuch_111 : decode cX10_layMuch 111 = .ok (.iaload, 1) := by decide +kernel
theorem dX10_layMuch_112 : decode cX10_layMuch 112 = .ok (.ifCond .le 83, 3) := by decide +kernel
theorem dX10_layMuch_115 : decode cX10_layMuch 115 = .ok (.aload_n 0, 1) := by decide +kernel
theorem dX10_layMuch_116 : decode cX10_layMuch 116 = .ok (.getfield 25, 3) := by decide +kernel
theorem dX10_layMuch_119 : decode cX10_layMuch 119 = .ok (.iload 4, 2) := by decide +kernel
theorem dX10_layMuch_121 : decode cX10_layMuch 121 = .ok (.iaload, 1) := by decide +kernel
theorem dX10_layMuch_122 : decode cX10_layMuch 122 = .ok (.aload_n 0, 1) := by decide +kernel
theorem dX10_layMuch_123 : decode cX10_layMuch 123 = .ok (.aload_n 0, 1) := by decide +kernel
theorem dX10_layMuch_124 : decode cX10_layMuch 124 = .ok (.getfield 22, 3) := by decide +kernel
theorem dX10_layMuch_127 : decode cX10_layMuch 127 = .ok (.bipush 6, 2) := by decide +kernel
theorem dX10_layMuch_129 : decode cX10_layMuch 129 = .ok (.iload_n 1, 1) := by decide +kernel
theorem dX10_layMuch_130 : decode cX10_layMuch 130 = .ok (.imul, 1) := by decide +kernel
theorem dX10_layMuch_131 : decode cX10_layMuch 131 = .ok (.iaload, 1) := by decide +kernel
theorem dX10_layMuch_132 : decode cX10_layMuch 132 = .ok (.iload 5, 2) := by decide +kernel
theorem dX10_layMuch_134 : decode cX10_layMuch 134 = .ok (.iload 6, 2) := by decide +kernel
theorem dX10_layMuch_136 : decode cX10_layMuch 136 = .ok (.invokevirtual 141, 3) := by decide +kernel
theorem dX10_layMuch_139 : decode cX10_layMuch 139 = .ok (.isub, 1) := by decide +kernel
theorem dX10_layMuch_140 : decode cX10_layMuch 140 = .ok (.istore 7, 2) := by decide +kernel
theorem dX10_layMuch_142 : decode cX10_layMuch 142 = .ok (.iload_n 2, 1) := by decide +kernel
theorem dX10_layMuch_143 : decode cX10_layMuch 143 = .ok (.ifCond .ne 15, 3) := by decide +kernel
theorem dX10_layMuch_146 : decode cX10_layMuch 146 = .ok (.iload 7, 2) := by decide +kernel
theorem dX10_layMuch_148 : decode cX10_layMuch 148 = .ok (.aload_n 0, 1) := by decide +kernel
theorem dX10_layMuch_149 : decode cX10_layMuch 149 = .ok (.getfield 25, 3) := by decide +kernel
theorem dX10_layMuch_152 : decode cX10_layMuch 152 = .ok (.iload 6, 2) := by decide +kernel
theorem dX10_layMuch_154 : decode cX10_layMuch 154 = .ok (.iaload, 1) := by decide +kernel
theorem dX10_layMuch_155 : decode cX10_layMuch 155 = .ok (.if_icmp .le 7, 3) := by decide +kernel
theorem dX10_layMuch_158 : decode cX10_layMuch 158 = .ok (.iconst 1, 1) := by decide +kernel
theorem dX10_layMuch_159 : decode cX10_layMuch 159 = .ok (.goto 4, 3) := by decide +kernel
theorem dX10_layMuch_162 : decode cX10_layMuch 162 = .ok (.iconst 0, 1) := by decide +kernel
theorem dX10_layMuch_163 : decode cX10_layMuch 163 = .ok (.istore_n 2, 1) := by decide +kernel
theorem dX10_layMuch_164 : decode cX10_layMuch 164 = .ok (.aload_n 0, 1) := by decide +kernel
theorem dX10_layMuch_165 : decode cX10_layMuch 165 = .ok (.getfield 25, 3) := by decide +kernel
theorem dX10_layMuch_168 : decode cX10_layMuch 168 = .ok (.iload 6, 2) := by decide +kernel
theorem dX10_layMuch_170 : decode cX10_layMuch 170 = .ok (.iload 7, 2) := by decide +kernel
theorem dX10_layMuch_172 : decode cX10_layMuch 172 = .ok (.aload_n 0, 1) := by decide +kernel
theorem dX10_layMuch_173 : decode cX10_layMuch 173 = .ok (.getfield 25, 3) := by decide +kernel
theorem dX10_layMuch_176 : decode cX10_layMuch 176 = .ok (.iload 6, 2) := by decide +kernel
theorem dX10_layMuch_178 : decode cX10_layMuch 178 = .ok (.iaload, 1) := by decide +kernel
theorem dX10_layMuch_179 : decode cX10_layMuch 179 = .ok (.if_icmp .le 8, 3) := by decide +kernel
theorem dX10_layMuch_182 : decode cX10_layMuch 182 = .ok (.iload 7, 2) := by decide +kernel
theorem dX10_layMuch_184 : decode cX10_layMuch 184 = .ok (.goto 10, 3) := by decide +kernel
theorem dX10_layMuch_187 : decode cX10_layMuch 187 = .ok (.aload_n 0, 1) := by decide +kernel
theorem dX10_layMuch_188 : decode cX10_layMuch 188 = .ok (.getfield 25, 3) := by decide +kernel
theorem dX10_layMuch_191 : decode cX10_layMuch 191 = .ok (.iload 6, 2) := by decide +kernel
theorem dX10_layMuch_193 : decode cX10_layMuch 193 = .ok (.iaload, 1) := by decide +kernel
theorem dX10_layMuch_194 : decode cX10_layMuch 194 = .ok (.iastore, 1) := by decide +kernel
theorem dX10_layMuch_195 : decode cX10_layMuch 195 = .ok (.iinc 3 1, 3) := by decide +kernel
theorem dX10_layMuch_198 : decode cX10_layMuch 198 = .ok (.goto (-137), 3) := by decide +kernel
theorem dX10_layMuch_201 : decode cX10_layMuch 201 = .ok (.goto (-148), 3) := by decide +kernel
theorem dX10_layMuch_204 : decode cX10_layMuch 204 = .ok (.return_, 1) := by decide +kernel
theorem dX10_layCells_0 : decode cX10_layCells 0 = .ok (.iconst 0, 1) := by decide +kernel
theorem dX10_layCells_1 : decode cX10_layCells 1 = .ok (.istore_n 1, 1) := by decide +kernel
theorem dX10_layCells_2 : decode cX10_layCells 2 = .ok (.iload_n 1, 1) := by decide +kernel
theorem dX10_layCells_3 : decode cX10_layCells 3 = .ok (.bipush 8, 2) := by decide +kernel
theorem dX10_layCells_5 : decode cX10_layCells 5 = .ok (.if_icmp .ge 23, 3) := by decide +kernel
theorem dX10_layCells_8 : decode cX10_layCells 8 = .ok (.aload_n 0, 1) := by decide +kernel
theorem dX10_layCells_9 : decode cX10_layCells 9 = .ok (.getfield 28, 3) := by decide +kernel
theorem dX10_layCells_12 : decode cX10_layCells 12 = .ok (.iload_n 1, 1) := by decide +kernel
theorem dX10_layCells_13 : decode cX10_layCells 13 = .ok (.iconst (-1), 1) := by decide +kernel
theorem dX10_layCells_14 : decode cX10_layCells 14 = .ok (.iastore, 1) := by decide +kernel
theorem dX10_layCells_15 : decode cX10_layCells 15 = .ok (.aload_n 0, 1) := by decide +kernel
theorem dX10_layCells_16 : decode cX10_layCells 16 = .ok (.getfield 31, 3) := by decide +kernel
theorem dX10_layCells_19 : decode cX10_layCells 19 = .ok (.iload_n 1, 1) := by decide +kernel
theorem dX10_layCells_20 : decode cX10_layCells 20 = .ok (.iconst 0, 1) := by decide +kernel
theorem dX10_layCells_21 : decode cX10_layCells 21 = .ok (.iastore, 1) := by decide +kernel
theorem dX10_layCells_22 : decode cX10_layCells 22 = .ok (.iinc 1 1, 3) := by decide +kernel
theorem dX10_layCells_25 : decode cX10_layCells 25 = .ok (.goto (-23), 3) := by decide +kernel
theorem dX10_layCells_28 : decode cX10_layCells 28 = .ok (.iconst 0, 1) := by decide +kernel
theorem dX10_layCells_29 : decode cX10_layCells 29 = .ok (.istore_n 1, 1) := by decide +kernel
theorem dX10_layCells_30 : decode cX10_layCells 30 = .ok (.iload_n 1, 1) := by decide +kernel
theorem dX10_layCells_31 : decode cX10_layCells 31 = .ok (.aload_n 0, 1) := by decide +kernel
theorem dX10_layCells_32 : decode cX10_layCells 32 = .ok (.getfield 95, 3) := by decide +kernel
theorem dX10_layCells_35 : decode cX10_layCells 35 = .ok (.if_icmp .ge 95, 3) := by decide +kernel
theorem dX10_layCells_38 : decode cX10_layCells 38 = .ok (.aload_n 0, 1) := by decide +kernel
theorem dX10_layCells_39 : decode cX10_layCells 39 = .ok (.iload_n 1, 1) := by decide +kernel
theorem dX10_layCells_40 : decode cX10_layCells 40 = .ok (.invokevirtual 145, 3) := by decide +kernel
theorem dX10_layCells_43 : decode cX10_layCells 43 = .ok (.iconst 0, 1) := by decide +kernel
theorem dX10_layCells_44 : decode cX10_layCells 44 = .ok (.istore_n 2, 1) := by decide +kernel
theorem dX10_layCells_45 : decode cX10_layCells 45 = .ok (.iload_n 2, 1) := by decide +kernel
theorem dX10_layCells_46 : decode cX10_layCells 46 = .ok (.bipush 8, 2) := by decide +kernel
theorem dX10_layCells_48 : decode cX10_layCells 48 = .ok (.if_icmp .ge 76, 3) := by decide +kernel
theorem dX10_layCells_51 : decode cX10_layCells 51 = .ok (.aload_n 0, 1) := by decide +kernel
theorem dX10_layCells_52 : decode cX10_layCells 52 = .ok (.getfield 28, 3) := by decide +kernel
theorem dX10_layCells_55 : decode cX10_layCells 55 = .ok (.iload_n 2, 1) := by decide +kernel
theorem dX10_layCells_56 : decode cX10_layCells 56 = .ok (.aload_n 0, 1) := by decide +kernel
theorem dX10_layCells_57 : decode cX10_layCells 57 = .ok (.getfield 25, 3) := by decide +kernel
theorem dX10_layCells_60 : decode cX10_layCells 60 = .ok (.iload_n 2, 1) := by decide +kernel
theorem dX10_layCells_61 : decode cX10_layCells 61 = .ok (.iaload, 1) := by decide +kernel
theorem dX10_layCells_62 : decode cX10_layCells 62 = .ok (.aload_n 0, 1) := by decide +kernel
theorem dX10_layCells_63 : decode cX10_layCells 63 = .ok (.getfield 31, 3) := by decide +kernel
theorem dX10_layCells_66 : decode cX10_layCells 66 = .ok (.iload_n 2, 1) := by decide +kernel
theorem dX10_layCells_67 : decode cX10_layCells 67 = .ok (.iaload, 1) := by decide +kernel
theorem dX10_layCells_68 : decode cX10_layCells 68 = .ok (.if_icmp .le 7, 3) := by decide +kernel
theorem dX10_layCells_71 : decode cX10_layCells 71 = .ok (.iload_n 1, 1) := by decide +kernel
theorem dX10_layCells_72 : decode cX10_layCells 72 = .ok (.goto 9, 3) := by decide +kernel
theorem dX10_layCells_75 : decode cX10_layCells 75 = .ok (.aload_n 0, 1) := by decide +kernel
theorem dX10_layCells_76 : decode cX10_layCells 76 = .ok (.getfield 28, 3) := by decide +kernel
theorem dX10_layCells_79 : decode cX10_layCells 79 = .ok (.iload_n 2, 1) := by decide +kernel
theorem dX10_layCells_80 : decode cX10_layCells 80 = .ok (.iaload, 1) := by decide +kernel
theorem dX10_layCells_81 : decode cX10_layCells 81 = .ok (.iastore, 1) := by decide +kernel
theorem dX10_layCells_82 : decode cX10_layCells 82 = .ok (.aload_n 0, 1) := by decide +kernel
theorem dX10_layCells_83 : decode cX10_layCells 83 = .ok (.getfield 31, 3) := by decide +kernel
theorem dX10_layCells_86 : decode cX10_layCells 86 = .ok (.iload_n 2, 1) := by decide +kernel
theorem dX10_layCells_87 : decode cX10_layCells 87 = .ok (.aload_n 0, 1) := by decide +kernel
theorem dX10_layCells_88 : decode cX10_layCells 88 = .ok (.getfield 25, 3) := by decide +kernel
theorem dX10_layCells_91 : decode cX10_layCells 91 = .ok (.iload_n 2, 1) := by decide +kernel
theorem dX10_layCells_92 : decode cX10_layCells 92 = .ok (.iaload, 1) := by decide +kernel
theorem dX10_layCells_93 : decode cX10_layCells 93 = .ok (.aload_n 0, 1) := by decide +kernel
theorem dX10_layCells_94 : decode cX10_layCells 94 = .ok (.getfield 31, 3) := by decide +kernel
theorem dX10_layCells_97 : decode cX10_layCells 97 = .ok (.iload_n 2, 1) := by decide +kernel
theorem dX10_layCells_98 : decode cX10_layCells 98 = .ok (.iaload, 1) := by decide +kernel
theorem dX10_layCells_99 : decode cX10_layCells 99 = .ok (.if_icmp .le 12, 3) := by decide +kernel
theorem dX10_layCells_102 : decode cX10_layCells 102 = .ok (.aload_n 0, 1) := by decide +kernel
theorem dX10_layCells_103 : decode cX10_layCells 103 = .ok (.getfield 25, 3) := by decide +kernel
theorem dX10_layCells_106 : decode cX10_layCells 106 = .ok (.iload_n 2, 1) := by decide +kernel
theorem dX10_layCells_107 : decode cX10_layCells 107 = .ok (.iaload, 1) := by decide +kernel
theorem dX10_layCells_108 : decode cX10_layCells 108 = .ok (.goto 9, 3) := by decide +kernel
theorem dX10_layCells_111 : decode cX10_layCells 111 = .ok (.aload_n 0, 1) := by decide +kernel
theorem dX10_layCells_112 : decode cX10_layCells 112 = .ok (.getfield 31, 3) := by decide +kernel
theorem dX10_layCells_115 : decode cX10_layCells 115 = .ok (.iload_n 2, 1) := by decide +kernel
theorem dX10_layCells_116 : decode cX10_layCells 116 = .ok (.iaload, 1) := by decide +kernel
theorem dX10_layCells_117 : decode cX10_layCells 117 = .ok (.iastore, 1) := by decide +kernel
theorem dX10_layCells_118 : decode cX10_layCells 118 = .ok (.iinc 2 1, 3) := by decide +kernel
theorem dX10_layCells_121 : decode cX10_layCells 121 = .ok (.goto (-76), 3) := by decide +kernel
theorem dX10_layCells_124 : decode cX10_layCells 124 = .ok (.iinc 1 1, 3) := by decide +kernel
theorem dX10_layCells_127 : decode cX10_layCells 127 = .ok (.goto (-97), 3) := by decide +kernel
theorem dX10_layCells_130 : decode cX10_layCells 130 = .ok (.return_, 1) := by decide +kernel
theorem dX10_whose_0 : decode cX10_whose 0 = .ok (.aload_n 0, 1) := by decide +kernel
theorem dX10_whose_1 : decode cX10_whose 1 = .ok (.getfield 28, 3) := by decide +kernel
theorem dX10_whose_4 : decode cX10_whose 4 = .ok (.iload_n 1, 1) := by decide +kernel
theorem dX10_whose_5 : decode cX10_whose 5 = .ok (.iaload, 1) := by decide +kernel
theorem dX10_whose_6 : decode cX10_whose 6 = .ok (.iconst (-1), 1) := by decide +kernel
theorem dX10_whose_7 : decode cX10_whose 7 = .ok (.if_icmp .ne 7, 3) := by decide +kernel
theorem dX10_whose_10 : decode cX10_whose 10 = .ok (.iconst (-1), 1) := by decide +kernel
theorem dX10_whose_11 : decode cX10_whose 11 = .ok (.goto 19, 3) := by decide +kernel
theorem dX10_whose_14 : decode cX10_whose 14 = .ok (.aload_n 0, 1) := by decide +kernel
theorem dX10_whose_15 : decode cX10_whose 15 = .ok (.getfield 22, 3) := by decide +kernel
theorem dX10_whose_18 : decode cX10_whose 18 = .ok (.bipush 6, 2) := by decide +kernel
theorem dX10_whose_20 : decode cX10_whose 20 = .ok (.aload_n 0, 1) := by decide +kernel
theorem dX10_whose_21 : decode cX10_whose 21 = .ok (.getfield 28, 3) := by decide +kernel
theorem dX10_whose_24 : decode cX10_whose 24 = .ok (.iload_n 1, 1) := by decide +kernel
theorem dX10_whose_25 : decode cX10_whose 25 = .ok (.iaload, 1) := by decide +kernel
theorem dX10_whose_26 : decode cX10_whose 26 = .ok (.imul, 1) := by decide +kernel
theorem dX10_whose_27 : decode cX10_whose 27 = .ok (.iconst 1, 1) := by decide +kernel
theorem dX10_whose_28 : decode cX10_whose 28 = .ok (.iadd, 1) := by decide +kernel
theorem dX10_whose_29 : decode cX10_whose 29 = .ok (.iaload, 1) := by decide +kernel
theorem dX10_whose_30 : decode cX10_whose 30 = .ok (.ireturn, 1) := by decide +kernel
theorem dX10_tellCell_0 : decode cX10_tellCell 0 = .ok (.aload_n 0, 1) := by decide +kernel
theorem dX10_tellCell_1 : decode cX10_tellCell 1 = .ok (.invokevirtual 149, 3) := by decide +kernel
theorem dX10_tellCell_4 : decode cX10_tellCell 4 = .ok (.iload_n 2, 1) := by decide +kernel
theorem dX10_tellCell_5 : decode cX10_tellCell 5 = .ok (.tableswitch 69 0 4 #[35, 42, 48, 55, 62], 35) := by decide +kernel
theorem dX10_tellCell_40 : decode cX10_tellCell 40 = .ok (.aload_n 0, 1) := by decide +kernel
theorem dX10_tellCell_41 : decode cX10_tellCell 41 = .ok (.getfield 13, 3) := by decide +kernel
theorem dX10_tellCell_44 : decode cX10_tellCell 44 = .ok (.iload_n 1, 1) := by decide +kernel
theorem dX10_tellCell_45 : decode cX10_tellCell 45 = .ok (.iaload, 1) := by decide +kernel
theorem dX10_tellCell_46 : decode cX10_tellCell 46 = .ok (.ireturn, 1) := by decide +kernel
theorem dX10_tellCell_47 : decode cX10_tellCell 47 = .ok (.aload_n 0, 1) := by decide +kernel
theorem dX10_tellCell_48 : decode cX10_tellCell 48 = .ok (.iload_n 1, 1) := by decide +kernel
theorem dX10_tellCell_49 : decode cX10_tellCell 49 = .ok (.invokevirtual 152, 3) := by decide +kernel
theorem dX10_tellCell_52 : decode cX10_tellCell 52 = .ok (.ireturn, 1) := by decide +kernel
theorem dX10_tellCell_53 : decode cX10_tellCell 53 = .ok (.aload_n 0, 1) := by decide +kernel
theorem dX10_tellCell_54 : decode cX10_tellCell 54 = .ok (.getfield 31, 3) := by decide +kernel
theorem dX10_tellCell_57 : decode cX10_tellCell 57 = .ok (.iload_n 1, 1) := by decide +kernel
theorem dX10_tellCell_58 : decode cX10_tellCell 58 = .ok (.iaload, 1) := by decide +kernel
theorem dX10_tellCell_59 : decode cX10_tellCell 59 = .ok (.ireturn, 1) := by decide +kernel
theorem dX10_tellCell_60 : decode cX10_tellCell 60 = .ok (.aload_n 0, 1) := by decide +kernel
theorem dX10_tellCell_61 : decode cX10_tellCell 61 = .ok (.getfield 16, 3) := by decide +kernel
theorem dX10_tellCell_64 : decode cX10_tellCell 64 = .ok (.iload_n 1, 1) := by decide +kernel
theorem dX10_tellCell_65 : decode cX10_tellCell 65 = .ok (.iaload, 1) := by decide +kernel
theorem dX10_tellCell_66 : decode cX10_tellCell 66 = .ok (.ireturn, 1) := by decide +kernel
theorem dX10_tellCell_67 : decode cX10_tellCell 67 = .ok (.aload_n 0, 1) := by decide +kernel
theorem dX10_tellCell_68 : decode cX10_tellCell 68 = .ok (.getfield 28, 3) := by decide +kernel
theorem dX10_tellCell_71 : decode cX10_tellCell 71 = .ok (.iload_n 1, 1) := by decide +kernel
theorem dX10_tellCell_72 : decode cX10_tellCell 72 = .ok (.iaload, 1) := by decide +kernel
theorem dX10_tellCell_73 : decode cX10_tellCell 73 = .ok (.ireturn, 1) := by decide +kernel
theorem dX10_tellCell_74 : decode cX10_tellCell 74 = .ok (.bipush (-102), 2) := by decide +kernel
theorem dX10_tellCell_76 : decode cX10_tellCell 76 = .ok (.ireturn, 1) := by decide +kernel
theorem dX10_cell_0 : decode cX10_cell 0 = .ok (.aload_n 0, 1) := by decide +kernel
theorem dX10_cell_1 : decode cX10_cell 1 = .ok (.iload_n 1, 1) := by decide +kernel
theorem dX10_cell_2 : decode cX10_cell 2 = .ok (.invokevirtual 119, 3) := by decide +kernel
theorem dX10_cell_5 : decode cX10_cell 5 = .ok (.ifCond .eq 12, 3) := by decide +kernel
theorem dX10_cell_8 : decode cX10_cell 8 = .ok (.aload_n 0, 1) := by decide +kernel
theorem dX10_cell_9 : decode cX10_cell 9 = .ok (.iload_n 1, 1) := by decide +kernel
theorem dX10_cell_10 : decode cX10_cell 10 = .ok (.iload_n 2, 1) := by decide +kernel
theorem dX10_cell_11 : decode cX10_cell 11 = .ok (.invokevirtual 155, 3) := by decide +kernel
theorem dX10_cell_14 : decode cX10_cell 14 = .ok (.goto 5, 3) := by decide +kernel
theorem dX10_cell_17 : decode cX10_cell 17 = .ok (.bipush (-101), 2) := by decide +kernel
theorem dX10_cell_19 : decode cX10_cell 19 = .ok (.ireturn, 1) := by decide +kernel
theorem dX10_bordersOf_0 : decode cX10_bordersOf 0 = .ok (.aload_n 0, 1) := by decide +kernel
theorem dX10_bordersOf_1 : decode cX10_bordersOf 1 = .ok (.invokevirtual 149, 3) := by decide +kernel
theorem dX10_bordersOf_4 : decode cX10_bordersOf 4 = .ok (.iconst 0, 1) := by decide +kernel
theorem dX10_bordersOf_5 : decode cX10_bordersOf 5 = .ok (.istore_n 1, 1) := by decide +kernel
theorem dX10_bordersOf_6 : decode cX10_bordersOf 6 = .ok (.iconst 0, 1) := by decide +kernel
theorem dX10_bordersOf_7 : decode cX10_bordersOf 7 = .ok (.istore_n 2, 1) := by decide +kernel
theorem dX10_bordersOf_8 : decode cX10_bordersOf 8 = .ok (.iload_n 2, 1) := by decide +kernel
theorem dX10_bordersOf_9 : decode cX10_bordersOf 9 = .ok (.bipush 16, 2) := by decide +kernel
theorem dX10_bordersOf_11 : decode cX10_bordersOf 11 = .ok (.if_icmp .ge 77, 3) := by decide +kernel
theorem dX10_bordersOf_14 : decode cX10_bordersOf 14 = .ok (.iload_n 2, 1) := by decide +kernel
theorem dX10_bordersOf_15 : decode cX10_bordersOf 15 = .ok (.iconst 2, 1) := by decide +kernel
theorem dX10_bordersOf_16 : decode cX10_bordersOf 16 = .ok (.idiv, 1) := by decide +kernel
theorem dX10_bordersOf_17 : decode cX10_bordersOf 17 = .ok (.istore_n 3, 1) := by decide +kernel
theorem dX10_bordersOf_18 : decode cX10_bordersOf 18 = .ok (.iload_n 3, 1) := by decide +kernel
theorem dX10_bordersOf_19 : decode cX10_bordersOf 19 = .ok (.iload_n 2, 1) := by decide +kernel
theorem dX10_bordersOf_20 : decode cX10_bordersOf 20 = .ok (.iconst 2, 1) := by decide +kernel
theorem dX10_bordersOf_21 : decode cX10_bordersOf 21 = .ok (.irem, 1) := by decide +kernel
theorem dX10_bordersOf_22 : decode cX10_bordersOf 22 = .ok (.ifCond .ne 7, 3) := by decide +kernel
theorem dX10_bordersOf_25 : decode cX10_bordersOf 25 = .ok (.iconst 1, 1) := by decide +kernel
theorem dX10_bordersOf_26 : decode cX10_bordersOf 26 = .ok (.goto 4, 3) := by decide +kernel
theorem dX10_bordersOf_29 : decode cX10_bordersOf 29 = .ok (.iconst 3, 1) := by decide +kernel
theorem dX10_bordersOf_30 : decode cX10_bordersOf 30 = .ok (.invokestatic 137, 3) := by decide +kernel
theorem dX10_bordersOf_33 : decode cX10_bordersOf 33 = .ok (.istore 4, 2) := by decide +kernel
theorem dX10_bordersOf_35 : decode cX10_bordersOf 35 = .ok (.iload_n 1, 1) := by decide +kernel
theorem dX10_bordersOf_36 : decode cX10_bordersOf 36 = .ok (.iload 4, 2) := by decide +kernel
theorem dX10_bordersOf_38 : decode cX10_bordersOf 38 = .ok (.iconst (-1), 1) := by decide +kernel
theorem dX10_bordersOf_39 : decode cX10_bordersOf 39 = .ok (.if_icmp .eq 40, 3) := by decide +kernel
theorem dX10_bordersOf_42 : decode cX10_bordersOf 42 = .ok (.aload_n 0, 1) := by decide +kernel
theorem dX10_bordersOf_43 : decode cX10_bordersOf 43 = .ok (.iload_n 3, 1) := by decide +kernel
theorem dX10_bordersOf_44 : decode cX10_bordersOf 44 = .ok (.invokevirtual 152, 3) := by decide +kernel
theorem dX10_bordersOf_47 : decode cX10_bordersOf 47 = .ok (.iconst (-1), 1) := by decide +kernel
theorem dX10_bordersOf_48 : decode cX10_bordersOf 48 = .ok (.if_icmp .eq 31, 3) := by decide +kernel
theorem dX10_bordersOf_51 : decode cX10_bordersOf 51 = .ok (.aload_n 0, 1) := by decide +kernel
theorem dX10_bordersOf_52 : decode cX10_bordersOf 52 = .ok (.iload 4, 2) := by decide +kernel
theorem dX10_bordersOf_54 : decode cX10_bordersOf 54 = .ok (.invokevirtual 152, 3) := by decide +kernel
theorem dX10_bordersOf_57 : decode cX10_bordersOf 57 = .ok (.iconst (-1), 1) := by decide +kernel
theorem dX10_bordersOf_58 : decode cX10_bordersOf 58 = .ok (.if_icmp .eq 21, 3) := by decide +kernel
theorem dX10_bordersOf_61 : decode cX10_bordersOf 61 = .ok (.aload_n 0, 1) := by decide +kernel
theorem dX10_bordersOf_62 : decode cX10_bordersOf 62 = .ok (.iload_n 3, 1) := by decide +kernel
theorem dX10_bordersOf_63 : decode cX10_bordersOf 63 = .ok (.invokevirtual 152, 3) := by decide +kernel
theorem dX10_bordersOf_66 : decode cX10_bordersOf 66 = .ok (.aload_n 0, 1) := by decide +kernel
theorem dX10_bordersOf_67 : decode cX10_bordersOf 67 = .ok (.iload 4, 2) := by decide +kernel
theorem dX10_bordersOf_69 : decode cX10_bordersOf 69 = .ok (.invokevirtual 152, 3) := by decide +kernel
theorem dX10_bordersOf_72 : decode cX10_bordersOf 72 = .ok (.if_icmp .eq 7, 3) := by decide +kernel
theorem dX10_bordersOf_75 : decode cX10_bordersOf 75 = .ok (.iconst 1, 1) := by decide +kernel
theorem dX10_bordersOf_76 : decode cX10_bordersOf 76 = .ok (.goto 4, 3) := by decide +kernel
theorem dX10_bordersOf_79 : decode cX10_bordersOf 79 = .ok (.iconst 0, 1) := by decide +kernel
theorem dX10_bordersOf_80 : decode cX10_bordersOf 80 = .ok (.iadd, 1) := by decide +kernel
theorem dX10_bordersOf_81 : decode cX10_bordersOf 81 = .ok (.istore_n 1, 1) := by decide +kernel
theorem dX10_bordersOf_82 : decode cX10_bordersOf 82 = .ok (.iinc 2 1, 3) := by decide +kernel
theorem dX10_bordersOf_85 : decode cX10_bordersOf 85 = .ok (.goto (-77), 3) := by decide +kernel
theorem dX10_bordersOf_88 : decode cX10_bordersOf 88 = .ok (.iload_n 1, 1) := by decide +kernel
theorem dX10_bordersOf_89 : decode cX10_bordersOf 89 = .ok (.ireturn, 1) := by decide +kernel
theorem dX10_borders_0 : decode cX10_borders 0 = .ok (.aload_n 0, 1) := by decide +kernel
theorem dX10_borders_1 : decode cX10_borders 1 = .ok (.invokevirtual 109, 3) := by decide +kernel
theorem dX10_borders_4 : decode cX10_borders 4 = .ok (.ifCond .eq 7, 3) := by decide +kernel
theorem dX10_borders_7 : decode cX10_borders 7 = .ok (.iconst 0, 1) := by decide +kernel
theorem dX10_borders_8 : decode cX10_borders 8 = .ok (.goto 7, 3) := by decide +kernel
theorem dX10_borders_11 : decode cX10_borders 11 = .ok (.aload_n 0, 1) := by decide +kernel
theorem dX10_borders_12 : decode cX10_borders 12 = .ok (.invokevirtual 158, 3) := by decide +kernel
theorem dX10_borders_15 : decode cX10_borders 15 = .ok (.ireturn, 1) := by decide +kernel
theorem dX10_tell_0 : decode cX10_tell 0 = .ok (.iload_n 2, 1) := by decide +kernel
theorem dX10_tell_1 : decode cX10_tell 1 = .ok (.i2l, 1) := by decide +kernel
theorem dX10_tell_2 : decode cX10_tell 2 = .ok (.ldc2_w 161, 3) := by decide +kernel
theorem dX10_tell_5 : decode cX10_tell 5 = .ok (.ldc2_w 163, 3) := by decide +kernel
theorem dX10_tell_8 : decode cX10_tell 8 = .ok (.invokestatic 64, 3) := by decide +kernel
theorem dX10_tell_11 : decode cX10_tell 11 = .ok (.ifCond .eq 18, 3) := by decide +kernel
theorem dX10_tell_14 : decode cX10_tell 14 = .ok (.aload_n 0, 1) := by decide +kernel
theorem dX10_tell_15 : decode cX10_tell 15 = .ok (.iload_n 1, 1) := by decide +kernel
theorem dX10_tell_16 : decode cX10_tell 16 = .ok (.invokevirtual 145, 3) := by decide +kernel
theorem dX10_tell_19 : decode cX10_tell 19 = .ok (.aload_n 0, 1) := by decide +kernel
theorem dX10_tell_20 : decode cX10_tell 20 = .ok (.getfield 25, 3) := by decide +kernel
theorem dX10_tell_23 : decode cX10_tell 23 = .ok (.iload_n 2, 1) := by decide +kernel
theorem dX10_tell_24 : decode cX10_tell 24 = .ok (.bipush 10, 2) := by decide +kernel
theorem dX10_tell_26 : decode cX10_tell 26 = .ok (.isub, 1) := by decide +kernel
theorem dX10_tell_27 : decode cX10_tell 27 = .ok (.iaload, 1) := by decide +kernel
theorem dX10_tell_28 : decode cX10_tell 28 = .ok (.ireturn, 1) := by decide +kernel
theorem dX10_tell_29 : decode cX10_tell 29 = .ok (.iload_n 2, 1) := by decide +kernel
theorem dX10_tell_30 : decode cX10_tell 30 = .ok (.i2l, 1) := by decide +kernel
theorem dX10_tell_31 : decode cX10_tell 31 = .ok (.lconst 0, 1) := by decide +kernel
theorem dX10_tell_32 : decode cX10_tell 32 = .ok (.ldc2_w 165, 3) := by decide +kernel
theorem dX10_tell_35 : decode cX10_tell 35 = .ok (.invokestatic 64, 3) := by decide +kernel
theorem dX10_tell_38 : decode cX10_tell 38 = .ok (.ifCond .eq 15, 3) := by decide +kernel
theorem dX10_tell_41 : decode cX10_tell 41 = .ok (.aload_n 0, 1) := by decide +kernel
theorem dX10_tell_42 : decode cX10_tell 42 = .ok (.getfield 22, 3) := by decide +kernel
theorem dX10_tell_45 : decode cX10_tell 45 = .ok (.bipush 6, 2) := by decide +kernel
theorem dX10_tell_47 : decode cX10_tell 47 = .ok (.iload_n 1, 1) := by decide +kernel
theorem dX10_tell_48 : decode cX10_tell 48 = .ok (.imul, 1) := by decide +kernel
theorem dX10_tell_49 : decode cX10_tell 49 = .ok (.iload_n 2, 1) := by decide +kernel
theorem dX10_tell_50 : decode cX10_tell 50 = .ok (.iadd, 1) := by decide +kernel
theorem dX10_tell_51 : decode cX10_tell 51 = .ok (.iaload, 1) := by decide +kernel
theorem dX10_tell_52 : decode cX10_tell 52 = .ok (.ireturn, 1) := by decide +kernel
theorem dX10_tell_53 : decode cX10_tell 53 = .ok (.iload_n 2, 1) := by decide +kernel
theorem dX10_tell_54 : decode cX10_tell 54 = .ok (.bipush 6, 2) := by decide +kernel
theorem dX10_tell_56 : decode cX10_tell 56 = .ok (.if_icmp .ne 11, 3) := by decide +kernel
theorem dX10_tell_59 : decode cX10_tell 59 = .ok (.aload_n 0, 1) := by decide +kernel
theorem dX10_tell_60 : decode cX10_tell 60 = .ok (.iload_n 1, 1) := by decide +kernel
theorem dX10_tell_61 : decode cX10_tell 61 = .ok (.invokevirtual 134, 3) := by decide +kernel
theorem dX10_tell_64 : decode cX10_tell 64 = .ok (.goto 27, 3) := by decide +kernel
theorem dX10_tell_67 : decode cX10_tell 67 = .ok (.iload_n 2, 1) := by decide +kernel
theorem dX10_tell_68 : decode cX10_tell 68 = .ok (.bipush 7, 2) := by decide +kernel
theorem dX10_tell_70 : decode cX10_tell 70 = .ok (.if_icmp .ne 19, 3) := by decide +kernel
theorem dX10_tell_73 : decode cX10_tell 73 = .ok (.aload_n 0, 1) := by decide +kernel
theorem dX10_tell_74 : decode cX10_tell 74 = .ok (.iload_n 1, 1) := by decide +kernel
theorem dX10_tell_75 : decode cX10_tell 75 = .ok (.invokevirtual 131, 3) := by decide +kernel
theorem dX10_tell_78 : decode cX10_tell 78 = .ok (.ifCond .eq 7, 3) := by decide +kernel
theorem dX10_tell_81 : decode cX10_tell 81 = .ok (.iconst 1, 1) := by decide +kernel
theorem dX10_tell_82 : decode cX10_tell 82 = .ok (.goto 9, 3) := by decide +kernel
theorem dX10_tell_85 : decode cX10_tell 85 = .ok (.iconst 0, 1) := by decide +kernel
theorem dX10_tell_86 : decode cX10_tell 86 = .ok (.goto 5, 3) := by decide +kernel
theorem dX10_tell_89 : decode cX10_tell 89 = .ok (.bipush (-102), 2) := by decide +kernel
theorem dX10_tell_91 : decode cX10_tell 91 = .ok (.ireturn, 1) := by decide +kernel
theorem dX10_about_0 : decode cX10_about 0 = .ok (.aload_n 0, 1) := by decide +kernel
theorem dX10_about_1 : decode cX10_about 1 = .ok (.iload_n 1, 1) := by decide +kernel
theorem dX10_about_2 : decode cX10_about 2 = .ok (.invokevirtual 167, 3) := by decide +kernel
theorem dX10_about_5 : decode cX10_about 5 = .ok (.ifCond .eq 12, 3) := by decide +kernel
theorem dX10_about_8 : decode cX10_about 8 = .ok (.aload_n 0, 1) := by decide +kernel
theorem dX10_about_9 : decode cX10_about 9 = .ok (.iload_n 1, 1) := by decide +kernel
theorem dX10_about_10 : decode cX10_about 10 = .ok (.iload_n 2, 1) := by decide +kernel
theorem dX10_about_11 : decode cX10_about 11 = .ok (.invokevirtual 170, 3) := by decide +kernel
theorem dX10_about_14 : decode cX10_about 14 = .ok (.goto 5, 3) := by decide +kernel
theorem dX10_about_17 : decode cX10_about 17 = .ok (.bipush (-101), 2) := by decide +kernel
theorem dX10_about_19 : decode cX10_about 19 = .ok (.ireturn, 1) := by decide +kernel
theorem dX10_as_0 : decode cX10_as 0 = .ok (.aload_n 0, 1) := by decide +kernel
theorem dX10_as_1 : decode cX10_as 1 = .ok (.iload_n 1, 1) := by decide +kernel
theorem dX10_as_2 : decode cX10_as 2 = .ok (.invokevirtual 167, 3) := by decide +kernel
theorem dX10_as_5 : decode cX10_as 5 = .ok (.ifCond .ne 6, 3) := by decide +kernel
theorem dX10_as_8 : decode cX10_as 8 = .ok (.bipush (-101), 2) := by decide +kernel
theorem dX10_as_10 : decode cX10_as 10 = .ok (.ireturn, 1) := by decide +kernel
theorem dX10_as_11 : decode cX10_as 11 = .ok (.iload_n 2, 1) := by decide +kernel
theorem dX10_as_12 : decode cX10_as 12 = .ok (.i2l, 1) := by decide +kernel
theorem dX10_as_13 : decode cX10_as 13 = .ok (.lconst 0, 1) := by decide +kernel
theorem dX10_as_14 : decode cX10_as 14 = .ok (.ldc2_w 113, 3) := by decide +kernel
theorem dX10_as_17 : decode cX10_as 17 = .ok (.invokestatic 64, 3) := by decide +kernel
theorem dX10_as_20 : decode cX10_as 20 = .ok (.ifCond .ne 6, 3) := by decide +kernel
theorem dX10_as_23 : decode cX10_as 23 = .ok (.bipush (-102), 2) := by decide +kernel
theorem dX10_as_25 : decode cX10_as 25 = .ok (.ireturn, 1) := by decide +kernel
theorem dX10_as_26 : decode cX10_as 26 = .ok (.aload_n 0, 1) := by decide +kernel
theorem dX10_as_27 : decode cX10_as 27 = .ok (.getfield 22, 3) := by decide +kernel
theorem dX10_as_30 : decode cX10_as 30 = .ok (.bipush 6, 2) := by decide +kernel
theorem dX10_as_32 : decode cX10_as 32 = .ok (.iload_n 1, 1) := by decide +kernel
theorem dX10_as_33 : decode cX10_as 33 = .ok (.imul, 1) := by decide +kernel
theorem dX10_as_34 : decode cX10_as 34 = .ok (.iaload, 1) := by decide +kernel
theorem dX10_as_35 : decode cX10_as 35 = .ok (.istore_n 3, 1) := by decide +kernel
theorem dX10_as_36 : decode cX10_as 36 = .ok (.iload_n 2, 1) := by decide +kernel
theorem dX10_as_37 : decode cX10_as 37 = .ok (.ifCond .eq 18, 3) := by decide +kernel
theorem dX10_as_40 : decode cX10_as 40 = .ok (.iload_n 2, 1) := by decide +kernel
theorem dX10_as_41 : decode cX10_as 41 = .ok (.iload_n 3, 1) := by decide +kernel
theorem dX10_as_42 : decode cX10_as 42 = .ok (.if_icmp .eq 13, 3) := by decide +kernel
theorem dX10_as_45 : decode cX10_as 45 = .ok (.iload_n 2, 1) := by decide +kernel
theorem dX10_as_46 : decode cX10_as 46 = .ok (.iconst 3, 1) := by decide +kernel
theorem dX10_as_47 : decode cX10_as 47 = .ok (.if_icmp .ne 12, 3) := by decide +kernel
theorem dX10_as_50 : decode cX10_as 50 = .ok (.iload_n 3, 1) := by decide +kernel
theorem dX10_as_51 : decode cX10_as 51 = .ok (.iconst 4, 1) := by decide +kernel
theorem dX10_as_52 : decode cX10_as 52 = .ok (.if_icmp .ne 7, 3) := by decide +kernel
theorem dX10_as_55 : decode cX10_as 55 = .ok (.iconst 1, 1) := by decide +kernel
theorem dX10_as_56 : decode cX10_as 56 = .ok (.goto 4, 3) := by decide +kernel
theorem dX10_as_59 : decode cX10_as 59 = .ok (.iconst 0, 1) := by decide +kernel
theorem dX10_as_60 : decode cX10_as 60 = .ok (.istore 4, 2) := by decide +kernel
theorem dX10_as_62 : decode cX10_as 62 = .ok (.iload 4, 2) := by decide +kernel
theorem dX10_as_64 : decode cX10_as 64 = .ok (.ifCond .eq 7, 3) := by decide +kernel
theorem dX10_as_67 : decode cX10_as 67 = .ok (.iload_n 1, 1) := by decide +kernel
theorem dX10_as_68 : decode cX10_as 68 = .ok (.goto 4, 3) := by decide +kernel
theorem dX10_as_71 : decode cX10_as 71 = .ok (.iconst (-1), 1) := by decide +kernel
theorem dX10_as_72 : decode cX10_as 72 = .ok (.ireturn, 1) := by decide +kernel
theorem dX10_burn_0 : decode cX10_burn 0 = .ok (.aload_n 0, 1) := by decide +kernel
theorem dX10_burn_1 : decode cX10_burn 1 = .ok (.iload_n 1, 1) := by decide +kernel
theorem dX10_burn_2 : decode cX10_burn 2 = .ok (.invokevirtual 167, 3) := by decide +kernel
theorem dX10_burn_5 : decode cX10_burn 5 = .ok (.ifCond .ne 6, 3) := by decide +kernel
theorem dX10_burn_8 : decode cX10_burn 8 = .ok (.bipush (-101), 2) := by decide +kernel
theorem dX10_burn_10 : decode cX10_burn 10 = .ok (.ireturn, 1) := by decide +kernel
theorem dX10_burn_11 : decode cX10_burn 11 = .ok (.aload_n 0, 1) := by decide +kernel
theorem dX10_burn_12 : decode cX10_burn 12 = .ok (.getfield 22, 3) := by decide +kernel
theorem dX10_burn_15 : decode cX10_burn 15 = .ok (.bipush 6, 2) := by decide +kernel
theorem dX10_burn_17 : decode cX10_burn 17 = .ok (.iload_n 1, 1) := by decide +kernel
theorem dX10_burn_18 : decode cX10_burn 18 = .ok (.imul, 1) := by decide +kernel
theorem dX10_burn_19 : decode cX10_burn 19 = .ok (.iconst 4, 1) := by decide +kernel
end
section
theorem dX10_burn_20 : decode cX10_burn 20 = .ok (.iadd, 1) := by decide +kernel
theorem dX10_burn_21 : decode cX10_burn 21 = .ok (.iaload, 1) := by decide +kernel
theorem dX10_burn_22 : decode cX10_burn 22 = .ok (.istore_n 3, 1) := by decide +kernel
theorem dX10_burn_23 : decode cX10_burn 23 = .ok (.aload_n 0, 1) := by decide +kernel
theorem dX10_burn_24 : decode cX10_burn 24 = .ok (.getfield 22, 3) := by decide +kernel
theorem dX10_burn_27 : decode cX10_burn 27 = .ok (.bipush 6, 2) := by decide +kernel
theorem dX10_burn_29 : decode cX10_burn 29 = .ok (.iload_n 1, 1) := by decide +kernel
theorem dX10_burn_30 : decode cX10_burn 30 = .ok (.imul, 1) := by decide +kernel
theorem dX10_burn_31 : decode cX10_burn 31 = .ok (.iconst 4, 1) := by decide +kernel
theorem dX10_burn_32 : decode cX10_burn 32 = .ok (.iadd, 1) := by decide +kernel
theorem dX10_burn_33 : decode cX10_burn 33 = .ok (.iload_n 2, 1) := by decide +kernel
theorem dX10_burn_34 : decode cX10_burn 34 = .ok (.ifCond .eq 7, 3) := by decide +kernel
theorem dX10_burn_37 : decode cX10_burn 37 = .ok (.iconst 1, 1) := by decide +kernel
theorem dX10_burn_38 : decode cX10_burn 38 = .ok (.goto 4, 3) := by decide +kernel
theorem dX10_burn_41 : decode cX10_burn 41 = .ok (.iconst 0, 1) := by decide +kernel
theorem dX10_burn_42 : decode cX10_burn 42 = .ok (.iastore, 1) := by decide +kernel
theorem dX10_burn_43 : decode cX10_burn 43 = .ok (.iload_n 3, 1) := by decide +kernel
theorem dX10_burn_44 : decode cX10_burn 44 = .ok (.ireturn, 1) := by decide +kernel
theorem dX10_wind_0 : decode cX10_wind 0 = .ok (.iload_n 1, 1) := by decide +kernel
theorem dX10_wind_1 : decode cX10_wind 1 = .ok (.i2l, 1) := by decide +kernel
theorem dX10_wind_2 : decode cX10_wind 2 = .ok (.lconst 0, 1) := by decide +kernel
theorem dX10_wind_3 : decode cX10_wind 3 = .ok (.ldc2_w 113, 3) := by decide +kernel
theorem dX10_wind_6 : decode cX10_wind 6 = .ok (.invokestatic 64, 3) := by decide +kernel
theorem dX10_wind_9 : decode cX10_wind 9 = .ok (.ifCond .ne 6, 3) := by decide +kernel
theorem dX10_wind_12 : decode cX10_wind 12 = .ok (.bipush (-102), 2) := by decide +kernel
theorem dX10_wind_14 : decode cX10_wind 14 = .ok (.ireturn, 1) := by decide +kernel
theorem dX10_wind_15 : decode cX10_wind 15 = .ok (.aload_n 0, 1) := by decide +kernel
theorem dX10_wind_16 : decode cX10_wind 16 = .ok (.invokevirtual 109, 3) := by decide +kernel
theorem dX10_wind_19 : decode cX10_wind 19 = .ok (.ifCond .eq 6, 3) := by decide +kernel
theorem dX10_wind_22 : decode cX10_wind 22 = .ok (.bipush (-103), 2) := by decide +kernel
theorem dX10_wind_24 : decode cX10_wind 24 = .ok (.ireturn, 1) := by decide +kernel
theorem dX10_wind_25 : decode cX10_wind 25 = .ok (.aload_n 0, 1) := by decide +kernel
theorem dX10_wind_26 : decode cX10_wind 26 = .ok (.getfield 86, 3) := by decide +kernel
theorem dX10_wind_29 : decode cX10_wind 29 = .ok (.istore_n 2, 1) := by decide +kernel
theorem dX10_wind_30 : decode cX10_wind 30 = .ok (.aload_n 0, 1) := by decide +kernel
theorem dX10_wind_31 : decode cX10_wind 31 = .ok (.iload_n 1, 1) := by decide +kernel
theorem dX10_wind_32 : decode cX10_wind 32 = .ok (.putfield 86, 3) := by decide +kernel
theorem dX10_wind_35 : decode cX10_wind 35 = .ok (.iload_n 2, 1) := by decide +kernel
theorem dX10_wind_36 : decode cX10_wind 36 = .ok (.ireturn, 1) := by decide +kernel
theorem dX10_frost_0 : decode cX10_frost 0 = .ok (.aload_n 0, 1) := by decide +kernel
theorem dX10_frost_1 : decode cX10_frost 1 = .ok (.invokevirtual 109, 3) := by decide +kernel
theorem dX10_frost_4 : decode cX10_frost 4 = .ok (.ifCond .eq 6, 3) := by decide +kernel
theorem dX10_frost_7 : decode cX10_frost 7 = .ok (.bipush (-103), 2) := by decide +kernel
theorem dX10_frost_9 : decode cX10_frost 9 = .ok (.ireturn, 1) := by decide +kernel
theorem dX10_frost_10 : decode cX10_frost 10 = .ok (.aload_n 0, 1) := by decide +kernel
theorem dX10_frost_11 : decode cX10_frost 11 = .ok (.getfield 89, 3) := by decide +kernel
theorem dX10_frost_14 : decode cX10_frost 14 = .ok (.istore_n 2, 1) := by decide +kernel
theorem dX10_frost_15 : decode cX10_frost 15 = .ok (.aload_n 0, 1) := by decide +kernel
theorem dX10_frost_16 : decode cX10_frost 16 = .ok (.iload_n 1, 1) := by decide +kernel
theorem dX10_frost_17 : decode cX10_frost 17 = .ok (.ifCond .eq 7, 3) := by decide +kernel
theorem dX10_frost_20 : decode cX10_frost 20 = .ok (.iconst 1, 1) := by decide +kernel
theorem dX10_frost_21 : decode cX10_frost 21 = .ok (.goto 4, 3) := by decide +kernel
theorem dX10_frost_24 : decode cX10_frost 24 = .ok (.iconst 0, 1) := by decide +kernel
theorem dX10_frost_25 : decode cX10_frost 25 = .ok (.putfield 89, 3) := by decide +kernel
theorem dX10_frost_28 : decode cX10_frost 28 = .ok (.iload_n 2, 1) := by decide +kernel
theorem dX10_frost_29 : decode cX10_frost 29 = .ok (.ireturn, 1) := by decide +kernel
theorem dX10_people_0 : decode cX10_people 0 = .ok (.aload_n 0, 1) := by decide +kernel
theorem dX10_people_1 : decode cX10_people 1 = .ok (.iload_n 1, 1) := by decide +kernel
theorem dX10_people_2 : decode cX10_people 2 = .ok (.invokevirtual 119, 3) := by decide +kernel
theorem dX10_people_5 : decode cX10_people 5 = .ok (.ifCond .ne 6, 3) := by decide +kernel
theorem dX10_people_8 : decode cX10_people 8 = .ok (.bipush (-101), 2) := by decide +kernel
theorem dX10_people_10 : decode cX10_people 10 = .ok (.ireturn, 1) := by decide +kernel
theorem dX10_people_11 : decode cX10_people 11 = .ok (.iload_n 2, 1) := by decide +kernel
theorem dX10_people_12 : decode cX10_people 12 = .ok (.i2l, 1) := by decide +kernel
theorem dX10_people_13 : decode cX10_people 13 = .ok (.lconst 0, 1) := by decide +kernel
theorem dX10_people_14 : decode cX10_people 14 = .ok (.ldc2_w 117, 3) := by decide +kernel
theorem dX10_people_17 : decode cX10_people 17 = .ok (.invokestatic 64, 3) := by decide +kernel
theorem dX10_people_20 : decode cX10_people 20 = .ok (.ifCond .ne 6, 3) := by decide +kernel
theorem dX10_people_23 : decode cX10_people 23 = .ok (.bipush (-102), 2) := by decide +kernel
theorem dX10_people_25 : decode cX10_people 25 = .ok (.ireturn, 1) := by decide +kernel
theorem dX10_people_26 : decode cX10_people 26 = .ok (.aload_n 0, 1) := by decide +kernel
theorem dX10_people_27 : decode cX10_people 27 = .ok (.getfield 13, 3) := by decide +kernel
theorem dX10_people_30 : decode cX10_people 30 = .ok (.iload_n 1, 1) := by decide +kernel
theorem dX10_people_31 : decode cX10_people 31 = .ok (.iaload, 1) := by decide +kernel
theorem dX10_people_32 : decode cX10_people 32 = .ok (.iconst 1, 1) := by decide +kernel
theorem dX10_people_33 : decode cX10_people 33 = .ok (.if_icmp .ne 6, 3) := by decide +kernel
theorem dX10_people_36 : decode cX10_people 36 = .ok (.bipush (-103), 2) := by decide +kernel
theorem dX10_people_38 : decode cX10_people 38 = .ok (.ireturn, 1) := by decide +kernel
theorem dX10_people_39 : decode cX10_people 39 = .ok (.aload_n 0, 1) := by decide +kernel
theorem dX10_people_40 : decode cX10_people 40 = .ok (.getfield 16, 3) := by decide +kernel
theorem dX10_people_43 : decode cX10_people 43 = .ok (.iload_n 1, 1) := by decide +kernel
theorem dX10_people_44 : decode cX10_people 44 = .ok (.iaload, 1) := by decide +kernel
theorem dX10_people_45 : decode cX10_people 45 = .ok (.istore_n 3, 1) := by decide +kernel
theorem dX10_people_46 : decode cX10_people 46 = .ok (.aload_n 0, 1) := by decide +kernel
theorem dX10_people_47 : decode cX10_people 47 = .ok (.getfield 16, 3) := by decide +kernel
theorem dX10_people_50 : decode cX10_people 50 = .ok (.iload_n 1, 1) := by decide +kernel
theorem dX10_people_51 : decode cX10_people 51 = .ok (.iload_n 2, 1) := by decide +kernel
theorem dX10_people_52 : decode cX10_people 52 = .ok (.iastore, 1) := by decide +kernel
theorem dX10_people_53 : decode cX10_people 53 = .ok (.iload_n 3, 1) := by decide +kernel
theorem dX10_people_54 : decode cX10_people 54 = .ok (.ireturn, 1) := by decide +kernel
theorem dX10_dusk_0 : decode cX10_dusk 0 = .ok (.aload_n 0, 1) := by decide +kernel
theorem dX10_dusk_1 : decode cX10_dusk 1 = .ok (.invokevirtual 109, 3) := by decide +kernel
theorem dX10_dusk_4 : decode cX10_dusk 4 = .ok (.ifCond .eq 6, 3) := by decide +kernel
theorem dX10_dusk_7 : decode cX10_dusk 7 = .ok (.bipush (-103), 2) := by decide +kernel
theorem dX10_dusk_9 : decode cX10_dusk 9 = .ok (.ireturn, 1) := by decide +kernel
theorem dX10_dusk_10 : decode cX10_dusk 10 = .ok (.aload_n 0, 1) := by decide +kernel
theorem dX10_dusk_11 : decode cX10_dusk 11 = .ok (.invokevirtual 149, 3) := by decide +kernel
theorem dX10_dusk_14 : decode cX10_dusk 14 = .ok (.iconst 0, 1) := by decide +kernel
theorem dX10_dusk_15 : decode cX10_dusk 15 = .ok (.istore_n 1, 1) := by decide +kernel
theorem dX10_dusk_16 : decode cX10_dusk 16 = .ok (.iconst 0, 1) := by decide +kernel
theorem dX10_dusk_17 : decode cX10_dusk 17 = .ok (.istore_n 2, 1) := by decide +kernel
theorem dX10_dusk_18 : decode cX10_dusk 18 = .ok (.iconst 0, 1) := by decide +kernel
theorem dX10_dusk_19 : decode cX10_dusk 19 = .ok (.istore_n 3, 1) := by decide +kernel
theorem dX10_dusk_20 : decode cX10_dusk 20 = .ok (.iload_n 3, 1) := by decide +kernel
theorem dX10_dusk_21 : decode cX10_dusk 21 = .ok (.bipush 8, 2) := by decide +kernel
theorem dX10_dusk_23 : decode cX10_dusk 23 = .ok (.if_icmp .ge 58, 3) := by decide +kernel
theorem dX10_dusk_26 : decode cX10_dusk 26 = .ok (.aload_n 0, 1) := by decide +kernel
theorem dX10_dusk_27 : decode cX10_dusk 27 = .ok (.iload_n 3, 1) := by decide +kernel
theorem dX10_dusk_28 : decode cX10_dusk 28 = .ok (.invokevirtual 152, 3) := by decide +kernel
theorem dX10_dusk_31 : decode cX10_dusk 31 = .ok (.iconst (-1), 1) := by decide +kernel
theorem dX10_dusk_32 : decode cX10_dusk 32 = .ok (.if_icmp .ne 15, 3) := by decide +kernel
theorem dX10_dusk_35 : decode cX10_dusk 35 = .ok (.iload_n 1, 1) := by decide +kernel
theorem dX10_dusk_36 : decode cX10_dusk 36 = .ok (.aload_n 0, 1) := by decide +kernel
theorem dX10_dusk_37 : decode cX10_dusk 37 = .ok (.getfield 16, 3) := by decide +kernel
theorem dX10_dusk_40 : decode cX10_dusk 40 = .ok (.iload_n 3, 1) := by decide +kernel
theorem dX10_dusk_41 : decode cX10_dusk 41 = .ok (.iaload, 1) := by decide +kernel
theorem dX10_dusk_42 : decode cX10_dusk 42 = .ok (.iadd, 1) := by decide +kernel
theorem dX10_dusk_43 : decode cX10_dusk 43 = .ok (.istore_n 1, 1) := by decide +kernel
theorem dX10_dusk_44 : decode cX10_dusk 44 = .ok (.goto 31, 3) := by decide +kernel
theorem dX10_dusk_47 : decode cX10_dusk 47 = .ok (.aload_n 0, 1) := by decide +kernel
theorem dX10_dusk_48 : decode cX10_dusk 48 = .ok (.getfield 19, 3) := by decide +kernel
theorem dX10_dusk_51 : decode cX10_dusk 51 = .ok (.aload_n 0, 1) := by decide +kernel
theorem dX10_dusk_52 : decode cX10_dusk 52 = .ok (.iload_n 3, 1) := by decide +kernel
theorem dX10_dusk_53 : decode cX10_dusk 53 = .ok (.invokevirtual 152, 3) := by decide +kernel
theorem dX10_dusk_56 : decode cX10_dusk 56 = .ok (.dup2, 1) := by decide +kernel
theorem dX10_dusk_57 : decode cX10_dusk 57 = .ok (.iaload, 1) := by decide +kernel
theorem dX10_dusk_58 : decode cX10_dusk 58 = .ok (.aload_n 0, 1) := by decide +kernel
theorem dX10_dusk_59 : decode cX10_dusk 59 = .ok (.getfield 16, 3) := by decide +kernel
theorem dX10_dusk_62 : decode cX10_dusk 62 = .ok (.iload_n 3, 1) := by decide +kernel
theorem dX10_dusk_63 : decode cX10_dusk 63 = .ok (.iaload, 1) := by decide +kernel
theorem dX10_dusk_64 : decode cX10_dusk 64 = .ok (.iadd, 1) := by decide +kernel
theorem dX10_dusk_65 : decode cX10_dusk 65 = .ok (.iastore, 1) := by decide +kernel
theorem dX10_dusk_66 : decode cX10_dusk 66 = .ok (.iload_n 2, 1) := by decide +kernel
theorem dX10_dusk_67 : decode cX10_dusk 67 = .ok (.aload_n 0, 1) := by decide +kernel
theorem dX10_dusk_68 : decode cX10_dusk 68 = .ok (.getfield 16, 3) := by decide +kernel
theorem dX10_dusk_71 : decode cX10_dusk 71 = .ok (.iload_n 3, 1) := by decide +kernel
theorem dX10_dusk_72 : decode cX10_dusk 72 = .ok (.iaload, 1) := by decide +kernel
theorem dX10_dusk_73 : decode cX10_dusk 73 = .ok (.iadd, 1) := by decide +kernel
theorem dX10_dusk_74 : decode cX10_dusk 74 = .ok (.istore_n 2, 1) := by decide +kernel
theorem dX10_dusk_75 : decode cX10_dusk 75 = .ok (.iinc 3 1, 3) := by decide +kernel
theorem dX10_dusk_78 : decode cX10_dusk 78 = .ok (.goto (-58), 3) := by decide +kernel
theorem dX10_dusk_81 : decode cX10_dusk 81 = .ok (.iconst 0, 1) := by decide +kernel
theorem dX10_dusk_82 : decode cX10_dusk 82 = .ok (.istore_n 3, 1) := by decide +kernel
theorem dX10_dusk_83 : decode cX10_dusk 83 = .ok (.iload_n 3, 1) := by decide +kernel
theorem dX10_dusk_84 : decode cX10_dusk 84 = .ok (.iconst 3, 1) := by decide +kernel
theorem dX10_dusk_85 : decode cX10_dusk 85 = .ok (.if_icmp .ge 27, 3) := by decide +kernel
theorem dX10_dusk_88 : decode cX10_dusk 88 = .ok (.aload_n 0, 1) := by decide +kernel
theorem dX10_dusk_89 : decode cX10_dusk 89 = .ok (.getfield 19, 3) := by decide +kernel
theorem dX10_dusk_92 : decode cX10_dusk 92 = .ok (.iload_n 3, 1) := by decide +kernel
theorem dX10_dusk_93 : decode cX10_dusk 93 = .ok (.dup2, 1) := by decide +kernel
theorem dX10_dusk_94 : decode cX10_dusk 94 = .ok (.iaload, 1) := by decide +kernel
theorem dX10_dusk_95 : decode cX10_dusk 95 = .ok (.iload_n 1, 1) := by decide +kernel
theorem dX10_dusk_96 : decode cX10_dusk 96 = .ok (.iconst 2, 1) := by decide +kernel
theorem dX10_dusk_97 : decode cX10_dusk 97 = .ok (.idiv, 1) := by decide +kernel
theorem dX10_dusk_98 : decode cX10_dusk 98 = .ok (.iadd, 1) := by decide +kernel
theorem dX10_dusk_99 : decode cX10_dusk 99 = .ok (.iastore, 1) := by decide +kernel
theorem dX10_dusk_100 : decode cX10_dusk 100 = .ok (.iload_n 2, 1) := by decide +kernel
theorem dX10_dusk_101 : decode cX10_dusk 101 = .ok (.iload_n 1, 1) := by decide +kernel
theorem dX10_dusk_102 : decode cX10_dusk 102 = .ok (.iconst 2, 1) := by decide +kernel
theorem dX10_dusk_103 : decode cX10_dusk 103 = .ok (.idiv, 1) := by decide +kernel
theorem dX10_dusk_104 : decode cX10_dusk 104 = .ok (.iadd, 1) := by decide +kernel
theorem dX10_dusk_105 : decode cX10_dusk 105 = .ok (.istore_n 2, 1) := by decide +kernel
theorem dX10_dusk_106 : decode cX10_dusk 106 = .ok (.iinc 3 1, 3) := by decide +kernel
theorem dX10_dusk_109 : decode cX10_dusk 109 = .ok (.goto (-26), 3) := by decide +kernel
theorem dX10_dusk_112 : decode cX10_dusk 112 = .ok (.iload_n 2, 1) := by decide +kernel
theorem dX10_dusk_113 : decode cX10_dusk 113 = .ok (.ireturn, 1) := by decide +kernel
theorem dX10_ends_0 : decode cX10_ends 0 = .ok (.iconst 0, 1) := by decide +kernel
theorem dX10_ends_1 : decode cX10_ends 1 = .ok (.istore_n 1, 1) := by decide +kernel
theorem dX10_ends_2 : decode cX10_ends 2 = .ok (.iload_n 1, 1) := by decide +kernel
theorem dX10_ends_3 : decode cX10_ends 3 = .ok (.aload_n 0, 1) := by decide +kernel
theorem dX10_ends_4 : decode cX10_ends 4 = .ok (.getfield 95, 3) := by decide +kernel
theorem dX10_ends_7 : decode cX10_ends 7 = .ok (.if_icmp .ge 34, 3) := by decide +kernel
theorem dX10_ends_10 : decode cX10_ends 10 = .ok (.aload_n 0, 1) := by decide +kernel
theorem dX10_ends_11 : decode cX10_ends 11 = .ok (.getfield 22, 3) := by decide +kernel
theorem dX10_ends_14 : decode cX10_ends 14 = .ok (.bipush 6, 2) := by decide +kernel
theorem dX10_ends_16 : decode cX10_ends 16 = .ok (.iload_n 1, 1) := by decide +kernel
theorem dX10_ends_17 : decode cX10_ends 17 = .ok (.imul, 1) := by decide +kernel
theorem dX10_ends_18 : decode cX10_ends 18 = .ok (.iconst 5, 1) := by decide +kernel
theorem dX10_ends_19 : decode cX10_ends 19 = .ok (.iadd, 1) := by decide +kernel
theorem dX10_ends_20 : decode cX10_ends 20 = .ok (.dup2, 1) := by decide +kernel
theorem dX10_ends_21 : decode cX10_ends 21 = .ok (.iaload, 1) := by decide +kernel
theorem dX10_ends_22 : decode cX10_ends 22 = .ok (.aload_n 0, 1) := by decide +kernel
theorem dX10_ends_23 : decode cX10_ends 23 = .ok (.getfield 22, 3) := by decide +kernel
theorem dX10_ends_26 : decode cX10_ends 26 = .ok (.bipush 6, 2) := by decide +kernel
theorem dX10_ends_28 : decode cX10_ends 28 = .ok (.iload_n 1, 1) := by decide +kernel
theorem dX10_ends_29 : decode cX10_ends 29 = .ok (.imul, 1) := by decide +kernel
theorem dX10_ends_30 : decode cX10_ends 30 = .ok (.iconst 4, 1) := by decide +kernel
theorem dX10_ends_31 : decode cX10_ends 31 = .ok (.iadd, 1) := by decide +kernel
theorem dX10_ends_32 : decode cX10_ends 32 = .ok (.iaload, 1) := by decide +kernel
theorem dX10_ends_33 : decode cX10_ends 33 = .ok (.iadd, 1) := by decide +kernel
theorem dX10_ends_34 : decode cX10_ends 34 = .ok (.iastore, 1) := by decide +kernel
theorem dX10_ends_35 : decode cX10_ends 35 = .ok (.iinc 1 1, 3) := by decide +kernel
theorem dX10_ends_38 : decode cX10_ends 38 = .ok (.goto (-36), 3) := by decide +kernel
theorem dX10_ends_41 : decode cX10_ends 41 = .ok (.aload_n 0, 1) := by decide +kernel
theorem dX10_ends_42 : decode cX10_ends 42 = .ok (.dup, 1) := by decide +kernel
theorem dX10_ends_43 : decode cX10_ends 43 = .ok (.getfield 92, 3) := by decide +kernel
theorem dX10_ends_46 : decode cX10_ends 46 = .ok (.iconst 1, 1) := by decide +kernel
theorem dX10_ends_47 : decode cX10_ends 47 = .ok (.iadd, 1) := by decide +kernel
theorem dX10_ends_48 : decode cX10_ends 48 = .ok (.putfield 92, 3) := by decide +kernel
theorem dX10_ends_51 : decode cX10_ends 51 = .ok (.return_, 1) := by decide +kernel
theorem dX10_hour_0 : decode cX10_hour 0 = .ok (.aload_n 0, 1) := by decide +kernel
theorem dX10_hour_1 : decode cX10_hour 1 = .ok (.invokevirtual 109, 3) := by decide +kernel
theorem dX10_hour_4 : decode cX10_hour 4 = .ok (.ifCond .eq 6, 3) := by decide +kernel
theorem dX10_hour_7 : decode cX10_hour 7 = .ok (.bipush (-103), 2) := by decide +kernel
theorem dX10_hour_9 : decode cX10_hour 9 = .ok (.ireturn, 1) := by decide +kernel
theorem dX10_hour_10 : decode cX10_hour 10 = .ok (.aload_n 0, 1) := by decide +kernel
theorem dX10_hour_11 : decode cX10_hour 11 = .ok (.invokevirtual 173, 3) := by decide +kernel
theorem dX10_hour_14 : decode cX10_hour 14 = .ok (.aload_n 0, 1) := by decide +kernel
theorem dX10_hour_15 : decode cX10_hour 15 = .ok (.getfield 92, 3) := by decide +kernel
theorem dX10_hour_18 : decode cX10_hour 18 = .ok (.ireturn, 1) := by decide +kernel
theorem dX10_whoseBy_0 : decode cX10_whoseBy 0 = .ok (.aload_n 0, 1) := by decide +kernel
theorem dX10_whoseBy_1 : decode cX10_whoseBy 1 = .ok (.aload_n 0, 1) := by decide +kernel
theorem dX10_whoseBy_2 : decode cX10_whoseBy 2 = .ok (.getfield 95, 3) := by decide +kernel
theorem dX10_whoseBy_5 : decode cX10_whoseBy 5 = .ok (.iconst 0, 1) := by decide +kernel
theorem dX10_whoseBy_6 : decode cX10_whoseBy 6 = .ok (.iload_n 2, 1) := by decide +kernel
theorem dX10_whoseBy_7 : decode cX10_whoseBy 7 = .ok (.iload_n 3, 1) := by decide +kernel
theorem dX10_whoseBy_8 : decode cX10_whoseBy 8 = .ok (.iload 4, 2) := by decide +kernel
theorem dX10_whoseBy_10 : decode cX10_whoseBy 10 = .ok (.invokevirtual 123, 3) := by decide +kernel
theorem dX10_whoseBy_13 : decode cX10_whoseBy 13 = .ok (.aload_n 0, 1) := by decide +kernel
theorem dX10_whoseBy_14 : decode cX10_whoseBy 14 = .ok (.dup, 1) := by decide +kernel
theorem dX10_whoseBy_15 : decode cX10_whoseBy 15 = .ok (.getfield 95, 3) := by decide +kernel
theorem dX10_whoseBy_18 : decode cX10_whoseBy 18 = .ok (.iconst 1, 1) := by decide +kernel
theorem dX10_whoseBy_19 : decode cX10_whoseBy 19 = .ok (.iadd, 1) := by decide +kernel
theorem dX10_whoseBy_20 : decode cX10_whoseBy 20 = .ok (.putfield 95, 3) := by decide +kernel
theorem dX10_whoseBy_23 : decode cX10_whoseBy 23 = .ok (.aload_n 0, 1) := by decide +kernel
theorem dX10_whoseBy_24 : decode cX10_whoseBy 24 = .ok (.invokevirtual 149, 3) := by decide +kernel
theorem dX10_whoseBy_27 : decode cX10_whoseBy 27 = .ok (.aload_n 0, 1) := by decide +kernel
theorem dX10_whoseBy_28 : decode cX10_whoseBy 28 = .ok (.iload_n 1, 1) := by decide +kernel
theorem dX10_whoseBy_29 : decode cX10_whoseBy 29 = .ok (.invokevirtual 152, 3) := by decide +kernel
theorem dX10_whoseBy_32 : decode cX10_whoseBy 32 = .ok (.istore 5, 2) := by decide +kernel
theorem dX10_whoseBy_34 : decode cX10_whoseBy 34 = .ok (.aload_n 0, 1) := by decide +kernel
theorem dX10_whoseBy_35 : decode cX10_whoseBy 35 = .ok (.dup, 1) := by decide +kernel
theorem dX10_whoseBy_36 : decode cX10_whoseBy 36 = .ok (.getfield 95, 3) := by decide +kernel
theorem dX10_whoseBy_39 : decode cX10_whoseBy 39 = .ok (.iconst 1, 1) := by decide +kernel
theorem dX10_whoseBy_40 : decode cX10_whoseBy 40 = .ok (.isub, 1) := by decide +kernel
theorem dX10_whoseBy_41 : decode cX10_whoseBy 41 = .ok (.putfield 95, 3) := by decide +kernel
theorem dX10_whoseBy_44 : decode cX10_whoseBy 44 = .ok (.iload 5, 2) := by decide +kernel
theorem dX10_whoseBy_46 : decode cX10_whoseBy 46 = .ok (.ireturn, 1) := by decide +kernel
theorem dX10_weakestOf_0 : decode cX10_weakestOf 0 = .ok (.aload_n 0, 1) := by decide +kernel
theorem dX10_weakestOf_1 : decode cX10_weakestOf 1 = .ok (.invokevirtual 149, 3) := by decide +kernel
theorem dX10_weakestOf_4 : decode cX10_weakestOf 4 = .ok (.aload_n 0, 1) := by decide +kernel
theorem dX10_weakestOf_5 : decode cX10_weakestOf 5 = .ok (.iload_n 1, 1) := by decide +kernel
theorem dX10_weakestOf_6 : decode cX10_weakestOf 6 = .ok (.invokevirtual 152, 3) := by decide +kernel
theorem dX10_weakestOf_9 : decode cX10_weakestOf 9 = .ok (.iload_n 2, 1) := by decide +kernel
theorem dX10_weakestOf_10 : decode cX10_weakestOf 10 = .ok (.if_icmp .ne 13, 3) := by decide +kernel
theorem dX10_weakestOf_13 : decode cX10_weakestOf 13 = .ok (.iload_n 3, 1) := by decide +kernel
theorem dX10_weakestOf_14 : decode cX10_weakestOf 14 = .ok (.ifCond .ne 7, 3) := by decide +kernel
theorem dX10_weakestOf_17 : decode cX10_weakestOf 17 = .ok (.iconst 0, 1) := by decide +kernel
theorem dX10_weakestOf_18 : decode cX10_weakestOf 18 = .ok (.goto 4, 3) := by decide +kernel
theorem dX10_weakestOf_21 : decode cX10_weakestOf 21 = .ok (.iconst (-1), 1) := by decide +kernel
theorem dX10_weakestOf_22 : decode cX10_weakestOf 22 = .ok (.ireturn, 1) := by decide +kernel
theorem dX10_weakestOf_23 : decode cX10_weakestOf 23 = .ok (.iconst 1, 1) := by decide +kernel
theorem dX10_weakestOf_24 : decode cX10_weakestOf 24 = .ok (.istore 4, 2) := by decide +kernel
theorem dX10_weakestOf_26 : decode cX10_weakestOf 26 = .ok (.iload 4, 2) := by decide +kernel
theorem dX10_weakestOf_28 : decode cX10_weakestOf 28 = .ok (.bipush 10, 2) := by decide +kernel
theorem dX10_weakestOf_30 : decode cX10_weakestOf 30 = .ok (.if_icmp .ge 61, 3) := by decide +kernel
theorem dX10_weakestOf_33 : decode cX10_weakestOf 33 = .ok (.iconst 0, 1) := by decide +kernel
theorem dX10_weakestOf_34 : decode cX10_weakestOf 34 = .ok (.istore 5, 2) := by decide +kernel
theorem dX10_weakestOf_36 : decode cX10_weakestOf 36 = .ok (.iload 5, 2) := by decide +kernel
theorem dX10_weakestOf_38 : decode cX10_weakestOf 38 = .ok (.bipush 8, 2) := by decide +kernel
theorem dX10_weakestOf_40 : decode cX10_weakestOf 40 = .ok (.if_icmp .ge 45, 3) := by decide +kernel
theorem dX10_weakestOf_43 : decode cX10_weakestOf 43 = .ok (.aload_n 0, 1) := by decide +kernel
theorem dX10_weakestOf_44 : decode cX10_weakestOf 44 = .ok (.getfield 13, 3) := by decide +kernel
theorem dX10_weakestOf_47 : decode cX10_weakestOf 47 = .ok (.iload 5, 2) := by decide +kernel
theorem dX10_weakestOf_49 : decode cX10_weakestOf 49 = .ok (.iaload, 1) := by decide +kernel
theorem dX10_weakestOf_50 : decode cX10_weakestOf 50 = .ok (.ifCond .ne 29, 3) := by decide +kernel
theorem dX10_weakestOf_53 : decode cX10_weakestOf 53 = .ok (.aload_n 0, 1) := by decide +kernel
theorem dX10_weakestOf_54 : decode cX10_weakestOf 54 = .ok (.iload_n 1, 1) := by decide +kernel
theorem dX10_weakestOf_55 : decode cX10_weakestOf 55 = .ok (.iload_n 2, 1) := by decide +kernel
theorem dX10_weakestOf_56 : decode cX10_weakestOf 56 = .ok (.iload 5, 2) := by decide +kernel
theorem dX10_weakestOf_58 : decode cX10_weakestOf 58 = .ok (.iload 4, 2) := by decide +kernel
theorem dX10_weakestOf_60 : decode cX10_weakestOf 60 = .ok (.invokevirtual 176, 3) := by decide +kernel
theorem dX10_weakestOf_63 : decode cX10_weakestOf 63 = .ok (.iload_n 2, 1) := by decide +kernel
theorem dX10_weakestOf_64 : decode cX10_weakestOf 64 = .ok (.if_icmp .ne 15, 3) := by decide +kernel
theorem dX10_weakestOf_67 : decode cX10_weakestOf 67 = .ok (.iload_n 3, 1) := by decide +kernel
theorem dX10_weakestOf_68 : decode cX10_weakestOf 68 = .ok (.ifCond .ne 8, 3) := by decide +kernel
theorem dX10_weakestOf_71 : decode cX10_weakestOf 71 = .ok (.iload 4, 2) := by decide +kernel
theorem dX10_weakestOf_73 : decode cX10_weakestOf 73 = .ok (.goto 5, 3) := by decide +kernel
theorem dX10_weakestOf_76 : decode cX10_weakestOf 76 = .ok (.iload 5, 2) := by decide +kernel
theorem dX10_weakestOf_78 : decode cX10_weakestOf 78 = .ok (.ireturn, 1) := by decide +kernel
theorem dX10_weakestOf_79 : decode cX10_weakestOf 79 = .ok (.iinc 5 1, 3) := by decide +kernel
theorem dX10_weakestOf_82 : decode cX10_weakestOf 82 = .ok (.goto (-46), 3) := by decide +kernel
theorem dX10_weakestOf_85 : decode cX10_weakestOf 85 = .ok (.iinc 4 1, 3) := by decide +kernel
theorem dX10_weakestOf_88 : decode cX10_weakestOf 88 = .ok (.goto (-62), 3) := by decide +kernel
theorem dX10_weakestOf_91 : decode cX10_weakestOf 91 = .ok (.iconst (-1), 1) := by decide +kernel
theorem dX10_weakestOf_92 : decode cX10_weakestOf 92 = .ok (.ireturn, 1) := by decide +kernel
theorem dX10_weakest_0 : decode cX10_weakest 0 = .ok (.aload_n 0, 1) := by decide +kernel
theorem dX10_weakest_1 : decode cX10_weakest 1 = .ok (.iload_n 1, 1) := by decide +kernel
theorem dX10_weakest_2 : decode cX10_weakest 2 = .ok (.invokevirtual 119, 3) := by decide +kernel
theorem dX10_weakest_5 : decode cX10_weakest 5 = .ok (.ifCond .ne 6, 3) := by decide +kernel
theorem dX10_weakest_8 : decode cX10_weakest 8 = .ok (.bipush (-101), 2) := by decide +kernel
theorem dX10_weakest_10 : decode cX10_weakest 10 = .ok (.ireturn, 1) := by decide +kernel
theorem dX10_weakest_11 : decode cX10_weakest 11 = .ok (.iload_n 2, 1) := by decide +kernel
theorem dX10_weakest_12 : decode cX10_weakest 12 = .ok (.i2l, 1) := by decide +kernel
theorem dX10_weakest_13 : decode cX10_weakest 13 = .ok (.lconst 0, 1) := by decide +kernel
theorem dX10_weakest_14 : decode cX10_weakest 14 = .ok (.ldc2_w 115, 3) := by decide +kernel
theorem dX10_weakest_17 : decode cX10_weakest 17 = .ok (.invokestatic 64, 3) := by decide +kernel
theorem dX10_weakest_20 : decode cX10_weakest 20 = .ok (.ifCond .eq 23, 3) := by decide +kernel
theorem dX10_weakest_23 : decode cX10_weakest 23 = .ok (.iload_n 3, 1) := by decide +kernel
theorem dX10_weakest_24 : decode cX10_weakest 24 = .ok (.i2l, 1) := by decide +kernel
theorem dX10_weakest_25 : decode cX10_weakest 25 = .ok (.lconst 0, 1) := by decide +kernel
theorem dX10_weakest_26 : decode cX10_weakest 26 = .ok (.lconst 1, 1) := by decide +kernel
theorem dX10_weakest_27 : decode cX10_weakest 27 = .ok (.invokestatic 64, 3) := by decide +kernel
theorem dX10_weakest_30 : decode cX10_weakest 30 = .ok (.ifCond .eq 13, 3) := by decide +kernel
theorem dX10_weakest_33 : decode cX10_weakest 33 = .ok (.aload_n 0, 1) := by decide +kernel
theorem dX10_weakest_34 : decode cX10_weakest 34 = .ok (.iload_n 1, 1) := by decide +kernel
theorem dX10_weakest_35 : decode cX10_weakest 35 = .ok (.iload_n 2, 1) := by decide +kernel
theorem dX10_weakest_36 : decode cX10_weakest 36 = .ok (.iload_n 3, 1) := by decide +kernel
theorem dX10_weakest_37 : decode cX10_weakest 37 = .ok (.invokevirtual 180, 3) := by decide +kernel
theorem dX10_weakest_40 : decode cX10_weakest 40 = .ok (.goto 5, 3) := by decide +kernel
theorem dX10_weakest_43 : decode cX10_weakest 43 = .ok (.bipush (-102), 2) := by decide +kernel
theorem dX10_weakest_45 : decode cX10_weakest 45 = .ok (.ireturn, 1) := by decide +kernel
theorem dX10_copy_0 : decode cX10_copy 0 = .ok (.iconst 0, 1) := by decide +kernel
theorem dX10_copy_1 : decode cX10_copy 1 = .ok (.istore_n 2, 1) := by decide +kernel
theorem dX10_copy_2 : decode cX10_copy 2 = .ok (.iload_n 2, 1) := by decide +kernel
theorem dX10_copy_3 : decode cX10_copy 3 = .ok (.aload_n 0, 1) := by decide +kernel
theorem dX10_copy_4 : decode cX10_copy 4 = .ok (.arraylength, 1) := by decide +kernel
theorem dX10_copy_5 : decode cX10_copy 5 = .ok (.if_icmp .ge 15, 3) := by decide +kernel
theorem dX10_copy_8 : decode cX10_copy 8 = .ok (.aload_n 1, 1) := by decide +kernel
theorem dX10_copy_9 : decode cX10_copy 9 = .ok (.iload_n 2, 1) := by decide +kernel
theorem dX10_copy_10 : decode cX10_copy 10 = .ok (.aload_n 0, 1) := by decide +kernel
theorem dX10_copy_11 : decode cX10_copy 11 = .ok (.iload_n 2, 1) := by decide +kernel
theorem dX10_copy_12 : decode cX10_copy 12 = .ok (.iaload, 1) := by decide +kernel
theorem dX10_copy_13 : decode cX10_copy 13 = .ok (.iastore, 1) := by decide +kernel
theorem dX10_copy_14 : decode cX10_copy 14 = .ok (.iinc 2 1, 3) := by decide +kernel
theorem dX10_copy_17 : decode cX10_copy 17 = .ok (.goto (-15), 3) := by decide +kernel
theorem dX10_copy_20 : decode cX10_copy 20 = .ok (.return_, 1) := by decide +kernel
theorem dX10_ones_0 : decode cX10_ones 0 = .ok (.iconst 0, 1) := by decide +kernel
theorem dX10_ones_1 : decode cX10_ones 1 = .ok (.istore_n 1, 1) := by decide +kernel
theorem dX10_ones_2 : decode cX10_ones 2 = .ok (.iconst 0, 1) := by decide +kernel
theorem dX10_ones_3 : decode cX10_ones 3 = .ok (.istore_n 2, 1) := by decide +kernel
theorem dX10_ones_4 : decode cX10_ones 4 = .ok (.iload_n 2, 1) := by decide +kernel
theorem dX10_ones_5 : decode cX10_ones 5 = .ok (.bipush 8, 2) := by decide +kernel
theorem dX10_ones_7 : decode cX10_ones 7 = .ok (.if_icmp .ge 17, 3) := by decide +kernel
theorem dX10_ones_10 : decode cX10_ones 10 = .ok (.iload_n 1, 1) := by decide +kernel
theorem dX10_ones_11 : decode cX10_ones 11 = .ok (.iload_n 0, 1) := by decide +kernel
theorem dX10_ones_12 : decode cX10_ones 12 = .ok (.iload_n 2, 1) := by decide +kernel
theorem dX10_ones_13 : decode cX10_ones 13 = .ok (.ishr, 1) := by decide +kernel
theorem dX10_ones_14 : decode cX10_ones 14 = .ok (.iconst 1, 1) := by decide +kernel
theorem dX10_ones_15 : decode cX10_ones 15 = .ok (.iand, 1) := by decide +kernel
theorem dX10_ones_16 : decode cX10_ones 16 = .ok (.iadd, 1) := by decide +kernel
theorem dX10_ones_17 : decode cX10_ones 17 = .ok (.istore_n 1, 1) := by decide +kernel
theorem dX10_ones_18 : decode cX10_ones 18 = .ok (.iinc 2 1, 3) := by decide +kernel
theorem dX10_ones_21 : decode cX10_ones 21 = .ok (.goto (-17), 3) := by decide +kernel
theorem dX10_ones_24 : decode cX10_ones 24 = .ok (.iload_n 1, 1) := by decide +kernel
theorem dX10_ones_25 : decode cX10_ones 25 = .ok (.ireturn, 1) := by decide +kernel
theorem dX10_mayBeWalls_0 : decode cX10_mayBeWalls 0 = .ok (.iconst 0, 1) := by decide +kernel
theorem dX10_mayBeWalls_1 : decode cX10_mayBeWalls 1 = .ok (.istore_n 2, 1) := by decide +kernel
theorem dX10_mayBeWalls_2 : decode cX10_mayBeWalls 2 = .ok (.iconst 0, 1) := by decide +kernel
theorem dX10_mayBeWalls_3 : decode cX10_mayBeWalls 3 = .ok (.istore_n 3, 1) := by decide +kernel
theorem dX10_mayBeWalls_4 : decode cX10_mayBeWalls 4 = .ok (.iload_n 3, 1) := by decide +kernel
theorem dX10_mayBeWalls_5 : decode cX10_mayBeWalls 5 = .ok (.bipush 8, 2) := by decide +kernel
theorem dX10_mayBeWalls_7 : decode cX10_mayBeWalls 7 = .ok (.if_icmp .ge 34, 3) := by decide +kernel
theorem dX10_mayBeWalls_10 : decode cX10_mayBeWalls 10 = .ok (.iload_n 2, 1) := by decide +kernel
theorem dX10_mayBeWalls_11 : decode cX10_mayBeWalls 11 = .ok (.aload_n 0, 1) := by decide +kernel
theorem dX10_mayBeWalls_12 : decode cX10_mayBeWalls 12 = .ok (.getfield 13, 3) := by decide +kernel
theorem dX10_mayBeWalls_15 : decode cX10_mayBeWalls 15 = .ok (.iload_n 3, 1) := by decide +kernel
theorem dX10_mayBeWalls_16 : decode cX10_mayBeWalls 16 = .ok (.iaload, 1) := by decide +kernel
theorem dX10_mayBeWalls_17 : decode cX10_mayBeWalls 17 = .ok (.iconst 1, 1) := by decide +kernel
theorem dX10_mayBeWalls_18 : decode cX10_mayBeWalls 18 = .ok (.if_icmp .eq 14, 3) := by decide +kernel
theorem dX10_mayBeWalls_21 : decode cX10_mayBeWalls 21 = .ok (.iload_n 3, 1) := by decide +kernel
theorem dX10_mayBeWalls_22 : decode cX10_mayBeWalls 22 = .ok (.iload_n 1, 1) := by decide +kernel
theorem dX10_mayBeWalls_23 : decode cX10_mayBeWalls 23 = .ok (.if_icmp .eq 9, 3) := by decide +kernel
theorem dX10_mayBeWalls_26 : decode cX10_mayBeWalls 26 = .ok (.iconst 1, 1) := by decide +kernel
theorem dX10_mayBeWalls_27 : decode cX10_mayBeWalls 27 = .ok (.iload_n 3, 1) := by decide +kernel
theorem dX10_mayBeWalls_28 : decode cX10_mayBeWalls 28 = .ok (.ishl, 1) := by decide +kernel
theorem dX10_mayBeWalls_29 : decode cX10_mayBeWalls 29 = .ok (.goto 4, 3) := by decide +kernel
theorem dX10_mayBeWalls_32 : decode cX10_mayBeWalls 32 = .ok (.iconst 0, 1) := by decide +kernel
theorem dX10_mayBeWalls_33 : decode cX10_mayBeWalls 33 = .ok (.ior, 1) := by decide +kernel
theorem dX10_mayBeWalls_34 : decode cX10_mayBeWalls 34 = .ok (.istore_n 2, 1) := by decide +kernel
theorem dX10_mayBeWalls_35 : decode cX10_mayBeWalls 35 = .ok (.iinc 3 1, 3) := by decide +kernel
theorem dX10_mayBeWalls_38 : decode cX10_mayBeWalls 38 = .ok (.goto (-34), 3) := by decide +kernel
theorem dX10_mayBeWalls_41 : decode cX10_mayBeWalls 41 = .ok (.iconst 0, 1) := by decide +kernel
theorem dX10_mayBeWalls_42 : decode cX10_mayBeWalls 42 = .ok (.istore_n 3, 1) := by decide +kernel
theorem dX10_mayBeWalls_43 : decode cX10_mayBeWalls 43 = .ok (.iload_n 3, 1) := by decide +kernel
theorem dX10_mayBeWalls_44 : decode cX10_mayBeWalls 44 = .ok (.aload_n 0, 1) := by decide +kernel
theorem dX10_mayBeWalls_45 : decode cX10_mayBeWalls 45 = .ok (.getfield 95, 3) := by decide +kernel
theorem dX10_mayBeWalls_48 : decode cX10_mayBeWalls 48 = .ok (.if_icmp .ge 27, 3) := by decide +kernel
theorem dX10_mayBeWalls_51 : decode cX10_mayBeWalls 51 = .ok (.iload_n 2, 1) := by decide +kernel
theorem dX10_mayBeWalls_52 : decode cX10_mayBeWalls 52 = .ok (.iconst 1, 1) := by decide +kernel
theorem dX10_mayBeWalls_53 : decode cX10_mayBeWalls 53 = .ok (.aload_n 0, 1) := by decide +kernel
theorem dX10_mayBeWalls_54 : decode cX10_mayBeWalls 54 = .ok (.getfield 22, 3) := by decide +kernel
theorem dX10_mayBeWalls_57 : decode cX10_mayBeWalls 57 = .ok (.bipush 6, 2) := by decide +kernel
theorem dX10_mayBeWalls_59 : decode cX10_mayBeWalls 59 = .ok (.iload_n 3, 1) := by decide +kernel
theorem dX10_mayBeWalls_60 : decode cX10_mayBeWalls 60 = .ok (.imul, 1) := by decide +kernel
theorem dX10_mayBeWalls_61 : decode cX10_mayBeWalls 61 = .ok (.iconst 2, 1) := by decide +kernel
theorem dX10_mayBeWalls_62 : decode cX10_mayBeWalls 62 = .ok (.iadd, 1) := by decide +kernel
theorem dX10_mayBeWalls_63 : decode cX10_mayBeWalls 63 = .ok (.iaload, 1) := by decide +kernel
theorem dX10_mayBeWalls_64 : decode cX10_mayBeWalls 64 = .ok (.ishl, 1) := by decide +kernel
theorem dX10_mayBeWalls_65 : decode cX10_mayBeWalls 65 = .ok (.iconst (-1), 1) := by decide +kernel
theorem dX10_mayBeWalls_66 : decode cX10_mayBeWalls 66 = .ok (.ixor, 1) := by decide +kernel
theorem dX10_mayBeWalls_67 : decode cX10_mayBeWalls 67 = .ok (.iand, 1) := by decide +kernel
theorem dX10_mayBeWalls_68 : decode cX10_mayBeWalls 68 = .ok (.istore_n 2, 1) := by decide +kernel
theorem dX10_mayBeWalls_69 : decode cX10_mayBeWalls 69 = .ok (.iinc 3 1, 3) := by decide +kernel
theorem dX10_mayBeWalls_72 : decode cX10_mayBeWalls 72 = .ok (.goto (-29), 3) := by decide +kernel
theorem dX10_mayBeWalls_75 : decode cX10_mayBeWalls 75 = .ok (.iload_n 2, 1) := by decide +kernel
theorem dX10_mayBeWalls_76 : decode cX10_mayBeWalls 76 = .ok (.ireturn, 1) := by decide +kernel
theorem dX10_walls_0 : decode cX10_walls 0 = .ok (.aload_n 0, 1) := by decide +kernel
theorem dX10_walls_1 : decode cX10_walls 1 = .ok (.iload_n 1, 1) := by decide +kernel
theorem dX10_walls_2 : decode cX10_walls 2 = .ok (.invokevirtual 119, 3) := by decide +kernel
theorem dX10_walls_5 : decode cX10_walls 5 = .ok (.ifCond .ne 6, 3) := by decide +kernel
theorem dX10_walls_8 : decode cX10_walls 8 = .ok (.bipush (-101), 2) := by decide +kernel
theorem dX10_walls_10 : decode cX10_walls 10 = .ok (.ireturn, 1) := by decide +kernel
theorem dX10_walls_11 : decode cX10_walls 11 = .ok (.iload_n 2, 1) := by decide +kernel
theorem dX10_walls_12 : decode cX10_walls 12 = .ok (.i2l, 1) := by decide +kernel
theorem dX10_walls_13 : decode cX10_walls 13 = .ok (.lconst 0, 1) := by decide +kernel
theorem dX10_walls_14 : decode cX10_walls 14 = .ok (.ldc2_w 115, 3) := by decide +kernel
theorem dX10_walls_17 : decode cX10_walls 17 = .ok (.invokestatic 64, 3) := by decide +kernel
theorem dX10_walls_20 : decode cX10_walls 20 = .ok (.ifCond .eq 13, 3) := by decide +kernel
theorem dX10_walls_23 : decode cX10_walls 23 = .ok (.iload_n 3, 1) := by decide +kernel
theorem dX10_walls_24 : decode cX10_walls 24 = .ok (.i2l, 1) := by decide +kernel
theorem dX10_walls_25 : decode cX10_walls 25 = .ok (.lconst 0, 1) := by decide +kernel
theorem dX10_walls_26 : decode cX10_walls 26 = .ok (.lconst 1, 1) := by decide +kernel
theorem dX10_walls_27 : decode cX10_walls 27 = .ok (.invokestatic 64, 3) := by decide +kernel
theorem dX10_walls_30 : decode cX10_walls 30 = .ok (.ifCond .ne 6, 3) := by decide +kernel
theorem dX10_walls_33 : decode cX10_walls 33 = .ok (.bipush (-102), 2) := by decide +kernel
theorem dX10_walls_35 : decode cX10_walls 35 = .ok (.ireturn, 1) := by decide +kernel
theorem dX10_walls_36 : decode cX10_walls 36 = .ok (.aload_n 0, 1) := by decide +kernel
theorem dX10_walls_37 : decode cX10_walls 37 = .ok (.getfield 183, 3) := by decide +kernel
theorem dX10_walls_40 : decode cX10_walls 40 = .ok (.bipush 20, 2) := by decide +kernel
theorem dX10_walls_42 : decode cX10_walls 42 = .ok (.if_icmp .ne 6, 3) := by decide +kernel
theorem dX10_walls_45 : decode cX10_walls 45 = .ok (.bipush (-103), 2) := by decide +kernel
theorem dX10_walls_47 : decode cX10_walls 47 = .ok (.ireturn, 1) := by decide +kernel
theorem dX10_walls_48 : decode cX10_walls 48 = .ok (.aload_n 0, 1) := by decide +kernel
theorem dX10_walls_49 : decode cX10_walls 49 = .ok (.dup, 1) := by decide +kernel
theorem dX10_walls_50 : decode cX10_walls 50 = .ok (.getfield 183, 3) := by decide +kernel
theorem dX10_walls_53 : decode cX10_walls 53 = .ok (.iconst 1, 1) := by decide +kernel
theorem dX10_walls_54 : decode cX10_walls 54 = .ok (.iadd, 1) := by decide +kernel
theorem dX10_walls_55 : decode cX10_walls 55 = .ok (.putfield 183, 3) := by decide +kernel
theorem dX10_walls_58 : decode cX10_walls 58 = .ok (.aload_n 0, 1) := by decide +kernel
theorem dX10_walls_59 : decode cX10_walls 59 = .ok (.getfield 13, 3) := by decide +kernel
theorem dX10_walls_62 : decode cX10_walls 62 = .ok (.aload_n 0, 1) := by decide +kernel
theorem dX10_walls_63 : decode cX10_walls 63 = .ok (.getfield 34, 3) := by decide +kernel
theorem dX10_walls_66 : decode cX10_walls 66 = .ok (.invokestatic 186, 3) := by decide +kernel
theorem dX10_walls_69 : decode cX10_walls 69 = .ok (.aload_n 0, 1) := by decide +kernel
theorem dX10_walls_70 : decode cX10_walls 70 = .ok (.iload_n 1, 1) := by decide +kernel
theorem dX10_walls_71 : decode cX10_walls 71 = .ok (.invokevirtual 190, 3) := by decide +kernel
theorem dX10_walls_74 : decode cX10_walls 74 = .ok (.istore 4, 2) := by decide +kernel
theorem dX10_walls_76 : decode cX10_walls 76 = .ok (.iconst (-1), 1) := by decide +kernel
theorem dX10_walls_77 : decode cX10_walls 77 = .ok (.istore 5, 2) := by decide +kernel
theorem dX10_walls_79 : decode cX10_walls 79 = .ok (.iconst 0, 1) := by decide +kernel
theorem dX10_walls_80 : decode cX10_walls 80 = .ok (.istore 6, 2) := by decide +kernel
theorem dX10_walls_82 : decode cX10_walls 82 = .ok (.iload 6, 2) := by decide +kernel
theorem dX10_walls_84 : decode cX10_walls 84 = .ok (.sipush 256, 3) := by decide +kernel
theorem dX10_walls_87 : decode cX10_walls 87 = .ok (.if_icmp .ge 105, 3) := by decide +kernel
theorem dX10_walls_90 : decode cX10_walls 90 = .ok (.iload 6, 2) := by decide +kernel
theorem dX10_walls_92 : decode cX10_walls 92 = .ok (.iload 4, 2) := by decide +kernel
theorem dX10_walls_94 : decode cX10_walls 94 = .ok (.iconst (-1), 1) := by decide +kernel
theorem dX10_walls_95 : decode cX10_walls 95 = .ok (.ixor, 1) := by decide +kernel
theorem dX10_walls_96 : decode cX10_walls 96 = .ok (.iand, 1) := by decide +kernel
theorem dX10_walls_97 : decode cX10_walls 97 = .ok (.ifCond .ne 89, 3) := by decide +kernel
theorem dX10_walls_100 : decode cX10_walls 100 = .ok (.iload 5, 2) := by decide +kernel
theorem dX10_walls_102 : decode cX10_walls 102 = .ok (.iconst (-1), 1) := by decide +kernel
theorem dX10_walls_103 : decode cX10_walls 103 = .ok (.if_icmp .eq 16, 3) := by decide +kernel
theorem dX10_walls_106 : decode cX10_walls 106 = .ok (.iload 6, 2) := by decide +kernel
theorem dX10_walls_108 : decode cX10_walls 108 = .ok (.invokestatic 193, 3) := by decide +kernel
theorem dX10_walls_111 : decode cX10_walls 111 = .ok (.iload 5, 2) := by decide +kernel
theorem dX10_walls_113 : decode cX10_walls 113 = .ok (.invokestatic 193, 3) := by decide +kernel
theorem dX10_walls_116 : decode cX10_walls 116 = .ok (.if_icmp .ge 70, 3) := by decide +kernel
theorem dX10_walls_119 : decode cX10_walls 119 = .ok (.iconst 0, 1) := by decide +kernel
theorem dX10_walls_120 : decode cX10_walls 120 = .ok (.istore 7, 2) := by decide +kernel
theorem dX10_walls_122 : decode cX10_walls 122 = .ok (.iload 7, 2) := by decide +kernel
theorem dX10_walls_124 : decode cX10_walls 124 = .ok (.bipush 8, 2) := by decide +kernel
theorem dX10_walls_126 : decode cX10_walls 126 = .ok (.if_icmp .ge 38, 3) := by decide +kernel
theorem dX10_walls_129 : decode cX10_walls 129 = .ok (.aload_n 0, 1) := by decide +kernel
theorem dX10_walls_130 : decode cX10_walls 130 = .ok (.getfield 13, 3) := by decide +kernel
theorem dX10_walls_133 : decode cX10_walls 133 = .ok (.iload 7, 2) := by decide +kernel
theorem dX10_walls_135 : decode cX10_walls 135 = .ok (.iload 6, 2) := by decide +kernel
theorem dX10_walls_137 : decode cX10_walls 137 = .ok (.iload 7, 2) := by decide +kernel
theorem dX10_walls_139 : decode cX10_walls 139 = .ok (.ishr, 1) := by decide +kernel
theorem dX10_walls_140 : decode cX10_walls 140 = .ok (.iconst 1, 1) := by decide +kernel
theorem dX10_walls_141 : decode cX10_walls 141 = .ok (.iand, 1) := by decide +kernel
theorem dX10_walls_142 : decode cX10_walls 142 = .ok (.iconst 1, 1) := by decide +kernel
theorem dX10_walls_143 : decode cX10_walls 143 = .ok (.if_icmp .ne 7, 3) := by decide +kernel
theorem dX10_walls_146 : decode cX10_walls 146 = .ok (.iconst 1, 1) := by decide +kernel
theorem dX10_walls_147 : decode cX10_walls 147 = .ok (.goto 10, 3) := by decide +kernel
theorem dX10_walls_150 : decode cX10_walls 150 = .ok (.aload_n 0, 1) := by decide +kernel
theorem dX10_walls_151 : decode cX10_walls 151 = .ok (.getfield 34, 3) := by decide +kernel
theorem dX10_walls_154 : decode cX10_walls 154 = .ok (.iload 7, 2) := by decide +kernel
theorem dX10_walls_156 : decode cX10_walls 156 = .ok (.iaload, 1) := by decide +kernel
theorem dX10_walls_157 : decode cX10_walls 157 = .ok (.iastore, 1) := by decide +kernel
theorem dX10_walls_158 : decode cX10_walls 158 = .ok (.iinc 7 1, 3) := by decide +kernel
theorem dX10_walls_161 : decode cX10_walls 161 = .ok (.goto (-39), 3) := by decide +kernel
theorem dX10_walls_164 : decode cX10_walls 164 = .ok (.aload_n 0, 1) := by decide +kernel
theorem dX10_walls_165 : decode cX10_walls 165 = .ok (.invokevirtual 149, 3) := by decide +kernel
theorem dX10_walls_168 : decode cX10_walls 168 = .ok (.aload_n 0, 1) := by decide +kernel
theorem dX10_walls_169 : decode cX10_walls 169 = .ok (.iload_n 1, 1) := by decide +kernel
theorem dX10_walls_170 : decode cX10_walls 170 = .ok (.invokevirtual 152, 3) := by decide +kernel
theorem dX10_walls_173 : decode cX10_walls 173 = .ok (.iload_n 2, 1) := by decide +kernel
theorem dX10_walls_174 : decode cX10_walls 174 = .ok (.if_icmp .ne 8, 3) := by decide +kernel
theorem dX10_walls_177 : decode cX10_walls 177 = .ok (.iload 5, 2) := by decide +kernel
theorem dX10_walls_179 : decode cX10_walls 179 = .ok (.goto 5, 3) := by decide +kernel
theorem dX10_walls_182 : decode cX10_walls 182 = .ok (.iload 6, 2) := by decide +kernel
theorem dX10_walls_184 : decode cX10_walls 184 = .ok (.istore 5, 2) := by decide +kernel
theorem dX10_walls_186 : decode cX10_walls 186 = .ok (.iinc 6 1, 3) := by decide +kernel
theorem dX10_walls_189 : decode cX10_walls 189 = .ok (.goto (-107), 3) := by decide +kernel
theorem dX10_walls_192 : decode cX10_walls 192 = .ok (.aload_n 0, 1) := by decide +kernel
theorem dX10_walls_193 : decode cX10_walls 193 = .ok (.getfield 34, 3) := by decide +kernel
theorem dX10_walls_196 : decode cX10_walls 196 = .ok (.aload_n 0, 1) := by decide +kernel
theorem dX10_walls_197 : decode cX10_walls 197 = .ok (.getfield 13, 3) := by decide +kernel
theorem dX10_walls_200 : decode cX10_walls 200 = .ok (.invokestatic 186, 3) := by decide +kernel
theorem dX10_walls_203 : decode cX10_walls 203 = .ok (.iload 5, 2) := by decide +kernel
theorem dX10_walls_205 : decode cX10_walls 205 = .ok (.iconst (-1), 1) := by decide +kernel
theorem dX10_walls_206 : decode cX10_walls 206 = .ok (.if_icmp .eq 8, 3) := by decide +kernel
theorem dX10_walls_209 : decode cX10_walls 209 = .ok (.iload_n 3, 1) := by decide +kernel
theorem dX10_walls_210 : decode cX10_walls 210 = .ok (.iconst 1, 1) := by decide +kernel
theorem dX10_walls_211 : decode cX10_walls 211 = .ok (.if_icmp .ne 8, 3) := by decide +kernel
theorem dX10_walls_214 : decode cX10_walls 214 = .ok (.iload 5, 2) := by decide +kernel
theorem dX10_walls_216 : decode cX10_walls 216 = .ok (.goto 8, 3) := by decide +kernel
theorem dX10_walls_219 : decode cX10_walls 219 = .ok (.iload 5, 2) := by decide +kernel
theorem dX10_walls_221 : decode cX10_walls 221 = .ok (.invokestatic 193, 3) := by decide +kernel
theorem dX10_walls_224 : decode cX10_walls 224 = .ok (.ireturn, 1) := by decide +kernel
theorem dX10_holdOf_0 : decode cX10_holdOf 0 = .ok (.aload_n 0, 1) := by decide +kernel
theorem dX10_holdOf_1 : decode cX10_holdOf 1 = .ok (.getfield 22, 3) := by decide +kernel
theorem dX10_holdOf_4 : decode cX10_holdOf 4 = .ok (.aload_n 0, 1) := by decide +kernel
theorem dX10_holdOf_5 : decode cX10_holdOf 5 = .ok (.getfield 37, 3) := by decide +kernel
theorem dX10_holdOf_8 : decode cX10_holdOf 8 = .ok (.invokestatic 186, 3) := by decide +kernel
theorem dX10_holdOf_11 : decode cX10_holdOf 11 = .ok (.aload_n 0, 1) := by decide +kernel
theorem dX10_holdOf_12 : decode cX10_holdOf 12 = .ok (.getfield 92, 3) := by decide +kernel
theorem dX10_holdOf_15 : decode cX10_holdOf 15 = .ok (.istore_n 3, 1) := by decide +kernel
theorem dX10_holdOf_16 : decode cX10_holdOf 16 = .ok (.iconst 0, 1) := by decide +kernel
theorem dX10_holdOf_17 : decode cX10_holdOf 17 = .ok (.istore 4, 2) := by decide +kernel
theorem dX10_holdOf_19 : decode cX10_holdOf 19 = .ok (.aload_n 0, 1) := by decide +kernel
theorem dX10_holdOf_20 : decode cX10_holdOf 20 = .ok (.invokevirtual 149, 3) := by decide +kernel
theorem dX10_holdOf_23 : decode cX10_holdOf 23 = .ok (.iload 4, 2) := by decide +kernel
theorem dX10_holdOf_25 : decode cX10_holdOf 25 = .ok (.bipush 24, 2) := by decide +kernel
theorem dX10_holdOf_27 : decode cX10_holdOf 27 = .ok (.if_icmp .ge 26, 3) := by decide +kernel
theorem dX10_holdOf_30 : decode cX10_holdOf 30 = .ok (.aload_n 0, 1) := by decide +kernel
theorem dX10_holdOf_31 : decode cX10_holdOf 31 = .ok (.iload_n 1, 1) := by decide +kernel
theorem dX10_holdOf_32 : decode cX10_holdOf 32 = .ok (.invokevirtual 152, 3) := by decide +kernel
theorem dX10_holdOf_35 : decode cX10_holdOf 35 = .ok (.iload_n 2, 1) := by decide +kernel
theorem dX10_holdOf_36 : decode cX10_holdOf 36 = .ok (.if_icmp .ne 17, 3) := by decide +kernel
theorem dX10_holdOf_39 : decode cX10_holdOf 39 = .ok (.iinc 4 1, 3) := by decide +kernel
theorem dX10_holdOf_42 : decode cX10_holdOf 42 = .ok (.aload_n 0, 1) := by decide +kernel
theorem dX10_holdOf_43 : decode cX10_holdOf 43 = .ok (.invokevirtual 173, 3) := by decide +kernel
theorem dX10_holdOf_46 : decode cX10_holdOf 46 = .ok (.aload_n 0, 1) := by decide +kernel
theorem dX10_holdOf_47 : decode cX10_holdOf 47 = .ok (.invokevirtual 149, 3) := by decide +kernel
theorem dX10_holdOf_50 : decode cX10_holdOf 50 = .ok (.goto (-27), 3) := by decide +kernel
theorem dX10_holdOf_53 : decode cX10_holdOf 53 = .ok (.aload_n 0, 1) := by decide +kernel
theorem dX10_holdOf_54 : decode cX10_holdOf 54 = .ok (.getfield 37, 3) := by decide +kernel
theorem dX10_holdOf_57 : decode cX10_holdOf 57 = .ok (.aload_n 0, 1) := by decide +kernel
theorem dX10_holdOf_58 : decode cX10_holdOf 58 = .ok (.getfield 22, 3) := by decide +kernel
theorem dX10_holdOf_61 : decode cX10_holdOf 61 = .ok (.invokestatic 186, 3) := by decide +kernel
theorem dX10_holdOf_64 : decode cX10_holdOf 64 = .ok (.aload_n 0, 1) := by decide +kernel
theorem dX10_holdOf_65 : decode cX10_holdOf 65 = .ok (.iload_n 3, 1) := by decide +kernel
theorem dX10_holdOf_66 : decode cX10_holdOf 66 = .ok (.putfield 92, 3) := by decide +kernel
theorem dX10_holdOf_69 : decode cX10_holdOf 69 = .ok (.iload 4, 2) := by decide +kernel
theorem dX10_holdOf_71 : decode cX10_holdOf 71 = .ok (.ireturn, 1) := by decide +kernel
theorem dX10_hold_0 : decode cX10_hold 0 = .ok (.aload_n 0, 1) := by decide +kernel
theorem dX10_hold_1 : decode cX10_hold 1 = .ok (.iload_n 1, 1) := by decide +kernel
theorem dX10_hold_2 : decode cX10_hold 2 = .ok (.invokevirtual 119, 3) := by decide +kernel
theorem dX10_hold_5 : decode cX10_hold 5 = .ok (.ifCond .ne 6, 3) := by decide +kernel
theorem dX10_hold_8 : decode cX10_hold 8 = .ok (.bipush (-101), 2) := by decide +kernel
theorem dX10_hold_10 : decode cX10_hold 10 = .ok (.ireturn, 1) := by decide +kernel
theorem dX10_hold_11 : decode cX10_hold 11 = .ok (.iload_n 2, 1) := by decide +kernel
theorem dX10_hold_12 : decode cX10_hold 12 = .ok (.i2l, 1) := by decide +kernel
theorem dX10_hold_13 : decode cX10_hold 13 = .ok (.lconst 0, 1) := by decide +kernel
theorem dX10_hold_14 : decode cX10_hold 14 = .ok (.ldc2_w 115, 3) := by decide +kernel
theorem dX10_hold_17 : decode cX10_hold 17 = .ok (.invokestatic 64, 3) := by decide +kernel
theorem dX10_hold_20 : decode cX10_hold 20 = .ok (.ifCond .eq 12, 3) := by decide +kernel
theorem dX10_hold_23 : decode cX10_hold 23 = .ok (.aload_n 0, 1) := by decide +kernel
theorem dX10_hold_24 : decode cX10_hold 24 = .ok (.iload_n 1, 1) := by decide +kernel
theorem dX10_hold_25 : decode cX10_hold 25 = .ok (.iload_n 2, 1) := by decide +kernel
theorem dX10_hold_26 : decode cX10_hold 26 = .ok (.invokevirtual 196, 3) := by decide +kernel
theorem dX10_hold_29 : decode cX10_hold 29 = .ok (.goto 5, 3) := by decide +kernel
theorem dX10_hold_32 : decode cX10_hold 32 = .ok (.bipush (-102), 2) := by decide +kernel
theorem dX10_hold_34 : decode cX10_hold 34 = .ok (.ireturn, 1) := by decide +kernel
theorem dX10_nose_0 : decode cX10_nose 0 = .ok (.aload_n 0, 1) := by decide +kernel
theorem dX10_nose_1 : decode cX10_nose 1 = .ok (.iload_n 1, 1) := by decide +kernel
theorem dX10_nose_2 : decode cX10_nose 2 = .ok (.invokevirtual 119, 3) := by decide +kernel
theorem dX10_nose_5 : decode cX10_nose 5 = .ok (.ifCond .ne 6, 3) := by decide +kernel
theorem dX10_nose_8 : decode cX10_nose 8 = .ok (.bipush (-101), 2) := by decide +kernel
theorem dX10_nose_10 : decode cX10_nose 10 = .ok (.ireturn, 1) := by decide +kernel
theorem dX10_nose_11 : decode cX10_nose 11 = .ok (.iload_n 2, 1) := by decide +kernel
theorem dX10_nose_12 : decode cX10_nose 12 = .ok (.i2l, 1) := by decide +kernel
theorem dX10_nose_13 : decode cX10_nose 13 = .ok (.ldc2_w 199, 3) := by decide +kernel
theorem dX10_nose_16 : decode cX10_nose 16 = .ok (.ldc2_w 115, 3) := by decide +kernel
theorem dX10_nose_19 : decode cX10_nose 19 = .ok (.invokestatic 64, 3) := by decide +kernel
theorem dX10_nose_22 : decode cX10_nose 22 = .ok (.ifCond .ne 6, 3) := by decide +kernel
theorem dX10_nose_25 : decode cX10_nose 25 = .ok (.bipush (-102), 2) := by decide +kernel
theorem dX10_nose_27 : decode cX10_nose 27 = .ok (.ireturn, 1) := by decide +kernel
theorem dX10_nose_28 : decode cX10_nose 28 = .ok (.aload_n 0, 1) := by decide +kernel
theorem dX10_nose_29 : decode cX10_nose 29 = .ok (.getfield 98, 3) := by decide +kernel
theorem dX10_nose_32 : decode cX10_nose 32 = .ok (.bipush 8, 2) := by decide +kernel
theorem dX10_nose_34 : decode cX10_nose 34 = .ok (.if_icmp .ne 6, 3) := by decide +kernel
theorem dX10_nose_37 : decode cX10_nose 37 = .ok (.bipush (-104), 2) := by decide +kernel
theorem dX10_nose_39 : decode cX10_nose 39 = .ok (.ireturn, 1) := by decide +kernel
theorem dX10_nose_40 : decode cX10_nose 40 = .ok (.aload_n 0, 1) := by decide +kernel
theorem dX10_nose_41 : decode cX10_nose 41 = .ok (.getfield 40, 3) := by decide +kernel
theorem dX10_nose_44 : decode cX10_nose 44 = .ok (.iconst 2, 1) := by decide +kernel
theorem dX10_nose_45 : decode cX10_nose 45 = .ok (.aload_n 0, 1) := by decide +kernel
theorem dX10_nose_46 : decode cX10_nose 46 = .ok (.getfield 98, 3) := by decide +kernel
theorem dX10_nose_49 : decode cX10_nose 49 = .ok (.imul, 1) := by decide +kernel
theorem dX10_nose_50 : decode cX10_nose 50 = .ok (.iload_n 1, 1) := by decide +kernel
theorem dX10_nose_51 : decode cX10_nose 51 = .ok (.iastore, 1) := by decide +kernel
theorem dX10_nose_52 : decode cX10_nose 52 = .ok (.aload_n 0, 1) := by decide +kernel
theorem dX10_nose_53 : decode cX10_nose 53 = .ok (.getfield 40, 3) := by decide +kernel
theorem dX10_nose_56 : decode cX10_nose 56 = .ok (.iconst 2, 1) := by decide +kernel
theorem dX10_nose_57 : decode cX10_nose 57 = .ok (.aload_n 0, 1) := by decide +kernel
theorem dX10_nose_58 : decode cX10_nose 58 = .ok (.getfield 98, 3) := by decide +kernel
theorem dX10_nose_61 : decode cX10_nose 61 = .ok (.imul, 1) := by decide +kernel
theorem dX10_nose_62 : decode cX10_nose 62 = .ok (.iconst 1, 1) := by decide +kernel
theorem dX10_nose_63 : decode cX10_nose 63 = .ok (.iadd, 1) := by decide +kernel
theorem dX10_nose_64 : decode cX10_nose 64 = .ok (.iload_n 2, 1) := by decide +kernel
theorem dX10_nose_65 : decode cX10_nose 65 = .ok (.iastore, 1) := by decide +kernel
theorem dX10_nose_66 : decode cX10_nose 66 = .ok (.aload_n 0, 1) := by decide +kernel
theorem dX10_nose_67 : decode cX10_nose 67 = .ok (.dup, 1) := by decide +kernel
theorem dX10_nose_68 : decode cX10_nose 68 = .ok (.getfield 98, 3) := by decide +kernel
theorem dX10_nose_71 : decode cX10_nose 71 = .ok (.iconst 1, 1) := by decide +kernel
theorem dX10_nose_72 : decode cX10_nose 72 = .ok (.iadd, 1) := by decide +kernel
theorem dX10_nose_73 : decode cX10_nose 73 = .ok (.putfield 98, 3) := by decide +kernel
theorem dX10_nose_76 : decode cX10_nose 76 = .ok (.aload_n 0, 1) := by decide +kernel
theorem dX10_nose_77 : decode cX10_nose 77 = .ok (.getfield 98, 3) := by decide +kernel
theorem dX10_nose_80 : decode cX10_nose 80 = .ok (.ireturn, 1) := by decide +kernel
theorem dX10_forget_0 : decode cX10_forget 0 = .ok (.aload_n 0, 1) := by decide +kernel
theorem dX10_forget_1 : decode cX10_forget 1 = .ok (.getfield 98, 3) := by decide +kernel
theorem dX10_forget_4 : decode cX10_forget 4 = .ok (.istore_n 1, 1) := by decide +kernel
theorem dX10_forget_5 : decode cX10_forget 5 = .ok (.aload_n 0, 1) := by decide +kernel
theorem dX10_forget_6 : decode cX10_forget 6 = .ok (.iconst 0, 1) := by decide +kernel
theorem dX10_forget_7 : decode cX10_forget 7 = .ok (.putfield 98, 3) := by decide +kernel
theorem dX10_forget_10 : decode cX10_forget 10 = .ok (.iload_n 1, 1) := by decide +kernel
theorem dX10_forget_11 : decode cX10_forget 11 = .ok (.ireturn, 1) := by decide +kernel
theorem dX10_isSmeltBy_0 : decode cX10_isSmeltBy 0 = .ok (.aload_n 0, 1) := by decide +kernel
theorem dX10_isSmeltBy_1 : decode cX10_isSmeltBy 1 = .ok (.getfield 13, 3) := by decide +kernel
theorem dX10_isSmeltBy_4 : decode cX10_isSmeltBy 4 = .ok (.iload_n 1, 1) := by decide +kernel
theorem dX10_isSmeltBy_5 : decode cX10_isSmeltBy 5 = .ok (.bipush 27, 2) := by decide +kernel
theorem dX10_isSmeltBy_7 : decode cX10_isSmeltBy 7 = .ok (.idiv, 1) := by decide +kernel
theorem dX10_isSmeltBy_8 : decode cX10_isSmeltBy 8 = .ok (.iaload, 1) := by decide +kernel
theorem dX10_isSmeltBy_9 : decode cX10_isSmeltBy 9 = .ok (.ifCond .eq 5, 3) := by decide +kernel
theorem dX10_isSmeltBy_12 : decode cX10_isSmeltBy 12 = .ok (.iconst 0, 1) := by decide +kernel
theorem dX10_isSmeltBy_13 : decode cX10_isSmeltBy 13 = .ok (.ireturn, 1) := by decide +kernel
theorem dX10_isSmeltBy_14 : decode cX10_isSmeltBy 14 = .ok (.aload_n 0, 1) := by decide +kernel
theorem dX10_isSmeltBy_15 : decode cX10_isSmeltBy 15 = .ok (.iconst 0, 1) := by decide +kernel
theorem dX10_isSmeltBy_16 : decode cX10_isSmeltBy 16 = .ok (.iload_n 1, 1) := by decide +kernel
theorem dX10_isSmeltBy_17 : decode cX10_isSmeltBy 17 = .ok (.bipush 9, 2) := by decide +kernel
theorem dX10_isSmeltBy_19 : decode cX10_isSmeltBy 19 = .ok (.idiv, 1) := by decide +kernel
theorem dX10_isSmeltBy_20 : decode cX10_isSmeltBy 20 = .ok (.iconst 3, 1) := by decide +kernel
theorem dX10_isSmeltBy_21 : decode cX10_isSmeltBy 21 = .ok (.irem, 1) := by decide +kernel
theorem dX10_isSmeltBy_22 : decode cX10_isSmeltBy 22 = .ok (.iload_n 1, 1) := by decide +kernel
theorem dX10_isSmeltBy_23 : decode cX10_isSmeltBy 23 = .ok (.bipush 27, 2) := by decide +kernel
theorem dX10_isSmeltBy_25 : decode cX10_isSmeltBy 25 = .ok (.idiv, 1) := by decide +kernel
theorem dX10_isSmeltBy_26 : decode cX10_isSmeltBy 26 = .ok (.iload_n 1, 1) := by decide +kernel
theorem dX10_isSmeltBy_27 : decode cX10_isSmeltBy 27 = .ok (.bipush 9, 2) := by decide +kernel
theorem dX10_isSmeltBy_29 : decode cX10_isSmeltBy 29 = .ok (.irem, 1) := by decide +kernel
theorem dX10_isSmeltBy_30 : decode cX10_isSmeltBy 30 = .ok (.iconst 1, 1) := by decide +kernel
theorem dX10_isSmeltBy_31 : decode cX10_isSmeltBy 31 = .ok (.iadd, 1) := by decide +kernel
theorem dX10_isSmeltBy_32 : decode cX10_isSmeltBy 32 = .ok (.invokevirtual 176, 3) := by decide +kernel
theorem dX10_isSmeltBy_35 : decode cX10_isSmeltBy 35 = .ok (.istore_n 2, 1) := by decide +kernel
theorem dX10_isSmeltBy_36 : decode cX10_isSmeltBy 36 = .ok (.iconst 1, 1) := by decide +kernel
theorem dX10_isSmeltBy_37 : decode cX10_isSmeltBy 37 = .ok (.istore_n 3, 1) := by decide +kernel
theorem dX10_isSmeltBy_38 : decode cX10_isSmeltBy 38 = .ok (.iconst 0, 1) := by decide +kernel
theorem dX10_isSmeltBy_39 : decode cX10_isSmeltBy 39 = .ok (.istore 4, 2) := by decide +kernel
theorem dX10_isSmeltBy_41 : decode cX10_isSmeltBy 41 = .ok (.iload 4, 2) := by decide +kernel
theorem dX10_isSmeltBy_43 : decode cX10_isSmeltBy 43 = .ok (.aload_n 0, 1) := by decide +kernel
theorem dX10_isSmeltBy_44 : decode cX10_isSmeltBy 44 = .ok (.getfield 98, 3) := by decide +kernel
theorem dX10_isSmeltBy_47 : decode cX10_isSmeltBy 47 = .ok (.if_icmp .ge 46, 3) := by decide +kernel
theorem dX10_isSmeltBy_50 : decode cX10_isSmeltBy 50 = .ok (.iload_n 3, 1) := by decide +kernel
theorem dX10_isSmeltBy_51 : decode cX10_isSmeltBy 51 = .ok (.ifCond .eq 34, 3) := by decide +kernel
theorem dX10_isSmeltBy_54 : decode cX10_isSmeltBy 54 = .ok (.aload_n 0, 1) := by decide +kernel
theorem dX10_isSmeltBy_55 : decode cX10_isSmeltBy 55 = .ok (.aload_n 0, 1) := by decide +kernel
theorem dX10_isSmeltBy_56 : decode cX10_isSmeltBy 56 = .ok (.getfield 40, 3) := by decide +kernel
theorem dX10_isSmeltBy_59 : decode cX10_isSmeltBy 59 = .ok (.iconst 2, 1) := by decide +kernel
theorem dX10_isSmeltBy_60 : decode cX10_isSmeltBy 60 = .ok (.iload 4, 2) := by decide +kernel
theorem dX10_isSmeltBy_62 : decode cX10_isSmeltBy 62 = .ok (.imul, 1) := by decide +kernel
theorem dX10_isSmeltBy_63 : decode cX10_isSmeltBy 63 = .ok (.iaload, 1) := by decide +kernel
theorem dX10_isSmeltBy_64 : decode cX10_isSmeltBy 64 = .ok (.invokevirtual 152, 3) := by decide +kernel
theorem dX10_isSmeltBy_67 : decode cX10_isSmeltBy 67 = .ok (.aload_n 0, 1) := by decide +kernel
theorem dX10_isSmeltBy_68 : decode cX10_isSmeltBy 68 = .ok (.getfield 40, 3) := by decide +kernel
theorem dX10_isSmeltBy_71 : decode cX10_isSmeltBy 71 = .ok (.iconst 2, 1) := by decide +kernel
theorem dX10_isSmeltBy_72 : decode cX10_isSmeltBy 72 = .ok (.iload 4, 2) := by decide +kernel
theorem dX10_isSmeltBy_74 : decode cX10_isSmeltBy 74 = .ok (.imul, 1) := by decide +kernel
theorem dX10_isSmeltBy_75 : decode cX10_isSmeltBy 75 = .ok (.iconst 1, 1) := by decide +kernel
theorem dX10_isSmeltBy_76 : decode cX10_isSmeltBy 76 = .ok (.iadd, 1) := by decide +kernel
theorem dX10_isSmeltBy_77 : decode cX10_isSmeltBy 77 = .ok (.iaload, 1) := by decide +kernel
theorem dX10_isSmeltBy_78 : decode cX10_isSmeltBy 78 = .ok (.if_icmp .ne 7, 3) := by decide +kernel
theorem dX10_isSmeltBy_81 : decode cX10_isSmeltBy 81 = .ok (.iconst 1, 1) := by decide +kernel
theorem dX10_isSmeltBy_82 : decode cX10_isSmeltBy 82 = .ok (.goto 4, 3) := by decide +kernel
theorem dX10_isSmeltBy_85 : decode cX10_isSmeltBy 85 = .ok (.iconst 0, 1) := by decide +kernel
theorem dX10_isSmeltBy_86 : decode cX10_isSmeltBy 86 = .ok (.istore_n 3, 1) := by decide +kernel
theorem dX10_isSmeltBy_87 : decode cX10_isSmeltBy 87 = .ok (.iinc 4 1, 3) := by decide +kernel
theorem dX10_isSmeltBy_90 : decode cX10_isSmeltBy 90 = .ok (.goto (-49), 3) := by decide +kernel
theorem dX10_isSmeltBy_93 : decode cX10_isSmeltBy 93 = .ok (.iload_n 3, 1) := by decide +kernel
theorem dX10_isSmeltBy_94 : decode cX10_isSmeltBy 94 = .ok (.ireturn, 1) := by decide +kernel
theorem dX10_unknown_0 : decode cX10_unknown 0 = .ok (.iload_n 1, 1) := by decide +kernel
theorem dX10_unknown_1 : decode cX10_unknown 1 = .ok (.i2l, 1) := by decide +kernel
theorem dX10_unknown_2 : decode cX10_unknown 2 = .ok (.lconst 0, 1) := by decide +kernel
theorem dX10_unknown_3 : decode cX10_unknown 3 = .ok (.lconst 1, 1) := by decide +kernel
theorem dX10_unknown_4 : decode cX10_unknown 4 = .ok (.invokestatic 64, 3) := by decide +kernel
theorem dX10_unknown_7 : decode cX10_unknown 7 = .ok (.ifCond .ne 6, 3) := by decide +kernel
theorem dX10_unknown_10 : decode cX10_unknown 10 = .ok (.bipush (-102), 2) := by decide +kernel
theorem dX10_unknown_12 : decode cX10_unknown 12 = .ok (.ireturn, 1) := by decide +kernel
theorem dX10_unknown_13 : decode cX10_unknown 13 = .ok (.aload_n 0, 1) := by decide +kernel
theorem dX10_unknown_14 : decode cX10_unknown 14 = .ok (.invokevirtual 109, 3) := by decide +kernel
theorem dX10_unknown_17 : decode cX10_unknown 17 = .ok (.ifCond .ne 12, 3) := by decide +kernel
theorem dX10_unknown_20 : decode cX10_unknown 20 = .ok (.aload_n 0, 1) := by decide +kernel
theorem dX10_unknown_21 : decode cX10_unknown 21 = .ok (.getfield 201, 3) := by decide +kernel
theorem dX10_unknown_24 : decode cX10_unknown 24 = .ok (.bipush 30, 2) := by decide +kernel
theorem dX10_unknown_26 : decode cX10_unknown 26 = .ok (.if_icmp .ne 6, 3) := by decide +kernel
theorem dX10_unknown_29 : decode cX10_unknown 29 = .ok (.bipush (-103), 2) := by decide +kernel
theorem dX10_unknown_31 : decode cX10_unknown 31 = .ok (.ireturn, 1) := by decide +kernel
theorem dX10_unknown_32 : decode cX10_unknown 32 = .ok (.aload_n 0, 1) := by decide +kernel
theorem dX10_unknown_33 : decode cX10_unknown 33 = .ok (.dup, 1) := by decide +kernel
theorem dX10_unknown_34 : decode cX10_unknown 34 = .ok (.getfield 201, 3) := by decide +kernel
theorem dX10_unknown_37 : decode cX10_unknown 37 = .ok (.iconst 1, 1) := by decide +kernel
theorem dX10_unknown_38 : decode cX10_unknown 38 = .ok (.iadd, 1) := by decide +kernel
theorem dX10_unknown_39 : decode cX10_unknown 39 = .ok (.putfield 201, 3) := by decide +kernel
theorem dX10_unknown_42 : decode cX10_unknown 42 = .ok (.iconst 0, 1) := by decide +kernel
theorem dX10_unknown_43 : decode cX10_unknown 43 = .ok (.istore_n 2, 1) := by decide +kernel
theorem dX10_unknown_44 : decode cX10_unknown 44 = .ok (.iconst (-1), 1) := by decide +kernel
theorem dX10_unknown_45 : decode cX10_unknown 45 = .ok (.istore_n 3, 1) := by decide +kernel
theorem dX10_unknown_46 : decode cX10_unknown 46 = .ok (.sipush 215, 3) := by decide +kernel
theorem dX10_unknown_49 : decode cX10_unknown 49 = .ok (.istore 4, 2) := by decide +kernel
theorem dX10_unknown_51 : decode cX10_unknown 51 = .ok (.iload 4, 2) := by decide +kernel
theorem dX10_unknown_53 : decode cX10_unknown 53 = .ok (.ifCond .lt 24, 3) := by decide +kernel
theorem dX10_unknown_56 : decode cX10_unknown 56 = .ok (.aload_n 0, 1) := by decide +kernel
theorem dX10_unknown_57 : decode cX10_unknown 57 = .ok (.iload 4, 2) := by decide +kernel
theorem dX10_unknown_59 : decode cX10_unknown 59 = .ok (.invokevirtual 204, 3) := by decide +kernel
theorem dX10_unknown_62 : decode cX10_unknown 62 = .ok (.ifCond .eq 9, 3) := by decide +kernel
theorem dX10_unknown_65 : decode cX10_unknown 65 = .ok (.iinc 2 1, 3) := by decide +kernel
theorem dX10_unknown_68 : decode cX10_unknown 68 = .ok (.iload 4, 2) := by decide +kernel
theorem dX10_unknown_70 : decode cX10_unknown 70 = .ok (.istore_n 3, 1) := by decide +kernel
theorem dX10_unknown_71 : decode cX10_unknown 71 = .ok (.iinc 4 (-1), 3) := by decide +kernel
theorem dX10_unknown_74 : decode cX10_unknown 74 = .ok (.goto (-23), 3) := by decide +kernel
theorem dX10_unknown_77 : decode cX10_unknown 77 = .ok (.iload_n 1, 1) := by decide +kernel
theorem dX10_unknown_78 : decode cX10_unknown 78 = .ok (.ifCond .ne 7, 3) := by decide +kernel
theorem dX10_unknown_81 : decode cX10_unknown 81 = .ok (.iload_n 2, 1) := by decide +kernel
theorem dX10_unknown_82 : decode cX10_unknown 82 = .ok (.goto 4, 3) := by decide +kernel
theorem dX10_unknown_85 : decode cX10_unknown 85 = .ok (.iload_n 3, 1) := by decide +kernel
theorem dX10_unknown_86 : decode cX10_unknown 86 = .ok (.ireturn, 1) := by decide +kernel
theorem dX10_sniff_0 : decode cX10_sniff 0 = .ok (.aload_n 0, 1) := by decide +kernel
theorem dX10_sniff_1 : decode cX10_sniff 1 = .ok (.invokevirtual 109, 3) := by decide +kernel
theorem dX10_sniff_4 : decode cX10_sniff 4 = .ok (.ifCond .ne 12, 3) := by decide +kernel
theorem dX10_sniff_7 : decode cX10_sniff 7 = .ok (.aload_n 0, 1) := by decide +kernel
theorem dX10_sniff_8 : decode cX10_sniff 8 = .ok (.getfield 201, 3) := by decide +kernel
theorem dX10_sniff_11 : decode cX10_sniff 11 = .ok (.bipush 30, 2) := by decide +kernel
theorem dX10_sniff_13 : decode cX10_sniff 13 = .ok (.if_icmp .ne 6, 3) := by decide +kernel
theorem dX10_sniff_16 : decode cX10_sniff 16 = .ok (.bipush (-103), 2) := by decide +kernel
theorem dX10_sniff_18 : decode cX10_sniff 18 = .ok (.ireturn, 1) := by decide +kernel
theorem dX10_sniff_19 : decode cX10_sniff 19 = .ok (.aload_n 0, 1) := by decide +kernel
theorem dX10_sniff_20 : decode cX10_sniff 20 = .ok (.dup, 1) := by decide +kernel
theorem dX10_sniff_21 : decode cX10_sniff 21 = .ok (.getfield 201, 3) := by decide +kernel
theorem dX10_sniff_24 : decode cX10_sniff 24 = .ok (.iconst 1, 1) := by decide +kernel
theorem dX10_sniff_25 : decode cX10_sniff 25 = .ok (.iadd, 1) := by decide +kernel
theorem dX10_sniff_26 : decode cX10_sniff 26 = .ok (.putfield 201, 3) := by decide +kernel
theorem dX10_sniff_29 : decode cX10_sniff 29 = .ok (.iconst 0, 1) := by decide +kernel
theorem dX10_sniff_30 : decode cX10_sniff 30 = .ok (.istore_n 1, 1) := by decide +kernel
theorem dX10_sniff_31 : decode cX10_sniff 31 = .ok (.iload_n 1, 1) := by decide +kernel
theorem dX10_sniff_32 : decode cX10_sniff 32 = .ok (.bipush 32, 2) := by decide +kernel
theorem dX10_sniff_34 : decode cX10_sniff 34 = .ok (.if_icmp .ge 16, 3) := by decide +kernel
theorem dX10_sniff_37 : decode cX10_sniff 37 = .ok (.aload_n 0, 1) := by decide +kernel
theorem dX10_sniff_38 : decode cX10_sniff 38 = .ok (.getfield 43, 3) := by decide +kernel
theorem dX10_sniff_41 : decode cX10_sniff 41 = .ok (.iload_n 1, 1) := by decide +kernel
theorem dX10_sniff_42 : decode cX10_sniff 42 = .ok (.iconst 0, 1) := by decide +kernel
theorem dX10_sniff_43 : decode cX10_sniff 43 = .ok (.iastore, 1) := by decide +kernel
theorem dX10_sniff_44 : decode cX10_sniff 44 = .ok (.iinc 1 1, 3) := by decide +kernel
theorem dX10_sniff_47 : decode cX10_sniff 47 = .ok (.goto (-16), 3) := by decide +kernel
theorem dX10_sniff_50 : decode cX10_sniff 50 = .ok (.iconst 0, 1) := by decide +kernel
theorem dX10_sniff_51 : decode cX10_sniff 51 = .ok (.istore_n 1, 1) := by decide +kernel
theorem dX10_sniff_52 : decode cX10_sniff 52 = .ok (.iconst 0, 1) := by decide +kernel
theorem dX10_sniff_53 : decode cX10_sniff 53 = .ok (.istore_n 2, 1) := by decide +kernel
theorem dX10_sniff_54 : decode cX10_sniff 54 = .ok (.iload_n 2, 1) := by decide +kernel
theorem dX10_sniff_55 : decode cX10_sniff 55 = .ok (.sipush 216, 3) := by decide +kernel
theorem dX10_sniff_58 : decode cX10_sniff 58 = .ok (.if_icmp .ge 65, 3) := by decide +kernel
theorem dX10_sniff_61 : decode cX10_sniff 61 = .ok (.aload_n 0, 1) := by decide +kernel
theorem dX10_sniff_62 : decode cX10_sniff 62 = .ok (.iload_n 2, 1) := by decide +kernel
theorem dX10_sniff_63 : decode cX10_sniff 63 = .ok (.invokevirtual 204, 3) := by decide +kernel
theorem dX10_sniff_66 : decode cX10_sniff 66 = .ok (.ifCond .eq 51, 3) := by decide +kernel
theorem dX10_sniff_69 : decode cX10_sniff 69 = .ok (.iinc 1 1, 3) := by decide +kernel
theorem dX10_sniff_72 : decode cX10_sniff 72 = .ok (.iconst 0, 1) := by decide +kernel
theorem dX10_sniff_73 : decode cX10_sniff 73 = .ok (.istore_n 3, 1) := by decide +kernel
theorem dX10_sniff_74 : decode cX10_sniff 74 = .ok (.iload_n 3, 1) := by decide +kernel
theorem dX10_sniff_75 : decode cX10_sniff 75 = .ok (.bipush 8, 2) := by decide +kernel
theorem dX10_sniff_77 : decode cX10_sniff 77 = .ok (.if_icmp .ge 40, 3) := by decide +kernel
theorem dX10_sniff_80 : decode cX10_sniff 80 = .ok (.aload_n 0, 1) := by decide +kernel
theorem dX10_sniff_81 : decode cX10_sniff 81 = .ok (.getfield 43, 3) := by decide +kernel
theorem dX10_sniff_84 : decode cX10_sniff 84 = .ok (.iconst 4, 1) := by decide +kernel
theorem dX10_sniff_85 : decode cX10_sniff 85 = .ok (.iload_n 3, 1) := by decide +kernel
theorem dX10_sniff_86 : decode cX10_sniff 86 = .ok (.imul, 1) := by decide +kernel
theorem dX10_sniff_87 : decode cX10_sniff 87 = .ok (.aload_n 0, 1) := by decide +kernel
theorem dX10_sniff_88 : decode cX10_sniff 88 = .ok (.iload_n 3, 1) := by decide +kernel
theorem dX10_sniff_89 : decode cX10_sniff 89 = .ok (.invokevirtual 152, 3) := by decide +kernel
theorem dX10_sniff_92 : decode cX10_sniff 92 = .ok (.iconst (-1), 1) := by decide +kernel
theorem dX10_sniff_93 : decode cX10_sniff 93 = .ok (.if_icmp .ne 7, 3) := by decide +kernel
theorem dX10_sniff_96 : decode cX10_sniff 96 = .ok (.iconst 3, 1) := by decide +kernel
theorem dX10_sniff_97 : decode cX10_sniff 97 = .ok (.goto 8, 3) := by decide +kernel
theorem dX10_sniff_100 : decode cX10_sniff 100 = .ok (.aload_n 0, 1) := by decide +kernel
theorem dX10_sniff_101 : decode cX10_sniff 101 = .ok (.iload_n 3, 1) := by decide +kernel
theorem dX10_sniff_102 : decode cX10_sniff 102 = .ok (.invokevirtual 152, 3) := by decide +kernel
theorem dX10_sniff_105 : decode cX10_sniff 105 = .ok (.iadd, 1) := by decide +kernel
theorem dX10_sniff_106 : decode cX10_sniff 106 = .ok (.dup2, 1) := by decide +kernel
theorem dX10_sniff_107 : decode cX10_sniff 107 = .ok (.iaload, 1) := by decide +kernel
theorem dX10_sniff_108 : decode cX10_sniff 108 = .ok (.iconst 1, 1) := by decide +kernel
theorem dX10_sniff_109 : decode cX10_sniff 109 = .ok (.iadd, 1) := by decide +kernel
theorem dX10_sniff_110 : decode cX10_sniff 110 = .ok (.iastore, 1) := by decide +kernel
theorem dX10_sniff_111 : decode cX10_sniff 111 = .ok (.iinc 3 1, 3) := by decide +kernel
theorem dX10_sniff_114 : decode cX10_sniff 114 = .ok (.goto (-40), 3) := by decide +kernel
theorem dX10_sniff_117 : decode cX10_sniff 117 = .ok (.iinc 2 1, 3) := by decide +kernel
theorem dX10_sniff_120 : decode cX10_sniff 120 = .ok (.goto (-66), 3) := by decide +kernel
theorem dX10_sniff_123 : decode cX10_sniff 123 = .ok (.iconst (-1), 1) := by decide +kernel
theorem dX10_sniff_124 : decode cX10_sniff 124 = .ok (.istore_n 2, 1) := by decide +kernel
theorem dX10_sniff_125 : decode cX10_sniff 125 = .ok (.sipush 1000, 3) := by decide +kernel
theorem dX10_sniff_128 : decode cX10_sniff 128 = .ok (.istore_n 3, 1) := by decide +kernel
theorem dX10_sniff_129 : decode cX10_sniff 129 = .ok (.iconst 0, 1) := by decide +kernel
theorem dX10_sniff_130 : decode cX10_sniff 130 = .ok (.istore 4, 2) := by decide +kernel
theorem dX10_sniff_132 : decode cX10_sniff 132 = .ok (.iload 4, 2) := by decide +kernel
theorem dX10_sniff_134 : decode cX10_sniff 134 = .ok (.bipush 8, 2) := by decide +kernel
theorem dX10_sniff_136 : decode cX10_sniff 136 = .ok (.if_icmp .ge 93, 3) := by decide +kernel
theorem dX10_sniff_139 : decode cX10_sniff 139 = .ok (.iload_n 1, 1) := by decide +kernel
theorem dX10_sniff_140 : decode cX10_sniff 140 = .ok (.ifCond .le 89, 3) := by decide +kernel
theorem dX10_sniff_143 : decode cX10_sniff 143 = .ok (.iconst 0, 1) := by decide +kernel
theorem dX10_sniff_144 : decode cX10_sniff 144 = .ok (.istore 5, 2) := by decide +kernel
theorem dX10_sniff_146 : decode cX10_sniff 146 = .ok (.iconst 0, 1) := by decide +kernel
theorem dX10_sniff_147 : decode cX10_sniff 147 = .ok (.istore 6, 2) := by decide +kernel
theorem dX10_sniff_149 : decode cX10_sniff 149 = .ok (.iload 6, 2) := by decide +kernel
theorem dX10_sniff_151 : decode cX10_sniff 151 = .ok (.iconst 4, 1) := by decide +kernel
theorem dX10_sniff_152 : decode cX10_sniff 152 = .ok (.if_icmp .ge 45, 3) := by decide +kernel
theorem dX10_sniff_155 : decode cX10_sniff 155 = .ok (.aload_n 0, 1) := by decide +kernel
theorem dX10_sniff_156 : decode cX10_sniff 156 = .ok (.getfield 43, 3) := by decide +kernel
theorem dX10_sniff_159 : decode cX10_sniff 159 = .ok (.iconst 4, 1) := by decide +kernel
theorem dX10_sniff_160 : decode cX10_sniff 160 = .ok (.iload 4, 2) := by decide +kernel
theorem dX10_sniff_162 : decode cX10_sniff 162 = .ok (.imul, 1) := by decide +kernel
theorem dX10_sniff_163 : decode cX10_sniff 163 = .ok (.iload 6, 2) := by decide +kernel
theorem dX10_sniff_165 : decode cX10_sniff 165 = .ok (.iadd, 1) := by decide +kernel
theorem dX10_sniff_166 : decode cX10_sniff 166 = .ok (.iaload, 1) := by decide +kernel
theorem dX10_sniff_167 : decode cX10_sniff 167 = .ok (.iload 5, 2) := by decide +kernel
theorem dX10_sniff_169 : decode cX10_sniff 169 = .ok (.if_icmp .le 18, 3) := by decide +kernel
theorem dX10_sniff_172 : decode cX10_sniff 172 = .ok (.aload_n 0, 1) := by decide +kernel
theorem dX10_sniff_173 : decode cX10_sniff 173 = .ok (.getfield 43, 3) := by decide +kernel
theorem dX10_sniff_176 : decode cX10_sniff 176 = .ok (.iconst 4, 1) := by decide +kernel
theorem dX10_sniff_177 : decode cX10_sniff 177 = .ok (.iload 4, 2) := by decide +kernel
theorem dX10_sniff_179 : decode cX10_sniff 179 = .ok (.imul, 1) := by decide +kernel
theorem dX10_sniff_180 : decode cX10_sniff 180 = .ok (.iload 6, 2) := by decide +kernel
theorem dX10_sniff_182 : decode cX10_sniff 182 = .ok (.iadd, 1) := by decide +kernel
theorem dX10_sniff_183 : decode cX10_sniff 183 = .ok (.iaload, 1) := by decide +kernel
theorem dX10_sniff_184 : decode cX10_sniff 184 = .ok (.goto 5, 3) := by decide +kernel
theorem dX10_sniff_187 : decode cX10_sniff 187 = .ok (.iload 5, 2) := by decide +kernel
theorem dX10_sniff_189 : decode cX10_sniff 189 = .ok (.istore 5, 2) := by decide +kernel
theorem dX10_sniff_191 : decode cX10_sniff 191 = .ok (.iinc 6 1, 3) := by decide +kernel
theorem dX10_sniff_194 : decode cX10_sniff 194 = .ok (.goto (-45), 3) := by decide +kernel
theorem dX10_sniff_197 : decode cX10_sniff 197 = .ok (.iload 5, 2) := by decide +kernel
theorem dX10_sniff_199 : decode cX10_sniff 199 = .ok (.iload_n 3, 1) := by decide +kernel
theorem dX10_sniff_200 : decode cX10_sniff 200 = .ok (.if_icmp .ge 8, 3) := by decide +kernel
theorem dX10_sniff_203 : decode cX10_sniff 203 = .ok (.iload 4, 2) := by decide +kernel
theorem dX10_sniff_205 : decode cX10_sniff 205 = .ok (.goto 4, 3) := by decide +kernel
theorem dX10_sniff_208 : decode cX10_sniff 208 = .ok (.iload_n 2, 1) := by decide +kernel
theorem dX10_sniff_209 : decode cX10_sniff 209 = .ok (.istore_n 2, 1) := by decide +kernel
theorem dX10_sniff_210 : decode cX10_sniff 210 = .ok (.iload 5, 2) := by decide +kernel
theorem dX10_sniff_212 : decode cX10_sniff 212 = .ok (.iload_n 3, 1) := by decide +kernel
theorem dX10_sniff_213 : decode cX10_sniff 213 = .ok (.if_icmp .ge 8, 3) := by decide +kernel
theorem dX10_sniff_216 : decode cX10_sniff 216 = .ok (.iload 5, 2) := by decide +kernel
theorem dX10_sniff_218 : decode cX10_sniff 218 = .ok (.goto 4, 3) := by decide +kernel
theorem dX10_sniff_221 : decode cX10_sniff 221 = .ok (.iload_n 3, 1) := by decide +kernel
theorem dX10_sniff_222 : decode cX10_sniff 222 = .ok (.istore_n 3, 1) := by decide +kernel
theorem dX10_sniff_223 : decode cX10_sniff 223 = .ok (.iinc 4 1, 3) := by decide +kernel
theorem dX10_sniff_226 : decode cX10_sniff 226 = .ok (.goto (-94), 3) := by decide +kernel
theorem dX10_sniff_229 : decode cX10_sniff 229 = .ok (.iload_n 2, 1) := by decide +kernel
theorem dX10_sniff_230 : decode cX10_sniff 230 = .ok (.ireturn, 1) := by decide +kernel
theorem dX10_draw_0 : decode cX10_draw 0 = .ok (.aload_n 0, 1) := by decide +kernel
theorem dX10_draw_1 : decode cX10_draw 1 = .ok (.ldc2_w 207, 3) := by decide +kernel
theorem dX10_draw_4 : decode cX10_draw 4 = .ok (.aload_n 0, 1) := by decide +kernel
theorem dX10_draw_5 : decode cX10_draw 5 = .ok (.getfield 209, 3) := by decide +kernel
theorem dX10_draw_8 : decode cX10_draw 8 = .ok (.i2l, 1) := by decide +kernel
theorem dX10_draw_9 : decode cX10_draw 9 = .ok (.lmul, 1) := by decide +kernel
theorem dX10_draw_10 : decode cX10_draw 10 = .ok (.ldc2_w 212, 3) := by decide +kernel
theorem dX10_draw_13 : decode cX10_draw 13 = .ok (.ladd, 1) := by decide +kernel
theorem dX10_draw_14 : decode cX10_draw 14 = .ok (.ldc2_w 214, 3) := by decide +kernel
theorem dX10_draw_17 : decode cX10_draw 17 = .ok (.land, 1) := by decide +kernel
theorem dX10_draw_18 : decode cX10_draw 18 = .ok (.l2i, 1) := by decide +kernel
theorem dX10_draw_19 : decode cX10_draw 19 = .ok (.putfield 209, 3) := by decide +kernel
theorem dX10_draw_22 : decode cX10_draw 22 = .ok (.aload_n 0, 1) := by decide +kernel
theorem dX10_draw_23 : decode cX10_draw 23 = .ok (.getfield 209, 3) := by decide +kernel
theorem dX10_draw_26 : decode cX10_draw 26 = .ok (.ldc 216, 2) := by decide +kernel
theorem dX10_draw_28 : decode cX10_draw 28 = .ok (.idiv, 1) := by decide +kernel
theorem dX10_draw_29 : decode cX10_draw 29 = .ok (.iload_n 1, 1) := by decide +kernel
theorem dX10_draw_30 : decode cX10_draw 30 = .ok (.irem, 1) := by decide +kernel
theorem dX10_draw_31 : decode cX10_draw 31 = .ok (.ireturn, 1) := by decide +kernel
theorem dX10_days_0 : decode cX10_days 0 = .ok (.iload_n 1, 1) := by decide +kernel
theorem dX10_days_1 : decode cX10_days 1 = .ok (.i2l, 1) := by decide +kernel
theorem dX10_days_2 : decode cX10_days 2 = .ok (.lconst 1, 1) := by decide +kernel
theorem dX10_days_3 : decode cX10_days 3 = .ok (.ldc2_w 217, 3) := by decide +kernel
theorem dX10_days_6 : decode cX10_days 6 = .ok (.invokestatic 64, 3) := by decide +kernel
theorem dX10_days_9 : decode cX10_days 9 = .ok (.ifCond .eq 17, 3) := by decide +kernel
theorem dX10_days_12 : decode cX10_days 12 = .ok (.iload_n 2, 1) := by decide +kernel
theorem dX10_days_13 : decode cX10_days 13 = .ok (.ifCond .lt 13, 3) := by decide +kernel
theorem dX10_days_16 : decode cX10_days 16 = .ok (.iload_n 3, 1) := by decide +kernel
theorem dX10_days_17 : decode cX10_days 17 = .ok (.i2l, 1) := by decide +kernel
theorem dX10_days_18 : decode cX10_days 18 = .ok (.lconst 0, 1) := by decide +kernel
theorem dX10_days_19 : decode cX10_days 19 = .ok (.lconst 1, 1) := by decide +kernel
theorem dX10_days_20 : decode cX10_days 20 = .ok (.invokestatic 64, 3) := by decide +kernel
theorem dX10_days_23 : decode cX10_days 23 = .ok (.ifCond .ne 6, 3) := by decide +kernel
theorem dX10_days_26 : decode cX10_days 26 = .ok (.bipush (-102), 2) := by decide +kernel
theorem dX10_days_28 : decode cX10_days 28 = .ok (.ireturn, 1) := by decide +kernel
theorem dX10_days_29 : decode cX10_days 29 = .ok (.aload_n 0, 1) := by decide +kernel
theorem dX10_days_30 : decode cX10_days 30 = .ok (.invokevirtual 109, 3) := by decide +kernel
theorem dX10_days_33 : decode cX10_days 33 = .ok (.ifCond .eq 6, 3) := by decide +kernel
theorem dX10_days_36 : decode cX10_days 36 = .ok (.bipush (-103), 2) := by decide +kernel
theorem dX10_days_38 : decode cX10_days 38 = .ok (.ireturn, 1) := by decide +kernel
theorem dX10_days_39 : decode cX10_days 39 = .ok (.aload_n 0, 1) := by decide +kernel
theorem dX10_days_40 : decode cX10_days 40 = .ok (.getfield 22, 3) := by decide +kernel
theorem dX10_days_43 : decode cX10_days 43 = .ok (.aload_n 0, 1) := by decide +kernel
end
section
theorem dX10_days_44 : decode cX10_days 44 = .ok (.getfield 37, 3) := by decide +kernel
theorem dX10_days_47 : decode cX10_days 47 = .ok (.invokestatic 186, 3) := by decide +kernel
theorem dX10_days_50 : decode cX10_days 50 = .ok (.aload_n 0, 1) := by decide +kernel
theorem dX10_days_51 : decode cX10_days 51 = .ok (.getfield 92, 3) := by decide +kernel
theorem dX10_days_54 : decode cX10_days 54 = .ok (.istore 4, 2) := by decide +kernel
theorem dX10_days_56 : decode cX10_days 56 = .ok (.aload_n 0, 1) := by decide +kernel
theorem dX10_days_57 : decode cX10_days 57 = .ok (.getfield 86, 3) := by decide +kernel
theorem dX10_days_60 : decode cX10_days 60 = .ok (.istore 5, 2) := by decide +kernel
theorem dX10_days_62 : decode cX10_days 62 = .ok (.aload_n 0, 1) := by decide +kernel
theorem dX10_days_63 : decode cX10_days 63 = .ok (.getfield 89, 3) := by decide +kernel
theorem dX10_days_66 : decode cX10_days 66 = .ok (.istore 6, 2) := by decide +kernel
theorem dX10_days_68 : decode cX10_days 68 = .ok (.aload_n 0, 1) := by decide +kernel
theorem dX10_days_69 : decode cX10_days 69 = .ok (.iload_n 2, 1) := by decide +kernel
theorem dX10_days_70 : decode cX10_days 70 = .ok (.putfield 209, 3) := by decide +kernel
theorem dX10_days_73 : decode cX10_days 73 = .ok (.iconst 0, 1) := by decide +kernel
theorem dX10_days_74 : decode cX10_days 74 = .ok (.istore 7, 2) := by decide +kernel
theorem dX10_days_76 : decode cX10_days 76 = .ok (.iconst 0, 1) := by decide +kernel
theorem dX10_days_77 : decode cX10_days 77 = .ok (.istore 8, 2) := by decide +kernel
theorem dX10_days_79 : decode cX10_days 79 = .ok (.iload 8, 2) := by decide +kernel
theorem dX10_days_81 : decode cX10_days 81 = .ok (.iload_n 1, 1) := by decide +kernel
theorem dX10_days_82 : decode cX10_days 82 = .ok (.if_icmp .ge 49, 3) := by decide +kernel
theorem dX10_days_85 : decode cX10_days 85 = .ok (.aload_n 0, 1) := by decide +kernel
theorem dX10_days_86 : decode cX10_days 86 = .ok (.aload_n 0, 1) := by decide +kernel
theorem dX10_days_87 : decode cX10_days 87 = .ok (.iconst 5, 1) := by decide +kernel
theorem dX10_days_88 : decode cX10_days 88 = .ok (.invokevirtual 219, 3) := by decide +kernel
theorem dX10_days_91 : decode cX10_days 91 = .ok (.putfield 86, 3) := by decide +kernel
theorem dX10_days_94 : decode cX10_days 94 = .ok (.aload_n 0, 1) := by decide +kernel
theorem dX10_days_95 : decode cX10_days 95 = .ok (.aload_n 0, 1) := by decide +kernel
theorem dX10_days_96 : decode cX10_days 96 = .ok (.bipush 6, 2) := by decide +kernel
theorem dX10_days_98 : decode cX10_days 98 = .ok (.invokevirtual 219, 3) := by decide +kernel
theorem dX10_days_101 : decode cX10_days 101 = .ok (.ifCond .ne 7, 3) := by decide +kernel
theorem dX10_days_104 : decode cX10_days 104 = .ok (.iconst 1, 1) := by decide +kernel
theorem dX10_days_105 : decode cX10_days 105 = .ok (.goto 4, 3) := by decide +kernel
theorem dX10_days_108 : decode cX10_days 108 = .ok (.iconst 0, 1) := by decide +kernel
theorem dX10_days_109 : decode cX10_days 109 = .ok (.putfield 89, 3) := by decide +kernel
theorem dX10_days_112 : decode cX10_days 112 = .ok (.iload 7, 2) := by decide +kernel
theorem dX10_days_114 : decode cX10_days 114 = .ok (.aload_n 0, 1) := by decide +kernel
theorem dX10_days_115 : decode cX10_days 115 = .ok (.invokevirtual 158, 3) := by decide +kernel
theorem dX10_days_118 : decode cX10_days 118 = .ok (.iadd, 1) := by decide +kernel
theorem dX10_days_119 : decode cX10_days 119 = .ok (.istore 7, 2) := by decide +kernel
theorem dX10_days_121 : decode cX10_days 121 = .ok (.aload_n 0, 1) := by decide +kernel
theorem dX10_days_122 : decode cX10_days 122 = .ok (.invokevirtual 173, 3) := by decide +kernel
theorem dX10_days_125 : decode cX10_days 125 = .ok (.iinc 8 1, 3) := by decide +kernel
theorem dX10_days_128 : decode cX10_days 128 = .ok (.goto (-49), 3) := by decide +kernel
theorem dX10_days_131 : decode cX10_days 131 = .ok (.aload_n 0, 1) := by decide +kernel
theorem dX10_days_132 : decode cX10_days 132 = .ok (.getfield 37, 3) := by decide +kernel
theorem dX10_days_135 : decode cX10_days 135 = .ok (.aload_n 0, 1) := by decide +kernel
theorem dX10_days_136 : decode cX10_days 136 = .ok (.getfield 22, 3) := by decide +kernel
theorem dX10_days_139 : decode cX10_days 139 = .ok (.invokestatic 186, 3) := by decide +kernel
theorem dX10_days_142 : decode cX10_days 142 = .ok (.aload_n 0, 1) := by decide +kernel
theorem dX10_days_143 : decode cX10_days 143 = .ok (.iload 4, 2) := by decide +kernel
theorem dX10_days_145 : decode cX10_days 145 = .ok (.putfield 92, 3) := by decide +kernel
theorem dX10_days_148 : decode cX10_days 148 = .ok (.aload_n 0, 1) := by decide +kernel
theorem dX10_days_149 : decode cX10_days 149 = .ok (.iload 5, 2) := by decide +kernel
theorem dX10_days_151 : decode cX10_days 151 = .ok (.putfield 86, 3) := by decide +kernel
theorem dX10_days_154 : decode cX10_days 154 = .ok (.aload_n 0, 1) := by decide +kernel
theorem dX10_days_155 : decode cX10_days 155 = .ok (.iload 6, 2) := by decide +kernel
theorem dX10_days_157 : decode cX10_days 157 = .ok (.putfield 89, 3) := by decide +kernel
theorem dX10_days_160 : decode cX10_days 160 = .ok (.iload_n 3, 1) := by decide +kernel
theorem dX10_days_161 : decode cX10_days 161 = .ok (.ifCond .ne 8, 3) := by decide +kernel
theorem dX10_days_164 : decode cX10_days 164 = .ok (.iload 7, 2) := by decide +kernel
theorem dX10_days_166 : decode cX10_days 166 = .ok (.goto 7, 3) := by decide +kernel
theorem dX10_days_169 : decode cX10_days 169 = .ok (.aload_n 0, 1) := by decide +kernel
theorem dX10_days_170 : decode cX10_days 170 = .ok (.getfield 209, 3) := by decide +kernel
theorem dX10_days_173 : decode cX10_days 173 = .ok (.ireturn, 1) := by decide +kernel
theorem dX10_image_0 : decode cX10_image 0 = .ok (.aload_n 0, 1) := by decide +kernel
theorem dX10_image_1 : decode cX10_image 1 = .ok (.invokevirtual 109, 3) := by decide +kernel
theorem dX10_image_4 : decode cX10_image 4 = .ok (.ifCond .eq 6, 3) := by decide +kernel
theorem dX10_image_7 : decode cX10_image 7 = .ok (.bipush (-103), 2) := by decide +kernel
theorem dX10_image_9 : decode cX10_image 9 = .ok (.ireturn, 1) := by decide +kernel
theorem dX10_image_10 : decode cX10_image 10 = .ok (.aload_n 0, 1) := by decide +kernel
theorem dX10_image_11 : decode cX10_image 11 = .ok (.getfield 22, 3) := by decide +kernel
theorem dX10_image_14 : decode cX10_image 14 = .ok (.aload_n 0, 1) := by decide +kernel
theorem dX10_image_15 : decode cX10_image 15 = .ok (.getfield 46, 3) := by decide +kernel
theorem dX10_image_18 : decode cX10_image 18 = .ok (.invokestatic 186, 3) := by decide +kernel
theorem dX10_image_21 : decode cX10_image 21 = .ok (.aload_n 0, 1) := by decide +kernel
theorem dX10_image_22 : decode cX10_image 22 = .ok (.getfield 16, 3) := by decide +kernel
theorem dX10_image_25 : decode cX10_image 25 = .ok (.aload_n 0, 1) := by decide +kernel
theorem dX10_image_26 : decode cX10_image 26 = .ok (.getfield 49, 3) := by decide +kernel
theorem dX10_image_29 : decode cX10_image 29 = .ok (.invokestatic 186, 3) := by decide +kernel
theorem dX10_image_32 : decode cX10_image 32 = .ok (.aload_n 0, 1) := by decide +kernel
theorem dX10_image_33 : decode cX10_image 33 = .ok (.getfield 19, 3) := by decide +kernel
theorem dX10_image_36 : decode cX10_image 36 = .ok (.aload_n 0, 1) := by decide +kernel
theorem dX10_image_37 : decode cX10_image 37 = .ok (.getfield 52, 3) := by decide +kernel
theorem dX10_image_40 : decode cX10_image 40 = .ok (.invokestatic 186, 3) := by decide +kernel
theorem dX10_image_43 : decode cX10_image 43 = .ok (.aload_n 0, 1) := by decide +kernel
theorem dX10_image_44 : decode cX10_image 44 = .ok (.getfield 40, 3) := by decide +kernel
theorem dX10_image_47 : decode cX10_image 47 = .ok (.aload_n 0, 1) := by decide +kernel
theorem dX10_image_48 : decode cX10_image 48 = .ok (.getfield 55, 3) := by decide +kernel
theorem dX10_image_51 : decode cX10_image 51 = .ok (.invokestatic 186, 3) := by decide +kernel
theorem dX10_image_54 : decode cX10_image 54 = .ok (.aload_n 0, 1) := by decide +kernel
theorem dX10_image_55 : decode cX10_image 55 = .ok (.aload_n 0, 1) := by decide +kernel
theorem dX10_image_56 : decode cX10_image 56 = .ok (.getfield 95, 3) := by decide +kernel
theorem dX10_image_59 : decode cX10_image 59 = .ok (.putfield 222, 3) := by decide +kernel
theorem dX10_image_62 : decode cX10_image 62 = .ok (.aload_n 0, 1) := by decide +kernel
theorem dX10_image_63 : decode cX10_image 63 = .ok (.aload_n 0, 1) := by decide +kernel
theorem dX10_image_64 : decode cX10_image 64 = .ok (.getfield 86, 3) := by decide +kernel
theorem dX10_image_67 : decode cX10_image 67 = .ok (.putfield 225, 3) := by decide +kernel
theorem dX10_image_70 : decode cX10_image 70 = .ok (.aload_n 0, 1) := by decide +kernel
theorem dX10_image_71 : decode cX10_image 71 = .ok (.aload_n 0, 1) := by decide +kernel
theorem dX10_image_72 : decode cX10_image 72 = .ok (.getfield 89, 3) := by decide +kernel
theorem dX10_image_75 : decode cX10_image 75 = .ok (.putfield 228, 3) := by decide +kernel
theorem dX10_image_78 : decode cX10_image 78 = .ok (.aload_n 0, 1) := by decide +kernel
theorem dX10_image_79 : decode cX10_image 79 = .ok (.aload_n 0, 1) := by decide +kernel
theorem dX10_image_80 : decode cX10_image 80 = .ok (.getfield 92, 3) := by decide +kernel
theorem dX10_image_83 : decode cX10_image 83 = .ok (.putfield 231, 3) := by decide +kernel
theorem dX10_image_86 : decode cX10_image 86 = .ok (.aload_n 0, 1) := by decide +kernel
theorem dX10_image_87 : decode cX10_image 87 = .ok (.aload_n 0, 1) := by decide +kernel
theorem dX10_image_88 : decode cX10_image 88 = .ok (.getfield 98, 3) := by decide +kernel
theorem dX10_image_91 : decode cX10_image 91 = .ok (.putfield 234, 3) := by decide +kernel
theorem dX10_image_94 : decode cX10_image 94 = .ok (.aload_n 0, 1) := by decide +kernel
theorem dX10_image_95 : decode cX10_image 95 = .ok (.aload_n 0, 1) := by decide +kernel
theorem dX10_image_96 : decode cX10_image 96 = .ok (.getfield 101, 3) := by decide +kernel
theorem dX10_image_99 : decode cX10_image 99 = .ok (.putfield 58, 3) := by decide +kernel
theorem dX10_image_102 : decode cX10_image 102 = .ok (.aload_n 0, 1) := by decide +kernel
theorem dX10_image_103 : decode cX10_image 103 = .ok (.getfield 92, 3) := by decide +kernel
theorem dX10_image_106 : decode cX10_image 106 = .ok (.ireturn, 1) := by decide +kernel
theorem dX10_restore_0 : decode cX10_restore 0 = .ok (.aload_n 0, 1) := by decide +kernel
theorem dX10_restore_1 : decode cX10_restore 1 = .ok (.getfield 58, 3) := by decide +kernel
theorem dX10_restore_4 : decode cX10_restore 4 = .ok (.aload_n 0, 1) := by decide +kernel
theorem dX10_restore_5 : decode cX10_restore 5 = .ok (.getfield 101, 3) := by decide +kernel
theorem dX10_restore_8 : decode cX10_restore 8 = .ok (.if_icmp .eq 6, 3) := by decide +kernel
theorem dX10_restore_11 : decode cX10_restore 11 = .ok (.bipush (-103), 2) := by decide +kernel
theorem dX10_restore_13 : decode cX10_restore 13 = .ok (.ireturn, 1) := by decide +kernel
theorem dX10_restore_14 : decode cX10_restore 14 = .ok (.aload_n 0, 1) := by decide +kernel
theorem dX10_restore_15 : decode cX10_restore 15 = .ok (.getfield 46, 3) := by decide +kernel
theorem dX10_restore_18 : decode cX10_restore 18 = .ok (.aload_n 0, 1) := by decide +kernel
theorem dX10_restore_19 : decode cX10_restore 19 = .ok (.getfield 22, 3) := by decide +kernel
theorem dX10_restore_22 : decode cX10_restore 22 = .ok (.invokestatic 186, 3) := by decide +kernel
theorem dX10_restore_25 : decode cX10_restore 25 = .ok (.aload_n 0, 1) := by decide +kernel
theorem dX10_restore_26 : decode cX10_restore 26 = .ok (.getfield 49, 3) := by decide +kernel
theorem dX10_restore_29 : decode cX10_restore 29 = .ok (.aload_n 0, 1) := by decide +kernel
theorem dX10_restore_30 : decode cX10_restore 30 = .ok (.getfield 16, 3) := by decide +kernel
theorem dX10_restore_33 : decode cX10_restore 33 = .ok (.invokestatic 186, 3) := by decide +kernel
theorem dX10_restore_36 : decode cX10_restore 36 = .ok (.aload_n 0, 1) := by decide +kernel
theorem dX10_restore_37 : decode cX10_restore 37 = .ok (.getfield 52, 3) := by decide +kernel
theorem dX10_restore_40 : decode cX10_restore 40 = .ok (.aload_n 0, 1) := by decide +kernel
theorem dX10_restore_41 : decode cX10_restore 41 = .ok (.getfield 19, 3) := by decide +kernel
theorem dX10_restore_44 : decode cX10_restore 44 = .ok (.invokestatic 186, 3) := by decide +kernel
theorem dX10_restore_47 : decode cX10_restore 47 = .ok (.aload_n 0, 1) := by decide +kernel
theorem dX10_restore_48 : decode cX10_restore 48 = .ok (.getfield 55, 3) := by decide +kernel
theorem dX10_restore_51 : decode cX10_restore 51 = .ok (.aload_n 0, 1) := by decide +kernel
theorem dX10_restore_52 : decode cX10_restore 52 = .ok (.getfield 40, 3) := by decide +kernel
theorem dX10_restore_55 : decode cX10_restore 55 = .ok (.invokestatic 186, 3) := by decide +kernel
theorem dX10_restore_58 : decode cX10_restore 58 = .ok (.aload_n 0, 1) := by decide +kernel
theorem dX10_restore_59 : decode cX10_restore 59 = .ok (.aload_n 0, 1) := by decide +kernel
theorem dX10_restore_60 : decode cX10_restore 60 = .ok (.getfield 222, 3) := by decide +kernel
theorem dX10_restore_63 : decode cX10_restore 63 = .ok (.putfield 95, 3) := by decide +kernel
theorem dX10_restore_66 : decode cX10_restore 66 = .ok (.aload_n 0, 1) := by decide +kernel
theorem dX10_restore_67 : decode cX10_restore 67 = .ok (.aload_n 0, 1) := by decide +kernel
theorem dX10_restore_68 : decode cX10_restore 68 = .ok (.getfield 225, 3) := by decide +kernel
theorem dX10_restore_71 : decode cX10_restore 71 = .ok (.putfield 86, 3) := by decide +kernel
theorem dX10_restore_74 : decode cX10_restore 74 = .ok (.aload_n 0, 1) := by decide +kernel
theorem dX10_restore_75 : decode cX10_restore 75 = .ok (.aload_n 0, 1) := by decide +kernel
theorem dX10_restore_76 : decode cX10_restore 76 = .ok (.getfield 228, 3) := by decide +kernel
theorem dX10_restore_79 : decode cX10_restore 79 = .ok (.putfield 89, 3) := by decide +kernel
theorem dX10_restore_82 : decode cX10_restore 82 = .ok (.aload_n 0, 1) := by decide +kernel
theorem dX10_restore_83 : decode cX10_restore 83 = .ok (.aload_n 0, 1) := by decide +kernel
theorem dX10_restore_84 : decode cX10_restore 84 = .ok (.getfield 231, 3) := by decide +kernel
theorem dX10_restore_87 : decode cX10_restore 87 = .ok (.putfield 92, 3) := by decide +kernel
theorem dX10_restore_90 : decode cX10_restore 90 = .ok (.aload_n 0, 1) := by decide +kernel
theorem dX10_restore_91 : decode cX10_restore 91 = .ok (.aload_n 0, 1) := by decide +kernel
theorem dX10_restore_92 : decode cX10_restore 92 = .ok (.getfield 234, 3) := by decide +kernel
theorem dX10_restore_95 : decode cX10_restore 95 = .ok (.putfield 98, 3) := by decide +kernel
theorem dX10_restore_98 : decode cX10_restore 98 = .ok (.aload_n 0, 1) := by decide +kernel
theorem dX10_restore_99 : decode cX10_restore 99 = .ok (.getfield 92, 3) := by decide +kernel
theorem dX10_restore_102 : decode cX10_restore 102 = .ok (.ireturn, 1) := by decide +kernel
theorem dX10_burning_0 : decode cX10_burning 0 = .ok (.iconst 0, 1) := by decide +kernel
theorem dX10_burning_1 : decode cX10_burning 1 = .ok (.istore_n 1, 1) := by decide +kernel
theorem dX10_burning_2 : decode cX10_burning 2 = .ok (.iconst 0, 1) := by decide +kernel
theorem dX10_burning_3 : decode cX10_burning 3 = .ok (.istore_n 2, 1) := by decide +kernel
theorem dX10_burning_4 : decode cX10_burning 4 = .ok (.iload_n 2, 1) := by decide +kernel
theorem dX10_burning_5 : decode cX10_burning 5 = .ok (.aload_n 0, 1) := by decide +kernel
theorem dX10_burning_6 : decode cX10_burning 6 = .ok (.getfield 95, 3) := by decide +kernel
theorem dX10_burning_9 : decode cX10_burning 9 = .ok (.if_icmp .ge 23, 3) := by decide +kernel
theorem dX10_burning_12 : decode cX10_burning 12 = .ok (.iload_n 1, 1) := by decide +kernel
theorem dX10_burning_13 : decode cX10_burning 13 = .ok (.aload_n 0, 1) := by decide +kernel
theorem dX10_burning_14 : decode cX10_burning 14 = .ok (.getfield 22, 3) := by decide +kernel
theorem dX10_burning_17 : decode cX10_burning 17 = .ok (.bipush 6, 2) := by decide +kernel
theorem dX10_burning_19 : decode cX10_burning 19 = .ok (.iload_n 2, 1) := by decide +kernel
theorem dX10_burning_20 : decode cX10_burning 20 = .ok (.imul, 1) := by decide +kernel
theorem dX10_burning_21 : decode cX10_burning 21 = .ok (.iconst 4, 1) := by decide +kernel
theorem dX10_burning_22 : decode cX10_burning 22 = .ok (.iadd, 1) := by decide +kernel
theorem dX10_burning_23 : decode cX10_burning 23 = .ok (.iaload, 1) := by decide +kernel
theorem dX10_burning_24 : decode cX10_burning 24 = .ok (.iadd, 1) := by decide +kernel
theorem dX10_burning_25 : decode cX10_burning 25 = .ok (.istore_n 1, 1) := by decide +kernel
theorem dX10_burning_26 : decode cX10_burning 26 = .ok (.iinc 2 1, 3) := by decide +kernel
theorem dX10_burning_29 : decode cX10_burning 29 = .ok (.goto (-25), 3) := by decide +kernel
theorem dX10_burning_32 : decode cX10_burning 32 = .ok (.iload_n 1, 1) := by decide +kernel
theorem dX10_burning_33 : decode cX10_burning 33 = .ok (.ireturn, 1) := by decide +kernel
theorem dX10_somebodys_0 : decode cX10_somebodys 0 = .ok (.aload_n 0, 1) := by decide +kernel
theorem dX10_somebodys_1 : decode cX10_somebodys 1 = .ok (.invokevirtual 149, 3) := by decide +kernel
theorem dX10_somebodys_4 : decode cX10_somebodys 4 = .ok (.iconst 0, 1) := by decide +kernel
theorem dX10_somebodys_5 : decode cX10_somebodys 5 = .ok (.istore_n 1, 1) := by decide +kernel
theorem dX10_somebodys_6 : decode cX10_somebodys 6 = .ok (.iconst 0, 1) := by decide +kernel
theorem dX10_somebodys_7 : decode cX10_somebodys 7 = .ok (.istore_n 2, 1) := by decide +kernel
theorem dX10_somebodys_8 : decode cX10_somebodys 8 = .ok (.iload_n 2, 1) := by decide +kernel
theorem dX10_somebodys_9 : decode cX10_somebodys 9 = .ok (.bipush 8, 2) := by decide +kernel
theorem dX10_somebodys_11 : decode cX10_somebodys 11 = .ok (.if_icmp .ge 27, 3) := by decide +kernel
theorem dX10_somebodys_14 : decode cX10_somebodys 14 = .ok (.iload_n 1, 1) := by decide +kernel
theorem dX10_somebodys_15 : decode cX10_somebodys 15 = .ok (.aload_n 0, 1) := by decide +kernel
theorem dX10_somebodys_16 : decode cX10_somebodys 16 = .ok (.getfield 28, 3) := by decide +kernel
theorem dX10_somebodys_19 : decode cX10_somebodys 19 = .ok (.iload_n 2, 1) := by decide +kernel
theorem dX10_somebodys_20 : decode cX10_somebodys 20 = .ok (.iaload, 1) := by decide +kernel
theorem dX10_somebodys_21 : decode cX10_somebodys 21 = .ok (.iconst (-1), 1) := by decide +kernel
theorem dX10_somebodys_22 : decode cX10_somebodys 22 = .ok (.if_icmp .ne 7, 3) := by decide +kernel
theorem dX10_somebodys_25 : decode cX10_somebodys 25 = .ok (.iconst 0, 1) := by decide +kernel
theorem dX10_somebodys_26 : decode cX10_somebodys 26 = .ok (.goto 4, 3) := by decide +kernel
theorem dX10_somebodys_29 : decode cX10_somebodys 29 = .ok (.iconst 1, 1) := by decide +kernel
theorem dX10_somebodys_30 : decode cX10_somebodys 30 = .ok (.iadd, 1) := by decide +kernel
theorem dX10_somebodys_31 : decode cX10_somebodys 31 = .ok (.istore_n 1, 1) := by decide +kernel
theorem dX10_somebodys_32 : decode cX10_somebodys 32 = .ok (.iinc 2 1, 3) := by decide +kernel
theorem dX10_somebodys_35 : decode cX10_somebodys 35 = .ok (.goto (-27), 3) := by decide +kernel
theorem dX10_somebodys_38 : decode cX10_somebodys 38 = .ok (.iload_n 1, 1) := by decide +kernel
theorem dX10_somebodys_39 : decode cX10_somebodys 39 = .ok (.ireturn, 1) := by decide +kernel
theorem dX10_countOf_0 : decode cX10_countOf 0 = .ok (.iload_n 1, 1) := by decide +kernel
theorem dX10_countOf_1 : decode cX10_countOf 1 = .ok (.tableswitch 154 0 15 #[79, 84, 89, 94, 99, 104, 109, 114, 114, 114, 124, 129, 134, 139, 144, 149], 79) := by decide +kernel
theorem dX10_countOf_80 : decode cX10_countOf 80 = .ok (.aload_n 0, 1) := by decide +kernel
theorem dX10_countOf_81 : decode cX10_countOf 81 = .ok (.invokevirtual 104, 3) := by decide +kernel
theorem dX10_countOf_84 : decode cX10_countOf 84 = .ok (.ireturn, 1) := by decide +kernel
theorem dX10_countOf_85 : decode cX10_countOf 85 = .ok (.aload_n 0, 1) := by decide +kernel
theorem dX10_countOf_86 : decode cX10_countOf 86 = .ok (.getfield 83, 3) := by decide +kernel
theorem dX10_countOf_89 : decode cX10_countOf 89 = .ok (.ireturn, 1) := by decide +kernel
theorem dX10_countOf_90 : decode cX10_countOf 90 = .ok (.aload_n 0, 1) := by decide +kernel
theorem dX10_countOf_91 : decode cX10_countOf 91 = .ok (.getfield 95, 3) := by decide +kernel
theorem dX10_countOf_94 : decode cX10_countOf 94 = .ok (.ireturn, 1) := by decide +kernel
theorem dX10_countOf_95 : decode cX10_countOf 95 = .ok (.aload_n 0, 1) := by decide +kernel
theorem dX10_countOf_96 : decode cX10_countOf 96 = .ok (.invokevirtual 237, 3) := by decide +kernel
theorem dX10_countOf_99 : decode cX10_countOf 99 = .ok (.ireturn, 1) := by decide +kernel
theorem dX10_countOf_100 : decode cX10_countOf 100 = .ok (.aload_n 0, 1) := by decide +kernel
theorem dX10_countOf_101 : decode cX10_countOf 101 = .ok (.getfield 86, 3) := by decide +kernel
theorem dX10_countOf_104 : decode cX10_countOf 104 = .ok (.ireturn, 1) := by decide +kernel
theorem dX10_countOf_105 : decode cX10_countOf 105 = .ok (.aload_n 0, 1) := by decide +kernel
theorem dX10_countOf_106 : decode cX10_countOf 106 = .ok (.getfield 89, 3) := by decide +kernel
theorem dX10_countOf_109 : decode cX10_countOf 109 = .ok (.ireturn, 1) := by decide +kernel
theorem dX10_countOf_110 : decode cX10_countOf 110 = .ok (.aload_n 0, 1) := by decide +kernel
theorem dX10_countOf_111 : decode cX10_countOf 111 = .ok (.getfield 92, 3) := by decide +kernel
theorem dX10_countOf_114 : decode cX10_countOf 114 = .ok (.ireturn, 1) := by decide +kernel
theorem dX10_countOf_115 : decode cX10_countOf 115 = .ok (.aload_n 0, 1) := by decide +kernel
theorem dX10_countOf_116 : decode cX10_countOf 116 = .ok (.getfield 19, 3) := by decide +kernel
theorem dX10_countOf_119 : decode cX10_countOf 119 = .ok (.iload_n 1, 1) := by decide +kernel
theorem dX10_countOf_120 : decode cX10_countOf 120 = .ok (.bipush 7, 2) := by decide +kernel
theorem dX10_countOf_122 : decode cX10_countOf 122 = .ok (.isub, 1) := by decide +kernel
theorem dX10_countOf_123 : decode cX10_countOf 123 = .ok (.iaload, 1) := by decide +kernel
theorem dX10_countOf_124 : decode cX10_countOf 124 = .ok (.ireturn, 1) := by decide +kernel
theorem dX10_countOf_125 : decode cX10_countOf 125 = .ok (.aload_n 0, 1) := by decide +kernel
theorem dX10_countOf_126 : decode cX10_countOf 126 = .ok (.invokevirtual 240, 3) := by decide +kernel
theorem dX10_countOf_129 : decode cX10_countOf 129 = .ok (.ireturn, 1) := by decide +kernel
theorem dX10_countOf_130 : decode cX10_countOf 130 = .ok (.aload_n 0, 1) := by decide +kernel
theorem dX10_countOf_131 : decode cX10_countOf 131 = .ok (.getfield 98, 3) := by decide +kernel
theorem dX10_countOf_134 : decode cX10_countOf 134 = .ok (.ireturn, 1) := by decide +kernel
theorem dX10_countOf_135 : decode cX10_countOf 135 = .ok (.aload_n 0, 1) := by decide +kernel
theorem dX10_countOf_136 : decode cX10_countOf 136 = .ok (.getfield 68, 3) := by decide +kernel
theorem dX10_countOf_139 : decode cX10_countOf 139 = .ok (.ireturn, 1) := by decide +kernel
theorem dX10_countOf_140 : decode cX10_countOf 140 = .ok (.aload_n 0, 1) := by decide +kernel
theorem dX10_countOf_141 : decode cX10_countOf 141 = .ok (.getfield 101, 3) := by decide +kernel
theorem dX10_countOf_144 : decode cX10_countOf 144 = .ok (.ireturn, 1) := by decide +kernel
theorem dX10_countOf_145 : decode cX10_countOf 145 = .ok (.aload_n 0, 1) := by decide +kernel
theorem dX10_countOf_146 : decode cX10_countOf 146 = .ok (.getfield 183, 3) := by decide +kernel
theorem dX10_countOf_149 : decode cX10_countOf 149 = .ok (.ireturn, 1) := by decide +kernel
theorem dX10_countOf_150 : decode cX10_countOf 150 = .ok (.aload_n 0, 1) := by decide +kernel
theorem dX10_countOf_151 : decode cX10_countOf 151 = .ok (.getfield 201, 3) := by decide +kernel
theorem dX10_countOf_154 : decode cX10_countOf 154 = .ok (.ireturn, 1) := by decide +kernel
theorem dX10_countOf_155 : decode cX10_countOf 155 = .ok (.bipush (-102), 2) := by decide +kernel
theorem dX10_countOf_157 : decode cX10_countOf 157 = .ok (.ireturn, 1) := by decide +kernel
theorem dX10_count_0 : decode cX10_count 0 = .ok (.aload_n 0, 1) := by decide +kernel
theorem dX10_count_1 : decode cX10_count 1 = .ok (.iload_n 1, 1) := by decide +kernel
theorem dX10_count_2 : decode cX10_count 2 = .ok (.invokevirtual 243, 3) := by decide +kernel
theorem dX10_count_5 : decode cX10_count 5 = .ok (.ireturn, 1) := by decide +kernel
theorem dX10_say_0 : decode cX10_say 0 = .ok (.aload_n 0, 1) := by decide +kernel
theorem dX10_say_1 : decode cX10_say 1 = .ok (.ldc2_w 246, 3) := by decide +kernel
theorem dX10_say_4 : decode cX10_say 4 = .ok (.aload_n 0, 1) := by decide +kernel
theorem dX10_say_5 : decode cX10_say 5 = .ok (.getfield 248, 3) := by decide +kernel
theorem dX10_say_8 : decode cX10_say 8 = .ok (.lmul, 1) := by decide +kernel
theorem dX10_say_9 : decode cX10_say 9 = .ok (.lload_n 1, 1) := by decide +kernel
theorem dX10_say_10 : decode cX10_say 10 = .ok (.ladd, 1) := by decide +kernel
theorem dX10_say_11 : decode cX10_say 11 = .ok (.putfield 248, 3) := by decide +kernel
theorem dX10_say_14 : decode cX10_say 14 = .ok (.return_, 1) := by decide +kernel
theorem dX10_sayCell_0 : decode cX10_sayCell 0 = .ok (.iconst 0, 1) := by decide +kernel
theorem dX10_sayCell_1 : decode cX10_sayCell 1 = .ok (.istore_n 2, 1) := by decide +kernel
theorem dX10_sayCell_2 : decode cX10_sayCell 2 = .ok (.iload_n 2, 1) := by decide +kernel
theorem dX10_sayCell_3 : decode cX10_sayCell 3 = .ok (.iconst 5, 1) := by decide +kernel
theorem dX10_sayCell_4 : decode cX10_sayCell 4 = .ok (.if_icmp .ge 20, 3) := by decide +kernel
theorem dX10_sayCell_7 : decode cX10_sayCell 7 = .ok (.aload_n 0, 1) := by decide +kernel
theorem dX10_sayCell_8 : decode cX10_sayCell 8 = .ok (.aload_n 0, 1) := by decide +kernel
theorem dX10_sayCell_9 : decode cX10_sayCell 9 = .ok (.iload_n 1, 1) := by decide +kernel
theorem dX10_sayCell_10 : decode cX10_sayCell 10 = .ok (.iload_n 2, 1) := by decide +kernel
theorem dX10_sayCell_11 : decode cX10_sayCell 11 = .ok (.invokevirtual 155, 3) := by decide +kernel
theorem dX10_sayCell_14 : decode cX10_sayCell 14 = .ok (.i2l, 1) := by decide +kernel
theorem dX10_sayCell_15 : decode cX10_sayCell 15 = .ok (.invokevirtual 252, 3) := by decide +kernel
theorem dX10_sayCell_18 : decode cX10_sayCell 18 = .ok (.iinc 2 1, 3) := by decide +kernel
theorem dX10_sayCell_21 : decode cX10_sayCell 21 = .ok (.goto (-19), 3) := by decide +kernel
theorem dX10_sayCell_24 : decode cX10_sayCell 24 = .ok (.iconst 0, 1) := by decide +kernel
theorem dX10_sayCell_25 : decode cX10_sayCell 25 = .ok (.istore_n 2, 1) := by decide +kernel
theorem dX10_sayCell_26 : decode cX10_sayCell 26 = .ok (.iload_n 2, 1) := by decide +kernel
theorem dX10_sayCell_27 : decode cX10_sayCell 27 = .ok (.iconst 3, 1) := by decide +kernel
theorem dX10_sayCell_28 : decode cX10_sayCell 28 = .ok (.if_icmp .ge 20, 3) := by decide +kernel
theorem dX10_sayCell_31 : decode cX10_sayCell 31 = .ok (.aload_n 0, 1) := by decide +kernel
theorem dX10_sayCell_32 : decode cX10_sayCell 32 = .ok (.aload_n 0, 1) := by decide +kernel
theorem dX10_sayCell_33 : decode cX10_sayCell 33 = .ok (.iload_n 1, 1) := by decide +kernel
theorem dX10_sayCell_34 : decode cX10_sayCell 34 = .ok (.iload_n 2, 1) := by decide +kernel
theorem dX10_sayCell_35 : decode cX10_sayCell 35 = .ok (.invokevirtual 196, 3) := by decide +kernel
theorem dX10_sayCell_38 : decode cX10_sayCell 38 = .ok (.i2l, 1) := by decide +kernel
theorem dX10_sayCell_39 : decode cX10_sayCell 39 = .ok (.invokevirtual 252, 3) := by decide +kernel
theorem dX10_sayCell_42 : decode cX10_sayCell 42 = .ok (.iinc 2 1, 3) := by decide +kernel
theorem dX10_sayCell_45 : decode cX10_sayCell 45 = .ok (.goto (-19), 3) := by decide +kernel
theorem dX10_sayCell_48 : decode cX10_sayCell 48 = .ok (.return_, 1) := by decide +kernel
theorem dX10_digest_0 : decode cX10_digest 0 = .ok (.aload_n 0, 1) := by decide +kernel
theorem dX10_digest_1 : decode cX10_digest 1 = .ok (.ldc2_w 256, 3) := by decide +kernel
theorem dX10_digest_4 : decode cX10_digest 4 = .ok (.putfield 248, 3) := by decide +kernel
theorem dX10_digest_7 : decode cX10_digest 7 = .ok (.iconst 0, 1) := by decide +kernel
theorem dX10_digest_8 : decode cX10_digest 8 = .ok (.istore_n 1, 1) := by decide +kernel
theorem dX10_digest_9 : decode cX10_digest 9 = .ok (.iload_n 1, 1) := by decide +kernel
theorem dX10_digest_10 : decode cX10_digest 10 = .ok (.bipush 8, 2) := by decide +kernel
theorem dX10_digest_12 : decode cX10_digest 12 = .ok (.if_icmp .ge 21, 3) := by decide +kernel
theorem dX10_digest_15 : decode cX10_digest 15 = .ok (.aload_n 0, 1) := by decide +kernel
theorem dX10_digest_16 : decode cX10_digest 16 = .ok (.invokevirtual 109, 3) := by decide +kernel
theorem dX10_digest_19 : decode cX10_digest 19 = .ok (.ifCond .ne 14, 3) := by decide +kernel
theorem dX10_digest_22 : decode cX10_digest 22 = .ok (.aload_n 0, 1) := by decide +kernel
theorem dX10_digest_23 : decode cX10_digest 23 = .ok (.iload_n 1, 1) := by decide +kernel
theorem dX10_digest_24 : decode cX10_digest 24 = .ok (.invokevirtual 258, 3) := by decide +kernel
theorem dX10_digest_27 : decode cX10_digest 27 = .ok (.iinc 1 1, 3) := by decide +kernel
theorem dX10_digest_30 : decode cX10_digest 30 = .ok (.goto (-21), 3) := by decide +kernel
theorem dX10_digest_33 : decode cX10_digest 33 = .ok (.iconst 0, 1) := by decide +kernel
theorem dX10_digest_34 : decode cX10_digest 34 = .ok (.istore_n 1, 1) := by decide +kernel
theorem dX10_digest_35 : decode cX10_digest 35 = .ok (.iload_n 1, 1) := by decide +kernel
theorem dX10_digest_36 : decode cX10_digest 36 = .ok (.aload_n 0, 1) := by decide +kernel
theorem dX10_digest_37 : decode cX10_digest 37 = .ok (.getfield 95, 3) := by decide +kernel
theorem dX10_digest_40 : decode cX10_digest 40 = .ok (.if_icmp .ge 34, 3) := by decide +kernel
theorem dX10_digest_43 : decode cX10_digest 43 = .ok (.iconst 0, 1) := by decide +kernel
theorem dX10_digest_44 : decode cX10_digest 44 = .ok (.istore_n 2, 1) := by decide +kernel
theorem dX10_digest_45 : decode cX10_digest 45 = .ok (.iload_n 2, 1) := by decide +kernel
theorem dX10_digest_46 : decode cX10_digest 46 = .ok (.bipush 8, 2) := by decide +kernel
theorem dX10_digest_48 : decode cX10_digest 48 = .ok (.if_icmp .ge 20, 3) := by decide +kernel
theorem dX10_digest_51 : decode cX10_digest 51 = .ok (.aload_n 0, 1) := by decide +kernel
theorem dX10_digest_52 : decode cX10_digest 52 = .ok (.aload_n 0, 1) := by decide +kernel
theorem dX10_digest_53 : decode cX10_digest 53 = .ok (.iload_n 1, 1) := by decide +kernel
theorem dX10_digest_54 : decode cX10_digest 54 = .ok (.iload_n 2, 1) := by decide +kernel
theorem dX10_digest_55 : decode cX10_digest 55 = .ok (.invokevirtual 170, 3) := by decide +kernel
theorem dX10_digest_58 : decode cX10_digest 58 = .ok (.i2l, 1) := by decide +kernel
theorem dX10_digest_59 : decode cX10_digest 59 = .ok (.invokevirtual 252, 3) := by decide +kernel
theorem dX10_digest_62 : decode cX10_digest 62 = .ok (.iinc 2 1, 3) := by decide +kernel
theorem dX10_digest_65 : decode cX10_digest 65 = .ok (.goto (-20), 3) := by decide +kernel
theorem dX10_digest_68 : decode cX10_digest 68 = .ok (.iinc 1 1, 3) := by decide +kernel
theorem dX10_digest_71 : decode cX10_digest 71 = .ok (.goto (-36), 3) := by decide +kernel
theorem dX10_digest_74 : decode cX10_digest 74 = .ok (.aload_n 0, 1) := by decide +kernel
theorem dX10_digest_75 : decode cX10_digest 75 = .ok (.aload_n 0, 1) := by decide +kernel
theorem dX10_digest_76 : decode cX10_digest 76 = .ok (.invokevirtual 109, 3) := by decide +kernel
theorem dX10_digest_79 : decode cX10_digest 79 = .ok (.ifCond .eq 7, 3) := by decide +kernel
theorem dX10_digest_82 : decode cX10_digest 82 = .ok (.lconst 0, 1) := by decide +kernel
theorem dX10_digest_83 : decode cX10_digest 83 = .ok (.goto 8, 3) := by decide +kernel
theorem dX10_digest_86 : decode cX10_digest 86 = .ok (.aload_n 0, 1) := by decide +kernel
theorem dX10_digest_87 : decode cX10_digest 87 = .ok (.invokevirtual 158, 3) := by decide +kernel
theorem dX10_digest_90 : decode cX10_digest 90 = .ok (.i2l, 1) := by decide +kernel
theorem dX10_digest_91 : decode cX10_digest 91 = .ok (.invokevirtual 252, 3) := by decide +kernel
theorem dX10_digest_94 : decode cX10_digest 94 = .ok (.iconst 0, 1) := by decide +kernel
theorem dX10_digest_95 : decode cX10_digest 95 = .ok (.istore_n 1, 1) := by decide +kernel
theorem dX10_digest_96 : decode cX10_digest 96 = .ok (.iload_n 1, 1) := by decide +kernel
theorem dX10_digest_97 : decode cX10_digest 97 = .ok (.aload_n 0, 1) := by decide +kernel
theorem dX10_digest_98 : decode cX10_digest 98 = .ok (.getfield 68, 3) := by decide +kernel
theorem dX10_digest_101 : decode cX10_digest 101 = .ok (.if_icmp .ge 20, 3) := by decide +kernel
theorem dX10_digest_104 : decode cX10_digest 104 = .ok (.aload_n 0, 1) := by decide +kernel
theorem dX10_digest_105 : decode cX10_digest 105 = .ok (.aload_n 0, 1) := by decide +kernel
theorem dX10_digest_106 : decode cX10_digest 106 = .ok (.getfield 7, 3) := by decide +kernel
theorem dX10_digest_109 : decode cX10_digest 109 = .ok (.iload_n 1, 1) := by decide +kernel
theorem dX10_digest_110 : decode cX10_digest 110 = .ok (.iaload, 1) := by decide +kernel
theorem dX10_digest_111 : decode cX10_digest 111 = .ok (.i2l, 1) := by decide +kernel
theorem dX10_digest_112 : decode cX10_digest 112 = .ok (.invokevirtual 252, 3) := by decide +kernel
theorem dX10_digest_115 : decode cX10_digest 115 = .ok (.iinc 1 1, 3) := by decide +kernel
theorem dX10_digest_118 : decode cX10_digest 118 = .ok (.goto (-22), 3) := by decide +kernel
theorem dX10_digest_121 : decode cX10_digest 121 = .ok (.iconst 0, 1) := by decide +kernel
theorem dX10_digest_122 : decode cX10_digest 122 = .ok (.istore_n 1, 1) := by decide +kernel
theorem dX10_digest_123 : decode cX10_digest 123 = .ok (.iload_n 1, 1) := by decide +kernel
theorem dX10_digest_124 : decode cX10_digest 124 = .ok (.bipush 16, 2) := by decide +kernel
theorem dX10_digest_126 : decode cX10_digest 126 = .ok (.if_icmp .ge 19, 3) := by decide +kernel
theorem dX10_digest_129 : decode cX10_digest 129 = .ok (.aload_n 0, 1) := by decide +kernel
theorem dX10_digest_130 : decode cX10_digest 130 = .ok (.aload_n 0, 1) := by decide +kernel
theorem dX10_digest_131 : decode cX10_digest 131 = .ok (.iload_n 1, 1) := by decide +kernel
theorem dX10_digest_132 : decode cX10_digest 132 = .ok (.invokevirtual 243, 3) := by decide +kernel
theorem dX10_digest_135 : decode cX10_digest 135 = .ok (.i2l, 1) := by decide +kernel
theorem dX10_digest_136 : decode cX10_digest 136 = .ok (.invokevirtual 252, 3) := by decide +kernel
theorem dX10_digest_139 : decode cX10_digest 139 = .ok (.iinc 1 1, 3) := by decide +kernel
theorem dX10_digest_142 : decode cX10_digest 142 = .ok (.goto (-19), 3) := by decide +kernel
theorem dX10_digest_145 : decode cX10_digest 145 = .ok (.aload_n 0, 1) := by decide +kernel
theorem dX10_digest_146 : decode cX10_digest 146 = .ok (.getfield 248, 3) := by decide +kernel
theorem dX10_digest_149 : decode cX10_digest 149 = .ok (.lreturn, 1) := by decide +kernel
theorem dJ6_bitCount_0f7a4_0 : decode cJ6_bitCount_0f7a4 0 = .ok (.iload_n 0, 1) := by decide +kernel
theorem dJ6_bitCount_0f7a4_1 : decode cJ6_bitCount_0f7a4 1 = .ok (.iload_n 0, 1) := by decide +kernel
theorem dJ6_bitCount_0f7a4_2 : decode cJ6_bitCount_0f7a4 2 = .ok (.iconst 1, 1) := by decide +kernel
theorem dJ6_bitCount_0f7a4_3 : decode cJ6_bitCount_0f7a4 3 = .ok (.iushr, 1) := by decide +kernel
theorem dJ6_bitCount_0f7a4_4 : decode cJ6_bitCount_0f7a4 4 = .ok (.ldc_w 265, 3) := by decide +kernel
theorem dJ6_bitCount_0f7a4_7 : decode cJ6_bitCount_0f7a4 7 = .ok (.iand, 1) := by decide +kernel
theorem dJ6_bitCount_0f7a4_8 : decode cJ6_bitCount_0f7a4 8 = .ok (.isub, 1) := by decide +kernel
theorem dJ6_bitCount_0f7a4_9 : decode cJ6_bitCount_0f7a4 9 = .ok (.istore_n 0, 1) := by decide +kernel
theorem dJ6_bitCount_0f7a4_10 : decode cJ6_bitCount_0f7a4 10 = .ok (.iload_n 0, 1) := by decide +kernel
theorem dJ6_bitCount_0f7a4_11 : decode cJ6_bitCount_0f7a4 11 = .ok (.ldc_w 266, 3) := by decide +kernel
theorem dJ6_bitCount_0f7a4_14 : decode cJ6_bitCount_0f7a4 14 = .ok (.iand, 1) := by decide +kernel
theorem dJ6_bitCount_0f7a4_15 : decode cJ6_bitCount_0f7a4 15 = .ok (.iload_n 0, 1) := by decide +kernel
theorem dJ6_bitCount_0f7a4_16 : decode cJ6_bitCount_0f7a4 16 = .ok (.iconst 2, 1) := by decide +kernel
theorem dJ6_bitCount_0f7a4_17 : decode cJ6_bitCount_0f7a4 17 = .ok (.iushr, 1) := by decide +kernel
theorem dJ6_bitCount_0f7a4_18 : decode cJ6_bitCount_0f7a4 18 = .ok (.ldc_w 266, 3) := by decide +kernel
theorem dJ6_bitCount_0f7a4_21 : decode cJ6_bitCount_0f7a4 21 = .ok (.iand, 1) := by decide +kernel
theorem dJ6_bitCount_0f7a4_22 : decode cJ6_bitCount_0f7a4 22 = .ok (.iadd, 1) := by decide +kernel
theorem dJ6_bitCount_0f7a4_23 : decode cJ6_bitCount_0f7a4 23 = .ok (.istore_n 0, 1) := by decide +kernel
theorem dJ6_bitCount_0f7a4_24 : decode cJ6_bitCount_0f7a4 24 = .ok (.iload_n 0, 1) := by decide +kernel
theorem dJ6_bitCount_0f7a4_25 : decode cJ6_bitCount_0f7a4 25 = .ok (.iload_n 0, 1) := by decide +kernel
theorem dJ6_bitCount_0f7a4_26 : decode cJ6_bitCount_0f7a4 26 = .ok (.iconst 4, 1) := by decide +kernel
theorem dJ6_bitCount_0f7a4_27 : decode cJ6_bitCount_0f7a4 27 = .ok (.iushr, 1) := by decide +kernel
theorem dJ6_bitCount_0f7a4_28 : decode cJ6_bitCount_0f7a4 28 = .ok (.iadd, 1) := by decide +kernel
theorem dJ6_bitCount_0f7a4_29 : decode cJ6_bitCount_0f7a4 29 = .ok (.ldc_w 267, 3) := by decide +kernel
theorem dJ6_bitCount_0f7a4_32 : decode cJ6_bitCount_0f7a4 32 = .ok (.iand, 1) := by decide +kernel
theorem dJ6_bitCount_0f7a4_33 : decode cJ6_bitCount_0f7a4 33 = .ok (.istore_n 0, 1) := by decide +kernel
theorem dJ6_bitCount_0f7a4_34 : decode cJ6_bitCount_0f7a4 34 = .ok (.iload_n 0, 1) := by decide +kernel
theorem dJ6_bitCount_0f7a4_35 : decode cJ6_bitCount_0f7a4 35 = .ok (.iload_n 0, 1) := by decide +kernel
theorem dJ6_bitCount_0f7a4_36 : decode cJ6_bitCount_0f7a4 36 = .ok (.bipush 8, 2) := by decide +kernel
theorem dJ6_bitCount_0f7a4_38 : decode cJ6_bitCount_0f7a4 38 = .ok (.iushr, 1) := by decide +kernel
theorem dJ6_bitCount_0f7a4_39 : decode cJ6_bitCount_0f7a4 39 = .ok (.iadd, 1) := by decide +kernel
theorem dJ6_bitCount_0f7a4_40 : decode cJ6_bitCount_0f7a4 40 = .ok (.istore_n 0, 1) := by decide +kernel
theorem dJ6_bitCount_0f7a4_41 : decode cJ6_bitCount_0f7a4 41 = .ok (.iload_n 0, 1) := by decide +kernel
theorem dJ6_bitCount_0f7a4_42 : decode cJ6_bitCount_0f7a4 42 = .ok (.iload_n 0, 1) := by decide +kernel
theorem dJ6_bitCount_0f7a4_43 : decode cJ6_bitCount_0f7a4 43 = .ok (.bipush 16, 2) := by decide +kernel
theorem dJ6_bitCount_0f7a4_45 : decode cJ6_bitCount_0f7a4 45 = .ok (.iushr, 1) := by decide +kernel
theorem dJ6_bitCount_0f7a4_46 : decode cJ6_bitCount_0f7a4 46 = .ok (.iadd, 1) := by decide +kernel
theorem dJ6_bitCount_0f7a4_47 : decode cJ6_bitCount_0f7a4 47 = .ok (.istore_n 0, 1) := by decide +kernel
theorem dJ6_bitCount_0f7a4_48 : decode cJ6_bitCount_0f7a4 48 = .ok (.iload_n 0, 1) := by decide +kernel
theorem dJ6_bitCount_0f7a4_49 : decode cJ6_bitCount_0f7a4 49 = .ok (.bipush 63, 2) := by decide +kernel
theorem dJ6_bitCount_0f7a4_51 : decode cJ6_bitCount_0f7a4 51 = .ok (.iand, 1) := by decide +kernel
theorem dJ6_bitCount_0f7a4_52 : decode cJ6_bitCount_0f7a4 52 = .ok (.ireturn, 1) := by decide +kernel
theorem dJ9_max_7cf53_0 : decode cJ9_max_7cf53 0 = .ok (.iload_n 0, 1) := by decide +kernel
theorem dJ9_max_7cf53_1 : decode cJ9_max_7cf53 1 = .ok (.iload_n 1, 1) := by decide +kernel
theorem dJ9_max_7cf53_2 : decode cJ9_max_7cf53 2 = .ok (.if_icmp .lt 7, 3) := by decide +kernel
theorem dJ9_max_7cf53_5 : decode cJ9_max_7cf53 5 = .ok (.iload_n 0, 1) := by decide +kernel
theorem dJ9_max_7cf53_6 : decode cJ9_max_7cf53 6 = .ok (.goto 4, 3) := by decide +kernel
theorem dJ9_max_7cf53_9 : decode cJ9_max_7cf53 9 = .ok (.iload_n 1, 1) := by decide +kernel
theorem dJ9_max_7cf53_10 : decode cJ9_max_7cf53 10 = .ok (.ireturn, 1) := by decide +kernel
theorem dJ9_min_7cf53_0 : decode cJ9_min_7cf53 0 = .ok (.iload_n 0, 1) := by decide +kernel
theorem dJ9_min_7cf53_1 : decode cJ9_min_7cf53 1 = .ok (.iload_n 1, 1) := by decide +kernel
theorem dJ9_min_7cf53_2 : decode cJ9_min_7cf53 2 = .ok (.if_icmp .gt 7, 3) := by decide +kernel
theorem dJ9_min_7cf53_5 : decode cJ9_min_7cf53 5 = .ok (.iload_n 0, 1) := by decide +kernel
theorem dJ9_min_7cf53_6 : decode cJ9_min_7cf53 6 = .ok (.goto 4, 3) := by decide +kernel
theorem dJ9_min_7cf53_9 : decode cJ9_min_7cf53 9 = .ok (.iload_n 1, 1) := by decide +kernel
theorem dJ9_min_7cf53_10 : decode cJ9_min_7cf53 10 = .ok (.ireturn, 1) := by decide +kernel
theorem dL_law_0 : decode cL_law 0 = .ok (.new 7, 3) := by decide +kernel
theorem dL_law_3 : decode cL_law 3 = .ok (.dup, 1) := by decide +kernel
theorem dL_law_4 : decode cL_law 4 = .ok (.invokespecial 9, 3) := by decide +kernel
theorem dL_law_7 : decode cL_law 7 = .ok (.astore_n 1, 1) := by decide +kernel
theorem dL_law_8 : decode cL_law 8 = .ok (.new 10, 3) := by decide +kernel
theorem dL_law_11 : decode cL_law 11 = .ok (.dup, 1) := by decide +kernel
theorem dL_law_12 : decode cL_law 12 = .ok (.invokespecial 12, 3) := by decide +kernel
theorem dL_law_15 : decode cL_law 15 = .ok (.astore_n 2, 1) := by decide +kernel
theorem dL_law_16 : decode cL_law 16 = .ok (.iconst 0, 1) := by decide +kernel
theorem dL_law_17 : decode cL_law 17 = .ok (.istore_n 3, 1) := by decide +kernel
theorem dL_law_18 : decode cL_law 18 = .ok (.iload_n 3, 1) := by decide +kernel
theorem dL_law_19 : decode cL_law 19 = .ok (.aload_n 0, 1) := by decide +kernel
theorem dL_law_20 : decode cL_law 20 = .ok (.arraylength, 1) := by decide +kernel
theorem dL_law_21 : decode cL_law 21 = .ok (.iconst 5, 1) := by decide +kernel
theorem dL_law_22 : decode cL_law 22 = .ok (.isub, 1) := by decide +kernel
theorem dL_law_23 : decode cL_law 23 = .ok (.if_icmp .gt 843, 3) := by decide +kernel
theorem dL_law_26 : decode cL_law 26 = .ok (.aload_n 0, 1) := by decide +kernel
theorem dL_law_27 : decode cL_law 27 = .ok (.iload_n 3, 1) := by decide +kernel
theorem dL_law_28 : decode cL_law 28 = .ok (.iaload, 1) := by decide +kernel
theorem dL_law_29 : decode cL_law 29 = .ok (.bipush 31, 2) := by decide +kernel
theorem dL_law_31 : decode cL_law 31 = .ok (.iand, 1) := by decide +kernel
theorem dL_law_32 : decode cL_law 32 = .ok (.tableswitch 828 0 26 #[124, 147, 160, 173, 186, 219, 232, 285, 318, 351, 400, 423, 462, 495, 508, 521, 564, 607, 640, 673, 686, 709, 722, 765, 778, 791, 814], 124) := by decide +kernel
theorem dL_law_156 : decode cL_law 156 = .ok (.aload_n 1, 1) := by decide +kernel
theorem dL_law_157 : decode cL_law 157 = .ok (.aload_n 0, 1) := by decide +kernel
theorem dL_law_158 : decode cL_law 158 = .ok (.iload_n 3, 1) := by decide +kernel
theorem dL_law_159 : decode cL_law 159 = .ok (.iconst 1, 1) := by decide +kernel
theorem dL_law_160 : decode cL_law 160 = .ok (.iadd, 1) := by decide +kernel
theorem dL_law_161 : decode cL_law 161 = .ok (.iaload, 1) := by decide +kernel
theorem dL_law_162 : decode cL_law 162 = .ok (.invokevirtual 13, 3) := by decide +kernel
theorem dL_law_165 : decode cL_law 165 = .ok (.aload_n 2, 1) := by decide +kernel
theorem dL_law_166 : decode cL_law 166 = .ok (.aload_n 0, 1) := by decide +kernel
theorem dL_law_167 : decode cL_law 167 = .ok (.iload_n 3, 1) := by decide +kernel
theorem dL_law_168 : decode cL_law 168 = .ok (.iconst 1, 1) := by decide +kernel
theorem dL_law_169 : decode cL_law 169 = .ok (.iadd, 1) := by decide +kernel
theorem dL_law_170 : decode cL_law 170 = .ok (.iaload, 1) := by decide +kernel
theorem dL_law_171 : decode cL_law 171 = .ok (.invokevirtual 17, 3) := by decide +kernel
theorem dL_law_174 : decode cL_law 174 = .ok (.if_icmp .eq 686, 3) := by decide +kernel
theorem dL_law_177 : decode cL_law 177 = .ok (.iconst 0, 1) := by decide +kernel
theorem dL_law_178 : decode cL_law 178 = .ok (.ireturn, 1) := by decide +kernel
theorem dL_law_179 : decode cL_law 179 = .ok (.aload_n 1, 1) := by decide +kernel
theorem dL_law_180 : decode cL_law 180 = .ok (.invokevirtual 18, 3) := by decide +kernel
theorem dL_law_183 : decode cL_law 183 = .ok (.aload_n 2, 1) := by decide +kernel
theorem dL_law_184 : decode cL_law 184 = .ok (.invokevirtual 22, 3) := by decide +kernel
theorem dL_law_187 : decode cL_law 187 = .ok (.if_icmp .eq 673, 3) := by decide +kernel
theorem dL_law_190 : decode cL_law 190 = .ok (.iconst 0, 1) := by decide +kernel
theorem dL_law_191 : decode cL_law 191 = .ok (.ireturn, 1) := by decide +kernel
theorem dL_law_192 : decode cL_law 192 = .ok (.aload_n 1, 1) := by decide +kernel
theorem dL_law_193 : decode cL_law 193 = .ok (.invokevirtual 23, 3) := by decide +kernel
theorem dL_law_196 : decode cL_law 196 = .ok (.aload_n 2, 1) := by decide +kernel
theorem dL_law_197 : decode cL_law 197 = .ok (.invokevirtual 26, 3) := by decide +kernel
theorem dL_law_200 : decode cL_law 200 = .ok (.if_icmp .eq 660, 3) := by decide +kernel
theorem dL_law_203 : decode cL_law 203 = .ok (.iconst 0, 1) := by decide +kernel
theorem dL_law_204 : decode cL_law 204 = .ok (.ireturn, 1) := by decide +kernel
theorem dL_law_205 : decode cL_law 205 = .ok (.aload_n 1, 1) := by decide +kernel
theorem dL_law_206 : decode cL_law 206 = .ok (.invokevirtual 27, 3) := by decide +kernel
theorem dL_law_209 : decode cL_law 209 = .ok (.aload_n 2, 1) := by decide +kernel
theorem dL_law_210 : decode cL_law 210 = .ok (.invokevirtual 30, 3) := by decide +kernel
theorem dL_law_213 : decode cL_law 213 = .ok (.if_icmp .eq 647, 3) := by decide +kernel
theorem dL_law_216 : decode cL_law 216 = .ok (.iconst 0, 1) := by decide +kernel
theorem dL_law_217 : decode cL_law 217 = .ok (.ireturn, 1) := by decide +kernel
theorem dL_law_218 : decode cL_law 218 = .ok (.aload_n 1, 1) := by decide +kernel
theorem dL_law_219 : decode cL_law 219 = .ok (.aload_n 0, 1) := by decide +kernel
theorem dL_law_220 : decode cL_law 220 = .ok (.iload_n 3, 1) := by decide +kernel
theorem dL_law_221 : decode cL_law 221 = .ok (.iconst 1, 1) := by decide +kernel
theorem dL_law_222 : decode cL_law 222 = .ok (.iadd, 1) := by decide +kernel
theorem dL_law_223 : decode cL_law 223 = .ok (.iaload, 1) := by decide +kernel
theorem dL_law_224 : decode cL_law 224 = .ok (.aload_n 0, 1) := by decide +kernel
theorem dL_law_225 : decode cL_law 225 = .ok (.iload_n 3, 1) := by decide +kernel
theorem dL_law_226 : decode cL_law 226 = .ok (.iconst 2, 1) := by decide +kernel
theorem dL_law_227 : decode cL_law 227 = .ok (.iadd, 1) := by decide +kernel
theorem dL_law_228 : decode cL_law 228 = .ok (.iaload, 1) := by decide +kernel
theorem dL_law_229 : decode cL_law 229 = .ok (.invokevirtual 31, 3) := by decide +kernel
theorem dL_law_232 : decode cL_law 232 = .ok (.aload_n 2, 1) := by decide +kernel
theorem dL_law_233 : decode cL_law 233 = .ok (.aload_n 0, 1) := by decide +kernel
theorem dL_law_234 : decode cL_law 234 = .ok (.iload_n 3, 1) := by decide +kernel
theorem dL_law_235 : decode cL_law 235 = .ok (.iconst 1, 1) := by decide +kernel
theorem dL_law_236 : decode cL_law 236 = .ok (.iadd, 1) := by decide +kernel
theorem dL_law_237 : decode cL_law 237 = .ok (.iaload, 1) := by decide +kernel
theorem dL_law_238 : decode cL_law 238 = .ok (.aload_n 0, 1) := by decide +kernel
theorem dL_law_239 : decode cL_law 239 = .ok (.iload_n 3, 1) := by decide +kernel
theorem dL_law_240 : decode cL_law 240 = .ok (.iconst 2, 1) := by decide +kernel
theorem dL_law_241 : decode cL_law 241 = .ok (.iadd, 1) := by decide +kernel
theorem dL_law_242 : decode cL_law 242 = .ok (.iaload, 1) := by decide +kernel
theorem dL_law_243 : decode cL_law 243 = .ok (.invokevirtual 35, 3) := by decide +kernel
theorem dL_law_246 : decode cL_law 246 = .ok (.if_icmp .eq 614, 3) := by decide +kernel
theorem dL_law_249 : decode cL_law 249 = .ok (.iconst 0, 1) := by decide +kernel
theorem dL_law_250 : decode cL_law 250 = .ok (.ireturn, 1) := by decide +kernel
theorem dL_law_251 : decode cL_law 251 = .ok (.aload_n 1, 1) := by decide +kernel
theorem dL_law_252 : decode cL_law 252 = .ok (.invokevirtual 36, 3) := by decide +kernel
theorem dL_law_255 : decode cL_law 255 = .ok (.aload_n 2, 1) := by decide +kernel
theorem dL_law_256 : decode cL_law 256 = .ok (.invokevirtual 39, 3) := by decide +kernel
theorem dL_law_259 : decode cL_law 259 = .ok (.if_icmp .eq 601, 3) := by decide +kernel
theorem dL_law_262 : decode cL_law 262 = .ok (.iconst 0, 1) := by decide +kernel
theorem dL_law_263 : decode cL_law 263 = .ok (.ireturn, 1) := by decide +kernel
theorem dL_law_264 : decode cL_law 264 = .ok (.aload_n 1, 1) := by decide +kernel
theorem dL_law_265 : decode cL_law 265 = .ok (.aload_n 0, 1) := by decide +kernel
theorem dL_law_266 : decode cL_law 266 = .ok (.iload_n 3, 1) := by decide +kernel
theorem dL_law_267 : decode cL_law 267 = .ok (.iconst 1, 1) := by decide +kernel
theorem dL_law_268 : decode cL_law 268 = .ok (.iadd, 1) := by decide +kernel
theorem dL_law_269 : decode cL_law 269 = .ok (.iaload, 1) := by decide +kernel
theorem dL_law_270 : decode cL_law 270 = .ok (.aload_n 0, 1) := by decide +kernel
theorem dL_law_271 : decode cL_law 271 = .ok (.iload_n 3, 1) := by decide +kernel
theorem dL_law_272 : decode cL_law 272 = .ok (.iconst 2, 1) := by decide +kernel
theorem dL_law_273 : decode cL_law 273 = .ok (.iadd, 1) := by decide +kernel
theorem dL_law_274 : decode cL_law 274 = .ok (.iaload, 1) := by decide +kernel
theorem dL_law_275 : decode cL_law 275 = .ok (.aload_n 0, 1) := by decide +kernel
theorem dL_law_276 : decode cL_law 276 = .ok (.iload_n 3, 1) := by decide +kernel
theorem dL_law_277 : decode cL_law 277 = .ok (.iconst 3, 1) := by decide +kernel
theorem dL_law_278 : decode cL_law 278 = .ok (.iadd, 1) := by decide +kernel
theorem dL_law_279 : decode cL_law 279 = .ok (.iaload, 1) := by decide +kernel
theorem dL_law_280 : decode cL_law 280 = .ok (.aload_n 0, 1) := by decide +kernel
theorem dL_law_281 : decode cL_law 281 = .ok (.iload_n 3, 1) := by decide +kernel
theorem dL_law_282 : decode cL_law 282 = .ok (.iconst 4, 1) := by decide +kernel
theorem dL_law_283 : decode cL_law 283 = .ok (.iadd, 1) := by decide +kernel
theorem dL_law_284 : decode cL_law 284 = .ok (.iaload, 1) := by decide +kernel
theorem dL_law_285 : decode cL_law 285 = .ok (.invokevirtual 40, 3) := by decide +kernel
theorem dL_law_288 : decode cL_law 288 = .ok (.aload_n 2, 1) := by decide +kernel
theorem dL_law_289 : decode cL_law 289 = .ok (.aload_n 0, 1) := by decide +kernel
theorem dL_law_290 : decode cL_law 290 = .ok (.iload_n 3, 1) := by decide +kernel
theorem dL_law_291 : decode cL_law 291 = .ok (.iconst 1, 1) := by decide +kernel
theorem dL_law_292 : decode cL_law 292 = .ok (.iadd, 1) := by decide +kernel
theorem dL_law_293 : decode cL_law 293 = .ok (.iaload, 1) := by decide +kernel
theorem dL_law_294 : decode cL_law 294 = .ok (.aload_n 0, 1) := by decide +kernel
theorem dL_law_295 : decode cL_law 295 = .ok (.iload_n 3, 1) := by decide +kernel
theorem dL_law_296 : decode cL_law 296 = .ok (.iconst 2, 1) := by decide +kernel
theorem dL_law_297 : decode cL_law 297 = .ok (.iadd, 1) := by decide +kernel
theorem dL_law_298 : decode cL_law 298 = .ok (.iaload, 1) := by decide +kernel
theorem dL_law_299 : decode cL_law 299 = .ok (.aload_n 0, 1) := by decide +kernel
theorem dL_law_300 : decode cL_law 300 = .ok (.iload_n 3, 1) := by decide +kernel
theorem dL_law_301 : decode cL_law 301 = .ok (.iconst 3, 1) := by decide +kernel
theorem dL_law_302 : decode cL_law 302 = .ok (.iadd, 1) := by decide +kernel
theorem dL_law_303 : decode cL_law 303 = .ok (.iaload, 1) := by decide +kernel
theorem dL_law_304 : decode cL_law 304 = .ok (.aload_n 0, 1) := by decide +kernel
theorem dL_law_305 : decode cL_law 305 = .ok (.iload_n 3, 1) := by decide +kernel
theorem dL_law_306 : decode cL_law 306 = .ok (.iconst 4, 1) := by decide +kernel
theorem dL_law_307 : decode cL_law 307 = .ok (.iadd, 1) := by decide +kernel
theorem dL_law_308 : decode cL_law 308 = .ok (.iaload, 1) := by decide +kernel
theorem dL_law_309 : decode cL_law 309 = .ok (.invokevirtual 44, 3) := by decide +kernel
theorem dL_law_312 : decode cL_law 312 = .ok (.if_icmp .eq 548, 3) := by decide +kernel
theorem dL_law_315 : decode cL_law 315 = .ok (.iconst 0, 1) := by decide +kernel
theorem dL_law_316 : decode cL_law 316 = .ok (.ireturn, 1) := by decide +kernel
theorem dL_law_317 : decode cL_law 317 = .ok (.aload_n 1, 1) := by decide +kernel
theorem dL_law_318 : decode cL_law 318 = .ok (.aload_n 0, 1) := by decide +kernel
theorem dL_law_319 : decode cL_law 319 = .ok (.iload_n 3, 1) := by decide +kernel
theorem dL_law_320 : decode cL_law 320 = .ok (.iconst 1, 1) := by decide +kernel
theorem dL_law_321 : decode cL_law 321 = .ok (.iadd, 1) := by decide +kernel
theorem dL_law_322 : decode cL_law 322 = .ok (.iaload, 1) := by decide +kernel
theorem dL_law_323 : decode cL_law 323 = .ok (.aload_n 0, 1) := by decide +kernel
theorem dL_law_324 : decode cL_law 324 = .ok (.iload_n 3, 1) := by decide +kernel
theorem dL_law_325 : decode cL_law 325 = .ok (.iconst 2, 1) := by decide +kernel
theorem dL_law_326 : decode cL_law 326 = .ok (.iadd, 1) := by decide +kernel
theorem dL_law_327 : decode cL_law 327 = .ok (.iaload, 1) := by decide +kernel
theorem dL_law_328 : decode cL_law 328 = .ok (.invokevirtual 45, 3) := by decide +kernel
theorem dL_law_331 : decode cL_law 331 = .ok (.aload_n 2, 1) := by decide +kernel
theorem dL_law_332 : decode cL_law 332 = .ok (.aload_n 0, 1) := by decide +kernel
theorem dL_law_333 : decode cL_law 333 = .ok (.iload_n 3, 1) := by decide +kernel
theorem dL_law_334 : decode cL_law 334 = .ok (.iconst 1, 1) := by decide +kernel
theorem dL_law_335 : decode cL_law 335 = .ok (.iadd, 1) := by decide +kernel
theorem dL_law_336 : decode cL_law 336 = .ok (.iaload, 1) := by decide +kernel
theorem dL_law_337 : decode cL_law 337 = .ok (.aload_n 0, 1) := by decide +kernel
theorem dL_law_338 : decode cL_law 338 = .ok (.iload_n 3, 1) := by decide +kernel
theorem dL_law_339 : decode cL_law 339 = .ok (.iconst 2, 1) := by decide +kernel
theorem dL_law_340 : decode cL_law 340 = .ok (.iadd, 1) := by decide +kernel
theorem dL_law_341 : decode cL_law 341 = .ok (.iaload, 1) := by decide +kernel
theorem dL_law_342 : decode cL_law 342 = .ok (.invokevirtual 48, 3) := by decide +kernel
theorem dL_law_345 : decode cL_law 345 = .ok (.if_icmp .eq 515, 3) := by decide +kernel
theorem dL_law_348 : decode cL_law 348 = .ok (.iconst 0, 1) := by decide +kernel
theorem dL_law_349 : decode cL_law 349 = .ok (.ireturn, 1) := by decide +kernel
theorem dL_law_350 : decode cL_law 350 = .ok (.aload_n 1, 1) := by decide +kernel
theorem dL_law_351 : decode cL_law 351 = .ok (.aload_n 0, 1) := by decide +kernel
theorem dL_law_352 : decode cL_law 352 = .ok (.iload_n 3, 1) := by decide +kernel
theorem dL_law_353 : decode cL_law 353 = .ok (.iconst 1, 1) := by decide +kernel
theorem dL_law_354 : decode cL_law 354 = .ok (.iadd, 1) := by decide +kernel
theorem dL_law_355 : decode cL_law 355 = .ok (.iaload, 1) := by decide +kernel
theorem dL_law_356 : decode cL_law 356 = .ok (.aload_n 0, 1) := by decide +kernel
theorem dL_law_357 : decode cL_law 357 = .ok (.iload_n 3, 1) := by decide +kernel
theorem dL_law_358 : decode cL_law 358 = .ok (.iconst 2, 1) := by decide +kernel
theorem dL_law_359 : decode cL_law 359 = .ok (.iadd, 1) := by decide +kernel
theorem dL_law_360 : decode cL_law 360 = .ok (.iaload, 1) := by decide +kernel
theorem dL_law_361 : decode cL_law 361 = .ok (.invokevirtual 49, 3) := by decide +kernel
theorem dL_law_364 : decode cL_law 364 = .ok (.aload_n 2, 1) := by decide +kernel
theorem dL_law_365 : decode cL_law 365 = .ok (.aload_n 0, 1) := by decide +kernel
theorem dL_law_366 : decode cL_law 366 = .ok (.iload_n 3, 1) := by decide +kernel
theorem dL_law_367 : decode cL_law 367 = .ok (.iconst 1, 1) := by decide +kernel
theorem dL_law_368 : decode cL_law 368 = .ok (.iadd, 1) := by decide +kernel
theorem dL_law_369 : decode cL_law 369 = .ok (.iaload, 1) := by decide +kernel
theorem dL_law_370 : decode cL_law 370 = .ok (.aload_n 0, 1) := by decide +kernel
theorem dL_law_371 : decode cL_law 371 = .ok (.iload_n 3, 1) := by decide +kernel
theorem dL_law_372 : decode cL_law 372 = .ok (.iconst 2, 1) := by decide +kernel
theorem dL_law_373 : decode cL_law 373 = .ok (.iadd, 1) := by decide +kernel
theorem dL_law_374 : decode cL_law 374 = .ok (.iaload, 1) := by decide +kernel
theorem dL_law_375 : decode cL_law 375 = .ok (.invokevirtual 52, 3) := by decide +kernel
theorem dL_law_378 : decode cL_law 378 = .ok (.if_icmp .eq 482, 3) := by decide +kernel
theorem dL_law_381 : decode cL_law 381 = .ok (.iconst 0, 1) := by decide +kernel
theorem dL_law_382 : decode cL_law 382 = .ok (.ireturn, 1) := by decide +kernel
theorem dL_law_383 : decode cL_law 383 = .ok (.aload_n 1, 1) := by decide +kernel
theorem dL_law_384 : decode cL_law 384 = .ok (.aload_n 0, 1) := by decide +kernel
theorem dL_law_385 : decode cL_law 385 = .ok (.iload_n 3, 1) := by decide +kernel
theorem dL_law_386 : decode cL_law 386 = .ok (.iconst 1, 1) := by decide +kernel
theorem dL_law_387 : decode cL_law 387 = .ok (.iadd, 1) := by decide +kernel
theorem dL_law_388 : decode cL_law 388 = .ok (.iaload, 1) := by decide +kernel
theorem dL_law_389 : decode cL_law 389 = .ok (.aload_n 0, 1) := by decide +kernel
theorem dL_law_390 : decode cL_law 390 = .ok (.iload_n 3, 1) := by decide +kernel
theorem dL_law_391 : decode cL_law 391 = .ok (.iconst 2, 1) := by decide +kernel
theorem dL_law_392 : decode cL_law 392 = .ok (.iadd, 1) := by decide +kernel
theorem dL_law_393 : decode cL_law 393 = .ok (.iaload, 1) := by decide +kernel
theorem dL_law_394 : decode cL_law 394 = .ok (.ifCond .eq 7, 3) := by decide +kernel
theorem dL_law_397 : decode cL_law 397 = .ok (.iconst 1, 1) := by decide +kernel
theorem dL_law_398 : decode cL_law 398 = .ok (.goto 4, 3) := by decide +kernel
theorem dL_law_401 : decode cL_law 401 = .ok (.iconst 0, 1) := by decide +kernel
theorem dL_law_402 : decode cL_law 402 = .ok (.invokevirtual 53, 3) := by decide +kernel
theorem dL_law_405 : decode cL_law 405 = .ok (.aload_n 2, 1) := by decide +kernel
theorem dL_law_406 : decode cL_law 406 = .ok (.aload_n 0, 1) := by decide +kernel
theorem dL_law_407 : decode cL_law 407 = .ok (.iload_n 3, 1) := by decide +kernel
theorem dL_law_408 : decode cL_law 408 = .ok (.iconst 1, 1) := by decide +kernel
theorem dL_law_409 : decode cL_law 409 = .ok (.iadd, 1) := by decide +kernel
theorem dL_law_410 : decode cL_law 410 = .ok (.iaload, 1) := by decide +kernel
theorem dL_law_411 : decode cL_law 411 = .ok (.aload_n 0, 1) := by decide +kernel
theorem dL_law_412 : decode cL_law 412 = .ok (.iload_n 3, 1) := by decide +kernel
theorem dL_law_413 : decode cL_law 413 = .ok (.iconst 2, 1) := by decide +kernel
theorem dL_law_414 : decode cL_law 414 = .ok (.iadd, 1) := by decide +kernel
theorem dL_law_415 : decode cL_law 415 = .ok (.iaload, 1) := by decide +kernel
theorem dL_law_416 : decode cL_law 416 = .ok (.ifCond .eq 7, 3) := by decide +kernel
theorem dL_law_419 : decode cL_law 419 = .ok (.iconst 1, 1) := by decide +kernel
theorem dL_law_420 : decode cL_law 420 = .ok (.goto 4, 3) := by decide +kernel
theorem dL_law_423 : decode cL_law 423 = .ok (.iconst 0, 1) := by decide +kernel
theorem dL_law_424 : decode cL_law 424 = .ok (.invokevirtual 57, 3) := by decide +kernel
theorem dL_law_427 : decode cL_law 427 = .ok (.if_icmp .eq 433, 3) := by decide +kernel
theorem dL_law_430 : decode cL_law 430 = .ok (.iconst 0, 1) := by decide +kernel
theorem dL_law_431 : decode cL_law 431 = .ok (.ireturn, 1) := by decide +kernel
theorem dL_law_432 : decode cL_law 432 = .ok (.aload_n 1, 1) := by decide +kernel
theorem dL_law_433 : decode cL_law 433 = .ok (.aload_n 0, 1) := by decide +kernel
theorem dL_law_434 : decode cL_law 434 = .ok (.iload_n 3, 1) := by decide +kernel
theorem dL_law_435 : decode cL_law 435 = .ok (.iconst 1, 1) := by decide +kernel
theorem dL_law_436 : decode cL_law 436 = .ok (.iadd, 1) := by decide +kernel
theorem dL_law_437 : decode cL_law 437 = .ok (.iaload, 1) := by decide +kernel
theorem dL_law_438 : decode cL_law 438 = .ok (.invokevirtual 58, 3) := by decide +kernel
theorem dL_law_441 : decode cL_law 441 = .ok (.aload_n 2, 1) := by decide +kernel
theorem dL_law_442 : decode cL_law 442 = .ok (.aload_n 0, 1) := by decide +kernel
theorem dL_law_443 : decode cL_law 443 = .ok (.iload_n 3, 1) := by decide +kernel
theorem dL_law_444 : decode cL_law 444 = .ok (.iconst 1, 1) := by decide +kernel
theorem dL_law_445 : decode cL_law 445 = .ok (.iadd, 1) := by decide +kernel
theorem dL_law_446 : decode cL_law 446 = .ok (.iaload, 1) := by decide +kernel
theorem dL_law_447 : decode cL_law 447 = .ok (.invokevirtual 61, 3) := by decide +kernel
theorem dL_law_450 : decode cL_law 450 = .ok (.if_icmp .eq 410, 3) := by decide +kernel
theorem dL_law_453 : decode cL_law 453 = .ok (.iconst 0, 1) := by decide +kernel
theorem dL_law_454 : decode cL_law 454 = .ok (.ireturn, 1) := by decide +kernel
theorem dL_law_455 : decode cL_law 455 = .ok (.aload_n 1, 1) := by decide +kernel
theorem dL_law_456 : decode cL_law 456 = .ok (.aload_n 0, 1) := by decide +kernel
theorem dL_law_457 : decode cL_law 457 = .ok (.iload_n 3, 1) := by decide +kernel
theorem dL_law_458 : decode cL_law 458 = .ok (.iconst 1, 1) := by decide +kernel
theorem dL_law_459 : decode cL_law 459 = .ok (.iadd, 1) := by decide +kernel
theorem dL_law_460 : decode cL_law 460 = .ok (.iaload, 1) := by decide +kernel
theorem dL_law_461 : decode cL_law 461 = .ok (.ifCond .eq 7, 3) := by decide +kernel
theorem dL_law_464 : decode cL_law 464 = .ok (.iconst 1, 1) := by decide +kernel
theorem dL_law_465 : decode cL_law 465 = .ok (.goto 4, 3) := by decide +kernel
theorem dL_law_468 : decode cL_law 468 = .ok (.iconst 0, 1) := by decide +kernel
theorem dL_law_469 : decode cL_law 469 = .ok (.invokevirtual 62, 3) := by decide +kernel
theorem dL_law_472 : decode cL_law 472 = .ok (.aload_n 2, 1) := by decide +kernel
theorem dL_law_473 : decode cL_law 473 = .ok (.aload_n 0, 1) := by decide +kernel
theorem dL_law_474 : decode cL_law 474 = .ok (.iload_n 3, 1) := by decide +kernel
theorem dL_law_475 : decode cL_law 475 = .ok (.iconst 1, 1) := by decide +kernel
theorem dL_law_476 : decode cL_law 476 = .ok (.iadd, 1) := by decide +kernel
theorem dL_law_477 : decode cL_law 477 = .ok (.iaload, 1) := by decide +kernel
theorem dL_law_478 : decode cL_law 478 = .ok (.ifCond .eq 7, 3) := by decide +kernel
theorem dL_law_481 : decode cL_law 481 = .ok (.iconst 1, 1) := by decide +kernel
theorem dL_law_482 : decode cL_law 482 = .ok (.goto 4, 3) := by decide +kernel
theorem dL_law_485 : decode cL_law 485 = .ok (.iconst 0, 1) := by decide +kernel
theorem dL_law_486 : decode cL_law 486 = .ok (.invokevirtual 66, 3) := by decide +kernel
theorem dL_law_489 : decode cL_law 489 = .ok (.if_icmp .eq 371, 3) := by decide +kernel
theorem dL_law_492 : decode cL_law 492 = .ok (.iconst 0, 1) := by decide +kernel
theorem dL_law_493 : decode cL_law 493 = .ok (.ireturn, 1) := by decide +kernel
theorem dL_law_494 : decode cL_law 494 = .ok (.aload_n 1, 1) := by decide +kernel
theorem dL_law_495 : decode cL_law 495 = .ok (.aload_n 0, 1) := by decide +kernel
theorem dL_law_496 : decode cL_law 496 = .ok (.iload_n 3, 1) := by decide +kernel
theorem dL_law_497 : decode cL_law 497 = .ok (.iconst 1, 1) := by decide +kernel
theorem dL_law_498 : decode cL_law 498 = .ok (.iadd, 1) := by decide +kernel
theorem dL_law_499 : decode cL_law 499 = .ok (.iaload, 1) := by decide +kernel
theorem dL_law_500 : decode cL_law 500 = .ok (.aload_n 0, 1) := by decide +kernel
theorem dL_law_501 : decode cL_law 501 = .ok (.iload_n 3, 1) := by decide +kernel
theorem dL_law_502 : decode cL_law 502 = .ok (.iconst 2, 1) := by decide +kernel
theorem dL_law_503 : decode cL_law 503 = .ok (.iadd, 1) := by decide +kernel
theorem dL_law_504 : decode cL_law 504 = .ok (.iaload, 1) := by decide +kernel
theorem dL_law_505 : decode cL_law 505 = .ok (.invokevirtual 67, 3) := by decide +kernel
theorem dL_law_508 : decode cL_law 508 = .ok (.aload_n 2, 1) := by decide +kernel
theorem dL_law_509 : decode cL_law 509 = .ok (.aload_n 0, 1) := by decide +kernel
theorem dL_law_510 : decode cL_law 510 = .ok (.iload_n 3, 1) := by decide +kernel
theorem dL_law_511 : decode cL_law 511 = .ok (.iconst 1, 1) := by decide +kernel
theorem dL_law_512 : decode cL_law 512 = .ok (.iadd, 1) := by decide +kernel
theorem dL_law_513 : decode cL_law 513 = .ok (.iaload, 1) := by decide +kernel
theorem dL_law_514 : decode cL_law 514 = .ok (.aload_n 0, 1) := by decide +kernel
theorem dL_law_515 : decode cL_law 515 = .ok (.iload_n 3, 1) := by decide +kernel
theorem dL_law_516 : decode cL_law 516 = .ok (.iconst 2, 1) := by decide +kernel
theorem dL_law_517 : decode cL_law 517 = .ok (.iadd, 1) := by decide +kernel
theorem dL_law_518 : decode cL_law 518 = .ok (.iaload, 1) := by decide +kernel
theorem dL_law_519 : decode cL_law 519 = .ok (.invokevirtual 70, 3) := by decide +kernel
theorem dL_law_522 : decode cL_law 522 = .ok (.if_icmp .eq 338, 3) := by decide +kernel
theorem dL_law_525 : decode cL_law 525 = .ok (.iconst 0, 1) := by decide +kernel
theorem dL_law_526 : decode cL_law 526 = .ok (.ireturn, 1) := by decide +kernel
theorem dL_law_527 : decode cL_law 527 = .ok (.aload_n 1, 1) := by decide +kernel
theorem dL_law_528 : decode cL_law 528 = .ok (.invokevirtual 71, 3) := by decide +kernel
theorem dL_law_531 : decode cL_law 531 = .ok (.aload_n 2, 1) := by decide +kernel
theorem dL_law_532 : decode cL_law 532 = .ok (.invokevirtual 74, 3) := by decide +kernel
theorem dL_law_535 : decode cL_law 535 = .ok (.if_icmp .eq 325, 3) := by decide +kernel
theorem dL_law_538 : decode cL_law 538 = .ok (.iconst 0, 1) := by decide +kernel
theorem dL_law_539 : decode cL_law 539 = .ok (.ireturn, 1) := by decide +kernel
theorem dL_law_540 : decode cL_law 540 = .ok (.aload_n 1, 1) := by decide +kernel
theorem dL_law_541 : decode cL_law 541 = .ok (.invokevirtual 75, 3) := by decide +kernel
theorem dL_law_544 : decode cL_law 544 = .ok (.aload_n 2, 1) := by decide +kernel
theorem dL_law_545 : decode cL_law 545 = .ok (.invokevirtual 78, 3) := by decide +kernel
theorem dL_law_548 : decode cL_law 548 = .ok (.if_icmp .eq 312, 3) := by decide +kernel
theorem dL_law_551 : decode cL_law 551 = .ok (.iconst 0, 1) := by decide +kernel
theorem dL_law_552 : decode cL_law 552 = .ok (.ireturn, 1) := by decide +kernel
theorem dL_law_553 : decode cL_law 553 = .ok (.aload_n 1, 1) := by decide +kernel
theorem dL_law_554 : decode cL_law 554 = .ok (.aload_n 0, 1) := by decide +kernel
theorem dL_law_555 : decode cL_law 555 = .ok (.iload_n 3, 1) := by decide +kernel
theorem dL_law_556 : decode cL_law 556 = .ok (.iconst 1, 1) := by decide +kernel
theorem dL_law_557 : decode cL_law 557 = .ok (.iadd, 1) := by decide +kernel
theorem dL_law_558 : decode cL_law 558 = .ok (.iaload, 1) := by decide +kernel
theorem dL_law_559 : decode cL_law 559 = .ok (.aload_n 0, 1) := by decide +kernel
theorem dL_law_560 : decode cL_law 560 = .ok (.iload_n 3, 1) := by decide +kernel
theorem dL_law_561 : decode cL_law 561 = .ok (.iconst 2, 1) := by decide +kernel
theorem dL_law_562 : decode cL_law 562 = .ok (.iadd, 1) := by decide +kernel
theorem dL_law_563 : decode cL_law 563 = .ok (.iaload, 1) := by decide +kernel
theorem dL_law_564 : decode cL_law 564 = .ok (.aload_n 0, 1) := by decide +kernel
theorem dL_law_565 : decode cL_law 565 = .ok (.iload_n 3, 1) := by decide +kernel
theorem dL_law_566 : decode cL_law 566 = .ok (.iconst 3, 1) := by decide +kernel
theorem dL_law_567 : decode cL_law 567 = .ok (.iadd, 1) := by decide +kernel
theorem dL_law_568 : decode cL_law 568 = .ok (.iaload, 1) := by decide +kernel
theorem dL_law_569 : decode cL_law 569 = .ok (.invokevirtual 79, 3) := by decide +kernel
theorem dL_law_572 : decode cL_law 572 = .ok (.aload_n 2, 1) := by decide +kernel
theorem dL_law_573 : decode cL_law 573 = .ok (.aload_n 0, 1) := by decide +kernel
theorem dL_law_574 : decode cL_law 574 = .ok (.iload_n 3, 1) := by decide +kernel
theorem dL_law_575 : decode cL_law 575 = .ok (.iconst 1, 1) := by decide +kernel
theorem dL_law_576 : decode cL_law 576 = .ok (.iadd, 1) := by decide +kernel
theorem dL_law_577 : decode cL_law 577 = .ok (.iaload, 1) := by decide +kernel
theorem dL_law_578 : decode cL_law 578 = .ok (.aload_n 0, 1) := by decide +kernel
theorem dL_law_579 : decode cL_law 579 = .ok (.iload_n 3, 1) := by decide +kernel
theorem dL_law_580 : decode cL_law 580 = .ok (.iconst 2, 1) := by decide +kernel
theorem dL_law_581 : decode cL_law 581 = .ok (.iadd, 1) := by decide +kernel
theorem dL_law_582 : decode cL_law 582 = .ok (.iaload, 1) := by decide +kernel
theorem dL_law_583 : decode cL_law 583 = .ok (.aload_n 0, 1) := by decide +kernel
theorem dL_law_584 : decode cL_law 584 = .ok (.iload_n 3, 1) := by decide +kernel
theorem dL_law_585 : decode cL_law 585 = .ok (.iconst 3, 1) := by decide +kernel
theorem dL_law_586 : decode cL_law 586 = .ok (.iadd, 1) := by decide +kernel
theorem dL_law_587 : decode cL_law 587 = .ok (.iaload, 1) := by decide +kernel
theorem dL_law_588 : decode cL_law 588 = .ok (.invokevirtual 83, 3) := by decide +kernel
theorem dL_law_591 : decode cL_law 591 = .ok (.if_icmp .eq 269, 3) := by decide +kernel
theorem dL_law_594 : decode cL_law 594 = .ok (.iconst 0, 1) := by decide +kernel
theorem dL_law_595 : decode cL_law 595 = .ok (.ireturn, 1) := by decide +kernel
theorem dL_law_596 : decode cL_law 596 = .ok (.aload_n 1, 1) := by decide +kernel
theorem dL_law_597 : decode cL_law 597 = .ok (.aload_n 0, 1) := by decide +kernel
theorem dL_law_598 : decode cL_law 598 = .ok (.iload_n 3, 1) := by decide +kernel
theorem dL_law_599 : decode cL_law 599 = .ok (.iconst 1, 1) := by decide +kernel
theorem dL_law_600 : decode cL_law 600 = .ok (.iadd, 1) := by decide +kernel
theorem dL_law_601 : decode cL_law 601 = .ok (.iaload, 1) := by decide +kernel
theorem dL_law_602 : decode cL_law 602 = .ok (.aload_n 0, 1) := by decide +kernel
theorem dL_law_603 : decode cL_law 603 = .ok (.iload_n 3, 1) := by decide +kernel
theorem dL_law_604 : decode cL_law 604 = .ok (.iconst 2, 1) := by decide +kernel
theorem dL_law_605 : decode cL_law 605 = .ok (.iadd, 1) := by decide +kernel
theorem dL_law_606 : decode cL_law 606 = .ok (.iaload, 1) := by decide +kernel
theorem dL_law_607 : decode cL_law 607 = .ok (.aload_n 0, 1) := by decide +kernel
theorem dL_law_608 : decode cL_law 608 = .ok (.iload_n 3, 1) := by decide +kernel
theorem dL_law_609 : decode cL_law 609 = .ok (.iconst 3, 1) := by decide +kernel
theorem dL_law_610 : decode cL_law 610 = .ok (.iadd, 1) := by decide +kernel
theorem dL_law_611 : decode cL_law 611 = .ok (.iaload, 1) := by decide +kernel
theorem dL_law_612 : decode cL_law 612 = .ok (.invokevirtual 84, 3) := by decide +kernel
theorem dL_law_615 : decode cL_law 615 = .ok (.aload_n 2, 1) := by decide +kernel
theorem dL_law_616 : decode cL_law 616 = .ok (.aload_n 0, 1) := by decide +kernel
theorem dL_law_617 : decode cL_law 617 = .ok (.iload_n 3, 1) := by decide +kernel
theorem dL_law_618 : decode cL_law 618 = .ok (.iconst 1, 1) := by decide +kernel
theorem dL_law_619 : decode cL_law 619 = .ok (.iadd, 1) := by decide +kernel
theorem dL_law_620 : decode cL_law 620 = .ok (.iaload, 1) := by decide +kernel
theorem dL_law_621 : decode cL_law 621 = .ok (.aload_n 0, 1) := by decide +kernel
theorem dL_law_622 : decode cL_law 622 = .ok (.iload_n 3, 1) := by decide +kernel
theorem dL_law_623 : decode cL_law 623 = .ok (.iconst 2, 1) := by decide +kernel
theorem dL_law_624 : decode cL_law 624 = .ok (.iadd, 1) := by decide +kernel
theorem dL_law_625 : decode cL_law 625 = .ok (.iaload, 1) := by decide +kernel
theorem dL_law_626 : decode cL_law 626 = .ok (.aload_n 0, 1) := by decide +kernel
theorem dL_law_627 : decode cL_law 627 = .ok (.iload_n 3, 1) := by decide +kernel
theorem dL_law_628 : decode cL_law 628 = .ok (.iconst 3, 1) := by decide +kernel
theorem dL_law_629 : decode cL_law 629 = .ok (.iadd, 1) := by decide +kernel
theorem dL_law_630 : decode cL_law 630 = .ok (.iaload, 1) := by decide +kernel
theorem dL_law_631 : decode cL_law 631 = .ok (.invokevirtual 87, 3) := by decide +kernel
theorem dL_law_634 : decode cL_law 634 = .ok (.if_icmp .eq 226, 3) := by decide +kernel
theorem dL_law_637 : decode cL_law 637 = .ok (.iconst 0, 1) := by decide +kernel
theorem dL_law_638 : decode cL_law 638 = .ok (.ireturn, 1) := by decide +kernel
theorem dL_law_639 : decode cL_law 639 = .ok (.aload_n 1, 1) := by decide +kernel
theorem dL_law_640 : decode cL_law 640 = .ok (.aload_n 0, 1) := by decide +kernel
theorem dL_law_641 : decode cL_law 641 = .ok (.iload_n 3, 1) := by decide +kernel
theorem dL_law_642 : decode cL_law 642 = .ok (.iconst 1, 1) := by decide +kernel
theorem dL_law_643 : decode cL_law 643 = .ok (.iadd, 1) := by decide +kernel
theorem dL_law_644 : decode cL_law 644 = .ok (.iaload, 1) := by decide +kernel
theorem dL_law_645 : decode cL_law 645 = .ok (.aload_n 0, 1) := by decide +kernel
theorem dL_law_646 : decode cL_law 646 = .ok (.iload_n 3, 1) := by decide +kernel
theorem dL_law_647 : decode cL_law 647 = .ok (.iconst 2, 1) := by decide +kernel
theorem dL_law_648 : decode cL_law 648 = .ok (.iadd, 1) := by decide +kernel
theorem dL_law_649 : decode cL_law 649 = .ok (.iaload, 1) := by decide +kernel
theorem dL_law_650 : decode cL_law 650 = .ok (.invokevirtual 88, 3) := by decide +kernel
theorem dL_law_653 : decode cL_law 653 = .ok (.aload_n 2, 1) := by decide +kernel
theorem dL_law_654 : decode cL_law 654 = .ok (.aload_n 0, 1) := by decide +kernel
theorem dL_law_655 : decode cL_law 655 = .ok (.iload_n 3, 1) := by decide +kernel
theorem dL_law_656 : decode cL_law 656 = .ok (.iconst 1, 1) := by decide +kernel
theorem dL_law_657 : decode cL_law 657 = .ok (.iadd, 1) := by decide +kernel
theorem dL_law_658 : decode cL_law 658 = .ok (.iaload, 1) := by decide +kernel
theorem dL_law_659 : decode cL_law 659 = .ok (.aload_n 0, 1) := by decide +kernel
theorem dL_law_660 : decode cL_law 660 = .ok (.iload_n 3, 1) := by decide +kernel
theorem dL_law_661 : decode cL_law 661 = .ok (.iconst 2, 1) := by decide +kernel
theorem dL_law_662 : decode cL_law 662 = .ok (.iadd, 1) := by decide +kernel
theorem dL_law_663 : decode cL_law 663 = .ok (.iaload, 1) := by decide +kernel
theorem dL_law_664 : decode cL_law 664 = .ok (.invokevirtual 91, 3) := by decide +kernel
theorem dL_law_667 : decode cL_law 667 = .ok (.if_icmp .eq 193, 3) := by decide +kernel
theorem dL_law_670 : decode cL_law 670 = .ok (.iconst 0, 1) := by decide +kernel
theorem dL_law_671 : decode cL_law 671 = .ok (.ireturn, 1) := by decide +kernel
theorem dL_law_672 : decode cL_law 672 = .ok (.aload_n 1, 1) := by decide +kernel
theorem dL_law_673 : decode cL_law 673 = .ok (.aload_n 0, 1) := by decide +kernel
theorem dL_law_674 : decode cL_law 674 = .ok (.iload_n 3, 1) := by decide +kernel
theorem dL_law_675 : decode cL_law 675 = .ok (.iconst 1, 1) := by decide +kernel
theorem dL_law_676 : decode cL_law 676 = .ok (.iadd, 1) := by decide +kernel
theorem dL_law_677 : decode cL_law 677 = .ok (.iaload, 1) := by decide +kernel
theorem dL_law_678 : decode cL_law 678 = .ok (.aload_n 0, 1) := by decide +kernel
theorem dL_law_679 : decode cL_law 679 = .ok (.iload_n 3, 1) := by decide +kernel
theorem dL_law_680 : decode cL_law 680 = .ok (.iconst 2, 1) := by decide +kernel
theorem dL_law_681 : decode cL_law 681 = .ok (.iadd, 1) := by decide +kernel
theorem dL_law_682 : decode cL_law 682 = .ok (.iaload, 1) := by decide +kernel
theorem dL_law_683 : decode cL_law 683 = .ok (.invokevirtual 92, 3) := by decide +kernel
theorem dL_law_686 : decode cL_law 686 = .ok (.aload_n 2, 1) := by decide +kernel
theorem dL_law_687 : decode cL_law 687 = .ok (.aload_n 0, 1) := by decide +kernel
theorem dL_law_688 : decode cL_law 688 = .ok (.iload_n 3, 1) := by decide +kernel
theorem dL_law_689 : decode cL_law 689 = .ok (.iconst 1, 1) := by decide +kernel
theorem dL_law_690 : decode cL_law 690 = .ok (.iadd, 1) := by decide +kernel
theorem dL_law_691 : decode cL_law 691 = .ok (.iaload, 1) := by decide +kernel
theorem dL_law_692 : decode cL_law 692 = .ok (.aload_n 0, 1) := by decide +kernel
theorem dL_law_693 : decode cL_law 693 = .ok (.iload_n 3, 1) := by decide +kernel
theorem dL_law_694 : decode cL_law 694 = .ok (.iconst 2, 1) := by decide +kernel
theorem dL_law_695 : decode cL_law 695 = .ok (.iadd, 1) := by decide +kernel
theorem dL_law_696 : decode cL_law 696 = .ok (.iaload, 1) := by decide +kernel
theorem dL_law_697 : decode cL_law 697 = .ok (.invokevirtual 95, 3) := by decide +kernel
theorem dL_law_700 : decode cL_law 700 = .ok (.if_icmp .eq 160, 3) := by decide +kernel
theorem dL_law_703 : decode cL_law 703 = .ok (.iconst 0, 1) := by decide +kernel
theorem dL_law_704 : decode cL_law 704 = .ok (.ireturn, 1) := by decide +kernel
theorem dL_law_705 : decode cL_law 705 = .ok (.aload_n 1, 1) := by decide +kernel
theorem dL_law_706 : decode cL_law 706 = .ok (.invokevirtual 96, 3) := by decide +kernel
theorem dL_law_709 : decode cL_law 709 = .ok (.aload_n 2, 1) := by decide +kernel
theorem dL_law_710 : decode cL_law 710 = .ok (.invokevirtual 99, 3) := by decide +kernel
theorem dL_law_713 : decode cL_law 713 = .ok (.if_icmp .eq 147, 3) := by decide +kernel
theorem dL_law_716 : decode cL_law 716 = .ok (.iconst 0, 1) := by decide +kernel
theorem dL_law_717 : decode cL_law 717 = .ok (.ireturn, 1) := by decide +kernel
theorem dL_law_718 : decode cL_law 718 = .ok (.aload_n 1, 1) := by decide +kernel
theorem dL_law_719 : decode cL_law 719 = .ok (.aload_n 0, 1) := by decide +kernel
theorem dL_law_720 : decode cL_law 720 = .ok (.iload_n 3, 1) := by decide +kernel
theorem dL_law_721 : decode cL_law 721 = .ok (.iconst 1, 1) := by decide +kernel
theorem dL_law_722 : decode cL_law 722 = .ok (.iadd, 1) := by decide +kernel
theorem dL_law_723 : decode cL_law 723 = .ok (.iaload, 1) := by decide +kernel
theorem dL_law_724 : decode cL_law 724 = .ok (.invokevirtual 100, 3) := by decide +kernel
theorem dL_law_727 : decode cL_law 727 = .ok (.aload_n 2, 1) := by decide +kernel
theorem dL_law_728 : decode cL_law 728 = .ok (.aload_n 0, 1) := by decide +kernel
theorem dL_law_729 : decode cL_law 729 = .ok (.iload_n 3, 1) := by decide +kernel
end
section
theorem dL_law_730 : decode cL_law 730 = .ok (.iconst 1, 1) := by decide +kernel
theorem dL_law_731 : decode cL_law 731 = .ok (.iadd, 1) := by decide +kernel
theorem dL_law_732 : decode cL_law 732 = .ok (.iaload, 1) := by decide +kernel
theorem dL_law_733 : decode cL_law 733 = .ok (.invokevirtual 103, 3) := by decide +kernel
theorem dL_law_736 : decode cL_law 736 = .ok (.if_icmp .eq 124, 3) := by decide +kernel
theorem dL_law_739 : decode cL_law 739 = .ok (.iconst 0, 1) := by decide +kernel
theorem dL_law_740 : decode cL_law 740 = .ok (.ireturn, 1) := by decide +kernel
theorem dL_law_741 : decode cL_law 741 = .ok (.aload_n 1, 1) := by decide +kernel
theorem dL_law_742 : decode cL_law 742 = .ok (.invokevirtual 104, 3) := by decide +kernel
theorem dL_law_745 : decode cL_law 745 = .ok (.aload_n 2, 1) := by decide +kernel
theorem dL_law_746 : decode cL_law 746 = .ok (.invokevirtual 107, 3) := by decide +kernel
theorem dL_law_749 : decode cL_law 749 = .ok (.if_icmp .eq 111, 3) := by decide +kernel
theorem dL_law_752 : decode cL_law 752 = .ok (.iconst 0, 1) := by decide +kernel
theorem dL_law_753 : decode cL_law 753 = .ok (.ireturn, 1) := by decide +kernel
theorem dL_law_754 : decode cL_law 754 = .ok (.aload_n 1, 1) := by decide +kernel
theorem dL_law_755 : decode cL_law 755 = .ok (.aload_n 0, 1) := by decide +kernel
theorem dL_law_756 : decode cL_law 756 = .ok (.iload_n 3, 1) := by decide +kernel
theorem dL_law_757 : decode cL_law 757 = .ok (.iconst 1, 1) := by decide +kernel
theorem dL_law_758 : decode cL_law 758 = .ok (.iadd, 1) := by decide +kernel
theorem dL_law_759 : decode cL_law 759 = .ok (.iaload, 1) := by decide +kernel
theorem dL_law_760 : decode cL_law 760 = .ok (.aload_n 0, 1) := by decide +kernel
theorem dL_law_761 : decode cL_law 761 = .ok (.iload_n 3, 1) := by decide +kernel
theorem dL_law_762 : decode cL_law 762 = .ok (.iconst 2, 1) := by decide +kernel
theorem dL_law_763 : decode cL_law 763 = .ok (.iadd, 1) := by decide +kernel
theorem dL_law_764 : decode cL_law 764 = .ok (.iaload, 1) := by decide +kernel
theorem dL_law_765 : decode cL_law 765 = .ok (.aload_n 0, 1) := by decide +kernel
theorem dL_law_766 : decode cL_law 766 = .ok (.iload_n 3, 1) := by decide +kernel
theorem dL_law_767 : decode cL_law 767 = .ok (.iconst 3, 1) := by decide +kernel
theorem dL_law_768 : decode cL_law 768 = .ok (.iadd, 1) := by decide +kernel
theorem dL_law_769 : decode cL_law 769 = .ok (.iaload, 1) := by decide +kernel
theorem dL_law_770 : decode cL_law 770 = .ok (.invokevirtual 108, 3) := by decide +kernel
theorem dL_law_773 : decode cL_law 773 = .ok (.aload_n 2, 1) := by decide +kernel
theorem dL_law_774 : decode cL_law 774 = .ok (.aload_n 0, 1) := by decide +kernel
theorem dL_law_775 : decode cL_law 775 = .ok (.iload_n 3, 1) := by decide +kernel
theorem dL_law_776 : decode cL_law 776 = .ok (.iconst 1, 1) := by decide +kernel
theorem dL_law_777 : decode cL_law 777 = .ok (.iadd, 1) := by decide +kernel
theorem dL_law_778 : decode cL_law 778 = .ok (.iaload, 1) := by decide +kernel
theorem dL_law_779 : decode cL_law 779 = .ok (.aload_n 0, 1) := by decide +kernel
theorem dL_law_780 : decode cL_law 780 = .ok (.iload_n 3, 1) := by decide +kernel
theorem dL_law_781 : decode cL_law 781 = .ok (.iconst 2, 1) := by decide +kernel
theorem dL_law_782 : decode cL_law 782 = .ok (.iadd, 1) := by decide +kernel
theorem dL_law_783 : decode cL_law 783 = .ok (.iaload, 1) := by decide +kernel
theorem dL_law_784 : decode cL_law 784 = .ok (.aload_n 0, 1) := by decide +kernel
theorem dL_law_785 : decode cL_law 785 = .ok (.iload_n 3, 1) := by decide +kernel
theorem dL_law_786 : decode cL_law 786 = .ok (.iconst 3, 1) := by decide +kernel
theorem dL_law_787 : decode cL_law 787 = .ok (.iadd, 1) := by decide +kernel
theorem dL_law_788 : decode cL_law 788 = .ok (.iaload, 1) := by decide +kernel
theorem dL_law_789 : decode cL_law 789 = .ok (.invokevirtual 111, 3) := by decide +kernel
theorem dL_law_792 : decode cL_law 792 = .ok (.if_icmp .eq 68, 3) := by decide +kernel
theorem dL_law_795 : decode cL_law 795 = .ok (.iconst 0, 1) := by decide +kernel
theorem dL_law_796 : decode cL_law 796 = .ok (.ireturn, 1) := by decide +kernel
theorem dL_law_797 : decode cL_law 797 = .ok (.aload_n 1, 1) := by decide +kernel
theorem dL_law_798 : decode cL_law 798 = .ok (.invokevirtual 112, 3) := by decide +kernel
theorem dL_law_801 : decode cL_law 801 = .ok (.aload_n 2, 1) := by decide +kernel
theorem dL_law_802 : decode cL_law 802 = .ok (.invokevirtual 115, 3) := by decide +kernel
theorem dL_law_805 : decode cL_law 805 = .ok (.if_icmp .eq 55, 3) := by decide +kernel
theorem dL_law_808 : decode cL_law 808 = .ok (.iconst 0, 1) := by decide +kernel
theorem dL_law_809 : decode cL_law 809 = .ok (.ireturn, 1) := by decide +kernel
theorem dL_law_810 : decode cL_law 810 = .ok (.aload_n 1, 1) := by decide +kernel
theorem dL_law_811 : decode cL_law 811 = .ok (.invokevirtual 116, 3) := by decide +kernel
theorem dL_law_814 : decode cL_law 814 = .ok (.aload_n 2, 1) := by decide +kernel
theorem dL_law_815 : decode cL_law 815 = .ok (.invokevirtual 119, 3) := by decide +kernel
theorem dL_law_818 : decode cL_law 818 = .ok (.if_icmp .eq 42, 3) := by decide +kernel
theorem dL_law_821 : decode cL_law 821 = .ok (.iconst 0, 1) := by decide +kernel
theorem dL_law_822 : decode cL_law 822 = .ok (.ireturn, 1) := by decide +kernel
theorem dL_law_823 : decode cL_law 823 = .ok (.aload_n 1, 1) := by decide +kernel
theorem dL_law_824 : decode cL_law 824 = .ok (.aload_n 0, 1) := by decide +kernel
theorem dL_law_825 : decode cL_law 825 = .ok (.iload_n 3, 1) := by decide +kernel
theorem dL_law_826 : decode cL_law 826 = .ok (.iconst 1, 1) := by decide +kernel
theorem dL_law_827 : decode cL_law 827 = .ok (.iadd, 1) := by decide +kernel
theorem dL_law_828 : decode cL_law 828 = .ok (.iaload, 1) := by decide +kernel
theorem dL_law_829 : decode cL_law 829 = .ok (.invokevirtual 120, 3) := by decide +kernel
theorem dL_law_832 : decode cL_law 832 = .ok (.aload_n 2, 1) := by decide +kernel
theorem dL_law_833 : decode cL_law 833 = .ok (.aload_n 0, 1) := by decide +kernel
theorem dL_law_834 : decode cL_law 834 = .ok (.iload_n 3, 1) := by decide +kernel
theorem dL_law_835 : decode cL_law 835 = .ok (.iconst 1, 1) := by decide +kernel
theorem dL_law_836 : decode cL_law 836 = .ok (.iadd, 1) := by decide +kernel
theorem dL_law_837 : decode cL_law 837 = .ok (.iaload, 1) := by decide +kernel
theorem dL_law_838 : decode cL_law 838 = .ok (.invokevirtual 123, 3) := by decide +kernel
theorem dL_law_841 : decode cL_law 841 = .ok (.if_icmp .eq 19, 3) := by decide +kernel
theorem dL_law_844 : decode cL_law 844 = .ok (.iconst 0, 1) := by decide +kernel
theorem dL_law_845 : decode cL_law 845 = .ok (.ireturn, 1) := by decide +kernel
theorem dL_law_846 : decode cL_law 846 = .ok (.aload_n 1, 1) := by decide +kernel
theorem dL_law_847 : decode cL_law 847 = .ok (.invokevirtual 124, 3) := by decide +kernel
theorem dL_law_850 : decode cL_law 850 = .ok (.aload_n 2, 1) := by decide +kernel
theorem dL_law_851 : decode cL_law 851 = .ok (.invokevirtual 128, 3) := by decide +kernel
theorem dL_law_854 : decode cL_law 854 = .ok (.lcmp, 1) := by decide +kernel
theorem dL_law_855 : decode cL_law 855 = .ok (.ifCond .eq 5, 3) := by decide +kernel
theorem dL_law_858 : decode cL_law 858 = .ok (.iconst 0, 1) := by decide +kernel
theorem dL_law_859 : decode cL_law 859 = .ok (.ireturn, 1) := by decide +kernel
theorem dL_law_860 : decode cL_law 860 = .ok (.iinc 3 5, 3) := by decide +kernel
theorem dL_law_863 : decode cL_law 863 = .ok (.goto (-845), 3) := by decide +kernel
theorem dL_law_866 : decode cL_law 866 = .ok (.iconst 1, 1) := by decide +kernel
theorem dL_law_867 : decode cL_law 867 = .ok (.ireturn, 1) := by decide +kernel
end
section
/-! ===== the abstract machine: a method's walk over places instead of addresses =====
Place 0 is the script; place k + 1 is the k-th cell made since the law's start, at the address base + k. A heap is a function of places; nothing is renamed, for cells come one behind another. -/
abbrev am_M : Type := MethodName × ByteArray × Nat × Option FieldType × Nat × Nat × Nat × Nat
abbrev am_y (M : am_M) : MethodName := M.1
abbrev am_c (M : am_M) : ByteArray := M.2.1
abbrev am_l (M : am_M) : Nat := M.2.2.1
abbrev am_r (M : am_M) : Option FieldType := M.2.2.2.1
abbrev am_fr (M : am_M) : Nat := M.2.2.2.2.1
abbrev am_lo (M : am_M) : Nat := M.2.2.2.2.2.1
abbrev am_mc (M : am_M) : Nat := M.2.2.2.2.2.2.1
abbrev am_ms (M : am_M) : Nat := M.2.2.2.2.2.2.2
abbrev am_rm (M : am_M) : Room := { frames := am_fr M, cells := am_mc M, slots := am_ms M, locals := am_lo M }
/-- a cell: a row of ints (kind 0) or booleans (kind 1), a row of references, an object -/
abbrev am_E : Type := (Nat × Nat × (Nat → Int32)) ⊕ (Nat × (Nat → Option Nat)) ⊕ (Nat × List Value)
def am_ad (b base : Nat) : Nat → Nat
  | 0 => b
  | k + 1 => base + k
def am_v (b base : Nat) : Value → Value
  | .ref k => .ref (am_ad b base k)
  | v => v
def am_e (b base : Nat) (cA : Nat → ClassId) : am_E → va_E
  | .inl q => .inl (cA q.1, q.2.1, .inl q.2.2)
  | .inr (.inl q) => .inl (cA 2, q.1, .inr (.inr (.inr (.inr (fun i => (q.2 i).map (am_ad b base))))))
  | .inr (.inr q) => .inr (q.1, q.2.map (am_v b base))
theorem am_v_cat (b base : Nat) (v : Value) : (am_v b base v).category = v.category := by cases v <;> rfl
theorem am_v_sum (b base : Nat) (st : List Value) : ((st.map (am_v b base)).map fun v => v.category).sum = (st.map fun v => v.category).sum := by
  rw [List.map_map]
  exact congrArg List.sum (List.map_congr_left (fun v _ => am_v_cat b base v))
abbrev am_S : String := "SmellBorders$Source"
abbrev am_tys (cA : Nat → ClassId) : List (ClassId × FieldType) := [(cA 0, .int), (cA 1, .boolean), (cA 2, .object am_S)]
/-- the tables' words that a call keeps -/
def am_T : List Cond := lw_tbl.filter goodWord
theorem am_in {w : Cond} (h : w ∈ lw_tbl) (g : goodWord w = true) : w ∈ am_T := List.mem_filter.mpr ⟨h, g⟩
theorem am_good {big : List Cond} (ws : List Cond) (h : ∀ w ∈ am_T, w ∈ big) (hw : ∀ w ∈ ws, w ∈ am_T) : GoodIn big ws := fun w q => ⟨h w (hw w q), good_of_word (List.mem_filter.mp (hw w q)).2⟩
/-- private constructors that the outer class calls; casts that hold; casts that don't -/
def am_nn : List (Nat × MethodName) := [(11, yX3_init), (18, yX7_init), (31, yX5_init), (44, yX0_init)]
def am_ca : List (String × String) := [(RX8, RX6), (RX1, RX4), (RX2, RX4), (RX6, RX4), (RX8, RX4)]
def am_nc : List (String × String) := [(RX4, RX1), (RX2, RX1), (RX6, RX1), (RX8, RX1), (RX4, RX2), (RX1, RX2), (RX6, RX2), (RX8, RX2), (RX4, RX6), (RX1, RX6), (RX2, RX6), (RX4, RX8), (RX1, RX8), (RX2, RX8), (RX6, RX8)]
def am_K (D : va_G) (cA : Nat → ClassId) (U : State) : Prop :=
  va_K D vwCl (am_tys cA) U ∧ (∀ q ∈ am_nn, va_Nw (.methodLinkNest RX9 q.1 q.2 RX9) U) ∧ (∀ q ∈ am_ca, va_Nw (.castable q.1 q.2) U) ∧ (∀ q ∈ am_nc, va_Nc q.1 q.2 U) ∧ va_AO am_S U
theorem am_K_moved {D : va_G} {cA : Nat → ClassId} {s U : State} (hW : s.WarmedH U.vm) (h : am_K D cA s) : am_K D cA U :=
  ⟨va_K.moved hW.alike h.1, fun q hq => va_Nw.warmM hW (h.2.1 q hq), fun q hq => va_Nw.warmC hW (h.2.2.1 q hq), fun q hq => (h.2.2.2.1 q hq).moved hW.alike, h.2.2.2.2.moved hW.alike⟩
theorem am_K_same {D : va_G} {cA : Nat → ClassId} {s U : State} (hv : s.vm = U.vm) (h : am_K D cA s) : am_K D cA U := by
  have ha : s.vm.Alike U.vm := hv ▸ Vm.Alike.refl s.vm
  exact ⟨va_K.moved ha h.1, fun q hq => va_Nw.same rfl hv (h.2.1 q hq), fun q hq => va_Nw.same rfl hv (h.2.2.1 q hq), fun q hq => (h.2.2.2.1 q hq).moved ha, h.2.2.2.2.moved ha⟩
def am_L (b base nL : Nat) (lv : List (Option Value)) (ls : Array Slot) : Prop := ls.size = nL ∧ lv_wf ls ∧ ∀ (i : Nat) (v : Value), lv[i]? = some (some v) → ls[i]? = some (.val (am_v b base v))
/-- what stands behind the last cell -/
def am_0 : am_E := .inr (.inr (99, []))
def am_Hp (b base : Nat) (D : va_G) (cA : Nat → ClassId) (h : Nat → am_E) (n : Nat) (H : Heap) : Prop := H.size = base + n ∧ (∀ k, k < n → va_at D vwCl (base + k, am_e b base cA (h (k + 1))) H) ∧ ∀ k, n ≤ k → h (k + 1) = am_0
def am_C (M : am_M) (b base L : Nat) (xs : Nat → Int32) (D : va_G) (cA : Nat → ClassId) (p : Program) (s : State) (m : MethodId) (args : Array Value) (meth : Method) (c : Code) : Prop :=
  p.tables.exec = Jvm.exec ∧ c.code = am_c M ∧ meth.sig.returnType = am_r M ∧ meth.locks = false ∧ c.maxLocals = am_l M ∧ s.vm.findClass (am_y M).cls = some m.cls ∧ meth.name = (am_y M).name ∧ (∀ w ∈ am_T, w.before args s = true) ∧ am_K D cA s ∧ va_X b L xs s s.heap ∧ b < base ∧ base ≤ s.heap.size
abbrev am_P : Type := Option Value → (Nat → am_E) → Nat → Prop
def am_Q (b base L : Nat) (xs : Nat → Int32) (D : va_G) (cA : Nat → ClassId) (Q : am_P) : Array Value → State → Outcome → State → Prop := fun _ st oc t =>
  (∃ (r : Option Value) (h : Nat → am_E) (n : Nat), oc = .returned (r.map (am_v b base)) ∧ Q r h n ∧ h 0 = .inl (0, L, xs) ∧ am_Hp b base D cA h n t.heap) ∧ va_F (fun q => base ≤ q) st t
/-- THE JUDGEMENT: from this place of the method M, with these locals, this stack, this heap of n cells, so many made, M comes to its end with Q -/
def AW (M : am_M) (Q : am_P) (pc : Nat) (lv : List (Option Value)) (st : List Value) (h : Nat → am_E) (n cu su : Nat) : Prop :=
  ∀ (l : Launch) (b base L : Nat) (xs : Nat → Int32) (D : va_G) (cA : Nat → ClassId) (p : Program) (e : Env) (s : State) (m : MethodId) (args : Array Value) (below : List Frame) (meth : Method) (c : Code) (H : Heap) (locs : List Loc) (ls : Array Slot),
    am_C M b base L xs D cA p s m args meth c → h 0 = .inl (0, L, xs) → am_Hp b base D cA h n H → va_S (fun q => base ≤ q) s.heap H locs → am_L b base (am_l M) lv ls →
    W p l e (am_rm M) s m args below meth c H locs cu su (MQ below (am_Q b base L xs D cA Q) args s (am_mc M) (am_ms M) (fun q => base ≤ q)) (F0 m pc ls (st.map (am_v b base)))
/-! locals -/
theorem am_L_at {b base nL : Nat} {lv : List (Option Value)} {ls : Array Slot} (h : am_L b base nL lv ls) {i : Nat} {v : Value} (hi : lv[i]? = some (some v)) : ls[i]? = some (.val (am_v b base v)) := h.2.2 i v hi
def am_as (b base : Nat) (lv : List (Option Value)) : List (Nat × Value) := (List.range lv.length).filterMap (fun i => match lv[i]? with | some (some v) => some (i, am_v b base v) | _ => none)
theorem am_as_mem {b base : Nat} {lv : List (Option Value)} {q : Nat × Value} : q ∈ am_as b base lv ↔ ∃ v, lv[q.1]? = some (some v) ∧ q.2 = am_v b base v := by
  unfold am_as
  rw [List.mem_filterMap]
  constructor
  · rintro ⟨i, -, hi⟩
    split at hi
    · rename_i v hv
      cases hi
      exact ⟨v, hv, rfl⟩
    · cases hi
  · rintro ⟨v, hv, h2⟩
    refine ⟨q.1, List.mem_range.mpr (List.getElem?_eq_some_iff.mp hv).1, ?_⟩
    rw [hv]
    simp only [← h2]
theorem am_L_has {b base nL : Nat} {lv : List (Option Value)} {ls : Array Slot} (h : am_L b base nL lv ls) : lv_has ls nL (am_as b base lv) := by
  refine ⟨h.1, h.2.1, fun q hq => ?_⟩
  obtain ⟨v, hv, h2⟩ := am_as_mem.mp hq
  rw [h2]
  exact h.2.2 _ _ hv
/-- a value is put into a local: a long that stood one below it is gone -/
def am_set (lv : List (Option Value)) (i : Nat) (v : Value) : List (Option Value) :=
  (match i with
   | 0 => lv
   | j + 1 => match lv[j]? with
     | some (some (.long _)) => lv.set j none
     | some (some (.double _)) => lv.set j none
     | _ => lv).set i (some v)
def am_setl (lv : List (Option Value)) (i : Nat) (v : Value) : List (Option Value) := am_set (lv.set (i + 1) none) i v
theorem am_gs {α : Type} {l : List α} {i : Nat} {a b : α} (h : (l.set i a)[i]? = some b) : b = a := by
  by_cases hl : i < l.length
  · rw [List.getElem?_set_self hl] at h
    exact (Option.some.inj h).symm
  · rw [List.getElem?_eq_none (by simpa using Nat.le_of_not_lt hl)] at h
    cases h
theorem am_set_spec {lv : List (Option Value)} {i j : Nat} {v w : Value} (h : (am_set lv i v)[j]? = some (some w)) : (j = i ∧ w = v) ∨ (j ≠ i ∧ lv[j]? = some (some w) ∧ ¬ (j + 1 = i ∧ w.category = 2)) := by
  unfold am_set at h
  by_cases hji : j = i
  · subst hji
    exact Or.inl ⟨rfl, Option.some.inj (am_gs h)⟩
  · right
    rw [List.getElem?_set_ne (Ne.symm hji)] at h
    refine ⟨hji, ?_⟩
    cases i with
    | zero => exact ⟨h, fun q => by omega⟩
    | succ k =>
      simp only at h
      by_cases hjk : j = k
      · subst hjk
        split at h
        · rename_i x hx
          cases am_gs h
        · rename_i x hx
          cases am_gs h
        · rename_i h1 h2
          refine ⟨h, fun q => ?_⟩
          cases w with
          | long x => exact h1 x h
          | double x => exact h2 x h
          | _ => cases q.2
      · refine ⟨?_, fun q => by omega⟩
        split at h
        · rwa [List.getElem?_set_ne (Ne.symm hjk)] at h
        · rwa [List.getElem?_set_ne (Ne.symm hjk)] at h
        · exact h
theorem am_L_set1 {b base nL : Nat} {lv : List (Option Value)} {ls : Array Slot} (h : am_L b base nL lv ls) {i : Nat} {v : Value} {ls' : Array Slot}
    (h' : lv_has ls' nL ((i, am_v b base v) :: (am_as b base lv).filter (fun q => !(q.1 == i) && !(q.1 + 1 == i && q.2.category == 2)))) : am_L b base nL (am_set lv i v) ls' := by
  refine ⟨h'.1, h'.2.1, fun j w hj => ?_⟩
  rcases am_set_spec hj with ⟨rfl, rfl⟩ | ⟨h1, h2, h3⟩
  · exact h'.2.2 (j, am_v b base w) List.mem_cons_self
  · refine h'.2.2 (j, am_v b base w) (List.mem_cons_of_mem _ (List.mem_filter.mpr ⟨am_as_mem.mpr ⟨w, h2, rfl⟩, ?_⟩))
    simp only [am_v_cat]
    simp only [Bool.and_eq_true, Bool.not_eq_true', beq_eq_false_iff_ne, ne_eq, Bool.and_eq_false_iff]
    refine ⟨h1, ?_⟩
    by_cases hq : j + 1 = i
    · exact Or.inr (fun z => h3 ⟨hq, z⟩)
    · exact Or.inl hq
theorem am_L_set2 {b base nL : Nat} {lv : List (Option Value)} {ls : Array Slot} (h : am_L b base nL lv ls) {i : Nat} {v : Value} {ls' : Array Slot}
    (h' : lv_has ls' nL ((i, am_v b base v) :: (am_as b base lv).filter (fun q => !(q.1 == i) && (!(q.1 == i + 1) && !(q.1 + 1 == i && q.2.category == 2))))) : am_L b base nL (am_setl lv i v) ls' := by
  refine ⟨h'.1, h'.2.1, fun j w hj => ?_⟩
  rcases am_set_spec hj with ⟨rfl, rfl⟩ | ⟨h1, h2, h3⟩
  · exact h'.2.2 (j, am_v b base w) List.mem_cons_self
  · have h4 : j ≠ i + 1 := by
      intro q
      subst q
      cases am_gs h2
    rw [List.getElem?_set_ne (Ne.symm h4)] at h2
    refine h'.2.2 (j, am_v b base w) (List.mem_cons_of_mem _ (List.mem_filter.mpr ⟨am_as_mem.mpr ⟨w, h2, rfl⟩, ?_⟩))
    simp only [am_v_cat]
    simp only [Bool.and_eq_true, Bool.not_eq_true', beq_eq_false_iff_ne, ne_eq, Bool.and_eq_false_iff]
    refine ⟨h1, h4, ?_⟩
    by_cases hq : j + 1 = i
    · exact Or.inr (fun z => h3 ⟨hq, z⟩)
    · exact Or.inl hq
/-- the arguments in their places -/
def am_en : List Value → List (Option Value)
  | [] => []
  | v :: vs => some v :: (if v.category = 2 then none :: am_en vs else am_en vs)
def am_ent (nL : Nat) (As : List Value) : List (Option Value) := am_en As ++ List.replicate (nL - (am_en As).length) none
theorem am_en_mem (b base : Nat) : ∀ (As : List Value) (o i : Nat) (v : Value), (am_en As)[i]? = some (some v) → (o + i, am_v b base v) ∈ lv_args o (As.map (am_v b base))
  | [], o, i, v, h => by simp [am_en] at h
  | a :: As, o, i, v, h => by
    simp only [am_en] at h
    rw [List.map_cons, lv_args]
    cases i with
    | zero =>
      rw [List.getElem?_cons_zero] at h
      cases h
      exact List.mem_cons_self
    | succ i =>
      rw [List.getElem?_cons_succ] at h
      refine List.mem_cons_of_mem _ ?_
      rw [am_v_cat]
      by_cases hc : a.category = 2
      · rw [if_pos hc] at h ⊢
        cases i with
        | zero => rw [List.getElem?_cons_zero] at h; cases h
        | succ i =>
          rw [List.getElem?_cons_succ] at h
          have := am_en_mem b base As (o + 2) i v h
          rwa [show o + 2 + i = o + (i + 1 + 1) by omega] at this
      · rw [if_neg hc] at h ⊢
        have := am_en_mem b base As (o + 1) i v h
        rwa [show o + 1 + i = o + (i + 1) by omega] at this
theorem am_L_ent {b base nL : Nat} {As : List Value} (hl : (lg_sl (As.map (am_v b base))).length ≤ nL) :
    am_L b base nL (am_ent nL As) ((lg_sl (As.map (am_v b base)) ++ List.replicate (nL - (lg_sl (As.map (am_v b base))).length) Slot.unset).toArray) := by
  have h := lv_entry (As.map (am_v b base)) hl
  refine ⟨h.1, h.2.1, fun i v hi => ?_⟩
  unfold am_ent at hi
  by_cases hlt : i < (am_en As).length
  · rw [List.getElem?_append_left hlt] at hi
    have := h.2.2 _ (am_en_mem b base As 0 i v hi)
    simpa using this
  · rw [List.getElem?_append_right (by omega), List.getElem?_replicate] at hi
    split at hi <;> cases hi
end
section
/-! rules that leave the heap alone -/
section AMR
variable {M : am_M} {Q : am_P} {pc : Nat} {lv : List (Option Value)} {st : List Value} {h : Nat → am_E} {n cu su : Nat}

theorem r_iadd (pc' : Nat) (hp : pc + 1 = pc') {x y : Int32} (hd : decode (am_c M) pc = .ok (.iadd, 1))  (k : AW M Q pc' lv (.int (x + y) :: st) h n cu su) : AW M Q pc lv (.int y :: .int x :: st) h n cu su := by
  subst hp
  intro l b base L xs D cA p e s m args below meth c H locs ls hC h0 hH hS hL
  exact lv_iadd hC.1 hC.2.1 hd (k l b base L xs D cA p e s m args below meth c H locs ls hC h0 hH hS hL)

theorem r_isub (pc' : Nat) (hp : pc + 1 = pc') {x y : Int32} (hd : decode (am_c M) pc = .ok (.isub, 1))  (k : AW M Q pc' lv (.int (x - y) :: st) h n cu su) : AW M Q pc lv (.int y :: .int x :: st) h n cu su := by
  subst hp
  intro l b base L xs D cA p e s m args below meth c H locs ls hC h0 hH hS hL
  exact lv_isub hC.1 hC.2.1 hd (k l b base L xs D cA p e s m args below meth c H locs ls hC h0 hH hS hL)

theorem r_imul (pc' : Nat) (hp : pc + 1 = pc') {x y : Int32} (hd : decode (am_c M) pc = .ok (.imul, 1))  (k : AW M Q pc' lv (.int (x * y) :: st) h n cu su) : AW M Q pc lv (.int y :: .int x :: st) h n cu su := by
  subst hp
  intro l b base L xs D cA p e s m args below meth c H locs ls hC h0 hH hS hL
  exact lv_imul hC.1 hC.2.1 hd (k l b base L xs D cA p e s m args below meth c H locs ls hC h0 hH hS hL)

theorem r_iand (pc' : Nat) (hp : pc + 1 = pc') {x y : Int32} (hd : decode (am_c M) pc = .ok (.iand, 1))  (k : AW M Q pc' lv (.int (x &&& y) :: st) h n cu su) : AW M Q pc lv (.int y :: .int x :: st) h n cu su := by
  subst hp
  intro l b base L xs D cA p e s m args below meth c H locs ls hC h0 hH hS hL
  exact lv_iand hC.1 hC.2.1 hd (k l b base L xs D cA p e s m args below meth c H locs ls hC h0 hH hS hL)

theorem r_ior (pc' : Nat) (hp : pc + 1 = pc') {x y : Int32} (hd : decode (am_c M) pc = .ok (.ior, 1))  (k : AW M Q pc' lv (.int (x ||| y) :: st) h n cu su) : AW M Q pc lv (.int y :: .int x :: st) h n cu su := by
  subst hp
  intro l b base L xs D cA p e s m args below meth c H locs ls hC h0 hH hS hL
  exact lv_ior hC.1 hC.2.1 hd (k l b base L xs D cA p e s m args below meth c H locs ls hC h0 hH hS hL)

theorem r_ixor (pc' : Nat) (hp : pc + 1 = pc') {x y : Int32} (hd : decode (am_c M) pc = .ok (.ixor, 1))  (k : AW M Q pc' lv (.int (x ^^^ y) :: st) h n cu su) : AW M Q pc lv (.int y :: .int x :: st) h n cu su := by
  subst hp
  intro l b base L xs D cA p e s m args below meth c H locs ls hC h0 hH hS hL
  exact lv_ixor hC.1 hC.2.1 hd (k l b base L xs D cA p e s m args below meth c H locs ls hC h0 hH hS hL)

theorem r_ishl (pc' : Nat) (hp : pc + 1 = pc') {x y : Int32} (hd : decode (am_c M) pc = .ok (.ishl, 1))  (k : AW M Q pc' lv (.int (x <<< (y &&& 31)) :: st) h n cu su) : AW M Q pc lv (.int y :: .int x :: st) h n cu su := by
  subst hp
  intro l b base L xs D cA p e s m args below meth c H locs ls hC h0 hH hS hL
  exact lv_ishl hC.1 hC.2.1 hd (k l b base L xs D cA p e s m args below meth c H locs ls hC h0 hH hS hL)

theorem r_ishr (pc' : Nat) (hp : pc + 1 = pc') {x y : Int32} (hd : decode (am_c M) pc = .ok (.ishr, 1))  (k : AW M Q pc' lv (.int (x >>> (y &&& 31)) :: st) h n cu su) : AW M Q pc lv (.int y :: .int x :: st) h n cu su := by
  subst hp
  intro l b base L xs D cA p e s m args below meth c H locs ls hC h0 hH hS hL
  exact lv_ishr hC.1 hC.2.1 hd (k l b base L xs D cA p e s m args below meth c H locs ls hC h0 hH hS hL)

theorem r_iushr (pc' : Nat) (hp : pc + 1 = pc') {x y : Int32} (hd : decode (am_c M) pc = .ok (.iushr, 1))  (k : AW M Q pc' lv (.int ((x.toUInt32 >>> (y.toUInt32 &&& Int32.toUInt32 31)).toInt32) :: st) h n cu su) : AW M Q pc lv (.int y :: .int x :: st) h n cu su := by
  subst hp
  intro l b base L xs D cA p e s m args below meth c H locs ls hC h0 hH hS hL
  exact lv_iushr hC.1 hC.2.1 hd rfl (k l b base L xs D cA p e s m args below meth c H locs ls hC h0 hH hS hL)

theorem r_idiv (pc' : Nat) (hp : pc + 1 = pc') {x y : Int32} (hd : decode (am_c M) pc = .ok (.idiv, 1)) (hne : ¬ y = 0) (k : AW M Q pc' lv (.int (x / y) :: st) h n cu su) : AW M Q pc lv (.int y :: .int x :: st) h n cu su := by
  subst hp
  intro l b base L xs D cA p e s m args below meth c H locs ls hC h0 hH hS hL
  exact lv_idiv hC.1 hC.2.1 hd hne (k l b base L xs D cA p e s m args below meth c H locs ls hC h0 hH hS hL)

theorem r_irem (pc' : Nat) (hp : pc + 1 = pc') {x y : Int32} (hd : decode (am_c M) pc = .ok (.irem, 1)) (hne : ¬ y = 0) (k : AW M Q pc' lv (.int (x - x / y * y) :: st) h n cu su) : AW M Q pc lv (.int y :: .int x :: st) h n cu su := by
  subst hp
  intro l b base L xs D cA p e s m args below meth c H locs ls hC h0 hH hS hL
  exact lv_irem hC.1 hC.2.1 hd hne (k l b base L xs D cA p e s m args below meth c H locs ls hC h0 hH hS hL)

theorem r_ladd (pc' : Nat) (hp : pc + 1 = pc') {x y : Int64} (hd : decode (am_c M) pc = .ok (.ladd, 1))  (k : AW M Q pc' lv (.long (x + y) :: st) h n cu su) : AW M Q pc lv (.long y :: .long x :: st) h n cu su := by
  subst hp
  intro l b base L xs D cA p e s m args below meth c H locs ls hC h0 hH hS hL
  exact lv_ladd hC.1 hC.2.1 hd (k l b base L xs D cA p e s m args below meth c H locs ls hC h0 hH hS hL)

theorem r_lmul (pc' : Nat) (hp : pc + 1 = pc') {x y : Int64} (hd : decode (am_c M) pc = .ok (.lmul, 1))  (k : AW M Q pc' lv (.long (x * y) :: st) h n cu su) : AW M Q pc lv (.long y :: .long x :: st) h n cu su := by
  subst hp
  intro l b base L xs D cA p e s m args below meth c H locs ls hC h0 hH hS hL
  exact lv_lmul hC.1 hC.2.1 hd (k l b base L xs D cA p e s m args below meth c H locs ls hC h0 hH hS hL)

theorem r_land (pc' : Nat) (hp : pc + 1 = pc') {x y : Int64} (hd : decode (am_c M) pc = .ok (.land, 1))  (k : AW M Q pc' lv (.long (x &&& y) :: st) h n cu su) : AW M Q pc lv (.long y :: .long x :: st) h n cu su := by
  subst hp
  intro l b base L xs D cA p e s m args below meth c H locs ls hC h0 hH hS hL
  exact lv_land hC.1 hC.2.1 hd (k l b base L xs D cA p e s m args below meth c H locs ls hC h0 hH hS hL)

theorem r_lrem (pc' : Nat) (hp : pc + 1 = pc') {x y : Int64} (hd : decode (am_c M) pc = .ok (.lrem, 1)) (hne : ¬ y = 0) (k : AW M Q pc' lv (.long (x - x / y * y) :: st) h n cu su) : AW M Q pc lv (.long y :: .long x :: st) h n cu su := by
  subst hp
  intro l b base L xs D cA p e s m args below meth c H locs ls hC h0 hH hS hL
  exact lv_lrem hC.1 hC.2.1 hd hne (k l b base L xs D cA p e s m args below meth c H locs ls hC h0 hH hS hL)

theorem r_lcmp (pc' : Nat) (hp : pc + 1 = pc') {x y : Int64} (hd : decode (am_c M) pc = .ok (.lcmp, 1))  (k : AW M Q pc' lv (.int (lg_cmp x y) :: st) h n cu su) : AW M Q pc lv (.long y :: .long x :: st) h n cu su := by
  subst hp
  intro l b base L xs D cA p e s m args below meth c H locs ls hC h0 hH hS hL
  exact W.lcmp hC.1 hC.2.1 hd (k l b base L xs D cA p e s m args below meth c H locs ls hC h0 hH hS hL)

theorem r_i2l (pc' : Nat) (hp : pc + 1 = pc') {x : Int32} (hd : decode (am_c M) pc = .ok (.i2l, 1))  (k : AW M Q pc' lv (.long x.toInt64 :: st) h n cu su) : AW M Q pc lv (.int x :: st) h n cu su := by
  subst hp
  intro l b base L xs D cA p e s m args below meth c H locs ls hC h0 hH hS hL
  exact lv_i2l hC.1 hC.2.1 hd rfl (k l b base L xs D cA p e s m args below meth c H locs ls hC h0 hH hS hL)

theorem r_l2i (pc' : Nat) (hp : pc + 1 = pc') {x : Int64} (hd : decode (am_c M) pc = .ok (.l2i, 1))  (k : AW M Q pc' lv (.int x.toInt32 :: st) h n cu su) : AW M Q pc lv (.long x :: st) h n cu su := by
  subst hp
  intro l b base L xs D cA p e s m args below meth c H locs ls hC h0 hH hS hL
  exact lv_l2i hC.1 hC.2.1 hd rfl (k l b base L xs D cA p e s m args below meth c H locs ls hC h0 hH hS hL)

theorem r_aconst_null (pc' : Nat) (hp : pc + 1 = pc')  (hd : decode (am_c M) pc = .ok (.aconst_null, 1))  (k : AW M Q pc' lv (.null :: st) h n cu su) : AW M Q pc lv (st) h n cu su := by
  subst hp
  intro l b base L xs D cA p e s m args below meth c H locs ls hC h0 hH hS hL
  exact lv_null hC.1 hC.2.1 hd (k l b base L xs D cA p e s m args below meth c H locs ls hC h0 hH hS hL)

theorem r_dup (pc' : Nat) (hp : pc + 1 = pc') {v : Value} (hd : decode (am_c M) pc = .ok (.dup, 1)) (hv : v.category = 1) (k : AW M Q pc' lv (v :: v :: st) h n cu su) : AW M Q pc lv (v :: st) h n cu su := by
  subst hp
  intro l b base L xs D cA p e s m args below meth c H locs ls hC h0 hH hS hL
  exact lv_dup hC.1 hC.2.1 hd ((am_v_cat b base v).trans hv) (k l b base L xs D cA p e s m args below meth c H locs ls hC h0 hH hS hL)

theorem r_dup_x1 (pc' : Nat) (hp : pc + 1 = pc') {v w : Value} (hd : decode (am_c M) pc = .ok (.dup_x1, 1)) (hv : v.category = 1) (hw : w.category = 1) (k : AW M Q pc' lv (v :: w :: v :: st) h n cu su) : AW M Q pc lv (v :: w :: st) h n cu su := by
  subst hp
  intro l b base L xs D cA p e s m args below meth c H locs ls hC h0 hH hS hL
  exact lv_dup_x1 hC.1 hC.2.1 hd ((am_v_cat b base v).trans hv) ((am_v_cat b base w).trans hw) (k l b base L xs D cA p e s m args below meth c H locs ls hC h0 hH hS hL)

theorem r_dup2 (pc' : Nat) (hp : pc + 1 = pc') {v w : Value} (hd : decode (am_c M) pc = .ok (.dup2, 1)) (hv : v.category = 1) (hw : w.category = 1) (k : AW M Q pc' lv (v :: w :: v :: w :: st) h n cu su) : AW M Q pc lv (v :: w :: st) h n cu su := by
  subst hp
  intro l b base L xs D cA p e s m args below meth c H locs ls hC h0 hH hS hL
  exact lv_dup2_11 hC.1 hC.2.1 hd ((am_v_cat b base v).trans hv) ((am_v_cat b base w).trans hw) (k l b base L xs D cA p e s m args below meth c H locs ls hC h0 hH hS hL)

theorem r_iconst (pc' : Nat) (hp : pc + 1 = pc') {z : Int} (v : Int32) (hd : decode (am_c M) pc = .ok (.iconst z, 1)) (hv : Int32.ofInt z = v) (k : AW M Q pc' lv (.int v :: st) h n cu su) : AW M Q pc lv (st) h n cu su := by
  subst hp
  intro l b base L xs D cA p e s m args below meth c H locs ls hC h0 hH hS hL
  exact lv_iconst hC.1 hC.2.1 hd hv (k l b base L xs D cA p e s m args below meth c H locs ls hC h0 hH hS hL)

theorem r_bipush (pc' : Nat) (hp : pc + 2 = pc') {z : Int} (v : Int32) (hd : decode (am_c M) pc = .ok (.bipush z, 2)) (hv : (Int8.ofInt z).toInt32 = v) (k : AW M Q pc' lv (.int v :: st) h n cu su) : AW M Q pc lv (st) h n cu su := by
  subst hp
  intro l b base L xs D cA p e s m args below meth c H locs ls hC h0 hH hS hL
  exact lv_bipush hC.1 hC.2.1 hd hv (k l b base L xs D cA p e s m args below meth c H locs ls hC h0 hH hS hL)

theorem r_sipush (pc' : Nat) (hp : pc + 3 = pc') {z : Int} (v : Int32) (hd : decode (am_c M) pc = .ok (.sipush z, 3)) (hv : (Int16.ofInt z).toInt32 = v) (k : AW M Q pc' lv (.int v :: st) h n cu su) : AW M Q pc lv (st) h n cu su := by
  subst hp
  intro l b base L xs D cA p e s m args below meth c H locs ls hC h0 hH hS hL
  exact lv_sipush hC.1 hC.2.1 hd hv (k l b base L xs D cA p e s m args below meth c H locs ls hC h0 hH hS hL)

theorem r_lconst (pc' : Nat) (hp : pc + 1 = pc') {z : Fin 2} (v : Int64) (hd : decode (am_c M) pc = .ok (.lconst z, 1)) (hv : Int64.ofNat (z : Nat) = v) (k : AW M Q pc' lv (.long v :: st) h n cu su) : AW M Q pc lv (st) h n cu su := by
  subst hp
  intro l b base L xs D cA p e s m args below meth c H locs ls hC h0 hH hS hL
  exact lv_lconst hC.1 hC.2.1 hd hv (k l b base L xs D cA p e s m args below meth c H locs ls hC h0 hH hS hL)

theorem r_ldc (pc' : Nat) (hp : pc + 2 = pc') {i : Nat} (v : Int32) (hd : decode (am_c M) pc = .ok (.ldc i, 2)) (hc : Cond.constant (am_y M).cls i v ∈ am_T) (k : AW M Q pc' lv (.int v :: st) h n cu su) : AW M Q pc lv (st) h n cu su := by
  subst hp
  intro l b base L xs D cA p e s m args below meth c H locs ls hC h0 hH hS hL
  exact lv_ldc hC.1 hC.2.1 hC.2.2.2.2.2.1 (hC.2.2.2.2.2.2.2.1 _ hc) hd (k l b base L xs D cA p e s m args below meth c H locs ls hC h0 hH hS hL)

theorem r_ldc_w (pc' : Nat) (hp : pc + 3 = pc') {i : Nat} (v : Int32) (hd : decode (am_c M) pc = .ok (.ldc_w i, 3)) (hc : Cond.constant (am_y M).cls i v ∈ am_T) (k : AW M Q pc' lv (.int v :: st) h n cu su) : AW M Q pc lv (st) h n cu su := by
  subst hp
  intro l b base L xs D cA p e s m args below meth c H locs ls hC h0 hH hS hL
  exact lv_ldcw hC.1 hC.2.1 hC.2.2.2.2.2.1 (hC.2.2.2.2.2.2.2.1 _ hc) hd (k l b base L xs D cA p e s m args below meth c H locs ls hC h0 hH hS hL)

theorem r_ldc2 (pc' : Nat) (hp : pc + 3 = pc') {i : Nat} (v : Int64) (hd : decode (am_c M) pc = .ok (.ldc2_w i, 3)) (hc : Cond.constantLong (am_y M).cls i v ∈ am_T) (k : AW M Q pc' lv (.long v :: st) h n cu su) : AW M Q pc lv (st) h n cu su := by
  subst hp
  intro l b base L xs D cA p e s m args below meth c H locs ls hC h0 hH hS hL
  exact lv_ldc2 hC.1 hC.2.1 hC.2.2.2.2.2.1 (hC.2.2.2.2.2.2.2.1 _ hc) hd (k l b base L xs D cA p e s m args below meth c H locs ls hC h0 hH hS hL)

theorem r_iload_n (pc' : Nat) (hp : pc + 1 = pc') {z : Fin 4} (i : Nat) {x : Int32} (hd : decode (am_c M) pc = .ok (.iload_n z, 1)) (hi : (z : Nat) = i) (hv : lv[i]? = some (some (.int x))) (k : AW M Q pc' lv (.int x :: st) h n cu su) : AW M Q pc lv (st) h n cu su := by
  subst hp
  intro l b base L xs D cA p e s m args below meth c H locs ls hC h0 hH hS hL
  exact lv_iload_n hC.1 hC.2.1 hd hi (am_L_at hL hv) (k l b base L xs D cA p e s m args below meth c H locs ls hC h0 hH hS hL)

theorem r_iload (pc' : Nat) (hp : pc + 2 = pc') {i : Nat} {x : Int32} (hd : decode (am_c M) pc = .ok (.iload i, 2)) (hv : lv[i]? = some (some (.int x))) (k : AW M Q pc' lv (.int x :: st) h n cu su) : AW M Q pc lv (st) h n cu su := by
  subst hp
  intro l b base L xs D cA p e s m args below meth c H locs ls hC h0 hH hS hL
  exact lv_iload hC.1 hC.2.1 hd (am_L_at hL hv) (k l b base L xs D cA p e s m args below meth c H locs ls hC h0 hH hS hL)

theorem r_lload_n (pc' : Nat) (hp : pc + 1 = pc') {z : Fin 4} (i : Nat) {x : Int64} (hd : decode (am_c M) pc = .ok (.lload_n z, 1)) (hi : (z : Nat) = i) (hv : lv[i]? = some (some (.long x))) (k : AW M Q pc' lv (.long x :: st) h n cu su) : AW M Q pc lv (st) h n cu su := by
  subst hp
  intro l b base L xs D cA p e s m args below meth c H locs ls hC h0 hH hS hL
  exact lv_lload_n hC.1 hC.2.1 hd hi (am_L_at hL hv) (k l b base L xs D cA p e s m args below meth c H locs ls hC h0 hH hS hL)

theorem r_lload (pc' : Nat) (hp : pc + 2 = pc') {i : Nat} {x : Int64} (hd : decode (am_c M) pc = .ok (.lload i, 2)) (hv : lv[i]? = some (some (.long x))) (k : AW M Q pc' lv (.long x :: st) h n cu su) : AW M Q pc lv (st) h n cu su := by
  subst hp
  intro l b base L xs D cA p e s m args below meth c H locs ls hC h0 hH hS hL
  exact lv_lload hC.1 hC.2.1 hd (am_L_at hL hv) (k l b base L xs D cA p e s m args below meth c H locs ls hC h0 hH hS hL)

theorem r_aload_n (pc' : Nat) (hp : pc + 1 = pc') {z : Fin 4} (i : Nat) {x : Nat} (hd : decode (am_c M) pc = .ok (.aload_n z, 1)) (hi : (z : Nat) = i) (hv : lv[i]? = some (some (.ref x))) (k : AW M Q pc' lv (.ref x :: st) h n cu su) : AW M Q pc lv (st) h n cu su := by
  subst hp
  intro l b base L xs D cA p e s m args below meth c H locs ls hC h0 hH hS hL
  exact lv_aload_n hC.1 hC.2.1 hd hi (am_L_at hL hv) (k l b base L xs D cA p e s m args below meth c H locs ls hC h0 hH hS hL)

theorem r_aload (pc' : Nat) (hp : pc + 2 = pc') {i : Nat} {x : Nat} (hd : decode (am_c M) pc = .ok (.aload i, 2)) (hv : lv[i]? = some (some (.ref x))) (k : AW M Q pc' lv (.ref x :: st) h n cu su) : AW M Q pc lv (st) h n cu su := by
  subst hp
  intro l b base L xs D cA p e s m args below meth c H locs ls hC h0 hH hS hL
  exact lv_aload hC.1 hC.2.1 hd (am_L_at hL hv) (k l b base L xs D cA p e s m args below meth c H locs ls hC h0 hH hS hL)

theorem r_aload_nN (pc' : Nat) (hp : pc + 1 = pc') {z : Fin 4} (i : Nat) (hd : decode (am_c M) pc = .ok (.aload_n z, 1)) (hi : (z : Nat) = i) (hv : lv[i]? = some (some .null)) (k : AW M Q pc' lv (.null :: st) h n cu su) : AW M Q pc lv (st) h n cu su := by
  subst hp
  intro l b base L xs D cA p e s m args below meth c H locs ls hC h0 hH hS hL
  exact lv_aload_nN hC.1 hC.2.1 hd hi (am_L_at hL hv) (k l b base L xs D cA p e s m args below meth c H locs ls hC h0 hH hS hL)

theorem r_aloadN (pc' : Nat) (hp : pc + 2 = pc') {i : Nat} (hd : decode (am_c M) pc = .ok (.aload i, 2)) (hv : lv[i]? = some (some .null)) (k : AW M Q pc' lv (.null :: st) h n cu su) : AW M Q pc lv (st) h n cu su := by
  subst hp
  intro l b base L xs D cA p e s m args below meth c H locs ls hC h0 hH hS hL
  exact lv_aloadN hC.1 hC.2.1 hd (am_L_at hL hv) (k l b base L xs D cA p e s m args below meth c H locs ls hC h0 hH hS hL)

theorem r_istore_n (pc' : Nat) (hp : pc + 1 = pc') {z : Fin 4} (i : Nat) {x : Int32} (lv' : List (Option Value)) (hd : decode (am_c M) pc = .ok (.istore_n z, 1)) (hi : (z : Nat) = i) (hn : i < am_l M) (hl : am_set lv i (.int x) = lv') (k : AW M Q pc' lv' (st) h n cu su) : AW M Q pc lv (.int x :: st) h n cu su := by
  subst hp
  subst hl
  intro l b base L xs D cA p e s m args below meth c H locs ls hC h0 hH hS hL
  exact lv_istore_n hC.1 hC.2.1 hd hi (am_L_has hL) hn rfl (fun ls' hl' => k l b base L xs D cA p e s m args below meth c H locs ls' hC h0 hH hS (am_L_set1 hL hl'))

theorem r_istore (pc' : Nat) (hp : pc + 2 = pc') {i : Nat} {x : Int32} (lv' : List (Option Value)) (hd : decode (am_c M) pc = .ok (.istore i, 2)) (hn : i < am_l M) (hl : am_set lv i (.int x) = lv') (k : AW M Q pc' lv' (st) h n cu su) : AW M Q pc lv (.int x :: st) h n cu su := by
  subst hp
  subst hl
  intro l b base L xs D cA p e s m args below meth c H locs ls hC h0 hH hS hL
  exact lv_istore hC.1 hC.2.1 hd (am_L_has hL) hn rfl (fun ls' hl' => k l b base L xs D cA p e s m args below meth c H locs ls' hC h0 hH hS (am_L_set1 hL hl'))

theorem r_lstore_n (pc' : Nat) (hp : pc + 1 = pc') {z : Fin 4} (i : Nat) {x : Int64} (lv' : List (Option Value)) (hd : decode (am_c M) pc = .ok (.lstore_n z, 1)) (hi : (z : Nat) = i) (hn : i + 1 < am_l M) (hl : am_setl lv i (.long x) = lv') (k : AW M Q pc' lv' (st) h n cu su) : AW M Q pc lv (.long x :: st) h n cu su := by
  subst hp
  subst hl
  intro l b base L xs D cA p e s m args below meth c H locs ls hC h0 hH hS hL
  exact lv_lstore_n hC.1 hC.2.1 hd hi (am_L_has hL) hn rfl (fun ls' hl' => k l b base L xs D cA p e s m args below meth c H locs ls' hC h0 hH hS (am_L_set2 hL hl'))

theorem r_lstore (pc' : Nat) (hp : pc + 2 = pc') {i : Nat} {x : Int64} (lv' : List (Option Value)) (hd : decode (am_c M) pc = .ok (.lstore i, 2)) (hn : i + 1 < am_l M) (hl : am_setl lv i (.long x) = lv') (k : AW M Q pc' lv' (st) h n cu su) : AW M Q pc lv (.long x :: st) h n cu su := by
  subst hp
  subst hl
  intro l b base L xs D cA p e s m args below meth c H locs ls hC h0 hH hS hL
  exact lv_lstore hC.1 hC.2.1 hd (am_L_has hL) hn rfl (fun ls' hl' => k l b base L xs D cA p e s m args below meth c H locs ls' hC h0 hH hS (am_L_set2 hL hl'))

theorem r_astore_n (pc' : Nat) (hp : pc + 1 = pc') {z : Fin 4} (i : Nat) {x : Nat} (lv' : List (Option Value)) (hd : decode (am_c M) pc = .ok (.astore_n z, 1)) (hi : (z : Nat) = i) (hn : i < am_l M) (hl : am_set lv i (.ref x) = lv') (k : AW M Q pc' lv' (st) h n cu su) : AW M Q pc lv (.ref x :: st) h n cu su := by
  subst hp
  subst hl
  intro l b base L xs D cA p e s m args below meth c H locs ls hC h0 hH hS hL
  exact lv_astore_n hC.1 hC.2.1 hd hi (am_L_has hL) hn rfl (fun ls' hl' => k l b base L xs D cA p e s m args below meth c H locs ls' hC h0 hH hS (am_L_set1 hL hl'))

theorem r_astore (pc' : Nat) (hp : pc + 2 = pc') {i : Nat} {x : Nat} (lv' : List (Option Value)) (hd : decode (am_c M) pc = .ok (.astore i, 2)) (hn : i < am_l M) (hl : am_set lv i (.ref x) = lv') (k : AW M Q pc' lv' (st) h n cu su) : AW M Q pc lv (.ref x :: st) h n cu su := by
  subst hp
  subst hl
  intro l b base L xs D cA p e s m args below meth c H locs ls hC h0 hH hS hL
  exact lv_astore hC.1 hC.2.1 hd (am_L_has hL) hn rfl (fun ls' hl' => k l b base L xs D cA p e s m args below meth c H locs ls' hC h0 hH hS (am_L_set1 hL hl'))

theorem r_astore_nN (pc' : Nat) (hp : pc + 1 = pc') {z : Fin 4} (i : Nat) (lv' : List (Option Value)) (hd : decode (am_c M) pc = .ok (.astore_n z, 1)) (hi : (z : Nat) = i) (hn : i < am_l M) (hl : am_set lv i .null = lv') (k : AW M Q pc' lv' (st) h n cu su) : AW M Q pc lv (.null :: st) h n cu su := by
  subst hp
  subst hl
  intro l b base L xs D cA p e s m args below meth c H locs ls hC h0 hH hS hL
  exact lv_astore_nN hC.1 hC.2.1 hd hi (am_L_has hL) hn rfl (fun ls' hl' => k l b base L xs D cA p e s m args below meth c H locs ls' hC h0 hH hS (am_L_set1 hL hl'))

theorem r_astoreN (pc' : Nat) (hp : pc + 2 = pc') {i : Nat} (lv' : List (Option Value)) (hd : decode (am_c M) pc = .ok (.astore i, 2)) (hn : i < am_l M) (hl : am_set lv i .null = lv') (k : AW M Q pc' lv' (st) h n cu su) : AW M Q pc lv (.null :: st) h n cu su := by
  subst hp
  subst hl
  intro l b base L xs D cA p e s m args below meth c H locs ls hC h0 hH hS hL
  exact lv_astoreN hC.1 hC.2.1 hd (am_L_has hL) hn rfl (fun ls' hl' => k l b base L xs D cA p e s m args below meth c H locs ls' hC h0 hH hS (am_L_set1 hL hl'))

theorem r_iinc (pc' : Nat) (hp : pc + 3 = pc') {i : Nat} {z : Int} {x : Int32} (v : Int32) (lv' : List (Option Value)) (hd : decode (am_c M) pc = .ok (.iinc i z, 3)) (hv : lv[i]? = some (some (.int x))) (hx : x + Int32.ofInt z = v) (hn : i < am_l M) (hl : am_set lv i (.int v) = lv') (k : AW M Q pc' lv' st h n cu su) : AW M Q pc lv st h n cu su := by
  subst hp
  subst hl
  intro l b base L xs D cA p e s m args below meth c H locs ls hC h0 hH hS hL
  obtain ⟨j, hj⟩ := List.getElem?_of_mem (am_as_mem (b := b) (base := base) (q := (i, Value.int x)).mpr ⟨_, hv, rfl⟩)
  exact lv_iinc hC.1 hC.2.1 hd (am_L_has hL) hj hx hn rfl (fun ls' hl' => k l b base L xs D cA p e s m args below meth c H locs ls' hC h0 hH hS (am_L_set1 hL hl'))

theorem r_if_eq (pc' tgt : Nat) (hp : pc + 3 = pc') {x : Int32} {off : Int} (hd : decode (am_c M) pc = .ok (.ifCond .eq off, 3)) (ht : (pc : Int) + off = (tgt : Int)) (kt : (x = 0) → AW M Q tgt lv st h n cu su) (kf : ¬ (x = 0) → AW M Q pc' lv st h n cu su) : AW M Q pc lv (.int x :: st) h n cu su := by
  subst hp
  intro l b base L xs D cA p e s m args below meth c H locs ls hC h0 hH hS hL
  exact lv_if_eq hC.1 hC.2.1 hd ht (fun q => kt q l b base L xs D cA p e s m args below meth c H locs ls hC h0 hH hS hL) (fun q => kf q l b base L xs D cA p e s m args below meth c H locs ls hC h0 hH hS hL)

theorem r_icmp_eq (pc' tgt : Nat) (hp : pc + 3 = pc') {x y : Int32} {off : Int} (hd : decode (am_c M) pc = .ok (.if_icmp .eq off, 3)) (ht : (pc : Int) + off = (tgt : Int)) (kt : (x = y) → AW M Q tgt lv st h n cu su) (kf : ¬ (x = y) → AW M Q pc' lv st h n cu su) : AW M Q pc lv (.int y :: .int x :: st) h n cu su := by
  subst hp
  intro l b base L xs D cA p e s m args below meth c H locs ls hC h0 hH hS hL
  exact lv_icmp_eq hC.1 hC.2.1 hd ht (fun q => kt q l b base L xs D cA p e s m args below meth c H locs ls hC h0 hH hS hL) (fun q => kf q l b base L xs D cA p e s m args below meth c H locs ls hC h0 hH hS hL)

theorem r_if_ne (pc' tgt : Nat) (hp : pc + 3 = pc') {x : Int32} {off : Int} (hd : decode (am_c M) pc = .ok (.ifCond .ne off, 3)) (ht : (pc : Int) + off = (tgt : Int)) (kt : (¬ x = 0) → AW M Q tgt lv st h n cu su) (kf : x = 0 → AW M Q pc' lv st h n cu su) : AW M Q pc lv (.int x :: st) h n cu su := by
  subst hp
  intro l b base L xs D cA p e s m args below meth c H locs ls hC h0 hH hS hL
  exact lv_if_ne hC.1 hC.2.1 hd ht (fun q => kt q l b base L xs D cA p e s m args below meth c H locs ls hC h0 hH hS hL) (fun q => kf q l b base L xs D cA p e s m args below meth c H locs ls hC h0 hH hS hL)

theorem r_icmp_ne (pc' tgt : Nat) (hp : pc + 3 = pc') {x y : Int32} {off : Int} (hd : decode (am_c M) pc = .ok (.if_icmp .ne off, 3)) (ht : (pc : Int) + off = (tgt : Int)) (kt : (¬ x = y) → AW M Q tgt lv st h n cu su) (kf : x = y → AW M Q pc' lv st h n cu su) : AW M Q pc lv (.int y :: .int x :: st) h n cu su := by
  subst hp
  intro l b base L xs D cA p e s m args below meth c H locs ls hC h0 hH hS hL
  exact lv_icmp_ne hC.1 hC.2.1 hd ht (fun q => kt q l b base L xs D cA p e s m args below meth c H locs ls hC h0 hH hS hL) (fun q => kf q l b base L xs D cA p e s m args below meth c H locs ls hC h0 hH hS hL)

theorem r_if_lt (pc' tgt : Nat) (hp : pc + 3 = pc') {x : Int32} {off : Int} (hd : decode (am_c M) pc = .ok (.ifCond .lt off, 3)) (ht : (pc : Int) + off = (tgt : Int)) (kt : (x < 0) → AW M Q tgt lv st h n cu su) (kf : ¬ (x < 0) → AW M Q pc' lv st h n cu su) : AW M Q pc lv (.int x :: st) h n cu su := by
  subst hp
  intro l b base L xs D cA p e s m args below meth c H locs ls hC h0 hH hS hL
  exact lv_if_lt hC.1 hC.2.1 hd ht (fun q => kt q l b base L xs D cA p e s m args below meth c H locs ls hC h0 hH hS hL) (fun q => kf q l b base L xs D cA p e s m args below meth c H locs ls hC h0 hH hS hL)

theorem r_icmp_lt (pc' tgt : Nat) (hp : pc + 3 = pc') {x y : Int32} {off : Int} (hd : decode (am_c M) pc = .ok (.if_icmp .lt off, 3)) (ht : (pc : Int) + off = (tgt : Int)) (kt : (x < y) → AW M Q tgt lv st h n cu su) (kf : ¬ (x < y) → AW M Q pc' lv st h n cu su) : AW M Q pc lv (.int y :: .int x :: st) h n cu su := by
  subst hp
  intro l b base L xs D cA p e s m args below meth c H locs ls hC h0 hH hS hL
  exact lv_icmp_lt hC.1 hC.2.1 hd ht (fun q => kt q l b base L xs D cA p e s m args below meth c H locs ls hC h0 hH hS hL) (fun q => kf q l b base L xs D cA p e s m args below meth c H locs ls hC h0 hH hS hL)

theorem r_if_ge (pc' tgt : Nat) (hp : pc + 3 = pc') {x : Int32} {off : Int} (hd : decode (am_c M) pc = .ok (.ifCond .ge off, 3)) (ht : (pc : Int) + off = (tgt : Int)) (kt : (0 ≤ x) → AW M Q tgt lv st h n cu su) (kf : ¬ (0 ≤ x) → AW M Q pc' lv st h n cu su) : AW M Q pc lv (.int x :: st) h n cu su := by
  subst hp
  intro l b base L xs D cA p e s m args below meth c H locs ls hC h0 hH hS hL
  exact lv_if_ge hC.1 hC.2.1 hd ht (fun q => kt q l b base L xs D cA p e s m args below meth c H locs ls hC h0 hH hS hL) (fun q => kf q l b base L xs D cA p e s m args below meth c H locs ls hC h0 hH hS hL)

theorem r_icmp_ge (pc' tgt : Nat) (hp : pc + 3 = pc') {x y : Int32} {off : Int} (hd : decode (am_c M) pc = .ok (.if_icmp .ge off, 3)) (ht : (pc : Int) + off = (tgt : Int)) (kt : (y ≤ x) → AW M Q tgt lv st h n cu su) (kf : ¬ (y ≤ x) → AW M Q pc' lv st h n cu su) : AW M Q pc lv (.int y :: .int x :: st) h n cu su := by
  subst hp
  intro l b base L xs D cA p e s m args below meth c H locs ls hC h0 hH hS hL
  exact lv_icmp_ge hC.1 hC.2.1 hd ht (fun q => kt q l b base L xs D cA p e s m args below meth c H locs ls hC h0 hH hS hL) (fun q => kf q l b base L xs D cA p e s m args below meth c H locs ls hC h0 hH hS hL)

theorem r_if_gt (pc' tgt : Nat) (hp : pc + 3 = pc') {x : Int32} {off : Int} (hd : decode (am_c M) pc = .ok (.ifCond .gt off, 3)) (ht : (pc : Int) + off = (tgt : Int)) (kt : (0 < x) → AW M Q tgt lv st h n cu su) (kf : ¬ (0 < x) → AW M Q pc' lv st h n cu su) : AW M Q pc lv (.int x :: st) h n cu su := by
  subst hp
  intro l b base L xs D cA p e s m args below meth c H locs ls hC h0 hH hS hL
  exact lv_if_gt hC.1 hC.2.1 hd ht (fun q => kt q l b base L xs D cA p e s m args below meth c H locs ls hC h0 hH hS hL) (fun q => kf q l b base L xs D cA p e s m args below meth c H locs ls hC h0 hH hS hL)

theorem r_icmp_gt (pc' tgt : Nat) (hp : pc + 3 = pc') {x y : Int32} {off : Int} (hd : decode (am_c M) pc = .ok (.if_icmp .gt off, 3)) (ht : (pc : Int) + off = (tgt : Int)) (kt : (y < x) → AW M Q tgt lv st h n cu su) (kf : ¬ (y < x) → AW M Q pc' lv st h n cu su) : AW M Q pc lv (.int y :: .int x :: st) h n cu su := by
  subst hp
  intro l b base L xs D cA p e s m args below meth c H locs ls hC h0 hH hS hL
  exact lv_icmp_gt hC.1 hC.2.1 hd ht (fun q => kt q l b base L xs D cA p e s m args below meth c H locs ls hC h0 hH hS hL) (fun q => kf q l b base L xs D cA p e s m args below meth c H locs ls hC h0 hH hS hL)

theorem r_if_le (pc' tgt : Nat) (hp : pc + 3 = pc') {x : Int32} {off : Int} (hd : decode (am_c M) pc = .ok (.ifCond .le off, 3)) (ht : (pc : Int) + off = (tgt : Int)) (kt : (x ≤ 0) → AW M Q tgt lv st h n cu su) (kf : ¬ (x ≤ 0) → AW M Q pc' lv st h n cu su) : AW M Q pc lv (.int x :: st) h n cu su := by
  subst hp
  intro l b base L xs D cA p e s m args below meth c H locs ls hC h0 hH hS hL
  exact lv_if_le hC.1 hC.2.1 hd ht (fun q => kt q l b base L xs D cA p e s m args below meth c H locs ls hC h0 hH hS hL) (fun q => kf q l b base L xs D cA p e s m args below meth c H locs ls hC h0 hH hS hL)

theorem r_icmp_le (pc' tgt : Nat) (hp : pc + 3 = pc') {x y : Int32} {off : Int} (hd : decode (am_c M) pc = .ok (.if_icmp .le off, 3)) (ht : (pc : Int) + off = (tgt : Int)) (kt : (x ≤ y) → AW M Q tgt lv st h n cu su) (kf : ¬ (x ≤ y) → AW M Q pc' lv st h n cu su) : AW M Q pc lv (.int y :: .int x :: st) h n cu su := by
  subst hp
  intro l b base L xs D cA p e s m args below meth c H locs ls hC h0 hH hS hL
  exact lv_icmp_le hC.1 hC.2.1 hd ht (fun q => kt q l b base L xs D cA p e s m args below meth c H locs ls hC h0 hH hS hL) (fun q => kf q l b base L xs D cA p e s m args below meth c H locs ls hC h0 hH hS hL)

theorem r_goto (tgt : Nat) {off : Int} (hd : decode (am_c M) pc = .ok (.goto off, 3)) (ht : (pc : Int) + off = (tgt : Int)) (k : AW M Q tgt lv st h n cu su) : AW M Q pc lv st h n cu su := by
  intro l b base L xs D cA p e s m args below meth c H locs ls hC h0 hH hS hL
  exact lv_goto hC.1 hC.2.1 hd ht (k l b base L xs D cA p e s m args below meth c H locs ls hC h0 hH hS hL)

theorem r_ifnonnull (tgt : Nat) {off : Int} {a : Nat} (hd : decode (am_c M) pc = .ok (.ifnonnull off, 3)) (ht : (pc : Int) + off = (tgt : Int)) (k : AW M Q tgt lv st h n cu su) : AW M Q pc lv (.ref a :: st) h n cu su := by
  intro l b base L xs D cA p e s m args below meth c H locs ls hC h0 hH hS hL
  exact lv_ifnonnull hC.1 hC.2.1 hd ht (k l b base L xs D cA p e s m args below meth c H locs ls hC h0 hH hS hL)
theorem r_ifnonnullN (pc' : Nat) (hp : pc + 3 = pc') {off : Int} (hd : decode (am_c M) pc = .ok (.ifnonnull off, 3)) (k : AW M Q pc' lv st h n cu su) : AW M Q pc lv (.null :: st) h n cu su := by
  subst hp
  intro l b base L xs D cA p e s m args below meth c H locs ls hC h0 hH hS hL
  exact lv_ifnonnullN hC.1 hC.2.1 hd (k l b base L xs D cA p e s m args below meth c H locs ls hC h0 hH hS hL)
theorem r_ifnullN (tgt : Nat) {off : Int} (hd : decode (am_c M) pc = .ok (.ifnull off, 3)) (ht : (pc : Int) + off = (tgt : Int)) (k : AW M Q tgt lv st h n cu su) : AW M Q pc lv (.null :: st) h n cu su := by
  intro l b base L xs D cA p e s m args below meth c H locs ls hC h0 hH hS hL
  exact lv_ifnullN hC.1 hC.2.1 hd ht (k l b base L xs D cA p e s m args below meth c H locs ls hC h0 hH hS hL)
theorem r_ifnull (pc' : Nat) (hp : pc + 3 = pc') {off : Int} {a : Nat} (hd : decode (am_c M) pc = .ok (.ifnull off, 3)) (k : AW M Q pc' lv st h n cu su) : AW M Q pc lv (.ref a :: st) h n cu su := by
  subst hp
  intro l b base L xs D cA p e s m args below meth c H locs ls hC h0 hH hS hL
  exact lv_ifnull hC.1 hC.2.1 hd (k l b base L xs D cA p e s m args below meth c H locs ls hC h0 hH hS hL)
theorem r_tabOut (tgt : Nat) {dflt lo hi : Int} {offs : Array Int} {len : Nat} {x : Int32} (hd : decode (am_c M) pc = .ok (.tableswitch dflt lo hi offs, len)) (hx : x.toInt < lo ∨ hi < x.toInt) (ht : (pc : Int) + dflt = (tgt : Int)) (k : AW M Q tgt lv st h n cu su) : AW M Q pc lv (.int x :: st) h n cu su := by
  intro l b base L xs D cA p e s m args below meth c H locs ls hC h0 hH hS hL
  exact lv_tableOut hC.1 hC.2.1 hd hx ht (k l b base L xs D cA p e s m args below meth c H locs ls hC h0 hH hS hL)
theorem r_tabIn (tgt : Nat) {dflt lo hi off : Int} {offs : Array Int} {len : Nat} {x : Int32} (hd : decode (am_c M) pc = .ok (.tableswitch dflt lo hi offs, len)) (h1 : ¬ x.toInt < lo) (h2 : ¬ hi < x.toInt) (ho : offs[(x.toInt - lo).toNat]? = some off) (ht : (pc : Int) + off = (tgt : Int)) (k : AW M Q tgt lv st h n cu su) : AW M Q pc lv (.int x :: st) h n cu su := by
  intro l b base L xs D cA p e s m args below meth c H locs ls hC h0 hH hS hL
  exact lv_tableIn hC.1 hC.2.1 hd h1 h2 ho ht (k l b base L xs D cA p e s m args below meth c H locs ls hC h0 hH hS hL)

theorem r_ireturn {x : Int32} (hr : am_r M = some .int) (hd : decode (am_c M) pc = .ok (.ireturn, 1)) (hcu : cu ≤ am_mc M) (hsu : su ≤ am_ms M) (hq : Q (some (.int x)) h n) : AW M Q pc lv [.int x] h n cu su := by
  intro l b base L xs D cA p e s m args below meth c H locs ls hC h0 hH hS hL
  refine W.widen hcu hsu ?_
  exact W.iret hC.1 hC.2.1 (hC.2.2.1.trans hr) (fun t ht hW => ⟨⟨some (.int x), h, n, rfl, hq, h0, by rw [ht]; exact hH⟩, hS.F ht⟩) hS.2.2 hd hC.2.2.2.1

theorem r_zreturn {x : Int32} (hr : am_r M = some .boolean) (hn : narrow .boolean (.int x) = .int x) (hd : decode (am_c M) pc = .ok (.ireturn, 1)) (hcu : cu ≤ am_mc M) (hsu : su ≤ am_ms M) (hq : Q (some (.int x)) h n) : AW M Q pc lv [.int x] h n cu su := by
  intro l b base L xs D cA p e s m args below meth c H locs ls hC h0 hH hS hL
  refine W.widen hcu hsu ?_
  exact W.zret hC.1 hC.2.1 (hC.2.2.1.trans hr) hn (fun t ht hW => ⟨⟨some (.int x), h, n, rfl, hq, h0, by rw [ht]; exact hH⟩, hS.F ht⟩) hS.2.2 hd hC.2.2.2.1

theorem r_lreturn {x : Int64} (hr : am_r M = some .long) (hd : decode (am_c M) pc = .ok (.lreturn, 1)) (hcu : cu ≤ am_mc M) (hsu : su ≤ am_ms M) (hq : Q (some (.long x)) h n) : AW M Q pc lv [.long x] h n cu su := by
  intro l b base L xs D cA p e s m args below meth c H locs ls hC h0 hH hS hL
  refine W.widen hcu hsu ?_
  exact W.lret hC.1 hC.2.1 (hC.2.2.1.trans hr) (fun t ht hW => ⟨⟨some (.long x), h, n, rfl, hq, h0, by rw [ht]; exact hH⟩, hS.F ht⟩) hS.2.2 hd hC.2.2.2.1

theorem r_areturn {a : Nat} {C : String} (hr : am_r M = some (.object C)) (hd : decode (am_c M) pc = .ok (.areturn, 1)) (hcu : cu ≤ am_mc M) (hsu : su ≤ am_ms M) (hq : Q (some (.ref a)) h n) : AW M Q pc lv [.ref a] h n cu su := by
  intro l b base L xs D cA p e s m args below meth c H locs ls hC h0 hH hS hL
  refine W.widen hcu hsu ?_
  exact W.aret hC.1 hC.2.1 (hC.2.2.1.trans hr) (Or.inl ⟨_, rfl⟩) (Or.inr ⟨_, rfl⟩) (fun t ht hW => ⟨⟨some (.ref a), h, n, rfl, hq, h0, by rw [ht]; exact hH⟩, hS.F ht⟩) hS.2.2 hd hC.2.2.2.1

theorem r_areturnN {C : String} (hr : am_r M = some (.object C)) (hd : decode (am_c M) pc = .ok (.areturn, 1)) (hcu : cu ≤ am_mc M) (hsu : su ≤ am_ms M) (hq : Q (some .null) h n) : AW M Q pc lv [.null] h n cu su := by
  intro l b base L xs D cA p e s m args below meth c H locs ls hC h0 hH hS hL
  refine W.widen hcu hsu ?_
  exact W.aret hC.1 hC.2.1 (hC.2.2.1.trans hr) (Or.inl ⟨_, rfl⟩) (Or.inl rfl) (fun t ht hW => ⟨⟨some .null, h, n, rfl, hq, h0, by rw [ht]; exact hH⟩, hS.F ht⟩) hS.2.2 hd hC.2.2.2.1

theorem r_return (hr : am_r M = none) (hd : decode (am_c M) pc = .ok (.return_, 1)) (hcu : cu ≤ am_mc M) (hsu : su ≤ am_ms M) (hq : Q (none) h n) : AW M Q pc lv [] h n cu su := by
  intro l b base L xs D cA p e s m args below meth c H locs ls hC h0 hH hS hL
  refine W.widen hcu hsu ?_
  exact W.vret hC.1 hC.2.1 (hC.2.2.1.trans hr) (fun t ht hW => ⟨⟨none, h, n, rfl, hq, h0, by rw [ht]; exact hH⟩, hS.F ht⟩) hS.2.2 hd hC.2.2.2.1

/-- a weaker end -/
theorem AW.mono {Q' : am_P} (hq : ∀ r h n, Q r h n → Q' r h n) (k : AW M Q pc lv st h n cu su) : AW M Q' pc lv st h n cu su := by
  intro l b base L xs D cA p e s m args below meth c H locs ls hC h0 hH hS hL T hT X
  obtain ⟨t, h1, o, h2, h3, ⟨⟨r, h', n', g1, g2, g3⟩, g4⟩, g5⟩ := k l b base L xs D cA p e s m args below meth c H locs ls hC h0 hH hS hL T hT X
  exact ⟨t, h1, o, h2, h3, ⟨⟨r, h', n', g1, hq _ _ _ g2, g3⟩, g4⟩, g5⟩
/-- more made than was -/
theorem AW.widen {cu' su' : Nat} (h1 : cu ≤ cu') (h2 : su ≤ su') (k : AW M Q pc lv st h n cu' su') : AW M Q pc lv st h n cu su := by
  intro l b base L xs D cA p e s m args below meth c H locs ls hC h0 hH hS hL
  exact W.widen h1 h2 (k l b base L xs D cA p e s m args below meth c H locs ls hC h0 hH hS hL)
/-- fewer locals are known -/
theorem AW.sub {lv' : List (Option Value)} (hl : ∀ (i : Nat) (v : Value), lv'[i]? = some (some v) → lv[i]? = some (some v)) (k : AW M Q pc lv' st h n cu su) : AW M Q pc lv st h n cu su := by
  intro l b base L xs D cA p e s m args below meth c H locs ls hC h0 hH hS hL
  exact k l b base L xs D cA p e s m args below meth c H locs ls hC h0 hH hS ⟨hL.1, hL.2.1, fun i v hi => hL.2.2 i v (hl i v hi)⟩
end AMR
end
section
/-! rules that read and write the heap -/
theorem am_up0 {h : Nat → am_E} {k : Nat} {e : am_E} : va_up h (k + 1) e 0 = h 0 := va_up_ne h e (by omega)
theorem am_obj {b base L n a ci : Nat} {xs : Nat → Int32} {D : va_G} {cA : Nat → ClassId} {h : Nat → am_E} {H : Heap} {fs : List Value} {r : vw_C} (h0 : h 0 = .inl (0, L, xs)) (hH : am_Hp b base D cA h n H) (he : h a = .inr (.inr (ci, fs))) (hc : vwCl[ci]? = some r) :
    ∃ k, a = k + 1 ∧ k < n ∧ va_at D vwCl (base + k, .inr (ci, fs.map (am_v b base))) H := by
  cases a with
  | zero => rw [h0] at he; cases he
  | succ k =>
    by_cases hk : k < n
    · have := hH.2.1 k hk
      rw [he] at this
      exact ⟨k, rfl, hk, this⟩
    · rw [hH.2.2 k (by omega)] at he
      cases he
      cases hc
theorem am_arr {b base n a t N : Nat} {D : va_G} {cA : Nat → ClassId} {h : Nat → am_E} {H : Heap} {f : Nat → Int32} (hH : am_Hp b base D cA h n H) (ha : 0 < a) (he : h a = .inl (t, N, f)) :
    ∃ k, a = k + 1 ∧ k < n ∧ H[base + k]? = some (vp_cell (cA t) (N, .inl f)) := by
  cases a with
  | zero => omega
  | succ k =>
    by_cases hk : k < n
    · have := hH.2.1 k hk
      rw [he] at this
      exact ⟨k, rfl, hk, this⟩
    · rw [hH.2.2 k (by omega)] at he
      cases he
theorem am_rar {b base L n a N : Nat} {xs : Nat → Int32} {D : va_G} {cA : Nat → ClassId} {h : Nat → am_E} {H : Heap} {f : Nat → Option Nat} (h0 : h 0 = .inl (0, L, xs)) (hH : am_Hp b base D cA h n H) (he : h a = .inr (.inl (N, f))) :
    ∃ k, a = k + 1 ∧ k < n ∧ H[base + k]? = some (vp_cell (cA 2) (N, .inr (.inr (.inr (.inr (fun i => (f i).map (am_ad b base))))))) := by
  cases a with
  | zero => rw [h0] at he; cases he
  | succ k =>
    by_cases hk : k < n
    · have := hH.2.1 k hk
      rw [he] at this
      exact ⟨k, rfl, hk, this⟩
    · rw [hH.2.2 k (by omega)] at he
      cases he
theorem am_Hp_set {b base n k : Nat} {D : va_G} {cA : Nat → ClassId} {h : Nat → am_E} {H H1 : Heap} {e : am_E} (hH : am_Hp b base D cA h n H) (hk : k < n) (he : va_at D vwCl (base + k, am_e b base cA e) H1) (z : H1.size = H.size) (oq : ∀ q : Nat, q ≠ base + k → H1[q]? = H[q]?) : am_Hp b base D cA (va_up h (k + 1) e) n H1 := by
  refine ⟨z.trans hH.1, fun j hj => ?_, fun j hj => ?_⟩
  · by_cases hjk : j = k
    · subst hjk
      rw [va_up_self]
      exact he
    · rw [va_up_ne h e (by omega)]
      exact (hH.2.1 j hj).kept (oq _ (by show base + j ≠ base + k; omega))
  · rw [va_up_ne h e (by omega)]
    exact hH.2.2 j hj
theorem am_Hp_push {b base n : Nat} {D : va_G} {cA : Nat → ClassId} {h : Nat → am_E} {H H1 : Heap} {e : am_E} (hH : am_Hp b base D cA h n H) (he : va_at D vwCl (base + n, am_e b base cA e) H1) (z : H1.size = H.size + 1) (oq : ∀ q : Nat, q < H.size → H1[q]? = H[q]?) : am_Hp b base D cA (va_up h (n + 1) e) (n + 1) H1 := by
  have hz := hH.1
  refine ⟨by omega, fun j hj => ?_, fun j hj => ?_⟩
  · by_cases hjk : j = n
    · subst hjk
      rw [va_up_self]
      exact he
    · rw [va_up_ne h e (by omega)]
      exact (hH.2.1 j (by omega)).kept (oq _ (by show base + j < H.size; omega))
  · rw [va_up_ne h e (by omega)]
    exact hH.2.2 j (by omega)
theorem am_S_push {base : Nat} {H0 H H1 : Heap} {locs : List Loc} (hS : va_S (fun q => base ≤ q) H0 H locs) (z : H1.size = H.size + 1) (oq : ∀ q : Nat, q < H.size → H1[q]? = H[q]?) : va_S (fun q => base ≤ q) H0 H1 locs :=
  ⟨by have := hS.1; omega, fun q h1 h2 => (oq q (Nat.lt_of_lt_of_le h1 hS.1)).trans (hS.2.1 q h1 h2), hS.2.2⟩
def am_gf (M : am_M) (idx ci k : Nat) : Prop := ∃ (C : String) (T : u_T) (N : Nat) (ref : String), vwCl[ci]? = some (C, T, N) ∧ k < N ∧ (∀ w ∈ u_ws C T N, w ∈ am_T) ∧ Cond.fieldLink (am_y M).cls idx ref (T k).2.1 (T k).2.2.1 ∈ am_T ∧ (ref = (T k).1 ∨ Cond.sameField ref (T k).1 (T k).2.1 (T k).2.2.1 ∈ am_T)
def am_pf (M : am_M) (idx ci k : Nat) (ty : FieldType) : Prop := ∃ (C : String) (T : u_T) (N : Nat) (ty0 : Nat → FieldType), vwCl[ci]? = some (C, T, N) ∧ k < N ∧ (∀ w ∈ u_ws C T N, w ∈ am_T) ∧ (∀ k, k < N → parseFieldDescriptor (T k).2.2.1 = some (ty0 k)) ∧ (∀ a, a < N → ∀ b, b < N → a ≠ b → (T a).2.1 ≠ (T b).2.1) ∧ Cond.fieldLink (am_y M).cls idx (T k).1 (T k).2.1 (T k).2.2.1 ∈ am_T ∧ parseFieldDescriptor (T k).2.2.1 = some ty ∧ ((T k).2.2.2 = false ∨ ((T k).2.2.2 = true ∧ (am_y M).name = "<init>" ∧ (T k).1 = (am_y M).cls))
section AMH
variable {M : am_M} {Q : am_P} {pc : Nat} {lv : List (Option Value)} {st : List Value} {h : Nat → am_E} {n cu su : Nat}
theorem r_getf (pc' : Nat) (hp : pc + 3 = pc') {idx ci k a : Nat} {fs : List Value} {v : Value} (hd : decode (am_c M) pc = .ok (.getfield idx, 3)) (hg : am_gf M idx ci k) (he : h a = .inr (.inr (ci, fs))) (hv : fs[k]? = some v) (kk : AW M Q pc' lv (v :: st) h n cu su) : AW M Q pc lv (.ref a :: st) h n cu su := by
  subst hp
  intro l b base L xs D cA p e s m args below meth c H locs ls hC h0 hH hS hL
  obtain ⟨C, T, N, ref, hc, hk, hin, hl, hs⟩ := hg
  obtain ⟨k0, rfl, hk0, hat⟩ := am_obj h0 hH he hc
  have hP : va_P D vwCl [(base + k0, .inr (ci, fs.map (am_v b base)))] H := fun j q hj => by
    have hz : j < 1 := (List.getElem?_eq_some_iff.mp hj).1
    rw [show j = 0 by omega] at hj
    cases hj
    exact hat
  have hts := hC.2.2.2.2.2.2.2.1
  refine va_get hC.1 hC.2.1 hts hin hC.2.2.2.2.2.1 hC.2.2.2.2.2.2.2.2.1.1 hP 0 rfl hc k hk (hts _ hl) ?_ (v := am_v b base v) (by rw [List.getElem?_map, hv]; rfl) hd (kk l b base L xs D cA p e s m args below meth c H locs ls hC h0 hH hS hL)
  intro x hx
  rcases hs with rfl | hs
  · exact hx
  · exact u_same (hts _ hs) x hx
theorem r_putf (pc' : Nat) (hp : pc + 3 = pc') {idx ci k a : Nat} {ty : FieldType} {fs : List Value} {v : Value} (fs' : List Value) (hd : decode (am_c M) pc = .ok (.putfield idx, 3)) (hg : am_pf M idx ci k ty) (he : h a = .inr (.inr (ci, fs))) (hl : k < fs.length) (hf : fs.set k v = fs') (hv : ∀ b base, narrow ty (am_v b base v) = am_v b base v ∧ fits ty (am_v b base v) = true)
    (kk : AW M Q pc' lv st (va_up h a (.inr (.inr (ci, fs')))) n cu su) : AW M Q pc lv (v :: .ref a :: st) h n cu su := by
  subst hp
  subst hf
  intro l b base L xs D cA p e s m args below meth c H locs ls hC h0 hH hS hL
  obtain ⟨C, T, N, ty0, hc, hk, hin, hty, hnm, hlk, hpd, hfin⟩ := hg
  obtain ⟨k0, rfl, hk0, hat⟩ := am_obj h0 hH he hc
  have hts := hC.2.2.2.2.2.2.2.1
  have hK := hC.2.2.2.2.2.2.2.2.1.1
  have hown := hC.2.2.2.2.2.1
  have hap := va_apart (own := (am_y M).cls) hts hin ty0 hty hnm hK hc
  obtain ⟨r, h1, cell, q1, q2, q3, q4⟩ := hat
  have hr : r = (C, T, N) := Option.some.inj (h1.symm.trans hc)
  subst hr
  obtain ⟨hSl, hfc, kC, hkC, hkind⟩ := hK.1 ci _ hc
  obtain ⟨cf, kf, fi, f, hi, hsl⟩ := hSl k hk
  have hlay := hts _ (hin _ (u_in_lay hk))
  unfold u_lay at hlay
  have hst := (u_facts hfc hkC (u_lays hts hin hk) hi).1
  have fin : ∀ (H1 : Heap), H1[base + k0]? = some (cell.setSlot f.slot (am_v b base v)) → H1.size = H.size → (∀ q, q ≠ base + k0 → H1[q]? = H[q]?) → W p l e (am_rm M) s m args below meth c H1 (locs ++ [⟨base + k0, f.slot⟩]) cu su (MQ below (am_Q b base L xs D cA Q) args s (am_mc M) (am_ms M) (fun q => base ≤ q)) (F0 m (pc + 3) ls (st.map (am_v b base))) := by
    intro H1 e1 e2 e3
    refine kk l b base L xs D cA p e s m args below meth c H1 _ ls hC ?_ ?_ ?_ hL
    · rw [am_up0]; exact h0
    · refine am_Hp_set hH hk0 ?_ e2 e3
      refine ⟨_, hc, t_OB.to (V := updV (vp_V (fs.map (am_v b base))) k (am_v b base v)) ⟨_, e1, q2, q3, ?_⟩ (fun j _ => ?_)⟩
      · rw [hsl]
        exact t_set q4 hap hk _
      · have := vp_updV_set (fs := fs.map (am_v b base)) (by simpa using hl) (am_v b base v) j
        rw [this, List.map_set]
    · exact hS.put e2 e3 (Nat.le_add_right base k0)
  rcases hfin with hfin | ⟨hfin, hin2, hdecl⟩
  · rw [if_neg (by rw [hfin]; decide)] at hlay
    have h6 := u_store hfc hkC hkind hlay hi hpd (hv b base).1 (hv b base).2
    exact W.putK hC.1 hC.2.1 (f := f) ⟨hown, hts _ hlk, ⟨_, _, _, hi⟩, hst⟩ (by rw [q2]; exact h6) q1 q3 (by rw [hsl]; exact k2_hasslot (q4 k hk)) rfl rfl hd fin
  · rw [if_pos hfin] at hlay
    have hcf : m.cls = cf := by
      obtain ⟨_, _, c', _, _, _, -, -, hf', -, -, -, hown2, -⟩ := Cond.laysFinal_spec hlay
      have e1 : c' = cf := by have := hi.symm.trans hf'; simp at this; exact this.1.symm
      rw [hdecl] at hown2
      rw [← e1]; exact Option.some.inj (hown.symm.trans hown2)
    have h6 := u_fits hfc hkC hkind (Or.inr hlay) hi hpd (hv b base).1 (hv b base).2
    exact W.putFinK hC.1 hC.2.1 hown (hts _ hlk) hi hst hcf (hC.2.2.2.2.2.2.1.trans hin2) (by rw [q2]; exact h6) q1 q3 (by rw [hsl]; exact k2_hasslot (q4 k hk)) rfl rfl hd fin
theorem am_ix {i : Int32} {j N : Nat} (hi : i = nI j) (hj : j < N) (hN : N < 2 ^ 31) : vp_in i N ∧ i.toNatClampNeg = j := by
  subst hi
  exact ⟨vp_in_nI hj hN, nI_clamp (by omega)⟩
theorem r_iald (pc' : Nat) (hp : pc + 1 = pc') {a N : Nat} {f : Nat → Int32} {i : Int32} (j : Nat) (hd : decode (am_c M) pc = .ok (.iaload, 1)) (he : h a = .inl (0, N, f)) (hi : i = nI j) (hj : j < N) (hN : N < 2 ^ 31) (kk : AW M Q pc' lv (.int (f j) :: st) h n cu su) : AW M Q pc lv (.int i :: .ref a :: st) h n cu su := by
  subst hp
  intro l b base L xs D cA p e s m args below meth c H locs ls hC h0 hH hS hL
  obtain ⟨hin, hcl⟩ := am_ix hi hj hN
  have K := kk l b base L xs D cA p e s m args below meth c H locs ls hC h0 hH hS hL
  cases a with
  | zero =>
    rw [h0] at he
    cases he
    rw [← hcl] at K
    exact va_sld hC.1 hC.2.1 hC.2.2.2.2.2.2.2.2.2.1 (Nat.lt_of_lt_of_le hC.2.2.2.2.2.2.2.2.2.2.1 hC.2.2.2.2.2.2.2.2.2.2.2) (Nat.not_le.mpr hC.2.2.2.2.2.2.2.2.2.2.1) hS hin hd K
  | succ k0 =>
    obtain ⟨k, hk1, hk, hat⟩ := am_arr hH (Nat.succ_pos k0) he
    cases hk1
    have hP : va_P D vwCl [(base + k0, .inl (cA 0, N, .inl f))] H := fun j q hj => by
      have hz : j < 1 := (List.getElem?_eq_some_iff.mp hj).1
      rw [show j = 0 by omega] at hj
      cases hj
      exact hat
    rw [← hcl] at K
    exact va_iald hC.1 hC.2.1 hC.2.2.2.2.2.2.2.2.1.1 hP 0 0 rfl rfl hin hd K
theorem r_zald (pc' : Nat) (hp : pc + 1 = pc') {a N : Nat} {f : Nat → Int32} {i : Int32} (j : Nat) (hd : decode (am_c M) pc = .ok (.baload, 1)) (ha : 0 < a) (he : h a = .inl (1, N, f)) (hi : i = nI j) (hj : j < N) (hN : N < 2 ^ 31) (kk : AW M Q pc' lv (.int (f j) :: st) h n cu su) : AW M Q pc lv (.int i :: .ref a :: st) h n cu su := by
  subst hp
  intro l b base L xs D cA p e s m args below meth c H locs ls hC h0 hH hS hL
  obtain ⟨hin, hcl⟩ := am_ix hi hj hN
  have K := kk l b base L xs D cA p e s m args below meth c H locs ls hC h0 hH hS hL
  obtain ⟨k, rfl, hk, hat⟩ := am_arr hH ha he
  have hP : va_P D vwCl [(base + k, .inl (cA 1, N, .inl f))] H := fun j q hj => by
    have hz : j < 1 := (List.getElem?_eq_some_iff.mp hj).1
    rw [show j = 0 by omega] at hj
    cases hj
    exact hat
  rw [← hcl] at K
  exact va_zald hC.1 hC.2.1 hC.2.2.2.2.2.2.2.2.1.1 hP 0 1 rfl rfl hin hd K
theorem r_iast (pc' : Nat) (hp : pc + 1 = pc') {a N : Nat} {f : Nat → Int32} {i x : Int32} (j : Nat) (hd : decode (am_c M) pc = .ok (.iastore, 1)) (ha : 0 < a) (he : h a = .inl (0, N, f)) (hi : i = nI j) (hj : j < N) (hN : N < 2 ^ 31) (kk : AW M Q pc' lv st (va_up h a (.inl (0, N, upd f j x))) n cu su) : AW M Q pc lv (.int x :: .int i :: .ref a :: st) h n cu su := by
  subst hp
  intro l b base L xs D cA p e s m args below meth c H locs ls hC h0 hH hS hL
  obtain ⟨hin, hcl⟩ := am_ix hi hj hN
  obtain ⟨k, rfl, hk, hat⟩ := am_arr hH ha he
  refine W.iast hC.1 hC.2.1 hat ((hC.2.2.2.2.2.2.2.2.1.1.2 0 _ rfl).1 N (fun j => .int (f j))) (fun q => by cases q) (by show ¬ (i < 0 ∨ (arrV _ _ _).slots.size ≤ _); rw [arrV_size]; exact hin) rfl rfl hd fun H1 e1 z oq => ?_
  refine kk l b base L xs D cA p e s m args below meth c H1 _ ls hC (by rw [am_up0]; exact h0) (am_Hp_set hH hk ?_ z oq) (hS.put z oq (Nat.le_add_right base k)) hL
  show H1[base + k]? = some (vp_cell _ _)
  rw [e1]
  rw [vp_cell_i, vp_cell_i, arrV_store]
  congr 2
  funext q
  rw [hcl]
  by_cases hq : q = j
  · subst hq
    simp [updV, upd]
  · simp [updV, upd, hq]
theorem r_zast (pc' : Nat) (hp : pc + 1 = pc') {a N : Nat} {f : Nat → Int32} {i x : Int32} (j : Nat) (hd : decode (am_c M) pc = .ok (.bastore, 1)) (ha : 0 < a) (he : h a = .inl (1, N, f)) (hi : i = nI j) (hj : j < N) (hN : N < 2 ^ 31) (hx : narrow .boolean (.int x) = .int x) (kk : AW M Q pc' lv st (va_up h a (.inl (1, N, upd f j x))) n cu su) : AW M Q pc lv (.int x :: .int i :: .ref a :: st) h n cu su := by
  subst hp
  intro l b base L xs D cA p e s m args below meth c H locs ls hC h0 hH hS hL
  obtain ⟨hin, hcl⟩ := am_ix hi hj hN
  obtain ⟨k, rfl, hk, hat⟩ := am_arr hH ha he
  refine W.zast hC.1 hC.2.1 hat ((hC.2.2.2.2.2.2.2.2.1.1.2 1 _ rfl).1 N (fun j => .int (f j))) (fun q => by cases q) (by show ¬ (i < 0 ∨ (arrV _ _ _).slots.size ≤ _); rw [arrV_size]; exact hin) rfl rfl hd fun H1 e1 z oq => ?_
  refine kk l b base L xs D cA p e s m args below meth c H1 _ ls hC (by rw [am_up0]; exact h0) (am_Hp_set hH hk ?_ z oq) (hS.put z oq (Nat.le_add_right base k)) hL
  show H1[base + k]? = some (vp_cell _ _)
  rw [e1, hx]
  rw [vp_cell_i, vp_cell_i, arrV_store]
  congr 2
  funext q
  rw [hcl]
  by_cases hq : q = j
  · subst hq
    simp [updV, upd]
  · simp [updV, upd, hq]
theorem r_alen (pc' : Nat) (hp : pc + 1 = pc') {a N : Nat} {f : Nat → Int32} (hd : decode (am_c M) pc = .ok (.arraylength, 1)) (he : h a = .inl (0, N, f)) (kk : AW M Q pc' lv (.int (nI N) :: st) h n cu su) : AW M Q pc lv (.ref a :: st) h n cu su := by
  subst hp
  intro l b base L xs D cA p e s m args below meth c H locs ls hC h0 hH hS hL
  have K := kk l b base L xs D cA p e s m args below meth c H locs ls hC h0 hH hS hL
  cases a with
  | zero =>
    rw [h0] at he
    cases he
    exact va_slen hC.1 hC.2.1 hC.2.2.2.2.2.2.2.2.2.1 (Nat.lt_of_lt_of_le hC.2.2.2.2.2.2.2.2.2.2.1 hC.2.2.2.2.2.2.2.2.2.2.2) (Nat.not_le.mpr hC.2.2.2.2.2.2.2.2.2.2.1) hS hd K
  | succ k0 =>
    obtain ⟨k, hk1, hk, hat⟩ := am_arr hH (Nat.succ_pos k0) he
    cases hk1
    have hP : va_P D vwCl [(base + k0, .inl (cA 0, N, .inl f))] H := fun j q hj => by
      have hz : j < 1 := (List.getElem?_eq_some_iff.mp hj).1
      rw [show j = 0 by omega] at hj
      cases hj
      exact hat
    exact va_alen hC.1 hC.2.1 hC.2.2.2.2.2.2.2.2.1.1 hP 0 0 rfl rfl rfl hd K
/-- a reference out of a row of references -/
def am_rf : Option Nat → Value
  | none => .null
  | some k => .ref k
theorem r_aald (pc' : Nat) (hp : pc + 1 = pc') {a N : Nat} {f : Nat → Option Nat} {i : Int32} (j : Nat) (v : Value) (hd : decode (am_c M) pc = .ok (.aaload, 1)) (he : h a = .inr (.inl (N, f))) (hi : i = nI j) (hj : j < N) (hN : N < 2 ^ 31) (hv : am_rf (f j) = v) (kk : AW M Q pc' lv (v :: st) h n cu su) : AW M Q pc lv (.int i :: .ref a :: st) h n cu su := by
  subst hp
  subst hv
  intro l b base L xs D cA p e s m args below meth c H locs ls hC h0 hH hS hL
  obtain ⟨hin, hcl⟩ := am_ix hi hj hN
  have K := kk l b base L xs D cA p e s m args below meth c H locs ls hC h0 hH hS hL
  obtain ⟨k, rfl, hk, hat⟩ := am_rar h0 hH he
  have hP : va_P D vwCl [(base + k, .inl (cA 2, N, .inr (.inr (.inr (.inr (fun i => (f i).map (am_ad b base)))))))] H := fun j q hj => by
    have hz : j < 1 := (List.getElem?_eq_some_iff.mp hj).1
    rw [show j = 0 by omega] at hj
    cases hj
    exact hat
  refine va_aldq hC.1 hC.2.1 hC.2.2.2.2.2.2.2.2.1.1 hP 0 2 (C := am_S) rfl rfl hin hd ?_
  have e1 : va_rf ((fun i => (f i).map (am_ad b base)) i.toNatClampNeg) = am_v b base (am_rf (f j)) := by
    rw [hcl]
    show va_rf ((f j).map _) = _
    cases f j <;> rfl
  rw [e1]
  exact K
/-- which objects a row of Sources may hold -/
def am_sc (ci : Nat) : Bool := ci == 1 || ci == 2 || ci == 4 || ci == 6 || ci == 8
theorem r_aast (pc' : Nat) (hp : pc + 1 = pc') {a N q ci : Nat} {fs : List Value} {f : Nat → Option Nat} {i : Int32} (j : Nat) (hd : decode (am_c M) pc = .ok (.aastore, 1)) (he : h a = .inr (.inl (N, f))) (hi : i = nI j) (hj : j < N) (hN : N < 2 ^ 31) (hq : h q = .inr (.inr (ci, fs))) (hci : am_sc ci = true) (kk : AW M Q pc' lv st (va_up h a (.inr (.inl (N, va_up f j (some q))))) n cu su) : AW M Q pc lv (.ref q :: .int i :: .ref a :: st) h n cu su := by
  subst hp
  intro l b base L xs D cA p e s m args below meth c H locs ls hC h0 hH hS hL
  obtain ⟨hin, hcl⟩ := am_ix hi hj hN
  have hlt : i.toNatClampNeg < N := by rw [hcl]; exact hj
  have hn0 : ¬ i < 0 := fun q => hin (Or.inl q)
  obtain ⟨k, rfl, hk, hat⟩ := am_rar h0 hH he
  have hK := hC.2.2.2.2.2.2.2.2.1
  obtain ⟨kA, comp, k1, k2, k3, -⟩ := (hK.1.2 2 _ rfl).2
  obtain ⟨kE, hkE, -⟩ := Vm.findClass_spec k3
  have hsc : ∃ r : vw_C, vwCl[ci]? = some r ∧ (r.1 = am_S ∨ (r.1, am_S) ∈ am_ca) := by
    simp only [am_sc, Bool.or_eq_true, beq_iff_eq] at hci
    rcases hci with (((rfl | rfl) | rfl) | rfl) | rfl
    · exact ⟨_, rfl, Or.inr (by decide +kernel)⟩
    · exact ⟨_, rfl, Or.inr (by decide +kernel)⟩
    · exact ⟨_, rfl, Or.inl rfl⟩
    · exact ⟨_, rfl, Or.inr (by decide +kernel)⟩
    · exact ⟨_, rfl, Or.inr (by decide +kernel)⟩
  obtain ⟨r, hr, hrs⟩ := hsc
  obtain ⟨kq, rfl, hkq, hatq⟩ := am_obj h0 hH hq hr
  obtain ⟨r', hr', cellV, g1, g2, g3, -⟩ := hatq
  obtain ⟨hfc, kC, hkC, hkind⟩ := (hK.1.1 ci r hr).2
  have hasg : s.vm.assignable (D.1 ci) comp = true := by
    rcases hrs with h1 | h1
    · rw [h1] at hfc
      have hcomp : comp = D.1 ci := Option.some.inj (k3.symm.trans hfc)
      rw [hcomp]
      exact va_assign ⟨hfc, kC, hkC, hkind⟩
    · obtain ⟨c0, t0, f1, f2, f3⟩ := Cond.castable_spec (va_Nw.use (A := args) rfl (hK.2.2.1 _ h1))
      have e1 : c0 = D.1 ci := Option.some.inj (f1.symm.trans hfc)
      have e2 : t0 = comp := Option.some.inj (f2.symm.trans k3)
      rw [← e1, ← e2]
      exact f3
  refine W.aast hC.1 hC.2.1 hat (fun q h => by cases h) (fun h => by cases h) k1 k2 rfl hkE ⟨hn0, by show _ < (arrV _ _ _).slots.size; rw [arrV_size]; exact hlt⟩ g1 (fun q h => by rw [g3] at h; cases h) (by rw [g2]; exact hkC) (by rw [g2]; exact hasg) rfl rfl hd fun H1 e1 z oq => ?_
  refine kk l b base L xs D cA p e s m args below meth c H1 _ ls hC (by rw [am_up0]; exact h0) (am_Hp_set hH hk ?_ z oq) (hS.put z oq (Nat.le_add_right base k)) hL
  show H1[base + k]? = some (vp_cell _ _)
  rw [e1]
  rw [vp_cell_q, vp_cell_q, arrV_store]
  congr 2
  funext q
  rw [hcl]
  by_cases hq : q = j
  · subst hq
    simp [updV, va_up, va_rf, am_ad]
  · simp [updV, va_up, hq]
end AMH
end
section
/-! new cells, instanceof, arraycopy, calls -/
theorem am_acI : Cond.arrayClass .int ∈ am_T := am_in (List.mem_of_getElem? (i := 88) (by decide +kernel)) rfl
theorem am_acZ : Cond.arrayClass .boolean ∈ am_T := am_in (List.mem_of_getElem? (i := 164) (by decide +kernel)) rfl
theorem am_oi : Cond.instanceMethod objectInit ∈ am_T := am_in (List.mem_of_getElem? (i := 70) (by decide +kernel)) rfl
theorem am_oc : Cond.code objectInit ⟨#[0xb1]⟩ 1 none ∈ am_T := am_in (List.mem_of_getElem? (i := 71) rfl) rfl
theorem am_cpn : Cond.native arraycopyName ∈ am_T := am_in (List.mem_of_getElem? (i := 283) (by decide +kernel)) rfl
theorem am_cps : Cond.static arraycopyName ∈ am_T := am_in (List.mem_of_getElem? (i := 282) (by decide +kernel)) rfl
theorem am_cpi : Cond.initialized "java/lang/System" ∈ am_T := am_in (List.mem_of_getElem? (i := 56) (by decide +kernel)) rfl
def am_nf (M : am_M) (idx ci N : Nat) (fs : List Value) : Prop := ∃ (C : String) (T : u_T) (ty : Nat → FieldType), vwCl[ci]? = some (C, T, N) ∧ (∀ w ∈ u_ws C T N, w ∈ am_T) ∧ (∀ k, k < N → parseFieldDescriptor (T k).2.2.1 = some (ty k)) ∧ Cond.classLink (am_y M).cls idx C ∈ am_T ∧ Cond.instantiable C N ∈ am_T ∧ Cond.initialized C ∈ am_T ∧ (∀ j, j < N → defaultValue (ty j) = vp_V fs j) ∧ ∀ b base, fs.map (am_v b base) = fs
/-- the receiver's cell -/
theorem am_rcv {D : va_G} {cA : Nat → ClassId} {s : State} {H : Heap} {a ci : Nat} {fs : List Value} {r : vw_C} (hK : am_K D cA s) (hr : vwCl[ci]? = some r) (hat : va_at D vwCl (a, .inr (ci, fs)) H) : ∃ cell : Cell, H[a]? = some cell ∧ cell.vm.isStatics = false ∧ s.vm.findClass r.1 = some cell.cls := by
  obtain ⟨r', hr', cell, g1, g2, g3, -⟩ := hat
  exact ⟨cell, g1, by rw [g3]; rfl, by rw [g2]; exact (hK.1.1 ci r hr).2.1⟩
section AMC
variable {M : am_M} {Q : am_P} {pc : Nat} {lv : List (Option Value)} {st : List Value} {h : Nat → am_E} {n cu su : Nat}
theorem r_new (pc' : Nat) (hp : pc + 3 = pc') {idx ci N : Nat} {fs : List Value} (hd : decode (am_c M) pc = .ok (.new idx, 3)) (hf : am_nf M idx ci N fs) (hcu : cu + 1 ≤ am_mc M) (hsu : su + N ≤ am_ms M) (kk : AW M Q pc' lv (.ref (n + 1) :: st) (va_up h (n + 1) (.inr (.inr (ci, fs)))) (n + 1) (cu + 1) (su + N)) : AW M Q pc lv st h n cu su := by
  subst hp
  intro l b base L xs D cA p e s m args below meth c H locs ls hC h0 hH hS hL
  obtain ⟨C, T, ty, hc, hin, hty, hcl, hins, hini, hfs, hid⟩ := hf
  have hts := hC.2.2.2.2.2.2.2.1
  have hKn := hC.2.2.2.2.2.2.2.2.1.1.1 ci _ hc
  have hsz := hH.1
  refine W.newcK hC.1 hC.2.1 hC.2.2.2.2.2.1 (hts _ hcl) (hts _ hins) (hts _ hini) rfl hd hcu hsu hKn.2.1 hsz fun H1 kC hkC e1 z1 o1 => ?_
  refine kk l b base L xs D cA p e s m args below meth c H1 locs ls hC (by rw [am_up0]; exact h0) (am_Hp_push hH ?_ (by rw [z1, hsz]) (fun q hq => o1 q (by rw [← hsz]; exact hq))) (am_S_push hS (by rw [z1, hsz]) (fun q hq => o1 q (by rw [← hsz]; exact hq))) hL
  refine ⟨_, hc, ?_⟩
  show t_OB (base + n) _ _ _ H1 (vp_V (fs.map (am_v b base)))
  rw [hid]
  exact (u_born ty hts hin hKn hkC e1 hty).to hfs
theorem r_newaI (pc' : Nat) (hp : pc + 2 = pc') (N : Nat) {i : Int32} (hd : decode (am_c M) pc = .ok (.newarray .int, 2)) (hi : i = nI N) (hN : N ≤ 1000) (hcu : cu + 1 ≤ am_mc M) (hsu : su + N ≤ am_ms M) (kk : AW M Q pc' lv (.ref (n + 1) :: st) (va_up h (n + 1) (.inl (0, N, fun _ => 0))) (n + 1) (cu + 1) (su + N)) : AW M Q pc lv (.int i :: st) h n cu su := by
  subst hp
  subst hi
  intro l b base L xs D cA p e s m args below meth c H locs ls hC h0 hH hS hL
  have hts := hC.2.2.2.2.2.2.2.1
  have hsz := hH.1
  refine va_newaK (atype := .int) hC.1 hC.2.1 (hts _ am_acI) rfl hd rfl (nI_pos (by omega)) (nI_clamp (by omega)) (by show N * 4 ≤ _; omega) hcu hsu hsz fun H1 cA' e1 z1 o1 hAr hNm => ?_
  have hcA : cA' = cA 0 := Option.some.inj (hNm.symm.trans (hC.2.2.2.2.2.2.2.2.1.1.2 0 _ rfl).2)
  subst hcA
  exact kk l b base L xs D cA p e s m args below meth c H1 locs ls hC (by rw [am_up0]; exact h0) (am_Hp_push hH (show H1[base + n]? = some (vp_cell _ _) from e1) (by rw [z1, hsz]) (fun q hq => o1 q (by rw [← hsz]; exact hq))) (am_S_push hS (by rw [z1, hsz]) (fun q hq => o1 q (by rw [← hsz]; exact hq))) hL
theorem r_newaZ (pc' : Nat) (hp : pc + 2 = pc') (N : Nat) {i : Int32} (hd : decode (am_c M) pc = .ok (.newarray .boolean, 2)) (hi : i = nI N) (hN : N ≤ 1000) (hcu : cu + 1 ≤ am_mc M) (hsu : su + N ≤ am_ms M) (kk : AW M Q pc' lv (.ref (n + 1) :: st) (va_up h (n + 1) (.inl (1, N, fun _ => 0))) (n + 1) (cu + 1) (su + N)) : AW M Q pc lv (.int i :: st) h n cu su := by
  subst hp
  subst hi
  intro l b base L xs D cA p e s m args below meth c H locs ls hC h0 hH hS hL
  have hts := hC.2.2.2.2.2.2.2.1
  have hsz := hH.1
  refine va_newaK (atype := .boolean) hC.1 hC.2.1 (hts _ am_acZ) rfl hd rfl (nI_pos (by omega)) (nI_clamp (by omega)) (by show N * 1 ≤ _; omega) hcu hsu hsz fun H1 cA' e1 z1 o1 hAr hNm => ?_
  have hcA : cA' = cA 1 := Option.some.inj (hNm.symm.trans (hC.2.2.2.2.2.2.2.2.1.1.2 1 _ rfl).2)
  subst hcA
  exact kk l b base L xs D cA p e s m args below meth c H1 locs ls hC (by rw [am_up0]; exact h0) (am_Hp_push hH (show H1[base + n]? = some (vp_cell _ _) from e1) (by rw [z1, hsz]) (fun q hq => o1 q (by rw [← hsz]; exact hq))) (am_S_push hS (by rw [z1, hsz]) (fun q hq => o1 q (by rw [← hsz]; exact hq))) hL
theorem r_anewa (pc' : Nat) (hp : pc + 3 = pc') (N : Nat) {idx : Nat} {i : Int32} (hd : decode (am_c M) pc = .ok (.anewarray idx, 3)) (hcl : Cond.classLink (am_y M).cls idx am_S ∈ am_T) (hi : i = nI N) (hN : N ≤ 1000) (hcu : cu + 1 ≤ am_mc M) (hsu : su + N ≤ am_ms M) (kk : AW M Q pc' lv (.ref (n + 1) :: st) (va_up h (n + 1) (.inr (.inl (N, fun _ => none)))) (n + 1) (cu + 1) (su + N)) : AW M Q pc lv (.int i :: st) h n cu su := by
  subst hp
  subst hi
  intro l b base L xs D cA p e s m args below meth c H locs ls hC h0 hH hS hL
  have hts := hC.2.2.2.2.2.2.2.1
  have hsz := hH.1
  have hK := hC.2.2.2.2.2.2.2.2.1
  have hcp : (nI N).toNatClampNeg = N := nI_clamp (by omega)
  refine W.anew hC.1 hC.2.1 hC.2.2.2.2.2.1 (hts _ hcl) (va_AO.use hK.2.2.2.2) rfl hd rfl (nI_pos (by omega)) (by rw [hcp]; omega) hcu (by rw [hcp]; exact hsu) fun cA' kA comp f1 f2 f3 f4 => ?_
  rw [hcp]
  obtain ⟨kA2, comp2, k1, k2, k3, k4⟩ := (hK.1.2 2 _ rfl).2
  have hcA : cA' = cA 2 := Option.some.inj (f1.symm.trans k4)
  subst hcA
  generalize hH1 : H.push ({ cls := cA 2, slots := Array.replicate N .null, vm := .none } : Cell) = H1
  have z1 : H1.size = H.size + 1 := by rw [← hH1, Array.size_push]
  have e1 : H1[H.size]? = some (arrV (cA 2) N (fun _ => .null)) := by rw [← hH1, Array.getElem?_push_size, ← arrV_new]
  have o1 : ∀ q : Nat, q < H.size → H1[q]? = H[q]? := fun q hq => by rw [← hH1, Array.getElem?_push, if_neg (Nat.ne_of_lt hq)]
  have K := kk l b base L xs D cA p e s m args below meth c H1 locs ls hC (by rw [am_up0]; exact h0) (am_Hp_push hH (show H1[base + n]? = some (vp_cell _ _) by rw [← hsz]; exact e1) z1 o1) (am_S_push hS z1 o1) hL
  have e2 : Value.ref H.size = am_v b base (.ref (n + 1)) := by rw [hsz]; rfl
  show W p l e (am_rm M) s m args below meth c H1 locs (cu + 1) (su + N) _ (F0 m (pc + 3) ls (.ref H.size :: st.map (am_v b base)))
  rw [e2]
  exact K
theorem r_instY (pc' : Nat) (hp : pc + 3 = pc') {idx a ci : Nat} {fs : List Value} {r : vw_C} {nm : String} (hd : decode (am_c M) pc = .ok (.instanceof idx, 3)) (hcl : Cond.classLink (am_y M).cls idx nm ∈ am_T) (he : h a = .inr (.inr (ci, fs))) (hr : vwCl[ci]? = some r) (hq : r.1 = nm ∨ (r.1, nm) ∈ am_ca) (kk : AW M Q pc' lv (.int 1 :: st) h n cu su) : AW M Q pc lv (.ref a :: st) h n cu su := by
  subst hp
  intro l b base L xs D cA p e s m args below meth c H locs ls hC h0 hH hS hL
  have hts := hC.2.2.2.2.2.2.2.1
  have hK := hC.2.2.2.2.2.2.2.2.1
  obtain ⟨k, rfl, hk, hat⟩ := am_obj h0 hH he hr
  have hrc := am_rcv hK hr hat
  have K := kk l b base L xs D cA p e s m args below meth c H locs ls hC h0 hH hS hL
  rcases hq with rfl | hq
  · exact va_instS hC.1 hC.2.1 hC.2.2.2.2.2.1 (hts _ hcl) (hK.1.1 ci r hr).2 hrc hd K
  · exact va_instY hC.1 hC.2.1 hC.2.2.2.2.2.1 (hts _ hcl) (hK.2.2.1 _ hq) hrc hd K
theorem r_instN (pc' : Nat) (hp : pc + 3 = pc') {idx a ci : Nat} {fs : List Value} {r : vw_C} {nm : String} (hd : decode (am_c M) pc = .ok (.instanceof idx, 3)) (hcl : Cond.classLink (am_y M).cls idx nm ∈ am_T) (he : h a = .inr (.inr (ci, fs))) (hr : vwCl[ci]? = some r) (hq : (r.1, nm) ∈ am_nc) (kk : AW M Q pc' lv (.int 0 :: st) h n cu su) : AW M Q pc lv (.ref a :: st) h n cu su := by
  subst hp
  intro l b base L xs D cA p e s m args below meth c H locs ls hC h0 hH hS hL
  have hts := hC.2.2.2.2.2.2.2.1
  have hK := hC.2.2.2.2.2.2.2.2.1
  obtain ⟨k, rfl, hk, hat⟩ := am_obj h0 hH he hr
  have hrc := am_rcv hK hr hat
  have K := kk l b base L xs D cA p e s m args below meth c H locs ls hC h0 hH hS hL
  exact va_instNo hC.1 hC.2.1 hC.2.2.2.2.2.1 (hts _ hcl) (hK.2.2.2.1 _ hq) hrc hd K
theorem r_objInit (pc' : Nat) (hp : pc + 3 = pc') {idx a : Nat} (hd : decode (am_c M) pc = .ok (.invokespecial idx, 3)) (hl : Cond.methodLink (am_y M).cls idx objectInit ∈ am_T) (hfr : 1 ≤ am_fr M) (hlo : (st.map fun v => v.category).sum + 12 ≤ am_lo M) (kk : AW M Q pc' lv st h n cu su) : AW M Q pc lv (.ref a :: st) h n cu su := by
  subst hp
  intro l b base L xs D cA p e s m args below meth c H locs ls hC h0 hH hS hL
  have hts := hC.2.2.2.2.2.2.2.1
  refine W.objInit hC.1 hC.2.1 hC.2.2.2.2.2.1 (hts _ hl) (hts _ am_oi) (hts _ am_oc) rfl (by rw [hC.2.2.2.2.1]; exact hL.1) rfl hd hfr ?_ (kk l b base L xs D cA p e s m args below meth c H locs ls hC h0 hH hS hL)
  show 2 * 0 + ((st.map (am_v b base)).map fun v => v.category).sum + 12 ≤ am_lo M
  rw [am_v_sum]
  omega
theorem r_copy (pc' : Nat) (hp : pc + 3 = pc') {idx a0 a1 N : Nat} {i : Int32} {f g : Nat → Int32} (hd : decode (am_c M) pc = .ok (.invokestatic idx, 3)) (hl : Cond.methodLink (am_y M).cls idx arraycopyName ∈ am_T) (h1 : 0 < a0) (h2 : 0 < a1) (he0 : h a0 = .inl (0, N, f)) (he1 : h a1 = .inl (0, N, g)) (hi : i = nI N) (hN : N ≤ 1000) (hfr : 1 ≤ am_fr M) (hlo : (st.map fun v => v.category).sum + (nativeFrameWords "java/lang/System" "arraycopy" 5 + 11) ≤ am_lo M)
    (kk : AW M Q pc' lv st (va_up h a1 (.inl (0, N, va_cpy f g 0 0 N))) n cu su) : AW M Q pc lv (.int i :: .int 0 :: .ref a1 :: .int 0 :: .ref a0 :: st) h n cu su := by
  subst hp
  subst hi
  intro l b base L xs D cA p e s m args below meth c H locs ls hC h0 hH hS hL
  have hts := hC.2.2.2.2.2.2.2.1
  have hK := hC.2.2.2.2.2.2.2.2.1
  obtain ⟨k0, rfl, hk0, hc0⟩ := am_arr hH h1 he0
  obtain ⟨k1, rfl, hk1, hc1⟩ := am_arr hH h2 he1
  have hz0 : (0 : Int32).toNatClampNeg = 0 := by decide +kernel
  have hzN : (nI N).toNatClampNeg = N := nI_clamp (by omega)
  have hiN : (nI N).toInt = (N : Int) := nI_toInt (by omega)
  have hi0 : (0 : Int32).toInt = 0 := by decide +kernel
  intro T hT X
  obtain ⟨-, kk0, hkk0, cm0, hkd0⟩ := (hK.1.2 0 _ rfl).1 N (fun j => .int (f j))
  obtain ⟨-, kk1, hkk1, cm1, hkd1⟩ := (hK.1.2 0 _ rfl).1 N (fun j => .int (g j))
  obtain ⟨vm', X', step⟩ := X.arraycopy hC.1 hC.2.2.2.2.2.1 (hts _ hl) (hts _ am_cpn) (hts _ am_cps) (hts _ am_cpi) (src := base + k0) (dst := base + k1) (cs := vp_cell (cA 0) (N, .inl f)) (cd := vp_cell (cA 0) (N, .inl g)) (srcPos := 0) (destPos := 0) (n := nI N) (by rw [hT]; exact hc0) (by rw [hT]; exact hc1)
    (fun _ h => by cases h) (fun _ h => by cases h) (fun h => by cases h) (fun h => by cases h) hkk0 hkk1 hkd0 hkd1 (by simp [refKind]) (by decide) (by decide) (nI_pos (by omega))
    (by rw [hiN, hi0]; show ¬ _ > ((arrV (cA 0) N (fun j => .int (f j))).slots.size : Int); rw [arrV_size]; omega)
    (by rw [hiN, hi0]; show ¬ _ > ((arrV (cA 0) N (fun j => .int (g j))).slots.size : Int); rw [arrV_size]; omega)
    (fun vm₁ _ i hi => by
      have e : (vp_cell (cA 0) (N, .inl f)).slots.getD ((0 : Int32).toNatClampNeg + i) .null = .int (f ((0 : Int32).toNatClampNeg + i)) := by
        show (arrV (cA 0) N (fun j => .int (f j))).slots.getD _ _ = _
        rw [Array.getD_eq_getD_getElem?, arrV_read _ _ (by rw [hz0]; rw [hzN] at hi; omega)]
        rfl
      refine ⟨?_, ?_⟩
      · rw [e]; rfl
      · rw [e]
        exact trivial)
    (g := F0 m pc ls (.int (nI N) :: .int 0 :: .ref (base + k1) :: .int 0 :: .ref (base + k0) :: st.map (am_v b base))) rfl (by rw [hC.2.2.2.2.1]; exact hL.1) (rest := st.map (am_v b base)) rfl (by rw [hC.2.1]; exact hd) hfr (by show 2 * 0 + ((st.map (am_v b base)).map fun v => v.category).sum + _ ≤ am_lo M; rw [am_v_sum]; omega)
  have e1 : copied (vp_cell (cA 0) (N, .inl f)) (vp_cell (cA 0) (N, .inl g)) 0 0 (nI N) = vp_cell (cA 0) (N, .inl (va_cpy f g (0 : Int32).toNatClampNeg (0 : Int32).toNatClampNeg (nI N).toNatClampNeg)) := va_copied (fun z => .int z) (cA 0) (cA 0) f g (by rw [hz0, hzN]; omega)
  rw [hz0, hzN] at e1
  rw [e1] at X' step
  have hl1 : base + k1 < H.size := (Array.getElem?_eq_some_iff.mp hc1).1
  have hheap : ((T.setVm vm').setCell (base + k1) (vp_cell (cA 0) (N, .inl (va_cpy f g 0 0 N)))).heap = H.setIfInBounds (base + k1) (vp_cell (cA 0) (N, .inl (va_cpy f g 0 0 N))) := by rw [← hT]; rfl
  have oq : ∀ q : Nat, q ≠ base + k1 → (H.setIfInBounds (base + k1) (vp_cell (cA 0) (N, .inl (va_cpy f g 0 0 N))))[q]? = H[q]? := fun q hq => by simp [Array.getElem?_setIfInBounds, Ne.symm hq]
  obtain ⟨t, a1, b1⟩ := kk l b base L xs D cA p e s m args below meth c _ _ ls hC (by rw [am_up0]; exact h0) (am_Hp_set (H1 := H.setIfInBounds (base + k1) (vp_cell (cA 0) (N, .inl (va_cpy f g 0 0 N)))) hH hk1 (show (H.setIfInBounds (base + k1) _)[base + k1]? = some _ by simp [Array.getElem?_setIfInBounds, hl1]) (by simp) oq) ⟨by simp; exact hS.1, fun q g1 g2 => by
      rw [oq q (fun e => g2 (by rw [e]; exact Nat.le_add_right _ _))]
      exact hS.2.1 q g1 g2, fun q hq => by
      rcases List.mem_append.mp hq with h | h
      · exact hS.2.2 q h
      · obtain ⟨z, -, hz⟩ := List.mem_map.mp h
        rw [← hz]
        exact Nat.le_add_right _ _⟩ hL _ hheap X'
  exact ⟨t, step t a1, b1⟩
/-- a method's contract out of its walk -/
theorem am_met {N : am_M} {Q' : am_P} {As : List Value} {h : Nat → am_E} {n : Nat} (hy : plainName (am_y N).cls = true) (hlen : ∀ b base, (lg_sl (As.map (am_v b base))).length ≤ am_l N) (k : AW N Q' 0 (am_ent (am_l N) As) [] h n 0 0) (l : Launch) (b base L : Nat) (xs : Nat → Int32) (D : va_G) (cA : Nat → ClassId) (h0 : h 0 = .inl (0, L, xs)) :
    Met l (am_y N) (.code (am_y N) (am_c N) (am_l N) (am_r N) :: am_T) (am_rm N) (va_Pc (As.map (am_v b base)) (fun U => am_K D cA U ∧ va_X b L xs U U.heap ∧ b < base ∧ base ≤ U.heap.size ∧ am_Hp b base D cA h n U.heap)) (am_Q b base L xs D cA Q') (am_mc N) (am_ms N) (fun q => base ≤ q) := by
  refine Met.ofW (cc := am_c N) (maxL := am_l N) (ret := am_r N) hy rfl ?_
  intro p e s m args below meth c s₁ B hml hv
  obtain ⟨rfl, hK, hX, hb, hbs, hH⟩ := hv
  have hts := atoms_spec (ws := .code (am_y N) (am_c N) (am_l N) (am_r N) :: am_T) B.pre
  have hL := am_L_ent (As := As) (hlen b base)
  rw [lg_entry_eq]
  exact k l b base L xs D cA p e s m _ below meth c s.heap [] _ ⟨B.exec, B.bytes, B.returns, B.notSynchronized, hml, findClass_of_methodNamed B.named, (name_of_methodNamed B.named B.method).1, fun w hw => hts w (List.mem_cons_of_mem _ hw), hK, hX, hb, hbs⟩ h0 hH va_S.rf hL
/-- what a call asks of the tables and of the room -/
def am_cl (M N : am_M) (k : Nat) : Prop := plainName (am_y N).cls = true ∧ (am_fr N + 1 ≤ am_fr M ∧ 8 + (am_l N + 11) + am_lo N ≤ am_lo M) ∧ Cond.code (am_y N) (am_c N) (am_l N) (am_r N) ∈ am_T ∧ Cond.initialized (am_y N).cls ∈ am_T ∧ ((am_y N).cls ≠ "java/lang/invoke/MethodHandle" ∧ (am_y N).cls ≠ "java/lang/invoke/VarHandle" ∧ (parseMethodDescriptor (am_y N).desc).map (fun d => d.parameters.length) = some k)
theorem am_gd {N : am_M} (hc : Cond.code (am_y N) (am_c N) (am_l N) (am_r N) ∈ am_T) : GoodIn am_T (.code (am_y N) (am_c N) (am_l N) (am_r N) :: am_T) := am_good _ (fun _ h => h) (fun w hw => (List.mem_cons.mp hw).elim (fun e => e ▸ hc) id)
theorem am_pre {b base L n : Nat} {xs : Nat → Int32} {D : va_G} {cA : Nat → ClassId} {M : am_M} {p : Program} {s : State} {m : MethodId} {args : Array Value} {meth : Method} {c : Code} {H : Heap} {locs : List Loc} {h : Nat → am_E} (av : List Value) (hC : am_C M b base L xs D cA p s m args meth c) (hH : am_Hp b base D cA h n H) (hS : va_S (fun q => base ≤ q) s.heap H locs) :
    PreS s H (va_Pc av (fun U => am_K D cA U ∧ va_X b L xs U U.heap ∧ b < base ∧ base ≤ U.heap.size ∧ am_Hp b base D cA h n U.heap)) av := by
  refine ⟨fun a U g mk q => ?_, fun U hU hW => ?_⟩
  · obtain ⟨q0, q1, q2, q3, q4, q5⟩ := q
    exact ⟨q0, am_K_same (s := U) rfl q1, va_X.moved (u := U) (U := U.calling g mk a) (Vm.Alike.refl U.vm) q2, q3, q4, q5⟩
  · have hb := hC.2.2.2.2.2.2.2.2.2.2.1
    have hbs := hC.2.2.2.2.2.2.2.2.2.2.2
    refine ⟨rfl, am_K_moved hW hC.2.2.2.2.2.2.2.2.1, ?_, hb, ?_, ?_⟩
    · rw [hU]
      exact (va_X.kept hC.2.2.2.2.2.2.2.2.2.1 (hS.2.1 b (Nat.lt_of_lt_of_le hb hbs) (Nat.not_le.mpr hb))).moved hW.alike
    · rw [hU]; exact Nat.le_trans hbs hS.1
    · rw [hU]; exact hH
/-- behind a call -/
theorem am_go {Q' : am_P} {p : Program} {l : Launch} {e : Env} {R : Room} {s : State} {m : MethodId} {args : Array Value} {below : List Frame} {meth : Method} {c : Code} {H : Heap} {locs : List Loc} {cu su mc ms b base L : Nat} {xs : Nat → Int32} {D : va_G} {cA : Nat → ClassId} {pc : Nat} {ls : Array Slot} {st0 rest : List Value} {a : Array Value} {Z : State → Prop}
    (hr : va_Run p l e R s m args below meth c H locs cu su mc ms (F0 m pc ls st0) rest (am_Q b base L xs D cA Q' a) (fun q => base ≤ q)) (hS : va_S (fun q => base ≤ q) s.heap H locs)
    (kk : ∀ (r : Option Value) (h' : Nat → am_E) (n' : Nat) (H1 : Heap) (locs1 : List Loc), Q' r h' n' → h' 0 = .inl (0, L, xs) → am_Hp b base D cA h' n' H1 → va_S (fun q => base ≤ q) s.heap H1 locs1 → W p l e R s m args below meth c H1 locs1 (cu + mc) (su + ms) Z (F0 m (pc + 3) ls ((r.map (am_v b base)).toList ++ rest))) : W p l e R s m args below meth c H locs cu su Z (F0 m pc ls st0) := by
  intro T hT X
  obtain ⟨v, st₀, t, T', L', h0, X', hL, e1, e2, ⟨⟨r, h', n', hv, hq, hh0, hHp⟩, hz, hk⟩, st⟩ := hr T hT X
  cases hv
  rw [h0] at hz hk
  obtain ⟨t2, a1, b1⟩ := kk r h' n' T'.heap (locs ++ L') hq hh0 (by rw [e1]; exact hHp) ⟨Nat.le_trans hS.1 (by rw [e1]; exact hz), fun q h1 h2 => by rw [e1, hk q (Nat.lt_of_lt_of_le h1 hS.1) h2]; exact hS.2.1 q h1 h2, fun q hq => by
      rcases List.mem_append.mp hq with h | h
      · exact hS.2.2 q h
      · exact hL q h⟩ T' rfl X'
  exact ⟨t2, st t2 a1, b1⟩
theorem am_tl (b base : Nat) (r : Option Value) (st : List Value) : (r.map (am_v b base)).toList ++ st.map (am_v b base) = (r.toList ++ st).map (am_v b base) := by
  cases r <;> simp
theorem am_rv (b base : Nat) (As st : List Value) : (As.reverse ++ st).map (am_v b base) = (As.map (am_v b base)).reverse ++ st.map (am_v b base) := by
  rw [List.map_append, List.map_reverse]
theorem am_rm8 {m : MethodId} {pc b base : Nat} {ls : Array Slot} {st0 st : List Value} (h8 : (st.map fun v => v.category).sum ≤ 8) : 2 * (F0 m pc ls st0).monitorRoom + ((st.map (am_v b base)).map fun v => v.category).sum ≤ 8 := lv_room (by rw [am_v_sum]; exact h8)
theorem r_callS (pc' : Nat) (hp : pc + 3 = pc') {N : am_M} {idx : Nat} (As : List Value) {st0 : List Value} (hst : st0 = As.reverse ++ st) {Q' : am_P} (hd : decode (am_c M) pc = .ok (.invokestatic idx, 3)) (hcl : am_cl M N As.length) (hlk : Cond.methodLink (am_y M).cls idx (am_y N) ∈ am_T) (hsx : Cond.static (am_y N) ∈ am_T)
    (h8 : (st.map fun v => v.category).sum ≤ 8) (hlen : ∀ b base, (lg_sl (As.map (am_v b base))).length ≤ am_l N) (hcu : cu + am_mc N ≤ am_mc M ∧ su + am_ms N ≤ am_ms M) (hc : AW N Q' 0 (am_ent (am_l N) As) [] h n 0 0)
    (kk : ∀ r h' n', Q' r h' n' → AW M Q pc' lv (r.toList ++ st) h' n' (cu + am_mc N) (su + am_ms N)) : AW M Q pc lv st0 h n cu su := by
  subst hp
  subst hst
  intro l b base L xs D cA p e s m args below meth c H locs ls hC h0 hH hS hL
  have hts := hC.2.2.2.2.2.2.2.1
  obtain ⟨hy, hR, hcd, hini, hdd⟩ := hcl
  have hM := am_met hy hlen hc l b base L xs D cA h0
  rw [am_rv]
  refine am_go (va_runS (As := As.map (am_v b base)) (rest := st.map (am_v b base)) ⟨hC.1, hC.2.1, hC.2.2.2.2.1, hC.2.2.2.2.2.1, hts⟩ hM ⟨callB_of As.length hts (am_gd hcd) rfl rfl rfl (hts _ hini) (hts _ hlk) hdd hR, hts _ hsx⟩ (am_pre _ hC hH hS) rfl (List.length_map _) hL.1 rfl (am_rm8 h8) hd hcu) hS ?_
  intro r h' n' H1 locs1 hq hh0 hHp hS1
  rw [am_tl]
  exact kk r h' n' hq l b base L xs D cA p e s m args below meth c H1 locs1 ls hC hh0 hHp hS1 hL
theorem r_callI (pc' : Nat) (hp : pc + 3 = pc') {N : am_M} {idx a : Nat} (As : List Value) {st0 : List Value} (hst : st0 = As.reverse ++ .ref a :: st) {Q' : am_P} (hd : decode (am_c M) pc = .ok (.invokespecial idx, 3)) (hcl : am_cl M N As.length) (hlk : Cond.methodLink (am_y M).cls idx (am_y N) ∈ am_T) (hsx : Cond.instanceMethod (am_y N) ∈ am_T) (hnm : (am_y N).name = "<init>") (hrt : am_r N = none)
    (h8 : (st.map fun v => v.category).sum ≤ 8) (hlen : ∀ b base, (lg_sl ((.ref a :: As).map (am_v b base))).length ≤ am_l N) (hcu : cu + am_mc N ≤ am_mc M ∧ su + am_ms N ≤ am_ms M) (hc : AW N Q' 0 (am_ent (am_l N) (.ref a :: As)) [] h n 0 0)
    (kk : ∀ r h' n', Q' r h' n' → AW M Q pc' lv (r.toList ++ st) h' n' (cu + am_mc N) (su + am_ms N)) : AW M Q pc lv st0 h n cu su := by
  subst hp
  subst hst
  intro l b base L xs D cA p e s m args below meth c H locs ls hC h0 hH hS hL
  have hts := hC.2.2.2.2.2.2.2.1
  obtain ⟨hy, hR, hcd, hini, hdd⟩ := hcl
  have hM := am_met hy hlen hc l b base L xs D cA h0
  rw [am_rv]
  refine am_go (va_runI (b := am_ad b base a) (As := As.map (am_v b base)) (rest := st.map (am_v b base)) ⟨hC.1, hC.2.1, hC.2.2.2.2.1, hC.2.2.2.2.2.1, hts⟩ hM ⟨callB_of As.length hts (am_gd hcd) (by rw [hrt]) rfl rfl (hts _ hini) (hts _ hlk) hdd hR, hnm, hts _ hsx⟩ (am_pre _ hC hH hS) rfl (List.length_map _) hL.1 rfl (am_rm8 h8) hd hcu) hS ?_
  intro r h' n' H1 locs1 hq hh0 hHp hS1
  rw [am_tl]
  exact kk r h' n' hq l b base L xs D cA p e s m args below meth c H1 locs1 ls hC hh0 hHp hS1 hL
theorem r_callN (pc' : Nat) (hp : pc + 3 = pc') {N : am_M} {idx a : Nat} (As : List Value) {st0 : List Value} (hst : st0 = As.reverse ++ .ref a :: st) {Q' : am_P} (hd : decode (am_c M) pc = .ok (.invokespecial idx, 3)) (hcl : am_cl M N As.length) (hmy : (am_y M).cls = RX9) (hlk : (idx, am_y N) ∈ am_nn) (hsx : Cond.instanceMethod (am_y N) ∈ am_T) (hnm : (am_y N).name = "<init>") (hrt : am_r N = none)
    (h8 : (st.map fun v => v.category).sum ≤ 8) (hlen : ∀ b base, (lg_sl ((.ref a :: As).map (am_v b base))).length ≤ am_l N) (hcu : cu + am_mc N ≤ am_mc M ∧ su + am_ms N ≤ am_ms M) (hc : AW N Q' 0 (am_ent (am_l N) (.ref a :: As)) [] h n 0 0)
    (kk : ∀ r h' n', Q' r h' n' → AW M Q pc' lv (r.toList ++ st) h' n' (cu + am_mc N) (su + am_ms N)) : AW M Q pc lv st0 h n cu su := by
  subst hp
  subst hst
  intro l b base L xs D cA p e s m args below meth c H locs ls hC h0 hH hS hL
  have hts := hC.2.2.2.2.2.2.2.1
  have hK := hC.2.2.2.2.2.2.2.2.1
  obtain ⟨hy, hR, hcd, hini, hdd⟩ := hcl
  have hM := am_met hy hlen hc l b base L xs D cA h0
  have hown := hC.2.2.2.2.2.1
  rw [hmy] at hown
  rw [am_rv]
  refine am_go (va_runIN (b := am_ad b base a) (host := RX9) (As := As.map (am_v b base)) (rest := st.map (am_v b base)) ⟨hC.1, hC.2.1, hC.2.2.2.2.1, hown, hts⟩ hM ⟨va_cnB As.length hts (am_gd hcd) (by rw [hrt]) rfl rfl (hK.2.1 _ hlk) (hts _ hini) hdd hR, hnm, hts _ hsx⟩ (am_pre _ hC hH hS) rfl (List.length_map _) hL.1 rfl (am_rm8 h8) hd hcu) hS ?_
  intro r h' n' H1 locs1 hq hh0 hHp hS1
  rw [am_tl]
  exact kk r h' n' hq l b base L xs D cA p e s m args below meth c H1 locs1 ls hC hh0 hHp hS1 hL
theorem am_preV {b base L n a ci : Nat} {xs : Nat → Int32} {D : va_G} {cA : Nat → ClassId} {M : am_M} {p : Program} {s : State} {m : MethodId} {args : Array Value} {meth : Method} {c : Code} {H : Heap} {locs : List Loc} {h : Nat → am_E} {r : vw_C} {fs : List Value} (av : List Value) (hC : am_C M b base L xs D cA p s m args meth c) (h0 : h 0 = .inl (0, L, xs)) (hH : am_Hp b base D cA h n H) (hS : va_S (fun q => base ≤ q) s.heap H locs) (he : h a = .inr (.inr (ci, fs))) (hr : vwCl[ci]? = some r) :
    PreV s H r.1 (am_ad b base a) (va_Pc (.ref (am_ad b base a) :: av) (fun U => am_K D cA U ∧ va_X b L xs U U.heap ∧ b < base ∧ base ≤ U.heap.size ∧ am_Hp b base D cA h n U.heap)) av := by
  obtain ⟨k, rfl, hk, hat⟩ := am_obj h0 hH he hr
  have hp := am_pre (.ref (am_ad b base (k + 1)) :: av) hC hH hS
  exact ⟨hp.1, am_rcv hC.2.2.2.2.2.2.2.2.1 hr hat, hp.2⟩
theorem r_callV (pc' : Nat) (hp : pc + 3 = pc') {N : am_M} {idx a ci : Nat} {fs : List Value} {C : vw_C} (As : List Value) {st0 : List Value} (hst : st0 = As.reverse ++ .ref a :: st) {Q' : am_P} (hd : decode (am_c M) pc = .ok (.invokevirtual idx, 3)) (hcl : am_cl M N As.length) (hlk : Cond.methodLink (am_y M).cls idx (am_y N) ∈ am_T) (hsx : Cond.instanceMethod (am_y N) ∈ am_T) (hr : vwCl[ci]? = some C) (hsl : Cond.selects C.1 (am_y N) (am_y N) ∈ am_T) (he : h a = .inr (.inr (ci, fs)))
    (h8 : (st.map fun v => v.category).sum ≤ 8) (hlen : ∀ b base, (lg_sl ((.ref a :: As).map (am_v b base))).length ≤ am_l N) (hcu : cu + am_mc N ≤ am_mc M ∧ su + am_ms N ≤ am_ms M) (hc : AW N Q' 0 (am_ent (am_l N) (.ref a :: As)) [] h n 0 0)
    (kk : ∀ r h' n', Q' r h' n' → AW M Q pc' lv (r.toList ++ st) h' n' (cu + am_mc N) (su + am_ms N)) : AW M Q pc lv st0 h n cu su := by
  subst hp
  subst hst
  intro l b base L xs D cA p e s m args below meth c H locs ls hC h0 hH hS hL
  have hts := hC.2.2.2.2.2.2.2.1
  obtain ⟨hy, hR, hcd, hini, hdd⟩ := hcl
  have hM := am_met hy hlen hc l b base L xs D cA h0
  rw [am_rv]
  refine am_go (va_runV (b := am_ad b base a) (As := As.map (am_v b base)) (rest := st.map (am_v b base)) ⟨hC.1, hC.2.1, hC.2.2.2.2.1, hC.2.2.2.2.2.1, hts⟩ hM ⟨callB_of As.length hts (am_gd hcd) rfl rfl rfl (hts _ hini) (hts _ hlk) hdd hR, hts _ hsx, hts _ hsl⟩ (am_preV _ hC h0 hH hS he hr) rfl (List.length_map _) hL.1 rfl (am_rm8 h8) hd hcu) hS ?_
  intro r h' n' H1 locs1 hq hh0 hHp hS1
  rw [am_tl]
  exact kk r h' n' hq l b base L xs D cA p e s m args below meth c H1 locs1 ls hC hh0 hHp hS1 hL
/-- a call of a Source's method x, where the receiver's class selects N -/
theorem r_callU (pc' : Nat) (hp : pc + 3 = pc') {N X : am_M} {idx a ci : Nat} {fs : List Value} {C : vw_C} (As : List Value) {st0 : List Value} (hst : st0 = As.reverse ++ .ref a :: st) {Q' : am_P} (hd : decode (am_c M) pc = .ok (.invokevirtual idx, 3)) (hcl : am_cl M N As.length) (hlk : Cond.methodLink (am_y M).cls idx (am_y X) ∈ am_T) (hsm : Cond.sameMethod (am_y X).cls (am_y X).cls (am_y X).name (am_y X).desc ∈ am_T) (hxi : Cond.instanceMethod (am_y X) ∈ am_T) (hxc : Cond.code (am_y X) (am_c X) (am_l X) (am_r X) ∈ am_T) (hdx : (am_y X).cls ≠ "java/lang/invoke/MethodHandle" ∧ (am_y X).cls ≠ "java/lang/invoke/VarHandle" ∧ (parseMethodDescriptor (am_y X).desc).map (fun d => d.parameters.length) = some As.length) (hsx : Cond.instanceMethod (am_y N) ∈ am_T) (hr : vwCl[ci]? = some C) (hsl : Cond.selects C.1 (am_y X) (am_y N) ∈ am_T) (he : h a = .inr (.inr (ci, fs)))
    (h8 : (st.map fun v => v.category).sum ≤ 8) (hlen : ∀ b base, (lg_sl ((.ref a :: As).map (am_v b base))).length ≤ am_l N) (hcu : cu + am_mc N ≤ am_mc M ∧ su + am_ms N ≤ am_ms M) (hc : AW N Q' 0 (am_ent (am_l N) (.ref a :: As)) [] h n 0 0)
    (kk : ∀ r h' n', Q' r h' n' → AW M Q pc' lv (r.toList ++ st) h' n' (cu + am_mc N) (su + am_ms N)) : AW M Q pc lv st0 h n cu su := by
  subst hp
  subst hst
  intro l b base L xs D cA p e s m args below meth c H locs ls hC h0 hH hS hL
  have hts := hC.2.2.2.2.2.2.2.1
  obtain ⟨hy, hR, hcd, hini, hdd⟩ := hcl
  have hM := am_met hy hlen hc l b base L xs D cA h0
  rw [am_rv]
  have hcu' : va_CU (am_rm M) s args (am_y M).cls C.1 (am_y X).cls idx (am_y X) (am_y N) (am_c N) (am_l N) (am_r N) (.code (am_y N) (am_c N) (am_l N) (am_r N) :: am_T) (am_rm N) (am_mc N) (am_ms N) As.length := by
    refine ⟨⟨rfl, rfl, hR.1, hR.2, pay_in hts (am_gd hcd), List.mem_cons_self⟩, hts _ hcd, hts _ hini, ⟨hdx.1, hdx.2.1⟩, fun sig h => ?_, hts _ hlk, hts _ hsm, va_Decl.of (hts _ hxi) (hts _ hxc), hts _ hsl, hts _ hsx⟩
    have h2 := hdx.2.2
    rw [h] at h2
    exact (Option.some.inj h2).symm
  refine am_go (va_runU (b := am_ad b base a) (As := As.map (am_v b base)) (rest := st.map (am_v b base)) ⟨hC.1, hC.2.1, hC.2.2.2.2.1, hC.2.2.2.2.2.1, hts⟩ hM hcu' (am_preV _ hC h0 hH hS he hr) rfl (List.length_map _) hL.1 rfl (am_rm8 h8) hd hcu) hS ?_
  intro r h' n' H1 locs1 hq hh0 hHp hS1
  rw [am_tl]
  exact kk r h' n' hq l b base L xs D cA p e s m args below meth c H1 locs1 ls hC hh0 hHp hS1 hL
end AMC
end
section
/-! what the tables say of each method, field and call -/
theorem am_all {ws : List Cond} (ps : List Nat) (hp : ws = ps.filterMap (fun i => lw_tbl[i]?)) (h : ws.all goodWord = true) : ∀ w ∈ ws, w ∈ am_T := by
  intro w hw
  refine am_in ?_ (List.all_eq_true.mp h w hw)
  rw [hp] at hw
  obtain ⟨i, -, hi⟩ := List.mem_filterMap.mp hw
  exact List.mem_of_getElem? hi
set_option maxRecDepth 20000 in
theorem inX0 : ∀ w ∈ u_ws RX0 TX0 4, w ∈ am_T := am_all [178, 180, 182, 184] (by decide +kernel) (by decide +kernel)
set_option maxRecDepth 20000 in
theorem inX1 : ∀ w ∈ u_ws RX1 TX1 3, w ∈ am_T := am_all [425, 427, 429] (by decide +kernel) (by decide +kernel)
set_option maxRecDepth 20000 in
theorem inX2 : ∀ w ∈ u_ws RX2 TX2 3, w ∈ am_T := am_all [438, 439, 440] (by decide +kernel) (by decide +kernel)
set_option maxRecDepth 20000 in
theorem inX3 : ∀ w ∈ u_ws RX3 TX3 2, w ∈ am_T := am_all [83, 85] (by decide +kernel) (by decide +kernel)
set_option maxRecDepth 20000 in
theorem inX4 : ∀ w ∈ u_ws RX4 TX4 3, w ∈ am_T := am_all [464, 465, 466] (by decide +kernel) (by decide +kernel)
set_option maxRecDepth 20000 in
theorem inX5 : ∀ w ∈ u_ws RX5 TX5 11, w ∈ am_T := am_all [141, 143, 145, 147, 149, 151, 153, 155, 157, 159, 161] (by decide +kernel) (by decide +kernel)
set_option maxRecDepth 20000 in
theorem inX6 : ∀ w ∈ u_ws RX6 TX6 3, w ∈ am_T := am_all [448, 449, 450] (by decide +kernel) (by decide +kernel)
set_option maxRecDepth 20000 in
theorem inX7 : ∀ w ∈ u_ws RX7 TX7 3, w ∈ am_T := am_all [101, 103, 105] (by decide +kernel) (by decide +kernel)
set_option maxRecDepth 20000 in
theorem inX8 : ∀ w ∈ u_ws RX8 TX8 3, w ∈ am_T := am_all [458, 459, 460] (by decide +kernel) (by decide +kernel)
set_option maxRecDepth 20000 in
theorem inX9 : ∀ w ∈ u_ws RX9 TX9 15, w ∈ am_T := am_all [202, 204, 206, 208, 210, 212, 214, 216, 218, 220, 222, 224, 226, 228, 230] (by decide +kernel) (by decide +kernel)
set_option maxRecDepth 20000 in
theorem inX10 : ∀ w ∈ u_ws RX10 TX10 34, w ∈ am_T := am_all [728, 730, 732, 734, 736, 738, 740, 742, 744, 746, 748, 750, 752, 754, 756, 758, 760, 762, 764, 766, 768, 770, 772, 774, 776, 778, 780, 782, 784, 786, 788, 790, 792, 794] (by decide +kernel) (by decide +kernel)
theorem ini_X0 : Cond.initialized RX0 ∈ am_T := am_in (List.mem_of_getElem? (i := 54) (by decide +kernel)) rfl
theorem ini_X1 : Cond.initialized RX1 ∈ am_T := am_in (List.mem_of_getElem? (i := 59) (by decide +kernel)) rfl
theorem ini_X2 : Cond.initialized RX2 ∈ am_T := am_in (List.mem_of_getElem? (i := 60) (by decide +kernel)) rfl
theorem ini_X3 : Cond.initialized RX3 ∈ am_T := am_in (List.mem_of_getElem? (i := 51) (by decide +kernel)) rfl
theorem ini_X4 : Cond.initialized RX4 ∈ am_T := am_in (List.mem_of_getElem? (i := 58) (by decide +kernel)) rfl
theorem ini_X5 : Cond.initialized RX5 ∈ am_T := am_in (List.mem_of_getElem? (i := 53) (by decide +kernel)) rfl
theorem ini_X6 : Cond.initialized RX6 ∈ am_T := am_in (List.mem_of_getElem? (i := 61) (by decide +kernel)) rfl
theorem ini_X7 : Cond.initialized RX7 ∈ am_T := am_in (List.mem_of_getElem? (i := 52) (by decide +kernel)) rfl
theorem ini_X8 : Cond.initialized RX8 ∈ am_T := am_in (List.mem_of_getElem? (i := 62) (by decide +kernel)) rfl
theorem ini_X9 : Cond.initialized RX9 ∈ am_T := am_in (List.mem_of_getElem? (i := 50) (by decide +kernel)) rfl
theorem ini_X10 : Cond.initialized RX10 ∈ am_T := am_in (List.mem_of_getElem? (i := 55) (by decide +kernel)) rfl
theorem ini_J6 : Cond.initialized RJ6 ∈ am_T := am_in (List.mem_of_getElem? (i := 63) (by decide +kernel)) rfl
theorem ini_J9 : Cond.initialized RJ9 ∈ am_T := am_in (List.mem_of_getElem? (i := 57) (by decide +kernel)) rfl
theorem ini_L : Cond.initialized RL ∈ am_T := am_in (List.mem_of_getElem? (i := 49) (by decide +kernel)) rfl
def mX0_init : am_M := (yX0_init, cX0_init, 1, none, 1, 20, 4, 32)
set_option maxRecDepth 40000 in
theorem cd_X0_init : Cond.code (am_y mX0_init) (am_c mX0_init) (am_l mX0_init) (am_r mX0_init) ∈ am_T := am_in (List.mem_of_getElem? (i := 169) rfl) rfl
theorem im_X0_init : Cond.instanceMethod (am_y mX0_init) ∈ am_T := am_in (List.mem_of_getElem? (i := 168) (by decide +kernel)) rfl
def mX0_settle : am_M := (yX0_settle, cX0_settle, 7, none, 4, 104, 0, 0)
set_option maxRecDepth 40000 in
theorem cd_X0_settle : Cond.code (am_y mX0_settle) (am_c mX0_settle) (am_l mX0_settle) (am_r mX0_settle) ∈ am_T := am_in (List.mem_of_getElem? (i := 303) rfl) rfl
theorem im_X0_settle : Cond.instanceMethod (am_y mX0_settle) ∈ am_T := am_in (List.mem_of_getElem? (i := 301) (by decide +kernel)) rfl
def mX0_mingle : am_M := (yX0_mingle, cX0_mingle, 4, none, 0, 0, 0, 0)
set_option maxRecDepth 40000 in
theorem cd_X0_mingle : Cond.code (am_y mX0_mingle) (am_c mX0_mingle) (am_l mX0_mingle) (am_r mX0_mingle) ∈ am_T := am_in (List.mem_of_getElem? (i := 374) rfl) rfl
theorem im_X0_mingle : Cond.instanceMethod (am_y mX0_mingle) ∈ am_T := am_in (List.mem_of_getElem? (i := 373) (by decide +kernel)) rfl
def mX0_countBorders : am_M := (yX0_countBorders, cX0_countBorders, 3, (some .int), 1, 22, 0, 0)
set_option maxRecDepth 40000 in
theorem cd_X0_countBorders : Cond.code (am_y mX0_countBorders) (am_c mX0_countBorders) (am_l mX0_countBorders) (am_r mX0_countBorders) ∈ am_T := am_in (List.mem_of_getElem? (i := 386) rfl) rfl
theorem im_X0_countBorders : Cond.instanceMethod (am_y mX0_countBorders) ∈ am_T := am_in (List.mem_of_getElem? (i := 384) (by decide +kernel)) rfl
def mX0_isBorder : am_M := (yX0_isBorder, cX0_isBorder, 3, (some .boolean), 0, 0, 0, 0)
set_option maxRecDepth 40000 in
theorem cd_X0_isBorder : Cond.code (am_y mX0_isBorder) (am_c mX0_isBorder) (am_l mX0_isBorder) (am_r mX0_isBorder) ∈ am_T := am_in (List.mem_of_getElem? (i := 391) rfl) rfl
theorem im_X0_isBorder : Cond.instanceMethod (am_y mX0_isBorder) ∈ am_T := am_in (List.mem_of_getElem? (i := 390) (by decide +kernel)) rfl
def mX0_countOwned : am_M := (yX0_countOwned, cX0_countOwned, 3, (some .int), 0, 0, 0, 0)
set_option maxRecDepth 40000 in
theorem cd_X0_countOwned : Cond.code (am_y mX0_countOwned) (am_c mX0_countOwned) (am_l mX0_countOwned) (am_r mX0_countOwned) ∈ am_T := am_in (List.mem_of_getElem? (i := 670) rfl) rfl
theorem im_X0_countOwned : Cond.instanceMethod (am_y mX0_countOwned) ∈ am_T := am_in (List.mem_of_getElem? (i := 668) (by decide +kernel)) rfl
def mX1_init : am_M := (yX1_init, cX1_init, 4, none, 2, 43, 0, 0)
set_option maxRecDepth 40000 in
theorem cd_X1_init : Cond.code (am_y mX1_init) (am_c mX1_init) (am_l mX1_init) (am_r mX1_init) ∈ am_T := am_in (List.mem_of_getElem? (i := 410) rfl) rfl
theorem im_X1_init : Cond.instanceMethod (am_y mX1_init) ∈ am_T := am_in (List.mem_of_getElem? (i := 409) (by decide +kernel)) rfl
def mX1_kindNumber : am_M := (yX1_kindNumber, cX1_kindNumber, 1, (some .int), 0, 0, 0, 0)
set_option maxRecDepth 40000 in
theorem cd_X1_kindNumber : Cond.code (am_y mX1_kindNumber) (am_c mX1_kindNumber) (am_l mX1_kindNumber) (am_r mX1_kindNumber) ∈ am_T := am_in (List.mem_of_getElem? (i := 490) rfl) rfl
theorem im_X1_kindNumber : Cond.instanceMethod (am_y mX1_kindNumber) ∈ am_T := am_in (List.mem_of_getElem? (i := 489) (by decide +kernel)) rfl
def mX1_force : am_M := (yX1_force, cX1_force, 2, (some .int), 1, 21, 0, 0)
set_option maxRecDepth 40000 in
theorem cd_X1_force : Cond.code (am_y mX1_force) (am_c mX1_force) (am_l mX1_force) (am_r mX1_force) ∈ am_T := am_in (List.mem_of_getElem? (i := 327) rfl) rfl
theorem im_X1_force : Cond.instanceMethod (am_y mX1_force) ∈ am_T := am_in (List.mem_of_getElem? (i := 326) (by decide +kernel)) rfl
def mX2_init : am_M := (yX2_init, cX2_init, 4, none, 2, 43, 0, 0)
set_option maxRecDepth 40000 in
theorem cd_X2_init : Cond.code (am_y mX2_init) (am_c mX2_init) (am_l mX2_init) (am_r mX2_init) ∈ am_T := am_in (List.mem_of_getElem? (i := 436) rfl) rfl
theorem im_X2_init : Cond.instanceMethod (am_y mX2_init) ∈ am_T := am_in (List.mem_of_getElem? (i := 435) (by decide +kernel)) rfl
def mX2_kindNumber : am_M := (yX2_kindNumber, cX2_kindNumber, 1, (some .int), 0, 0, 0, 0)
set_option maxRecDepth 40000 in
theorem cd_X2_kindNumber : Cond.code (am_y mX2_kindNumber) (am_c mX2_kindNumber) (am_l mX2_kindNumber) (am_r mX2_kindNumber) ∈ am_T := am_in (List.mem_of_getElem? (i := 493) rfl) rfl
theorem im_X2_kindNumber : Cond.instanceMethod (am_y mX2_kindNumber) ∈ am_T := am_in (List.mem_of_getElem? (i := 492) (by decide +kernel)) rfl
def mX2_smellsAt : am_M := (yX2_smellsAt, cX2_smellsAt, 3, (some .boolean), 0, 0, 0, 0)
set_option maxRecDepth 40000 in
theorem cd_X2_smellsAt : Cond.code (am_y mX2_smellsAt) (am_c mX2_smellsAt) (am_l mX2_smellsAt) (am_r mX2_smellsAt) ∈ am_T := am_in (List.mem_of_getElem? (i := 315) rfl) rfl
theorem im_X2_smellsAt : Cond.instanceMethod (am_y mX2_smellsAt) ∈ am_T := am_in (List.mem_of_getElem? (i := 314) (by decide +kernel)) rfl
def mX3_init : am_M := (yX3_init, cX3_init, 1, none, 1, 20, 1, 14)
set_option maxRecDepth 40000 in
theorem cd_X3_init : Cond.code (am_y mX3_init) (am_c mX3_init) (am_l mX3_init) (am_r mX3_init) ∈ am_T := am_in (List.mem_of_getElem? (i := 76) rfl) rfl
theorem im_X3_init : Cond.instanceMethod (am_y mX3_init) ∈ am_T := am_in (List.mem_of_getElem? (i := 75) (by decide +kernel)) rfl
def mX3_isFull : am_M := (yX3_isFull, cX3_isFull, 1, (some .boolean), 0, 0, 0, 0)
set_option maxRecDepth 40000 in
theorem cd_X3_isFull : Cond.code (am_y mX3_isFull) (am_c mX3_isFull) (am_l mX3_isFull) (am_r mX3_isFull) ∈ am_T := am_in (List.mem_of_getElem? (i := 240) rfl) rfl
theorem im_X3_isFull : Cond.instanceMethod (am_y mX3_isFull) ∈ am_T := am_in (List.mem_of_getElem? (i := 238) (by decide +kernel)) rfl
def mX3_append : am_M := (yX3_append, cX3_append, 2, none, 1, 20, 0, 0)
set_option maxRecDepth 40000 in
theorem cd_X3_append : Cond.code (am_y mX3_append) (am_c mX3_append) (am_l mX3_append) (am_r mX3_append) ∈ am_T := am_in (List.mem_of_getElem? (i := 244) rfl) rfl
theorem im_X3_append : Cond.instanceMethod (am_y mX3_append) ∈ am_T := am_in (List.mem_of_getElem? (i := 242) (by decide +kernel)) rfl
def mX3_firstWrong : am_M := (yX3_firstWrong, cX3_firstWrong, 2, (some .int), 1, 21, 0, 0)
set_option maxRecDepth 40000 in
theorem cd_X3_firstWrong : Cond.code (am_y mX3_firstWrong) (am_c mX3_firstWrong) (am_l mX3_firstWrong) (am_r mX3_firstWrong) ∈ am_T := am_in (List.mem_of_getElem? (i := 257) rfl) rfl
theorem im_X3_firstWrong : Cond.instanceMethod (am_y mX3_firstWrong) ∈ am_T := am_in (List.mem_of_getElem? (i := 255) (by decide +kernel)) rfl
def mX3_isValley : am_M := (yX3_isValley, cX3_isValley, 1, (some .boolean), 2, 42, 0, 0)
set_option maxRecDepth 40000 in
theorem cd_X3_isValley : Cond.code (am_y mX3_isValley) (am_c mX3_isValley) (am_l mX3_isValley) (am_r mX3_isValley) ∈ am_T := am_in (List.mem_of_getElem? (i := 268) rfl) rfl
theorem im_X3_isValley : Cond.instanceMethod (am_y mX3_isValley) ∈ am_T := am_in (List.mem_of_getElem? (i := 266) (by decide +kernel)) rfl
def mX3_placeOf : am_M := (yX3_placeOf, cX3_placeOf, 1, (some .int), 0, 0, 0, 0)
set_option maxRecDepth 40000 in
theorem cd_X3_placeOf : Cond.code (am_y mX3_placeOf) (am_c mX3_placeOf) (am_l mX3_placeOf) (am_r mX3_placeOf) ∈ am_T := am_in (List.mem_of_getElem? (i := 276) rfl) rfl
theorem st_X3_placeOf : Cond.static (am_y mX3_placeOf) ∈ am_T := am_in (List.mem_of_getElem? (i := 275) (by decide +kernel)) rfl
def mX3_fits : am_M := (yX3_fits, cX3_fits, 2, (some .boolean), 0, 0, 0, 0)
set_option maxRecDepth 40000 in
theorem cd_X3_fits : Cond.code (am_y mX3_fits) (am_c mX3_fits) (am_l mX3_fits) (am_r mX3_fits) ∈ am_T := am_in (List.mem_of_getElem? (i := 260) rfl) rfl
theorem st_X3_fits : Cond.static (am_y mX3_fits) ∈ am_T := am_in (List.mem_of_getElem? (i := 259) (by decide +kernel)) rfl
def mX4_init : am_M := (yX4_init, cX4_init, 4, none, 1, 20, 0, 0)
set_option maxRecDepth 40000 in
theorem cd_X4_init : Cond.code (am_y mX4_init) (am_c mX4_init) (am_l mX4_init) (am_r mX4_init) ∈ am_T := am_in (List.mem_of_getElem? (i := 413) rfl) rfl
theorem im_X4_init : Cond.instanceMethod (am_y mX4_init) ∈ am_T := am_in (List.mem_of_getElem? (i := 412) (by decide +kernel)) rfl
def mX4_kindNumber : am_M := (yX4_kindNumber, cX4_kindNumber, 1, (some .int), 0, 0, 0, 0)
set_option maxRecDepth 40000 in
theorem cd_X4_kindNumber : Cond.code (am_y mX4_kindNumber) (am_c mX4_kindNumber) (am_l mX4_kindNumber) (am_r mX4_kindNumber) ∈ am_T := am_in (List.mem_of_getElem? (i := 500) rfl) rfl
theorem im_X4_kindNumber : Cond.instanceMethod (am_y mX4_kindNumber) ∈ am_T := am_in (List.mem_of_getElem? (i := 485) (by decide +kernel)) rfl
def mX4_force : am_M := (yX4_force, cX4_force, 2, (some .int), 0, 0, 0, 0)
set_option maxRecDepth 40000 in
theorem cd_X4_force : Cond.code (am_y mX4_force) (am_c mX4_force) (am_l mX4_force) (am_r mX4_force) ∈ am_T := am_in (List.mem_of_getElem? (i := 334) rfl) rfl
theorem im_X4_force : Cond.instanceMethod (am_y mX4_force) ∈ am_T := am_in (List.mem_of_getElem? (i := 322) (by decide +kernel)) rfl
def mX4_smellsAt : am_M := (yX4_smellsAt, cX4_smellsAt, 3, (some .boolean), 0, 0, 0, 0)
set_option maxRecDepth 40000 in
theorem cd_X4_smellsAt : Cond.code (am_y mX4_smellsAt) (am_c mX4_smellsAt) (am_l mX4_smellsAt) (am_r mX4_smellsAt) ∈ am_T := am_in (List.mem_of_getElem? (i := 320) rfl) rfl
theorem im_X4_smellsAt : Cond.instanceMethod (am_y mX4_smellsAt) ∈ am_T := am_in (List.mem_of_getElem? (i := 309) (by decide +kernel)) rfl
def mX4_ease : am_M := (yX4_ease, cX4_ease, 1, (some .int), 0, 0, 0, 0)
set_option maxRecDepth 40000 in
theorem cd_X4_ease : Cond.code (am_y mX4_ease) (am_c mX4_ease) (am_l mX4_ease) (am_r mX4_ease) ∈ am_T := am_in (List.mem_of_getElem? (i := 345) rfl) rfl
theorem im_X4_ease : Cond.instanceMethod (am_y mX4_ease) ∈ am_T := am_in (List.mem_of_getElem? (i := 336) (by decide +kernel)) rfl
def mX5_init : am_M := (yX5_init, cX5_init, 1, none, 1, 20, 6, 39)
set_option maxRecDepth 40000 in
theorem cd_X5_init : Cond.code (am_y mX5_init) (am_c mX5_init) (am_l mX5_init) (am_r mX5_init) ∈ am_T := am_in (List.mem_of_getElem? (i := 114) rfl) rfl
theorem im_X5_init : Cond.instanceMethod (am_y mX5_init) ∈ am_T := am_in (List.mem_of_getElem? (i := 113) (by decide +kernel)) rfl
def mX5_copyFrom : am_M := (yX5_copyFrom, cX5_copyFrom, 3, none, 1, 40, 0, 0)
set_option maxRecDepth 40000 in
theorem cd_X5_copyFrom : Cond.code (am_y mX5_copyFrom) (am_c mX5_copyFrom) (am_l mX5_copyFrom) (am_r mX5_copyFrom) ∈ am_T := am_in (List.mem_of_getElem? (i := 280) rfl) rfl
theorem im_X5_copyFrom : Cond.instanceMethod (am_y mX5_copyFrom) ∈ am_T := am_in (List.mem_of_getElem? (i := 278) (by decide +kernel)) rfl
def mX5_addSource : am_M := (yX5_addSource, cX5_addSource, 1, (some .int), 0, 0, 0, 0)
set_option maxRecDepth 40000 in
theorem cd_X5_addSource : Cond.code (am_y mX5_addSource) (am_c mX5_addSource) (am_l mX5_addSource) (am_r mX5_addSource) ∈ am_T := am_in (List.mem_of_getElem? (i := 471) rfl) rfl
theorem im_X5_addSource : Cond.instanceMethod (am_y mX5_addSource) ∈ am_T := am_in (List.mem_of_getElem? (i := 469) (by decide +kernel)) rfl
def mX5_addNose : am_M := (yX5_addNose, cX5_addNose, 3, none, 0, 0, 0, 0)
set_option maxRecDepth 40000 in
theorem cd_X5_addNose : Cond.code (am_y mX5_addNose) (am_c mX5_addNose) (am_l mX5_addNose) (am_r mX5_addNose) ∈ am_T := am_in (List.mem_of_getElem? (i := 596) rfl) rfl
theorem im_X5_addNose : Cond.instanceMethod (am_y mX5_addNose) ∈ am_T := am_in (List.mem_of_getElem? (i := 594) (by decide +kernel)) rfl
def mX5_smells : am_M := (yX5_smells, cX5_smells, 3, (some .boolean), 1, 22, 0, 0)
set_option maxRecDepth 40000 in
theorem cd_X5_smells : Cond.code (am_y mX5_smells) (am_c mX5_smells) (am_l mX5_smells) (am_r mX5_smells) ∈ am_T := am_in (List.mem_of_getElem? (i := 307) rfl) rfl
theorem im_X5_smells : Cond.instanceMethod (am_y mX5_smells) ∈ am_T := am_in (List.mem_of_getElem? (i := 305) (by decide +kernel)) rfl
def mX5_countBurning : am_M := (yX5_countBurning, cX5_countBurning, 3, (some .int), 0, 0, 0, 0)
set_option maxRecDepth 40000 in
theorem cd_X5_countBurning : Cond.code (am_y mX5_countBurning) (am_c mX5_countBurning) (am_l mX5_countBurning) (am_r mX5_countBurning) ∈ am_T := am_in (List.mem_of_getElem? (i := 666) rfl) rfl
theorem im_X5_countBurning : Cond.instanceMethod (am_y mX5_countBurning) ∈ am_T := am_in (List.mem_of_getElem? (i := 664) (by decide +kernel)) rfl
def mX5_endHour : am_M := (yX5_endHour, cX5_endHour, 2, none, 0, 0, 0, 0)
set_option maxRecDepth 40000 in
theorem cd_X5_endHour : Cond.code (am_y mX5_endHour) (am_c mX5_endHour) (am_l mX5_endHour) (am_r mX5_endHour) ∈ am_T := am_in (List.mem_of_getElem? (i := 543) rfl) rfl
theorem im_X5_endHour : Cond.instanceMethod (am_y mX5_endHour) ∈ am_T := am_in (List.mem_of_getElem? (i := 541) (by decide +kernel)) rfl
def mX6_init : am_M := (yX6_init, cX6_init, 4, none, 2, 43, 0, 0)
set_option maxRecDepth 40000 in
theorem cd_X6_init : Cond.code (am_y mX6_init) (am_c mX6_init) (am_l mX6_init) (am_r mX6_init) ∈ am_T := am_in (List.mem_of_getElem? (i := 446) rfl) rfl
theorem im_X6_init : Cond.instanceMethod (am_y mX6_init) ∈ am_T := am_in (List.mem_of_getElem? (i := 445) (by decide +kernel)) rfl
def mX6_kindNumber : am_M := (yX6_kindNumber, cX6_kindNumber, 1, (some .int), 0, 0, 0, 0)
set_option maxRecDepth 40000 in
theorem cd_X6_kindNumber : Cond.code (am_y mX6_kindNumber) (am_c mX6_kindNumber) (am_l mX6_kindNumber) (am_r mX6_kindNumber) ∈ am_T := am_in (List.mem_of_getElem? (i := 496) rfl) rfl
theorem im_X6_kindNumber : Cond.instanceMethod (am_y mX6_kindNumber) ∈ am_T := am_in (List.mem_of_getElem? (i := 495) (by decide +kernel)) rfl
def mX6_ease : am_M := (yX6_ease, cX6_ease, 1, (some .int), 0, 0, 0, 0)
set_option maxRecDepth 40000 in
theorem cd_X6_ease : Cond.code (am_y mX6_ease) (am_c mX6_ease) (am_l mX6_ease) (am_r mX6_ease) ∈ am_T := am_in (List.mem_of_getElem? (i := 343) rfl) rfl
theorem im_X6_ease : Cond.instanceMethod (am_y mX6_ease) ∈ am_T := am_in (List.mem_of_getElem? (i := 342) (by decide +kernel)) rfl
def mX7_init : am_M := (yX7_init, cX7_init, 1, none, 1, 20, 1, 8)
set_option maxRecDepth 40000 in
theorem cd_X7_init : Cond.code (am_y mX7_init) (am_c mX7_init) (am_l mX7_init) (am_r mX7_init) ∈ am_T := am_in (List.mem_of_getElem? (i := 93) rfl) rfl
theorem im_X7_init : Cond.instanceMethod (am_y mX7_init) ∈ am_T := am_in (List.mem_of_getElem? (i := 92) (by decide +kernel)) rfl
def mX7_isThere : am_M := (yX7_isThere, cX7_isThere, 1, (some .boolean), 0, 0, 0, 0)
set_option maxRecDepth 40000 in
theorem cd_X7_isThere : Cond.code (am_y mX7_isThere) (am_c mX7_isThere) (am_l mX7_isThere) (am_r mX7_isThere) ∈ am_T := am_in (List.mem_of_getElem? (i := 295) rfl) rfl
theorem im_X7_isThere : Cond.instanceMethod (am_y mX7_isThere) ∈ am_T := am_in (List.mem_of_getElem? (i := 293) (by decide +kernel)) rfl
def mX7_isOpen : am_M := (yX7_isOpen, cX7_isOpen, 2, (some .boolean), 0, 0, 0, 0)
set_option maxRecDepth 40000 in
theorem cd_X7_isOpen : Cond.code (am_y mX7_isOpen) (am_c mX7_isOpen) (am_l mX7_isOpen) (am_r mX7_isOpen) ∈ am_T := am_in (List.mem_of_getElem? (i := 402) rfl) rfl
theorem im_X7_isOpen : Cond.instanceMethod (am_y mX7_isOpen) ∈ am_T := am_in (List.mem_of_getElem? (i := 400) (by decide +kernel)) rfl
def mX7_isWall : am_M := (yX7_isWall, cX7_isWall, 2, (some .boolean), 0, 0, 0, 0)
set_option maxRecDepth 40000 in
theorem cd_X7_isWall : Cond.code (am_y mX7_isWall) (am_c mX7_isWall) (am_l mX7_isWall) (am_r mX7_isWall) ∈ am_T := am_in (List.mem_of_getElem? (i := 360) rfl) rfl
theorem im_X7_isWall : Cond.instanceMethod (am_y mX7_isWall) ∈ am_T := am_in (List.mem_of_getElem? (i := 358) (by decide +kernel)) rfl
def mX7_take : am_M := (yX7_take, cX7_take, 4, none, 1, 20, 0, 0)
set_option maxRecDepth 40000 in
theorem cd_X7_take : Cond.code (am_y mX7_take) (am_c mX7_take) (am_l mX7_take) (am_r mX7_take) ∈ am_T := am_in (List.mem_of_getElem? (i := 273) rfl) rfl
theorem im_X7_take : Cond.instanceMethod (am_y mX7_take) ∈ am_T := am_in (List.mem_of_getElem? (i := 271) (by decide +kernel)) rfl
def mX7_beside : am_M := (yX7_beside, cX7_beside, 2, (some .int), 0, 0, 0, 0)
set_option maxRecDepth 40000 in
theorem cd_X7_beside : Cond.code (am_y mX7_beside) (am_c mX7_beside) (am_l mX7_beside) (am_r mX7_beside) ∈ am_T := am_in (List.mem_of_getElem? (i := 356) rfl) rfl
theorem st_X7_beside : Cond.static (am_y mX7_beside) ∈ am_T := am_in (List.mem_of_getElem? (i := 355) (by decide +kernel)) rfl
def mX7_opposite : am_M := (yX7_opposite, cX7_opposite, 1, (some .int), 0, 0, 0, 0)
set_option maxRecDepth 40000 in
theorem cd_X7_opposite : Cond.code (am_y mX7_opposite) (am_c mX7_opposite) (am_l mX7_opposite) (am_r mX7_opposite) ∈ am_T := am_in (List.mem_of_getElem? (i := 367) rfl) rfl
theorem st_X7_opposite : Cond.static (am_y mX7_opposite) ∈ am_T := am_in (List.mem_of_getElem? (i := 366) (by decide +kernel)) rfl
def mX7_loss : am_M := (yX7_loss, cX7_loss, 6, (some .int), 1, 21, 0, 0)
set_option maxRecDepth 40000 in
theorem cd_X7_loss : Cond.code (am_y mX7_loss) (am_c mX7_loss) (am_l mX7_loss) (am_r mX7_loss) ∈ am_T := am_in (List.mem_of_getElem? (i := 364) rfl) rfl
theorem im_X7_loss : Cond.instanceMethod (am_y mX7_loss) ∈ am_T := am_in (List.mem_of_getElem? (i := 362) (by decide +kernel)) rfl
def mX7_spread : am_M := (yX7_spread, cX7_spread, 10, none, 3, 75, 0, 0)
set_option maxRecDepth 40000 in
theorem cd_X7_spread : Cond.code (am_y mX7_spread) (am_c mX7_spread) (am_l mX7_spread) (am_r mX7_spread) ∈ am_T := am_in (List.mem_of_getElem? (i := 349) rfl) rfl
theorem im_X7_spread : Cond.instanceMethod (am_y mX7_spread) ∈ am_T := am_in (List.mem_of_getElem? (i := 347) (by decide +kernel)) rfl
def mX7_spreadOn : am_M := (yX7_spreadOn, cX7_spreadOn, 10, (some .boolean), 2, 46, 0, 0)
set_option maxRecDepth 40000 in
theorem cd_X7_spreadOn : Cond.code (am_y mX7_spreadOn) (am_c mX7_spreadOn) (am_l mX7_spreadOn) (am_r mX7_spreadOn) ∈ am_T := am_in (List.mem_of_getElem? (i := 353) rfl) rfl
theorem im_X7_spreadOn : Cond.instanceMethod (am_y mX7_spreadOn) ∈ am_T := am_in (List.mem_of_getElem? (i := 352) (by decide +kernel)) rfl
def mX8_init : am_M := (yX8_init, cX8_init, 4, none, 3, 66, 0, 0)
set_option maxRecDepth 40000 in
theorem cd_X8_init : Cond.code (am_y mX8_init) (am_c mX8_init) (am_l mX8_init) (am_r mX8_init) ∈ am_T := am_in (List.mem_of_getElem? (i := 456) rfl) rfl
theorem im_X8_init : Cond.instanceMethod (am_y mX8_init) ∈ am_T := am_in (List.mem_of_getElem? (i := 455) (by decide +kernel)) rfl
def mX8_kindNumber : am_M := (yX8_kindNumber, cX8_kindNumber, 1, (some .int), 0, 0, 0, 0)
set_option maxRecDepth 40000 in
theorem cd_X8_kindNumber : Cond.code (am_y mX8_kindNumber) (am_c mX8_kindNumber) (am_l mX8_kindNumber) (am_r mX8_kindNumber) ∈ am_T := am_in (List.mem_of_getElem? (i := 499) rfl) rfl
theorem im_X8_kindNumber : Cond.instanceMethod (am_y mX8_kindNumber) ∈ am_T := am_in (List.mem_of_getElem? (i := 498) (by decide +kernel)) rfl
def mX8_smellsAt : am_M := (yX8_smellsAt, cX8_smellsAt, 3, (some .boolean), 0, 0, 0, 0)
set_option maxRecDepth 40000 in
theorem cd_X8_smellsAt : Cond.code (am_y mX8_smellsAt) (am_c mX8_smellsAt) (am_l mX8_smellsAt) (am_r mX8_smellsAt) ∈ am_T := am_in (List.mem_of_getElem? (i := 319) rfl) rfl
theorem im_X8_smellsAt : Cond.instanceMethod (am_y mX8_smellsAt) ∈ am_T := am_in (List.mem_of_getElem? (i := 318) (by decide +kernel)) rfl
def mX9_init : am_M := (yX9_init, cX9_init, 1, none, 2, 40, 35, 275)
set_option maxRecDepth 40000 in
theorem cd_X9_init : Cond.code (am_y mX9_init) (am_c mX9_init) (am_l mX9_init) (am_r mX9_init) ∈ am_T := am_in (List.mem_of_getElem? (i := 68) rfl) rfl
theorem im_X9_init : Cond.instanceMethod (am_y mX9_init) ∈ am_T := am_in (List.mem_of_getElem? (i := 67) (by decide +kernel)) rfl
def mX9_letter : am_M := (yX9_letter, cX9_letter, 2, (some .int), 2, 41, 0, 0)
set_option maxRecDepth 40000 in
theorem cd_X9_letter : Cond.code (am_y mX9_letter) (am_c mX9_letter) (am_l mX9_letter) (am_r mX9_letter) ∈ am_T := am_in (List.mem_of_getElem? (i := 236) rfl) rfl
theorem im_X9_letter : Cond.instanceMethod (am_y mX9_letter) ∈ am_T := am_in (List.mem_of_getElem? (i := 234) (by decide +kernel)) rfl
def mX9_blank : am_M := (yX9_blank, cX9_blank, 2, (some .int), 0, 0, 0, 0)
set_option maxRecDepth 40000 in
theorem cd_X9_blank : Cond.code (am_y mX9_blank) (am_c mX9_blank) (am_l mX9_blank) (am_r mX9_blank) ∈ am_T := am_in (List.mem_of_getElem? (i := 249) rfl) rfl
theorem im_X9_blank : Cond.instanceMethod (am_y mX9_blank) ∈ am_T := am_in (List.mem_of_getElem? (i := 247) (by decide +kernel)) rfl
def mX9_fault : am_M := (yX9_fault, cX9_fault, 1, (some .int), 2, 42, 0, 0)
set_option maxRecDepth 40000 in
theorem cd_X9_fault : Cond.code (am_y mX9_fault) (am_c mX9_fault) (am_l mX9_fault) (am_r mX9_fault) ∈ am_T := am_in (List.mem_of_getElem? (i := 253) rfl) rfl
theorem im_X9_fault : Cond.instanceMethod (am_y mX9_fault) ∈ am_T := am_in (List.mem_of_getElem? (i := 251) (by decide +kernel)) rfl
def mX9_valley : am_M := (yX9_valley, cX9_valley, 1, (some .int), 3, 62, 7, 50)
set_option maxRecDepth 40000 in
theorem cd_X9_valley : Cond.code (am_y mX9_valley) (am_c mX9_valley) (am_l mX9_valley) (am_r mX9_valley) ∈ am_T := am_in (List.mem_of_getElem? (i := 264) rfl) rfl
theorem im_X9_valley : Cond.instanceMethod (am_y mX9_valley) ∈ am_T := am_in (List.mem_of_getElem? (i := 262) (by decide +kernel)) rfl
def mX9_cell : am_M := (yX9_cell, cX9_cell, 3, (some .int), 6, 150, 0, 0)
set_option maxRecDepth 40000 in
theorem cd_X9_cell : Cond.code (am_y mX9_cell) (am_c mX9_cell) (am_l mX9_cell) (am_r mX9_cell) ∈ am_T := am_in (List.mem_of_getElem? (i := 287) rfl) rfl
theorem im_X9_cell : Cond.instanceMethod (am_y mX9_cell) ∈ am_T := am_in (List.mem_of_getElem? (i := 285) (by decide +kernel)) rfl
def mX9_borders : am_M := (yX9_borders, cX9_borders, 1, (some .int), 6, 150, 0, 0)
set_option maxRecDepth 40000 in
theorem cd_X9_borders : Cond.code (am_y mX9_borders) (am_c mX9_borders) (am_l mX9_borders) (am_r mX9_borders) ∈ am_T := am_in (List.mem_of_getElem? (i := 382) rfl) rfl
theorem im_X9_borders : Cond.instanceMethod (am_y mX9_borders) ∈ am_T := am_in (List.mem_of_getElem? (i := 380) (by decide +kernel)) rfl
def mX9_source : am_M := (yX9_source, cX9_source, 5, (some .int), 5, 112, 1, 3)
set_option maxRecDepth 40000 in
theorem cd_X9_source : Cond.code (am_y mX9_source) (am_c mX9_source) (am_l mX9_source) (am_r mX9_source) ∈ am_T := am_in (List.mem_of_getElem? (i := 395) rfl) rfl
theorem im_X9_source : Cond.instanceMethod (am_y mX9_source) ∈ am_T := am_in (List.mem_of_getElem? (i := 393) (by decide +kernel)) rfl
def mX9_about : am_M := (yX9_about, cX9_about, 4, (some .int), 4, 104, 0, 0)
set_option maxRecDepth 40000 in
theorem cd_X9_about : Cond.code (am_y mX9_about) (am_c mX9_about) (am_l mX9_about) (am_r mX9_about) ∈ am_T := am_in (List.mem_of_getElem? (i := 475) rfl) rfl
theorem im_X9_about : Cond.instanceMethod (am_y mX9_about) ∈ am_T := am_in (List.mem_of_getElem? (i := 473) (by decide +kernel)) rfl
def mX9_as : am_M := (yX9_as, cX9_as, 4, (some .int), 1, 21, 0, 0)
set_option maxRecDepth 40000 in
theorem cd_X9_as : Cond.code (am_y mX9_as) (am_c mX9_as) (am_l mX9_as) (am_r mX9_as) ∈ am_T := am_in (List.mem_of_getElem? (i := 511) rfl) rfl
theorem im_X9_as : Cond.instanceMethod (am_y mX9_as) ∈ am_T := am_in (List.mem_of_getElem? (i := 509) (by decide +kernel)) rfl
def mX9_burn : am_M := (yX9_burn, cX9_burn, 4, (some .int), 1, 21, 0, 0)
set_option maxRecDepth 40000 in
theorem cd_X9_burn : Cond.code (am_y mX9_burn) (am_c mX9_burn) (am_l mX9_burn) (am_r mX9_burn) ∈ am_T := am_in (List.mem_of_getElem? (i := 518) rfl) rfl
theorem im_X9_burn : Cond.instanceMethod (am_y mX9_burn) ∈ am_T := am_in (List.mem_of_getElem? (i := 516) (by decide +kernel)) rfl
def mX9_wind : am_M := (yX9_wind, cX9_wind, 3, (some .int), 1, 20, 0, 0)
set_option maxRecDepth 40000 in
theorem cd_X9_wind : Cond.code (am_y mX9_wind) (am_c mX9_wind) (am_l mX9_wind) (am_r mX9_wind) ∈ am_T := am_in (List.mem_of_getElem? (i := 522) rfl) rfl
theorem im_X9_wind : Cond.instanceMethod (am_y mX9_wind) ∈ am_T := am_in (List.mem_of_getElem? (i := 520) (by decide +kernel)) rfl
def mX9_frost : am_M := (yX9_frost, cX9_frost, 3, (some .int), 1, 20, 0, 0)
set_option maxRecDepth 40000 in
theorem cd_X9_frost : Cond.code (am_y mX9_frost) (am_c mX9_frost) (am_l mX9_frost) (am_r mX9_frost) ∈ am_T := am_in (List.mem_of_getElem? (i := 526) rfl) rfl
theorem im_X9_frost : Cond.instanceMethod (am_y mX9_frost) ∈ am_T := am_in (List.mem_of_getElem? (i := 524) (by decide +kernel)) rfl
def mX9_people : am_M := (yX9_people, cX9_people, 4, (some .int), 2, 41, 0, 0)
set_option maxRecDepth 40000 in
theorem cd_X9_people : Cond.code (am_y mX9_people) (am_c mX9_people) (am_l mX9_people) (am_r mX9_people) ∈ am_T := am_in (List.mem_of_getElem? (i := 530) rfl) rfl
theorem im_X9_people : Cond.instanceMethod (am_y mX9_people) ∈ am_T := am_in (List.mem_of_getElem? (i := 528) (by decide +kernel)) rfl
def mX9_dusk : am_M := (yX9_dusk, cX9_dusk, 5, (some .int), 6, 150, 0, 0)
set_option maxRecDepth 40000 in
theorem cd_X9_dusk : Cond.code (am_y mX9_dusk) (am_c mX9_dusk) (am_l mX9_dusk) (am_r mX9_dusk) ∈ am_T := am_in (List.mem_of_getElem? (i := 535) rfl) rfl
theorem im_X9_dusk : Cond.instanceMethod (am_y mX9_dusk) ∈ am_T := am_in (List.mem_of_getElem? (i := 533) (by decide +kernel)) rfl
def mX9_hour : am_M := (yX9_hour, cX9_hour, 1, (some .int), 1, 21, 0, 0)
set_option maxRecDepth 40000 in
theorem cd_X9_hour : Cond.code (am_y mX9_hour) (am_c mX9_hour) (am_l mX9_hour) (am_r mX9_hour) ∈ am_T := am_in (List.mem_of_getElem? (i := 539) rfl) rfl
theorem im_X9_hour : Cond.instanceMethod (am_y mX9_hour) ∈ am_T := am_in (List.mem_of_getElem? (i := 537) (by decide +kernel)) rfl
def mX9_weakest : am_M := (yX9_weakest, cX9_weakest, 6, (some .int), 6, 150, 0, 0)
set_option maxRecDepth 40000 in
theorem cd_X9_weakest : Cond.code (am_y mX9_weakest) (am_c mX9_weakest) (am_l mX9_weakest) (am_r mX9_weakest) ∈ am_T := am_in (List.mem_of_getElem? (i := 547) rfl) rfl
theorem im_X9_weakest : Cond.instanceMethod (am_y mX9_weakest) ∈ am_T := am_in (List.mem_of_getElem? (i := 545) (by decide +kernel)) rfl
def mX9_walls : am_M := (yX9_walls, cX9_walls, 5, (some .int), 6, 156, 0, 0)
set_option maxRecDepth 40000 in
theorem cd_X9_walls : Cond.code (am_y mX9_walls) (am_c mX9_walls) (am_l mX9_walls) (am_r mX9_walls) ∈ am_T := am_in (List.mem_of_getElem? (i := 562) rfl) rfl
theorem im_X9_walls : Cond.instanceMethod (am_y mX9_walls) ∈ am_T := am_in (List.mem_of_getElem? (i := 560) (by decide +kernel)) rfl
def mX9_hold : am_M := (yX9_hold, cX9_hold, 3, (some .int), 6, 153, 0, 0)
set_option maxRecDepth 40000 in
theorem cd_X9_hold : Cond.code (am_y mX9_hold) (am_c mX9_hold) (am_l mX9_hold) (am_r mX9_hold) ∈ am_T := am_in (List.mem_of_getElem? (i := 580) rfl) rfl
theorem im_X9_hold : Cond.instanceMethod (am_y mX9_hold) ∈ am_T := am_in (List.mem_of_getElem? (i := 578) (by decide +kernel)) rfl
def mX9_nose : am_M := (yX9_nose, cX9_nose, 3, (some .int), 2, 41, 0, 0)
set_option maxRecDepth 40000 in
theorem cd_X9_nose : Cond.code (am_y mX9_nose) (am_c mX9_nose) (am_l mX9_nose) (am_r mX9_nose) ∈ am_T := am_in (List.mem_of_getElem? (i := 592) rfl) rfl
theorem im_X9_nose : Cond.instanceMethod (am_y mX9_nose) ∈ am_T := am_in (List.mem_of_getElem? (i := 590) (by decide +kernel)) rfl
def mX9_forget : am_M := (yX9_forget, cX9_forget, 2, (some .int), 0, 0, 0, 0)
set_option maxRecDepth 40000 in
theorem cd_X9_forget : Cond.code (am_y mX9_forget) (am_c mX9_forget) (am_l mX9_forget) (am_r mX9_forget) ∈ am_T := am_in (List.mem_of_getElem? (i := 600) rfl) rfl
theorem im_X9_forget : Cond.instanceMethod (am_y mX9_forget) ∈ am_T := am_in (List.mem_of_getElem? (i := 598) (by decide +kernel)) rfl
def mX9_unknown : am_M := (yX9_unknown, cX9_unknown, 5, (some .int), 6, 150, 0, 0)
set_option maxRecDepth 40000 in
theorem cd_X9_unknown : Cond.code (am_y mX9_unknown) (am_c mX9_unknown) (am_l mX9_unknown) (am_r mX9_unknown) ∈ am_T := am_in (List.mem_of_getElem? (i := 604) rfl) rfl
theorem im_X9_unknown : Cond.instanceMethod (am_y mX9_unknown) ∈ am_T := am_in (List.mem_of_getElem? (i := 602) (by decide +kernel)) rfl
def mX9_sniff : am_M := (yX9_sniff, cX9_sniff, 1, (some .int), 7, 174, 0, 0)
set_option maxRecDepth 40000 in
theorem cd_X9_sniff : Cond.code (am_y mX9_sniff) (am_c mX9_sniff) (am_l mX9_sniff) (am_r mX9_sniff) ∈ am_T := am_in (List.mem_of_getElem? (i := 623) rfl) rfl
theorem im_X9_sniff : Cond.instanceMethod (am_y mX9_sniff) ∈ am_T := am_in (List.mem_of_getElem? (i := 621) (by decide +kernel)) rfl
def mX9_days : am_M := (yX9_days, cX9_days, 7, (some .int), 5, 130, 0, 0)
set_option maxRecDepth 40000 in
theorem cd_X9_days : Cond.code (am_y mX9_days) (am_c mX9_days) (am_l mX9_days) (am_r mX9_days) ∈ am_T := am_in (List.mem_of_getElem? (i := 636) rfl) rfl
theorem im_X9_days : Cond.instanceMethod (am_y mX9_days) ∈ am_T := am_in (List.mem_of_getElem? (i := 634) (by decide +kernel)) rfl
def mX9_image : am_M := (yX9_image, cX9_image, 1, (some .int), 2, 62, 0, 0)
set_option maxRecDepth 40000 in
theorem cd_X9_image : Cond.code (am_y mX9_image) (am_c mX9_image) (am_l mX9_image) (am_r mX9_image) ∈ am_T := am_in (List.mem_of_getElem? (i := 650) rfl) rfl
theorem im_X9_image : Cond.instanceMethod (am_y mX9_image) ∈ am_T := am_in (List.mem_of_getElem? (i := 648) (by decide +kernel)) rfl
def mX9_restore : am_M := (yX9_restore, cX9_restore, 1, (some .int), 2, 62, 0, 0)
set_option maxRecDepth 40000 in
theorem cd_X9_restore : Cond.code (am_y mX9_restore) (am_c mX9_restore) (am_l mX9_restore) (am_r mX9_restore) ∈ am_T := am_in (List.mem_of_getElem? (i := 654) rfl) rfl
theorem im_X9_restore : Cond.instanceMethod (am_y mX9_restore) ∈ am_T := am_in (List.mem_of_getElem? (i := 652) (by decide +kernel)) rfl
def mX9_count : am_M := (yX9_count, cX9_count, 2, (some .int), 6, 150, 0, 0)
set_option maxRecDepth 40000 in
theorem cd_X9_count : Cond.code (am_y mX9_count) (am_c mX9_count) (am_l mX9_count) (am_r mX9_count) ∈ am_T := am_in (List.mem_of_getElem? (i := 658) rfl) rfl
theorem im_X9_count : Cond.instanceMethod (am_y mX9_count) ∈ am_T := am_in (List.mem_of_getElem? (i := 656) (by decide +kernel)) rfl
def mX9_digest : am_M := (yX9_digest, cX9_digest, 4, (some .long), 6, 153, 0, 0)
set_option maxRecDepth 40000 in
theorem cd_X9_digest : Cond.code (am_y mX9_digest) (am_c mX9_digest) (am_l mX9_digest) (am_r mX9_digest) ∈ am_T := am_in (List.mem_of_getElem? (i := 674) rfl) rfl
theorem im_X9_digest : Cond.instanceMethod (am_y mX9_digest) ∈ am_T := am_in (List.mem_of_getElem? (i := 672) (by decide +kernel)) rfl
def mX9_isParish : am_M := (yX9_isParish, cX9_isParish, 1, (some .boolean), 0, 0, 0, 0)
set_option maxRecDepth 40000 in
theorem cd_X9_isParish : Cond.code (am_y mX9_isParish) (am_c mX9_isParish) (am_l mX9_isParish) (am_r mX9_isParish) ∈ am_T := am_in (List.mem_of_getElem? (i := 398) rfl) rfl
theorem st_X9_isParish : Cond.static (am_y mX9_isParish) ∈ am_T := am_in (List.mem_of_getElem? (i := 397) (by decide +kernel)) rfl
def mX9_isZeroOrOne : am_M := (yX9_isZeroOrOne, cX9_isZeroOrOne, 1, (some .boolean), 0, 0, 0, 0)
set_option maxRecDepth 40000 in
theorem cd_X9_isZeroOrOne : Cond.code (am_y mX9_isZeroOrOne) (am_c mX9_isZeroOrOne) (am_l mX9_isZeroOrOne) (am_r mX9_isZeroOrOne) ∈ am_T := am_in (List.mem_of_getElem? (i := 550) rfl) rfl
theorem st_X9_isZeroOrOne : Cond.static (am_y mX9_isZeroOrOne) ∈ am_T := am_in (List.mem_of_getElem? (i := 549) (by decide +kernel)) rfl
def mX9_bit : am_M := (yX9_bit, cX9_bit, 1, (some .int), 0, 0, 0, 0)
set_option maxRecDepth 40000 in
theorem cd_X9_bit : Cond.code (am_y mX9_bit) (am_c mX9_bit) (am_l mX9_bit) (am_r mX9_bit) ∈ am_T := am_in (List.mem_of_getElem? (i := 503) rfl) rfl
theorem st_X9_bit : Cond.static (am_y mX9_bit) ∈ am_T := am_in (List.mem_of_getElem? (i := 502) (by decide +kernel)) rfl
def mX9_mix : am_M := (yX9_mix, cX9_mix, 4, (some .long), 0, 0, 0, 0)
set_option maxRecDepth 40000 in
theorem cd_X9_mix : Cond.code (am_y mX9_mix) (am_c mX9_mix) (am_l mX9_mix) (am_r mX9_mix) ∈ am_T := am_in (List.mem_of_getElem? (i := 682) rfl) rfl
theorem st_X9_mix : Cond.static (am_y mX9_mix) ∈ am_T := am_in (List.mem_of_getElem? (i := 681) (by decide +kernel)) rfl
def mX9_nextSeed : am_M := (yX9_nextSeed, cX9_nextSeed, 1, (some .int), 0, 0, 0, 0)
set_option maxRecDepth 40000 in
theorem cd_X9_nextSeed : Cond.code (am_y mX9_nextSeed) (am_c mX9_nextSeed) (am_l mX9_nextSeed) (am_r mX9_nextSeed) ∈ am_T := am_in (List.mem_of_getElem? (i := 639) rfl) rfl
theorem st_X9_nextSeed : Cond.static (am_y mX9_nextSeed) ∈ am_T := am_in (List.mem_of_getElem? (i := 638) (by decide +kernel)) rfl
def mX9_draw : am_M := (yX9_draw, cX9_draw, 2, (some .int), 0, 0, 0, 0)
set_option maxRecDepth 40000 in
theorem cd_X9_draw : Cond.code (am_y mX9_draw) (am_c mX9_draw) (am_l mX9_draw) (am_r mX9_draw) ∈ am_T := am_in (List.mem_of_getElem? (i := 645) rfl) rfl
theorem st_X9_draw : Cond.static (am_y mX9_draw) ∈ am_T := am_in (List.mem_of_getElem? (i := 644) (by decide +kernel)) rfl
def mX9_make : am_M := (yX9_make, cX9_make, 4, (some (.object "SmellBorders$Source")), 4, 89, 1, 3)
set_option maxRecDepth 40000 in
theorem cd_X9_make : Cond.code (am_y mX9_make) (am_c mX9_make) (am_l mX9_make) (am_r mX9_make) ∈ am_T := am_in (List.mem_of_getElem? (i := 405) rfl) rfl
theorem st_X9_make : Cond.static (am_y mX9_make) ∈ am_T := am_in (List.mem_of_getElem? (i := 404) (by decide +kernel)) rfl
def mX9_isOfKind : am_M := (yX9_isOfKind, cX9_isOfKind, 2, (some .boolean), 0, 0, 0, 0)
set_option maxRecDepth 40000 in
theorem cd_X9_isOfKind : Cond.code (am_y mX9_isOfKind) (am_c mX9_isOfKind) (am_l mX9_isOfKind) (am_r mX9_isOfKind) ∈ am_T := am_in (List.mem_of_getElem? (i := 514) rfl) rfl
theorem st_X9_isOfKind : Cond.static (am_y mX9_isOfKind) ∈ am_T := am_in (List.mem_of_getElem? (i := 513) (by decide +kernel)) rfl
def mX9_isCell : am_M := (yX9_isCell, cX9_isCell, 2, (some .boolean), 1, 20, 0, 0)
set_option maxRecDepth 40000 in
theorem cd_X9_isCell : Cond.code (am_y mX9_isCell) (am_c mX9_isCell) (am_l mX9_isCell) (am_r mX9_isCell) ∈ am_T := am_in (List.mem_of_getElem? (i := 291) rfl) rfl
theorem im_X9_isCell : Cond.instanceMethod (am_y mX9_isCell) ∈ am_T := am_in (List.mem_of_getElem? (i := 290) (by decide +kernel)) rfl
def mX9_find : am_M := (yX9_find, cX9_find, 2, (some (.object "SmellBorders$Source")), 0, 0, 0, 0)
set_option maxRecDepth 40000 in
theorem cd_X9_find : Cond.code (am_y mX9_find) (am_c mX9_find) (am_l mX9_find) (am_r mX9_find) ∈ am_T := am_in (List.mem_of_getElem? (i := 479) rfl) rfl
theorem im_X9_find : Cond.instanceMethod (am_y mX9_find) ∈ am_T := am_in (List.mem_of_getElem? (i := 478) (by decide +kernel)) rfl
def mX9_settleNow : am_M := (yX9_settleNow, cX9_settleNow, 1, none, 5, 130, 0, 0)
set_option maxRecDepth 40000 in
theorem cd_X9_settleNow : Cond.code (am_y mX9_settleNow) (am_c mX9_settleNow) (am_l mX9_settleNow) (am_r mX9_settleNow) ∈ am_T := am_in (List.mem_of_getElem? (i := 299) rfl) rfl
theorem im_X9_settleNow : Cond.instanceMethod (am_y mX9_settleNow) ∈ am_T := am_in (List.mem_of_getElem? (i := 298) (by decide +kernel)) rfl
def mX9_mayAsk : am_M := (yX9_mayAsk, cX9_mayAsk, 1, (some .boolean), 1, 20, 0, 0)
set_option maxRecDepth 40000 in
theorem cd_X9_mayAsk : Cond.code (am_y mX9_mayAsk) (am_c mX9_mayAsk) (am_l mX9_mayAsk) (am_r mX9_mayAsk) ∈ am_T := am_in (List.mem_of_getElem? (i := 608) rfl) rfl
theorem im_X9_mayAsk : Cond.instanceMethod (am_y mX9_mayAsk) ∈ am_T := am_in (List.mem_of_getElem? (i := 607) (by decide +kernel)) rfl
def mX9_tellOfCell : am_M := (yX9_tellOfCell, cX9_tellOfCell, 3, (some .int), 0, 0, 0, 0)
set_option maxRecDepth 40000 in
theorem cd_X9_tellOfCell : Cond.code (am_y mX9_tellOfCell) (am_c mX9_tellOfCell) (am_l mX9_tellOfCell) (am_r mX9_tellOfCell) ∈ am_T := am_in (List.mem_of_getElem? (i := 378) rfl) rfl
theorem im_X9_tellOfCell : Cond.instanceMethod (am_y mX9_tellOfCell) ∈ am_T := am_in (List.mem_of_getElem? (i := 377) (by decide +kernel)) rfl
def mX9_tellOfSource : am_M := (yX9_tellOfSource, cX9_tellOfSource, 4, (some .int), 2, 44, 0, 0)
set_option maxRecDepth 40000 in
theorem cd_X9_tellOfSource : Cond.code (am_y mX9_tellOfSource) (am_c mX9_tellOfSource) (am_l mX9_tellOfSource) (am_r mX9_tellOfSource) ∈ am_T := am_in (List.mem_of_getElem? (i := 483) rfl) rfl
theorem im_X9_tellOfSource : Cond.instanceMethod (am_y mX9_tellOfSource) ∈ am_T := am_in (List.mem_of_getElem? (i := 482) (by decide +kernel)) rfl
def mX9_tellOfAll : am_M := (yX9_tellOfAll, cX9_tellOfAll, 2, (some .int), 1, 22, 0, 0)
set_option maxRecDepth 40000 in
theorem cd_X9_tellOfAll : Cond.code (am_y mX9_tellOfAll) (am_c mX9_tellOfAll) (am_l mX9_tellOfAll) (am_r mX9_tellOfAll) ∈ am_T := am_in (List.mem_of_getElem? (i := 662) rfl) rfl
theorem im_X9_tellOfAll : Cond.instanceMethod (am_y mX9_tellOfAll) ∈ am_T := am_in (List.mem_of_getElem? (i := 661) (by decide +kernel)) rfl
def mX9_digestCells : am_M := (yX9_digestCells, cX9_digestCells, 7, (some .long), 1, 23, 0, 0)
set_option maxRecDepth 40000 in
theorem cd_X9_digestCells : Cond.code (am_y mX9_digestCells) (am_c mX9_digestCells) (am_l mX9_digestCells) (am_r mX9_digestCells) ∈ am_T := am_in (List.mem_of_getElem? (i := 679) rfl) rfl
theorem im_X9_digestCells : Cond.instanceMethod (am_y mX9_digestCells) ∈ am_T := am_in (List.mem_of_getElem? (i := 678) (by decide +kernel)) rfl
def mX9_digestSource : am_M := (yX9_digestSource, cX9_digestSource, 8, (some .long), 3, 67, 0, 0)
set_option maxRecDepth 40000 in
theorem cd_X9_digestSource : Cond.code (am_y mX9_digestSource) (am_c mX9_digestSource) (am_l mX9_digestSource) (am_r mX9_digestSource) ∈ am_T := am_in (List.mem_of_getElem? (i := 687) rfl) rfl
theorem im_X9_digestSource : Cond.instanceMethod (am_y mX9_digestSource) ∈ am_T := am_in (List.mem_of_getElem? (i := 686) (by decide +kernel)) rfl
def mX9_spreadOneMore : am_M := (yX9_spreadOneMore, cX9_spreadOneMore, 3, none, 4, 104, 0, 0)
set_option maxRecDepth 40000 in
theorem cd_X9_spreadOneMore : Cond.code (am_y mX9_spreadOneMore) (am_c mX9_spreadOneMore) (am_l mX9_spreadOneMore) (am_r mX9_spreadOneMore) ∈ am_T := am_in (List.mem_of_getElem? (i := 558) rfl) rfl
theorem im_X9_spreadOneMore : Cond.instanceMethod (am_y mX9_spreadOneMore) ∈ am_T := am_in (List.mem_of_getElem? (i := 557) (by decide +kernel)) rfl
def mX9_wouldWin : am_M := (yX9_wouldWin, cX9_wouldWin, 4, (some .boolean), 5, 126, 0, 0)
set_option maxRecDepth 40000 in
theorem cd_X9_wouldWin : Cond.code (am_y mX9_wouldWin) (am_c mX9_wouldWin) (am_l mX9_wouldWin) (am_r mX9_wouldWin) ∈ am_T := am_in (List.mem_of_getElem? (i := 554) rfl) rfl
theorem im_X9_wouldWin : Cond.instanceMethod (am_y mX9_wouldWin) ∈ am_T := am_in (List.mem_of_getElem? (i := 553) (by decide +kernel)) rfl
def mX9_fewestWalls : am_M := (yX9_fewestWalls, cX9_fewestWalls, 7, (some .int), 5, 130, 0, 0)
set_option maxRecDepth 40000 in
theorem cd_X9_fewestWalls : Cond.code (am_y mX9_fewestWalls) (am_c mX9_fewestWalls) (am_l mX9_fewestWalls) (am_r mX9_fewestWalls) ∈ am_T := am_in (List.mem_of_getElem? (i := 566) rfl) rfl
theorem im_X9_fewestWalls : Cond.instanceMethod (am_y mX9_fewestWalls) ∈ am_T := am_in (List.mem_of_getElem? (i := 565) (by decide +kernel)) rfl
def mX9_cellsFreeForWalls : am_M := (yX9_cellsFreeForWalls, cX9_cellsFreeForWalls, 5, (some .int), 1, 21, 0, 0)
set_option maxRecDepth 40000 in
theorem cd_X9_cellsFreeForWalls : Cond.code (am_y mX9_cellsFreeForWalls) (am_c mX9_cellsFreeForWalls) (am_l mX9_cellsFreeForWalls) (am_r mX9_cellsFreeForWalls) ∈ am_T := am_in (List.mem_of_getElem? (i := 570) rfl) rfl
theorem im_X9_cellsFreeForWalls : Cond.instanceMethod (am_y mX9_cellsFreeForWalls) ∈ am_T := am_in (List.mem_of_getElem? (i := 569) (by decide +kernel)) rfl
def mX9_watchHolders : am_M := (yX9_watchHolders, cX9_watchHolders, 4, none, 5, 130, 0, 0)
set_option maxRecDepth 40000 in
theorem cd_X9_watchHolders : Cond.code (am_y mX9_watchHolders) (am_c mX9_watchHolders) (am_l mX9_watchHolders) (am_r mX9_watchHolders) ∈ am_T := am_in (List.mem_of_getElem? (i := 584) rfl) rfl
theorem im_X9_watchHolders : Cond.instanceMethod (am_y mX9_watchHolders) ∈ am_T := am_in (List.mem_of_getElem? (i := 583) (by decide +kernel)) rfl
def mX9_heldBy : am_M := (yX9_heldBy, cX9_heldBy, 3, (some .int), 0, 0, 0, 0)
set_option maxRecDepth 40000 in
theorem cd_X9_heldBy : Cond.code (am_y mX9_heldBy) (am_c mX9_heldBy) (am_l mX9_heldBy) (am_r mX9_heldBy) ∈ am_T := am_in (List.mem_of_getElem? (i := 588) rfl) rfl
theorem im_X9_heldBy : Cond.instanceMethod (am_y mX9_heldBy) ∈ am_T := am_in (List.mem_of_getElem? (i := 587) (by decide +kernel)) rfl
def mX9_fitsNoses : am_M := (yX9_fitsNoses, cX9_fitsNoses, 5, (some .boolean), 5, 126, 0, 0)
set_option maxRecDepth 40000 in
theorem cd_X9_fitsNoses : Cond.code (am_y mX9_fitsNoses) (am_c mX9_fitsNoses) (am_l mX9_fitsNoses) (am_r mX9_fitsNoses) ∈ am_T := am_in (List.mem_of_getElem? (i := 612) rfl) rfl
theorem im_X9_fitsNoses : Cond.instanceMethod (am_y mX9_fitsNoses) ∈ am_T := am_in (List.mem_of_getElem? (i := 611) (by decide +kernel)) rfl
def mX9_parishOf : am_M := (yX9_parishOf, cX9_parishOf, 1, (some .int), 0, 0, 0, 0)
set_option maxRecDepth 40000 in
theorem cd_X9_parishOf : Cond.code (am_y mX9_parishOf) (am_c mX9_parishOf) (am_l mX9_parishOf) (am_r mX9_parishOf) ∈ am_T := am_in (List.mem_of_getElem? (i := 615) rfl) rfl
theorem st_X9_parishOf : Cond.static (am_y mX9_parishOf) ∈ am_T := am_in (List.mem_of_getElem? (i := 614) (by decide +kernel)) rfl
def mX9_whoseWith : am_M := (yX9_whoseWith, cX9_whoseWith, 3, (some .int), 0, 0, 0, 0)
set_option maxRecDepth 40000 in
theorem cd_X9_whoseWith : Cond.code (am_y mX9_whoseWith) (am_c mX9_whoseWith) (am_l mX9_whoseWith) (am_r mX9_whoseWith) ∈ am_T := am_in (List.mem_of_getElem? (i := 619) rfl) rfl
theorem im_X9_whoseWith : Cond.instanceMethod (am_y mX9_whoseWith) ∈ am_T := am_in (List.mem_of_getElem? (i := 618) (by decide +kernel)) rfl
def mX9_tallyFindings : am_M := (yX9_tallyFindings, cX9_tallyFindings, 5, (some .int), 6, 150, 0, 0)
set_option maxRecDepth 40000 in
theorem cd_X9_tallyFindings : Cond.code (am_y mX9_tallyFindings) (am_c mX9_tallyFindings) (am_l mX9_tallyFindings) (am_r mX9_tallyFindings) ∈ am_T := am_in (List.mem_of_getElem? (i := 627) rfl) rfl
theorem im_X9_tallyFindings : Cond.instanceMethod (am_y mX9_tallyFindings) ∈ am_T := am_in (List.mem_of_getElem? (i := 626) (by decide +kernel)) rfl
def mX9_cellOfFewestLeft : am_M := (yX9_cellOfFewestLeft, cX9_cellOfFewestLeft, 6, (some .int), 1, 21, 0, 0)
set_option maxRecDepth 40000 in
theorem cd_X9_cellOfFewestLeft : Cond.code (am_y mX9_cellOfFewestLeft) (am_c mX9_cellOfFewestLeft) (am_l mX9_cellOfFewestLeft) (am_r mX9_cellOfFewestLeft) ∈ am_T := am_in (List.mem_of_getElem? (i := 631) rfl) rfl
theorem im_X9_cellOfFewestLeft : Cond.instanceMethod (am_y mX9_cellOfFewestLeft) ∈ am_T := am_in (List.mem_of_getElem? (i := 630) (by decide +kernel)) rfl
def mX10_init : am_M := (yX10_init, cX10_init, 1, none, 1, 20, 16, 266)
set_option maxRecDepth 40000 in
theorem cd_X10_init : Cond.code (am_y mX10_init) (am_c mX10_init) (am_l mX10_init) (am_r mX10_init) ∈ am_T := am_in (List.mem_of_getElem? (i := 692) rfl) rfl
theorem im_X10_init : Cond.instanceMethod (am_y mX10_init) ∈ am_T := am_in (List.mem_of_getElem? (i := 691) (by decide +kernel)) rfl
def mX10_in : am_M := (yX10_in, cX10_in, 6, (some .boolean), 0, 0, 0, 0)
set_option maxRecDepth 40000 in
theorem cd_X10_in : Cond.code (am_y mX10_in) (am_c mX10_in) (am_l mX10_in) (am_r mX10_in) ∈ am_T := am_in (List.mem_of_getElem? (i := 804) rfl) rfl
theorem st_X10_in : Cond.static (am_y mX10_in) ∈ am_T := am_in (List.mem_of_getElem? (i := 803) (by decide +kernel)) rfl
def mX10_letter : am_M := (yX10_letter, cX10_letter, 2, (some .int), 1, 25, 0, 0)
set_option maxRecDepth 40000 in
theorem cd_X10_letter : Cond.code (am_y mX10_letter) (am_c mX10_letter) (am_l mX10_letter) (am_r mX10_letter) ∈ am_T := am_in (List.mem_of_getElem? (i := 800) rfl) rfl
theorem im_X10_letter : Cond.instanceMethod (am_y mX10_letter) ∈ am_T := am_in (List.mem_of_getElem? (i := 798) (by decide +kernel)) rfl
def mX10_blank : am_M := (yX10_blank, cX10_blank, 2, (some .int), 0, 0, 0, 0)
set_option maxRecDepth 40000 in
theorem cd_X10_blank : Cond.code (am_y mX10_blank) (am_c mX10_blank) (am_l mX10_blank) (am_r mX10_blank) ∈ am_T := am_in (List.mem_of_getElem? (i := 808) rfl) rfl
theorem im_X10_blank : Cond.instanceMethod (am_y mX10_blank) ∈ am_T := am_in (List.mem_of_getElem? (i := 806) (by decide +kernel)) rfl
def mX10_isGood : am_M := (yX10_isGood, cX10_isGood, 2, (some .boolean), 1, 25, 0, 0)
set_option maxRecDepth 40000 in
theorem cd_X10_isGood : Cond.code (am_y mX10_isGood) (am_c mX10_isGood) (am_l mX10_isGood) (am_r mX10_isGood) ∈ am_T := am_in (List.mem_of_getElem? (i := 819) rfl) rfl
theorem st_X10_isGood : Cond.static (am_y mX10_isGood) ∈ am_T := am_in (List.mem_of_getElem? (i := 818) (by decide +kernel)) rfl
def mX10_faultOf : am_M := (yX10_faultOf, cX10_faultOf, 2, (some .int), 2, 46, 0, 0)
set_option maxRecDepth 40000 in
theorem cd_X10_faultOf : Cond.code (am_y mX10_faultOf) (am_c mX10_faultOf) (am_l mX10_faultOf) (am_r mX10_faultOf) ∈ am_T := am_in (List.mem_of_getElem? (i := 816) rfl) rfl
theorem im_X10_faultOf : Cond.instanceMethod (am_y mX10_faultOf) ∈ am_T := am_in (List.mem_of_getElem? (i := 815) (by decide +kernel)) rfl
def mX10_fault : am_M := (yX10_fault, cX10_fault, 1, (some .int), 3, 67, 0, 0)
set_option maxRecDepth 40000 in
theorem cd_X10_fault : Cond.code (am_y mX10_fault) (am_c mX10_fault) (am_l mX10_fault) (am_r mX10_fault) ∈ am_T := am_in (List.mem_of_getElem? (i := 812) rfl) rfl
theorem im_X10_fault : Cond.instanceMethod (am_y mX10_fault) ∈ am_T := am_in (List.mem_of_getElem? (i := 810) (by decide +kernel)) rfl
def mX10_opens : am_M := (yX10_opens, cX10_opens, 3, (some .int), 0, 0, 0, 0)
set_option maxRecDepth 40000 in
theorem cd_X10_opens : Cond.code (am_y mX10_opens) (am_c mX10_opens) (am_l mX10_opens) (am_r mX10_opens) ∈ am_T := am_in (List.mem_of_getElem? (i := 829) rfl) rfl
theorem im_X10_opens : Cond.instanceMethod (am_y mX10_opens) ∈ am_T := am_in (List.mem_of_getElem? (i := 828) (by decide +kernel)) rfl
def mX10_valley : am_M := (yX10_valley, cX10_valley, 3, (some .int), 3, 67, 0, 0)
set_option maxRecDepth 40000 in
theorem cd_X10_valley : Cond.code (am_y mX10_valley) (am_c mX10_valley) (am_l mX10_valley) (am_r mX10_valley) ∈ am_T := am_in (List.mem_of_getElem? (i := 825) rfl) rfl
theorem im_X10_valley : Cond.instanceMethod (am_y mX10_valley) ∈ am_T := am_in (List.mem_of_getElem? (i := 823) (by decide +kernel)) rfl
def mX10_lacks : am_M := (yX10_lacks, cX10_lacks, 1, (some .boolean), 0, 0, 0, 0)
set_option maxRecDepth 40000 in
theorem cd_X10_lacks : Cond.code (am_y mX10_lacks) (am_c mX10_lacks) (am_l mX10_lacks) (am_r mX10_lacks) ∈ am_T := am_in (List.mem_of_getElem? (i := 845) rfl) rfl
theorem im_X10_lacks : Cond.instanceMethod (am_y mX10_lacks) ∈ am_T := am_in (List.mem_of_getElem? (i := 844) (by decide +kernel)) rfl
def mX10_isCell : am_M := (yX10_isCell, cX10_isCell, 2, (some .boolean), 1, 25, 0, 0)
set_option maxRecDepth 40000 in
theorem cd_X10_isCell : Cond.code (am_y mX10_isCell) (am_c mX10_isCell) (am_l mX10_isCell) (am_r mX10_isCell) ∈ am_T := am_in (List.mem_of_getElem? (i := 840) rfl) rfl
theorem im_X10_isCell : Cond.instanceMethod (am_y mX10_isCell) ∈ am_T := am_in (List.mem_of_getElem? (i := 839) (by decide +kernel)) rfl
def mX10_isSource : am_M := (yX10_isSource, cX10_isSource, 2, (some .boolean), 1, 25, 0, 0)
set_option maxRecDepth 40000 in
theorem cd_X10_isSource : Cond.code (am_y mX10_isSource) (am_c mX10_isSource) (am_l mX10_isSource) (am_r mX10_isSource) ∈ am_T := am_in (List.mem_of_getElem? (i := 903) rfl) rfl
theorem im_X10_isSource : Cond.instanceMethod (am_y mX10_isSource) ∈ am_T := am_in (List.mem_of_getElem? (i := 902) (by decide +kernel)) rfl
def mX10_lay : am_M := (yX10_lay, cX10_lay, 6, none, 0, 0, 0, 0)
set_option maxRecDepth 40000 in
theorem cd_X10_lay : Cond.code (am_y mX10_lay) (am_c mX10_lay) (am_l mX10_lay) (am_r mX10_lay) ∈ am_T := am_in (List.mem_of_getElem? (i := 849) rfl) rfl
theorem im_X10_lay : Cond.instanceMethod (am_y mX10_lay) ∈ am_T := am_in (List.mem_of_getElem? (i := 848) (by decide +kernel)) rfl
def mX10_source : am_M := (yX10_source, cX10_source, 5, (some .int), 2, 46, 0, 0)
set_option maxRecDepth 40000 in
theorem cd_X10_source : Cond.code (am_y mX10_source) (am_c mX10_source) (am_l mX10_source) (am_r mX10_source) ∈ am_T := am_in (List.mem_of_getElem? (i := 833) rfl) rfl
theorem im_X10_source : Cond.instanceMethod (am_y mX10_source) ∈ am_T := am_in (List.mem_of_getElem? (i := 831) (by decide +kernel)) rfl
def mX10_smells : am_M := (yX10_smells, cX10_smells, 3, (some .boolean), 0, 0, 0, 0)
set_option maxRecDepth 40000 in
theorem cd_X10_smells : Cond.code (am_y mX10_smells) (am_c mX10_smells) (am_l mX10_smells) (am_r mX10_smells) ∈ am_T := am_in (List.mem_of_getElem? (i := 869) rfl) rfl
theorem im_X10_smells : Cond.instanceMethod (am_y mX10_smells) ∈ am_T := am_in (List.mem_of_getElem? (i := 868) (by decide +kernel)) rfl
def mX10_forceOf : am_M := (yX10_forceOf, cX10_forceOf, 3, (some .int), 0, 0, 0, 0)
set_option maxRecDepth 40000 in
theorem cd_X10_forceOf : Cond.code (am_y mX10_forceOf) (am_c mX10_forceOf) (am_l mX10_forceOf) (am_r mX10_forceOf) ∈ am_T := am_in (List.mem_of_getElem? (i := 873) rfl) rfl
theorem im_X10_forceOf : Cond.instanceMethod (am_y mX10_forceOf) ∈ am_T := am_in (List.mem_of_getElem? (i := 872) (by decide +kernel)) rfl
def mX10_beside : am_M := (yX10_beside, cX10_beside, 3, (some .int), 0, 0, 0, 0)
set_option maxRecDepth 40000 in
theorem cd_X10_beside : Cond.code (am_y mX10_beside) (am_c mX10_beside) (am_l mX10_beside) (am_r mX10_beside) ∈ am_T := am_in (List.mem_of_getElem? (i := 876) rfl) rfl
theorem st_X10_beside : Cond.static (am_y mX10_beside) ∈ am_T := am_in (List.mem_of_getElem? (i := 875) (by decide +kernel)) rfl
def mX10_against : am_M := (yX10_against, cX10_against, 1, (some .int), 0, 0, 0, 0)
set_option maxRecDepth 40000 in
theorem cd_X10_against : Cond.code (am_y mX10_against) (am_c mX10_against) (am_l mX10_against) (am_r mX10_against) ∈ am_T := am_in (List.mem_of_getElem? (i := 883) rfl) rfl
theorem st_X10_against : Cond.static (am_y mX10_against) ∈ am_T := am_in (List.mem_of_getElem? (i := 882) (by decide +kernel)) rfl
def mX10_lossOf : am_M := (yX10_lossOf, cX10_lossOf, 5, (some .int), 1, 20, 0, 0)
set_option maxRecDepth 40000 in
theorem cd_X10_lossOf : Cond.code (am_y mX10_lossOf) (am_c mX10_lossOf) (am_l mX10_lossOf) (am_r mX10_lossOf) ∈ am_T := am_in (List.mem_of_getElem? (i := 880) rfl) rfl
theorem im_X10_lossOf : Cond.instanceMethod (am_y mX10_lossOf) ∈ am_T := am_in (List.mem_of_getElem? (i := 879) (by decide +kernel)) rfl
def mX10_layMuch : am_M := (yX10_layMuch, cX10_layMuch, 8, none, 2, 44, 0, 0)
set_option maxRecDepth 40000 in
theorem cd_X10_layMuch : Cond.code (am_y mX10_layMuch) (am_c mX10_layMuch) (am_l mX10_layMuch) (am_r mX10_layMuch) ∈ am_T := am_in (List.mem_of_getElem? (i := 865) rfl) rfl
theorem im_X10_layMuch : Cond.instanceMethod (am_y mX10_layMuch) ∈ am_T := am_in (List.mem_of_getElem? (i := 864) (by decide +kernel)) rfl
def mX10_layCells : am_M := (yX10_layCells, cX10_layCells, 3, none, 3, 71, 0, 0)
set_option maxRecDepth 40000 in
theorem cd_X10_layCells : Cond.code (am_y mX10_layCells) (am_c mX10_layCells) (am_l mX10_layCells) (am_r mX10_layCells) ∈ am_T := am_in (List.mem_of_getElem? (i := 861) rfl) rfl
theorem im_X10_layCells : Cond.instanceMethod (am_y mX10_layCells) ∈ am_T := am_in (List.mem_of_getElem? (i := 860) (by decide +kernel)) rfl
def mX10_whose : am_M := (yX10_whose, cX10_whose, 2, (some .int), 0, 0, 0, 0)
set_option maxRecDepth 40000 in
theorem cd_X10_whose : Cond.code (am_y mX10_whose) (am_c mX10_whose) (am_l mX10_whose) (am_r mX10_whose) ∈ am_T := am_in (List.mem_of_getElem? (i := 887) rfl) rfl
theorem im_X10_whose : Cond.instanceMethod (am_y mX10_whose) ∈ am_T := am_in (List.mem_of_getElem? (i := 886) (by decide +kernel)) rfl
def mX10_tellCell : am_M := (yX10_tellCell, cX10_tellCell, 3, (some .int), 4, 93, 0, 0)
set_option maxRecDepth 40000 in
theorem cd_X10_tellCell : Cond.code (am_y mX10_tellCell) (am_c mX10_tellCell) (am_l mX10_tellCell) (am_r mX10_tellCell) ∈ am_T := am_in (List.mem_of_getElem? (i := 857) rfl) rfl
theorem im_X10_tellCell : Cond.instanceMethod (am_y mX10_tellCell) ∈ am_T := am_in (List.mem_of_getElem? (i := 856) (by decide +kernel)) rfl
def mX10_cell : am_M := (yX10_cell, cX10_cell, 3, (some .int), 5, 115, 0, 0)
set_option maxRecDepth 40000 in
theorem cd_X10_cell : Cond.code (am_y mX10_cell) (am_c mX10_cell) (am_l mX10_cell) (am_r mX10_cell) ∈ am_T := am_in (List.mem_of_getElem? (i := 853) rfl) rfl
theorem im_X10_cell : Cond.instanceMethod (am_y mX10_cell) ∈ am_T := am_in (List.mem_of_getElem? (i := 851) (by decide +kernel)) rfl
def mX10_bordersOf : am_M := (yX10_bordersOf, cX10_bordersOf, 5, (some .int), 4, 93, 0, 0)
set_option maxRecDepth 40000 in
theorem cd_X10_bordersOf : Cond.code (am_y mX10_bordersOf) (am_c mX10_bordersOf) (am_l mX10_bordersOf) (am_r mX10_bordersOf) ∈ am_T := am_in (List.mem_of_getElem? (i := 895) rfl) rfl
theorem im_X10_bordersOf : Cond.instanceMethod (am_y mX10_bordersOf) ∈ am_T := am_in (List.mem_of_getElem? (i := 894) (by decide +kernel)) rfl
def mX10_borders : am_M := (yX10_borders, cX10_borders, 1, (some .int), 5, 117, 0, 0)
set_option maxRecDepth 40000 in
theorem cd_X10_borders : Cond.code (am_y mX10_borders) (am_c mX10_borders) (am_l mX10_borders) (am_r mX10_borders) ∈ am_T := am_in (List.mem_of_getElem? (i := 891) rfl) rfl
theorem im_X10_borders : Cond.instanceMethod (am_y mX10_borders) ∈ am_T := am_in (List.mem_of_getElem? (i := 889) (by decide +kernel)) rfl
def mX10_tell : am_M := (yX10_tell, cX10_tell, 3, (some .int), 3, 71, 0, 0)
set_option maxRecDepth 40000 in
theorem cd_X10_tell : Cond.code (am_y mX10_tell) (am_c mX10_tell) (am_l mX10_tell) (am_r mX10_tell) ∈ am_T := am_in (List.mem_of_getElem? (i := 907) rfl) rfl
theorem im_X10_tell : Cond.instanceMethod (am_y mX10_tell) ∈ am_T := am_in (List.mem_of_getElem? (i := 906) (by decide +kernel)) rfl
def mX10_about : am_M := (yX10_about, cX10_about, 3, (some .int), 4, 93, 0, 0)
set_option maxRecDepth 40000 in
theorem cd_X10_about : Cond.code (am_y mX10_about) (am_c mX10_about) (am_l mX10_about) (am_r mX10_about) ∈ am_T := am_in (List.mem_of_getElem? (i := 899) rfl) rfl
theorem im_X10_about : Cond.instanceMethod (am_y mX10_about) ∈ am_T := am_in (List.mem_of_getElem? (i := 897) (by decide +kernel)) rfl
def mX10_as : am_M := (yX10_as, cX10_as, 5, (some .int), 2, 46, 0, 0)
set_option maxRecDepth 40000 in
theorem cd_X10_as : Cond.code (am_y mX10_as) (am_c mX10_as) (am_l mX10_as) (am_r mX10_as) ∈ am_T := am_in (List.mem_of_getElem? (i := 914) rfl) rfl
theorem im_X10_as : Cond.instanceMethod (am_y mX10_as) ∈ am_T := am_in (List.mem_of_getElem? (i := 912) (by decide +kernel)) rfl
def mX10_burn : am_M := (yX10_burn, cX10_burn, 4, (some .int), 2, 46, 0, 0)
set_option maxRecDepth 40000 in
theorem cd_X10_burn : Cond.code (am_y mX10_burn) (am_c mX10_burn) (am_l mX10_burn) (am_r mX10_burn) ∈ am_T := am_in (List.mem_of_getElem? (i := 918) rfl) rfl
theorem im_X10_burn : Cond.instanceMethod (am_y mX10_burn) ∈ am_T := am_in (List.mem_of_getElem? (i := 916) (by decide +kernel)) rfl
def mX10_wind : am_M := (yX10_wind, cX10_wind, 3, (some .int), 1, 25, 0, 0)
set_option maxRecDepth 40000 in
theorem cd_X10_wind : Cond.code (am_y mX10_wind) (am_c mX10_wind) (am_l mX10_wind) (am_r mX10_wind) ∈ am_T := am_in (List.mem_of_getElem? (i := 922) rfl) rfl
theorem im_X10_wind : Cond.instanceMethod (am_y mX10_wind) ∈ am_T := am_in (List.mem_of_getElem? (i := 920) (by decide +kernel)) rfl
def mX10_frost : am_M := (yX10_frost, cX10_frost, 3, (some .int), 1, 20, 0, 0)
set_option maxRecDepth 40000 in
theorem cd_X10_frost : Cond.code (am_y mX10_frost) (am_c mX10_frost) (am_l mX10_frost) (am_r mX10_frost) ∈ am_T := am_in (List.mem_of_getElem? (i := 926) rfl) rfl
theorem im_X10_frost : Cond.instanceMethod (am_y mX10_frost) ∈ am_T := am_in (List.mem_of_getElem? (i := 924) (by decide +kernel)) rfl
def mX10_people : am_M := (yX10_people, cX10_people, 4, (some .int), 2, 46, 0, 0)
set_option maxRecDepth 40000 in
theorem cd_X10_people : Cond.code (am_y mX10_people) (am_c mX10_people) (am_l mX10_people) (am_r mX10_people) ∈ am_T := am_in (List.mem_of_getElem? (i := 930) rfl) rfl
theorem im_X10_people : Cond.instanceMethod (am_y mX10_people) ∈ am_T := am_in (List.mem_of_getElem? (i := 928) (by decide +kernel)) rfl
def mX10_dusk : am_M := (yX10_dusk, cX10_dusk, 4, (some .int), 4, 93, 0, 0)
set_option maxRecDepth 40000 in
theorem cd_X10_dusk : Cond.code (am_y mX10_dusk) (am_c mX10_dusk) (am_l mX10_dusk) (am_r mX10_dusk) ∈ am_T := am_in (List.mem_of_getElem? (i := 934) rfl) rfl
theorem im_X10_dusk : Cond.instanceMethod (am_y mX10_dusk) ∈ am_T := am_in (List.mem_of_getElem? (i := 932) (by decide +kernel)) rfl
def mX10_ends : am_M := (yX10_ends, cX10_ends, 2, none, 0, 0, 0, 0)
set_option maxRecDepth 40000 in
theorem cd_X10_ends : Cond.code (am_y mX10_ends) (am_c mX10_ends) (am_l mX10_ends) (am_r mX10_ends) ∈ am_T := am_in (List.mem_of_getElem? (i := 942) rfl) rfl
theorem im_X10_ends : Cond.instanceMethod (am_y mX10_ends) ∈ am_T := am_in (List.mem_of_getElem? (i := 941) (by decide +kernel)) rfl
def mX10_hour : am_M := (yX10_hour, cX10_hour, 1, (some .int), 1, 21, 0, 0)
set_option maxRecDepth 40000 in
theorem cd_X10_hour : Cond.code (am_y mX10_hour) (am_c mX10_hour) (am_l mX10_hour) (am_r mX10_hour) ∈ am_T := am_in (List.mem_of_getElem? (i := 938) rfl) rfl
theorem im_X10_hour : Cond.instanceMethod (am_y mX10_hour) ∈ am_T := am_in (List.mem_of_getElem? (i := 936) (by decide +kernel)) rfl
def mX10_whoseBy : am_M := (yX10_whoseBy, cX10_whoseBy, 6, (some .int), 4, 93, 0, 0)
set_option maxRecDepth 40000 in
theorem cd_X10_whoseBy : Cond.code (am_y mX10_whoseBy) (am_c mX10_whoseBy) (am_l mX10_whoseBy) (am_r mX10_whoseBy) ∈ am_T := am_in (List.mem_of_getElem? (i := 954) rfl) rfl
theorem im_X10_whoseBy : Cond.instanceMethod (am_y mX10_whoseBy) ∈ am_T := am_in (List.mem_of_getElem? (i := 953) (by decide +kernel)) rfl
def mX10_weakestOf : am_M := (yX10_weakestOf, cX10_weakestOf, 6, (some .int), 5, 118, 0, 0)
set_option maxRecDepth 40000 in
theorem cd_X10_weakestOf : Cond.code (am_y mX10_weakestOf) (am_c mX10_weakestOf) (am_l mX10_weakestOf) (am_r mX10_weakestOf) ∈ am_T := am_in (List.mem_of_getElem? (i := 950) rfl) rfl
theorem im_X10_weakestOf : Cond.instanceMethod (am_y mX10_weakestOf) ∈ am_T := am_in (List.mem_of_getElem? (i := 949) (by decide +kernel)) rfl
def mX10_weakest : am_M := (yX10_weakest, cX10_weakest, 4, (some .int), 6, 143, 0, 0)
set_option maxRecDepth 40000 in
theorem cd_X10_weakest : Cond.code (am_y mX10_weakest) (am_c mX10_weakest) (am_l mX10_weakest) (am_r mX10_weakest) ∈ am_T := am_in (List.mem_of_getElem? (i := 946) rfl) rfl
theorem im_X10_weakest : Cond.instanceMethod (am_y mX10_weakest) ∈ am_T := am_in (List.mem_of_getElem? (i := 944) (by decide +kernel)) rfl
def mX10_copy : am_M := (yX10_copy, cX10_copy, 3, none, 0, 0, 0, 0)
set_option maxRecDepth 40000 in
theorem cd_X10_copy : Cond.code (am_y mX10_copy) (am_c mX10_copy) (am_l mX10_copy) (am_r mX10_copy) ∈ am_T := am_in (List.mem_of_getElem? (i := 961) rfl) rfl
theorem st_X10_copy : Cond.static (am_y mX10_copy) ∈ am_T := am_in (List.mem_of_getElem? (i := 960) (by decide +kernel)) rfl
def mX10_ones : am_M := (yX10_ones, cX10_ones, 3, (some .int), 0, 0, 0, 0)
set_option maxRecDepth 40000 in
theorem cd_X10_ones : Cond.code (am_y mX10_ones) (am_c mX10_ones) (am_l mX10_ones) (am_r mX10_ones) ∈ am_T := am_in (List.mem_of_getElem? (i := 968) rfl) rfl
theorem st_X10_ones : Cond.static (am_y mX10_ones) ∈ am_T := am_in (List.mem_of_getElem? (i := 967) (by decide +kernel)) rfl
def mX10_mayBeWalls : am_M := (yX10_mayBeWalls, cX10_mayBeWalls, 4, (some .int), 0, 0, 0, 0)
set_option maxRecDepth 40000 in
theorem cd_X10_mayBeWalls : Cond.code (am_y mX10_mayBeWalls) (am_c mX10_mayBeWalls) (am_l mX10_mayBeWalls) (am_r mX10_mayBeWalls) ∈ am_T := am_in (List.mem_of_getElem? (i := 965) rfl) rfl
theorem im_X10_mayBeWalls : Cond.instanceMethod (am_y mX10_mayBeWalls) ∈ am_T := am_in (List.mem_of_getElem? (i := 964) (by decide +kernel)) rfl
def mX10_walls : am_M := (yX10_walls, cX10_walls, 8, (some .int), 4, 93, 0, 0)
set_option maxRecDepth 40000 in
theorem cd_X10_walls : Cond.code (am_y mX10_walls) (am_c mX10_walls) (am_l mX10_walls) (am_r mX10_walls) ∈ am_T := am_in (List.mem_of_getElem? (i := 958) rfl) rfl
theorem im_X10_walls : Cond.instanceMethod (am_y mX10_walls) ∈ am_T := am_in (List.mem_of_getElem? (i := 956) (by decide +kernel)) rfl
def mX10_holdOf : am_M := (yX10_holdOf, cX10_holdOf, 5, (some .int), 4, 93, 0, 0)
set_option maxRecDepth 40000 in
theorem cd_X10_holdOf : Cond.code (am_y mX10_holdOf) (am_c mX10_holdOf) (am_l mX10_holdOf) (am_r mX10_holdOf) ∈ am_T := am_in (List.mem_of_getElem? (i := 976) rfl) rfl
theorem im_X10_holdOf : Cond.instanceMethod (am_y mX10_holdOf) ∈ am_T := am_in (List.mem_of_getElem? (i := 975) (by decide +kernel)) rfl
def mX10_hold : am_M := (yX10_hold, cX10_hold, 3, (some .int), 5, 117, 0, 0)
set_option maxRecDepth 40000 in
theorem cd_X10_hold : Cond.code (am_y mX10_hold) (am_c mX10_hold) (am_l mX10_hold) (am_r mX10_hold) ∈ am_T := am_in (List.mem_of_getElem? (i := 972) rfl) rfl
theorem im_X10_hold : Cond.instanceMethod (am_y mX10_hold) ∈ am_T := am_in (List.mem_of_getElem? (i := 970) (by decide +kernel)) rfl
def mX10_nose : am_M := (yX10_nose, cX10_nose, 3, (some .int), 2, 46, 0, 0)
set_option maxRecDepth 40000 in
theorem cd_X10_nose : Cond.code (am_y mX10_nose) (am_c mX10_nose) (am_l mX10_nose) (am_r mX10_nose) ∈ am_T := am_in (List.mem_of_getElem? (i := 980) rfl) rfl
theorem im_X10_nose : Cond.instanceMethod (am_y mX10_nose) ∈ am_T := am_in (List.mem_of_getElem? (i := 978) (by decide +kernel)) rfl
def mX10_forget : am_M := (yX10_forget, cX10_forget, 2, (some .int), 0, 0, 0, 0)
set_option maxRecDepth 40000 in
theorem cd_X10_forget : Cond.code (am_y mX10_forget) (am_c mX10_forget) (am_l mX10_forget) (am_r mX10_forget) ∈ am_T := am_in (List.mem_of_getElem? (i := 985) rfl) rfl
theorem im_X10_forget : Cond.instanceMethod (am_y mX10_forget) ∈ am_T := am_in (List.mem_of_getElem? (i := 983) (by decide +kernel)) rfl
def mX10_isSmeltBy : am_M := (yX10_isSmeltBy, cX10_isSmeltBy, 5, (some .boolean), 5, 118, 0, 0)
set_option maxRecDepth 40000 in
theorem cd_X10_isSmeltBy : Cond.code (am_y mX10_isSmeltBy) (am_c mX10_isSmeltBy) (am_l mX10_isSmeltBy) (am_r mX10_isSmeltBy) ∈ am_T := am_in (List.mem_of_getElem? (i := 993) rfl) rfl
theorem im_X10_isSmeltBy : Cond.instanceMethod (am_y mX10_isSmeltBy) ∈ am_T := am_in (List.mem_of_getElem? (i := 992) (by decide +kernel)) rfl
def mX10_unknown : am_M := (yX10_unknown, cX10_unknown, 5, (some .int), 6, 142, 0, 0)
set_option maxRecDepth 40000 in
theorem cd_X10_unknown : Cond.code (am_y mX10_unknown) (am_c mX10_unknown) (am_l mX10_unknown) (am_r mX10_unknown) ∈ am_T := am_in (List.mem_of_getElem? (i := 989) rfl) rfl
theorem im_X10_unknown : Cond.instanceMethod (am_y mX10_unknown) ∈ am_T := am_in (List.mem_of_getElem? (i := 987) (by decide +kernel)) rfl
def mX10_sniff : am_M := (yX10_sniff, cX10_sniff, 7, (some .int), 6, 142, 0, 0)
set_option maxRecDepth 40000 in
theorem cd_X10_sniff : Cond.code (am_y mX10_sniff) (am_c mX10_sniff) (am_l mX10_sniff) (am_r mX10_sniff) ∈ am_T := am_in (List.mem_of_getElem? (i := 997) rfl) rfl
theorem im_X10_sniff : Cond.instanceMethod (am_y mX10_sniff) ∈ am_T := am_in (List.mem_of_getElem? (i := 995) (by decide +kernel)) rfl
def mX10_draw : am_M := (yX10_draw, cX10_draw, 2, (some .int), 0, 0, 0, 0)
set_option maxRecDepth 40000 in
theorem cd_X10_draw : Cond.code (am_y mX10_draw) (am_c mX10_draw) (am_l mX10_draw) (am_r mX10_draw) ∈ am_T := am_in (List.mem_of_getElem? (i := 1006) rfl) rfl
theorem im_X10_draw : Cond.instanceMethod (am_y mX10_draw) ∈ am_T := am_in (List.mem_of_getElem? (i := 1005) (by decide +kernel)) rfl
def mX10_days : am_M := (yX10_days, cX10_days, 9, (some .int), 5, 117, 0, 0)
set_option maxRecDepth 40000 in
theorem cd_X10_days : Cond.code (am_y mX10_days) (am_c mX10_days) (am_l mX10_days) (am_r mX10_days) ∈ am_T := am_in (List.mem_of_getElem? (i := 1001) rfl) rfl
theorem im_X10_days : Cond.instanceMethod (am_y mX10_days) ∈ am_T := am_in (List.mem_of_getElem? (i := 999) (by decide +kernel)) rfl
def mX10_image : am_M := (yX10_image, cX10_image, 1, (some .int), 1, 22, 0, 0)
set_option maxRecDepth 40000 in
theorem cd_X10_image : Cond.code (am_y mX10_image) (am_c mX10_image) (am_l mX10_image) (am_r mX10_image) ∈ am_T := am_in (List.mem_of_getElem? (i := 1014) rfl) rfl
theorem im_X10_image : Cond.instanceMethod (am_y mX10_image) ∈ am_T := am_in (List.mem_of_getElem? (i := 1012) (by decide +kernel)) rfl
def mX10_restore : am_M := (yX10_restore, cX10_restore, 1, (some .int), 1, 22, 0, 0)
set_option maxRecDepth 40000 in
theorem cd_X10_restore : Cond.code (am_y mX10_restore) (am_c mX10_restore) (am_l mX10_restore) (am_r mX10_restore) ∈ am_T := am_in (List.mem_of_getElem? (i := 1018) rfl) rfl
theorem im_X10_restore : Cond.instanceMethod (am_y mX10_restore) ∈ am_T := am_in (List.mem_of_getElem? (i := 1016) (by decide +kernel)) rfl
def mX10_burning : am_M := (yX10_burning, cX10_burning, 3, (some .int), 0, 0, 0, 0)
set_option maxRecDepth 40000 in
theorem cd_X10_burning : Cond.code (am_y mX10_burning) (am_c mX10_burning) (am_l mX10_burning) (am_r mX10_burning) ∈ am_T := am_in (List.mem_of_getElem? (i := 1030) rfl) rfl
theorem im_X10_burning : Cond.instanceMethod (am_y mX10_burning) ∈ am_T := am_in (List.mem_of_getElem? (i := 1029) (by decide +kernel)) rfl
def mX10_somebodys : am_M := (yX10_somebodys, cX10_somebodys, 3, (some .int), 4, 93, 0, 0)
set_option maxRecDepth 40000 in
theorem cd_X10_somebodys : Cond.code (am_y mX10_somebodys) (am_c mX10_somebodys) (am_l mX10_somebodys) (am_r mX10_somebodys) ∈ am_T := am_in (List.mem_of_getElem? (i := 1034) rfl) rfl
theorem im_X10_somebodys : Cond.instanceMethod (am_y mX10_somebodys) ∈ am_T := am_in (List.mem_of_getElem? (i := 1033) (by decide +kernel)) rfl
def mX10_countOf : am_M := (yX10_countOf, cX10_countOf, 2, (some .int), 5, 115, 0, 0)
set_option maxRecDepth 40000 in
theorem cd_X10_countOf : Cond.code (am_y mX10_countOf) (am_c mX10_countOf) (am_l mX10_countOf) (am_r mX10_countOf) ∈ am_T := am_in (List.mem_of_getElem? (i := 1026) rfl) rfl
theorem im_X10_countOf : Cond.instanceMethod (am_y mX10_countOf) ∈ am_T := am_in (List.mem_of_getElem? (i := 1025) (by decide +kernel)) rfl
def mX10_count : am_M := (yX10_count, cX10_count, 2, (some .int), 6, 136, 0, 0)
set_option maxRecDepth 40000 in
theorem cd_X10_count : Cond.code (am_y mX10_count) (am_c mX10_count) (am_l mX10_count) (am_r mX10_count) ∈ am_T := am_in (List.mem_of_getElem? (i := 1022) rfl) rfl
theorem im_X10_count : Cond.instanceMethod (am_y mX10_count) ∈ am_T := am_in (List.mem_of_getElem? (i := 1020) (by decide +kernel)) rfl
def mX10_say : am_M := (yX10_say, cX10_say, 3, none, 0, 0, 0, 0)
set_option maxRecDepth 40000 in
theorem cd_X10_say : Cond.code (am_y mX10_say) (am_c mX10_say) (am_l mX10_say) (am_r mX10_say) ∈ am_T := am_in (List.mem_of_getElem? (i := 1047) rfl) rfl
theorem im_X10_say : Cond.instanceMethod (am_y mX10_say) ∈ am_T := am_in (List.mem_of_getElem? (i := 1046) (by decide +kernel)) rfl
def mX10_sayCell : am_M := (yX10_sayCell, cX10_sayCell, 3, none, 5, 117, 0, 0)
set_option maxRecDepth 40000 in
theorem cd_X10_sayCell : Cond.code (am_y mX10_sayCell) (am_c mX10_sayCell) (am_l mX10_sayCell) (am_r mX10_sayCell) ∈ am_T := am_in (List.mem_of_getElem? (i := 1043) rfl) rfl
theorem im_X10_sayCell : Cond.instanceMethod (am_y mX10_sayCell) ∈ am_T := am_in (List.mem_of_getElem? (i := 1042) (by decide +kernel)) rfl
def mX10_digest : am_M := (yX10_digest, cX10_digest, 3, (some .long), 6, 139, 0, 0)
set_option maxRecDepth 40000 in
theorem cd_X10_digest : Cond.code (am_y mX10_digest) (am_c mX10_digest) (am_l mX10_digest) (am_r mX10_digest) ∈ am_T := am_in (List.mem_of_getElem? (i := 1038) rfl) rfl
theorem im_X10_digest : Cond.instanceMethod (am_y mX10_digest) ∈ am_T := am_in (List.mem_of_getElem? (i := 1036) (by decide +kernel)) rfl
def mJ6_bitCount_0f7a4 : am_M := (yJ6_bitCount_0f7a4, cJ6_bitCount_0f7a4, 1, (some .int), 0, 0, 0, 0)
set_option maxRecDepth 40000 in
theorem cd_J6_bitCount_0f7a4 : Cond.code (am_y mJ6_bitCount_0f7a4) (am_c mJ6_bitCount_0f7a4) (am_l mJ6_bitCount_0f7a4) (am_r mJ6_bitCount_0f7a4) ∈ am_T := am_in (List.mem_of_getElem? (i := 573) rfl) rfl
theorem st_J6_bitCount_0f7a4 : Cond.static (am_y mJ6_bitCount_0f7a4) ∈ am_T := am_in (List.mem_of_getElem? (i := 572) (by decide +kernel)) rfl
def mJ9_max_7cf53 : am_M := (yJ9_max_7cf53, cJ9_max_7cf53, 2, (some .int), 0, 0, 0, 0)
set_option maxRecDepth 40000 in
theorem cd_J9_max_7cf53 : Cond.code (am_y mJ9_max_7cf53) (am_c mJ9_max_7cf53) (am_l mJ9_max_7cf53) (am_r mJ9_max_7cf53) ∈ am_T := am_in (List.mem_of_getElem? (i := 370) rfl) rfl
theorem st_J9_max_7cf53 : Cond.static (am_y mJ9_max_7cf53) ∈ am_T := am_in (List.mem_of_getElem? (i := 369) (by decide +kernel)) rfl
def mJ9_min_7cf53 : am_M := (yJ9_min_7cf53, cJ9_min_7cf53, 2, (some .int), 0, 0, 0, 0)
set_option maxRecDepth 40000 in
theorem cd_J9_min_7cf53 : Cond.code (am_y mJ9_min_7cf53) (am_c mJ9_min_7cf53) (am_l mJ9_min_7cf53) (am_r mJ9_min_7cf53) ∈ am_T := am_in (List.mem_of_getElem? (i := 330) rfl) rfl
theorem st_J9_min_7cf53 : Cond.static (am_y mJ9_min_7cf53) ∈ am_T := am_in (List.mem_of_getElem? (i := 329) (by decide +kernel)) rfl
def mL_law (nm : String) : am_M := (⟨RL, nm, "([I)Z"⟩, cL_law, 4, some .boolean, 10, 388, 600000, 7302250)
end
section
theorem cl_X0_settle__X5_smells : am_cl mX0_settle mX5_smells 2 := ⟨by decide +kernel, ⟨Nat.le_of_ble_eq_true rfl, Nat.le_of_ble_eq_true rfl⟩, cd_X5_smells, ini_X5, by decide +kernel⟩
theorem cl_X0_settle__X1_force : am_cl mX0_settle mX1_force 1 := ⟨by decide +kernel, ⟨Nat.le_of_ble_eq_true rfl, Nat.le_of_ble_eq_true rfl⟩, cd_X1_force, ini_X1, by decide +kernel⟩
theorem cl_X0_settle__X4_force : am_cl mX0_settle mX4_force 1 := ⟨by decide +kernel, ⟨Nat.le_of_ble_eq_true rfl, Nat.le_of_ble_eq_true rfl⟩, cd_X4_force, ini_X4, by decide +kernel⟩
theorem cl_X0_settle__X4_ease : am_cl mX0_settle mX4_ease 0 := ⟨by decide +kernel, ⟨Nat.le_of_ble_eq_true rfl, Nat.le_of_ble_eq_true rfl⟩, cd_X4_ease, ini_X4, by decide +kernel⟩
theorem cl_X0_settle__X6_ease : am_cl mX0_settle mX6_ease 0 := ⟨by decide +kernel, ⟨Nat.le_of_ble_eq_true rfl, Nat.le_of_ble_eq_true rfl⟩, cd_X6_ease, ini_X6, by decide +kernel⟩
theorem cl_X0_settle__X7_spread : am_cl mX0_settle mX7_spread 6 := ⟨by decide +kernel, ⟨Nat.le_of_ble_eq_true rfl, Nat.le_of_ble_eq_true rfl⟩, cd_X7_spread, ini_X7, by decide +kernel⟩
theorem cl_X0_settle__X0_mingle : am_cl mX0_settle mX0_mingle 2 := ⟨by decide +kernel, ⟨Nat.le_of_ble_eq_true rfl, Nat.le_of_ble_eq_true rfl⟩, cd_X0_mingle, ini_X0, by decide +kernel⟩
theorem cl_X0_countBorders__X7_beside : am_cl mX0_countBorders mX7_beside 2 := ⟨by decide +kernel, ⟨Nat.le_of_ble_eq_true rfl, Nat.le_of_ble_eq_true rfl⟩, cd_X7_beside, ini_X7, by decide +kernel⟩
theorem cl_X0_countBorders__X0_isBorder : am_cl mX0_countBorders mX0_isBorder 2 := ⟨by decide +kernel, ⟨Nat.le_of_ble_eq_true rfl, Nat.le_of_ble_eq_true rfl⟩, cd_X0_isBorder, ini_X0, by decide +kernel⟩
theorem cl_X1_init__X4_init : am_cl mX1_init mX4_init 3 := ⟨by decide +kernel, ⟨Nat.le_of_ble_eq_true rfl, Nat.le_of_ble_eq_true rfl⟩, cd_X4_init, ini_X4, by decide +kernel⟩
theorem cl_X2_init__X4_init : am_cl mX2_init mX4_init 3 := ⟨by decide +kernel, ⟨Nat.le_of_ble_eq_true rfl, Nat.le_of_ble_eq_true rfl⟩, cd_X4_init, ini_X4, by decide +kernel⟩
theorem cl_X3_append__X3_isFull : am_cl mX3_append mX3_isFull 0 := ⟨by decide +kernel, ⟨Nat.le_of_ble_eq_true rfl, Nat.le_of_ble_eq_true rfl⟩, cd_X3_isFull, ini_X3, by decide +kernel⟩
theorem cl_X3_firstWrong__X3_fits : am_cl mX3_firstWrong mX3_fits 2 := ⟨by decide +kernel, ⟨Nat.le_of_ble_eq_true rfl, Nat.le_of_ble_eq_true rfl⟩, cd_X3_fits, ini_X3, by decide +kernel⟩
theorem cl_X3_isValley__X3_firstWrong : am_cl mX3_isValley mX3_firstWrong 0 := ⟨by decide +kernel, ⟨Nat.le_of_ble_eq_true rfl, Nat.le_of_ble_eq_true rfl⟩, cd_X3_firstWrong, ini_X3, by decide +kernel⟩
theorem cl_X5_smells__X4_smellsAt : am_cl mX5_smells mX4_smellsAt 2 := ⟨by decide +kernel, ⟨Nat.le_of_ble_eq_true rfl, Nat.le_of_ble_eq_true rfl⟩, cd_X4_smellsAt, ini_X4, by decide +kernel⟩
theorem cl_X5_smells__X2_smellsAt : am_cl mX5_smells mX2_smellsAt 2 := ⟨by decide +kernel, ⟨Nat.le_of_ble_eq_true rfl, Nat.le_of_ble_eq_true rfl⟩, cd_X2_smellsAt, ini_X2, by decide +kernel⟩
theorem cl_X5_smells__X8_smellsAt : am_cl mX5_smells mX8_smellsAt 2 := ⟨by decide +kernel, ⟨Nat.le_of_ble_eq_true rfl, Nat.le_of_ble_eq_true rfl⟩, cd_X8_smellsAt, ini_X8, by decide +kernel⟩
theorem cl_X6_init__X4_init : am_cl mX6_init mX4_init 3 := ⟨by decide +kernel, ⟨Nat.le_of_ble_eq_true rfl, Nat.le_of_ble_eq_true rfl⟩, cd_X4_init, ini_X4, by decide +kernel⟩
theorem cl_X7_take__X3_placeOf : am_cl mX7_take mX3_placeOf 1 := ⟨by decide +kernel, ⟨Nat.le_of_ble_eq_true rfl, Nat.le_of_ble_eq_true rfl⟩, cd_X3_placeOf, ini_X3, by decide +kernel⟩
theorem cl_X7_loss__X7_opposite : am_cl mX7_loss mX7_opposite 1 := ⟨by decide +kernel, ⟨Nat.le_of_ble_eq_true rfl, Nat.le_of_ble_eq_true rfl⟩, cd_X7_opposite, ini_X7, by decide +kernel⟩
theorem cl_X7_spread__X7_spreadOn : am_cl mX7_spread mX7_spreadOn 5 := ⟨by decide +kernel, ⟨Nat.le_of_ble_eq_true rfl, Nat.le_of_ble_eq_true rfl⟩, cd_X7_spreadOn, ini_X7, by decide +kernel⟩
theorem cl_X7_spreadOn__X7_beside : am_cl mX7_spreadOn mX7_beside 2 := ⟨by decide +kernel, ⟨Nat.le_of_ble_eq_true rfl, Nat.le_of_ble_eq_true rfl⟩, cd_X7_beside, ini_X7, by decide +kernel⟩
theorem cl_X7_spreadOn__X7_isWall : am_cl mX7_spreadOn mX7_isWall 1 := ⟨by decide +kernel, ⟨Nat.le_of_ble_eq_true rfl, Nat.le_of_ble_eq_true rfl⟩, cd_X7_isWall, ini_X7, by decide +kernel⟩
theorem cl_X7_spreadOn__X7_loss : am_cl mX7_spreadOn mX7_loss 4 := ⟨by decide +kernel, ⟨Nat.le_of_ble_eq_true rfl, Nat.le_of_ble_eq_true rfl⟩, cd_X7_loss, ini_X7, by decide +kernel⟩
theorem cl_X8_init__X6_init : am_cl mX8_init mX6_init 3 := ⟨by decide +kernel, ⟨Nat.le_of_ble_eq_true rfl, Nat.le_of_ble_eq_true rfl⟩, cd_X6_init, ini_X6, by decide +kernel⟩
theorem cl_X9_init__X3_init : am_cl mX9_init mX3_init 0 := ⟨by decide +kernel, ⟨Nat.le_of_ble_eq_true rfl, Nat.le_of_ble_eq_true rfl⟩, cd_X3_init, ini_X3, by decide +kernel⟩
theorem cl_X9_init__X7_init : am_cl mX9_init mX7_init 0 := ⟨by decide +kernel, ⟨Nat.le_of_ble_eq_true rfl, Nat.le_of_ble_eq_true rfl⟩, cd_X7_init, ini_X7, by decide +kernel⟩
theorem cl_X9_init__X5_init : am_cl mX9_init mX5_init 0 := ⟨by decide +kernel, ⟨Nat.le_of_ble_eq_true rfl, Nat.le_of_ble_eq_true rfl⟩, cd_X5_init, ini_X5, by decide +kernel⟩
theorem cl_X9_init__X0_init : am_cl mX9_init mX0_init 0 := ⟨by decide +kernel, ⟨Nat.le_of_ble_eq_true rfl, Nat.le_of_ble_eq_true rfl⟩, cd_X0_init, ini_X0, by decide +kernel⟩
theorem cl_X9_letter__X3_isFull : am_cl mX9_letter mX3_isFull 0 := ⟨by decide +kernel, ⟨Nat.le_of_ble_eq_true rfl, Nat.le_of_ble_eq_true rfl⟩, cd_X3_isFull, ini_X3, by decide +kernel⟩
theorem cl_X9_letter__X3_append : am_cl mX9_letter mX3_append 1 := ⟨by decide +kernel, ⟨Nat.le_of_ble_eq_true rfl, Nat.le_of_ble_eq_true rfl⟩, cd_X3_append, ini_X3, by decide +kernel⟩
theorem cl_X9_fault__X3_firstWrong : am_cl mX9_fault mX3_firstWrong 0 := ⟨by decide +kernel, ⟨Nat.le_of_ble_eq_true rfl, Nat.le_of_ble_eq_true rfl⟩, cd_X3_firstWrong, ini_X3, by decide +kernel⟩
theorem cl_X9_valley__X3_isValley : am_cl mX9_valley mX3_isValley 0 := ⟨by decide +kernel, ⟨Nat.le_of_ble_eq_true rfl, Nat.le_of_ble_eq_true rfl⟩, cd_X3_isValley, ini_X3, by decide +kernel⟩
theorem cl_X9_valley__X7_take : am_cl mX9_valley mX7_take 1 := ⟨by decide +kernel, ⟨Nat.le_of_ble_eq_true rfl, Nat.le_of_ble_eq_true rfl⟩, cd_X7_take, ini_X7, by decide +kernel⟩
theorem cl_X9_valley__X5_init : am_cl mX9_valley mX5_init 0 := ⟨by decide +kernel, ⟨Nat.le_of_ble_eq_true rfl, Nat.le_of_ble_eq_true rfl⟩, cd_X5_init, ini_X5, by decide +kernel⟩
theorem cl_X9_valley__X5_copyFrom : am_cl mX9_valley mX5_copyFrom 1 := ⟨by decide +kernel, ⟨Nat.le_of_ble_eq_true rfl, Nat.le_of_ble_eq_true rfl⟩, cd_X5_copyFrom, ini_X5, by decide +kernel⟩
theorem cl_X9_cell__X9_isCell : am_cl mX9_cell mX9_isCell 1 := ⟨by decide +kernel, ⟨Nat.le_of_ble_eq_true rfl, Nat.le_of_ble_eq_true rfl⟩, cd_X9_isCell, ini_X9, by decide +kernel⟩
theorem cl_X9_cell__X9_settleNow : am_cl mX9_cell mX9_settleNow 0 := ⟨by decide +kernel, ⟨Nat.le_of_ble_eq_true rfl, Nat.le_of_ble_eq_true rfl⟩, cd_X9_settleNow, ini_X9, by decide +kernel⟩
theorem cl_X9_cell__X9_tellOfCell : am_cl mX9_cell mX9_tellOfCell 2 := ⟨by decide +kernel, ⟨Nat.le_of_ble_eq_true rfl, Nat.le_of_ble_eq_true rfl⟩, cd_X9_tellOfCell, ini_X9, by decide +kernel⟩
theorem cl_X9_borders__X9_settleNow : am_cl mX9_borders mX9_settleNow 0 := ⟨by decide +kernel, ⟨Nat.le_of_ble_eq_true rfl, Nat.le_of_ble_eq_true rfl⟩, cd_X9_settleNow, ini_X9, by decide +kernel⟩
theorem cl_X9_borders__X0_countBorders : am_cl mX9_borders mX0_countBorders 0 := ⟨by decide +kernel, ⟨Nat.le_of_ble_eq_true rfl, Nat.le_of_ble_eq_true rfl⟩, cd_X0_countBorders, ini_X0, by decide +kernel⟩
theorem cl_X9_source__X9_isParish : am_cl mX9_source mX9_isParish 1 := ⟨by decide +kernel, ⟨Nat.le_of_ble_eq_true rfl, Nat.le_of_ble_eq_true rfl⟩, cd_X9_isParish, ini_X9, by decide +kernel⟩
theorem cl_X9_source__X9_isCell : am_cl mX9_source mX9_isCell 1 := ⟨by decide +kernel, ⟨Nat.le_of_ble_eq_true rfl, Nat.le_of_ble_eq_true rfl⟩, cd_X9_isCell, ini_X9, by decide +kernel⟩
theorem cl_X9_source__X7_isOpen : am_cl mX9_source mX7_isOpen 1 := ⟨by decide +kernel, ⟨Nat.le_of_ble_eq_true rfl, Nat.le_of_ble_eq_true rfl⟩, cd_X7_isOpen, ini_X7, by decide +kernel⟩
theorem cl_X9_source__X9_make : am_cl mX9_source mX9_make 4 := ⟨by decide +kernel, ⟨Nat.le_of_ble_eq_true rfl, Nat.le_of_ble_eq_true rfl⟩, cd_X9_make, ini_X9, by decide +kernel⟩
theorem cl_X9_source__X5_addSource : am_cl mX9_source mX5_addSource 0 := ⟨by decide +kernel, ⟨Nat.le_of_ble_eq_true rfl, Nat.le_of_ble_eq_true rfl⟩, cd_X5_addSource, ini_X5, by decide +kernel⟩
theorem cl_X9_about__X9_find : am_cl mX9_about mX9_find 1 := ⟨by decide +kernel, ⟨Nat.le_of_ble_eq_true rfl, Nat.le_of_ble_eq_true rfl⟩, cd_X9_find, ini_X9, by decide +kernel⟩
theorem cl_X9_about__X9_tellOfSource : am_cl mX9_about mX9_tellOfSource 3 := ⟨by decide +kernel, ⟨Nat.le_of_ble_eq_true rfl, Nat.le_of_ble_eq_true rfl⟩, cd_X9_tellOfSource, ini_X9, by decide +kernel⟩
theorem cl_X9_about__X5_smells : am_cl mX9_about mX5_smells 2 := ⟨by decide +kernel, ⟨Nat.le_of_ble_eq_true rfl, Nat.le_of_ble_eq_true rfl⟩, cd_X5_smells, ini_X5, by decide +kernel⟩
theorem cl_X9_about__X1_force : am_cl mX9_about mX1_force 1 := ⟨by decide +kernel, ⟨Nat.le_of_ble_eq_true rfl, Nat.le_of_ble_eq_true rfl⟩, cd_X1_force, ini_X1, by decide +kernel⟩
theorem cl_X9_about__X4_force : am_cl mX9_about mX4_force 1 := ⟨by decide +kernel, ⟨Nat.le_of_ble_eq_true rfl, Nat.le_of_ble_eq_true rfl⟩, cd_X4_force, ini_X4, by decide +kernel⟩
theorem cl_X9_about__X4_ease : am_cl mX9_about mX4_ease 0 := ⟨by decide +kernel, ⟨Nat.le_of_ble_eq_true rfl, Nat.le_of_ble_eq_true rfl⟩, cd_X4_ease, ini_X4, by decide +kernel⟩
theorem cl_X9_about__X6_ease : am_cl mX9_about mX6_ease 0 := ⟨by decide +kernel, ⟨Nat.le_of_ble_eq_true rfl, Nat.le_of_ble_eq_true rfl⟩, cd_X6_ease, ini_X6, by decide +kernel⟩
theorem cl_X9_about__X7_spread : am_cl mX9_about mX7_spread 6 := ⟨by decide +kernel, ⟨Nat.le_of_ble_eq_true rfl, Nat.le_of_ble_eq_true rfl⟩, cd_X7_spread, ini_X7, by decide +kernel⟩
theorem cl_X9_as__X9_find : am_cl mX9_as mX9_find 1 := ⟨by decide +kernel, ⟨Nat.le_of_ble_eq_true rfl, Nat.le_of_ble_eq_true rfl⟩, cd_X9_find, ini_X9, by decide +kernel⟩
theorem cl_X9_as__X9_isOfKind : am_cl mX9_as mX9_isOfKind 2 := ⟨by decide +kernel, ⟨Nat.le_of_ble_eq_true rfl, Nat.le_of_ble_eq_true rfl⟩, cd_X9_isOfKind, ini_X9, by decide +kernel⟩
theorem cl_X9_burn__X9_find : am_cl mX9_burn mX9_find 1 := ⟨by decide +kernel, ⟨Nat.le_of_ble_eq_true rfl, Nat.le_of_ble_eq_true rfl⟩, cd_X9_find, ini_X9, by decide +kernel⟩
theorem cl_X9_burn__X9_bit : am_cl mX9_burn mX9_bit 1 := ⟨by decide +kernel, ⟨Nat.le_of_ble_eq_true rfl, Nat.le_of_ble_eq_true rfl⟩, cd_X9_bit, ini_X9, by decide +kernel⟩
theorem cl_X9_wind__X7_isThere : am_cl mX9_wind mX7_isThere 0 := ⟨by decide +kernel, ⟨Nat.le_of_ble_eq_true rfl, Nat.le_of_ble_eq_true rfl⟩, cd_X7_isThere, ini_X7, by decide +kernel⟩
theorem cl_X9_frost__X7_isThere : am_cl mX9_frost mX7_isThere 0 := ⟨by decide +kernel, ⟨Nat.le_of_ble_eq_true rfl, Nat.le_of_ble_eq_true rfl⟩, cd_X7_isThere, ini_X7, by decide +kernel⟩
theorem cl_X9_frost__X9_bit : am_cl mX9_frost mX9_bit 1 := ⟨by decide +kernel, ⟨Nat.le_of_ble_eq_true rfl, Nat.le_of_ble_eq_true rfl⟩, cd_X9_bit, ini_X9, by decide +kernel⟩
theorem cl_X9_people__X9_isCell : am_cl mX9_people mX9_isCell 1 := ⟨by decide +kernel, ⟨Nat.le_of_ble_eq_true rfl, Nat.le_of_ble_eq_true rfl⟩, cd_X9_isCell, ini_X9, by decide +kernel⟩
theorem cl_X9_people__X7_isWall : am_cl mX9_people mX7_isWall 1 := ⟨by decide +kernel, ⟨Nat.le_of_ble_eq_true rfl, Nat.le_of_ble_eq_true rfl⟩, cd_X7_isWall, ini_X7, by decide +kernel⟩
theorem cl_X9_dusk__X7_isThere : am_cl mX9_dusk mX7_isThere 0 := ⟨by decide +kernel, ⟨Nat.le_of_ble_eq_true rfl, Nat.le_of_ble_eq_true rfl⟩, cd_X7_isThere, ini_X7, by decide +kernel⟩
theorem cl_X9_dusk__X9_settleNow : am_cl mX9_dusk mX9_settleNow 0 := ⟨by decide +kernel, ⟨Nat.le_of_ble_eq_true rfl, Nat.le_of_ble_eq_true rfl⟩, cd_X9_settleNow, ini_X9, by decide +kernel⟩
theorem cl_X9_hour__X7_isThere : am_cl mX9_hour mX7_isThere 0 := ⟨by decide +kernel, ⟨Nat.le_of_ble_eq_true rfl, Nat.le_of_ble_eq_true rfl⟩, cd_X7_isThere, ini_X7, by decide +kernel⟩
theorem cl_X9_hour__X5_endHour : am_cl mX9_hour mX5_endHour 0 := ⟨by decide +kernel, ⟨Nat.le_of_ble_eq_true rfl, Nat.le_of_ble_eq_true rfl⟩, cd_X5_endHour, ini_X5, by decide +kernel⟩
theorem cl_X9_weakest__X9_isCell : am_cl mX9_weakest mX9_isCell 1 := ⟨by decide +kernel, ⟨Nat.le_of_ble_eq_true rfl, Nat.le_of_ble_eq_true rfl⟩, cd_X9_isCell, ini_X9, by decide +kernel⟩
theorem cl_X9_weakest__X9_isParish : am_cl mX9_weakest mX9_isParish 1 := ⟨by decide +kernel, ⟨Nat.le_of_ble_eq_true rfl, Nat.le_of_ble_eq_true rfl⟩, cd_X9_isParish, ini_X9, by decide +kernel⟩
theorem cl_X9_weakest__X9_isZeroOrOne : am_cl mX9_weakest mX9_isZeroOrOne 1 := ⟨by decide +kernel, ⟨Nat.le_of_ble_eq_true rfl, Nat.le_of_ble_eq_true rfl⟩, cd_X9_isZeroOrOne, ini_X9, by decide +kernel⟩
theorem cl_X9_weakest__X9_settleNow : am_cl mX9_weakest mX9_settleNow 0 := ⟨by decide +kernel, ⟨Nat.le_of_ble_eq_true rfl, Nat.le_of_ble_eq_true rfl⟩, cd_X9_settleNow, ini_X9, by decide +kernel⟩
theorem cl_X9_weakest__X7_isOpen : am_cl mX9_weakest mX7_isOpen 1 := ⟨by decide +kernel, ⟨Nat.le_of_ble_eq_true rfl, Nat.le_of_ble_eq_true rfl⟩, cd_X7_isOpen, ini_X7, by decide +kernel⟩
theorem cl_X9_weakest__X9_wouldWin : am_cl mX9_weakest mX9_wouldWin 3 := ⟨by decide +kernel, ⟨Nat.le_of_ble_eq_true rfl, Nat.le_of_ble_eq_true rfl⟩, cd_X9_wouldWin, ini_X9, by decide +kernel⟩
theorem cl_X9_walls__X9_isCell : am_cl mX9_walls mX9_isCell 1 := ⟨by decide +kernel, ⟨Nat.le_of_ble_eq_true rfl, Nat.le_of_ble_eq_true rfl⟩, cd_X9_isCell, ini_X9, by decide +kernel⟩
theorem cl_X9_walls__X9_isParish : am_cl mX9_walls mX9_isParish 1 := ⟨by decide +kernel, ⟨Nat.le_of_ble_eq_true rfl, Nat.le_of_ble_eq_true rfl⟩, cd_X9_isParish, ini_X9, by decide +kernel⟩
theorem cl_X9_walls__X9_isZeroOrOne : am_cl mX9_walls mX9_isZeroOrOne 1 := ⟨by decide +kernel, ⟨Nat.le_of_ble_eq_true rfl, Nat.le_of_ble_eq_true rfl⟩, cd_X9_isZeroOrOne, ini_X9, by decide +kernel⟩
theorem cl_X9_walls__X9_fewestWalls : am_cl mX9_walls mX9_fewestWalls 2 := ⟨by decide +kernel, ⟨Nat.le_of_ble_eq_true rfl, Nat.le_of_ble_eq_true rfl⟩, cd_X9_fewestWalls, ini_X9, by decide +kernel⟩
theorem cl_X9_walls__J6_bitCount_0f7a4 : am_cl mX9_walls mJ6_bitCount_0f7a4 1 := ⟨by decide +kernel, ⟨Nat.le_of_ble_eq_true rfl, Nat.le_of_ble_eq_true rfl⟩, cd_J6_bitCount_0f7a4, ini_J6, by decide +kernel⟩
theorem cl_X9_hold__X9_isCell : am_cl mX9_hold mX9_isCell 1 := ⟨by decide +kernel, ⟨Nat.le_of_ble_eq_true rfl, Nat.le_of_ble_eq_true rfl⟩, cd_X9_isCell, ini_X9, by decide +kernel⟩
theorem cl_X9_hold__X9_isParish : am_cl mX9_hold mX9_isParish 1 := ⟨by decide +kernel, ⟨Nat.le_of_ble_eq_true rfl, Nat.le_of_ble_eq_true rfl⟩, cd_X9_isParish, ini_X9, by decide +kernel⟩
theorem cl_X9_hold__X9_watchHolders : am_cl mX9_hold mX9_watchHolders 0 := ⟨by decide +kernel, ⟨Nat.le_of_ble_eq_true rfl, Nat.le_of_ble_eq_true rfl⟩, cd_X9_watchHolders, ini_X9, by decide +kernel⟩
theorem cl_X9_hold__X9_heldBy : am_cl mX9_hold mX9_heldBy 2 := ⟨by decide +kernel, ⟨Nat.le_of_ble_eq_true rfl, Nat.le_of_ble_eq_true rfl⟩, cd_X9_heldBy, ini_X9, by decide +kernel⟩
theorem cl_X9_nose__X9_isCell : am_cl mX9_nose mX9_isCell 1 := ⟨by decide +kernel, ⟨Nat.le_of_ble_eq_true rfl, Nat.le_of_ble_eq_true rfl⟩, cd_X9_isCell, ini_X9, by decide +kernel⟩
theorem cl_X9_nose__X9_isParish : am_cl mX9_nose mX9_isParish 1 := ⟨by decide +kernel, ⟨Nat.le_of_ble_eq_true rfl, Nat.le_of_ble_eq_true rfl⟩, cd_X9_isParish, ini_X9, by decide +kernel⟩
theorem cl_X9_nose__X5_addNose : am_cl mX9_nose mX5_addNose 2 := ⟨by decide +kernel, ⟨Nat.le_of_ble_eq_true rfl, Nat.le_of_ble_eq_true rfl⟩, cd_X5_addNose, ini_X5, by decide +kernel⟩
theorem cl_X9_unknown__X9_isZeroOrOne : am_cl mX9_unknown mX9_isZeroOrOne 1 := ⟨by decide +kernel, ⟨Nat.le_of_ble_eq_true rfl, Nat.le_of_ble_eq_true rfl⟩, cd_X9_isZeroOrOne, ini_X9, by decide +kernel⟩
theorem cl_X9_unknown__X9_mayAsk : am_cl mX9_unknown mX9_mayAsk 0 := ⟨by decide +kernel, ⟨Nat.le_of_ble_eq_true rfl, Nat.le_of_ble_eq_true rfl⟩, cd_X9_mayAsk, ini_X9, by decide +kernel⟩
theorem cl_X9_unknown__X9_settleNow : am_cl mX9_unknown mX9_settleNow 0 := ⟨by decide +kernel, ⟨Nat.le_of_ble_eq_true rfl, Nat.le_of_ble_eq_true rfl⟩, cd_X9_settleNow, ini_X9, by decide +kernel⟩
theorem cl_X9_unknown__X9_fitsNoses : am_cl mX9_unknown mX9_fitsNoses 1 := ⟨by decide +kernel, ⟨Nat.le_of_ble_eq_true rfl, Nat.le_of_ble_eq_true rfl⟩, cd_X9_fitsNoses, ini_X9, by decide +kernel⟩
theorem cl_X9_sniff__X9_mayAsk : am_cl mX9_sniff mX9_mayAsk 0 := ⟨by decide +kernel, ⟨Nat.le_of_ble_eq_true rfl, Nat.le_of_ble_eq_true rfl⟩, cd_X9_mayAsk, ini_X9, by decide +kernel⟩
theorem cl_X9_sniff__X9_settleNow : am_cl mX9_sniff mX9_settleNow 0 := ⟨by decide +kernel, ⟨Nat.le_of_ble_eq_true rfl, Nat.le_of_ble_eq_true rfl⟩, cd_X9_settleNow, ini_X9, by decide +kernel⟩
theorem cl_X9_sniff__X9_tallyFindings : am_cl mX9_sniff mX9_tallyFindings 0 := ⟨by decide +kernel, ⟨Nat.le_of_ble_eq_true rfl, Nat.le_of_ble_eq_true rfl⟩, cd_X9_tallyFindings, ini_X9, by decide +kernel⟩
theorem cl_X9_sniff__X9_cellOfFewestLeft : am_cl mX9_sniff mX9_cellOfFewestLeft 0 := ⟨by decide +kernel, ⟨Nat.le_of_ble_eq_true rfl, Nat.le_of_ble_eq_true rfl⟩, cd_X9_cellOfFewestLeft, ini_X9, by decide +kernel⟩
theorem cl_X9_days__X9_isZeroOrOne : am_cl mX9_days mX9_isZeroOrOne 1 := ⟨by decide +kernel, ⟨Nat.le_of_ble_eq_true rfl, Nat.le_of_ble_eq_true rfl⟩, cd_X9_isZeroOrOne, ini_X9, by decide +kernel⟩
theorem cl_X9_days__X7_isThere : am_cl mX9_days mX7_isThere 0 := ⟨by decide +kernel, ⟨Nat.le_of_ble_eq_true rfl, Nat.le_of_ble_eq_true rfl⟩, cd_X7_isThere, ini_X7, by decide +kernel⟩
theorem cl_X9_days__X5_copyFrom : am_cl mX9_days mX5_copyFrom 1 := ⟨by decide +kernel, ⟨Nat.le_of_ble_eq_true rfl, Nat.le_of_ble_eq_true rfl⟩, cd_X5_copyFrom, ini_X5, by decide +kernel⟩
theorem cl_X9_days__X9_nextSeed : am_cl mX9_days mX9_nextSeed 1 := ⟨by decide +kernel, ⟨Nat.le_of_ble_eq_true rfl, Nat.le_of_ble_eq_true rfl⟩, cd_X9_nextSeed, ini_X9, by decide +kernel⟩
theorem cl_X9_days__X9_draw : am_cl mX9_days mX9_draw 2 := ⟨by decide +kernel, ⟨Nat.le_of_ble_eq_true rfl, Nat.le_of_ble_eq_true rfl⟩, cd_X9_draw, ini_X9, by decide +kernel⟩
theorem cl_X9_days__X0_settle : am_cl mX9_days mX0_settle 4 := ⟨by decide +kernel, ⟨Nat.le_of_ble_eq_true rfl, Nat.le_of_ble_eq_true rfl⟩, cd_X0_settle, ini_X0, by decide +kernel⟩
theorem cl_X9_days__X0_countBorders : am_cl mX9_days mX0_countBorders 0 := ⟨by decide +kernel, ⟨Nat.le_of_ble_eq_true rfl, Nat.le_of_ble_eq_true rfl⟩, cd_X0_countBorders, ini_X0, by decide +kernel⟩
theorem cl_X9_days__X5_endHour : am_cl mX9_days mX5_endHour 0 := ⟨by decide +kernel, ⟨Nat.le_of_ble_eq_true rfl, Nat.le_of_ble_eq_true rfl⟩, cd_X5_endHour, ini_X5, by decide +kernel⟩
theorem cl_X9_image__X7_isThere : am_cl mX9_image mX7_isThere 0 := ⟨by decide +kernel, ⟨Nat.le_of_ble_eq_true rfl, Nat.le_of_ble_eq_true rfl⟩, cd_X7_isThere, ini_X7, by decide +kernel⟩
theorem cl_X9_image__X5_copyFrom : am_cl mX9_image mX5_copyFrom 1 := ⟨by decide +kernel, ⟨Nat.le_of_ble_eq_true rfl, Nat.le_of_ble_eq_true rfl⟩, cd_X5_copyFrom, ini_X5, by decide +kernel⟩
theorem cl_X9_restore__X5_copyFrom : am_cl mX9_restore mX5_copyFrom 1 := ⟨by decide +kernel, ⟨Nat.le_of_ble_eq_true rfl, Nat.le_of_ble_eq_true rfl⟩, cd_X5_copyFrom, ini_X5, by decide +kernel⟩
theorem cl_X9_count__X9_settleNow : am_cl mX9_count mX9_settleNow 0 := ⟨by decide +kernel, ⟨Nat.le_of_ble_eq_true rfl, Nat.le_of_ble_eq_true rfl⟩, cd_X9_settleNow, ini_X9, by decide +kernel⟩
theorem cl_X9_count__X9_tellOfAll : am_cl mX9_count mX9_tellOfAll 1 := ⟨by decide +kernel, ⟨Nat.le_of_ble_eq_true rfl, Nat.le_of_ble_eq_true rfl⟩, cd_X9_tellOfAll, ini_X9, by decide +kernel⟩
theorem cl_X9_digest__X7_isThere : am_cl mX9_digest mX7_isThere 0 := ⟨by decide +kernel, ⟨Nat.le_of_ble_eq_true rfl, Nat.le_of_ble_eq_true rfl⟩, cd_X7_isThere, ini_X7, by decide +kernel⟩
theorem cl_X9_digest__X9_watchHolders : am_cl mX9_digest mX9_watchHolders 0 := ⟨by decide +kernel, ⟨Nat.le_of_ble_eq_true rfl, Nat.le_of_ble_eq_true rfl⟩, cd_X9_watchHolders, ini_X9, by decide +kernel⟩
theorem cl_X9_digest__X9_settleNow : am_cl mX9_digest mX9_settleNow 0 := ⟨by decide +kernel, ⟨Nat.le_of_ble_eq_true rfl, Nat.le_of_ble_eq_true rfl⟩, cd_X9_settleNow, ini_X9, by decide +kernel⟩
theorem cl_X9_digest__X9_digestCells : am_cl mX9_digest mX9_digestCells 1 := ⟨by decide +kernel, ⟨Nat.le_of_ble_eq_true rfl, Nat.le_of_ble_eq_true rfl⟩, cd_X9_digestCells, ini_X9, by decide +kernel⟩
theorem cl_X9_digest__X9_digestSource : am_cl mX9_digest mX9_digestSource 2 := ⟨by decide +kernel, ⟨Nat.le_of_ble_eq_true rfl, Nat.le_of_ble_eq_true rfl⟩, cd_X9_digestSource, ini_X9, by decide +kernel⟩
theorem cl_X9_digest__X0_countBorders : am_cl mX9_digest mX0_countBorders 0 := ⟨by decide +kernel, ⟨Nat.le_of_ble_eq_true rfl, Nat.le_of_ble_eq_true rfl⟩, cd_X0_countBorders, ini_X0, by decide +kernel⟩
theorem cl_X9_digest__X9_mix : am_cl mX9_digest mX9_mix 2 := ⟨by decide +kernel, ⟨Nat.le_of_ble_eq_true rfl, Nat.le_of_ble_eq_true rfl⟩, cd_X9_mix, ini_X9, by decide +kernel⟩
theorem cl_X9_digest__X9_tellOfAll : am_cl mX9_digest mX9_tellOfAll 1 := ⟨by decide +kernel, ⟨Nat.le_of_ble_eq_true rfl, Nat.le_of_ble_eq_true rfl⟩, cd_X9_tellOfAll, ini_X9, by decide +kernel⟩
theorem cl_X9_make__X1_init : am_cl mX9_make mX1_init 3 := ⟨by decide +kernel, ⟨Nat.le_of_ble_eq_true rfl, Nat.le_of_ble_eq_true rfl⟩, cd_X1_init, ini_X1, by decide +kernel⟩
theorem cl_X9_make__X2_init : am_cl mX9_make mX2_init 3 := ⟨by decide +kernel, ⟨Nat.le_of_ble_eq_true rfl, Nat.le_of_ble_eq_true rfl⟩, cd_X2_init, ini_X2, by decide +kernel⟩
theorem cl_X9_make__X6_init : am_cl mX9_make mX6_init 3 := ⟨by decide +kernel, ⟨Nat.le_of_ble_eq_true rfl, Nat.le_of_ble_eq_true rfl⟩, cd_X6_init, ini_X6, by decide +kernel⟩
theorem cl_X9_make__X8_init : am_cl mX9_make mX8_init 3 := ⟨by decide +kernel, ⟨Nat.le_of_ble_eq_true rfl, Nat.le_of_ble_eq_true rfl⟩, cd_X8_init, ini_X8, by decide +kernel⟩
theorem cl_X9_make__X4_init : am_cl mX9_make mX4_init 3 := ⟨by decide +kernel, ⟨Nat.le_of_ble_eq_true rfl, Nat.le_of_ble_eq_true rfl⟩, cd_X4_init, ini_X4, by decide +kernel⟩
theorem cl_X9_isCell__X7_isThere : am_cl mX9_isCell mX7_isThere 0 := ⟨by decide +kernel, ⟨Nat.le_of_ble_eq_true rfl, Nat.le_of_ble_eq_true rfl⟩, cd_X7_isThere, ini_X7, by decide +kernel⟩
theorem cl_X9_settleNow__X0_settle : am_cl mX9_settleNow mX0_settle 4 := ⟨by decide +kernel, ⟨Nat.le_of_ble_eq_true rfl, Nat.le_of_ble_eq_true rfl⟩, cd_X0_settle, ini_X0, by decide +kernel⟩
theorem cl_X9_mayAsk__X7_isThere : am_cl mX9_mayAsk mX7_isThere 0 := ⟨by decide +kernel, ⟨Nat.le_of_ble_eq_true rfl, Nat.le_of_ble_eq_true rfl⟩, cd_X7_isThere, ini_X7, by decide +kernel⟩
theorem cl_X9_tellOfSource__X1_kindNumber : am_cl mX9_tellOfSource mX1_kindNumber 0 := ⟨by decide +kernel, ⟨Nat.le_of_ble_eq_true rfl, Nat.le_of_ble_eq_true rfl⟩, cd_X1_kindNumber, ini_X1, by decide +kernel⟩
theorem cl_X9_tellOfSource__X2_kindNumber : am_cl mX9_tellOfSource mX2_kindNumber 0 := ⟨by decide +kernel, ⟨Nat.le_of_ble_eq_true rfl, Nat.le_of_ble_eq_true rfl⟩, cd_X2_kindNumber, ini_X2, by decide +kernel⟩
theorem cl_X9_tellOfSource__X4_kindNumber : am_cl mX9_tellOfSource mX4_kindNumber 0 := ⟨by decide +kernel, ⟨Nat.le_of_ble_eq_true rfl, Nat.le_of_ble_eq_true rfl⟩, cd_X4_kindNumber, ini_X4, by decide +kernel⟩
theorem cl_X9_tellOfSource__X6_kindNumber : am_cl mX9_tellOfSource mX6_kindNumber 0 := ⟨by decide +kernel, ⟨Nat.le_of_ble_eq_true rfl, Nat.le_of_ble_eq_true rfl⟩, cd_X6_kindNumber, ini_X6, by decide +kernel⟩
theorem cl_X9_tellOfSource__X8_kindNumber : am_cl mX9_tellOfSource mX8_kindNumber 0 := ⟨by decide +kernel, ⟨Nat.le_of_ble_eq_true rfl, Nat.le_of_ble_eq_true rfl⟩, cd_X8_kindNumber, ini_X8, by decide +kernel⟩
theorem cl_X9_tellOfSource__X9_bit : am_cl mX9_tellOfSource mX9_bit 1 := ⟨by decide +kernel, ⟨Nat.le_of_ble_eq_true rfl, Nat.le_of_ble_eq_true rfl⟩, cd_X9_bit, ini_X9, by decide +kernel⟩
theorem cl_X9_tellOfSource__X1_force : am_cl mX9_tellOfSource mX1_force 1 := ⟨by decide +kernel, ⟨Nat.le_of_ble_eq_true rfl, Nat.le_of_ble_eq_true rfl⟩, cd_X1_force, ini_X1, by decide +kernel⟩
theorem cl_X9_tellOfSource__X4_force : am_cl mX9_tellOfSource mX4_force 1 := ⟨by decide +kernel, ⟨Nat.le_of_ble_eq_true rfl, Nat.le_of_ble_eq_true rfl⟩, cd_X4_force, ini_X4, by decide +kernel⟩
theorem cl_X9_tellOfSource__X5_smells : am_cl mX9_tellOfSource mX5_smells 2 := ⟨by decide +kernel, ⟨Nat.le_of_ble_eq_true rfl, Nat.le_of_ble_eq_true rfl⟩, cd_X5_smells, ini_X5, by decide +kernel⟩
theorem cl_X9_tellOfAll__X5_countBurning : am_cl mX9_tellOfAll mX5_countBurning 0 := ⟨by decide +kernel, ⟨Nat.le_of_ble_eq_true rfl, Nat.le_of_ble_eq_true rfl⟩, cd_X5_countBurning, ini_X5, by decide +kernel⟩
theorem cl_X9_tellOfAll__X9_bit : am_cl mX9_tellOfAll mX9_bit 1 := ⟨by decide +kernel, ⟨Nat.le_of_ble_eq_true rfl, Nat.le_of_ble_eq_true rfl⟩, cd_X9_bit, ini_X9, by decide +kernel⟩
theorem cl_X9_tellOfAll__X0_countOwned : am_cl mX9_tellOfAll mX0_countOwned 0 := ⟨by decide +kernel, ⟨Nat.le_of_ble_eq_true rfl, Nat.le_of_ble_eq_true rfl⟩, cd_X0_countOwned, ini_X0, by decide +kernel⟩
theorem cl_X9_digestCells__X9_tellOfCell : am_cl mX9_digestCells mX9_tellOfCell 2 := ⟨by decide +kernel, ⟨Nat.le_of_ble_eq_true rfl, Nat.le_of_ble_eq_true rfl⟩, cd_X9_tellOfCell, ini_X9, by decide +kernel⟩
theorem cl_X9_digestCells__X9_mix : am_cl mX9_digestCells mX9_mix 2 := ⟨by decide +kernel, ⟨Nat.le_of_ble_eq_true rfl, Nat.le_of_ble_eq_true rfl⟩, cd_X9_mix, ini_X9, by decide +kernel⟩
theorem cl_X9_digestCells__X9_heldBy : am_cl mX9_digestCells mX9_heldBy 2 := ⟨by decide +kernel, ⟨Nat.le_of_ble_eq_true rfl, Nat.le_of_ble_eq_true rfl⟩, cd_X9_heldBy, ini_X9, by decide +kernel⟩
theorem cl_X9_digestSource__X9_find : am_cl mX9_digestSource mX9_find 1 := ⟨by decide +kernel, ⟨Nat.le_of_ble_eq_true rfl, Nat.le_of_ble_eq_true rfl⟩, cd_X9_find, ini_X9, by decide +kernel⟩
theorem cl_X9_digestSource__X9_tellOfSource : am_cl mX9_digestSource mX9_tellOfSource 3 := ⟨by decide +kernel, ⟨Nat.le_of_ble_eq_true rfl, Nat.le_of_ble_eq_true rfl⟩, cd_X9_tellOfSource, ini_X9, by decide +kernel⟩
theorem cl_X9_digestSource__X9_mix : am_cl mX9_digestSource mX9_mix 2 := ⟨by decide +kernel, ⟨Nat.le_of_ble_eq_true rfl, Nat.le_of_ble_eq_true rfl⟩, cd_X9_mix, ini_X9, by decide +kernel⟩
theorem cl_X9_spreadOneMore__X7_spread : am_cl mX9_spreadOneMore mX7_spread 6 := ⟨by decide +kernel, ⟨Nat.le_of_ble_eq_true rfl, Nat.le_of_ble_eq_true rfl⟩, cd_X7_spread, ini_X7, by decide +kernel⟩
theorem cl_X9_wouldWin__X9_spreadOneMore : am_cl mX9_wouldWin mX9_spreadOneMore 2 := ⟨by decide +kernel, ⟨Nat.le_of_ble_eq_true rfl, Nat.le_of_ble_eq_true rfl⟩, cd_X9_spreadOneMore, ini_X9, by decide +kernel⟩
theorem cl_X9_fewestWalls__X9_cellsFreeForWalls : am_cl mX9_fewestWalls mX9_cellsFreeForWalls 1 := ⟨by decide +kernel, ⟨Nat.le_of_ble_eq_true rfl, Nat.le_of_ble_eq_true rfl⟩, cd_X9_cellsFreeForWalls, ini_X9, by decide +kernel⟩
theorem cl_X9_fewestWalls__J6_bitCount_0f7a4 : am_cl mX9_fewestWalls mJ6_bitCount_0f7a4 1 := ⟨by decide +kernel, ⟨Nat.le_of_ble_eq_true rfl, Nat.le_of_ble_eq_true rfl⟩, cd_J6_bitCount_0f7a4, ini_J6, by decide +kernel⟩
theorem cl_X9_fewestWalls__X0_settle : am_cl mX9_fewestWalls mX0_settle 4 := ⟨by decide +kernel, ⟨Nat.le_of_ble_eq_true rfl, Nat.le_of_ble_eq_true rfl⟩, cd_X0_settle, ini_X0, by decide +kernel⟩
theorem cl_X9_cellsFreeForWalls__X7_isWall : am_cl mX9_cellsFreeForWalls mX7_isWall 1 := ⟨by decide +kernel, ⟨Nat.le_of_ble_eq_true rfl, Nat.le_of_ble_eq_true rfl⟩, cd_X7_isWall, ini_X7, by decide +kernel⟩
theorem cl_X9_cellsFreeForWalls__X9_find : am_cl mX9_cellsFreeForWalls mX9_find 1 := ⟨by decide +kernel, ⟨Nat.le_of_ble_eq_true rfl, Nat.le_of_ble_eq_true rfl⟩, cd_X9_find, ini_X9, by decide +kernel⟩
theorem cl_X9_watchHolders__X5_copyFrom : am_cl mX9_watchHolders mX5_copyFrom 1 := ⟨by decide +kernel, ⟨Nat.le_of_ble_eq_true rfl, Nat.le_of_ble_eq_true rfl⟩, cd_X5_copyFrom, ini_X5, by decide +kernel⟩
theorem cl_X9_watchHolders__X0_settle : am_cl mX9_watchHolders mX0_settle 4 := ⟨by decide +kernel, ⟨Nat.le_of_ble_eq_true rfl, Nat.le_of_ble_eq_true rfl⟩, cd_X0_settle, ini_X0, by decide +kernel⟩
theorem cl_X9_watchHolders__X5_endHour : am_cl mX9_watchHolders mX5_endHour 0 := ⟨by decide +kernel, ⟨Nat.le_of_ble_eq_true rfl, Nat.le_of_ble_eq_true rfl⟩, cd_X5_endHour, ini_X5, by decide +kernel⟩
theorem cl_X9_fitsNoses__X7_isOpen : am_cl mX9_fitsNoses mX7_isOpen 1 := ⟨by decide +kernel, ⟨Nat.le_of_ble_eq_true rfl, Nat.le_of_ble_eq_true rfl⟩, cd_X7_isOpen, ini_X7, by decide +kernel⟩
theorem cl_X9_fitsNoses__X9_spreadOneMore : am_cl mX9_fitsNoses mX9_spreadOneMore 2 := ⟨by decide +kernel, ⟨Nat.le_of_ble_eq_true rfl, Nat.le_of_ble_eq_true rfl⟩, cd_X9_spreadOneMore, ini_X9, by decide +kernel⟩
theorem cl_X9_fitsNoses__X9_parishOf : am_cl mX9_fitsNoses mX9_parishOf 1 := ⟨by decide +kernel, ⟨Nat.le_of_ble_eq_true rfl, Nat.le_of_ble_eq_true rfl⟩, cd_X9_parishOf, ini_X9, by decide +kernel⟩
theorem cl_X9_fitsNoses__X9_whoseWith : am_cl mX9_fitsNoses mX9_whoseWith 2 := ⟨by decide +kernel, ⟨Nat.le_of_ble_eq_true rfl, Nat.le_of_ble_eq_true rfl⟩, cd_X9_whoseWith, ini_X9, by decide +kernel⟩
theorem cl_X9_tallyFindings__X9_fitsNoses : am_cl mX9_tallyFindings mX9_fitsNoses 1 := ⟨by decide +kernel, ⟨Nat.le_of_ble_eq_true rfl, Nat.le_of_ble_eq_true rfl⟩, cd_X9_fitsNoses, ini_X9, by decide +kernel⟩
theorem cl_X9_tallyFindings__X9_parishOf : am_cl mX9_tallyFindings mX9_parishOf 1 := ⟨by decide +kernel, ⟨Nat.le_of_ble_eq_true rfl, Nat.le_of_ble_eq_true rfl⟩, cd_X9_parishOf, ini_X9, by decide +kernel⟩
theorem cl_X9_tallyFindings__X9_whoseWith : am_cl mX9_tallyFindings mX9_whoseWith 2 := ⟨by decide +kernel, ⟨Nat.le_of_ble_eq_true rfl, Nat.le_of_ble_eq_true rfl⟩, cd_X9_whoseWith, ini_X9, by decide +kernel⟩
theorem cl_X10_letter__X10_in : am_cl mX10_letter mX10_in 3 := ⟨by decide +kernel, ⟨Nat.le_of_ble_eq_true rfl, Nat.le_of_ble_eq_true rfl⟩, cd_X10_in, ini_X10, by decide +kernel⟩
theorem cl_X10_isGood__X10_in : am_cl mX10_isGood mX10_in 3 := ⟨by decide +kernel, ⟨Nat.le_of_ble_eq_true rfl, Nat.le_of_ble_eq_true rfl⟩, cd_X10_in, ini_X10, by decide +kernel⟩
theorem cl_X10_faultOf__X10_isGood : am_cl mX10_faultOf mX10_isGood 2 := ⟨by decide +kernel, ⟨Nat.le_of_ble_eq_true rfl, Nat.le_of_ble_eq_true rfl⟩, cd_X10_isGood, ini_X10, by decide +kernel⟩
theorem cl_X10_fault__X10_faultOf : am_cl mX10_fault mX10_faultOf 0 := ⟨by decide +kernel, ⟨Nat.le_of_ble_eq_true rfl, Nat.le_of_ble_eq_true rfl⟩, cd_X10_faultOf, ini_X10, by decide +kernel⟩
theorem cl_X10_valley__X10_faultOf : am_cl mX10_valley mX10_faultOf 0 := ⟨by decide +kernel, ⟨Nat.le_of_ble_eq_true rfl, Nat.le_of_ble_eq_true rfl⟩, cd_X10_faultOf, ini_X10, by decide +kernel⟩
theorem cl_X10_valley__X10_opens : am_cl mX10_valley mX10_opens 0 := ⟨by decide +kernel, ⟨Nat.le_of_ble_eq_true rfl, Nat.le_of_ble_eq_true rfl⟩, cd_X10_opens, ini_X10, by decide +kernel⟩
theorem cl_X10_isCell__X10_in : am_cl mX10_isCell mX10_in 3 := ⟨by decide +kernel, ⟨Nat.le_of_ble_eq_true rfl, Nat.le_of_ble_eq_true rfl⟩, cd_X10_in, ini_X10, by decide +kernel⟩
theorem cl_X10_isCell__X10_lacks : am_cl mX10_isCell mX10_lacks 0 := ⟨by decide +kernel, ⟨Nat.le_of_ble_eq_true rfl, Nat.le_of_ble_eq_true rfl⟩, cd_X10_lacks, ini_X10, by decide +kernel⟩
theorem cl_X10_isSource__X10_in : am_cl mX10_isSource mX10_in 3 := ⟨by decide +kernel, ⟨Nat.le_of_ble_eq_true rfl, Nat.le_of_ble_eq_true rfl⟩, cd_X10_in, ini_X10, by decide +kernel⟩
theorem cl_X10_source__X10_in : am_cl mX10_source mX10_in 3 := ⟨by decide +kernel, ⟨Nat.le_of_ble_eq_true rfl, Nat.le_of_ble_eq_true rfl⟩, cd_X10_in, ini_X10, by decide +kernel⟩
theorem cl_X10_source__X10_isCell : am_cl mX10_source mX10_isCell 1 := ⟨by decide +kernel, ⟨Nat.le_of_ble_eq_true rfl, Nat.le_of_ble_eq_true rfl⟩, cd_X10_isCell, ini_X10, by decide +kernel⟩
theorem cl_X10_source__X10_lay : am_cl mX10_source mX10_lay 5 := ⟨by decide +kernel, ⟨Nat.le_of_ble_eq_true rfl, Nat.le_of_ble_eq_true rfl⟩, cd_X10_lay, ini_X10, by decide +kernel⟩
theorem cl_X10_lossOf__X10_against : am_cl mX10_lossOf mX10_against 1 := ⟨by decide +kernel, ⟨Nat.le_of_ble_eq_true rfl, Nat.le_of_ble_eq_true rfl⟩, cd_X10_against, ini_X10, by decide +kernel⟩
theorem cl_X10_layMuch__X10_smells : am_cl mX10_layMuch mX10_smells 1 := ⟨by decide +kernel, ⟨Nat.le_of_ble_eq_true rfl, Nat.le_of_ble_eq_true rfl⟩, cd_X10_smells, ini_X10, by decide +kernel⟩
theorem cl_X10_layMuch__X10_forceOf : am_cl mX10_layMuch mX10_forceOf 1 := ⟨by decide +kernel, ⟨Nat.le_of_ble_eq_true rfl, Nat.le_of_ble_eq_true rfl⟩, cd_X10_forceOf, ini_X10, by decide +kernel⟩
theorem cl_X10_layMuch__X10_beside : am_cl mX10_layMuch mX10_beside 2 := ⟨by decide +kernel, ⟨Nat.le_of_ble_eq_true rfl, Nat.le_of_ble_eq_true rfl⟩, cd_X10_beside, ini_X10, by decide +kernel⟩
theorem cl_X10_layMuch__X10_lossOf : am_cl mX10_layMuch mX10_lossOf 3 := ⟨by decide +kernel, ⟨Nat.le_of_ble_eq_true rfl, Nat.le_of_ble_eq_true rfl⟩, cd_X10_lossOf, ini_X10, by decide +kernel⟩
theorem cl_X10_layCells__X10_layMuch : am_cl mX10_layCells mX10_layMuch 1 := ⟨by decide +kernel, ⟨Nat.le_of_ble_eq_true rfl, Nat.le_of_ble_eq_true rfl⟩, cd_X10_layMuch, ini_X10, by decide +kernel⟩
theorem cl_X10_tellCell__X10_layCells : am_cl mX10_tellCell mX10_layCells 0 := ⟨by decide +kernel, ⟨Nat.le_of_ble_eq_true rfl, Nat.le_of_ble_eq_true rfl⟩, cd_X10_layCells, ini_X10, by decide +kernel⟩
theorem cl_X10_tellCell__X10_whose : am_cl mX10_tellCell mX10_whose 1 := ⟨by decide +kernel, ⟨Nat.le_of_ble_eq_true rfl, Nat.le_of_ble_eq_true rfl⟩, cd_X10_whose, ini_X10, by decide +kernel⟩
theorem cl_X10_cell__X10_isCell : am_cl mX10_cell mX10_isCell 1 := ⟨by decide +kernel, ⟨Nat.le_of_ble_eq_true rfl, Nat.le_of_ble_eq_true rfl⟩, cd_X10_isCell, ini_X10, by decide +kernel⟩
theorem cl_X10_cell__X10_tellCell : am_cl mX10_cell mX10_tellCell 2 := ⟨by decide +kernel, ⟨Nat.le_of_ble_eq_true rfl, Nat.le_of_ble_eq_true rfl⟩, cd_X10_tellCell, ini_X10, by decide +kernel⟩
theorem cl_X10_bordersOf__X10_layCells : am_cl mX10_bordersOf mX10_layCells 0 := ⟨by decide +kernel, ⟨Nat.le_of_ble_eq_true rfl, Nat.le_of_ble_eq_true rfl⟩, cd_X10_layCells, ini_X10, by decide +kernel⟩
theorem cl_X10_bordersOf__X10_beside : am_cl mX10_bordersOf mX10_beside 2 := ⟨by decide +kernel, ⟨Nat.le_of_ble_eq_true rfl, Nat.le_of_ble_eq_true rfl⟩, cd_X10_beside, ini_X10, by decide +kernel⟩
theorem cl_X10_bordersOf__X10_whose : am_cl mX10_bordersOf mX10_whose 1 := ⟨by decide +kernel, ⟨Nat.le_of_ble_eq_true rfl, Nat.le_of_ble_eq_true rfl⟩, cd_X10_whose, ini_X10, by decide +kernel⟩
theorem cl_X10_borders__X10_lacks : am_cl mX10_borders mX10_lacks 0 := ⟨by decide +kernel, ⟨Nat.le_of_ble_eq_true rfl, Nat.le_of_ble_eq_true rfl⟩, cd_X10_lacks, ini_X10, by decide +kernel⟩
theorem cl_X10_borders__X10_bordersOf : am_cl mX10_borders mX10_bordersOf 0 := ⟨by decide +kernel, ⟨Nat.le_of_ble_eq_true rfl, Nat.le_of_ble_eq_true rfl⟩, cd_X10_bordersOf, ini_X10, by decide +kernel⟩
theorem cl_X10_tell__X10_in : am_cl mX10_tell mX10_in 3 := ⟨by decide +kernel, ⟨Nat.le_of_ble_eq_true rfl, Nat.le_of_ble_eq_true rfl⟩, cd_X10_in, ini_X10, by decide +kernel⟩
theorem cl_X10_tell__X10_layMuch : am_cl mX10_tell mX10_layMuch 1 := ⟨by decide +kernel, ⟨Nat.le_of_ble_eq_true rfl, Nat.le_of_ble_eq_true rfl⟩, cd_X10_layMuch, ini_X10, by decide +kernel⟩
theorem cl_X10_tell__X10_forceOf : am_cl mX10_tell mX10_forceOf 1 := ⟨by decide +kernel, ⟨Nat.le_of_ble_eq_true rfl, Nat.le_of_ble_eq_true rfl⟩, cd_X10_forceOf, ini_X10, by decide +kernel⟩
theorem cl_X10_tell__X10_smells : am_cl mX10_tell mX10_smells 1 := ⟨by decide +kernel, ⟨Nat.le_of_ble_eq_true rfl, Nat.le_of_ble_eq_true rfl⟩, cd_X10_smells, ini_X10, by decide +kernel⟩
theorem cl_X10_about__X10_isSource : am_cl mX10_about mX10_isSource 1 := ⟨by decide +kernel, ⟨Nat.le_of_ble_eq_true rfl, Nat.le_of_ble_eq_true rfl⟩, cd_X10_isSource, ini_X10, by decide +kernel⟩
theorem cl_X10_about__X10_tell : am_cl mX10_about mX10_tell 2 := ⟨by decide +kernel, ⟨Nat.le_of_ble_eq_true rfl, Nat.le_of_ble_eq_true rfl⟩, cd_X10_tell, ini_X10, by decide +kernel⟩
theorem cl_X10_as__X10_isSource : am_cl mX10_as mX10_isSource 1 := ⟨by decide +kernel, ⟨Nat.le_of_ble_eq_true rfl, Nat.le_of_ble_eq_true rfl⟩, cd_X10_isSource, ini_X10, by decide +kernel⟩
theorem cl_X10_as__X10_in : am_cl mX10_as mX10_in 3 := ⟨by decide +kernel, ⟨Nat.le_of_ble_eq_true rfl, Nat.le_of_ble_eq_true rfl⟩, cd_X10_in, ini_X10, by decide +kernel⟩
theorem cl_X10_burn__X10_isSource : am_cl mX10_burn mX10_isSource 1 := ⟨by decide +kernel, ⟨Nat.le_of_ble_eq_true rfl, Nat.le_of_ble_eq_true rfl⟩, cd_X10_isSource, ini_X10, by decide +kernel⟩
theorem cl_X10_wind__X10_in : am_cl mX10_wind mX10_in 3 := ⟨by decide +kernel, ⟨Nat.le_of_ble_eq_true rfl, Nat.le_of_ble_eq_true rfl⟩, cd_X10_in, ini_X10, by decide +kernel⟩
theorem cl_X10_wind__X10_lacks : am_cl mX10_wind mX10_lacks 0 := ⟨by decide +kernel, ⟨Nat.le_of_ble_eq_true rfl, Nat.le_of_ble_eq_true rfl⟩, cd_X10_lacks, ini_X10, by decide +kernel⟩
theorem cl_X10_frost__X10_lacks : am_cl mX10_frost mX10_lacks 0 := ⟨by decide +kernel, ⟨Nat.le_of_ble_eq_true rfl, Nat.le_of_ble_eq_true rfl⟩, cd_X10_lacks, ini_X10, by decide +kernel⟩
theorem cl_X10_people__X10_isCell : am_cl mX10_people mX10_isCell 1 := ⟨by decide +kernel, ⟨Nat.le_of_ble_eq_true rfl, Nat.le_of_ble_eq_true rfl⟩, cd_X10_isCell, ini_X10, by decide +kernel⟩
theorem cl_X10_people__X10_in : am_cl mX10_people mX10_in 3 := ⟨by decide +kernel, ⟨Nat.le_of_ble_eq_true rfl, Nat.le_of_ble_eq_true rfl⟩, cd_X10_in, ini_X10, by decide +kernel⟩
theorem cl_X10_dusk__X10_lacks : am_cl mX10_dusk mX10_lacks 0 := ⟨by decide +kernel, ⟨Nat.le_of_ble_eq_true rfl, Nat.le_of_ble_eq_true rfl⟩, cd_X10_lacks, ini_X10, by decide +kernel⟩
theorem cl_X10_dusk__X10_layCells : am_cl mX10_dusk mX10_layCells 0 := ⟨by decide +kernel, ⟨Nat.le_of_ble_eq_true rfl, Nat.le_of_ble_eq_true rfl⟩, cd_X10_layCells, ini_X10, by decide +kernel⟩
theorem cl_X10_dusk__X10_whose : am_cl mX10_dusk mX10_whose 1 := ⟨by decide +kernel, ⟨Nat.le_of_ble_eq_true rfl, Nat.le_of_ble_eq_true rfl⟩, cd_X10_whose, ini_X10, by decide +kernel⟩
theorem cl_X10_hour__X10_lacks : am_cl mX10_hour mX10_lacks 0 := ⟨by decide +kernel, ⟨Nat.le_of_ble_eq_true rfl, Nat.le_of_ble_eq_true rfl⟩, cd_X10_lacks, ini_X10, by decide +kernel⟩
theorem cl_X10_hour__X10_ends : am_cl mX10_hour mX10_ends 0 := ⟨by decide +kernel, ⟨Nat.le_of_ble_eq_true rfl, Nat.le_of_ble_eq_true rfl⟩, cd_X10_ends, ini_X10, by decide +kernel⟩
theorem cl_X10_whoseBy__X10_lay : am_cl mX10_whoseBy mX10_lay 5 := ⟨by decide +kernel, ⟨Nat.le_of_ble_eq_true rfl, Nat.le_of_ble_eq_true rfl⟩, cd_X10_lay, ini_X10, by decide +kernel⟩
theorem cl_X10_whoseBy__X10_layCells : am_cl mX10_whoseBy mX10_layCells 0 := ⟨by decide +kernel, ⟨Nat.le_of_ble_eq_true rfl, Nat.le_of_ble_eq_true rfl⟩, cd_X10_layCells, ini_X10, by decide +kernel⟩
theorem cl_X10_whoseBy__X10_whose : am_cl mX10_whoseBy mX10_whose 1 := ⟨by decide +kernel, ⟨Nat.le_of_ble_eq_true rfl, Nat.le_of_ble_eq_true rfl⟩, cd_X10_whose, ini_X10, by decide +kernel⟩
theorem cl_X10_weakestOf__X10_layCells : am_cl mX10_weakestOf mX10_layCells 0 := ⟨by decide +kernel, ⟨Nat.le_of_ble_eq_true rfl, Nat.le_of_ble_eq_true rfl⟩, cd_X10_layCells, ini_X10, by decide +kernel⟩
theorem cl_X10_weakestOf__X10_whose : am_cl mX10_weakestOf mX10_whose 1 := ⟨by decide +kernel, ⟨Nat.le_of_ble_eq_true rfl, Nat.le_of_ble_eq_true rfl⟩, cd_X10_whose, ini_X10, by decide +kernel⟩
theorem cl_X10_weakestOf__X10_whoseBy : am_cl mX10_weakestOf mX10_whoseBy 4 := ⟨by decide +kernel, ⟨Nat.le_of_ble_eq_true rfl, Nat.le_of_ble_eq_true rfl⟩, cd_X10_whoseBy, ini_X10, by decide +kernel⟩
theorem cl_X10_weakest__X10_isCell : am_cl mX10_weakest mX10_isCell 1 := ⟨by decide +kernel, ⟨Nat.le_of_ble_eq_true rfl, Nat.le_of_ble_eq_true rfl⟩, cd_X10_isCell, ini_X10, by decide +kernel⟩
theorem cl_X10_weakest__X10_in : am_cl mX10_weakest mX10_in 3 := ⟨by decide +kernel, ⟨Nat.le_of_ble_eq_true rfl, Nat.le_of_ble_eq_true rfl⟩, cd_X10_in, ini_X10, by decide +kernel⟩
theorem cl_X10_weakest__X10_weakestOf : am_cl mX10_weakest mX10_weakestOf 3 := ⟨by decide +kernel, ⟨Nat.le_of_ble_eq_true rfl, Nat.le_of_ble_eq_true rfl⟩, cd_X10_weakestOf, ini_X10, by decide +kernel⟩
theorem cl_X10_walls__X10_isCell : am_cl mX10_walls mX10_isCell 1 := ⟨by decide +kernel, ⟨Nat.le_of_ble_eq_true rfl, Nat.le_of_ble_eq_true rfl⟩, cd_X10_isCell, ini_X10, by decide +kernel⟩
theorem cl_X10_walls__X10_in : am_cl mX10_walls mX10_in 3 := ⟨by decide +kernel, ⟨Nat.le_of_ble_eq_true rfl, Nat.le_of_ble_eq_true rfl⟩, cd_X10_in, ini_X10, by decide +kernel⟩
theorem cl_X10_walls__X10_copy : am_cl mX10_walls mX10_copy 2 := ⟨by decide +kernel, ⟨Nat.le_of_ble_eq_true rfl, Nat.le_of_ble_eq_true rfl⟩, cd_X10_copy, ini_X10, by decide +kernel⟩
theorem cl_X10_walls__X10_mayBeWalls : am_cl mX10_walls mX10_mayBeWalls 1 := ⟨by decide +kernel, ⟨Nat.le_of_ble_eq_true rfl, Nat.le_of_ble_eq_true rfl⟩, cd_X10_mayBeWalls, ini_X10, by decide +kernel⟩
theorem cl_X10_walls__X10_ones : am_cl mX10_walls mX10_ones 1 := ⟨by decide +kernel, ⟨Nat.le_of_ble_eq_true rfl, Nat.le_of_ble_eq_true rfl⟩, cd_X10_ones, ini_X10, by decide +kernel⟩
theorem cl_X10_walls__X10_layCells : am_cl mX10_walls mX10_layCells 0 := ⟨by decide +kernel, ⟨Nat.le_of_ble_eq_true rfl, Nat.le_of_ble_eq_true rfl⟩, cd_X10_layCells, ini_X10, by decide +kernel⟩
theorem cl_X10_walls__X10_whose : am_cl mX10_walls mX10_whose 1 := ⟨by decide +kernel, ⟨Nat.le_of_ble_eq_true rfl, Nat.le_of_ble_eq_true rfl⟩, cd_X10_whose, ini_X10, by decide +kernel⟩
theorem cl_X10_holdOf__X10_copy : am_cl mX10_holdOf mX10_copy 2 := ⟨by decide +kernel, ⟨Nat.le_of_ble_eq_true rfl, Nat.le_of_ble_eq_true rfl⟩, cd_X10_copy, ini_X10, by decide +kernel⟩
theorem cl_X10_holdOf__X10_layCells : am_cl mX10_holdOf mX10_layCells 0 := ⟨by decide +kernel, ⟨Nat.le_of_ble_eq_true rfl, Nat.le_of_ble_eq_true rfl⟩, cd_X10_layCells, ini_X10, by decide +kernel⟩
theorem cl_X10_holdOf__X10_whose : am_cl mX10_holdOf mX10_whose 1 := ⟨by decide +kernel, ⟨Nat.le_of_ble_eq_true rfl, Nat.le_of_ble_eq_true rfl⟩, cd_X10_whose, ini_X10, by decide +kernel⟩
theorem cl_X10_holdOf__X10_ends : am_cl mX10_holdOf mX10_ends 0 := ⟨by decide +kernel, ⟨Nat.le_of_ble_eq_true rfl, Nat.le_of_ble_eq_true rfl⟩, cd_X10_ends, ini_X10, by decide +kernel⟩
theorem cl_X10_hold__X10_isCell : am_cl mX10_hold mX10_isCell 1 := ⟨by decide +kernel, ⟨Nat.le_of_ble_eq_true rfl, Nat.le_of_ble_eq_true rfl⟩, cd_X10_isCell, ini_X10, by decide +kernel⟩
theorem cl_X10_hold__X10_in : am_cl mX10_hold mX10_in 3 := ⟨by decide +kernel, ⟨Nat.le_of_ble_eq_true rfl, Nat.le_of_ble_eq_true rfl⟩, cd_X10_in, ini_X10, by decide +kernel⟩
theorem cl_X10_hold__X10_holdOf : am_cl mX10_hold mX10_holdOf 2 := ⟨by decide +kernel, ⟨Nat.le_of_ble_eq_true rfl, Nat.le_of_ble_eq_true rfl⟩, cd_X10_holdOf, ini_X10, by decide +kernel⟩
theorem cl_X10_nose__X10_isCell : am_cl mX10_nose mX10_isCell 1 := ⟨by decide +kernel, ⟨Nat.le_of_ble_eq_true rfl, Nat.le_of_ble_eq_true rfl⟩, cd_X10_isCell, ini_X10, by decide +kernel⟩
theorem cl_X10_nose__X10_in : am_cl mX10_nose mX10_in 3 := ⟨by decide +kernel, ⟨Nat.le_of_ble_eq_true rfl, Nat.le_of_ble_eq_true rfl⟩, cd_X10_in, ini_X10, by decide +kernel⟩
theorem cl_X10_isSmeltBy__X10_whoseBy : am_cl mX10_isSmeltBy mX10_whoseBy 4 := ⟨by decide +kernel, ⟨Nat.le_of_ble_eq_true rfl, Nat.le_of_ble_eq_true rfl⟩, cd_X10_whoseBy, ini_X10, by decide +kernel⟩
theorem cl_X10_isSmeltBy__X10_whose : am_cl mX10_isSmeltBy mX10_whose 1 := ⟨by decide +kernel, ⟨Nat.le_of_ble_eq_true rfl, Nat.le_of_ble_eq_true rfl⟩, cd_X10_whose, ini_X10, by decide +kernel⟩
theorem cl_X10_unknown__X10_in : am_cl mX10_unknown mX10_in 3 := ⟨by decide +kernel, ⟨Nat.le_of_ble_eq_true rfl, Nat.le_of_ble_eq_true rfl⟩, cd_X10_in, ini_X10, by decide +kernel⟩
theorem cl_X10_unknown__X10_lacks : am_cl mX10_unknown mX10_lacks 0 := ⟨by decide +kernel, ⟨Nat.le_of_ble_eq_true rfl, Nat.le_of_ble_eq_true rfl⟩, cd_X10_lacks, ini_X10, by decide +kernel⟩
theorem cl_X10_unknown__X10_isSmeltBy : am_cl mX10_unknown mX10_isSmeltBy 1 := ⟨by decide +kernel, ⟨Nat.le_of_ble_eq_true rfl, Nat.le_of_ble_eq_true rfl⟩, cd_X10_isSmeltBy, ini_X10, by decide +kernel⟩
theorem cl_X10_sniff__X10_lacks : am_cl mX10_sniff mX10_lacks 0 := ⟨by decide +kernel, ⟨Nat.le_of_ble_eq_true rfl, Nat.le_of_ble_eq_true rfl⟩, cd_X10_lacks, ini_X10, by decide +kernel⟩
theorem cl_X10_sniff__X10_isSmeltBy : am_cl mX10_sniff mX10_isSmeltBy 1 := ⟨by decide +kernel, ⟨Nat.le_of_ble_eq_true rfl, Nat.le_of_ble_eq_true rfl⟩, cd_X10_isSmeltBy, ini_X10, by decide +kernel⟩
theorem cl_X10_sniff__X10_whose : am_cl mX10_sniff mX10_whose 1 := ⟨by decide +kernel, ⟨Nat.le_of_ble_eq_true rfl, Nat.le_of_ble_eq_true rfl⟩, cd_X10_whose, ini_X10, by decide +kernel⟩
theorem cl_X10_days__X10_in : am_cl mX10_days mX10_in 3 := ⟨by decide +kernel, ⟨Nat.le_of_ble_eq_true rfl, Nat.le_of_ble_eq_true rfl⟩, cd_X10_in, ini_X10, by decide +kernel⟩
theorem cl_X10_days__X10_lacks : am_cl mX10_days mX10_lacks 0 := ⟨by decide +kernel, ⟨Nat.le_of_ble_eq_true rfl, Nat.le_of_ble_eq_true rfl⟩, cd_X10_lacks, ini_X10, by decide +kernel⟩
theorem cl_X10_days__X10_copy : am_cl mX10_days mX10_copy 2 := ⟨by decide +kernel, ⟨Nat.le_of_ble_eq_true rfl, Nat.le_of_ble_eq_true rfl⟩, cd_X10_copy, ini_X10, by decide +kernel⟩
theorem cl_X10_days__X10_draw : am_cl mX10_days mX10_draw 1 := ⟨by decide +kernel, ⟨Nat.le_of_ble_eq_true rfl, Nat.le_of_ble_eq_true rfl⟩, cd_X10_draw, ini_X10, by decide +kernel⟩
theorem cl_X10_days__X10_bordersOf : am_cl mX10_days mX10_bordersOf 0 := ⟨by decide +kernel, ⟨Nat.le_of_ble_eq_true rfl, Nat.le_of_ble_eq_true rfl⟩, cd_X10_bordersOf, ini_X10, by decide +kernel⟩
theorem cl_X10_days__X10_ends : am_cl mX10_days mX10_ends 0 := ⟨by decide +kernel, ⟨Nat.le_of_ble_eq_true rfl, Nat.le_of_ble_eq_true rfl⟩, cd_X10_ends, ini_X10, by decide +kernel⟩
theorem cl_X10_image__X10_lacks : am_cl mX10_image mX10_lacks 0 := ⟨by decide +kernel, ⟨Nat.le_of_ble_eq_true rfl, Nat.le_of_ble_eq_true rfl⟩, cd_X10_lacks, ini_X10, by decide +kernel⟩
theorem cl_X10_image__X10_copy : am_cl mX10_image mX10_copy 2 := ⟨by decide +kernel, ⟨Nat.le_of_ble_eq_true rfl, Nat.le_of_ble_eq_true rfl⟩, cd_X10_copy, ini_X10, by decide +kernel⟩
theorem cl_X10_restore__X10_copy : am_cl mX10_restore mX10_copy 2 := ⟨by decide +kernel, ⟨Nat.le_of_ble_eq_true rfl, Nat.le_of_ble_eq_true rfl⟩, cd_X10_copy, ini_X10, by decide +kernel⟩
theorem cl_X10_somebodys__X10_layCells : am_cl mX10_somebodys mX10_layCells 0 := ⟨by decide +kernel, ⟨Nat.le_of_ble_eq_true rfl, Nat.le_of_ble_eq_true rfl⟩, cd_X10_layCells, ini_X10, by decide +kernel⟩
theorem cl_X10_countOf__X10_opens : am_cl mX10_countOf mX10_opens 0 := ⟨by decide +kernel, ⟨Nat.le_of_ble_eq_true rfl, Nat.le_of_ble_eq_true rfl⟩, cd_X10_opens, ini_X10, by decide +kernel⟩
theorem cl_X10_countOf__X10_burning : am_cl mX10_countOf mX10_burning 0 := ⟨by decide +kernel, ⟨Nat.le_of_ble_eq_true rfl, Nat.le_of_ble_eq_true rfl⟩, cd_X10_burning, ini_X10, by decide +kernel⟩
theorem cl_X10_countOf__X10_somebodys : am_cl mX10_countOf mX10_somebodys 0 := ⟨by decide +kernel, ⟨Nat.le_of_ble_eq_true rfl, Nat.le_of_ble_eq_true rfl⟩, cd_X10_somebodys, ini_X10, by decide +kernel⟩
theorem cl_X10_count__X10_countOf : am_cl mX10_count mX10_countOf 1 := ⟨by decide +kernel, ⟨Nat.le_of_ble_eq_true rfl, Nat.le_of_ble_eq_true rfl⟩, cd_X10_countOf, ini_X10, by decide +kernel⟩
theorem cl_X10_sayCell__X10_tellCell : am_cl mX10_sayCell mX10_tellCell 2 := ⟨by decide +kernel, ⟨Nat.le_of_ble_eq_true rfl, Nat.le_of_ble_eq_true rfl⟩, cd_X10_tellCell, ini_X10, by decide +kernel⟩
theorem cl_X10_sayCell__X10_say : am_cl mX10_sayCell mX10_say 1 := ⟨by decide +kernel, ⟨Nat.le_of_ble_eq_true rfl, Nat.le_of_ble_eq_true rfl⟩, cd_X10_say, ini_X10, by decide +kernel⟩
theorem cl_X10_sayCell__X10_holdOf : am_cl mX10_sayCell mX10_holdOf 2 := ⟨by decide +kernel, ⟨Nat.le_of_ble_eq_true rfl, Nat.le_of_ble_eq_true rfl⟩, cd_X10_holdOf, ini_X10, by decide +kernel⟩
theorem cl_X10_digest__X10_lacks : am_cl mX10_digest mX10_lacks 0 := ⟨by decide +kernel, ⟨Nat.le_of_ble_eq_true rfl, Nat.le_of_ble_eq_true rfl⟩, cd_X10_lacks, ini_X10, by decide +kernel⟩
theorem cl_X10_digest__X10_sayCell : am_cl mX10_digest mX10_sayCell 1 := ⟨by decide +kernel, ⟨Nat.le_of_ble_eq_true rfl, Nat.le_of_ble_eq_true rfl⟩, cd_X10_sayCell, ini_X10, by decide +kernel⟩
theorem cl_X10_digest__X10_tell : am_cl mX10_digest mX10_tell 2 := ⟨by decide +kernel, ⟨Nat.le_of_ble_eq_true rfl, Nat.le_of_ble_eq_true rfl⟩, cd_X10_tell, ini_X10, by decide +kernel⟩
theorem cl_X10_digest__X10_say : am_cl mX10_digest mX10_say 1 := ⟨by decide +kernel, ⟨Nat.le_of_ble_eq_true rfl, Nat.le_of_ble_eq_true rfl⟩, cd_X10_say, ini_X10, by decide +kernel⟩
theorem cl_X10_digest__X10_bordersOf : am_cl mX10_digest mX10_bordersOf 0 := ⟨by decide +kernel, ⟨Nat.le_of_ble_eq_true rfl, Nat.le_of_ble_eq_true rfl⟩, cd_X10_bordersOf, ini_X10, by decide +kernel⟩
theorem cl_X10_digest__X10_countOf : am_cl mX10_digest mX10_countOf 1 := ⟨by decide +kernel, ⟨Nat.le_of_ble_eq_true rfl, Nat.le_of_ble_eq_true rfl⟩, cd_X10_countOf, ini_X10, by decide +kernel⟩
theorem cl_L_law__X9_init {nm : String} : am_cl (mL_law nm) mX9_init 0 := ⟨by decide +kernel, ⟨Nat.le_of_ble_eq_true rfl, Nat.le_of_ble_eq_true rfl⟩, cd_X9_init, ini_X9, by decide +kernel⟩
theorem cl_L_law__X10_init {nm : String} : am_cl (mL_law nm) mX10_init 0 := ⟨by decide +kernel, ⟨Nat.le_of_ble_eq_true rfl, Nat.le_of_ble_eq_true rfl⟩, cd_X10_init, ini_X10, by decide +kernel⟩
theorem cl_L_law__X9_letter {nm : String} : am_cl (mL_law nm) mX9_letter 1 := ⟨by decide +kernel, ⟨Nat.le_of_ble_eq_true rfl, Nat.le_of_ble_eq_true rfl⟩, cd_X9_letter, ini_X9, by decide +kernel⟩
theorem cl_L_law__X10_letter {nm : String} : am_cl (mL_law nm) mX10_letter 1 := ⟨by decide +kernel, ⟨Nat.le_of_ble_eq_true rfl, Nat.le_of_ble_eq_true rfl⟩, cd_X10_letter, ini_X10, by decide +kernel⟩
theorem cl_L_law__X9_blank {nm : String} : am_cl (mL_law nm) mX9_blank 0 := ⟨by decide +kernel, ⟨Nat.le_of_ble_eq_true rfl, Nat.le_of_ble_eq_true rfl⟩, cd_X9_blank, ini_X9, by decide +kernel⟩
theorem cl_L_law__X10_blank {nm : String} : am_cl (mL_law nm) mX10_blank 0 := ⟨by decide +kernel, ⟨Nat.le_of_ble_eq_true rfl, Nat.le_of_ble_eq_true rfl⟩, cd_X10_blank, ini_X10, by decide +kernel⟩
theorem cl_L_law__X9_fault {nm : String} : am_cl (mL_law nm) mX9_fault 0 := ⟨by decide +kernel, ⟨Nat.le_of_ble_eq_true rfl, Nat.le_of_ble_eq_true rfl⟩, cd_X9_fault, ini_X9, by decide +kernel⟩
theorem cl_L_law__X10_fault {nm : String} : am_cl (mL_law nm) mX10_fault 0 := ⟨by decide +kernel, ⟨Nat.le_of_ble_eq_true rfl, Nat.le_of_ble_eq_true rfl⟩, cd_X10_fault, ini_X10, by decide +kernel⟩
theorem cl_L_law__X9_valley {nm : String} : am_cl (mL_law nm) mX9_valley 0 := ⟨by decide +kernel, ⟨Nat.le_of_ble_eq_true rfl, Nat.le_of_ble_eq_true rfl⟩, cd_X9_valley, ini_X9, by decide +kernel⟩
theorem cl_L_law__X10_valley {nm : String} : am_cl (mL_law nm) mX10_valley 0 := ⟨by decide +kernel, ⟨Nat.le_of_ble_eq_true rfl, Nat.le_of_ble_eq_true rfl⟩, cd_X10_valley, ini_X10, by decide +kernel⟩
theorem cl_L_law__X9_cell {nm : String} : am_cl (mL_law nm) mX9_cell 2 := ⟨by decide +kernel, ⟨Nat.le_of_ble_eq_true rfl, Nat.le_of_ble_eq_true rfl⟩, cd_X9_cell, ini_X9, by decide +kernel⟩
theorem cl_L_law__X10_cell {nm : String} : am_cl (mL_law nm) mX10_cell 2 := ⟨by decide +kernel, ⟨Nat.le_of_ble_eq_true rfl, Nat.le_of_ble_eq_true rfl⟩, cd_X10_cell, ini_X10, by decide +kernel⟩
theorem cl_L_law__X9_borders {nm : String} : am_cl (mL_law nm) mX9_borders 0 := ⟨by decide +kernel, ⟨Nat.le_of_ble_eq_true rfl, Nat.le_of_ble_eq_true rfl⟩, cd_X9_borders, ini_X9, by decide +kernel⟩
theorem cl_L_law__X10_borders {nm : String} : am_cl (mL_law nm) mX10_borders 0 := ⟨by decide +kernel, ⟨Nat.le_of_ble_eq_true rfl, Nat.le_of_ble_eq_true rfl⟩, cd_X10_borders, ini_X10, by decide +kernel⟩
theorem cl_L_law__X9_source {nm : String} : am_cl (mL_law nm) mX9_source 4 := ⟨by decide +kernel, ⟨Nat.le_of_ble_eq_true rfl, Nat.le_of_ble_eq_true rfl⟩, cd_X9_source, ini_X9, by decide +kernel⟩
theorem cl_L_law__X10_source {nm : String} : am_cl (mL_law nm) mX10_source 4 := ⟨by decide +kernel, ⟨Nat.le_of_ble_eq_true rfl, Nat.le_of_ble_eq_true rfl⟩, cd_X10_source, ini_X10, by decide +kernel⟩
theorem cl_L_law__X9_about {nm : String} : am_cl (mL_law nm) mX9_about 2 := ⟨by decide +kernel, ⟨Nat.le_of_ble_eq_true rfl, Nat.le_of_ble_eq_true rfl⟩, cd_X9_about, ini_X9, by decide +kernel⟩
theorem cl_L_law__X10_about {nm : String} : am_cl (mL_law nm) mX10_about 2 := ⟨by decide +kernel, ⟨Nat.le_of_ble_eq_true rfl, Nat.le_of_ble_eq_true rfl⟩, cd_X10_about, ini_X10, by decide +kernel⟩
theorem cl_L_law__X9_as {nm : String} : am_cl (mL_law nm) mX9_as 2 := ⟨by decide +kernel, ⟨Nat.le_of_ble_eq_true rfl, Nat.le_of_ble_eq_true rfl⟩, cd_X9_as, ini_X9, by decide +kernel⟩
theorem cl_L_law__X10_as {nm : String} : am_cl (mL_law nm) mX10_as 2 := ⟨by decide +kernel, ⟨Nat.le_of_ble_eq_true rfl, Nat.le_of_ble_eq_true rfl⟩, cd_X10_as, ini_X10, by decide +kernel⟩
theorem cl_L_law__X9_burn {nm : String} : am_cl (mL_law nm) mX9_burn 2 := ⟨by decide +kernel, ⟨Nat.le_of_ble_eq_true rfl, Nat.le_of_ble_eq_true rfl⟩, cd_X9_burn, ini_X9, by decide +kernel⟩
theorem cl_L_law__X10_burn {nm : String} : am_cl (mL_law nm) mX10_burn 2 := ⟨by decide +kernel, ⟨Nat.le_of_ble_eq_true rfl, Nat.le_of_ble_eq_true rfl⟩, cd_X10_burn, ini_X10, by decide +kernel⟩
theorem cl_L_law__X9_wind {nm : String} : am_cl (mL_law nm) mX9_wind 1 := ⟨by decide +kernel, ⟨Nat.le_of_ble_eq_true rfl, Nat.le_of_ble_eq_true rfl⟩, cd_X9_wind, ini_X9, by decide +kernel⟩
theorem cl_L_law__X10_wind {nm : String} : am_cl (mL_law nm) mX10_wind 1 := ⟨by decide +kernel, ⟨Nat.le_of_ble_eq_true rfl, Nat.le_of_ble_eq_true rfl⟩, cd_X10_wind, ini_X10, by decide +kernel⟩
theorem cl_L_law__X9_frost {nm : String} : am_cl (mL_law nm) mX9_frost 1 := ⟨by decide +kernel, ⟨Nat.le_of_ble_eq_true rfl, Nat.le_of_ble_eq_true rfl⟩, cd_X9_frost, ini_X9, by decide +kernel⟩
theorem cl_L_law__X10_frost {nm : String} : am_cl (mL_law nm) mX10_frost 1 := ⟨by decide +kernel, ⟨Nat.le_of_ble_eq_true rfl, Nat.le_of_ble_eq_true rfl⟩, cd_X10_frost, ini_X10, by decide +kernel⟩
theorem cl_L_law__X9_people {nm : String} : am_cl (mL_law nm) mX9_people 2 := ⟨by decide +kernel, ⟨Nat.le_of_ble_eq_true rfl, Nat.le_of_ble_eq_true rfl⟩, cd_X9_people, ini_X9, by decide +kernel⟩
theorem cl_L_law__X10_people {nm : String} : am_cl (mL_law nm) mX10_people 2 := ⟨by decide +kernel, ⟨Nat.le_of_ble_eq_true rfl, Nat.le_of_ble_eq_true rfl⟩, cd_X10_people, ini_X10, by decide +kernel⟩
theorem cl_L_law__X9_dusk {nm : String} : am_cl (mL_law nm) mX9_dusk 0 := ⟨by decide +kernel, ⟨Nat.le_of_ble_eq_true rfl, Nat.le_of_ble_eq_true rfl⟩, cd_X9_dusk, ini_X9, by decide +kernel⟩
theorem cl_L_law__X10_dusk {nm : String} : am_cl (mL_law nm) mX10_dusk 0 := ⟨by decide +kernel, ⟨Nat.le_of_ble_eq_true rfl, Nat.le_of_ble_eq_true rfl⟩, cd_X10_dusk, ini_X10, by decide +kernel⟩
theorem cl_L_law__X9_hour {nm : String} : am_cl (mL_law nm) mX9_hour 0 := ⟨by decide +kernel, ⟨Nat.le_of_ble_eq_true rfl, Nat.le_of_ble_eq_true rfl⟩, cd_X9_hour, ini_X9, by decide +kernel⟩
theorem cl_L_law__X10_hour {nm : String} : am_cl (mL_law nm) mX10_hour 0 := ⟨by decide +kernel, ⟨Nat.le_of_ble_eq_true rfl, Nat.le_of_ble_eq_true rfl⟩, cd_X10_hour, ini_X10, by decide +kernel⟩
theorem cl_L_law__X9_weakest {nm : String} : am_cl (mL_law nm) mX9_weakest 3 := ⟨by decide +kernel, ⟨Nat.le_of_ble_eq_true rfl, Nat.le_of_ble_eq_true rfl⟩, cd_X9_weakest, ini_X9, by decide +kernel⟩
theorem cl_L_law__X10_weakest {nm : String} : am_cl (mL_law nm) mX10_weakest 3 := ⟨by decide +kernel, ⟨Nat.le_of_ble_eq_true rfl, Nat.le_of_ble_eq_true rfl⟩, cd_X10_weakest, ini_X10, by decide +kernel⟩
theorem cl_L_law__X9_walls {nm : String} : am_cl (mL_law nm) mX9_walls 3 := ⟨by decide +kernel, ⟨Nat.le_of_ble_eq_true rfl, Nat.le_of_ble_eq_true rfl⟩, cd_X9_walls, ini_X9, by decide +kernel⟩
theorem cl_L_law__X10_walls {nm : String} : am_cl (mL_law nm) mX10_walls 3 := ⟨by decide +kernel, ⟨Nat.le_of_ble_eq_true rfl, Nat.le_of_ble_eq_true rfl⟩, cd_X10_walls, ini_X10, by decide +kernel⟩
theorem cl_L_law__X9_hold {nm : String} : am_cl (mL_law nm) mX9_hold 2 := ⟨by decide +kernel, ⟨Nat.le_of_ble_eq_true rfl, Nat.le_of_ble_eq_true rfl⟩, cd_X9_hold, ini_X9, by decide +kernel⟩
theorem cl_L_law__X10_hold {nm : String} : am_cl (mL_law nm) mX10_hold 2 := ⟨by decide +kernel, ⟨Nat.le_of_ble_eq_true rfl, Nat.le_of_ble_eq_true rfl⟩, cd_X10_hold, ini_X10, by decide +kernel⟩
theorem cl_L_law__X9_nose {nm : String} : am_cl (mL_law nm) mX9_nose 2 := ⟨by decide +kernel, ⟨Nat.le_of_ble_eq_true rfl, Nat.le_of_ble_eq_true rfl⟩, cd_X9_nose, ini_X9, by decide +kernel⟩
theorem cl_L_law__X10_nose {nm : String} : am_cl (mL_law nm) mX10_nose 2 := ⟨by decide +kernel, ⟨Nat.le_of_ble_eq_true rfl, Nat.le_of_ble_eq_true rfl⟩, cd_X10_nose, ini_X10, by decide +kernel⟩
theorem cl_L_law__X9_forget {nm : String} : am_cl (mL_law nm) mX9_forget 0 := ⟨by decide +kernel, ⟨Nat.le_of_ble_eq_true rfl, Nat.le_of_ble_eq_true rfl⟩, cd_X9_forget, ini_X9, by decide +kernel⟩
theorem cl_L_law__X10_forget {nm : String} : am_cl (mL_law nm) mX10_forget 0 := ⟨by decide +kernel, ⟨Nat.le_of_ble_eq_true rfl, Nat.le_of_ble_eq_true rfl⟩, cd_X10_forget, ini_X10, by decide +kernel⟩
theorem cl_L_law__X9_unknown {nm : String} : am_cl (mL_law nm) mX9_unknown 1 := ⟨by decide +kernel, ⟨Nat.le_of_ble_eq_true rfl, Nat.le_of_ble_eq_true rfl⟩, cd_X9_unknown, ini_X9, by decide +kernel⟩
theorem cl_L_law__X10_unknown {nm : String} : am_cl (mL_law nm) mX10_unknown 1 := ⟨by decide +kernel, ⟨Nat.le_of_ble_eq_true rfl, Nat.le_of_ble_eq_true rfl⟩, cd_X10_unknown, ini_X10, by decide +kernel⟩
theorem cl_L_law__X9_sniff {nm : String} : am_cl (mL_law nm) mX9_sniff 0 := ⟨by decide +kernel, ⟨Nat.le_of_ble_eq_true rfl, Nat.le_of_ble_eq_true rfl⟩, cd_X9_sniff, ini_X9, by decide +kernel⟩
theorem cl_L_law__X10_sniff {nm : String} : am_cl (mL_law nm) mX10_sniff 0 := ⟨by decide +kernel, ⟨Nat.le_of_ble_eq_true rfl, Nat.le_of_ble_eq_true rfl⟩, cd_X10_sniff, ini_X10, by decide +kernel⟩
theorem cl_L_law__X9_days {nm : String} : am_cl (mL_law nm) mX9_days 3 := ⟨by decide +kernel, ⟨Nat.le_of_ble_eq_true rfl, Nat.le_of_ble_eq_true rfl⟩, cd_X9_days, ini_X9, by decide +kernel⟩
theorem cl_L_law__X10_days {nm : String} : am_cl (mL_law nm) mX10_days 3 := ⟨by decide +kernel, ⟨Nat.le_of_ble_eq_true rfl, Nat.le_of_ble_eq_true rfl⟩, cd_X10_days, ini_X10, by decide +kernel⟩
theorem cl_L_law__X9_image {nm : String} : am_cl (mL_law nm) mX9_image 0 := ⟨by decide +kernel, ⟨Nat.le_of_ble_eq_true rfl, Nat.le_of_ble_eq_true rfl⟩, cd_X9_image, ini_X9, by decide +kernel⟩
theorem cl_L_law__X10_image {nm : String} : am_cl (mL_law nm) mX10_image 0 := ⟨by decide +kernel, ⟨Nat.le_of_ble_eq_true rfl, Nat.le_of_ble_eq_true rfl⟩, cd_X10_image, ini_X10, by decide +kernel⟩
theorem cl_L_law__X9_restore {nm : String} : am_cl (mL_law nm) mX9_restore 0 := ⟨by decide +kernel, ⟨Nat.le_of_ble_eq_true rfl, Nat.le_of_ble_eq_true rfl⟩, cd_X9_restore, ini_X9, by decide +kernel⟩
theorem cl_L_law__X10_restore {nm : String} : am_cl (mL_law nm) mX10_restore 0 := ⟨by decide +kernel, ⟨Nat.le_of_ble_eq_true rfl, Nat.le_of_ble_eq_true rfl⟩, cd_X10_restore, ini_X10, by decide +kernel⟩
theorem cl_L_law__X9_count {nm : String} : am_cl (mL_law nm) mX9_count 1 := ⟨by decide +kernel, ⟨Nat.le_of_ble_eq_true rfl, Nat.le_of_ble_eq_true rfl⟩, cd_X9_count, ini_X9, by decide +kernel⟩
theorem cl_L_law__X10_count {nm : String} : am_cl (mL_law nm) mX10_count 1 := ⟨by decide +kernel, ⟨Nat.le_of_ble_eq_true rfl, Nat.le_of_ble_eq_true rfl⟩, cd_X10_count, ini_X10, by decide +kernel⟩
theorem cl_L_law__X9_digest {nm : String} : am_cl (mL_law nm) mX9_digest 0 := ⟨by decide +kernel, ⟨Nat.le_of_ble_eq_true rfl, Nat.le_of_ble_eq_true rfl⟩, cd_X9_digest, ini_X9, by decide +kernel⟩
theorem cl_L_law__X10_digest {nm : String} : am_cl (mL_law nm) mX10_digest 0 := ⟨by decide +kernel, ⟨Nat.le_of_ble_eq_true rfl, Nat.le_of_ble_eq_true rfl⟩, cd_X10_digest, ini_X10, by decide +kernel⟩
theorem lk_X9_3 {M : am_M} (hM : (am_y M).cls = RX9) : Cond.methodLink (am_y M).cls 3 objectInit ∈ am_T := by rw [hM]; exact am_in (List.mem_of_getElem? (i := 69) (by decide +kernel)) rfl
theorem lk_X9_62 {M : am_M} (hM : (am_y M).cls = RX9) : Cond.methodLink (am_y M).cls 62 (am_y mX3_isFull) ∈ am_T := by rw [hM]; exact am_in (List.mem_of_getElem? (i := 237) (by decide +kernel)) rfl
theorem lk_X9_66 {M : am_M} (hM : (am_y M).cls = RX9) : Cond.methodLink (am_y M).cls 66 (am_y mX3_append) ∈ am_T := by rw [hM]; exact am_in (List.mem_of_getElem? (i := 241) (by decide +kernel)) rfl
theorem lk_X9_74 {M : am_M} (hM : (am_y M).cls = RX9) : Cond.methodLink (am_y M).cls 74 (am_y mX3_firstWrong) ∈ am_T := by rw [hM]; exact am_in (List.mem_of_getElem? (i := 254) (by decide +kernel)) rfl
theorem lk_X9_78 {M : am_M} (hM : (am_y M).cls = RX9) : Cond.methodLink (am_y M).cls 78 (am_y mX3_isValley) ∈ am_T := by rw [hM]; exact am_in (List.mem_of_getElem? (i := 265) (by decide +kernel)) rfl
theorem lk_X9_81 {M : am_M} (hM : (am_y M).cls = RX9) : Cond.methodLink (am_y M).cls 81 (am_y mX7_take) ∈ am_T := by rw [hM]; exact am_in (List.mem_of_getElem? (i := 270) (by decide +kernel)) rfl
theorem lk_X9_85 {M : am_M} (hM : (am_y M).cls = RX9) : Cond.methodLink (am_y M).cls 85 (am_y mX5_copyFrom) ∈ am_T := by rw [hM]; exact am_in (List.mem_of_getElem? (i := 277) (by decide +kernel)) rfl
theorem lk_X9_99 {M : am_M} (hM : (am_y M).cls = RX9) : Cond.methodLink (am_y M).cls 99 (am_y mX9_isCell) ∈ am_T := by rw [hM]; exact am_in (List.mem_of_getElem? (i := 288) (by decide +kernel)) rfl
theorem lk_X9_103 {M : am_M} (hM : (am_y M).cls = RX9) : Cond.methodLink (am_y M).cls 103 (am_y mX9_settleNow) ∈ am_T := by rw [hM]; exact am_in (List.mem_of_getElem? (i := 296) (by decide +kernel)) rfl
theorem lk_X9_106 {M : am_M} (hM : (am_y M).cls = RX9) : Cond.methodLink (am_y M).cls 106 (am_y mX9_tellOfCell) ∈ am_T := by rw [hM]; exact am_in (List.mem_of_getElem? (i := 375) (by decide +kernel)) rfl
theorem lk_X9_110 {M : am_M} (hM : (am_y M).cls = RX9) : Cond.methodLink (am_y M).cls 110 (am_y mX0_countBorders) ∈ am_T := by rw [hM]; exact am_in (List.mem_of_getElem? (i := 383) (by decide +kernel)) rfl
theorem lk_X9_113 {M : am_M} (hM : (am_y M).cls = RX9) : Cond.methodLink (am_y M).cls 113 (am_y mX9_isParish) ∈ am_T := by rw [hM]; exact am_in (List.mem_of_getElem? (i := 396) (by decide +kernel)) rfl
theorem lk_X9_116 {M : am_M} (hM : (am_y M).cls = RX9) : Cond.methodLink (am_y M).cls 116 (am_y mX7_isOpen) ∈ am_T := by rw [hM]; exact am_in (List.mem_of_getElem? (i := 399) (by decide +kernel)) rfl
theorem lk_X9_121 {M : am_M} (hM : (am_y M).cls = RX9) : Cond.methodLink (am_y M).cls 121 (am_y mX9_make) ∈ am_T := by rw [hM]; exact am_in (List.mem_of_getElem? (i := 403) (by decide +kernel)) rfl
theorem lk_X9_125 {M : am_M} (hM : (am_y M).cls = RX9) : Cond.methodLink (am_y M).cls 125 (am_y mX5_addSource) ∈ am_T := by rw [hM]; exact am_in (List.mem_of_getElem? (i := 468) (by decide +kernel)) rfl
theorem lk_X9_128 {M : am_M} (hM : (am_y M).cls = RX9) : Cond.methodLink (am_y M).cls 128 (am_y mX9_find) ∈ am_T := by rw [hM]; exact am_in (List.mem_of_getElem? (i := 476) (by decide +kernel)) rfl
theorem lk_X9_132 {M : am_M} (hM : (am_y M).cls = RX9) : Cond.methodLink (am_y M).cls 132 (am_y mX9_tellOfSource) ∈ am_T := by rw [hM]; exact am_in (List.mem_of_getElem? (i := 480) (by decide +kernel)) rfl
theorem lk_X9_136 {M : am_M} (hM : (am_y M).cls = RX9) : Cond.methodLink (am_y M).cls 136 (am_y mX5_smells) ∈ am_T := by rw [hM]; exact am_in (List.mem_of_getElem? (i := 505) (by decide +kernel)) rfl
theorem lk_X9_146 {M : am_M} (hM : (am_y M).cls = RX9) : Cond.methodLink (am_y M).cls 146 (am_y mX4_force) ∈ am_T := by rw [hM]; exact am_in (List.mem_of_getElem? (i := 504) (by decide +kernel)) rfl
theorem lk_X9_150 {M : am_M} (hM : (am_y M).cls = RX9) : Cond.methodLink (am_y M).cls 150 (am_y mX4_ease) ∈ am_T := by rw [hM]; exact am_in (List.mem_of_getElem? (i := 506) (by decide +kernel)) rfl
theorem lk_X9_156 {M : am_M} (hM : (am_y M).cls = RX9) : Cond.methodLink (am_y M).cls 156 (am_y mX7_spread) ∈ am_T := by rw [hM]; exact am_in (List.mem_of_getElem? (i := 507) (by decide +kernel)) rfl
theorem lk_X9_160 {M : am_M} (hM : (am_y M).cls = RX9) : Cond.methodLink (am_y M).cls 160 (am_y mX9_isOfKind) ∈ am_T := by rw [hM]; exact am_in (List.mem_of_getElem? (i := 512) (by decide +kernel)) rfl
theorem lk_X9_167 {M : am_M} (hM : (am_y M).cls = RX9) : Cond.methodLink (am_y M).cls 167 (am_y mX9_bit) ∈ am_T := by rw [hM]; exact am_in (List.mem_of_getElem? (i := 501) (by decide +kernel)) rfl
theorem lk_X9_171 {M : am_M} (hM : (am_y M).cls = RX9) : Cond.methodLink (am_y M).cls 171 (am_y mX7_isThere) ∈ am_T := by rw [hM]; exact am_in (List.mem_of_getElem? (i := 292) (by decide +kernel)) rfl
theorem lk_X9_177 {M : am_M} (hM : (am_y M).cls = RX9) : Cond.methodLink (am_y M).cls 177 (am_y mX7_isWall) ∈ am_T := by rw [hM]; exact am_in (List.mem_of_getElem? (i := 531) (by decide +kernel)) rfl
theorem lk_X9_189 {M : am_M} (hM : (am_y M).cls = RX9) : Cond.methodLink (am_y M).cls 189 (am_y mX5_endHour) ∈ am_T := by rw [hM]; exact am_in (List.mem_of_getElem? (i := 540) (by decide +kernel)) rfl
theorem lk_X9_195 {M : am_M} (hM : (am_y M).cls = RX9) : Cond.methodLink (am_y M).cls 195 (am_y mX9_isZeroOrOne) ∈ am_T := by rw [hM]; exact am_in (List.mem_of_getElem? (i := 548) (by decide +kernel)) rfl
theorem lk_X9_198 {M : am_M} (hM : (am_y M).cls = RX9) : Cond.methodLink (am_y M).cls 198 (am_y mX9_wouldWin) ∈ am_T := by rw [hM]; exact am_in (List.mem_of_getElem? (i := 551) (by decide +kernel)) rfl
theorem lk_X9_205 {M : am_M} (hM : (am_y M).cls = RX9) : Cond.methodLink (am_y M).cls 205 (am_y mX9_fewestWalls) ∈ am_T := by rw [hM]; exact am_in (List.mem_of_getElem? (i := 563) (by decide +kernel)) rfl
theorem lk_X9_208 {M : am_M} (hM : (am_y M).cls = RX9) : Cond.methodLink (am_y M).cls 208 (am_y mJ6_bitCount_0f7a4) ∈ am_T := by rw [hM]; exact am_in (List.mem_of_getElem? (i := 571) (by decide +kernel)) rfl
theorem lk_X9_213 {M : am_M} (hM : (am_y M).cls = RX9) : Cond.methodLink (am_y M).cls 213 (am_y mX9_watchHolders) ∈ am_T := by rw [hM]; exact am_in (List.mem_of_getElem? (i := 581) (by decide +kernel)) rfl
theorem lk_X9_216 {M : am_M} (hM : (am_y M).cls = RX9) : Cond.methodLink (am_y M).cls 216 (am_y mX9_heldBy) ∈ am_T := by rw [hM]; exact am_in (List.mem_of_getElem? (i := 585) (by decide +kernel)) rfl
theorem lk_X9_222 {M : am_M} (hM : (am_y M).cls = RX9) : Cond.methodLink (am_y M).cls 222 (am_y mX5_addNose) ∈ am_T := by rw [hM]; exact am_in (List.mem_of_getElem? (i := 593) (by decide +kernel)) rfl
theorem lk_X9_226 {M : am_M} (hM : (am_y M).cls = RX9) : Cond.methodLink (am_y M).cls 226 (am_y mX9_mayAsk) ∈ am_T := by rw [hM]; exact am_in (List.mem_of_getElem? (i := 605) (by decide +kernel)) rfl
theorem lk_X9_232 {M : am_M} (hM : (am_y M).cls = RX9) : Cond.methodLink (am_y M).cls 232 (am_y mX9_fitsNoses) ∈ am_T := by rw [hM]; exact am_in (List.mem_of_getElem? (i := 609) (by decide +kernel)) rfl
theorem lk_X9_235 {M : am_M} (hM : (am_y M).cls = RX9) : Cond.methodLink (am_y M).cls 235 (am_y mX9_tallyFindings) ∈ am_T := by rw [hM]; exact am_in (List.mem_of_getElem? (i := 624) (by decide +kernel)) rfl
theorem lk_X9_238 {M : am_M} (hM : (am_y M).cls = RX9) : Cond.methodLink (am_y M).cls 238 (am_y mX9_cellOfFewestLeft) ∈ am_T := by rw [hM]; exact am_in (List.mem_of_getElem? (i := 628) (by decide +kernel)) rfl
theorem lk_X9_241 {M : am_M} (hM : (am_y M).cls = RX9) : Cond.methodLink (am_y M).cls 241 (am_y mX9_nextSeed) ∈ am_T := by rw [hM]; exact am_in (List.mem_of_getElem? (i := 637) (by decide +kernel)) rfl
theorem lk_X9_244 {M : am_M} (hM : (am_y M).cls = RX9) : Cond.methodLink (am_y M).cls 244 (am_y mX9_draw) ∈ am_T := by rw [hM]; exact am_in (List.mem_of_getElem? (i := 643) (by decide +kernel)) rfl
theorem lk_X9_247 {M : am_M} (hM : (am_y M).cls = RX9) : Cond.methodLink (am_y M).cls 247 (am_y mX0_settle) ∈ am_T := by rw [hM]; exact am_in (List.mem_of_getElem? (i := 300) (by decide +kernel)) rfl
theorem lk_X9_251 {M : am_M} (hM : (am_y M).cls = RX9) : Cond.methodLink (am_y M).cls 251 (am_y mX9_tellOfAll) ∈ am_T := by rw [hM]; exact am_in (List.mem_of_getElem? (i := 659) (by decide +kernel)) rfl
theorem lk_X9_256 {M : am_M} (hM : (am_y M).cls = RX9) : Cond.methodLink (am_y M).cls 256 (am_y mX9_digestCells) ∈ am_T := by rw [hM]; exact am_in (List.mem_of_getElem? (i := 676) (by decide +kernel)) rfl
theorem lk_X9_260 {M : am_M} (hM : (am_y M).cls = RX9) : Cond.methodLink (am_y M).cls 260 (am_y mX9_digestSource) ∈ am_T := by rw [hM]; exact am_in (List.mem_of_getElem? (i := 684) (by decide +kernel)) rfl
theorem lk_X9_264 {M : am_M} (hM : (am_y M).cls = RX9) : Cond.methodLink (am_y M).cls 264 (am_y mX9_mix) ∈ am_T := by rw [hM]; exact am_in (List.mem_of_getElem? (i := 680) (by decide +kernel)) rfl
theorem lk_X9_282 {M : am_M} (hM : (am_y M).cls = RX9) : Cond.methodLink (am_y M).cls 282 (am_y mX1_init) ∈ am_T := by rw [hM]; exact am_in (List.mem_of_getElem? (i := 408) (by decide +kernel)) rfl
theorem lk_X9_287 {M : am_M} (hM : (am_y M).cls = RX9) : Cond.methodLink (am_y M).cls 287 (am_y mX2_init) ∈ am_T := by rw [hM]; exact am_in (List.mem_of_getElem? (i := 434) (by decide +kernel)) rfl
theorem lk_X9_290 {M : am_M} (hM : (am_y M).cls = RX9) : Cond.methodLink (am_y M).cls 290 (am_y mX6_init) ∈ am_T := by rw [hM]; exact am_in (List.mem_of_getElem? (i := 444) (by decide +kernel)) rfl
theorem lk_X9_293 {M : am_M} (hM : (am_y M).cls = RX9) : Cond.methodLink (am_y M).cls 293 (am_y mX8_init) ∈ am_T := by rw [hM]; exact am_in (List.mem_of_getElem? (i := 454) (by decide +kernel)) rfl
theorem lk_X9_294 {M : am_M} (hM : (am_y M).cls = RX9) : Cond.methodLink (am_y M).cls 294 (am_y mX4_init) ∈ am_T := by rw [hM]; exact am_in (List.mem_of_getElem? (i := 463) (by decide +kernel)) rfl
theorem lk_X9_304 {M : am_M} (hM : (am_y M).cls = RX9) : Cond.methodLink (am_y M).cls 304 (am_y mX4_kindNumber) ∈ am_T := by rw [hM]; exact am_in (List.mem_of_getElem? (i := 484) (by decide +kernel)) rfl
theorem lk_X9_316 {M : am_M} (hM : (am_y M).cls = RX9) : Cond.methodLink (am_y M).cls 316 (am_y mX5_countBurning) ∈ am_T := by rw [hM]; exact am_in (List.mem_of_getElem? (i := 663) (by decide +kernel)) rfl
theorem lk_X9_319 {M : am_M} (hM : (am_y M).cls = RX9) : Cond.methodLink (am_y M).cls 319 (am_y mX0_countOwned) ∈ am_T := by rw [hM]; exact am_in (List.mem_of_getElem? (i := 667) (by decide +kernel)) rfl
theorem lk_X9_322 {M : am_M} (hM : (am_y M).cls = RX9) : Cond.methodLink (am_y M).cls 322 (am_y mX9_spreadOneMore) ∈ am_T := by rw [hM]; exact am_in (List.mem_of_getElem? (i := 555) (by decide +kernel)) rfl
theorem lk_X9_325 {M : am_M} (hM : (am_y M).cls = RX9) : Cond.methodLink (am_y M).cls 325 (am_y mX9_cellsFreeForWalls) ∈ am_T := by rw [hM]; exact am_in (List.mem_of_getElem? (i := 567) (by decide +kernel)) rfl
theorem lk_X9_328 {M : am_M} (hM : (am_y M).cls = RX9) : Cond.methodLink (am_y M).cls 328 (am_y mX9_parishOf) ∈ am_T := by rw [hM]; exact am_in (List.mem_of_getElem? (i := 613) (by decide +kernel)) rfl
theorem lk_X9_334 {M : am_M} (hM : (am_y M).cls = RX9) : Cond.methodLink (am_y M).cls 334 (am_y mX9_whoseWith) ∈ am_T := by rw [hM]; exact am_in (List.mem_of_getElem? (i := 616) (by decide +kernel)) rfl
theorem lk_X9_340 {M : am_M} (hM : (am_y M).cls = RX9) : Cond.methodLink (am_y M).cls 340 (am_y mJ9_max_7cf53) ∈ am_T := by rw [hM]; exact am_in (List.mem_of_getElem? (i := 632) (by decide +kernel)) rfl
theorem lk_X0_3 {M : am_M} (hM : (am_y M).cls = RX0) : Cond.methodLink (am_y M).cls 3 objectInit ∈ am_T := by rw [hM]; exact am_in (List.mem_of_getElem? (i := 170) (by decide +kernel)) rfl
theorem lk_X0_30 {M : am_M} (hM : (am_y M).cls = RX0) : Cond.methodLink (am_y M).cls 30 (am_y mX5_smells) ∈ am_T := by rw [hM]; exact am_in (List.mem_of_getElem? (i := 304) (by decide +kernel)) rfl
theorem lk_X0_42 {M : am_M} (hM : (am_y M).cls = RX0) : Cond.methodLink (am_y M).cls 42 (am_y mX4_force) ∈ am_T := by rw [hM]; exact am_in (List.mem_of_getElem? (i := 321) (by decide +kernel)) rfl
theorem lk_X0_46 {M : am_M} (hM : (am_y M).cls = RX0) : Cond.methodLink (am_y M).cls 46 (am_y mX4_ease) ∈ am_T := by rw [hM]; exact am_in (List.mem_of_getElem? (i := 335) (by decide +kernel)) rfl
theorem lk_X0_53 {M : am_M} (hM : (am_y M).cls = RX0) : Cond.methodLink (am_y M).cls 53 (am_y mX7_spread) ∈ am_T := by rw [hM]; exact am_in (List.mem_of_getElem? (i := 346) (by decide +kernel)) rfl
theorem lk_X0_62 {M : am_M} (hM : (am_y M).cls = RX0) : Cond.methodLink (am_y M).cls 62 (am_y mX0_mingle) ∈ am_T := by rw [hM]; exact am_in (List.mem_of_getElem? (i := 371) (by decide +kernel)) rfl
theorem lk_X0_66 {M : am_M} (hM : (am_y M).cls = RX0) : Cond.methodLink (am_y M).cls 66 (am_y mX7_beside) ∈ am_T := by rw [hM]; exact am_in (List.mem_of_getElem? (i := 387) (by decide +kernel)) rfl
theorem lk_X0_70 {M : am_M} (hM : (am_y M).cls = RX0) : Cond.methodLink (am_y M).cls 70 (am_y mX0_isBorder) ∈ am_T := by rw [hM]; exact am_in (List.mem_of_getElem? (i := 388) (by decide +kernel)) rfl
theorem lk_X1_3 {M : am_M} (hM : (am_y M).cls = RX1) : Cond.methodLink (am_y M).cls 3 (am_y mX4_init) ∈ am_T := by rw [hM]; exact am_in (List.mem_of_getElem? (i := 411) (by decide +kernel)) rfl
theorem lk_X1_15 {M : am_M} (hM : (am_y M).cls = RX1) : Cond.methodLink (am_y M).cls 15 (am_y mJ9_min_7cf53) ∈ am_T := by rw [hM]; exact am_in (List.mem_of_getElem? (i := 328) (by decide +kernel)) rfl
theorem lk_X2_1 {M : am_M} (hM : (am_y M).cls = RX2) : Cond.methodLink (am_y M).cls 1 (am_y mX4_init) ∈ am_T := by rw [hM]; exact am_in (List.mem_of_getElem? (i := 437) (by decide +kernel)) rfl
theorem lk_X3_3 {M : am_M} (hM : (am_y M).cls = RX3) : Cond.methodLink (am_y M).cls 3 objectInit ∈ am_T := by rw [hM]; exact am_in (List.mem_of_getElem? (i := 77) (by decide +kernel)) rfl
theorem lk_X3_19 {M : am_M} (hM : (am_y M).cls = RX3) : Cond.methodLink (am_y M).cls 19 (am_y mX3_isFull) ∈ am_T := by rw [hM]; exact am_in (List.mem_of_getElem? (i := 245) (by decide +kernel)) rfl
theorem lk_X3_23 {M : am_M} (hM : (am_y M).cls = RX3) : Cond.methodLink (am_y M).cls 23 (am_y mX3_fits) ∈ am_T := by rw [hM]; exact am_in (List.mem_of_getElem? (i := 258) (by decide +kernel)) rfl
theorem lk_X3_27 {M : am_M} (hM : (am_y M).cls = RX3) : Cond.methodLink (am_y M).cls 27 (am_y mX3_firstWrong) ∈ am_T := by rw [hM]; exact am_in (List.mem_of_getElem? (i := 269) (by decide +kernel)) rfl
theorem lk_X4_1 {M : am_M} (hM : (am_y M).cls = RX4) : Cond.methodLink (am_y M).cls 1 objectInit ∈ am_T := by rw [hM]; exact am_in (List.mem_of_getElem? (i := 414) (by decide +kernel)) rfl
theorem lk_X5_3 {M : am_M} (hM : (am_y M).cls = RX5) : Cond.methodLink (am_y M).cls 3 objectInit ∈ am_T := by rw [hM]; exact am_in (List.mem_of_getElem? (i := 115) (by decide +kernel)) rfl
theorem lk_X5_45 {M : am_M} (hM : (am_y M).cls = RX5) : Cond.methodLink (am_y M).cls 45 arraycopyName ∈ am_T := by rw [hM]; exact am_in (List.mem_of_getElem? (i := 281) (by decide +kernel)) rfl
theorem lk_X5_54 {M : am_M} (hM : (am_y M).cls = RX5) : Cond.methodLink (am_y M).cls 54 (am_y mX4_smellsAt) ∈ am_T := by rw [hM]; exact am_in (List.mem_of_getElem? (i := 308) (by decide +kernel)) rfl
theorem lk_X6_1 {M : am_M} (hM : (am_y M).cls = RX6) : Cond.methodLink (am_y M).cls 1 (am_y mX4_init) ∈ am_T := by rw [hM]; exact am_in (List.mem_of_getElem? (i := 447) (by decide +kernel)) rfl
theorem lk_X7_3 {M : am_M} (hM : (am_y M).cls = RX7) : Cond.methodLink (am_y M).cls 3 objectInit ∈ am_T := by rw [hM]; exact am_in (List.mem_of_getElem? (i := 94) (by decide +kernel)) rfl
theorem lk_X7_27 {M : am_M} (hM : (am_y M).cls = RX7) : Cond.methodLink (am_y M).cls 27 (am_y mX3_placeOf) ∈ am_T := by rw [hM]; exact am_in (List.mem_of_getElem? (i := 274) (by decide +kernel)) rfl
theorem lk_X7_31 {M : am_M} (hM : (am_y M).cls = RX7) : Cond.methodLink (am_y M).cls 31 (am_y mX7_opposite) ∈ am_T := by rw [hM]; exact am_in (List.mem_of_getElem? (i := 365) (by decide +kernel)) rfl
theorem lk_X7_34 {M : am_M} (hM : (am_y M).cls = RX7) : Cond.methodLink (am_y M).cls 34 (am_y mJ9_max_7cf53) ∈ am_T := by rw [hM]; exact am_in (List.mem_of_getElem? (i := 368) (by decide +kernel)) rfl
theorem lk_X7_40 {M : am_M} (hM : (am_y M).cls = RX7) : Cond.methodLink (am_y M).cls 40 (am_y mX7_spreadOn) ∈ am_T := by rw [hM]; exact am_in (List.mem_of_getElem? (i := 350) (by decide +kernel)) rfl
theorem lk_X7_44 {M : am_M} (hM : (am_y M).cls = RX7) : Cond.methodLink (am_y M).cls 44 (am_y mX7_beside) ∈ am_T := by rw [hM]; exact am_in (List.mem_of_getElem? (i := 354) (by decide +kernel)) rfl
theorem lk_X7_47 {M : am_M} (hM : (am_y M).cls = RX7) : Cond.methodLink (am_y M).cls 47 (am_y mX7_isWall) ∈ am_T := by rw [hM]; exact am_in (List.mem_of_getElem? (i := 357) (by decide +kernel)) rfl
theorem lk_X7_51 {M : am_M} (hM : (am_y M).cls = RX7) : Cond.methodLink (am_y M).cls 51 (am_y mX7_loss) ∈ am_T := by rw [hM]; exact am_in (List.mem_of_getElem? (i := 361) (by decide +kernel)) rfl
theorem lk_X8_1 {M : am_M} (hM : (am_y M).cls = RX8) : Cond.methodLink (am_y M).cls 1 (am_y mX6_init) ∈ am_T := by rw [hM]; exact am_in (List.mem_of_getElem? (i := 457) (by decide +kernel)) rfl
theorem lk_L_9 {M : am_M} (hM : (am_y M).cls = RL) : Cond.methodLink (am_y M).cls 9 (am_y mX9_init) ∈ am_T := by rw [hM]; exact am_in (List.mem_of_getElem? (i := 66) (by decide +kernel)) rfl
theorem lk_L_12 {M : am_M} (hM : (am_y M).cls = RL) : Cond.methodLink (am_y M).cls 12 (am_y mX10_init) ∈ am_T := by rw [hM]; exact am_in (List.mem_of_getElem? (i := 690) (by decide +kernel)) rfl
theorem lk_L_13 {M : am_M} (hM : (am_y M).cls = RL) : Cond.methodLink (am_y M).cls 13 (am_y mX9_letter) ∈ am_T := by rw [hM]; exact am_in (List.mem_of_getElem? (i := 233) (by decide +kernel)) rfl
theorem lk_L_17 {M : am_M} (hM : (am_y M).cls = RL) : Cond.methodLink (am_y M).cls 17 (am_y mX10_letter) ∈ am_T := by rw [hM]; exact am_in (List.mem_of_getElem? (i := 797) (by decide +kernel)) rfl
theorem lk_L_18 {M : am_M} (hM : (am_y M).cls = RL) : Cond.methodLink (am_y M).cls 18 (am_y mX9_blank) ∈ am_T := by rw [hM]; exact am_in (List.mem_of_getElem? (i := 246) (by decide +kernel)) rfl
theorem lk_L_22 {M : am_M} (hM : (am_y M).cls = RL) : Cond.methodLink (am_y M).cls 22 (am_y mX10_blank) ∈ am_T := by rw [hM]; exact am_in (List.mem_of_getElem? (i := 805) (by decide +kernel)) rfl
theorem lk_L_23 {M : am_M} (hM : (am_y M).cls = RL) : Cond.methodLink (am_y M).cls 23 (am_y mX9_fault) ∈ am_T := by rw [hM]; exact am_in (List.mem_of_getElem? (i := 250) (by decide +kernel)) rfl
theorem lk_L_26 {M : am_M} (hM : (am_y M).cls = RL) : Cond.methodLink (am_y M).cls 26 (am_y mX10_fault) ∈ am_T := by rw [hM]; exact am_in (List.mem_of_getElem? (i := 809) (by decide +kernel)) rfl
theorem lk_L_27 {M : am_M} (hM : (am_y M).cls = RL) : Cond.methodLink (am_y M).cls 27 (am_y mX9_valley) ∈ am_T := by rw [hM]; exact am_in (List.mem_of_getElem? (i := 261) (by decide +kernel)) rfl
theorem lk_L_30 {M : am_M} (hM : (am_y M).cls = RL) : Cond.methodLink (am_y M).cls 30 (am_y mX10_valley) ∈ am_T := by rw [hM]; exact am_in (List.mem_of_getElem? (i := 822) (by decide +kernel)) rfl
theorem lk_L_31 {M : am_M} (hM : (am_y M).cls = RL) : Cond.methodLink (am_y M).cls 31 (am_y mX9_cell) ∈ am_T := by rw [hM]; exact am_in (List.mem_of_getElem? (i := 284) (by decide +kernel)) rfl
theorem lk_L_35 {M : am_M} (hM : (am_y M).cls = RL) : Cond.methodLink (am_y M).cls 35 (am_y mX10_cell) ∈ am_T := by rw [hM]; exact am_in (List.mem_of_getElem? (i := 850) (by decide +kernel)) rfl
theorem lk_L_36 {M : am_M} (hM : (am_y M).cls = RL) : Cond.methodLink (am_y M).cls 36 (am_y mX9_borders) ∈ am_T := by rw [hM]; exact am_in (List.mem_of_getElem? (i := 379) (by decide +kernel)) rfl
theorem lk_L_39 {M : am_M} (hM : (am_y M).cls = RL) : Cond.methodLink (am_y M).cls 39 (am_y mX10_borders) ∈ am_T := by rw [hM]; exact am_in (List.mem_of_getElem? (i := 888) (by decide +kernel)) rfl
theorem lk_L_40 {M : am_M} (hM : (am_y M).cls = RL) : Cond.methodLink (am_y M).cls 40 (am_y mX9_source) ∈ am_T := by rw [hM]; exact am_in (List.mem_of_getElem? (i := 392) (by decide +kernel)) rfl
theorem lk_L_44 {M : am_M} (hM : (am_y M).cls = RL) : Cond.methodLink (am_y M).cls 44 (am_y mX10_source) ∈ am_T := by rw [hM]; exact am_in (List.mem_of_getElem? (i := 830) (by decide +kernel)) rfl
theorem lk_L_45 {M : am_M} (hM : (am_y M).cls = RL) : Cond.methodLink (am_y M).cls 45 (am_y mX9_about) ∈ am_T := by rw [hM]; exact am_in (List.mem_of_getElem? (i := 472) (by decide +kernel)) rfl
theorem lk_L_48 {M : am_M} (hM : (am_y M).cls = RL) : Cond.methodLink (am_y M).cls 48 (am_y mX10_about) ∈ am_T := by rw [hM]; exact am_in (List.mem_of_getElem? (i := 896) (by decide +kernel)) rfl
theorem lk_L_49 {M : am_M} (hM : (am_y M).cls = RL) : Cond.methodLink (am_y M).cls 49 (am_y mX9_as) ∈ am_T := by rw [hM]; exact am_in (List.mem_of_getElem? (i := 508) (by decide +kernel)) rfl
theorem lk_L_52 {M : am_M} (hM : (am_y M).cls = RL) : Cond.methodLink (am_y M).cls 52 (am_y mX10_as) ∈ am_T := by rw [hM]; exact am_in (List.mem_of_getElem? (i := 911) (by decide +kernel)) rfl
theorem lk_L_53 {M : am_M} (hM : (am_y M).cls = RL) : Cond.methodLink (am_y M).cls 53 (am_y mX9_burn) ∈ am_T := by rw [hM]; exact am_in (List.mem_of_getElem? (i := 515) (by decide +kernel)) rfl
theorem lk_L_57 {M : am_M} (hM : (am_y M).cls = RL) : Cond.methodLink (am_y M).cls 57 (am_y mX10_burn) ∈ am_T := by rw [hM]; exact am_in (List.mem_of_getElem? (i := 915) (by decide +kernel)) rfl
theorem lk_L_58 {M : am_M} (hM : (am_y M).cls = RL) : Cond.methodLink (am_y M).cls 58 (am_y mX9_wind) ∈ am_T := by rw [hM]; exact am_in (List.mem_of_getElem? (i := 519) (by decide +kernel)) rfl
theorem lk_L_61 {M : am_M} (hM : (am_y M).cls = RL) : Cond.methodLink (am_y M).cls 61 (am_y mX10_wind) ∈ am_T := by rw [hM]; exact am_in (List.mem_of_getElem? (i := 919) (by decide +kernel)) rfl
theorem lk_L_62 {M : am_M} (hM : (am_y M).cls = RL) : Cond.methodLink (am_y M).cls 62 (am_y mX9_frost) ∈ am_T := by rw [hM]; exact am_in (List.mem_of_getElem? (i := 523) (by decide +kernel)) rfl
theorem lk_L_66 {M : am_M} (hM : (am_y M).cls = RL) : Cond.methodLink (am_y M).cls 66 (am_y mX10_frost) ∈ am_T := by rw [hM]; exact am_in (List.mem_of_getElem? (i := 923) (by decide +kernel)) rfl
theorem lk_L_67 {M : am_M} (hM : (am_y M).cls = RL) : Cond.methodLink (am_y M).cls 67 (am_y mX9_people) ∈ am_T := by rw [hM]; exact am_in (List.mem_of_getElem? (i := 527) (by decide +kernel)) rfl
theorem lk_L_70 {M : am_M} (hM : (am_y M).cls = RL) : Cond.methodLink (am_y M).cls 70 (am_y mX10_people) ∈ am_T := by rw [hM]; exact am_in (List.mem_of_getElem? (i := 927) (by decide +kernel)) rfl
theorem lk_L_71 {M : am_M} (hM : (am_y M).cls = RL) : Cond.methodLink (am_y M).cls 71 (am_y mX9_dusk) ∈ am_T := by rw [hM]; exact am_in (List.mem_of_getElem? (i := 532) (by decide +kernel)) rfl
theorem lk_L_74 {M : am_M} (hM : (am_y M).cls = RL) : Cond.methodLink (am_y M).cls 74 (am_y mX10_dusk) ∈ am_T := by rw [hM]; exact am_in (List.mem_of_getElem? (i := 931) (by decide +kernel)) rfl
theorem lk_L_75 {M : am_M} (hM : (am_y M).cls = RL) : Cond.methodLink (am_y M).cls 75 (am_y mX9_hour) ∈ am_T := by rw [hM]; exact am_in (List.mem_of_getElem? (i := 536) (by decide +kernel)) rfl
theorem lk_L_78 {M : am_M} (hM : (am_y M).cls = RL) : Cond.methodLink (am_y M).cls 78 (am_y mX10_hour) ∈ am_T := by rw [hM]; exact am_in (List.mem_of_getElem? (i := 935) (by decide +kernel)) rfl
theorem lk_L_79 {M : am_M} (hM : (am_y M).cls = RL) : Cond.methodLink (am_y M).cls 79 (am_y mX9_weakest) ∈ am_T := by rw [hM]; exact am_in (List.mem_of_getElem? (i := 544) (by decide +kernel)) rfl
theorem lk_L_83 {M : am_M} (hM : (am_y M).cls = RL) : Cond.methodLink (am_y M).cls 83 (am_y mX10_weakest) ∈ am_T := by rw [hM]; exact am_in (List.mem_of_getElem? (i := 943) (by decide +kernel)) rfl
theorem lk_L_84 {M : am_M} (hM : (am_y M).cls = RL) : Cond.methodLink (am_y M).cls 84 (am_y mX9_walls) ∈ am_T := by rw [hM]; exact am_in (List.mem_of_getElem? (i := 559) (by decide +kernel)) rfl
theorem lk_L_87 {M : am_M} (hM : (am_y M).cls = RL) : Cond.methodLink (am_y M).cls 87 (am_y mX10_walls) ∈ am_T := by rw [hM]; exact am_in (List.mem_of_getElem? (i := 955) (by decide +kernel)) rfl
theorem lk_L_88 {M : am_M} (hM : (am_y M).cls = RL) : Cond.methodLink (am_y M).cls 88 (am_y mX9_hold) ∈ am_T := by rw [hM]; exact am_in (List.mem_of_getElem? (i := 577) (by decide +kernel)) rfl
theorem lk_L_91 {M : am_M} (hM : (am_y M).cls = RL) : Cond.methodLink (am_y M).cls 91 (am_y mX10_hold) ∈ am_T := by rw [hM]; exact am_in (List.mem_of_getElem? (i := 969) (by decide +kernel)) rfl
theorem lk_L_92 {M : am_M} (hM : (am_y M).cls = RL) : Cond.methodLink (am_y M).cls 92 (am_y mX9_nose) ∈ am_T := by rw [hM]; exact am_in (List.mem_of_getElem? (i := 589) (by decide +kernel)) rfl
theorem lk_L_95 {M : am_M} (hM : (am_y M).cls = RL) : Cond.methodLink (am_y M).cls 95 (am_y mX10_nose) ∈ am_T := by rw [hM]; exact am_in (List.mem_of_getElem? (i := 977) (by decide +kernel)) rfl
theorem lk_L_96 {M : am_M} (hM : (am_y M).cls = RL) : Cond.methodLink (am_y M).cls 96 (am_y mX9_forget) ∈ am_T := by rw [hM]; exact am_in (List.mem_of_getElem? (i := 597) (by decide +kernel)) rfl
theorem lk_L_99 {M : am_M} (hM : (am_y M).cls = RL) : Cond.methodLink (am_y M).cls 99 (am_y mX10_forget) ∈ am_T := by rw [hM]; exact am_in (List.mem_of_getElem? (i := 982) (by decide +kernel)) rfl
theorem lk_L_100 {M : am_M} (hM : (am_y M).cls = RL) : Cond.methodLink (am_y M).cls 100 (am_y mX9_unknown) ∈ am_T := by rw [hM]; exact am_in (List.mem_of_getElem? (i := 601) (by decide +kernel)) rfl
theorem lk_L_103 {M : am_M} (hM : (am_y M).cls = RL) : Cond.methodLink (am_y M).cls 103 (am_y mX10_unknown) ∈ am_T := by rw [hM]; exact am_in (List.mem_of_getElem? (i := 986) (by decide +kernel)) rfl
theorem lk_L_104 {M : am_M} (hM : (am_y M).cls = RL) : Cond.methodLink (am_y M).cls 104 (am_y mX9_sniff) ∈ am_T := by rw [hM]; exact am_in (List.mem_of_getElem? (i := 620) (by decide +kernel)) rfl
theorem lk_L_107 {M : am_M} (hM : (am_y M).cls = RL) : Cond.methodLink (am_y M).cls 107 (am_y mX10_sniff) ∈ am_T := by rw [hM]; exact am_in (List.mem_of_getElem? (i := 994) (by decide +kernel)) rfl
theorem lk_L_108 {M : am_M} (hM : (am_y M).cls = RL) : Cond.methodLink (am_y M).cls 108 (am_y mX9_days) ∈ am_T := by rw [hM]; exact am_in (List.mem_of_getElem? (i := 633) (by decide +kernel)) rfl
theorem lk_L_111 {M : am_M} (hM : (am_y M).cls = RL) : Cond.methodLink (am_y M).cls 111 (am_y mX10_days) ∈ am_T := by rw [hM]; exact am_in (List.mem_of_getElem? (i := 998) (by decide +kernel)) rfl
theorem lk_L_112 {M : am_M} (hM : (am_y M).cls = RL) : Cond.methodLink (am_y M).cls 112 (am_y mX9_image) ∈ am_T := by rw [hM]; exact am_in (List.mem_of_getElem? (i := 647) (by decide +kernel)) rfl
theorem lk_L_115 {M : am_M} (hM : (am_y M).cls = RL) : Cond.methodLink (am_y M).cls 115 (am_y mX10_image) ∈ am_T := by rw [hM]; exact am_in (List.mem_of_getElem? (i := 1011) (by decide +kernel)) rfl
theorem lk_L_116 {M : am_M} (hM : (am_y M).cls = RL) : Cond.methodLink (am_y M).cls 116 (am_y mX9_restore) ∈ am_T := by rw [hM]; exact am_in (List.mem_of_getElem? (i := 651) (by decide +kernel)) rfl
theorem lk_L_119 {M : am_M} (hM : (am_y M).cls = RL) : Cond.methodLink (am_y M).cls 119 (am_y mX10_restore) ∈ am_T := by rw [hM]; exact am_in (List.mem_of_getElem? (i := 1015) (by decide +kernel)) rfl
theorem lk_L_120 {M : am_M} (hM : (am_y M).cls = RL) : Cond.methodLink (am_y M).cls 120 (am_y mX9_count) ∈ am_T := by rw [hM]; exact am_in (List.mem_of_getElem? (i := 655) (by decide +kernel)) rfl
theorem lk_L_123 {M : am_M} (hM : (am_y M).cls = RL) : Cond.methodLink (am_y M).cls 123 (am_y mX10_count) ∈ am_T := by rw [hM]; exact am_in (List.mem_of_getElem? (i := 1019) (by decide +kernel)) rfl
theorem lk_L_124 {M : am_M} (hM : (am_y M).cls = RL) : Cond.methodLink (am_y M).cls 124 (am_y mX9_digest) ∈ am_T := by rw [hM]; exact am_in (List.mem_of_getElem? (i := 671) (by decide +kernel)) rfl
theorem lk_L_128 {M : am_M} (hM : (am_y M).cls = RL) : Cond.methodLink (am_y M).cls 128 (am_y mX10_digest) ∈ am_T := by rw [hM]; exact am_in (List.mem_of_getElem? (i := 1035) (by decide +kernel)) rfl
theorem lk_X10_1 {M : am_M} (hM : (am_y M).cls = RX10) : Cond.methodLink (am_y M).cls 1 objectInit ∈ am_T := by rw [hM]; exact am_in (List.mem_of_getElem? (i := 693) (by decide +kernel)) rfl
theorem lk_X10_64 {M : am_M} (hM : (am_y M).cls = RX10) : Cond.methodLink (am_y M).cls 64 (am_y mX10_in) ∈ am_T := by rw [hM]; exact am_in (List.mem_of_getElem? (i := 802) (by decide +kernel)) rfl
theorem lk_X10_75 {M : am_M} (hM : (am_y M).cls = RX10) : Cond.methodLink (am_y M).cls 75 (am_y mX10_isGood) ∈ am_T := by rw [hM]; exact am_in (List.mem_of_getElem? (i := 817) (by decide +kernel)) rfl
theorem lk_X10_79 {M : am_M} (hM : (am_y M).cls = RX10) : Cond.methodLink (am_y M).cls 79 (am_y mX10_faultOf) ∈ am_T := by rw [hM]; exact am_in (List.mem_of_getElem? (i := 813) (by decide +kernel)) rfl
theorem lk_X10_104 {M : am_M} (hM : (am_y M).cls = RX10) : Cond.methodLink (am_y M).cls 104 (am_y mX10_opens) ∈ am_T := by rw [hM]; exact am_in (List.mem_of_getElem? (i := 826) (by decide +kernel)) rfl
theorem lk_X10_109 {M : am_M} (hM : (am_y M).cls = RX10) : Cond.methodLink (am_y M).cls 109 (am_y mX10_lacks) ∈ am_T := by rw [hM]; exact am_in (List.mem_of_getElem? (i := 842) (by decide +kernel)) rfl
theorem lk_X10_119 {M : am_M} (hM : (am_y M).cls = RX10) : Cond.methodLink (am_y M).cls 119 (am_y mX10_isCell) ∈ am_T := by rw [hM]; exact am_in (List.mem_of_getElem? (i := 837) (by decide +kernel)) rfl
theorem lk_X10_123 {M : am_M} (hM : (am_y M).cls = RX10) : Cond.methodLink (am_y M).cls 123 (am_y mX10_lay) ∈ am_T := by rw [hM]; exact am_in (List.mem_of_getElem? (i := 846) (by decide +kernel)) rfl
theorem lk_X10_127 {M : am_M} (hM : (am_y M).cls = RX10) : Cond.methodLink (am_y M).cls 127 (am_y mX10_against) ∈ am_T := by rw [hM]; exact am_in (List.mem_of_getElem? (i := 881) (by decide +kernel)) rfl
theorem lk_X10_131 {M : am_M} (hM : (am_y M).cls = RX10) : Cond.methodLink (am_y M).cls 131 (am_y mX10_smells) ∈ am_T := by rw [hM]; exact am_in (List.mem_of_getElem? (i := 866) (by decide +kernel)) rfl
theorem lk_X10_134 {M : am_M} (hM : (am_y M).cls = RX10) : Cond.methodLink (am_y M).cls 134 (am_y mX10_forceOf) ∈ am_T := by rw [hM]; exact am_in (List.mem_of_getElem? (i := 870) (by decide +kernel)) rfl
theorem lk_X10_137 {M : am_M} (hM : (am_y M).cls = RX10) : Cond.methodLink (am_y M).cls 137 (am_y mX10_beside) ∈ am_T := by rw [hM]; exact am_in (List.mem_of_getElem? (i := 874) (by decide +kernel)) rfl
theorem lk_X10_141 {M : am_M} (hM : (am_y M).cls = RX10) : Cond.methodLink (am_y M).cls 141 (am_y mX10_lossOf) ∈ am_T := by rw [hM]; exact am_in (List.mem_of_getElem? (i := 877) (by decide +kernel)) rfl
theorem lk_X10_145 {M : am_M} (hM : (am_y M).cls = RX10) : Cond.methodLink (am_y M).cls 145 (am_y mX10_layMuch) ∈ am_T := by rw [hM]; exact am_in (List.mem_of_getElem? (i := 862) (by decide +kernel)) rfl
theorem lk_X10_149 {M : am_M} (hM : (am_y M).cls = RX10) : Cond.methodLink (am_y M).cls 149 (am_y mX10_layCells) ∈ am_T := by rw [hM]; exact am_in (List.mem_of_getElem? (i := 858) (by decide +kernel)) rfl
theorem lk_X10_152 {M : am_M} (hM : (am_y M).cls = RX10) : Cond.methodLink (am_y M).cls 152 (am_y mX10_whose) ∈ am_T := by rw [hM]; exact am_in (List.mem_of_getElem? (i := 884) (by decide +kernel)) rfl
theorem lk_X10_155 {M : am_M} (hM : (am_y M).cls = RX10) : Cond.methodLink (am_y M).cls 155 (am_y mX10_tellCell) ∈ am_T := by rw [hM]; exact am_in (List.mem_of_getElem? (i := 854) (by decide +kernel)) rfl
theorem lk_X10_158 {M : am_M} (hM : (am_y M).cls = RX10) : Cond.methodLink (am_y M).cls 158 (am_y mX10_bordersOf) ∈ am_T := by rw [hM]; exact am_in (List.mem_of_getElem? (i := 892) (by decide +kernel)) rfl
theorem lk_X10_167 {M : am_M} (hM : (am_y M).cls = RX10) : Cond.methodLink (am_y M).cls 167 (am_y mX10_isSource) ∈ am_T := by rw [hM]; exact am_in (List.mem_of_getElem? (i := 900) (by decide +kernel)) rfl
theorem lk_X10_170 {M : am_M} (hM : (am_y M).cls = RX10) : Cond.methodLink (am_y M).cls 170 (am_y mX10_tell) ∈ am_T := by rw [hM]; exact am_in (List.mem_of_getElem? (i := 904) (by decide +kernel)) rfl
theorem lk_X10_173 {M : am_M} (hM : (am_y M).cls = RX10) : Cond.methodLink (am_y M).cls 173 (am_y mX10_ends) ∈ am_T := by rw [hM]; exact am_in (List.mem_of_getElem? (i := 939) (by decide +kernel)) rfl
theorem lk_X10_176 {M : am_M} (hM : (am_y M).cls = RX10) : Cond.methodLink (am_y M).cls 176 (am_y mX10_whoseBy) ∈ am_T := by rw [hM]; exact am_in (List.mem_of_getElem? (i := 951) (by decide +kernel)) rfl
theorem lk_X10_180 {M : am_M} (hM : (am_y M).cls = RX10) : Cond.methodLink (am_y M).cls 180 (am_y mX10_weakestOf) ∈ am_T := by rw [hM]; exact am_in (List.mem_of_getElem? (i := 947) (by decide +kernel)) rfl
theorem lk_X10_186 {M : am_M} (hM : (am_y M).cls = RX10) : Cond.methodLink (am_y M).cls 186 (am_y mX10_copy) ∈ am_T := by rw [hM]; exact am_in (List.mem_of_getElem? (i := 959) (by decide +kernel)) rfl
theorem lk_X10_190 {M : am_M} (hM : (am_y M).cls = RX10) : Cond.methodLink (am_y M).cls 190 (am_y mX10_mayBeWalls) ∈ am_T := by rw [hM]; exact am_in (List.mem_of_getElem? (i := 962) (by decide +kernel)) rfl
theorem lk_X10_193 {M : am_M} (hM : (am_y M).cls = RX10) : Cond.methodLink (am_y M).cls 193 (am_y mX10_ones) ∈ am_T := by rw [hM]; exact am_in (List.mem_of_getElem? (i := 966) (by decide +kernel)) rfl
theorem lk_X10_196 {M : am_M} (hM : (am_y M).cls = RX10) : Cond.methodLink (am_y M).cls 196 (am_y mX10_holdOf) ∈ am_T := by rw [hM]; exact am_in (List.mem_of_getElem? (i := 973) (by decide +kernel)) rfl
theorem lk_X10_204 {M : am_M} (hM : (am_y M).cls = RX10) : Cond.methodLink (am_y M).cls 204 (am_y mX10_isSmeltBy) ∈ am_T := by rw [hM]; exact am_in (List.mem_of_getElem? (i := 990) (by decide +kernel)) rfl
theorem lk_X10_219 {M : am_M} (hM : (am_y M).cls = RX10) : Cond.methodLink (am_y M).cls 219 (am_y mX10_draw) ∈ am_T := by rw [hM]; exact am_in (List.mem_of_getElem? (i := 1003) (by decide +kernel)) rfl
theorem lk_X10_237 {M : am_M} (hM : (am_y M).cls = RX10) : Cond.methodLink (am_y M).cls 237 (am_y mX10_burning) ∈ am_T := by rw [hM]; exact am_in (List.mem_of_getElem? (i := 1027) (by decide +kernel)) rfl
theorem lk_X10_240 {M : am_M} (hM : (am_y M).cls = RX10) : Cond.methodLink (am_y M).cls 240 (am_y mX10_somebodys) ∈ am_T := by rw [hM]; exact am_in (List.mem_of_getElem? (i := 1031) (by decide +kernel)) rfl
theorem lk_X10_243 {M : am_M} (hM : (am_y M).cls = RX10) : Cond.methodLink (am_y M).cls 243 (am_y mX10_countOf) ∈ am_T := by rw [hM]; exact am_in (List.mem_of_getElem? (i := 1023) (by decide +kernel)) rfl
theorem lk_X10_252 {M : am_M} (hM : (am_y M).cls = RX10) : Cond.methodLink (am_y M).cls 252 (am_y mX10_say) ∈ am_T := by rw [hM]; exact am_in (List.mem_of_getElem? (i := 1044) (by decide +kernel)) rfl
theorem lk_X10_258 {M : am_M} (hM : (am_y M).cls = RX10) : Cond.methodLink (am_y M).cls 258 (am_y mX10_sayCell) ∈ am_T := by rw [hM]; exact am_in (List.mem_of_getElem? (i := 1040) (by decide +kernel)) rfl
theorem sl_X9__X9_letter : Cond.selects RX9 (am_y mX9_letter) (am_y mX9_letter) ∈ am_T := am_in (List.mem_of_getElem? (i := 235) (by decide +kernel)) rfl
theorem sl_X3__X3_isFull : Cond.selects RX3 (am_y mX3_isFull) (am_y mX3_isFull) ∈ am_T := am_in (List.mem_of_getElem? (i := 239) (by decide +kernel)) rfl
theorem sl_X3__X3_append : Cond.selects RX3 (am_y mX3_append) (am_y mX3_append) ∈ am_T := am_in (List.mem_of_getElem? (i := 243) (by decide +kernel)) rfl
theorem sl_X9__X9_blank : Cond.selects RX9 (am_y mX9_blank) (am_y mX9_blank) ∈ am_T := am_in (List.mem_of_getElem? (i := 248) (by decide +kernel)) rfl
theorem sl_X9__X9_fault : Cond.selects RX9 (am_y mX9_fault) (am_y mX9_fault) ∈ am_T := am_in (List.mem_of_getElem? (i := 252) (by decide +kernel)) rfl
theorem sl_X3__X3_firstWrong : Cond.selects RX3 (am_y mX3_firstWrong) (am_y mX3_firstWrong) ∈ am_T := am_in (List.mem_of_getElem? (i := 256) (by decide +kernel)) rfl
theorem sl_X9__X9_valley : Cond.selects RX9 (am_y mX9_valley) (am_y mX9_valley) ∈ am_T := am_in (List.mem_of_getElem? (i := 263) (by decide +kernel)) rfl
theorem sl_X3__X3_isValley : Cond.selects RX3 (am_y mX3_isValley) (am_y mX3_isValley) ∈ am_T := am_in (List.mem_of_getElem? (i := 267) (by decide +kernel)) rfl
theorem sl_X7__X7_take : Cond.selects RX7 (am_y mX7_take) (am_y mX7_take) ∈ am_T := am_in (List.mem_of_getElem? (i := 272) (by decide +kernel)) rfl
theorem sl_X5__X5_copyFrom : Cond.selects RX5 (am_y mX5_copyFrom) (am_y mX5_copyFrom) ∈ am_T := am_in (List.mem_of_getElem? (i := 279) (by decide +kernel)) rfl
theorem sl_X9__X9_cell : Cond.selects RX9 (am_y mX9_cell) (am_y mX9_cell) ∈ am_T := am_in (List.mem_of_getElem? (i := 286) (by decide +kernel)) rfl
theorem sl_X7__X7_isThere : Cond.selects RX7 (am_y mX7_isThere) (am_y mX7_isThere) ∈ am_T := am_in (List.mem_of_getElem? (i := 294) (by decide +kernel)) rfl
theorem sl_X0__X0_settle : Cond.selects RX0 (am_y mX0_settle) (am_y mX0_settle) ∈ am_T := am_in (List.mem_of_getElem? (i := 302) (by decide +kernel)) rfl
theorem sl_X5__X5_smells : Cond.selects RX5 (am_y mX5_smells) (am_y mX5_smells) ∈ am_T := am_in (List.mem_of_getElem? (i := 306) (by decide +kernel)) rfl
theorem sl_X4__X4_smellsAt : Cond.selects RX4 (am_y mX4_smellsAt) (am_y mX4_smellsAt) ∈ am_T := am_in (List.mem_of_getElem? (i := 310) (by decide +kernel)) rfl
theorem sl_X1__X4_smellsAt : Cond.selects RX1 (am_y mX4_smellsAt) (am_y mX4_smellsAt) ∈ am_T := am_in (List.mem_of_getElem? (i := 312) (by decide +kernel)) rfl
theorem sl_X2__X4_smellsAt : Cond.selects RX2 (am_y mX4_smellsAt) (am_y mX2_smellsAt) ∈ am_T := am_in (List.mem_of_getElem? (i := 313) (by decide +kernel)) rfl
theorem sl_X6__X4_smellsAt : Cond.selects RX6 (am_y mX4_smellsAt) (am_y mX4_smellsAt) ∈ am_T := am_in (List.mem_of_getElem? (i := 316) (by decide +kernel)) rfl
theorem sl_X8__X4_smellsAt : Cond.selects RX8 (am_y mX4_smellsAt) (am_y mX8_smellsAt) ∈ am_T := am_in (List.mem_of_getElem? (i := 317) (by decide +kernel)) rfl
theorem sl_X4__X4_force : Cond.selects RX4 (am_y mX4_force) (am_y mX4_force) ∈ am_T := am_in (List.mem_of_getElem? (i := 323) (by decide +kernel)) rfl
theorem sl_X1__X4_force : Cond.selects RX1 (am_y mX4_force) (am_y mX1_force) ∈ am_T := am_in (List.mem_of_getElem? (i := 325) (by decide +kernel)) rfl
theorem sl_X2__X4_force : Cond.selects RX2 (am_y mX4_force) (am_y mX4_force) ∈ am_T := am_in (List.mem_of_getElem? (i := 331) (by decide +kernel)) rfl
theorem sl_X6__X4_force : Cond.selects RX6 (am_y mX4_force) (am_y mX4_force) ∈ am_T := am_in (List.mem_of_getElem? (i := 332) (by decide +kernel)) rfl
theorem sl_X8__X4_force : Cond.selects RX8 (am_y mX4_force) (am_y mX4_force) ∈ am_T := am_in (List.mem_of_getElem? (i := 333) (by decide +kernel)) rfl
theorem sl_X4__X4_ease : Cond.selects RX4 (am_y mX4_ease) (am_y mX4_ease) ∈ am_T := am_in (List.mem_of_getElem? (i := 337) (by decide +kernel)) rfl
theorem sl_X1__X4_ease : Cond.selects RX1 (am_y mX4_ease) (am_y mX4_ease) ∈ am_T := am_in (List.mem_of_getElem? (i := 339) (by decide +kernel)) rfl
theorem sl_X2__X4_ease : Cond.selects RX2 (am_y mX4_ease) (am_y mX4_ease) ∈ am_T := am_in (List.mem_of_getElem? (i := 340) (by decide +kernel)) rfl
theorem sl_X6__X4_ease : Cond.selects RX6 (am_y mX4_ease) (am_y mX6_ease) ∈ am_T := am_in (List.mem_of_getElem? (i := 341) (by decide +kernel)) rfl
theorem sl_X8__X4_ease : Cond.selects RX8 (am_y mX4_ease) (am_y mX6_ease) ∈ am_T := am_in (List.mem_of_getElem? (i := 344) (by decide +kernel)) rfl
theorem sl_X7__X7_spread : Cond.selects RX7 (am_y mX7_spread) (am_y mX7_spread) ∈ am_T := am_in (List.mem_of_getElem? (i := 348) (by decide +kernel)) rfl
theorem sl_X7__X7_isWall : Cond.selects RX7 (am_y mX7_isWall) (am_y mX7_isWall) ∈ am_T := am_in (List.mem_of_getElem? (i := 359) (by decide +kernel)) rfl
theorem sl_X7__X7_loss : Cond.selects RX7 (am_y mX7_loss) (am_y mX7_loss) ∈ am_T := am_in (List.mem_of_getElem? (i := 363) (by decide +kernel)) rfl
theorem sl_X9__X9_borders : Cond.selects RX9 (am_y mX9_borders) (am_y mX9_borders) ∈ am_T := am_in (List.mem_of_getElem? (i := 381) (by decide +kernel)) rfl
theorem sl_X0__X0_countBorders : Cond.selects RX0 (am_y mX0_countBorders) (am_y mX0_countBorders) ∈ am_T := am_in (List.mem_of_getElem? (i := 385) (by decide +kernel)) rfl
theorem sl_X9__X9_source : Cond.selects RX9 (am_y mX9_source) (am_y mX9_source) ∈ am_T := am_in (List.mem_of_getElem? (i := 394) (by decide +kernel)) rfl
theorem sl_X7__X7_isOpen : Cond.selects RX7 (am_y mX7_isOpen) (am_y mX7_isOpen) ∈ am_T := am_in (List.mem_of_getElem? (i := 401) (by decide +kernel)) rfl
theorem sl_X5__X5_addSource : Cond.selects RX5 (am_y mX5_addSource) (am_y mX5_addSource) ∈ am_T := am_in (List.mem_of_getElem? (i := 470) (by decide +kernel)) rfl
theorem sl_X9__X9_about : Cond.selects RX9 (am_y mX9_about) (am_y mX9_about) ∈ am_T := am_in (List.mem_of_getElem? (i := 474) (by decide +kernel)) rfl
theorem sl_X4__X4_kindNumber : Cond.selects RX4 (am_y mX4_kindNumber) (am_y mX4_kindNumber) ∈ am_T := am_in (List.mem_of_getElem? (i := 486) (by decide +kernel)) rfl
theorem sl_X1__X4_kindNumber : Cond.selects RX1 (am_y mX4_kindNumber) (am_y mX1_kindNumber) ∈ am_T := am_in (List.mem_of_getElem? (i := 488) (by decide +kernel)) rfl
theorem sl_X2__X4_kindNumber : Cond.selects RX2 (am_y mX4_kindNumber) (am_y mX2_kindNumber) ∈ am_T := am_in (List.mem_of_getElem? (i := 491) (by decide +kernel)) rfl
theorem sl_X6__X4_kindNumber : Cond.selects RX6 (am_y mX4_kindNumber) (am_y mX6_kindNumber) ∈ am_T := am_in (List.mem_of_getElem? (i := 494) (by decide +kernel)) rfl
theorem sl_X8__X4_kindNumber : Cond.selects RX8 (am_y mX4_kindNumber) (am_y mX8_kindNumber) ∈ am_T := am_in (List.mem_of_getElem? (i := 497) (by decide +kernel)) rfl
theorem sl_X9__X9_as : Cond.selects RX9 (am_y mX9_as) (am_y mX9_as) ∈ am_T := am_in (List.mem_of_getElem? (i := 510) (by decide +kernel)) rfl
theorem sl_X9__X9_burn : Cond.selects RX9 (am_y mX9_burn) (am_y mX9_burn) ∈ am_T := am_in (List.mem_of_getElem? (i := 517) (by decide +kernel)) rfl
theorem sl_X9__X9_wind : Cond.selects RX9 (am_y mX9_wind) (am_y mX9_wind) ∈ am_T := am_in (List.mem_of_getElem? (i := 521) (by decide +kernel)) rfl
theorem sl_X9__X9_frost : Cond.selects RX9 (am_y mX9_frost) (am_y mX9_frost) ∈ am_T := am_in (List.mem_of_getElem? (i := 525) (by decide +kernel)) rfl
theorem sl_X9__X9_people : Cond.selects RX9 (am_y mX9_people) (am_y mX9_people) ∈ am_T := am_in (List.mem_of_getElem? (i := 529) (by decide +kernel)) rfl
theorem sl_X9__X9_dusk : Cond.selects RX9 (am_y mX9_dusk) (am_y mX9_dusk) ∈ am_T := am_in (List.mem_of_getElem? (i := 534) (by decide +kernel)) rfl
theorem sl_X9__X9_hour : Cond.selects RX9 (am_y mX9_hour) (am_y mX9_hour) ∈ am_T := am_in (List.mem_of_getElem? (i := 538) (by decide +kernel)) rfl
theorem sl_X5__X5_endHour : Cond.selects RX5 (am_y mX5_endHour) (am_y mX5_endHour) ∈ am_T := am_in (List.mem_of_getElem? (i := 542) (by decide +kernel)) rfl
theorem sl_X9__X9_weakest : Cond.selects RX9 (am_y mX9_weakest) (am_y mX9_weakest) ∈ am_T := am_in (List.mem_of_getElem? (i := 546) (by decide +kernel)) rfl
theorem sl_X9__X9_walls : Cond.selects RX9 (am_y mX9_walls) (am_y mX9_walls) ∈ am_T := am_in (List.mem_of_getElem? (i := 561) (by decide +kernel)) rfl
theorem sl_X9__X9_hold : Cond.selects RX9 (am_y mX9_hold) (am_y mX9_hold) ∈ am_T := am_in (List.mem_of_getElem? (i := 579) (by decide +kernel)) rfl
theorem sl_X9__X9_nose : Cond.selects RX9 (am_y mX9_nose) (am_y mX9_nose) ∈ am_T := am_in (List.mem_of_getElem? (i := 591) (by decide +kernel)) rfl
theorem sl_X5__X5_addNose : Cond.selects RX5 (am_y mX5_addNose) (am_y mX5_addNose) ∈ am_T := am_in (List.mem_of_getElem? (i := 595) (by decide +kernel)) rfl
theorem sl_X9__X9_forget : Cond.selects RX9 (am_y mX9_forget) (am_y mX9_forget) ∈ am_T := am_in (List.mem_of_getElem? (i := 599) (by decide +kernel)) rfl
theorem sl_X9__X9_unknown : Cond.selects RX9 (am_y mX9_unknown) (am_y mX9_unknown) ∈ am_T := am_in (List.mem_of_getElem? (i := 603) (by decide +kernel)) rfl
theorem sl_X9__X9_sniff : Cond.selects RX9 (am_y mX9_sniff) (am_y mX9_sniff) ∈ am_T := am_in (List.mem_of_getElem? (i := 622) (by decide +kernel)) rfl
theorem sl_X9__X9_days : Cond.selects RX9 (am_y mX9_days) (am_y mX9_days) ∈ am_T := am_in (List.mem_of_getElem? (i := 635) (by decide +kernel)) rfl
theorem sl_X9__X9_image : Cond.selects RX9 (am_y mX9_image) (am_y mX9_image) ∈ am_T := am_in (List.mem_of_getElem? (i := 649) (by decide +kernel)) rfl
theorem sl_X9__X9_restore : Cond.selects RX9 (am_y mX9_restore) (am_y mX9_restore) ∈ am_T := am_in (List.mem_of_getElem? (i := 653) (by decide +kernel)) rfl
theorem sl_X9__X9_count : Cond.selects RX9 (am_y mX9_count) (am_y mX9_count) ∈ am_T := am_in (List.mem_of_getElem? (i := 657) (by decide +kernel)) rfl
theorem sl_X5__X5_countBurning : Cond.selects RX5 (am_y mX5_countBurning) (am_y mX5_countBurning) ∈ am_T := am_in (List.mem_of_getElem? (i := 665) (by decide +kernel)) rfl
theorem sl_X0__X0_countOwned : Cond.selects RX0 (am_y mX0_countOwned) (am_y mX0_countOwned) ∈ am_T := am_in (List.mem_of_getElem? (i := 669) (by decide +kernel)) rfl
theorem sl_X9__X9_digest : Cond.selects RX9 (am_y mX9_digest) (am_y mX9_digest) ∈ am_T := am_in (List.mem_of_getElem? (i := 673) (by decide +kernel)) rfl
theorem sl_X10__X10_letter : Cond.selects RX10 (am_y mX10_letter) (am_y mX10_letter) ∈ am_T := am_in (List.mem_of_getElem? (i := 799) (by decide +kernel)) rfl
theorem sl_X10__X10_blank : Cond.selects RX10 (am_y mX10_blank) (am_y mX10_blank) ∈ am_T := am_in (List.mem_of_getElem? (i := 807) (by decide +kernel)) rfl
theorem sl_X10__X10_fault : Cond.selects RX10 (am_y mX10_fault) (am_y mX10_fault) ∈ am_T := am_in (List.mem_of_getElem? (i := 811) (by decide +kernel)) rfl
theorem sl_X10__X10_valley : Cond.selects RX10 (am_y mX10_valley) (am_y mX10_valley) ∈ am_T := am_in (List.mem_of_getElem? (i := 824) (by decide +kernel)) rfl
theorem sl_X10__X10_source : Cond.selects RX10 (am_y mX10_source) (am_y mX10_source) ∈ am_T := am_in (List.mem_of_getElem? (i := 832) (by decide +kernel)) rfl
theorem sl_X10__X10_cell : Cond.selects RX10 (am_y mX10_cell) (am_y mX10_cell) ∈ am_T := am_in (List.mem_of_getElem? (i := 852) (by decide +kernel)) rfl
theorem sl_X10__X10_borders : Cond.selects RX10 (am_y mX10_borders) (am_y mX10_borders) ∈ am_T := am_in (List.mem_of_getElem? (i := 890) (by decide +kernel)) rfl
theorem sl_X10__X10_about : Cond.selects RX10 (am_y mX10_about) (am_y mX10_about) ∈ am_T := am_in (List.mem_of_getElem? (i := 898) (by decide +kernel)) rfl
theorem sl_X10__X10_as : Cond.selects RX10 (am_y mX10_as) (am_y mX10_as) ∈ am_T := am_in (List.mem_of_getElem? (i := 913) (by decide +kernel)) rfl
theorem sl_X10__X10_burn : Cond.selects RX10 (am_y mX10_burn) (am_y mX10_burn) ∈ am_T := am_in (List.mem_of_getElem? (i := 917) (by decide +kernel)) rfl
theorem sl_X10__X10_wind : Cond.selects RX10 (am_y mX10_wind) (am_y mX10_wind) ∈ am_T := am_in (List.mem_of_getElem? (i := 921) (by decide +kernel)) rfl
theorem sl_X10__X10_frost : Cond.selects RX10 (am_y mX10_frost) (am_y mX10_frost) ∈ am_T := am_in (List.mem_of_getElem? (i := 925) (by decide +kernel)) rfl
theorem sl_X10__X10_people : Cond.selects RX10 (am_y mX10_people) (am_y mX10_people) ∈ am_T := am_in (List.mem_of_getElem? (i := 929) (by decide +kernel)) rfl
theorem sl_X10__X10_dusk : Cond.selects RX10 (am_y mX10_dusk) (am_y mX10_dusk) ∈ am_T := am_in (List.mem_of_getElem? (i := 933) (by decide +kernel)) rfl
theorem sl_X10__X10_hour : Cond.selects RX10 (am_y mX10_hour) (am_y mX10_hour) ∈ am_T := am_in (List.mem_of_getElem? (i := 937) (by decide +kernel)) rfl
theorem sl_X10__X10_weakest : Cond.selects RX10 (am_y mX10_weakest) (am_y mX10_weakest) ∈ am_T := am_in (List.mem_of_getElem? (i := 945) (by decide +kernel)) rfl
theorem sl_X10__X10_walls : Cond.selects RX10 (am_y mX10_walls) (am_y mX10_walls) ∈ am_T := am_in (List.mem_of_getElem? (i := 957) (by decide +kernel)) rfl
theorem sl_X10__X10_hold : Cond.selects RX10 (am_y mX10_hold) (am_y mX10_hold) ∈ am_T := am_in (List.mem_of_getElem? (i := 971) (by decide +kernel)) rfl
theorem sl_X10__X10_nose : Cond.selects RX10 (am_y mX10_nose) (am_y mX10_nose) ∈ am_T := am_in (List.mem_of_getElem? (i := 979) (by decide +kernel)) rfl
theorem sl_X10__X10_forget : Cond.selects RX10 (am_y mX10_forget) (am_y mX10_forget) ∈ am_T := am_in (List.mem_of_getElem? (i := 984) (by decide +kernel)) rfl
theorem sl_X10__X10_unknown : Cond.selects RX10 (am_y mX10_unknown) (am_y mX10_unknown) ∈ am_T := am_in (List.mem_of_getElem? (i := 988) (by decide +kernel)) rfl
theorem sl_X10__X10_sniff : Cond.selects RX10 (am_y mX10_sniff) (am_y mX10_sniff) ∈ am_T := am_in (List.mem_of_getElem? (i := 996) (by decide +kernel)) rfl
theorem sl_X10__X10_days : Cond.selects RX10 (am_y mX10_days) (am_y mX10_days) ∈ am_T := am_in (List.mem_of_getElem? (i := 1000) (by decide +kernel)) rfl
theorem sl_X10__X10_image : Cond.selects RX10 (am_y mX10_image) (am_y mX10_image) ∈ am_T := am_in (List.mem_of_getElem? (i := 1013) (by decide +kernel)) rfl
theorem sl_X10__X10_restore : Cond.selects RX10 (am_y mX10_restore) (am_y mX10_restore) ∈ am_T := am_in (List.mem_of_getElem? (i := 1017) (by decide +kernel)) rfl
theorem sl_X10__X10_count : Cond.selects RX10 (am_y mX10_count) (am_y mX10_count) ∈ am_T := am_in (List.mem_of_getElem? (i := 1021) (by decide +kernel)) rfl
theorem sl_X10__X10_digest : Cond.selects RX10 (am_y mX10_digest) (am_y mX10_digest) ∈ am_T := am_in (List.mem_of_getElem? (i := 1037) (by decide +kernel)) rfl
theorem sl_X9__X9_isCell : Cond.selects RX9 (am_y mX9_isCell) (am_y mX9_isCell) ∈ am_T := am_in (List.mem_of_getElem? (i := 0) (by decide +kernel)) rfl
theorem sl_X9__X9_settleNow : Cond.selects RX9 (am_y mX9_settleNow) (am_y mX9_settleNow) ∈ am_T := am_in (List.mem_of_getElem? (i := 1) (by decide +kernel)) rfl
theorem sl_X7__X7_spreadOn : Cond.selects RX7 (am_y mX7_spreadOn) (am_y mX7_spreadOn) ∈ am_T := am_in (List.mem_of_getElem? (i := 2) (by decide +kernel)) rfl
theorem sl_X0__X0_mingle : Cond.selects RX0 (am_y mX0_mingle) (am_y mX0_mingle) ∈ am_T := am_in (List.mem_of_getElem? (i := 3) (by decide +kernel)) rfl
theorem sl_X9__X9_tellOfCell : Cond.selects RX9 (am_y mX9_tellOfCell) (am_y mX9_tellOfCell) ∈ am_T := am_in (List.mem_of_getElem? (i := 4) (by decide +kernel)) rfl
theorem sl_X0__X0_isBorder : Cond.selects RX0 (am_y mX0_isBorder) (am_y mX0_isBorder) ∈ am_T := am_in (List.mem_of_getElem? (i := 5) (by decide +kernel)) rfl
theorem sl_X9__X9_find : Cond.selects RX9 (am_y mX9_find) (am_y mX9_find) ∈ am_T := am_in (List.mem_of_getElem? (i := 6) (by decide +kernel)) rfl
theorem sl_X9__X9_tellOfSource : Cond.selects RX9 (am_y mX9_tellOfSource) (am_y mX9_tellOfSource) ∈ am_T := am_in (List.mem_of_getElem? (i := 7) (by decide +kernel)) rfl
theorem sl_X9__X9_wouldWin : Cond.selects RX9 (am_y mX9_wouldWin) (am_y mX9_wouldWin) ∈ am_T := am_in (List.mem_of_getElem? (i := 8) (by decide +kernel)) rfl
theorem sl_X9__X9_spreadOneMore : Cond.selects RX9 (am_y mX9_spreadOneMore) (am_y mX9_spreadOneMore) ∈ am_T := am_in (List.mem_of_getElem? (i := 9) (by decide +kernel)) rfl
theorem sl_X9__X9_fewestWalls : Cond.selects RX9 (am_y mX9_fewestWalls) (am_y mX9_fewestWalls) ∈ am_T := am_in (List.mem_of_getElem? (i := 10) (by decide +kernel)) rfl
theorem sl_X9__X9_cellsFreeForWalls : Cond.selects RX9 (am_y mX9_cellsFreeForWalls) (am_y mX9_cellsFreeForWalls) ∈ am_T := am_in (List.mem_of_getElem? (i := 11) (by decide +kernel)) rfl
theorem sl_X9__X9_watchHolders : Cond.selects RX9 (am_y mX9_watchHolders) (am_y mX9_watchHolders) ∈ am_T := am_in (List.mem_of_getElem? (i := 12) (by decide +kernel)) rfl
theorem sl_X9__X9_heldBy : Cond.selects RX9 (am_y mX9_heldBy) (am_y mX9_heldBy) ∈ am_T := am_in (List.mem_of_getElem? (i := 13) (by decide +kernel)) rfl
theorem sl_X9__X9_mayAsk : Cond.selects RX9 (am_y mX9_mayAsk) (am_y mX9_mayAsk) ∈ am_T := am_in (List.mem_of_getElem? (i := 14) (by decide +kernel)) rfl
theorem sl_X9__X9_fitsNoses : Cond.selects RX9 (am_y mX9_fitsNoses) (am_y mX9_fitsNoses) ∈ am_T := am_in (List.mem_of_getElem? (i := 15) (by decide +kernel)) rfl
theorem sl_X9__X9_whoseWith : Cond.selects RX9 (am_y mX9_whoseWith) (am_y mX9_whoseWith) ∈ am_T := am_in (List.mem_of_getElem? (i := 16) (by decide +kernel)) rfl
theorem sl_X9__X9_tallyFindings : Cond.selects RX9 (am_y mX9_tallyFindings) (am_y mX9_tallyFindings) ∈ am_T := am_in (List.mem_of_getElem? (i := 17) (by decide +kernel)) rfl
theorem sl_X9__X9_cellOfFewestLeft : Cond.selects RX9 (am_y mX9_cellOfFewestLeft) (am_y mX9_cellOfFewestLeft) ∈ am_T := am_in (List.mem_of_getElem? (i := 18) (by decide +kernel)) rfl
theorem sl_X9__X9_tellOfAll : Cond.selects RX9 (am_y mX9_tellOfAll) (am_y mX9_tellOfAll) ∈ am_T := am_in (List.mem_of_getElem? (i := 19) (by decide +kernel)) rfl
theorem sl_X9__X9_digestCells : Cond.selects RX9 (am_y mX9_digestCells) (am_y mX9_digestCells) ∈ am_T := am_in (List.mem_of_getElem? (i := 20) (by decide +kernel)) rfl
theorem sl_X9__X9_digestSource : Cond.selects RX9 (am_y mX9_digestSource) (am_y mX9_digestSource) ∈ am_T := am_in (List.mem_of_getElem? (i := 21) (by decide +kernel)) rfl
theorem sl_X10__X10_faultOf : Cond.selects RX10 (am_y mX10_faultOf) (am_y mX10_faultOf) ∈ am_T := am_in (List.mem_of_getElem? (i := 22) (by decide +kernel)) rfl
theorem sl_X10__X10_opens : Cond.selects RX10 (am_y mX10_opens) (am_y mX10_opens) ∈ am_T := am_in (List.mem_of_getElem? (i := 23) (by decide +kernel)) rfl
theorem sl_X10__X10_isCell : Cond.selects RX10 (am_y mX10_isCell) (am_y mX10_isCell) ∈ am_T := am_in (List.mem_of_getElem? (i := 24) (by decide +kernel)) rfl
theorem sl_X10__X10_lacks : Cond.selects RX10 (am_y mX10_lacks) (am_y mX10_lacks) ∈ am_T := am_in (List.mem_of_getElem? (i := 25) (by decide +kernel)) rfl
theorem sl_X10__X10_lay : Cond.selects RX10 (am_y mX10_lay) (am_y mX10_lay) ∈ am_T := am_in (List.mem_of_getElem? (i := 26) (by decide +kernel)) rfl
theorem sl_X10__X10_tellCell : Cond.selects RX10 (am_y mX10_tellCell) (am_y mX10_tellCell) ∈ am_T := am_in (List.mem_of_getElem? (i := 27) (by decide +kernel)) rfl
theorem sl_X10__X10_layCells : Cond.selects RX10 (am_y mX10_layCells) (am_y mX10_layCells) ∈ am_T := am_in (List.mem_of_getElem? (i := 28) (by decide +kernel)) rfl
theorem sl_X10__X10_layMuch : Cond.selects RX10 (am_y mX10_layMuch) (am_y mX10_layMuch) ∈ am_T := am_in (List.mem_of_getElem? (i := 29) (by decide +kernel)) rfl
theorem sl_X10__X10_smells : Cond.selects RX10 (am_y mX10_smells) (am_y mX10_smells) ∈ am_T := am_in (List.mem_of_getElem? (i := 30) (by decide +kernel)) rfl
theorem sl_X10__X10_forceOf : Cond.selects RX10 (am_y mX10_forceOf) (am_y mX10_forceOf) ∈ am_T := am_in (List.mem_of_getElem? (i := 31) (by decide +kernel)) rfl
theorem sl_X10__X10_lossOf : Cond.selects RX10 (am_y mX10_lossOf) (am_y mX10_lossOf) ∈ am_T := am_in (List.mem_of_getElem? (i := 32) (by decide +kernel)) rfl
theorem sl_X10__X10_whose : Cond.selects RX10 (am_y mX10_whose) (am_y mX10_whose) ∈ am_T := am_in (List.mem_of_getElem? (i := 33) (by decide +kernel)) rfl
theorem sl_X10__X10_bordersOf : Cond.selects RX10 (am_y mX10_bordersOf) (am_y mX10_bordersOf) ∈ am_T := am_in (List.mem_of_getElem? (i := 34) (by decide +kernel)) rfl
theorem sl_X10__X10_isSource : Cond.selects RX10 (am_y mX10_isSource) (am_y mX10_isSource) ∈ am_T := am_in (List.mem_of_getElem? (i := 35) (by decide +kernel)) rfl
theorem sl_X10__X10_tell : Cond.selects RX10 (am_y mX10_tell) (am_y mX10_tell) ∈ am_T := am_in (List.mem_of_getElem? (i := 36) (by decide +kernel)) rfl
theorem sl_X10__X10_ends : Cond.selects RX10 (am_y mX10_ends) (am_y mX10_ends) ∈ am_T := am_in (List.mem_of_getElem? (i := 37) (by decide +kernel)) rfl
theorem sl_X10__X10_weakestOf : Cond.selects RX10 (am_y mX10_weakestOf) (am_y mX10_weakestOf) ∈ am_T := am_in (List.mem_of_getElem? (i := 38) (by decide +kernel)) rfl
theorem sl_X10__X10_whoseBy : Cond.selects RX10 (am_y mX10_whoseBy) (am_y mX10_whoseBy) ∈ am_T := am_in (List.mem_of_getElem? (i := 39) (by decide +kernel)) rfl
theorem sl_X10__X10_mayBeWalls : Cond.selects RX10 (am_y mX10_mayBeWalls) (am_y mX10_mayBeWalls) ∈ am_T := am_in (List.mem_of_getElem? (i := 40) (by decide +kernel)) rfl
theorem sl_X10__X10_holdOf : Cond.selects RX10 (am_y mX10_holdOf) (am_y mX10_holdOf) ∈ am_T := am_in (List.mem_of_getElem? (i := 41) (by decide +kernel)) rfl
theorem sl_X10__X10_isSmeltBy : Cond.selects RX10 (am_y mX10_isSmeltBy) (am_y mX10_isSmeltBy) ∈ am_T := am_in (List.mem_of_getElem? (i := 42) (by decide +kernel)) rfl
theorem sl_X10__X10_draw : Cond.selects RX10 (am_y mX10_draw) (am_y mX10_draw) ∈ am_T := am_in (List.mem_of_getElem? (i := 43) (by decide +kernel)) rfl
theorem sl_X10__X10_countOf : Cond.selects RX10 (am_y mX10_countOf) (am_y mX10_countOf) ∈ am_T := am_in (List.mem_of_getElem? (i := 44) (by decide +kernel)) rfl
theorem sl_X10__X10_burning : Cond.selects RX10 (am_y mX10_burning) (am_y mX10_burning) ∈ am_T := am_in (List.mem_of_getElem? (i := 45) (by decide +kernel)) rfl
theorem sl_X10__X10_somebodys : Cond.selects RX10 (am_y mX10_somebodys) (am_y mX10_somebodys) ∈ am_T := am_in (List.mem_of_getElem? (i := 46) (by decide +kernel)) rfl
theorem sl_X10__X10_sayCell : Cond.selects RX10 (am_y mX10_sayCell) (am_y mX10_sayCell) ∈ am_T := am_in (List.mem_of_getElem? (i := 47) (by decide +kernel)) rfl
theorem sl_X10__X10_say : Cond.selects RX10 (am_y mX10_say) (am_y mX10_say) ∈ am_T := am_in (List.mem_of_getElem? (i := 48) (by decide +kernel)) rfl
theorem sm_X4_smellsAt : Cond.sameMethod (am_y mX4_smellsAt).cls (am_y mX4_smellsAt).cls (am_y mX4_smellsAt).name (am_y mX4_smellsAt).desc ∈ am_T := am_in (List.mem_of_getElem? (i := 311) (by decide +kernel)) rfl
theorem sm_X4_force : Cond.sameMethod (am_y mX4_force).cls (am_y mX4_force).cls (am_y mX4_force).name (am_y mX4_force).desc ∈ am_T := am_in (List.mem_of_getElem? (i := 324) (by decide +kernel)) rfl
theorem sm_X4_ease : Cond.sameMethod (am_y mX4_ease).cls (am_y mX4_ease).cls (am_y mX4_ease).name (am_y mX4_ease).desc ∈ am_T := am_in (List.mem_of_getElem? (i := 338) (by decide +kernel)) rfl
theorem sm_X4_kindNumber : Cond.sameMethod (am_y mX4_kindNumber).cls (am_y mX4_kindNumber).cls (am_y mX4_kindNumber).name (am_y mX4_kindNumber).desc ∈ am_T := am_in (List.mem_of_getElem? (i := 487) (by decide +kernel)) rfl
theorem cn_J6_265 {M : am_M} (hM : (am_y M).cls = RJ6) : Cond.constant (am_y M).cls 265 1431655765 ∈ am_T := by rw [hM]; exact am_in (List.mem_of_getElem? (i := 574) (by decide +kernel)) rfl
theorem cn_J6_266 {M : am_M} (hM : (am_y M).cls = RJ6) : Cond.constant (am_y M).cls 266 858993459 ∈ am_T := by rw [hM]; exact am_in (List.mem_of_getElem? (i := 575) (by decide +kernel)) rfl
theorem cn_J6_267 {M : am_M} (hM : (am_y M).cls = RJ6) : Cond.constant (am_y M).cls 267 252645135 ∈ am_T := by rw [hM]; exact am_in (List.mem_of_getElem? (i := 576) (by decide +kernel)) rfl
theorem cn_X9_273 {M : am_M} (hM : (am_y M).cls = RX9) : Cond.constantLong (am_y M).cls 273 1103515245 ∈ am_T := by rw [hM]; exact am_in (List.mem_of_getElem? (i := 640) (by decide +kernel)) rfl
theorem cn_X9_275 {M : am_M} (hM : (am_y M).cls = RX9) : Cond.constantLong (am_y M).cls 275 12345 ∈ am_T := by rw [hM]; exact am_in (List.mem_of_getElem? (i := 641) (by decide +kernel)) rfl
theorem cn_X9_277 {M : am_M} (hM : (am_y M).cls = RX9) : Cond.constantLong (am_y M).cls 277 2147483648 ∈ am_T := by rw [hM]; exact am_in (List.mem_of_getElem? (i := 642) (by decide +kernel)) rfl
theorem cn_X9_279 {M : am_M} (hM : (am_y M).cls = RX9) : Cond.constant (am_y M).cls 279 65536 ∈ am_T := by rw [hM]; exact am_in (List.mem_of_getElem? (i := 646) (by decide +kernel)) rfl
theorem cn_X9_254 {M : am_M} (hM : (am_y M).cls = RX9) : Cond.constantLong (am_y M).cls 254 811 ∈ am_T := by rw [hM]; exact am_in (List.mem_of_getElem? (i := 675) (by decide +kernel)) rfl
theorem cn_X9_271 {M : am_M} (hM : (am_y M).cls = RX9) : Cond.constantLong (am_y M).cls 271 31 ∈ am_T := by rw [hM]; exact am_in (List.mem_of_getElem? (i := 683) (by decide +kernel)) rfl
theorem cn_X10_62 {M : am_M} (hM : (am_y M).cls = RX10) : Cond.constantLong (am_y M).cls 62 126 ∈ am_T := by rw [hM]; exact am_in (List.mem_of_getElem? (i := 801) (by decide +kernel)) rfl
theorem cn_X10_71 {M : am_M} (hM : (am_y M).cls = RX10) : Cond.constantLong (am_y M).cls 71 49 ∈ am_T := by rw [hM]; exact am_in (List.mem_of_getElem? (i := 820) (by decide +kernel)) rfl
theorem cn_X10_73 {M : am_M} (hM : (am_y M).cls = RX10) : Cond.constantLong (am_y M).cls 73 51 ∈ am_T := by rw [hM]; exact am_in (List.mem_of_getElem? (i := 821) (by decide +kernel)) rfl
theorem cn_X10_113 {M : am_M} (hM : (am_y M).cls = RX10) : Cond.constantLong (am_y M).cls 113 4 ∈ am_T := by rw [hM]; exact am_in (List.mem_of_getElem? (i := 834) (by decide +kernel)) rfl
theorem cn_X10_115 {M : am_M} (hM : (am_y M).cls = RX10) : Cond.constantLong (am_y M).cls 115 2 ∈ am_T := by rw [hM]; exact am_in (List.mem_of_getElem? (i := 835) (by decide +kernel)) rfl
theorem cn_X10_117 {M : am_M} (hM : (am_y M).cls = RX10) : Cond.constantLong (am_y M).cls 117 9 ∈ am_T := by rw [hM]; exact am_in (List.mem_of_getElem? (i := 836) (by decide +kernel)) rfl
theorem cn_X10_107 {M : am_M} (hM : (am_y M).cls = RX10) : Cond.constantLong (am_y M).cls 107 7 ∈ am_T := by rw [hM]; exact am_in (List.mem_of_getElem? (i := 841) (by decide +kernel)) rfl
theorem cn_X10_161 {M : am_M} (hM : (am_y M).cls = RX10) : Cond.constantLong (am_y M).cls 161 10 ∈ am_T := by rw [hM]; exact am_in (List.mem_of_getElem? (i := 908) (by decide +kernel)) rfl
theorem cn_X10_163 {M : am_M} (hM : (am_y M).cls = RX10) : Cond.constantLong (am_y M).cls 163 17 ∈ am_T := by rw [hM]; exact am_in (List.mem_of_getElem? (i := 909) (by decide +kernel)) rfl
theorem cn_X10_165 {M : am_M} (hM : (am_y M).cls = RX10) : Cond.constantLong (am_y M).cls 165 5 ∈ am_T := by rw [hM]; exact am_in (List.mem_of_getElem? (i := 910) (by decide +kernel)) rfl
theorem cn_X10_199 {M : am_M} (hM : (am_y M).cls = RX10) : Cond.constantLong (am_y M).cls 199 (-1) ∈ am_T := by rw [hM]; exact am_in (List.mem_of_getElem? (i := 981) (by decide +kernel)) rfl
theorem cn_X10_217 {M : am_M} (hM : (am_y M).cls = RX10) : Cond.constantLong (am_y M).cls 217 60 ∈ am_T := by rw [hM]; exact am_in (List.mem_of_getElem? (i := 1002) (by decide +kernel)) rfl
theorem cn_X10_207 {M : am_M} (hM : (am_y M).cls = RX10) : Cond.constantLong (am_y M).cls 207 1103515245 ∈ am_T := by rw [hM]; exact am_in (List.mem_of_getElem? (i := 1007) (by decide +kernel)) rfl
theorem cn_X10_212 {M : am_M} (hM : (am_y M).cls = RX10) : Cond.constantLong (am_y M).cls 212 12345 ∈ am_T := by rw [hM]; exact am_in (List.mem_of_getElem? (i := 1008) (by decide +kernel)) rfl
theorem cn_X10_214 {M : am_M} (hM : (am_y M).cls = RX10) : Cond.constantLong (am_y M).cls 214 2147483647 ∈ am_T := by rw [hM]; exact am_in (List.mem_of_getElem? (i := 1009) (by decide +kernel)) rfl
theorem cn_X10_216 {M : am_M} (hM : (am_y M).cls = RX10) : Cond.constant (am_y M).cls 216 65536 ∈ am_T := by rw [hM]; exact am_in (List.mem_of_getElem? (i := 1010) (by decide +kernel)) rfl
theorem cn_X10_256 {M : am_M} (hM : (am_y M).cls = RX10) : Cond.constantLong (am_y M).cls 256 811 ∈ am_T := by rw [hM]; exact am_in (List.mem_of_getElem? (i := 1039) (by decide +kernel)) rfl
theorem cn_X10_246 {M : am_M} (hM : (am_y M).cls = RX10) : Cond.constantLong (am_y M).cls 246 31 ∈ am_T := by rw [hM]; exact am_in (List.mem_of_getElem? (i := 1048) (by decide +kernel)) rfl
theorem ck_X9_9 {M : am_M} (hM : (am_y M).cls = RX9) : Cond.classLink (am_y M).cls 9 RX3 ∈ am_T := by rw [hM]; exact am_in (List.mem_of_getElem? (i := 72) (by decide +kernel)) rfl
theorem nf_X9_9 {M : am_M} (hM : (am_y M).cls = RX9) : am_nf M 9 3 2 [.null, .int 0] := ⟨RX3, TX3, tyX3, rfl, inX3, tyX3_ok, ck_X9_9 hM, am_in (List.mem_of_getElem? (i := 73) (by decide +kernel)) rfl, ini_X3, by decide +kernel, fun _ _ => rfl⟩
theorem ck_X9_16 {M : am_M} (hM : (am_y M).cls = RX9) : Cond.classLink (am_y M).cls 16 RX7 ∈ am_T := by rw [hM]; exact am_in (List.mem_of_getElem? (i := 89) (by decide +kernel)) rfl
theorem nf_X9_16 {M : am_M} (hM : (am_y M).cls = RX9) : am_nf M 16 7 3 [.null, .int 0, .int 0] := ⟨RX7, TX7, tyX7, rfl, inX7, tyX7_ok, ck_X9_16 hM, am_in (List.mem_of_getElem? (i := 90) (by decide +kernel)) rfl, ini_X7, by decide +kernel, fun _ _ => rfl⟩
theorem ck_X9_23 {M : am_M} (hM : (am_y M).cls = RX9) : Cond.classLink (am_y M).cls 23 RX4 ∈ am_T := by rw [hM]; exact am_in (List.mem_of_getElem? (i := 108) (by decide +kernel)) rfl
theorem nf_X9_23 {M : am_M} (hM : (am_y M).cls = RX9) : am_nf M 23 4 3 [.int 0, .int 0, .int 0] := ⟨RX4, TX4, tyX4, rfl, inX4, tyX4_ok, ck_X9_23 hM, am_in (List.mem_of_getElem? (i := 462) (by decide +kernel)) rfl, ini_X4, by decide +kernel, fun _ _ => rfl⟩
theorem ck_X9_29 {M : am_M} (hM : (am_y M).cls = RX9) : Cond.classLink (am_y M).cls 29 RX5 ∈ am_T := by rw [hM]; exact am_in (List.mem_of_getElem? (i := 110) (by decide +kernel)) rfl
theorem nf_X9_29 {M : am_M} (hM : (am_y M).cls = RX9) : am_nf M 29 5 11 [.int 0, .null, .null, .int 0, .int 0, .int 0, .null, .null, .int 0, .null, .null] := ⟨RX5, TX5, tyX5, rfl, inX5, tyX5_ok, ck_X9_29 hM, am_in (List.mem_of_getElem? (i := 111) (by decide +kernel)) rfl, ini_X5, by decide +kernel, fun _ _ => rfl⟩
theorem ck_X9_42 {M : am_M} (hM : (am_y M).cls = RX9) : Cond.classLink (am_y M).cls 42 RX0 ∈ am_T := by rw [hM]; exact am_in (List.mem_of_getElem? (i := 165) (by decide +kernel)) rfl
theorem nf_X9_42 {M : am_M} (hM : (am_y M).cls = RX9) : am_nf M 42 0 4 [.null, .null, .null, .null] := ⟨RX0, TX0, tyX0, rfl, inX0, tyX0_ok, ck_X9_42 hM, am_in (List.mem_of_getElem? (i := 166) (by decide +kernel)) rfl, ini_X0, by decide +kernel, fun _ _ => rfl⟩
theorem ck_X9_280 {M : am_M} (hM : (am_y M).cls = RX9) : Cond.classLink (am_y M).cls 280 RX1 ∈ am_T := by rw [hM]; exact am_in (List.mem_of_getElem? (i := 406) (by decide +kernel)) rfl
theorem nf_X9_280 {M : am_M} (hM : (am_y M).cls = RX9) : am_nf M 280 1 3 [.int 0, .int 0, .int 0] := ⟨RX1, TX1, tyX1, rfl, inX1, tyX1_ok, ck_X9_280 hM, am_in (List.mem_of_getElem? (i := 407) (by decide +kernel)) rfl, ini_X1, by decide +kernel, fun _ _ => rfl⟩
theorem ck_X9_285 {M : am_M} (hM : (am_y M).cls = RX9) : Cond.classLink (am_y M).cls 285 RX2 ∈ am_T := by rw [hM]; exact am_in (List.mem_of_getElem? (i := 432) (by decide +kernel)) rfl
theorem nf_X9_285 {M : am_M} (hM : (am_y M).cls = RX9) : am_nf M 285 2 3 [.int 0, .int 0, .int 0] := ⟨RX2, TX2, tyX2, rfl, inX2, tyX2_ok, ck_X9_285 hM, am_in (List.mem_of_getElem? (i := 433) (by decide +kernel)) rfl, ini_X2, by decide +kernel, fun _ _ => rfl⟩
theorem ck_X9_288 {M : am_M} (hM : (am_y M).cls = RX9) : Cond.classLink (am_y M).cls 288 RX6 ∈ am_T := by rw [hM]; exact am_in (List.mem_of_getElem? (i := 442) (by decide +kernel)) rfl
theorem nf_X9_288 {M : am_M} (hM : (am_y M).cls = RX9) : am_nf M 288 6 3 [.int 0, .int 0, .int 0] := ⟨RX6, TX6, tyX6, rfl, inX6, tyX6_ok, ck_X9_288 hM, am_in (List.mem_of_getElem? (i := 443) (by decide +kernel)) rfl, ini_X6, by decide +kernel, fun _ _ => rfl⟩
theorem ck_X9_291 {M : am_M} (hM : (am_y M).cls = RX9) : Cond.classLink (am_y M).cls 291 RX8 ∈ am_T := by rw [hM]; exact am_in (List.mem_of_getElem? (i := 452) (by decide +kernel)) rfl
theorem nf_X9_291 {M : am_M} (hM : (am_y M).cls = RX9) : am_nf M 291 8 3 [.int 0, .int 0, .int 0] := ⟨RX8, TX8, tyX8, rfl, inX8, tyX8_ok, ck_X9_291 hM, am_in (List.mem_of_getElem? (i := 453) (by decide +kernel)) rfl, ini_X8, by decide +kernel, fun _ _ => rfl⟩
theorem ck_L_7 {M : am_M} (hM : (am_y M).cls = RL) : Cond.classLink (am_y M).cls 7 RX9 ∈ am_T := by rw [hM]; exact am_in (List.mem_of_getElem? (i := 64) (by decide +kernel)) rfl
theorem nf_L_7 {M : am_M} (hM : (am_y M).cls = RL) : am_nf M 7 9 15 [.null, .null, .null, .null, .null, .null, .null, .null, .null, .null, .null, .int 0, .int 0, .int 0, .int 0] := ⟨RX9, TX9, tyX9, rfl, inX9, tyX9_ok, ck_L_7 hM, am_in (List.mem_of_getElem? (i := 65) (by decide +kernel)) rfl, ini_X9, by decide +kernel, fun _ _ => rfl⟩
theorem ck_L_10 {M : am_M} (hM : (am_y M).cls = RL) : Cond.classLink (am_y M).cls 10 RX10 ∈ am_T := by rw [hM]; exact am_in (List.mem_of_getElem? (i := 688) (by decide +kernel)) rfl
theorem nf_L_10 {M : am_M} (hM : (am_y M).cls = RL) : am_nf M 10 10 34 [.null, .int 0, .int 0, .int 0, .int 0, .int 0, .int 0, .null, .null, .null, .int 0, .null, .null, .null, .null, .int 0, .null, .null, .int 0, .int 0, .null, .null, .int 0, .int 0, .int 0, .int 0, .int 0, .int 0, .int 0, .null, .null, .null, .null, .long 0] := ⟨RX10, TX10, tyX10, rfl, inX10, tyX10_ok, ck_L_10 hM, am_in (List.mem_of_getElem? (i := 689) (by decide +kernel)) rfl, ini_X10, by decide +kernel, fun _ _ => rfl⟩
theorem gf_X9_12_9 {M : am_M} (hM : (am_y M).cls = RX9) : am_gf M 12 9 0 := ⟨RX9, TX9, 15, "SmellBorders", rfl, by decide, inX9, by rw [hM]; exact am_in (List.mem_of_getElem? (i := 187) (by decide +kernel)) rfl, Or.inl rfl⟩
theorem pf_X9_12_9 {M : am_M} (hM : (am_y M).cls = RX9) (hi : (am_y M).name = "<init>") : am_pf M 12 9 0 (.object "SmellBorders$Page") := ⟨RX9, TX9, 15, tyX9, rfl, by decide, inX9, tyX9_ok, nmX9, by rw [hM]; exact am_in (List.mem_of_getElem? (i := 187) (by decide +kernel)) rfl, by decide +kernel, Or.inr ⟨rfl, hi, hM.symm⟩⟩
theorem gf_X9_19_9 {M : am_M} (hM : (am_y M).cls = RX9) : am_gf M 19 9 1 := ⟨RX9, TX9, 15, "SmellBorders", rfl, by decide, inX9, by rw [hM]; exact am_in (List.mem_of_getElem? (i := 188) (by decide +kernel)) rfl, Or.inl rfl⟩
theorem pf_X9_19_9 {M : am_M} (hM : (am_y M).cls = RX9) (hi : (am_y M).name = "<init>") : am_pf M 19 9 1 (.object "SmellBorders$Valley") := ⟨RX9, TX9, 15, tyX9, rfl, by decide, inX9, tyX9_ok, nmX9, by rw [hM]; exact am_in (List.mem_of_getElem? (i := 188) (by decide +kernel)) rfl, by decide +kernel, Or.inr ⟨rfl, hi, hM.symm⟩⟩
theorem gf_X9_25_9 {M : am_M} (hM : (am_y M).cls = RX9) : am_gf M 25 9 2 := ⟨RX9, TX9, 15, "SmellBorders", rfl, by decide, inX9, by rw [hM]; exact am_in (List.mem_of_getElem? (i := 189) (by decide +kernel)) rfl, Or.inl rfl⟩
theorem pf_X9_25_9 {M : am_M} (hM : (am_y M).cls = RX9) (hi : (am_y M).name = "<init>") : am_pf M 25 9 2 (.array (.object "SmellBorders$Source")) := ⟨RX9, TX9, 15, tyX9, rfl, by decide, inX9, tyX9_ok, nmX9, by rw [hM]; exact am_in (List.mem_of_getElem? (i := 189) (by decide +kernel)) rfl, by decide +kernel, Or.inr ⟨rfl, hi, hM.symm⟩⟩
theorem gf_X9_32_9 {M : am_M} (hM : (am_y M).cls = RX9) : am_gf M 32 9 3 := ⟨RX9, TX9, 15, "SmellBorders", rfl, by decide, inX9, by rw [hM]; exact am_in (List.mem_of_getElem? (i := 190) (by decide +kernel)) rfl, Or.inl rfl⟩
theorem pf_X9_32_9 {M : am_M} (hM : (am_y M).cls = RX9) (hi : (am_y M).name = "<init>") : am_pf M 32 9 3 (.object "SmellBorders$Standing") := ⟨RX9, TX9, 15, tyX9, rfl, by decide, inX9, tyX9_ok, nmX9, by rw [hM]; exact am_in (List.mem_of_getElem? (i := 190) (by decide +kernel)) rfl, by decide +kernel, Or.inr ⟨rfl, hi, hM.symm⟩⟩
theorem gf_X9_36_9 {M : am_M} (hM : (am_y M).cls = RX9) : am_gf M 36 9 4 := ⟨RX9, TX9, 15, "SmellBorders", rfl, by decide, inX9, by rw [hM]; exact am_in (List.mem_of_getElem? (i := 191) (by decide +kernel)) rfl, Or.inl rfl⟩
theorem pf_X9_36_9 {M : am_M} (hM : (am_y M).cls = RX9) (hi : (am_y M).name = "<init>") : am_pf M 36 9 4 (.object "SmellBorders$Standing") := ⟨RX9, TX9, 15, tyX9, rfl, by decide, inX9, tyX9_ok, nmX9, by rw [hM]; exact am_in (List.mem_of_getElem? (i := 191) (by decide +kernel)) rfl, by decide +kernel, Or.inr ⟨rfl, hi, hM.symm⟩⟩
theorem gf_X9_39_9 {M : am_M} (hM : (am_y M).cls = RX9) : am_gf M 39 9 5 := ⟨RX9, TX9, 15, "SmellBorders", rfl, by decide, inX9, by rw [hM]; exact am_in (List.mem_of_getElem? (i := 192) (by decide +kernel)) rfl, Or.inl rfl⟩
theorem pf_X9_39_9 {M : am_M} (hM : (am_y M).cls = RX9) (hi : (am_y M).name = "<init>") : am_pf M 39 9 5 (.object "SmellBorders$Standing") := ⟨RX9, TX9, 15, tyX9, rfl, by decide, inX9, tyX9_ok, nmX9, by rw [hM]; exact am_in (List.mem_of_getElem? (i := 192) (by decide +kernel)) rfl, by decide +kernel, Or.inr ⟨rfl, hi, hM.symm⟩⟩
theorem gf_X9_45_9 {M : am_M} (hM : (am_y M).cls = RX9) : am_gf M 45 9 6 := ⟨RX9, TX9, 15, "SmellBorders", rfl, by decide, inX9, by rw [hM]; exact am_in (List.mem_of_getElem? (i := 193) (by decide +kernel)) rfl, Or.inl rfl⟩
theorem pf_X9_45_9 {M : am_M} (hM : (am_y M).cls = RX9) (hi : (am_y M).name = "<init>") : am_pf M 45 9 6 (.object "SmellBorders$Air") := ⟨RX9, TX9, 15, tyX9, rfl, by decide, inX9, tyX9_ok, nmX9, by rw [hM]; exact am_in (List.mem_of_getElem? (i := 193) (by decide +kernel)) rfl, by decide +kernel, Or.inr ⟨rfl, hi, hM.symm⟩⟩
theorem gf_X9_49_9 {M : am_M} (hM : (am_y M).cls = RX9) : am_gf M 49 9 7 := ⟨RX9, TX9, 15, "SmellBorders", rfl, by decide, inX9, by rw [hM]; exact am_in (List.mem_of_getElem? (i := 194) (by decide +kernel)) rfl, Or.inl rfl⟩
theorem pf_X9_49_9 {M : am_M} (hM : (am_y M).cls = RX9) (hi : (am_y M).name = "<init>") : am_pf M 49 9 7 (.array .int) := ⟨RX9, TX9, 15, tyX9, rfl, by decide, inX9, tyX9_ok, nmX9, by rw [hM]; exact am_in (List.mem_of_getElem? (i := 194) (by decide +kernel)) rfl, by decide +kernel, Or.inr ⟨rfl, hi, hM.symm⟩⟩
theorem gf_X9_53_9 {M : am_M} (hM : (am_y M).cls = RX9) : am_gf M 53 9 8 := ⟨RX9, TX9, 15, "SmellBorders", rfl, by decide, inX9, by rw [hM]; exact am_in (List.mem_of_getElem? (i := 195) (by decide +kernel)) rfl, Or.inl rfl⟩
theorem pf_X9_53_9 {M : am_M} (hM : (am_y M).cls = RX9) (hi : (am_y M).name = "<init>") : am_pf M 53 9 8 (.array .int) := ⟨RX9, TX9, 15, tyX9, rfl, by decide, inX9, tyX9_ok, nmX9, by rw [hM]; exact am_in (List.mem_of_getElem? (i := 195) (by decide +kernel)) rfl, by decide +kernel, Or.inr ⟨rfl, hi, hM.symm⟩⟩
theorem gf_X9_56_9 {M : am_M} (hM : (am_y M).cls = RX9) : am_gf M 56 9 9 := ⟨RX9, TX9, 15, "SmellBorders", rfl, by decide, inX9, by rw [hM]; exact am_in (List.mem_of_getElem? (i := 196) (by decide +kernel)) rfl, Or.inl rfl⟩
theorem pf_X9_56_9 {M : am_M} (hM : (am_y M).cls = RX9) (hi : (am_y M).name = "<init>") : am_pf M 56 9 9 (.array .int) := ⟨RX9, TX9, 15, tyX9, rfl, by decide, inX9, tyX9_ok, nmX9, by rw [hM]; exact am_in (List.mem_of_getElem? (i := 196) (by decide +kernel)) rfl, by decide +kernel, Or.inr ⟨rfl, hi, hM.symm⟩⟩
theorem gf_X9_59_9 {M : am_M} (hM : (am_y M).cls = RX9) : am_gf M 59 9 10 := ⟨RX9, TX9, 15, "SmellBorders", rfl, by decide, inX9, by rw [hM]; exact am_in (List.mem_of_getElem? (i := 197) (by decide +kernel)) rfl, Or.inl rfl⟩
theorem pf_X9_59_9 {M : am_M} (hM : (am_y M).cls = RX9) (hi : (am_y M).name = "<init>") : am_pf M 59 9 10 (.array .int) := ⟨RX9, TX9, 15, tyX9, rfl, by decide, inX9, tyX9_ok, nmX9, by rw [hM]; exact am_in (List.mem_of_getElem? (i := 197) (by decide +kernel)) rfl, by decide +kernel, Or.inr ⟨rfl, hi, hM.symm⟩⟩
theorem gf_X9_70_3 {M : am_M} (hM : (am_y M).cls = RX9) : am_gf M 70 3 1 := ⟨RX3, TX3, 2, "SmellBorders$Page", rfl, by decide, inX3, by rw [hM]; exact am_in (List.mem_of_getElem? (i := 82) (by decide +kernel)) rfl, Or.inl rfl⟩
theorem pf_X9_70_3 {M : am_M} (hM : (am_y M).cls = RX9) : am_pf M 70 3 1 .int := ⟨RX3, TX3, 2, tyX3, rfl, by decide, inX3, tyX3_ok, nmX3, by rw [hM]; exact am_in (List.mem_of_getElem? (i := 82) (by decide +kernel)) rfl, by decide +kernel, Or.inl rfl⟩
theorem gf_X9_89_9 {M : am_M} (hM : (am_y M).cls = RX9) : am_gf M 89 9 11 := ⟨RX9, TX9, 15, "SmellBorders", rfl, by decide, inX9, by rw [hM]; exact am_in (List.mem_of_getElem? (i := 198) (by decide +kernel)) rfl, Or.inl rfl⟩
theorem pf_X9_89_9 {M : am_M} (hM : (am_y M).cls = RX9) : am_pf M 89 9 11 .boolean := ⟨RX9, TX9, 15, tyX9, rfl, by decide, inX9, tyX9_ok, nmX9, by rw [hM]; exact am_in (List.mem_of_getElem? (i := 198) (by decide +kernel)) rfl, by decide +kernel, Or.inl rfl⟩
theorem gf_X9_93_9 {M : am_M} (hM : (am_y M).cls = RX9) : am_gf M 93 9 12 := ⟨RX9, TX9, 15, "SmellBorders", rfl, by decide, inX9, by rw [hM]; exact am_in (List.mem_of_getElem? (i := 199) (by decide +kernel)) rfl, Or.inl rfl⟩
theorem pf_X9_93_9 {M : am_M} (hM : (am_y M).cls = RX9) : am_pf M 93 9 12 .int := ⟨RX9, TX9, 15, tyX9, rfl, by decide, inX9, tyX9_ok, nmX9, by rw [hM]; exact am_in (List.mem_of_getElem? (i := 199) (by decide +kernel)) rfl, by decide +kernel, Or.inl rfl⟩
theorem gf_X9_96_7 {M : am_M} (hM : (am_y M).cls = RX9) : am_gf M 96 7 1 := ⟨RX7, TX7, 3, "SmellBorders$Valley", rfl, by decide, inX7, by rw [hM]; exact am_in (List.mem_of_getElem? (i := 98) (by decide +kernel)) rfl, Or.inl rfl⟩
theorem pf_X9_96_7 {M : am_M} (hM : (am_y M).cls = RX9) : am_pf M 96 7 1 .int := ⟨RX7, TX7, 3, tyX7, rfl, by decide, inX7, tyX7_ok, nmX7, by rw [hM]; exact am_in (List.mem_of_getElem? (i := 98) (by decide +kernel)) rfl, by decide +kernel, Or.inl rfl⟩
theorem gf_X9_119_5 {M : am_M} (hM : (am_y M).cls = RX9) : am_gf M 119 5 0 := ⟨RX5, TX5, 11, "SmellBorders$Standing", rfl, by decide, inX5, by rw [hM]; exact am_in (List.mem_of_getElem? (i := 118) (by decide +kernel)) rfl, Or.inl rfl⟩
theorem pf_X9_119_5 {M : am_M} (hM : (am_y M).cls = RX9) : am_pf M 119 5 0 .int := ⟨RX5, TX5, 11, tyX5, rfl, by decide, inX5, tyX5_ok, nmX5, by rw [hM]; exact am_in (List.mem_of_getElem? (i := 118) (by decide +kernel)) rfl, by decide +kernel, Or.inl rfl⟩
theorem gf_X9_140_1 {M : am_M} (hM : (am_y M).cls = RX9) : am_gf M 140 1 1 := ⟨RX1, TX1, 3, "SmellBorders$Source", rfl, by decide, inX1, by rw [hM]; exact am_in (List.mem_of_getElem? (i := 420) (by decide +kernel)) rfl, Or.inl rfl⟩
theorem gf_X9_140_2 {M : am_M} (hM : (am_y M).cls = RX9) : am_gf M 140 2 1 := ⟨RX2, TX2, 3, "SmellBorders$Source", rfl, by decide, inX2, by rw [hM]; exact am_in (List.mem_of_getElem? (i := 420) (by decide +kernel)) rfl, Or.inl rfl⟩
theorem gf_X9_140_4 {M : am_M} (hM : (am_y M).cls = RX9) : am_gf M 140 4 1 := ⟨RX4, TX4, 3, "SmellBorders$Source", rfl, by decide, inX4, by rw [hM]; exact am_in (List.mem_of_getElem? (i := 420) (by decide +kernel)) rfl, Or.inl rfl⟩
theorem gf_X9_140_6 {M : am_M} (hM : (am_y M).cls = RX9) : am_gf M 140 6 1 := ⟨RX6, TX6, 3, "SmellBorders$Source", rfl, by decide, inX6, by rw [hM]; exact am_in (List.mem_of_getElem? (i := 420) (by decide +kernel)) rfl, Or.inl rfl⟩
theorem gf_X9_140_8 {M : am_M} (hM : (am_y M).cls = RX9) : am_gf M 140 8 1 := ⟨RX8, TX8, 3, "SmellBorders$Source", rfl, by decide, inX8, by rw [hM]; exact am_in (List.mem_of_getElem? (i := 420) (by decide +kernel)) rfl, Or.inl rfl⟩
theorem gf_X9_143_5 {M : am_M} (hM : (am_y M).cls = RX9) : am_gf M 143 5 2 := ⟨RX5, TX5, 11, "SmellBorders$Standing", rfl, by decide, inX5, by rw [hM]; exact am_in (List.mem_of_getElem? (i := 123) (by decide +kernel)) rfl, Or.inl rfl⟩
theorem gf_X9_153_5 {M : am_M} (hM : (am_y M).cls = RX9) : am_gf M 153 5 3 := ⟨RX5, TX5, 11, "SmellBorders$Standing", rfl, by decide, inX5, by rw [hM]; exact am_in (List.mem_of_getElem? (i := 126) (by decide +kernel)) rfl, Or.inl rfl⟩
theorem pf_X9_153_5 {M : am_M} (hM : (am_y M).cls = RX9) : am_pf M 153 5 3 .int := ⟨RX5, TX5, 11, tyX5, rfl, by decide, inX5, tyX5_ok, nmX5, by rw [hM]; exact am_in (List.mem_of_getElem? (i := 126) (by decide +kernel)) rfl, by decide +kernel, Or.inl rfl⟩
theorem gf_X9_163_5 {M : am_M} (hM : (am_y M).cls = RX9) : am_gf M 163 5 1 := ⟨RX5, TX5, 11, "SmellBorders$Standing", rfl, by decide, inX5, by rw [hM]; exact am_in (List.mem_of_getElem? (i := 120) (by decide +kernel)) rfl, Or.inl rfl⟩
theorem gf_X9_174_5 {M : am_M} (hM : (am_y M).cls = RX9) : am_gf M 174 5 4 := ⟨RX5, TX5, 11, "SmellBorders$Standing", rfl, by decide, inX5, by rw [hM]; exact am_in (List.mem_of_getElem? (i := 128) (by decide +kernel)) rfl, Or.inl rfl⟩
theorem pf_X9_174_5 {M : am_M} (hM : (am_y M).cls = RX9) : am_pf M 174 5 4 .boolean := ⟨RX5, TX5, 11, tyX5, rfl, by decide, inX5, tyX5_ok, nmX5, by rw [hM]; exact am_in (List.mem_of_getElem? (i := 128) (by decide +kernel)) rfl, by decide +kernel, Or.inl rfl⟩
theorem gf_X9_180_5 {M : am_M} (hM : (am_y M).cls = RX9) : am_gf M 180 5 6 := ⟨RX5, TX5, 11, "SmellBorders$Standing", rfl, by decide, inX5, by rw [hM]; exact am_in (List.mem_of_getElem? (i := 132) (by decide +kernel)) rfl, Or.inl rfl⟩
theorem gf_X9_183_0 {M : am_M} (hM : (am_y M).cls = RX9) : am_gf M 183 0 2 := ⟨RX0, TX0, 4, "SmellBorders$Air", rfl, by decide, inX0, by rw [hM]; exact am_in (List.mem_of_getElem? (i := 176) (by decide +kernel)) rfl, Or.inl rfl⟩
theorem gf_X9_186_5 {M : am_M} (hM : (am_y M).cls = RX9) : am_gf M 186 5 7 := ⟨RX5, TX5, 11, "SmellBorders$Standing", rfl, by decide, inX5, by rw [hM]; exact am_in (List.mem_of_getElem? (i := 134) (by decide +kernel)) rfl, Or.inl rfl⟩
theorem gf_X9_192_5 {M : am_M} (hM : (am_y M).cls = RX9) : am_gf M 192 5 5 := ⟨RX5, TX5, 11, "SmellBorders$Standing", rfl, by decide, inX5, by rw [hM]; exact am_in (List.mem_of_getElem? (i := 130) (by decide +kernel)) rfl, Or.inl rfl⟩
theorem pf_X9_192_5 {M : am_M} (hM : (am_y M).cls = RX9) : am_pf M 192 5 5 .int := ⟨RX5, TX5, 11, tyX5, rfl, by decide, inX5, tyX5_ok, nmX5, by rw [hM]; exact am_in (List.mem_of_getElem? (i := 130) (by decide +kernel)) rfl, by decide +kernel, Or.inl rfl⟩
theorem gf_X9_202_9 {M : am_M} (hM : (am_y M).cls = RX9) : am_gf M 202 9 13 := ⟨RX9, TX9, 15, "SmellBorders", rfl, by decide, inX9, by rw [hM]; exact am_in (List.mem_of_getElem? (i := 200) (by decide +kernel)) rfl, Or.inl rfl⟩
theorem pf_X9_202_9 {M : am_M} (hM : (am_y M).cls = RX9) : am_pf M 202 9 13 .int := ⟨RX9, TX9, 15, tyX9, rfl, by decide, inX9, tyX9_ok, nmX9, by rw [hM]; exact am_in (List.mem_of_getElem? (i := 200) (by decide +kernel)) rfl, by decide +kernel, Or.inl rfl⟩
theorem gf_X9_219_5 {M : am_M} (hM : (am_y M).cls = RX9) : am_gf M 219 5 8 := ⟨RX5, TX5, 11, "SmellBorders$Standing", rfl, by decide, inX5, by rw [hM]; exact am_in (List.mem_of_getElem? (i := 136) (by decide +kernel)) rfl, Or.inl rfl⟩
theorem pf_X9_219_5 {M : am_M} (hM : (am_y M).cls = RX9) : am_pf M 219 5 8 .int := ⟨RX5, TX5, 11, tyX5, rfl, by decide, inX5, tyX5_ok, nmX5, by rw [hM]; exact am_in (List.mem_of_getElem? (i := 136) (by decide +kernel)) rfl, by decide +kernel, Or.inl rfl⟩
theorem gf_X9_229_9 {M : am_M} (hM : (am_y M).cls = RX9) : am_gf M 229 9 14 := ⟨RX9, TX9, 15, "SmellBorders", rfl, by decide, inX9, by rw [hM]; exact am_in (List.mem_of_getElem? (i := 201) (by decide +kernel)) rfl, Or.inl rfl⟩
theorem pf_X9_229_9 {M : am_M} (hM : (am_y M).cls = RX9) : am_pf M 229 9 14 .int := ⟨RX9, TX9, 15, tyX9, rfl, by decide, inX9, tyX9_ok, nmX9, by rw [hM]; exact am_in (List.mem_of_getElem? (i := 201) (by decide +kernel)) rfl, by decide +kernel, Or.inl rfl⟩
theorem gf_X9_268_3 {M : am_M} (hM : (am_y M).cls = RX9) : am_gf M 268 3 0 := ⟨RX3, TX3, 2, "SmellBorders$Page", rfl, by decide, inX3, by rw [hM]; exact am_in (List.mem_of_getElem? (i := 80) (by decide +kernel)) rfl, Or.inl rfl⟩
theorem gf_X9_295_7 {M : am_M} (hM : (am_y M).cls = RX9) : am_gf M 295 7 0 := ⟨RX7, TX7, 3, "SmellBorders$Valley", rfl, by decide, inX7, by rw [hM]; exact am_in (List.mem_of_getElem? (i := 96) (by decide +kernel)) rfl, Or.inl rfl⟩
theorem gf_X9_298_0 {M : am_M} (hM : (am_y M).cls = RX9) : am_gf M 298 0 0 := ⟨RX0, TX0, 4, "SmellBorders$Air", rfl, by decide, inX0, by rw [hM]; exact am_in (List.mem_of_getElem? (i := 172) (by decide +kernel)) rfl, Or.inl rfl⟩
theorem gf_X9_301_0 {M : am_M} (hM : (am_y M).cls = RX9) : am_gf M 301 0 1 := ⟨RX0, TX0, 4, "SmellBorders$Air", rfl, by decide, inX0, by rw [hM]; exact am_in (List.mem_of_getElem? (i := 174) (by decide +kernel)) rfl, Or.inl rfl⟩
theorem gf_X9_307_1 {M : am_M} (hM : (am_y M).cls = RX9) : am_gf M 307 1 0 := ⟨RX1, TX1, 3, "SmellBorders$Source", rfl, by decide, inX1, by rw [hM]; exact am_in (List.mem_of_getElem? (i := 417) (by decide +kernel)) rfl, Or.inl rfl⟩
theorem gf_X9_307_2 {M : am_M} (hM : (am_y M).cls = RX9) : am_gf M 307 2 0 := ⟨RX2, TX2, 3, "SmellBorders$Source", rfl, by decide, inX2, by rw [hM]; exact am_in (List.mem_of_getElem? (i := 417) (by decide +kernel)) rfl, Or.inl rfl⟩
theorem gf_X9_307_4 {M : am_M} (hM : (am_y M).cls = RX9) : am_gf M 307 4 0 := ⟨RX4, TX4, 3, "SmellBorders$Source", rfl, by decide, inX4, by rw [hM]; exact am_in (List.mem_of_getElem? (i := 417) (by decide +kernel)) rfl, Or.inl rfl⟩
theorem gf_X9_307_6 {M : am_M} (hM : (am_y M).cls = RX9) : am_gf M 307 6 0 := ⟨RX6, TX6, 3, "SmellBorders$Source", rfl, by decide, inX6, by rw [hM]; exact am_in (List.mem_of_getElem? (i := 417) (by decide +kernel)) rfl, Or.inl rfl⟩
theorem gf_X9_307_8 {M : am_M} (hM : (am_y M).cls = RX9) : am_gf M 307 8 0 := ⟨RX8, TX8, 3, "SmellBorders$Source", rfl, by decide, inX8, by rw [hM]; exact am_in (List.mem_of_getElem? (i := 417) (by decide +kernel)) rfl, Or.inl rfl⟩
theorem gf_X9_310_1 {M : am_M} (hM : (am_y M).cls = RX9) : am_gf M 310 1 2 := ⟨RX1, TX1, 3, "SmellBorders$Source", rfl, by decide, inX1, by rw [hM]; exact am_in (List.mem_of_getElem? (i := 424) (by decide +kernel)) rfl, Or.inl rfl⟩
theorem gf_X9_310_2 {M : am_M} (hM : (am_y M).cls = RX9) : am_gf M 310 2 2 := ⟨RX2, TX2, 3, "SmellBorders$Source", rfl, by decide, inX2, by rw [hM]; exact am_in (List.mem_of_getElem? (i := 424) (by decide +kernel)) rfl, Or.inl rfl⟩
theorem gf_X9_310_4 {M : am_M} (hM : (am_y M).cls = RX9) : am_gf M 310 4 2 := ⟨RX4, TX4, 3, "SmellBorders$Source", rfl, by decide, inX4, by rw [hM]; exact am_in (List.mem_of_getElem? (i := 424) (by decide +kernel)) rfl, Or.inl rfl⟩
theorem gf_X9_310_6 {M : am_M} (hM : (am_y M).cls = RX9) : am_gf M 310 6 2 := ⟨RX6, TX6, 3, "SmellBorders$Source", rfl, by decide, inX6, by rw [hM]; exact am_in (List.mem_of_getElem? (i := 424) (by decide +kernel)) rfl, Or.inl rfl⟩
theorem gf_X9_310_8 {M : am_M} (hM : (am_y M).cls = RX9) : am_gf M 310 8 2 := ⟨RX8, TX8, 3, "SmellBorders$Source", rfl, by decide, inX8, by rw [hM]; exact am_in (List.mem_of_getElem? (i := 424) (by decide +kernel)) rfl, Or.inl rfl⟩
theorem gf_X9_313_7 {M : am_M} (hM : (am_y M).cls = RX9) : am_gf M 313 7 2 := ⟨RX7, TX7, 3, "SmellBorders$Valley", rfl, by decide, inX7, by rw [hM]; exact am_in (List.mem_of_getElem? (i := 100) (by decide +kernel)) rfl, Or.inl rfl⟩
theorem pf_X9_313_7 {M : am_M} (hM : (am_y M).cls = RX9) : am_pf M 313 7 2 .int := ⟨RX7, TX7, 3, tyX7, rfl, by decide, inX7, tyX7_ok, nmX7, by rw [hM]; exact am_in (List.mem_of_getElem? (i := 100) (by decide +kernel)) rfl, by decide +kernel, Or.inl rfl⟩
theorem gf_X9_331_5 {M : am_M} (hM : (am_y M).cls = RX9) : am_gf M 331 5 9 := ⟨RX5, TX5, 11, "SmellBorders$Standing", rfl, by decide, inX5, by rw [hM]; exact am_in (List.mem_of_getElem? (i := 138) (by decide +kernel)) rfl, Or.inl rfl⟩
theorem gf_X9_337_5 {M : am_M} (hM : (am_y M).cls = RX9) : am_gf M 337 5 10 := ⟨RX5, TX5, 11, "SmellBorders$Standing", rfl, by decide, inX5, by rw [hM]; exact am_in (List.mem_of_getElem? (i := 140) (by decide +kernel)) rfl, Or.inl rfl⟩
theorem gf_X0_9_0 {M : am_M} (hM : (am_y M).cls = RX0) : am_gf M 9 0 0 := ⟨RX0, TX0, 4, "SmellBorders$Air", rfl, by decide, inX0, by rw [hM]; exact am_in (List.mem_of_getElem? (i := 171) (by decide +kernel)) rfl, Or.inl rfl⟩
theorem pf_X0_9_0 {M : am_M} (hM : (am_y M).cls = RX0) (hi : (am_y M).name = "<init>") : am_pf M 9 0 0 (.array .int) := ⟨RX0, TX0, 4, tyX0, rfl, by decide, inX0, tyX0_ok, nmX0, by rw [hM]; exact am_in (List.mem_of_getElem? (i := 171) (by decide +kernel)) rfl, by decide +kernel, Or.inr ⟨rfl, hi, hM.symm⟩⟩
theorem gf_X0_15_0 {M : am_M} (hM : (am_y M).cls = RX0) : am_gf M 15 0 1 := ⟨RX0, TX0, 4, "SmellBorders$Air", rfl, by decide, inX0, by rw [hM]; exact am_in (List.mem_of_getElem? (i := 173) (by decide +kernel)) rfl, Or.inl rfl⟩
theorem pf_X0_15_0 {M : am_M} (hM : (am_y M).cls = RX0) (hi : (am_y M).name = "<init>") : am_pf M 15 0 1 (.array .int) := ⟨RX0, TX0, 4, tyX0, rfl, by decide, inX0, tyX0_ok, nmX0, by rw [hM]; exact am_in (List.mem_of_getElem? (i := 173) (by decide +kernel)) rfl, by decide +kernel, Or.inr ⟨rfl, hi, hM.symm⟩⟩
theorem gf_X0_18_0 {M : am_M} (hM : (am_y M).cls = RX0) : am_gf M 18 0 2 := ⟨RX0, TX0, 4, "SmellBorders$Air", rfl, by decide, inX0, by rw [hM]; exact am_in (List.mem_of_getElem? (i := 175) (by decide +kernel)) rfl, Or.inl rfl⟩
theorem pf_X0_18_0 {M : am_M} (hM : (am_y M).cls = RX0) (hi : (am_y M).name = "<init>") : am_pf M 18 0 2 (.array .int) := ⟨RX0, TX0, 4, tyX0, rfl, by decide, inX0, tyX0_ok, nmX0, by rw [hM]; exact am_in (List.mem_of_getElem? (i := 175) (by decide +kernel)) rfl, by decide +kernel, Or.inr ⟨rfl, hi, hM.symm⟩⟩
theorem gf_X0_21_0 {M : am_M} (hM : (am_y M).cls = RX0) : am_gf M 21 0 3 := ⟨RX0, TX0, 4, "SmellBorders$Air", rfl, by decide, inX0, by rw [hM]; exact am_in (List.mem_of_getElem? (i := 177) (by decide +kernel)) rfl, Or.inl rfl⟩
theorem pf_X0_21_0 {M : am_M} (hM : (am_y M).cls = RX0) (hi : (am_y M).name = "<init>") : am_pf M 21 0 3 (.array .int) := ⟨RX0, TX0, 4, tyX0, rfl, by decide, inX0, tyX0_ok, nmX0, by rw [hM]; exact am_in (List.mem_of_getElem? (i := 177) (by decide +kernel)) rfl, by decide +kernel, Or.inr ⟨rfl, hi, hM.symm⟩⟩
theorem gf_X0_24_5 {M : am_M} (hM : (am_y M).cls = RX0) : am_gf M 24 5 0 := ⟨RX5, TX5, 11, "SmellBorders$Standing", rfl, by decide, inX5, by rw [hM]; exact am_in (List.mem_of_getElem? (i := 117) (by decide +kernel)) rfl, Or.inl rfl⟩
theorem pf_X0_24_5 {M : am_M} (hM : (am_y M).cls = RX0) : am_pf M 24 5 0 .int := ⟨RX5, TX5, 11, tyX5, rfl, by decide, inX5, tyX5_ok, nmX5, by rw [hM]; exact am_in (List.mem_of_getElem? (i := 117) (by decide +kernel)) rfl, by decide +kernel, Or.inl rfl⟩
theorem gf_X0_34_1 {M : am_M} (hM : (am_y M).cls = RX0) : am_gf M 34 1 1 := ⟨RX1, TX1, 3, "SmellBorders$Source", rfl, by decide, inX1, by rw [hM]; exact am_in (List.mem_of_getElem? (i := 419) (by decide +kernel)) rfl, Or.inl rfl⟩
theorem gf_X0_34_2 {M : am_M} (hM : (am_y M).cls = RX0) : am_gf M 34 2 1 := ⟨RX2, TX2, 3, "SmellBorders$Source", rfl, by decide, inX2, by rw [hM]; exact am_in (List.mem_of_getElem? (i := 419) (by decide +kernel)) rfl, Or.inl rfl⟩
theorem gf_X0_34_4 {M : am_M} (hM : (am_y M).cls = RX0) : am_gf M 34 4 1 := ⟨RX4, TX4, 3, "SmellBorders$Source", rfl, by decide, inX4, by rw [hM]; exact am_in (List.mem_of_getElem? (i := 419) (by decide +kernel)) rfl, Or.inl rfl⟩
theorem gf_X0_34_6 {M : am_M} (hM : (am_y M).cls = RX0) : am_gf M 34 6 1 := ⟨RX6, TX6, 3, "SmellBorders$Source", rfl, by decide, inX6, by rw [hM]; exact am_in (List.mem_of_getElem? (i := 419) (by decide +kernel)) rfl, Or.inl rfl⟩
theorem gf_X0_34_8 {M : am_M} (hM : (am_y M).cls = RX0) : am_gf M 34 8 1 := ⟨RX8, TX8, 3, "SmellBorders$Source", rfl, by decide, inX8, by rw [hM]; exact am_in (List.mem_of_getElem? (i := 419) (by decide +kernel)) rfl, Or.inl rfl⟩
theorem gf_X0_39_5 {M : am_M} (hM : (am_y M).cls = RX0) : am_gf M 39 5 2 := ⟨RX5, TX5, 11, "SmellBorders$Standing", rfl, by decide, inX5, by rw [hM]; exact am_in (List.mem_of_getElem? (i := 122) (by decide +kernel)) rfl, Or.inl rfl⟩
theorem gf_X0_50_5 {M : am_M} (hM : (am_y M).cls = RX0) : am_gf M 50 5 3 := ⟨RX5, TX5, 11, "SmellBorders$Standing", rfl, by decide, inX5, by rw [hM]; exact am_in (List.mem_of_getElem? (i := 125) (by decide +kernel)) rfl, Or.inl rfl⟩
theorem pf_X0_50_5 {M : am_M} (hM : (am_y M).cls = RX0) : am_pf M 50 5 3 .int := ⟨RX5, TX5, 11, tyX5, rfl, by decide, inX5, tyX5_ok, nmX5, by rw [hM]; exact am_in (List.mem_of_getElem? (i := 125) (by decide +kernel)) rfl, by decide +kernel, Or.inl rfl⟩
theorem gf_X0_59_1 {M : am_M} (hM : (am_y M).cls = RX0) : am_gf M 59 1 0 := ⟨RX1, TX1, 3, "SmellBorders$Source", rfl, by decide, inX1, by rw [hM]; exact am_in (List.mem_of_getElem? (i := 416) (by decide +kernel)) rfl, Or.inl rfl⟩
theorem gf_X0_59_2 {M : am_M} (hM : (am_y M).cls = RX0) : am_gf M 59 2 0 := ⟨RX2, TX2, 3, "SmellBorders$Source", rfl, by decide, inX2, by rw [hM]; exact am_in (List.mem_of_getElem? (i := 416) (by decide +kernel)) rfl, Or.inl rfl⟩
theorem gf_X0_59_4 {M : am_M} (hM : (am_y M).cls = RX0) : am_gf M 59 4 0 := ⟨RX4, TX4, 3, "SmellBorders$Source", rfl, by decide, inX4, by rw [hM]; exact am_in (List.mem_of_getElem? (i := 416) (by decide +kernel)) rfl, Or.inl rfl⟩
theorem gf_X0_59_6 {M : am_M} (hM : (am_y M).cls = RX0) : am_gf M 59 6 0 := ⟨RX6, TX6, 3, "SmellBorders$Source", rfl, by decide, inX6, by rw [hM]; exact am_in (List.mem_of_getElem? (i := 416) (by decide +kernel)) rfl, Or.inl rfl⟩
theorem gf_X0_59_8 {M : am_M} (hM : (am_y M).cls = RX0) : am_gf M 59 8 0 := ⟨RX8, TX8, 3, "SmellBorders$Source", rfl, by decide, inX8, by rw [hM]; exact am_in (List.mem_of_getElem? (i := 416) (by decide +kernel)) rfl, Or.inl rfl⟩
theorem gf_X1_9_1 {M : am_M} (hM : (am_y M).cls = RX1) : am_gf M 9 1 2 := ⟨RX1, TX1, 3, "SmellBorders$Cheese", rfl, by decide, inX1, by rw [hM]; exact am_in (List.mem_of_getElem? (i := 422) (by decide +kernel)) rfl, Or.inr (am_in (List.mem_of_getElem? (i := 423) (by decide +kernel)) rfl)⟩
theorem gf_X3_11_3 {M : am_M} (hM : (am_y M).cls = RX3) : am_gf M 11 3 0 := ⟨RX3, TX3, 2, "SmellBorders$Page", rfl, by decide, inX3, by rw [hM]; exact am_in (List.mem_of_getElem? (i := 78) (by decide +kernel)) rfl, Or.inl rfl⟩
theorem pf_X3_11_3 {M : am_M} (hM : (am_y M).cls = RX3) (hi : (am_y M).name = "<init>") : am_pf M 11 3 0 (.array .int) := ⟨RX3, TX3, 2, tyX3, rfl, by decide, inX3, tyX3_ok, nmX3, by rw [hM]; exact am_in (List.mem_of_getElem? (i := 78) (by decide +kernel)) rfl, by decide +kernel, Or.inr ⟨rfl, hi, hM.symm⟩⟩
theorem gf_X3_15_3 {M : am_M} (hM : (am_y M).cls = RX3) : am_gf M 15 3 1 := ⟨RX3, TX3, 2, "SmellBorders$Page", rfl, by decide, inX3, by rw [hM]; exact am_in (List.mem_of_getElem? (i := 81) (by decide +kernel)) rfl, Or.inl rfl⟩
theorem pf_X3_15_3 {M : am_M} (hM : (am_y M).cls = RX3) : am_pf M 15 3 1 .int := ⟨RX3, TX3, 2, tyX3, rfl, by decide, inX3, tyX3_ok, nmX3, by rw [hM]; exact am_in (List.mem_of_getElem? (i := 81) (by decide +kernel)) rfl, by decide +kernel, Or.inl rfl⟩
theorem gf_X4_7_1 {M : am_M} (hM : (am_y M).cls = RX4) : am_gf M 7 1 0 := ⟨RX1, TX1, 3, "SmellBorders$Source", rfl, by decide, inX1, by rw [hM]; exact am_in (List.mem_of_getElem? (i := 415) (by decide +kernel)) rfl, Or.inl rfl⟩
theorem pf_X4_7_1 {M : am_M} (hM : (am_y M).cls = RX4) (hi : (am_y M).name = "<init>") : am_pf M 7 1 0 .int := ⟨RX1, TX1, 3, tyX1, rfl, by decide, inX1, tyX1_ok, nmX1, by rw [hM]; exact am_in (List.mem_of_getElem? (i := 415) (by decide +kernel)) rfl, by decide +kernel, Or.inr ⟨rfl, hi, hM.symm⟩⟩
theorem gf_X4_7_2 {M : am_M} (hM : (am_y M).cls = RX4) : am_gf M 7 2 0 := ⟨RX2, TX2, 3, "SmellBorders$Source", rfl, by decide, inX2, by rw [hM]; exact am_in (List.mem_of_getElem? (i := 415) (by decide +kernel)) rfl, Or.inl rfl⟩
theorem pf_X4_7_2 {M : am_M} (hM : (am_y M).cls = RX4) (hi : (am_y M).name = "<init>") : am_pf M 7 2 0 .int := ⟨RX2, TX2, 3, tyX2, rfl, by decide, inX2, tyX2_ok, nmX2, by rw [hM]; exact am_in (List.mem_of_getElem? (i := 415) (by decide +kernel)) rfl, by decide +kernel, Or.inr ⟨rfl, hi, hM.symm⟩⟩
theorem gf_X4_7_4 {M : am_M} (hM : (am_y M).cls = RX4) : am_gf M 7 4 0 := ⟨RX4, TX4, 3, "SmellBorders$Source", rfl, by decide, inX4, by rw [hM]; exact am_in (List.mem_of_getElem? (i := 415) (by decide +kernel)) rfl, Or.inl rfl⟩
theorem pf_X4_7_4 {M : am_M} (hM : (am_y M).cls = RX4) (hi : (am_y M).name = "<init>") : am_pf M 7 4 0 .int := ⟨RX4, TX4, 3, tyX4, rfl, by decide, inX4, tyX4_ok, nmX4, by rw [hM]; exact am_in (List.mem_of_getElem? (i := 415) (by decide +kernel)) rfl, by decide +kernel, Or.inr ⟨rfl, hi, hM.symm⟩⟩
theorem gf_X4_7_6 {M : am_M} (hM : (am_y M).cls = RX4) : am_gf M 7 6 0 := ⟨RX6, TX6, 3, "SmellBorders$Source", rfl, by decide, inX6, by rw [hM]; exact am_in (List.mem_of_getElem? (i := 415) (by decide +kernel)) rfl, Or.inl rfl⟩
theorem pf_X4_7_6 {M : am_M} (hM : (am_y M).cls = RX4) (hi : (am_y M).name = "<init>") : am_pf M 7 6 0 .int := ⟨RX6, TX6, 3, tyX6, rfl, by decide, inX6, tyX6_ok, nmX6, by rw [hM]; exact am_in (List.mem_of_getElem? (i := 415) (by decide +kernel)) rfl, by decide +kernel, Or.inr ⟨rfl, hi, hM.symm⟩⟩
theorem gf_X4_7_8 {M : am_M} (hM : (am_y M).cls = RX4) : am_gf M 7 8 0 := ⟨RX8, TX8, 3, "SmellBorders$Source", rfl, by decide, inX8, by rw [hM]; exact am_in (List.mem_of_getElem? (i := 415) (by decide +kernel)) rfl, Or.inl rfl⟩
theorem pf_X4_7_8 {M : am_M} (hM : (am_y M).cls = RX4) (hi : (am_y M).name = "<init>") : am_pf M 7 8 0 .int := ⟨RX8, TX8, 3, tyX8, rfl, by decide, inX8, tyX8_ok, nmX8, by rw [hM]; exact am_in (List.mem_of_getElem? (i := 415) (by decide +kernel)) rfl, by decide +kernel, Or.inr ⟨rfl, hi, hM.symm⟩⟩
theorem gf_X4_13_1 {M : am_M} (hM : (am_y M).cls = RX4) : am_gf M 13 1 1 := ⟨RX1, TX1, 3, "SmellBorders$Source", rfl, by decide, inX1, by rw [hM]; exact am_in (List.mem_of_getElem? (i := 418) (by decide +kernel)) rfl, Or.inl rfl⟩
theorem pf_X4_13_1 {M : am_M} (hM : (am_y M).cls = RX4) (hi : (am_y M).name = "<init>") : am_pf M 13 1 1 .int := ⟨RX1, TX1, 3, tyX1, rfl, by decide, inX1, tyX1_ok, nmX1, by rw [hM]; exact am_in (List.mem_of_getElem? (i := 418) (by decide +kernel)) rfl, by decide +kernel, Or.inr ⟨rfl, hi, hM.symm⟩⟩
theorem gf_X4_13_2 {M : am_M} (hM : (am_y M).cls = RX4) : am_gf M 13 2 1 := ⟨RX2, TX2, 3, "SmellBorders$Source", rfl, by decide, inX2, by rw [hM]; exact am_in (List.mem_of_getElem? (i := 418) (by decide +kernel)) rfl, Or.inl rfl⟩
theorem pf_X4_13_2 {M : am_M} (hM : (am_y M).cls = RX4) (hi : (am_y M).name = "<init>") : am_pf M 13 2 1 .int := ⟨RX2, TX2, 3, tyX2, rfl, by decide, inX2, tyX2_ok, nmX2, by rw [hM]; exact am_in (List.mem_of_getElem? (i := 418) (by decide +kernel)) rfl, by decide +kernel, Or.inr ⟨rfl, hi, hM.symm⟩⟩
theorem gf_X4_13_4 {M : am_M} (hM : (am_y M).cls = RX4) : am_gf M 13 4 1 := ⟨RX4, TX4, 3, "SmellBorders$Source", rfl, by decide, inX4, by rw [hM]; exact am_in (List.mem_of_getElem? (i := 418) (by decide +kernel)) rfl, Or.inl rfl⟩
theorem pf_X4_13_4 {M : am_M} (hM : (am_y M).cls = RX4) (hi : (am_y M).name = "<init>") : am_pf M 13 4 1 .int := ⟨RX4, TX4, 3, tyX4, rfl, by decide, inX4, tyX4_ok, nmX4, by rw [hM]; exact am_in (List.mem_of_getElem? (i := 418) (by decide +kernel)) rfl, by decide +kernel, Or.inr ⟨rfl, hi, hM.symm⟩⟩
theorem gf_X4_13_6 {M : am_M} (hM : (am_y M).cls = RX4) : am_gf M 13 6 1 := ⟨RX6, TX6, 3, "SmellBorders$Source", rfl, by decide, inX6, by rw [hM]; exact am_in (List.mem_of_getElem? (i := 418) (by decide +kernel)) rfl, Or.inl rfl⟩
theorem pf_X4_13_6 {M : am_M} (hM : (am_y M).cls = RX4) (hi : (am_y M).name = "<init>") : am_pf M 13 6 1 .int := ⟨RX6, TX6, 3, tyX6, rfl, by decide, inX6, tyX6_ok, nmX6, by rw [hM]; exact am_in (List.mem_of_getElem? (i := 418) (by decide +kernel)) rfl, by decide +kernel, Or.inr ⟨rfl, hi, hM.symm⟩⟩
theorem gf_X4_13_8 {M : am_M} (hM : (am_y M).cls = RX4) : am_gf M 13 8 1 := ⟨RX8, TX8, 3, "SmellBorders$Source", rfl, by decide, inX8, by rw [hM]; exact am_in (List.mem_of_getElem? (i := 418) (by decide +kernel)) rfl, Or.inl rfl⟩
theorem pf_X4_13_8 {M : am_M} (hM : (am_y M).cls = RX4) (hi : (am_y M).name = "<init>") : am_pf M 13 8 1 .int := ⟨RX8, TX8, 3, tyX8, rfl, by decide, inX8, tyX8_ok, nmX8, by rw [hM]; exact am_in (List.mem_of_getElem? (i := 418) (by decide +kernel)) rfl, by decide +kernel, Or.inr ⟨rfl, hi, hM.symm⟩⟩
theorem gf_X4_16_1 {M : am_M} (hM : (am_y M).cls = RX4) : am_gf M 16 1 2 := ⟨RX1, TX1, 3, "SmellBorders$Source", rfl, by decide, inX1, by rw [hM]; exact am_in (List.mem_of_getElem? (i := 421) (by decide +kernel)) rfl, Or.inl rfl⟩
theorem pf_X4_16_1 {M : am_M} (hM : (am_y M).cls = RX4) (hi : (am_y M).name = "<init>") : am_pf M 16 1 2 .int := ⟨RX1, TX1, 3, tyX1, rfl, by decide, inX1, tyX1_ok, nmX1, by rw [hM]; exact am_in (List.mem_of_getElem? (i := 421) (by decide +kernel)) rfl, by decide +kernel, Or.inr ⟨rfl, hi, hM.symm⟩⟩
theorem gf_X4_16_2 {M : am_M} (hM : (am_y M).cls = RX4) : am_gf M 16 2 2 := ⟨RX2, TX2, 3, "SmellBorders$Source", rfl, by decide, inX2, by rw [hM]; exact am_in (List.mem_of_getElem? (i := 421) (by decide +kernel)) rfl, Or.inl rfl⟩
theorem pf_X4_16_2 {M : am_M} (hM : (am_y M).cls = RX4) (hi : (am_y M).name = "<init>") : am_pf M 16 2 2 .int := ⟨RX2, TX2, 3, tyX2, rfl, by decide, inX2, tyX2_ok, nmX2, by rw [hM]; exact am_in (List.mem_of_getElem? (i := 421) (by decide +kernel)) rfl, by decide +kernel, Or.inr ⟨rfl, hi, hM.symm⟩⟩
theorem gf_X4_16_4 {M : am_M} (hM : (am_y M).cls = RX4) : am_gf M 16 4 2 := ⟨RX4, TX4, 3, "SmellBorders$Source", rfl, by decide, inX4, by rw [hM]; exact am_in (List.mem_of_getElem? (i := 421) (by decide +kernel)) rfl, Or.inl rfl⟩
theorem pf_X4_16_4 {M : am_M} (hM : (am_y M).cls = RX4) (hi : (am_y M).name = "<init>") : am_pf M 16 4 2 .int := ⟨RX4, TX4, 3, tyX4, rfl, by decide, inX4, tyX4_ok, nmX4, by rw [hM]; exact am_in (List.mem_of_getElem? (i := 421) (by decide +kernel)) rfl, by decide +kernel, Or.inr ⟨rfl, hi, hM.symm⟩⟩
theorem gf_X4_16_6 {M : am_M} (hM : (am_y M).cls = RX4) : am_gf M 16 6 2 := ⟨RX6, TX6, 3, "SmellBorders$Source", rfl, by decide, inX6, by rw [hM]; exact am_in (List.mem_of_getElem? (i := 421) (by decide +kernel)) rfl, Or.inl rfl⟩
theorem pf_X4_16_6 {M : am_M} (hM : (am_y M).cls = RX4) (hi : (am_y M).name = "<init>") : am_pf M 16 6 2 .int := ⟨RX6, TX6, 3, tyX6, rfl, by decide, inX6, tyX6_ok, nmX6, by rw [hM]; exact am_in (List.mem_of_getElem? (i := 421) (by decide +kernel)) rfl, by decide +kernel, Or.inr ⟨rfl, hi, hM.symm⟩⟩
theorem gf_X4_16_8 {M : am_M} (hM : (am_y M).cls = RX4) : am_gf M 16 8 2 := ⟨RX8, TX8, 3, "SmellBorders$Source", rfl, by decide, inX8, by rw [hM]; exact am_in (List.mem_of_getElem? (i := 421) (by decide +kernel)) rfl, Or.inl rfl⟩
theorem pf_X4_16_8 {M : am_M} (hM : (am_y M).cls = RX4) (hi : (am_y M).name = "<init>") : am_pf M 16 8 2 .int := ⟨RX8, TX8, 3, tyX8, rfl, by decide, inX8, tyX8_ok, nmX8, by rw [hM]; exact am_in (List.mem_of_getElem? (i := 421) (by decide +kernel)) rfl, by decide +kernel, Or.inr ⟨rfl, hi, hM.symm⟩⟩
theorem gf_X5_9_5 {M : am_M} (hM : (am_y M).cls = RX5) : am_gf M 9 5 1 := ⟨RX5, TX5, 11, "SmellBorders$Standing", rfl, by decide, inX5, by rw [hM]; exact am_in (List.mem_of_getElem? (i := 119) (by decide +kernel)) rfl, Or.inl rfl⟩
theorem pf_X5_9_5 {M : am_M} (hM : (am_y M).cls = RX5) (hi : (am_y M).name = "<init>") : am_pf M 9 5 1 (.array .boolean) := ⟨RX5, TX5, 11, tyX5, rfl, by decide, inX5, tyX5_ok, nmX5, by rw [hM]; exact am_in (List.mem_of_getElem? (i := 119) (by decide +kernel)) rfl, by decide +kernel, Or.inr ⟨rfl, hi, hM.symm⟩⟩
theorem gf_X5_15_5 {M : am_M} (hM : (am_y M).cls = RX5) : am_gf M 15 5 2 := ⟨RX5, TX5, 11, "SmellBorders$Standing", rfl, by decide, inX5, by rw [hM]; exact am_in (List.mem_of_getElem? (i := 121) (by decide +kernel)) rfl, Or.inl rfl⟩
theorem pf_X5_15_5 {M : am_M} (hM : (am_y M).cls = RX5) (hi : (am_y M).name = "<init>") : am_pf M 15 5 2 (.array .int) := ⟨RX5, TX5, 11, tyX5, rfl, by decide, inX5, tyX5_ok, nmX5, by rw [hM]; exact am_in (List.mem_of_getElem? (i := 121) (by decide +kernel)) rfl, by decide +kernel, Or.inr ⟨rfl, hi, hM.symm⟩⟩
theorem gf_X5_19_5 {M : am_M} (hM : (am_y M).cls = RX5) : am_gf M 19 5 6 := ⟨RX5, TX5, 11, "SmellBorders$Standing", rfl, by decide, inX5, by rw [hM]; exact am_in (List.mem_of_getElem? (i := 131) (by decide +kernel)) rfl, Or.inl rfl⟩
theorem pf_X5_19_5 {M : am_M} (hM : (am_y M).cls = RX5) (hi : (am_y M).name = "<init>") : am_pf M 19 5 6 (.array .int) := ⟨RX5, TX5, 11, tyX5, rfl, by decide, inX5, tyX5_ok, nmX5, by rw [hM]; exact am_in (List.mem_of_getElem? (i := 131) (by decide +kernel)) rfl, by decide +kernel, Or.inr ⟨rfl, hi, hM.symm⟩⟩
theorem gf_X5_22_5 {M : am_M} (hM : (am_y M).cls = RX5) : am_gf M 22 5 7 := ⟨RX5, TX5, 11, "SmellBorders$Standing", rfl, by decide, inX5, by rw [hM]; exact am_in (List.mem_of_getElem? (i := 133) (by decide +kernel)) rfl, Or.inl rfl⟩
theorem pf_X5_22_5 {M : am_M} (hM : (am_y M).cls = RX5) (hi : (am_y M).name = "<init>") : am_pf M 22 5 7 (.array .int) := ⟨RX5, TX5, 11, tyX5, rfl, by decide, inX5, tyX5_ok, nmX5, by rw [hM]; exact am_in (List.mem_of_getElem? (i := 133) (by decide +kernel)) rfl, by decide +kernel, Or.inr ⟨rfl, hi, hM.symm⟩⟩
theorem gf_X5_25_5 {M : am_M} (hM : (am_y M).cls = RX5) : am_gf M 25 5 9 := ⟨RX5, TX5, 11, "SmellBorders$Standing", rfl, by decide, inX5, by rw [hM]; exact am_in (List.mem_of_getElem? (i := 137) (by decide +kernel)) rfl, Or.inl rfl⟩
theorem pf_X5_25_5 {M : am_M} (hM : (am_y M).cls = RX5) (hi : (am_y M).name = "<init>") : am_pf M 25 5 9 (.array .int) := ⟨RX5, TX5, 11, tyX5, rfl, by decide, inX5, tyX5_ok, nmX5, by rw [hM]; exact am_in (List.mem_of_getElem? (i := 137) (by decide +kernel)) rfl, by decide +kernel, Or.inr ⟨rfl, hi, hM.symm⟩⟩
theorem gf_X5_28_5 {M : am_M} (hM : (am_y M).cls = RX5) : am_gf M 28 5 10 := ⟨RX5, TX5, 11, "SmellBorders$Standing", rfl, by decide, inX5, by rw [hM]; exact am_in (List.mem_of_getElem? (i := 139) (by decide +kernel)) rfl, Or.inl rfl⟩
theorem pf_X5_28_5 {M : am_M} (hM : (am_y M).cls = RX5) (hi : (am_y M).name = "<init>") : am_pf M 28 5 10 (.array .int) := ⟨RX5, TX5, 11, tyX5, rfl, by decide, inX5, tyX5_ok, nmX5, by rw [hM]; exact am_in (List.mem_of_getElem? (i := 139) (by decide +kernel)) rfl, by decide +kernel, Or.inr ⟨rfl, hi, hM.symm⟩⟩
theorem gf_X5_31_5 {M : am_M} (hM : (am_y M).cls = RX5) : am_gf M 31 5 0 := ⟨RX5, TX5, 11, "SmellBorders$Standing", rfl, by decide, inX5, by rw [hM]; exact am_in (List.mem_of_getElem? (i := 116) (by decide +kernel)) rfl, Or.inl rfl⟩
theorem pf_X5_31_5 {M : am_M} (hM : (am_y M).cls = RX5) : am_pf M 31 5 0 .int := ⟨RX5, TX5, 11, tyX5, rfl, by decide, inX5, tyX5_ok, nmX5, by rw [hM]; exact am_in (List.mem_of_getElem? (i := 116) (by decide +kernel)) rfl, by decide +kernel, Or.inl rfl⟩
theorem gf_X5_35_5 {M : am_M} (hM : (am_y M).cls = RX5) : am_gf M 35 5 3 := ⟨RX5, TX5, 11, "SmellBorders$Standing", rfl, by decide, inX5, by rw [hM]; exact am_in (List.mem_of_getElem? (i := 124) (by decide +kernel)) rfl, Or.inl rfl⟩
theorem pf_X5_35_5 {M : am_M} (hM : (am_y M).cls = RX5) : am_pf M 35 5 3 .int := ⟨RX5, TX5, 11, tyX5, rfl, by decide, inX5, tyX5_ok, nmX5, by rw [hM]; exact am_in (List.mem_of_getElem? (i := 124) (by decide +kernel)) rfl, by decide +kernel, Or.inl rfl⟩
theorem gf_X5_38_5 {M : am_M} (hM : (am_y M).cls = RX5) : am_gf M 38 5 4 := ⟨RX5, TX5, 11, "SmellBorders$Standing", rfl, by decide, inX5, by rw [hM]; exact am_in (List.mem_of_getElem? (i := 127) (by decide +kernel)) rfl, Or.inl rfl⟩
theorem pf_X5_38_5 {M : am_M} (hM : (am_y M).cls = RX5) : am_pf M 38 5 4 .boolean := ⟨RX5, TX5, 11, tyX5, rfl, by decide, inX5, tyX5_ok, nmX5, by rw [hM]; exact am_in (List.mem_of_getElem? (i := 127) (by decide +kernel)) rfl, by decide +kernel, Or.inl rfl⟩
theorem gf_X5_42_5 {M : am_M} (hM : (am_y M).cls = RX5) : am_gf M 42 5 5 := ⟨RX5, TX5, 11, "SmellBorders$Standing", rfl, by decide, inX5, by rw [hM]; exact am_in (List.mem_of_getElem? (i := 129) (by decide +kernel)) rfl, Or.inl rfl⟩
theorem pf_X5_42_5 {M : am_M} (hM : (am_y M).cls = RX5) : am_pf M 42 5 5 .int := ⟨RX5, TX5, 11, tyX5, rfl, by decide, inX5, tyX5_ok, nmX5, by rw [hM]; exact am_in (List.mem_of_getElem? (i := 129) (by decide +kernel)) rfl, by decide +kernel, Or.inl rfl⟩
theorem gf_X5_51_5 {M : am_M} (hM : (am_y M).cls = RX5) : am_gf M 51 5 8 := ⟨RX5, TX5, 11, "SmellBorders$Standing", rfl, by decide, inX5, by rw [hM]; exact am_in (List.mem_of_getElem? (i := 135) (by decide +kernel)) rfl, Or.inl rfl⟩
theorem pf_X5_51_5 {M : am_M} (hM : (am_y M).cls = RX5) : am_pf M 51 5 8 .int := ⟨RX5, TX5, 11, tyX5, rfl, by decide, inX5, tyX5_ok, nmX5, by rw [hM]; exact am_in (List.mem_of_getElem? (i := 135) (by decide +kernel)) rfl, by decide +kernel, Or.inl rfl⟩
theorem gf_X7_9_7 {M : am_M} (hM : (am_y M).cls = RX7) : am_gf M 9 7 0 := ⟨RX7, TX7, 3, "SmellBorders$Valley", rfl, by decide, inX7, by rw [hM]; exact am_in (List.mem_of_getElem? (i := 95) (by decide +kernel)) rfl, Or.inl rfl⟩
theorem pf_X7_9_7 {M : am_M} (hM : (am_y M).cls = RX7) (hi : (am_y M).name = "<init>") : am_pf M 9 7 0 (.array .int) := ⟨RX7, TX7, 3, tyX7, rfl, by decide, inX7, tyX7_ok, nmX7, by rw [hM]; exact am_in (List.mem_of_getElem? (i := 95) (by decide +kernel)) rfl, by decide +kernel, Or.inr ⟨rfl, hi, hM.symm⟩⟩
theorem gf_X7_15_7 {M : am_M} (hM : (am_y M).cls = RX7) : am_gf M 15 7 2 := ⟨RX7, TX7, 3, "SmellBorders$Valley", rfl, by decide, inX7, by rw [hM]; exact am_in (List.mem_of_getElem? (i := 99) (by decide +kernel)) rfl, Or.inl rfl⟩
theorem pf_X7_15_7 {M : am_M} (hM : (am_y M).cls = RX7) : am_pf M 15 7 2 .int := ⟨RX7, TX7, 3, tyX7, rfl, by decide, inX7, tyX7_ok, nmX7, by rw [hM]; exact am_in (List.mem_of_getElem? (i := 99) (by decide +kernel)) rfl, by decide +kernel, Or.inl rfl⟩
theorem gf_X7_19_7 {M : am_M} (hM : (am_y M).cls = RX7) : am_gf M 19 7 1 := ⟨RX7, TX7, 3, "SmellBorders$Valley", rfl, by decide, inX7, by rw [hM]; exact am_in (List.mem_of_getElem? (i := 97) (by decide +kernel)) rfl, Or.inl rfl⟩
theorem pf_X7_19_7 {M : am_M} (hM : (am_y M).cls = RX7) : am_pf M 19 7 1 .int := ⟨RX7, TX7, 3, tyX7, rfl, by decide, inX7, tyX7_ok, nmX7, by rw [hM]; exact am_in (List.mem_of_getElem? (i := 97) (by decide +kernel)) rfl, by decide +kernel, Or.inl rfl⟩
theorem gf_X7_22_3 {M : am_M} (hM : (am_y M).cls = RX7) : am_gf M 22 3 0 := ⟨RX3, TX3, 2, "SmellBorders$Page", rfl, by decide, inX3, by rw [hM]; exact am_in (List.mem_of_getElem? (i := 79) (by decide +kernel)) rfl, Or.inl rfl⟩
theorem gf_X10_7_10 {M : am_M} (hM : (am_y M).cls = RX10) : am_gf M 7 10 0 := ⟨RX10, TX10, 34, "SmellBordersModel", rfl, by decide, inX10, by rw [hM]; exact am_in (List.mem_of_getElem? (i := 694) (by decide +kernel)) rfl, Or.inl rfl⟩
theorem pf_X10_7_10 {M : am_M} (hM : (am_y M).cls = RX10) (hi : (am_y M).name = "<init>") : am_pf M 7 10 0 (.array .int) := ⟨RX10, TX10, 34, tyX10, rfl, by decide, inX10, tyX10_ok, nmX10, by rw [hM]; exact am_in (List.mem_of_getElem? (i := 694) (by decide +kernel)) rfl, by decide +kernel, Or.inr ⟨rfl, hi, hM.symm⟩⟩
theorem gf_X10_13_10 {M : am_M} (hM : (am_y M).cls = RX10) : am_gf M 13 10 7 := ⟨RX10, TX10, 34, "SmellBordersModel", rfl, by decide, inX10, by rw [hM]; exact am_in (List.mem_of_getElem? (i := 701) (by decide +kernel)) rfl, Or.inl rfl⟩
theorem pf_X10_13_10 {M : am_M} (hM : (am_y M).cls = RX10) (hi : (am_y M).name = "<init>") : am_pf M 13 10 7 (.array .int) := ⟨RX10, TX10, 34, tyX10, rfl, by decide, inX10, tyX10_ok, nmX10, by rw [hM]; exact am_in (List.mem_of_getElem? (i := 701) (by decide +kernel)) rfl, by decide +kernel, Or.inr ⟨rfl, hi, hM.symm⟩⟩
theorem gf_X10_16_10 {M : am_M} (hM : (am_y M).cls = RX10) : am_gf M 16 10 8 := ⟨RX10, TX10, 34, "SmellBordersModel", rfl, by decide, inX10, by rw [hM]; exact am_in (List.mem_of_getElem? (i := 702) (by decide +kernel)) rfl, Or.inl rfl⟩
theorem pf_X10_16_10 {M : am_M} (hM : (am_y M).cls = RX10) (hi : (am_y M).name = "<init>") : am_pf M 16 10 8 (.array .int) := ⟨RX10, TX10, 34, tyX10, rfl, by decide, inX10, tyX10_ok, nmX10, by rw [hM]; exact am_in (List.mem_of_getElem? (i := 702) (by decide +kernel)) rfl, by decide +kernel, Or.inr ⟨rfl, hi, hM.symm⟩⟩
theorem gf_X10_19_10 {M : am_M} (hM : (am_y M).cls = RX10) : am_gf M 19 10 9 := ⟨RX10, TX10, 34, "SmellBordersModel", rfl, by decide, inX10, by rw [hM]; exact am_in (List.mem_of_getElem? (i := 703) (by decide +kernel)) rfl, Or.inl rfl⟩
theorem pf_X10_19_10 {M : am_M} (hM : (am_y M).cls = RX10) (hi : (am_y M).name = "<init>") : am_pf M 19 10 9 (.array .int) := ⟨RX10, TX10, 34, tyX10, rfl, by decide, inX10, tyX10_ok, nmX10, by rw [hM]; exact am_in (List.mem_of_getElem? (i := 703) (by decide +kernel)) rfl, by decide +kernel, Or.inr ⟨rfl, hi, hM.symm⟩⟩
theorem gf_X10_22_10 {M : am_M} (hM : (am_y M).cls = RX10) : am_gf M 22 10 11 := ⟨RX10, TX10, 34, "SmellBordersModel", rfl, by decide, inX10, by rw [hM]; exact am_in (List.mem_of_getElem? (i := 705) (by decide +kernel)) rfl, Or.inl rfl⟩
theorem pf_X10_22_10 {M : am_M} (hM : (am_y M).cls = RX10) (hi : (am_y M).name = "<init>") : am_pf M 22 10 11 (.array .int) := ⟨RX10, TX10, 34, tyX10, rfl, by decide, inX10, tyX10_ok, nmX10, by rw [hM]; exact am_in (List.mem_of_getElem? (i := 705) (by decide +kernel)) rfl, by decide +kernel, Or.inr ⟨rfl, hi, hM.symm⟩⟩
theorem gf_X10_25_10 {M : am_M} (hM : (am_y M).cls = RX10) : am_gf M 25 10 12 := ⟨RX10, TX10, 34, "SmellBordersModel", rfl, by decide, inX10, by rw [hM]; exact am_in (List.mem_of_getElem? (i := 706) (by decide +kernel)) rfl, Or.inl rfl⟩
theorem pf_X10_25_10 {M : am_M} (hM : (am_y M).cls = RX10) (hi : (am_y M).name = "<init>") : am_pf M 25 10 12 (.array .int) := ⟨RX10, TX10, 34, tyX10, rfl, by decide, inX10, tyX10_ok, nmX10, by rw [hM]; exact am_in (List.mem_of_getElem? (i := 706) (by decide +kernel)) rfl, by decide +kernel, Or.inr ⟨rfl, hi, hM.symm⟩⟩
theorem gf_X10_28_10 {M : am_M} (hM : (am_y M).cls = RX10) : am_gf M 28 10 13 := ⟨RX10, TX10, 34, "SmellBordersModel", rfl, by decide, inX10, by rw [hM]; exact am_in (List.mem_of_getElem? (i := 707) (by decide +kernel)) rfl, Or.inl rfl⟩
theorem pf_X10_28_10 {M : am_M} (hM : (am_y M).cls = RX10) (hi : (am_y M).name = "<init>") : am_pf M 28 10 13 (.array .int) := ⟨RX10, TX10, 34, tyX10, rfl, by decide, inX10, tyX10_ok, nmX10, by rw [hM]; exact am_in (List.mem_of_getElem? (i := 707) (by decide +kernel)) rfl, by decide +kernel, Or.inr ⟨rfl, hi, hM.symm⟩⟩
theorem gf_X10_31_10 {M : am_M} (hM : (am_y M).cls = RX10) : am_gf M 31 10 14 := ⟨RX10, TX10, 34, "SmellBordersModel", rfl, by decide, inX10, by rw [hM]; exact am_in (List.mem_of_getElem? (i := 708) (by decide +kernel)) rfl, Or.inl rfl⟩
theorem pf_X10_31_10 {M : am_M} (hM : (am_y M).cls = RX10) (hi : (am_y M).name = "<init>") : am_pf M 31 10 14 (.array .int) := ⟨RX10, TX10, 34, tyX10, rfl, by decide, inX10, tyX10_ok, nmX10, by rw [hM]; exact am_in (List.mem_of_getElem? (i := 708) (by decide +kernel)) rfl, by decide +kernel, Or.inr ⟨rfl, hi, hM.symm⟩⟩
theorem gf_X10_34_10 {M : am_M} (hM : (am_y M).cls = RX10) : am_gf M 34 10 16 := ⟨RX10, TX10, 34, "SmellBordersModel", rfl, by decide, inX10, by rw [hM]; exact am_in (List.mem_of_getElem? (i := 710) (by decide +kernel)) rfl, Or.inl rfl⟩
theorem pf_X10_34_10 {M : am_M} (hM : (am_y M).cls = RX10) (hi : (am_y M).name = "<init>") : am_pf M 34 10 16 (.array .int) := ⟨RX10, TX10, 34, tyX10, rfl, by decide, inX10, tyX10_ok, nmX10, by rw [hM]; exact am_in (List.mem_of_getElem? (i := 710) (by decide +kernel)) rfl, by decide +kernel, Or.inr ⟨rfl, hi, hM.symm⟩⟩
theorem gf_X10_37_10 {M : am_M} (hM : (am_y M).cls = RX10) : am_gf M 37 10 17 := ⟨RX10, TX10, 34, "SmellBordersModel", rfl, by decide, inX10, by rw [hM]; exact am_in (List.mem_of_getElem? (i := 711) (by decide +kernel)) rfl, Or.inl rfl⟩
theorem pf_X10_37_10 {M : am_M} (hM : (am_y M).cls = RX10) (hi : (am_y M).name = "<init>") : am_pf M 37 10 17 (.array .int) := ⟨RX10, TX10, 34, tyX10, rfl, by decide, inX10, tyX10_ok, nmX10, by rw [hM]; exact am_in (List.mem_of_getElem? (i := 711) (by decide +kernel)) rfl, by decide +kernel, Or.inr ⟨rfl, hi, hM.symm⟩⟩
theorem gf_X10_40_10 {M : am_M} (hM : (am_y M).cls = RX10) : am_gf M 40 10 20 := ⟨RX10, TX10, 34, "SmellBordersModel", rfl, by decide, inX10, by rw [hM]; exact am_in (List.mem_of_getElem? (i := 714) (by decide +kernel)) rfl, Or.inl rfl⟩
theorem pf_X10_40_10 {M : am_M} (hM : (am_y M).cls = RX10) (hi : (am_y M).name = "<init>") : am_pf M 40 10 20 (.array .int) := ⟨RX10, TX10, 34, tyX10, rfl, by decide, inX10, tyX10_ok, nmX10, by rw [hM]; exact am_in (List.mem_of_getElem? (i := 714) (by decide +kernel)) rfl, by decide +kernel, Or.inr ⟨rfl, hi, hM.symm⟩⟩
theorem gf_X10_43_10 {M : am_M} (hM : (am_y M).cls = RX10) : am_gf M 43 10 21 := ⟨RX10, TX10, 34, "SmellBordersModel", rfl, by decide, inX10, by rw [hM]; exact am_in (List.mem_of_getElem? (i := 715) (by decide +kernel)) rfl, Or.inl rfl⟩
theorem pf_X10_43_10 {M : am_M} (hM : (am_y M).cls = RX10) (hi : (am_y M).name = "<init>") : am_pf M 43 10 21 (.array .int) := ⟨RX10, TX10, 34, tyX10, rfl, by decide, inX10, tyX10_ok, nmX10, by rw [hM]; exact am_in (List.mem_of_getElem? (i := 715) (by decide +kernel)) rfl, by decide +kernel, Or.inr ⟨rfl, hi, hM.symm⟩⟩
theorem gf_X10_46_10 {M : am_M} (hM : (am_y M).cls = RX10) : am_gf M 46 10 29 := ⟨RX10, TX10, 34, "SmellBordersModel", rfl, by decide, inX10, by rw [hM]; exact am_in (List.mem_of_getElem? (i := 723) (by decide +kernel)) rfl, Or.inl rfl⟩
theorem pf_X10_46_10 {M : am_M} (hM : (am_y M).cls = RX10) (hi : (am_y M).name = "<init>") : am_pf M 46 10 29 (.array .int) := ⟨RX10, TX10, 34, tyX10, rfl, by decide, inX10, tyX10_ok, nmX10, by rw [hM]; exact am_in (List.mem_of_getElem? (i := 723) (by decide +kernel)) rfl, by decide +kernel, Or.inr ⟨rfl, hi, hM.symm⟩⟩
theorem gf_X10_49_10 {M : am_M} (hM : (am_y M).cls = RX10) : am_gf M 49 10 30 := ⟨RX10, TX10, 34, "SmellBordersModel", rfl, by decide, inX10, by rw [hM]; exact am_in (List.mem_of_getElem? (i := 724) (by decide +kernel)) rfl, Or.inl rfl⟩
theorem pf_X10_49_10 {M : am_M} (hM : (am_y M).cls = RX10) (hi : (am_y M).name = "<init>") : am_pf M 49 10 30 (.array .int) := ⟨RX10, TX10, 34, tyX10, rfl, by decide, inX10, tyX10_ok, nmX10, by rw [hM]; exact am_in (List.mem_of_getElem? (i := 724) (by decide +kernel)) rfl, by decide +kernel, Or.inr ⟨rfl, hi, hM.symm⟩⟩
theorem gf_X10_52_10 {M : am_M} (hM : (am_y M).cls = RX10) : am_gf M 52 10 31 := ⟨RX10, TX10, 34, "SmellBordersModel", rfl, by decide, inX10, by rw [hM]; exact am_in (List.mem_of_getElem? (i := 725) (by decide +kernel)) rfl, Or.inl rfl⟩
theorem pf_X10_52_10 {M : am_M} (hM : (am_y M).cls = RX10) (hi : (am_y M).name = "<init>") : am_pf M 52 10 31 (.array .int) := ⟨RX10, TX10, 34, tyX10, rfl, by decide, inX10, tyX10_ok, nmX10, by rw [hM]; exact am_in (List.mem_of_getElem? (i := 725) (by decide +kernel)) rfl, by decide +kernel, Or.inr ⟨rfl, hi, hM.symm⟩⟩
theorem gf_X10_55_10 {M : am_M} (hM : (am_y M).cls = RX10) : am_gf M 55 10 32 := ⟨RX10, TX10, 34, "SmellBordersModel", rfl, by decide, inX10, by rw [hM]; exact am_in (List.mem_of_getElem? (i := 726) (by decide +kernel)) rfl, Or.inl rfl⟩
theorem pf_X10_55_10 {M : am_M} (hM : (am_y M).cls = RX10) (hi : (am_y M).name = "<init>") : am_pf M 55 10 32 (.array .int) := ⟨RX10, TX10, 34, tyX10, rfl, by decide, inX10, tyX10_ok, nmX10, by rw [hM]; exact am_in (List.mem_of_getElem? (i := 726) (by decide +kernel)) rfl, by decide +kernel, Or.inr ⟨rfl, hi, hM.symm⟩⟩
theorem gf_X10_58_10 {M : am_M} (hM : (am_y M).cls = RX10) : am_gf M 58 10 23 := ⟨RX10, TX10, 34, "SmellBordersModel", rfl, by decide, inX10, by rw [hM]; exact am_in (List.mem_of_getElem? (i := 717) (by decide +kernel)) rfl, Or.inl rfl⟩
theorem pf_X10_58_10 {M : am_M} (hM : (am_y M).cls = RX10) : am_pf M 58 10 23 .int := ⟨RX10, TX10, 34, tyX10, rfl, by decide, inX10, tyX10_ok, nmX10, by rw [hM]; exact am_in (List.mem_of_getElem? (i := 717) (by decide +kernel)) rfl, by decide +kernel, Or.inl rfl⟩
theorem gf_X10_68_10 {M : am_M} (hM : (am_y M).cls = RX10) : am_gf M 68 10 1 := ⟨RX10, TX10, 34, "SmellBordersModel", rfl, by decide, inX10, by rw [hM]; exact am_in (List.mem_of_getElem? (i := 695) (by decide +kernel)) rfl, Or.inl rfl⟩
theorem pf_X10_68_10 {M : am_M} (hM : (am_y M).cls = RX10) : am_pf M 68 10 1 .int := ⟨RX10, TX10, 34, tyX10, rfl, by decide, inX10, tyX10_ok, nmX10, by rw [hM]; exact am_in (List.mem_of_getElem? (i := 695) (by decide +kernel)) rfl, by decide +kernel, Or.inl rfl⟩
theorem gf_X10_83_10 {M : am_M} (hM : (am_y M).cls = RX10) : am_gf M 83 10 2 := ⟨RX10, TX10, 34, "SmellBordersModel", rfl, by decide, inX10, by rw [hM]; exact am_in (List.mem_of_getElem? (i := 696) (by decide +kernel)) rfl, Or.inl rfl⟩
theorem pf_X10_83_10 {M : am_M} (hM : (am_y M).cls = RX10) : am_pf M 83 10 2 .int := ⟨RX10, TX10, 34, tyX10, rfl, by decide, inX10, tyX10_ok, nmX10, by rw [hM]; exact am_in (List.mem_of_getElem? (i := 696) (by decide +kernel)) rfl, by decide +kernel, Or.inl rfl⟩
theorem gf_X10_86_10 {M : am_M} (hM : (am_y M).cls = RX10) : am_gf M 86 10 3 := ⟨RX10, TX10, 34, "SmellBordersModel", rfl, by decide, inX10, by rw [hM]; exact am_in (List.mem_of_getElem? (i := 697) (by decide +kernel)) rfl, Or.inl rfl⟩
theorem pf_X10_86_10 {M : am_M} (hM : (am_y M).cls = RX10) : am_pf M 86 10 3 .int := ⟨RX10, TX10, 34, tyX10, rfl, by decide, inX10, tyX10_ok, nmX10, by rw [hM]; exact am_in (List.mem_of_getElem? (i := 697) (by decide +kernel)) rfl, by decide +kernel, Or.inl rfl⟩
theorem gf_X10_89_10 {M : am_M} (hM : (am_y M).cls = RX10) : am_gf M 89 10 4 := ⟨RX10, TX10, 34, "SmellBordersModel", rfl, by decide, inX10, by rw [hM]; exact am_in (List.mem_of_getElem? (i := 698) (by decide +kernel)) rfl, Or.inl rfl⟩
theorem pf_X10_89_10 {M : am_M} (hM : (am_y M).cls = RX10) : am_pf M 89 10 4 .int := ⟨RX10, TX10, 34, tyX10, rfl, by decide, inX10, tyX10_ok, nmX10, by rw [hM]; exact am_in (List.mem_of_getElem? (i := 698) (by decide +kernel)) rfl, by decide +kernel, Or.inl rfl⟩
theorem gf_X10_92_10 {M : am_M} (hM : (am_y M).cls = RX10) : am_gf M 92 10 5 := ⟨RX10, TX10, 34, "SmellBordersModel", rfl, by decide, inX10, by rw [hM]; exact am_in (List.mem_of_getElem? (i := 699) (by decide +kernel)) rfl, Or.inl rfl⟩
theorem pf_X10_92_10 {M : am_M} (hM : (am_y M).cls = RX10) : am_pf M 92 10 5 .int := ⟨RX10, TX10, 34, tyX10, rfl, by decide, inX10, tyX10_ok, nmX10, by rw [hM]; exact am_in (List.mem_of_getElem? (i := 699) (by decide +kernel)) rfl, by decide +kernel, Or.inl rfl⟩
theorem gf_X10_95_10 {M : am_M} (hM : (am_y M).cls = RX10) : am_gf M 95 10 10 := ⟨RX10, TX10, 34, "SmellBordersModel", rfl, by decide, inX10, by rw [hM]; exact am_in (List.mem_of_getElem? (i := 704) (by decide +kernel)) rfl, Or.inl rfl⟩
theorem pf_X10_95_10 {M : am_M} (hM : (am_y M).cls = RX10) : am_pf M 95 10 10 .int := ⟨RX10, TX10, 34, tyX10, rfl, by decide, inX10, tyX10_ok, nmX10, by rw [hM]; exact am_in (List.mem_of_getElem? (i := 704) (by decide +kernel)) rfl, by decide +kernel, Or.inl rfl⟩
theorem gf_X10_98_10 {M : am_M} (hM : (am_y M).cls = RX10) : am_gf M 98 10 18 := ⟨RX10, TX10, 34, "SmellBordersModel", rfl, by decide, inX10, by rw [hM]; exact am_in (List.mem_of_getElem? (i := 712) (by decide +kernel)) rfl, Or.inl rfl⟩
theorem pf_X10_98_10 {M : am_M} (hM : (am_y M).cls = RX10) : am_pf M 98 10 18 .int := ⟨RX10, TX10, 34, tyX10, rfl, by decide, inX10, tyX10_ok, nmX10, by rw [hM]; exact am_in (List.mem_of_getElem? (i := 712) (by decide +kernel)) rfl, by decide +kernel, Or.inl rfl⟩
theorem gf_X10_101_10 {M : am_M} (hM : (am_y M).cls = RX10) : am_gf M 101 10 6 := ⟨RX10, TX10, 34, "SmellBordersModel", rfl, by decide, inX10, by rw [hM]; exact am_in (List.mem_of_getElem? (i := 700) (by decide +kernel)) rfl, Or.inl rfl⟩
theorem pf_X10_101_10 {M : am_M} (hM : (am_y M).cls = RX10) : am_pf M 101 10 6 .int := ⟨RX10, TX10, 34, tyX10, rfl, by decide, inX10, tyX10_ok, nmX10, by rw [hM]; exact am_in (List.mem_of_getElem? (i := 700) (by decide +kernel)) rfl, by decide +kernel, Or.inl rfl⟩
theorem gf_X10_183_10 {M : am_M} (hM : (am_y M).cls = RX10) : am_gf M 183 10 15 := ⟨RX10, TX10, 34, "SmellBordersModel", rfl, by decide, inX10, by rw [hM]; exact am_in (List.mem_of_getElem? (i := 709) (by decide +kernel)) rfl, Or.inl rfl⟩
theorem pf_X10_183_10 {M : am_M} (hM : (am_y M).cls = RX10) : am_pf M 183 10 15 .int := ⟨RX10, TX10, 34, tyX10, rfl, by decide, inX10, tyX10_ok, nmX10, by rw [hM]; exact am_in (List.mem_of_getElem? (i := 709) (by decide +kernel)) rfl, by decide +kernel, Or.inl rfl⟩
theorem gf_X10_201_10 {M : am_M} (hM : (am_y M).cls = RX10) : am_gf M 201 10 19 := ⟨RX10, TX10, 34, "SmellBordersModel", rfl, by decide, inX10, by rw [hM]; exact am_in (List.mem_of_getElem? (i := 713) (by decide +kernel)) rfl, Or.inl rfl⟩
theorem pf_X10_201_10 {M : am_M} (hM : (am_y M).cls = RX10) : am_pf M 201 10 19 .int := ⟨RX10, TX10, 34, tyX10, rfl, by decide, inX10, tyX10_ok, nmX10, by rw [hM]; exact am_in (List.mem_of_getElem? (i := 713) (by decide +kernel)) rfl, by decide +kernel, Or.inl rfl⟩
theorem gf_X10_209_10 {M : am_M} (hM : (am_y M).cls = RX10) : am_gf M 209 10 22 := ⟨RX10, TX10, 34, "SmellBordersModel", rfl, by decide, inX10, by rw [hM]; exact am_in (List.mem_of_getElem? (i := 716) (by decide +kernel)) rfl, Or.inl rfl⟩
theorem pf_X10_209_10 {M : am_M} (hM : (am_y M).cls = RX10) : am_pf M 209 10 22 .int := ⟨RX10, TX10, 34, tyX10, rfl, by decide, inX10, tyX10_ok, nmX10, by rw [hM]; exact am_in (List.mem_of_getElem? (i := 716) (by decide +kernel)) rfl, by decide +kernel, Or.inl rfl⟩
theorem gf_X10_222_10 {M : am_M} (hM : (am_y M).cls = RX10) : am_gf M 222 10 24 := ⟨RX10, TX10, 34, "SmellBordersModel", rfl, by decide, inX10, by rw [hM]; exact am_in (List.mem_of_getElem? (i := 718) (by decide +kernel)) rfl, Or.inl rfl⟩
theorem pf_X10_222_10 {M : am_M} (hM : (am_y M).cls = RX10) : am_pf M 222 10 24 .int := ⟨RX10, TX10, 34, tyX10, rfl, by decide, inX10, tyX10_ok, nmX10, by rw [hM]; exact am_in (List.mem_of_getElem? (i := 718) (by decide +kernel)) rfl, by decide +kernel, Or.inl rfl⟩
theorem gf_X10_225_10 {M : am_M} (hM : (am_y M).cls = RX10) : am_gf M 225 10 25 := ⟨RX10, TX10, 34, "SmellBordersModel", rfl, by decide, inX10, by rw [hM]; exact am_in (List.mem_of_getElem? (i := 719) (by decide +kernel)) rfl, Or.inl rfl⟩
theorem pf_X10_225_10 {M : am_M} (hM : (am_y M).cls = RX10) : am_pf M 225 10 25 .int := ⟨RX10, TX10, 34, tyX10, rfl, by decide, inX10, tyX10_ok, nmX10, by rw [hM]; exact am_in (List.mem_of_getElem? (i := 719) (by decide +kernel)) rfl, by decide +kernel, Or.inl rfl⟩
theorem gf_X10_228_10 {M : am_M} (hM : (am_y M).cls = RX10) : am_gf M 228 10 26 := ⟨RX10, TX10, 34, "SmellBordersModel", rfl, by decide, inX10, by rw [hM]; exact am_in (List.mem_of_getElem? (i := 720) (by decide +kernel)) rfl, Or.inl rfl⟩
theorem pf_X10_228_10 {M : am_M} (hM : (am_y M).cls = RX10) : am_pf M 228 10 26 .int := ⟨RX10, TX10, 34, tyX10, rfl, by decide, inX10, tyX10_ok, nmX10, by rw [hM]; exact am_in (List.mem_of_getElem? (i := 720) (by decide +kernel)) rfl, by decide +kernel, Or.inl rfl⟩
theorem gf_X10_231_10 {M : am_M} (hM : (am_y M).cls = RX10) : am_gf M 231 10 27 := ⟨RX10, TX10, 34, "SmellBordersModel", rfl, by decide, inX10, by rw [hM]; exact am_in (List.mem_of_getElem? (i := 721) (by decide +kernel)) rfl, Or.inl rfl⟩
theorem pf_X10_231_10 {M : am_M} (hM : (am_y M).cls = RX10) : am_pf M 231 10 27 .int := ⟨RX10, TX10, 34, tyX10, rfl, by decide, inX10, tyX10_ok, nmX10, by rw [hM]; exact am_in (List.mem_of_getElem? (i := 721) (by decide +kernel)) rfl, by decide +kernel, Or.inl rfl⟩
theorem gf_X10_234_10 {M : am_M} (hM : (am_y M).cls = RX10) : am_gf M 234 10 28 := ⟨RX10, TX10, 34, "SmellBordersModel", rfl, by decide, inX10, by rw [hM]; exact am_in (List.mem_of_getElem? (i := 722) (by decide +kernel)) rfl, Or.inl rfl⟩
theorem pf_X10_234_10 {M : am_M} (hM : (am_y M).cls = RX10) : am_pf M 234 10 28 .int := ⟨RX10, TX10, 34, tyX10, rfl, by decide, inX10, tyX10_ok, nmX10, by rw [hM]; exact am_in (List.mem_of_getElem? (i := 722) (by decide +kernel)) rfl, by decide +kernel, Or.inl rfl⟩
theorem gf_X10_248_10 {M : am_M} (hM : (am_y M).cls = RX10) : am_gf M 248 10 33 := ⟨RX10, TX10, 34, "SmellBordersModel", rfl, by decide, inX10, by rw [hM]; exact am_in (List.mem_of_getElem? (i := 727) (by decide +kernel)) rfl, Or.inl rfl⟩
theorem pf_X10_248_10 {M : am_M} (hM : (am_y M).cls = RX10) : am_pf M 248 10 33 .long := ⟨RX10, TX10, 34, tyX10, rfl, by decide, inX10, tyX10_ok, nmX10, by rw [hM]; exact am_in (List.mem_of_getElem? (i := 727) (by decide +kernel)) rfl, by decide +kernel, Or.inl rfl⟩
end
section
/-! Math.max, Math.min; calls in continuation form; the law's start -/
theorem am_mxs : Cond.static Lib.Math.max.name ∈ am_T := am_in (List.mem_of_getElem? (i := 369) (by decide +kernel)) rfl
theorem am_mns : Cond.static Lib.Math.min.name ∈ am_T := am_in (List.mem_of_getElem? (i := 329) (by decide +kernel)) rfl
theorem am_mti : Cond.initialized "java/lang/Math" ∈ am_T := am_in (List.mem_of_getElem? (i := 57) (by decide +kernel)) rfl
set_option maxRecDepth 40000 in
theorem am_mxc : Cond.code Lib.Math.max.name Lib.Math.max.code 2 (some .int) ∈ am_T := am_in (List.mem_of_getElem? (i := 370) rfl) rfl
set_option maxRecDepth 40000 in
theorem am_mnc : Cond.code Lib.Math.min.name Lib.Math.min.code 2 (some .int) ∈ am_T := am_in (List.mem_of_getElem? (i := 330) rfl) rfl
/-- what the caller does with an answer -/
def am_k (M : am_M) (Q : am_P) (pc : Nat) (lv : List (Option Value)) (st : List Value) (cu su : Nat) : am_P := fun r h n => AW M Q pc lv (r.toList ++ st) h n cu su
section AMW
variable {M : am_M} {Q : am_P} {pc : Nat} {lv : List (Option Value)} {st : List Value} {h : Nat → am_E} {n cu su : Nat}
theorem r_max (pc' : Nat) (hp : pc + 3 = pc') {idx : Nat} {x y : Int32} (hd : decode (am_c M) pc = .ok (.invokestatic idx, 3)) (hl : Cond.methodLink (am_y M).cls idx Lib.Math.max.name ∈ am_T) (hfr : 1 ≤ am_fr M) (hlo : (st.map fun v => v.category).sum + 13 ≤ am_lo M) (hcu : cu ≤ am_mc M) (hsu : su ≤ am_ms M) (k : AW M Q pc' lv (.int (if x < y then y else x) :: st) h n cu su) : AW M Q pc lv (.int y :: .int x :: st) h n cu su := by
  subst hp
  intro l b base L xs D cA p e s m args below meth c H locs ls hC h0 hH hS hL
  have hts := hC.2.2.2.2.2.2.2.1
  exact va_mmax hC.1 hC.2.1 (by rw [hC.2.2.2.2.1, hL.1]) hC.2.2.2.2.2.1 (hts _ hl) (hts _ am_mxs) (hts _ am_mti) (hts _ am_mxc) hfr (by rw [am_v_sum]; exact hlo) hcu hsu hd (k l b base L xs D cA p e s m args below meth c H locs ls hC h0 hH hS hL)
theorem r_min (pc' : Nat) (hp : pc + 3 = pc') {idx : Nat} {x y : Int32} (hd : decode (am_c M) pc = .ok (.invokestatic idx, 3)) (hl : Cond.methodLink (am_y M).cls idx Lib.Math.min.name ∈ am_T) (hfr : 1 ≤ am_fr M) (hlo : (st.map fun v => v.category).sum + 13 ≤ am_lo M) (hcu : cu ≤ am_mc M) (hsu : su ≤ am_ms M) (k : AW M Q pc' lv (.int (if y < x then y else x) :: st) h n cu su) : AW M Q pc lv (.int y :: .int x :: st) h n cu su := by
  subst hp
  intro l b base L xs D cA p e s m args below meth c H locs ls hC h0 hH hS hL
  have hts := hC.2.2.2.2.2.2.2.1
  exact va_mmin hC.1 hC.2.1 (by rw [hC.2.2.2.2.1, hL.1]) hC.2.2.2.2.2.1 (hts _ hl) (hts _ am_mns) (hts _ am_mti) (hts _ am_mnc) hfr (by rw [am_v_sum]; exact hlo) hcu hsu hd (k l b base L xs D cA p e s m args below meth c H locs ls hC h0 hH hS hL)
theorem k_i {x : Int32} (k : AW M Q pc lv (.int x :: st) h n cu su) : am_k M Q pc lv st cu su (some (.int x)) h n := k
theorem k_l {x : Int64} (k : AW M Q pc lv (.long x :: st) h n cu su) : am_k M Q pc lv st cu su (some (.long x)) h n := k
theorem k_r {x : Nat} (k : AW M Q pc lv (.ref x :: st) h n cu su) : am_k M Q pc lv st cu su (some (.ref x)) h n := k
theorem k_n (k : AW M Q pc lv (.null :: st) h n cu su) : am_k M Q pc lv st cu su (some .null) h n := k
theorem k_v (k : AW M Q pc lv st h n cu su) : am_k M Q pc lv st cu su none h n := k
theorem q_S (pc' cu' su' : Nat) (hp : pc + 3 = pc') {N : am_M} {idx : Nat} (As : List Value) {st0 : List Value} (hst : st0 = As.reverse ++ st) (hd : decode (am_c M) pc = .ok (.invokestatic idx, 3)) (hcl : am_cl M N As.length) (hlk : Cond.methodLink (am_y M).cls idx (am_y N) ∈ am_T) (hsx : Cond.static (am_y N) ∈ am_T)
    (h8 : (st.map fun v => v.category).sum ≤ 8) (hlen : ∀ b base, (lg_sl (As.map (am_v b base))).length ≤ am_l N) (hcu : cu + am_mc N = cu') (hsu : su + am_ms N = su') (hcm : cu' ≤ am_mc M) (hsm : su' ≤ am_ms M) (hc : AW N (am_k M Q pc' lv st cu' su') 0 (am_ent (am_l N) As) [] h n 0 0) : AW M Q pc lv st0 h n cu su := by
  subst hcu; subst hsu
  exact r_callS pc' hp As hst hd hcl hlk hsx h8 hlen ⟨hcm, hsm⟩ hc (fun r h' n' q => q)
theorem q_I (pc' cu' su' : Nat) (hp : pc + 3 = pc') {N : am_M} {idx a : Nat} (As : List Value) {st0 : List Value} (hst : st0 = As.reverse ++ .ref a :: st) (hd : decode (am_c M) pc = .ok (.invokespecial idx, 3)) (hcl : am_cl M N As.length) (hlk : Cond.methodLink (am_y M).cls idx (am_y N) ∈ am_T) (hsx : Cond.instanceMethod (am_y N) ∈ am_T) (hnm : (am_y N).name = "<init>") (hrt : am_r N = none)
    (h8 : (st.map fun v => v.category).sum ≤ 8) (hlen : ∀ b base, (lg_sl ((.ref a :: As).map (am_v b base))).length ≤ am_l N) (hcu : cu + am_mc N = cu') (hsu : su + am_ms N = su') (hcm : cu' ≤ am_mc M) (hsm : su' ≤ am_ms M) (hc : AW N (am_k M Q pc' lv st cu' su') 0 (am_ent (am_l N) (.ref a :: As)) [] h n 0 0) : AW M Q pc lv st0 h n cu su := by
  subst hcu; subst hsu
  exact r_callI pc' hp As hst hd hcl hlk hsx hnm hrt h8 hlen ⟨hcm, hsm⟩ hc (fun r h' n' q => q)
theorem q_N (pc' cu' su' : Nat) (hp : pc + 3 = pc') {N : am_M} {idx a : Nat} (As : List Value) {st0 : List Value} (hst : st0 = As.reverse ++ .ref a :: st) (hd : decode (am_c M) pc = .ok (.invokespecial idx, 3)) (hcl : am_cl M N As.length) (hmy : (am_y M).cls = RX9) (hlk : (idx, am_y N) ∈ am_nn) (hsx : Cond.instanceMethod (am_y N) ∈ am_T) (hnm : (am_y N).name = "<init>") (hrt : am_r N = none)
    (h8 : (st.map fun v => v.category).sum ≤ 8) (hlen : ∀ b base, (lg_sl ((.ref a :: As).map (am_v b base))).length ≤ am_l N) (hcu : cu + am_mc N = cu') (hsu : su + am_ms N = su') (hcm : cu' ≤ am_mc M) (hsm : su' ≤ am_ms M) (hc : AW N (am_k M Q pc' lv st cu' su') 0 (am_ent (am_l N) (.ref a :: As)) [] h n 0 0) : AW M Q pc lv st0 h n cu su := by
  subst hcu; subst hsu
  exact r_callN pc' hp As hst hd hcl hmy hlk hsx hnm hrt h8 hlen ⟨hcm, hsm⟩ hc (fun r h' n' q => q)
theorem q_V (pc' cu' su' : Nat) (hp : pc + 3 = pc') {N : am_M} {idx a ci : Nat} {fs : List Value} {C : vw_C} (As : List Value) {st0 : List Value} (hst : st0 = As.reverse ++ .ref a :: st) (hd : decode (am_c M) pc = .ok (.invokevirtual idx, 3)) (hcl : am_cl M N As.length) (hlk : Cond.methodLink (am_y M).cls idx (am_y N) ∈ am_T) (hsx : Cond.instanceMethod (am_y N) ∈ am_T) (hr : vwCl[ci]? = some C) (hsl : Cond.selects C.1 (am_y N) (am_y N) ∈ am_T) (he : h a = .inr (.inr (ci, fs)))
    (h8 : (st.map fun v => v.category).sum ≤ 8) (hlen : ∀ b base, (lg_sl ((.ref a :: As).map (am_v b base))).length ≤ am_l N) (hcu : cu + am_mc N = cu') (hsu : su + am_ms N = su') (hcm : cu' ≤ am_mc M) (hsm : su' ≤ am_ms M) (hc : AW N (am_k M Q pc' lv st cu' su') 0 (am_ent (am_l N) (.ref a :: As)) [] h n 0 0) : AW M Q pc lv st0 h n cu su := by
  subst hcu; subst hsu
  exact r_callV pc' hp As hst hd hcl hlk hsx hr hsl he h8 hlen ⟨hcm, hsm⟩ hc (fun r h' n' q => q)
theorem q_U (pc' cu' su' : Nat) (hp : pc + 3 = pc') {N X : am_M} {idx a ci : Nat} {fs : List Value} {C : vw_C} (As : List Value) {st0 : List Value} (hst : st0 = As.reverse ++ .ref a :: st) (hd : decode (am_c M) pc = .ok (.invokevirtual idx, 3)) (hcl : am_cl M N As.length) (hlk : Cond.methodLink (am_y M).cls idx (am_y X) ∈ am_T) (hsm0 : Cond.sameMethod (am_y X).cls (am_y X).cls (am_y X).name (am_y X).desc ∈ am_T) (hxi : Cond.instanceMethod (am_y X) ∈ am_T) (hxc : Cond.code (am_y X) (am_c X) (am_l X) (am_r X) ∈ am_T) (hdx : (am_y X).cls ≠ "java/lang/invoke/MethodHandle" ∧ (am_y X).cls ≠ "java/lang/invoke/VarHandle" ∧ (parseMethodDescriptor (am_y X).desc).map (fun d => d.parameters.length) = some As.length) (hsx : Cond.instanceMethod (am_y N) ∈ am_T) (hr : vwCl[ci]? = some C) (hsl : Cond.selects C.1 (am_y X) (am_y N) ∈ am_T) (he : h a = .inr (.inr (ci, fs)))
    (h8 : (st.map fun v => v.category).sum ≤ 8) (hlen : ∀ b base, (lg_sl ((.ref a :: As).map (am_v b base))).length ≤ am_l N) (hcu : cu + am_mc N = cu') (hsu : su + am_ms N = su') (hcm : cu' ≤ am_mc M) (hsm : su' ≤ am_ms M) (hc : AW N (am_k M Q pc' lv st cu' su') 0 (am_ent (am_l N) (.ref a :: As)) [] h n 0 0) : AW M Q pc lv st0 h n cu su := by
  subst hcu; subst hsu
  exact r_callU pc' hp As hst hd hcl hlk hsm0 hxi hxc hdx hsx hr hsl he h8 hlen ⟨hcm, hsm⟩ hc (fun r h' n' q => q)
theorem up_s {k : Nat} {e : am_E} : va_up h k e k = e := va_up_self h k e
theorem up_n {k j : Nat} {e e' : am_E} (hne : j ≠ k) (hr : h j = e') : va_up h k e j = e' := (va_up_ne h e hne).trans hr
end AMW
/-- the law's first heap -/
def am_h0 (L : Nat) (xs : Nat → Int32) : Nat → am_E := fun k => if k = 0 then .inl (0, L, xs) else am_0
end
section
/-! the law's world: place k <= 53 holds what m k says; z: the script, the row of sources, the cells beyond, the model's hash -/
abbrev am_Z : Type := (Nat × (Nat → Int32)) × (Nat → Option Nat) × (Nat → am_E) × Int64
def wc (k : Nat) (f : Nat → Int32) (z : am_Z) : am_E := match k with
  | 1 => .inr (.inr (9, [.ref 2, .ref 4, .ref 6, .ref 7, .ref 14, .ref 21, .ref 28, .ref 33, .ref 34, .ref 35, .ref 36, .int (f 11), .int (f 12), .int (f 13), .int (f 14)]))
  | 2 => .inr (.inr (3, [.ref 3, .int (f 1)]))
  | 3 => .inl (0, 14, f)
  | 4 => .inr (.inr (7, [.ref 5, .int (f 1), .int (f 2)]))
  | 5 => .inl (0, 8, f)
  | 6 => .inr (.inl (6, z.2.1))
  | 7 => .inr (.inr (5, [.int (f 0), .ref 8, .ref 9, .int (f 3), .int (f 4), .int (f 5), .ref 10, .ref 11, .int (f 8), .ref 12, .ref 13]))
  | 8 => .inl (1, 6, f)
  | 9 => .inl (0, 6, f)
  | 10 => .inl (0, 8, f)
  | 11 => .inl (0, 3, f)
  | 12 => .inl (0, 8, f)
  | 13 => .inl (0, 8, f)
  | 14 => .inr (.inr (5, [.int (f 0), .ref 15, .ref 16, .int (f 3), .int (f 4), .int (f 5), .ref 17, .ref 18, .int (f 8), .ref 19, .ref 20]))
  | 15 => .inl (1, 6, f)
  | 16 => .inl (0, 6, f)
  | 17 => .inl (0, 8, f)
  | 18 => .inl (0, 3, f)
  | 19 => .inl (0, 8, f)
  | 20 => .inl (0, 8, f)
  | 21 => .inr (.inr (5, [.int (f 0), .ref 22, .ref 23, .int (f 3), .int (f 4), .int (f 5), .ref 24, .ref 25, .int (f 8), .ref 26, .ref 27]))
  | 22 => .inl (1, 6, f)
  | 23 => .inl (0, 6, f)
  | 24 => .inl (0, 8, f)
  | 25 => .inl (0, 3, f)
  | 26 => .inl (0, 8, f)
  | 27 => .inl (0, 8, f)
  | 28 => .inr (.inr (0, [.ref 29, .ref 30, .ref 31, .ref 32]))
  | 29 => .inl (0, 8, f)
  | 30 => .inl (0, 8, f)
  | 31 => .inl (0, 8, f)
  | 32 => .inl (0, 8, f)
  | 33 => .inl (0, 8, f)
  | 34 => .inl (0, 8, f)
  | 35 => .inl (0, 8, f)
  | 36 => .inl (0, 32, f)
  | 37 => .inr (.inr (10, [.ref 38, .int (f 1), .int (f 2), .int (f 3), .int (f 4), .int (f 5), .int (f 6), .ref 39, .ref 40, .ref 41, .int (f 10), .ref 42, .ref 43, .ref 44, .ref 45, .int (f 15), .ref 46, .ref 47, .int (f 18), .int (f 19), .ref 48, .ref 49, .int (f 22), .int (f 23), .int (f 24), .int (f 25), .int (f 26), .int (f 27), .int (f 28), .ref 50, .ref 51, .ref 52, .ref 53, .long z.2.2.2]))
  | 38 => .inl (0, 14, f)
  | 39 => .inl (0, 8, f)
  | 40 => .inl (0, 8, f)
  | 41 => .inl (0, 3, f)
  | 42 => .inl (0, 42, f)
  | 43 => .inl (0, 8, f)
  | 44 => .inl (0, 8, f)
  | 45 => .inl (0, 8, f)
  | 46 => .inl (0, 8, f)
  | 47 => .inl (0, 42, f)
  | 48 => .inl (0, 16, f)
  | 49 => .inl (0, 32, f)
  | 50 => .inl (0, 42, f)
  | 51 => .inl (0, 8, f)
  | 52 => .inl (0, 3, f)
  | 53 => .inl (0, 16, f)
  | _ => .inl (0, 0, f)
def wd (z : am_Z) (m : Nat → Nat → Int32) : Nat → am_E := fun k => if k = 0 then .inl (0, z.1.1, z.1.2) else if k ≤ 53 then wc k (m k) z else z.2.2.1 k
theorem wd_up {z : am_Z} {m : Nat → Nat → Int32} {a : Nat} {f : Nat → Int32} {e : am_E} (h0 : 0 < a) (h1 : a ≤ 53) (he : wc a f z = e) : va_up (wd z m) a e = wd z (va_up m a f) := by
  subst he
  funext k
  by_cases hk : k = a
  · subst hk
    rw [va_up_self]
    unfold wd
    rw [if_neg (by omega), if_pos h1, va_up_self]
  · rw [va_up_ne _ _ hk]
    unfold wd
    rw [va_up_ne _ _ hk]
section AMZ
variable {M : am_M} {Q : am_P} {pc : Nat} {lv : List (Option Value)} {st : List Value} {z : am_Z} {m : Nat → Nat → Int32} {n cu su : Nat}
theorem w_iast (pc' : Nat) (hp : pc + 1 = pc') {a N : Nat} {i x : Int32} (j : Nat) (m' : Nat → Nat → Int32) (hd : decode (am_c M) pc = .ok (.iastore, 1)) (h0 : 0 < a) (h1 : a ≤ 53) (he : ∀ f, wc a f z = .inl (0, N, f)) (hi : i = nI j) (hj : j < N) (hN : N < 2 ^ 31) (hm : va_up m a (upd (m a) j x) = m') (kk : AW M Q pc' lv st (wd z m') n cu su) : AW M Q pc lv (.int x :: .int i :: .ref a :: st) (wd z m) n cu su := by
  subst hm
  refine r_iast pc' hp (f := m a) j hd h0 ?_ hi hj hN ?_
  · unfold wd
    rw [if_neg (by omega), if_pos h1]
    exact he _
  · rw [wd_up h0 h1 (he _)]
    exact kk
theorem w_zast (pc' : Nat) (hp : pc + 1 = pc') {a N : Nat} {i x : Int32} (j : Nat) (m' : Nat → Nat → Int32) (hd : decode (am_c M) pc = .ok (.bastore, 1)) (h0 : 0 < a) (h1 : a ≤ 53) (he : ∀ f, wc a f z = .inl (1, N, f)) (hi : i = nI j) (hj : j < N) (hN : N < 2 ^ 31) (hx : narrow .boolean (.int x) = .int x) (hm : va_up m a (upd (m a) j x) = m') (kk : AW M Q pc' lv st (wd z m') n cu su) : AW M Q pc lv (.int x :: .int i :: .ref a :: st) (wd z m) n cu su := by
  subst hm
  refine r_zast pc' hp (f := m a) j hd h0 ?_ hi hj hN hx ?_
  · unfold wd
    rw [if_neg (by omega), if_pos h1]
    exact he _
  · rw [wd_up h0 h1 (he _)]
    exact kk
theorem w_putf (pc' : Nat) (hp : pc + 3 = pc') {idx ci k a : Nat} {ty : FieldType} {x : Int32} {fs : List Value} (m' : Nat → Nat → Int32) (hd : decode (am_c M) pc = .ok (.putfield idx, 3)) (hg : am_pf M idx ci k ty) (h0 : 0 < a) (h1 : a ≤ 53) (he : wc a (m a) z = .inr (.inr (ci, fs))) (hl : k < fs.length) (hf : wc a (upd (m a) k x) z = .inr (.inr (ci, fs.set k (.int x)))) (hv : narrow ty (.int x) = .int x ∧ fits ty (.int x) = true) (hm : va_up m a (upd (m a) k x) = m')
    (kk : AW M Q pc' lv st (wd z m') n cu su) : AW M Q pc lv (.int x :: .ref a :: st) (wd z m) n cu su := by
  subst hm
  refine r_putf pc' hp (fs := fs) (fs.set k (.int x)) hd hg ?_ hl rfl (fun _ _ => hv) ?_
  · unfold wd
    rw [if_neg (by omega), if_pos h1]
    exact he
  · rw [wd_up h0 h1 hf]
    exact kk
end AMZ
end
section
/-! pure words -/
theorem j_lt {x y : Int32} (h : x.toInt < y.toInt) : x < y := Int32.lt_iff_toInt_lt.mpr h
theorem j_nlt {x y : Int32} (h : y.toInt ≤ x.toInt) : ¬ x < y := fun q => absurd (Int32.lt_iff_toInt_lt.mp q) (by omega)
theorem lgc_lt {x y : Int64} (h : x.toInt < y.toInt) : lg_cmp x y < 0 := by
  have h1 : ¬ y < x := fun q => by have := Int64.lt_iff_toInt_lt.mp q; omega
  have h2 : ¬ x = y := fun q => by subst q; omega
  simp [lg_cmp, h1, h2]
  try decide
theorem lgc_nlt {x y : Int64} (h : y.toInt ≤ x.toInt) : ¬ lg_cmp x y < 0 := by
  by_cases h1 : y < x
  · simp [lg_cmp, h1]; try decide
  · have h2 : x = y := Int64.toInt_inj.mp (by have : ¬ y.toInt < x.toInt := fun q => h1 (Int64.lt_iff_toInt_lt.mpr q); omega)
    subst h2
    simp [lg_cmp]
theorem lgc_gt {x y : Int64} (h : y.toInt < x.toInt) : 0 < lg_cmp x y := by
  have h1 : y < x := Int64.lt_iff_toInt_lt.mpr h
  simp [lg_cmp, h1]
  try decide
theorem lgc_ngt {x y : Int64} (h : x.toInt ≤ y.toInt) : ¬ 0 < lg_cmp x y := by
  have h1 : ¬ y < x := fun q => by have := Int64.lt_iff_toInt_lt.mp q; omega
  by_cases h2 : x = y
  · subst h2
    simp [lg_cmp]
  · simp [lg_cmp, h1, h2]
    try decide
/-- the places that may differ -/
def ag (S : List Nat) (m m' : Nat → Nat → Int32) : Prop := ∀ k, k ∉ S → m' k = m k
theorem ag_r (S : List Nat) (m : Nat → Nat → Int32) : ag S m m := fun _ _ => rfl
theorem ag_up {S : List Nat} {m m' : Nat → Nat → Int32} {a : Nat} {f : Nat → Int32} (h : ag S m m') (ha : a ∈ S) : ag S m (va_up m' a f) := fun k hk => by
  have hne : k ≠ a := fun q => hk (by rw [q]; exact ha)
  rw [va_up_ne _ _ hne]
  exact h k hk
theorem ag_t {S T : List Nat} {m m' m'' : Nat → Nat → Int32} (h : ag S m m') (h' : ag T m' m'') (hT : ∀ k, k ∈ T → k ∈ S) : ag S m m'' := fun k hk => (h' k (fun q => hk (hT k q))).trans (h k hk)
theorem ag_w {S T : List Nat} {m m' : Nat → Nat → Int32} (h : ag S m m') (hT : ∀ k, k ∈ S → k ∈ T) : ag T m m' := fun k hk => h k (fun q => hk (hT k q))
/-- a row whose first i places are filled anew -/
def fil (G F : Nat → Int32) (i : Nat) : Nat → Int32 := fun j => if j < i then G j else F j
theorem fil_0 (G F : Nat → Int32) : fil G F 0 = F := by funext j; simp [fil]
theorem fil_s {G F : Nat → Int32} {i : Nat} {v : Int32} (h : v = G i) : upd (fil G F i) i v = fil G F (i + 1) := by
  subst h
  funext j
  unfold fil upd
  by_cases h1 : j = i
  · subst h1
    simp
  · by_cases h2 : j < i
    · simp [h1, h2, Nat.lt_succ_of_lt h2]
    · have h3 : ¬ j < i + 1 := by omega
      simp [h1, h2, h3]
theorem fil_at {G F : Nat → Int32} {i j : Nat} (h : j < i) : fil G F i j = G j := by simp [fil, h]
/-- which sign fits where -/
def pg_fit (p : Nat) (c : Int32) : Bool := if p = 4 then c == 47 else if p = 9 then c == 59 else if p = 10 then decide (49 ≤ c) && decide (c ≤ 51) else if p < 10 then c == 46 || c == 35 || c == 119 else false
/-- the first place from i on, of d places, whose sign doesn't fit -/
def pg_fw (f : Nat → Int32) : Nat → Nat → Nat
  | 0, i => i
  | d + 1, i => if pg_fit i (f i) = true then pg_fw f d (i + 1) else i
theorem pg_fw_congr {f g : Nat → Int32} : ∀ (d i : Nat), (∀ j, i ≤ j → j < i + d → f j = g j) → pg_fw f d i = pg_fw g d i
  | 0, _, _ => rfl
  | d + 1, i, h => by
    unfold pg_fw
    rw [h i (Nat.le_refl i) (by omega), pg_fw_congr d (i + 1) (fun j h1 h2 => h j (by omega) (by omega))]
theorem pg_fw_le (f : Nat → Int32) : ∀ (d i : Nat), i ≤ pg_fw f d i ∧ pg_fw f d i ≤ i + d
  | 0, _ => ⟨Nat.le_refl _, Nat.le_refl _⟩
  | d + 1, i => by
    unfold pg_fw
    have := pg_fw_le f d (i + 1)
    split <;> omega
/-- if none is wrong, all fit -/
theorem pg_fw_all {f : Nat → Int32} : ∀ (d i : Nat), pg_fw f d i = i + d → ∀ j, i ≤ j → j < i + d → pg_fit j (f j) = true
  | 0, _, _, j, h1, h2 => by omega
  | d + 1, i, h, j, h1, h2 => by
    unfold pg_fw at h
    split at h
    · rename_i hf
      by_cases hj : j = i
      · subst hj; exact hf
      · exact pg_fw_all d (i + 1) (by omega) j (by omega) (by omega)
    · omega
/-- what a sign makes of a cell -/
def pg_gr (c : Int32) : Int32 := if c = 35 then 1 else if c = 119 then 2 else 0
def pg_pl (c : Nat) : Nat := if c < 4 then c else c + 1
/-- how many of the first i places hold 0 -/
def cnt0 (f : Nat → Int32) : Nat → Nat
  | 0 => 0
  | i + 1 => cnt0 f i + (if f i = 0 then 1 else 0)
theorem cnt0_le (f : Nat → Int32) : ∀ i, cnt0 f i ≤ i
  | 0 => Nat.le_refl 0
  | i + 1 => by
    unfold cnt0
    have := cnt0_le f i
    split <;> omega
theorem cnt0_congr {f g : Nat → Int32} : ∀ i, (∀ j, j < i → f j = g j) → cnt0 f i = cnt0 g i
  | 0, _ => rfl
  | i + 1, h => by
    unfold cnt0
    rw [cnt0_congr i (fun j hj => h j (by omega)), h i (by omega)]
end
section
set_option maxHeartbeats 4000000 in
set_option maxRecDepth 20000 in
theorem c_isFull_f {Q : am_P} {z : am_Z} {m : Nat → Nat → Int32} {n : Nat} {pm : Nat} (hpm : m 2 1 = nI pm) (hpl : pm ≤ 14) (hf : pm < 14) (k : Q (some (.int 0)) (wd z m) n) : AW mX3_isFull Q 0 (am_ent (am_l mX3_isFull) [.ref 2]) [] (wd z m) n 0 0 := by
  show AW _ _ 0 [some (.ref 2)] [] _ _ 0 0
  refine r_aload_n 1 rfl 0 dX3_isFull_0 rfl rfl ?_
  refine r_getf (v := .int ((m 2) 1)) (k := 1) 4 rfl dX3_isFull_1 (gf_X3_15_3 rfl) rfl rfl ?_
  rw [show (m 2) 1 = nI pm from hpm]
  refine r_bipush 6 rfl 14 dX3_isFull_4 (by decide) ?_
  refine r_icmp_lt 9 13 rfl dX3_isFull_6 rfl (fun _ => ?_) (fun q => absurd ((nI_ltI (a := pm) (b := 14) (by omega) (by omega)).mpr (by omega)) q)
  refine r_iconst 14 rfl 0 dX3_isFull_13 rfl ?_
  refine r_zreturn rfl rfl dX3_isFull_14 (Nat.le_of_ble_eq_true rfl) (Nat.le_of_ble_eq_true rfl) ?_
  exact k

set_option maxHeartbeats 4000000 in
set_option maxRecDepth 20000 in
theorem c_isFull_t {Q : am_P} {z : am_Z} {m : Nat → Nat → Int32} {n : Nat} {pm : Nat} (hpm : m 2 1 = nI pm) (hpl : pm ≤ 14) (hf : pm = 14) (k : Q (some (.int 1)) (wd z m) n) : AW mX3_isFull Q 0 (am_ent (am_l mX3_isFull) [.ref 2]) [] (wd z m) n 0 0 := by
  show AW _ _ 0 [some (.ref 2)] [] _ _ 0 0
  refine r_aload_n 1 rfl 0 dX3_isFull_0 rfl rfl ?_
  refine r_getf (v := .int ((m 2) 1)) (k := 1) 4 rfl dX3_isFull_1 (gf_X3_15_3 rfl) rfl rfl ?_
  rw [show (m 2) 1 = nI pm from hpm]
  refine r_bipush 6 rfl 14 dX3_isFull_4 (by decide) ?_
  refine r_icmp_lt 9 13 rfl dX3_isFull_6 rfl (fun q => absurd q (fun q => absurd ((nI_ltI (a := pm) (b := 14) (by omega) (by omega)).mp q) (by omega))) (fun _ => ?_)
  refine r_iconst 10 rfl 1 dX3_isFull_9 rfl ?_
  refine r_goto 14 dX3_isFull_10 rfl ?_
  refine r_zreturn rfl rfl dX3_isFull_14 (Nat.le_of_ble_eq_true rfl) (Nat.le_of_ble_eq_true rfl) ?_
  exact k

set_option maxHeartbeats 4000000 in
set_option maxRecDepth 20000 in
theorem c_X9_blank {Q : am_P} {z : am_Z} {m : Nat → Nat → Int32} {n : Nat}  (k : Q (some (.int (m 2 1))) (wd z (va_up m 2 (upd (m 2) 1 0))) n) : AW mX9_blank Q 0 (am_ent (am_l mX9_blank) [.ref 1]) [] (wd z m) n 0 0 := by
  show AW _ _ 0 [some (.ref 1), none] [] _ _ 0 0
  refine r_aload_n 1 rfl 0 dX9_blank_0 rfl rfl ?_
  refine r_getf (v := .ref 2) (k := 0) 4 rfl dX9_blank_1 (gf_X9_12_9 rfl) rfl rfl ?_
  refine r_getf (v := .int ((m 2) 1)) (k := 1) 7 rfl dX9_blank_4 (gf_X9_70_3 rfl) rfl rfl ?_
  refine r_istore_n 8 rfl 1 [some (.ref 1), some (.int ((m 2) 1))] dX9_blank_7 rfl (by decide) rfl ?_
  refine r_aload_n 9 rfl 0 dX9_blank_8 rfl rfl ?_
  refine r_getf (v := .ref 2) (k := 0) 12 rfl dX9_blank_9 (gf_X9_12_9 rfl) rfl rfl ?_
  refine r_iconst 13 rfl 0 dX9_blank_12 rfl ?_
  refine w_putf 16 rfl (k := 1) (va_up m 2 (upd (m 2) 1 0)) dX9_blank_13 (pf_X9_70_3 rfl) (by decide) (by decide) rfl (Nat.le_of_ble_eq_true rfl) rfl ⟨rfl, rfl⟩ rfl ?_
  refine r_iload_n 17 rfl 1 dX9_blank_16 rfl rfl ?_
  refine r_ireturn rfl dX9_blank_17 (Nat.le_of_ble_eq_true rfl) (Nat.le_of_ble_eq_true rfl) ?_
  exact k

set_option maxHeartbeats 4000000 in
set_option maxRecDepth 20000 in
theorem c_isParish_f {Q : am_P} {z : am_Z} {m : Nat → Nat → Int32} {n : Nat} {p : Int32} (hp : p.toInt < 0 ∨ 3 ≤ p.toInt) (k : Q (some (.int 0)) (wd z m) n) : AW mX9_isParish Q 0 (am_ent (am_l mX9_isParish) [.int p]) [] (wd z m) n 0 0 := by
  show AW _ _ 0 [some (.int p)] [] _ _ 0 0
  refine r_iload_n 1 rfl 0 dX9_isParish_0 rfl rfl ?_
  refine r_if_lt 4 13 rfl dX9_isParish_1 rfl (fun c1 => ?_) (fun c1 => ?_)
  · replace c1 : p.toInt < (0 : Int) := Int32.lt_iff_toInt_lt.mp c1
    refine r_iconst 14 rfl 0 dX9_isParish_13 rfl ?_
    refine r_zreturn rfl rfl dX9_isParish_14 (Nat.le_of_ble_eq_true rfl) (Nat.le_of_ble_eq_true rfl) ?_
    exact k
  · replace c1 : ¬ p.toInt < (0 : Int) := fun q => c1 (Int32.lt_iff_toInt_lt.mpr q)
    refine r_iload_n 5 rfl 0 dX9_isParish_4 rfl rfl ?_
    refine r_iconst 6 rfl 3 dX9_isParish_5 rfl ?_
    refine r_icmp_ge 9 13 rfl dX9_isParish_6 rfl (fun c6 => ?_) (fun c6 => ?_)
    · replace c6 : (3 : Int) ≤ p.toInt := Int32.le_iff_toInt_le.mp c6
      refine r_iconst 14 rfl 0 dX9_isParish_13 rfl ?_
      refine r_zreturn rfl rfl dX9_isParish_14 (Nat.le_of_ble_eq_true rfl) (Nat.le_of_ble_eq_true rfl) ?_
      exact k
    · replace c6 : ¬ (3 : Int) ≤ p.toInt := fun q => c6 (Int32.le_iff_toInt_le.mpr q)
      exfalso; omega

set_option maxHeartbeats 4000000 in
set_option maxRecDepth 20000 in
theorem c_isParish_t {Q : am_P} {z : am_Z} {m : Nat → Nat → Int32} {n : Nat} {p : Nat} (hp : p < 3) (k : Q (some (.int 1)) (wd z m) n) : AW mX9_isParish Q 0 (am_ent (am_l mX9_isParish) [.int (nI p)]) [] (wd z m) n 0 0 := by
  show AW _ _ 0 [some (.int (nI p))] [] _ _ 0 0
  refine r_iload_n 1 rfl 0 dX9_isParish_0 rfl rfl ?_
  refine r_if_lt 4 13 rfl dX9_isParish_1 rfl (fun q => absurd q (fun q => absurd ((nI_ltI (a := p) (b := 0) (by omega) (by omega)).mp q) (by omega))) (fun _ => ?_)
  refine r_iload_n 5 rfl 0 dX9_isParish_4 rfl rfl ?_
  refine r_iconst 6 rfl 3 dX9_isParish_5 rfl ?_
  refine r_icmp_ge 9 13 rfl dX9_isParish_6 rfl (fun q => absurd q (fun q => absurd ((nI_leI (a := 3) (b := p) (by omega) (by omega)).mp q) (by omega))) (fun _ => ?_)
  refine r_iconst 10 rfl 1 dX9_isParish_9 rfl ?_
  refine r_goto 14 dX9_isParish_10 rfl ?_
  refine r_zreturn rfl rfl dX9_isParish_14 (Nat.le_of_ble_eq_true rfl) (Nat.le_of_ble_eq_true rfl) ?_
  exact k

set_option maxHeartbeats 4000000 in
set_option maxRecDepth 20000 in
theorem c_X3_append {Q : am_P} {z : am_Z} {m : Nat → Nat → Int32} {n : Nat} {pm : Nat} (hpm : m 2 1 = nI pm) (hpl : pm ≤ 14) (hf : pm < 14) {c : Int32} (k : Q none (wd z (va_up (va_up m 2 (upd (m 2) 1 (nI (pm + 1)))) 3 (upd (m 3) pm c))) n) : AW mX3_append Q 0 (am_ent (am_l mX3_append) [.ref 2, .int c]) [] (wd z m) n 0 0 := by
  show AW _ _ 0 [some (.ref 2), some (.int c)] [] _ _ 0 0
  refine r_aload_n 1 rfl 0 dX3_append_0 rfl rfl ?_
  refine q_V 4 0 0 rfl [] rfl dX3_append_1 cl_X3_append__X3_isFull (lk_X3_19 rfl) im_X3_isFull (ci := 3) rfl sl_X3__X3_isFull rfl (Nat.le_of_ble_eq_true rfl) (fun _ _ => Nat.le_of_ble_eq_true rfl) rfl rfl (Nat.le_of_ble_eq_true rfl) (Nat.le_of_ble_eq_true rfl) ?_
  refine c_isFull_f hpm hpl hf (k_i ?_)
  refine r_if_ne 7 24 rfl dX3_append_4 rfl (fun q => absurd (by decide) q) (fun _ => ?_)
  refine r_aload_n 8 rfl 0 dX3_append_7 rfl rfl ?_
  refine r_getf (v := .ref 3) (k := 0) 11 rfl dX3_append_8 (gf_X3_11_3 rfl) rfl rfl ?_
  refine r_aload_n 12 rfl 0 dX3_append_11 rfl rfl ?_
  refine r_dup 13 rfl dX3_append_12 rfl ?_
  refine r_getf (v := .int ((m 2) 1)) (k := 1) 16 rfl dX3_append_13 (gf_X3_15_3 rfl) rfl rfl ?_
  rw [show (m 2) 1 = nI pm from hpm]
  refine r_dup_x1 17 rfl dX3_append_16 rfl rfl ?_
  refine r_iconst 18 rfl 1 dX3_append_17 rfl ?_
  refine r_iadd 19 rfl dX3_append_18 ?_
  rw [show (nI pm) + 1 = nI (pm + 1) from nI_add pm 1]
  refine w_putf 22 rfl (k := 1) (va_up m 2 (upd (m 2) 1 (nI (pm + 1)))) dX3_append_19 (pf_X3_15_3 rfl) (by decide) (by decide) rfl (Nat.le_of_ble_eq_true rfl) rfl ⟨rfl, rfl⟩ rfl ?_
  refine r_iload_n 23 rfl 1 dX3_append_22 rfl rfl ?_
  refine w_iast 24 rfl pm (va_up (va_up m 2 (upd (m 2) 1 (nI (pm + 1)))) 3 (upd (m 3) pm c)) dX3_append_23 (by decide) (by decide) (fun _ => rfl) rfl (by omega) (by decide) rfl ?_
  refine r_return rfl dX3_append_24 (Nat.le_of_ble_eq_true rfl) (Nat.le_of_ble_eq_true rfl) ?_
  exact k
end
section
set_option maxHeartbeats 4000000 in
set_option maxRecDepth 20000 in
theorem c_in_t {Q : am_P} {h : Nat → am_E} {n : Nat} {v lo hi : Int64} (h1 : lo.toInt ≤ v.toInt) (h2 : v.toInt ≤ hi.toInt) (k : Q (some (.int 1)) h n) : AW mX10_in Q 0 (am_ent (am_l mX10_in) [.long v, .long lo, .long hi]) [] (h) n 0 0 := by
  show AW _ _ 0 [some (.long v), none, some (.long lo), none, some (.long hi), none] [] _ _ 0 0
  refine r_lload_n 1 rfl 0 dX10_in_0 rfl rfl ?_
  refine r_lload_n 2 rfl 2 dX10_in_1 rfl rfl ?_
  refine r_lcmp 3 rfl dX10_in_2 ?_
  refine r_if_lt 6 17 rfl dX10_in_3 rfl (fun q => absurd q (lgc_nlt h1)) (fun _ => ?_)
  refine r_lload_n 7 rfl 0 dX10_in_6 rfl rfl ?_
  refine r_lload 9 rfl dX10_in_7 rfl ?_
  refine r_lcmp 10 rfl dX10_in_9 ?_
  refine r_if_gt 13 17 rfl dX10_in_10 rfl (fun q => absurd q (lgc_ngt h2)) (fun _ => ?_)
  refine r_iconst 14 rfl 1 dX10_in_13 rfl ?_
  refine r_goto 18 dX10_in_14 rfl ?_
  refine r_zreturn rfl rfl dX10_in_18 (Nat.le_of_ble_eq_true rfl) (Nat.le_of_ble_eq_true rfl) ?_
  exact k

set_option maxHeartbeats 4000000 in
set_option maxRecDepth 20000 in
theorem c_in_f1 {Q : am_P} {h : Nat → am_E} {n : Nat} {v lo hi : Int64} (h1 : v.toInt < lo.toInt) (k : Q (some (.int 0)) h n) : AW mX10_in Q 0 (am_ent (am_l mX10_in) [.long v, .long lo, .long hi]) [] (h) n 0 0 := by
  show AW _ _ 0 [some (.long v), none, some (.long lo), none, some (.long hi), none] [] _ _ 0 0
  refine r_lload_n 1 rfl 0 dX10_in_0 rfl rfl ?_
  refine r_lload_n 2 rfl 2 dX10_in_1 rfl rfl ?_
  refine r_lcmp 3 rfl dX10_in_2 ?_
  refine r_if_lt 6 17 rfl dX10_in_3 rfl (fun _ => ?_) (fun q => absurd (lgc_lt h1) q)
  refine r_iconst 18 rfl 0 dX10_in_17 rfl ?_
  refine r_zreturn rfl rfl dX10_in_18 (Nat.le_of_ble_eq_true rfl) (Nat.le_of_ble_eq_true rfl) ?_
  exact k

set_option maxHeartbeats 4000000 in
set_option maxRecDepth 20000 in
theorem c_in_f2 {Q : am_P} {h : Nat → am_E} {n : Nat} {v lo hi : Int64} (h1 : lo.toInt ≤ v.toInt) (h2 : hi.toInt < v.toInt) (k : Q (some (.int 0)) h n) : AW mX10_in Q 0 (am_ent (am_l mX10_in) [.long v, .long lo, .long hi]) [] (h) n 0 0 := by
  show AW _ _ 0 [some (.long v), none, some (.long lo), none, some (.long hi), none] [] _ _ 0 0
  refine r_lload_n 1 rfl 0 dX10_in_0 rfl rfl ?_
  refine r_lload_n 2 rfl 2 dX10_in_1 rfl rfl ?_
  refine r_lcmp 3 rfl dX10_in_2 ?_
  refine r_if_lt 6 17 rfl dX10_in_3 rfl (fun q => absurd q (lgc_nlt h1)) (fun _ => ?_)
  refine r_lload_n 7 rfl 0 dX10_in_6 rfl rfl ?_
  refine r_lload 9 rfl dX10_in_7 rfl ?_
  refine r_lcmp 10 rfl dX10_in_9 ?_
  refine r_if_gt 13 17 rfl dX10_in_10 rfl (fun _ => ?_) (fun q => absurd (lgc_gt h2) q)
  refine r_iconst 18 rfl 0 dX10_in_17 rfl ?_
  refine r_zreturn rfl rfl dX10_in_18 (Nat.le_of_ble_eq_true rfl) (Nat.le_of_ble_eq_true rfl) ?_
  exact k

theorem c_in_f {Q : am_P} {h : Nat → am_E} {n : Nat} {v lo hi : Int64} (hh : v.toInt < lo.toInt ∨ hi.toInt < v.toInt) (k : Q (some (.int 0)) h n) : AW mX10_in Q 0 (am_ent (am_l mX10_in) [.long v, .long lo, .long hi]) [] h n 0 0 := by
  by_cases h1 : v.toInt < lo.toInt
  · exact c_in_f1 h1 k
  · exact c_in_f2 (by omega) (by omega) k

set_option maxHeartbeats 4000000 in
set_option maxRecDepth 20000 in
theorem c9_letter_o {Q : am_P} {z : am_Z} {m : Nat → Nat → Int32} {n : Nat} {code : Int32} (hc : code.toInt < 1 ∨ 126 < code.toInt) (k : Q (some (.int (-102))) (wd z m) n) : AW mX9_letter Q 0 (am_ent (am_l mX9_letter) [.ref 1, .int code]) [] (wd z m) n 0 0 := by
  show AW _ _ 0 [some (.ref 1), some (.int code)] [] _ _ 0 0
  refine r_iload_n 1 rfl 1 dX9_letter_0 rfl rfl ?_
  refine r_iconst 2 rfl 1 dX9_letter_1 rfl ?_
  refine r_icmp_lt 5 11 rfl dX9_letter_2 rfl (fun c2 => ?_) (fun c2 => ?_)
  · replace c2 : code.toInt < (1 : Int) := Int32.lt_iff_toInt_lt.mp c2
    refine r_bipush 13 rfl (-102) dX9_letter_11 (by decide) ?_
    refine r_ireturn rfl dX9_letter_13 (Nat.le_of_ble_eq_true rfl) (Nat.le_of_ble_eq_true rfl) ?_
    exact k
  · replace c2 : ¬ code.toInt < (1 : Int) := fun q => c2 (Int32.lt_iff_toInt_lt.mpr q)
    refine r_iload_n 6 rfl 1 dX9_letter_5 rfl rfl ?_
    refine r_bipush 8 rfl 126 dX9_letter_6 (by decide) ?_
    refine r_icmp_le 11 14 rfl dX9_letter_8 rfl (fun c8 => ?_) (fun c8 => ?_)
    · replace c8 : code.toInt ≤ (126 : Int) := Int32.le_iff_toInt_le.mp c8
      exfalso; omega
    · replace c8 : ¬ code.toInt ≤ (126 : Int) := fun q => c8 (Int32.le_iff_toInt_le.mpr q)
      refine r_bipush 13 rfl (-102) dX9_letter_11 (by decide) ?_
      refine r_ireturn rfl dX9_letter_13 (Nat.le_of_ble_eq_true rfl) (Nat.le_of_ble_eq_true rfl) ?_
      exact k

set_option maxHeartbeats 4000000 in
set_option maxRecDepth 20000 in
theorem c9_letter_f {Q : am_P} {z : am_Z} {m : Nat → Nat → Int32} {n : Nat} {code : Int32} (hc1 : 1 ≤ code.toInt) (hc2 : code.toInt ≤ 126) (hpm : m 2 1 = nI 14) (k : Q (some (.int (-104))) (wd z m) n) : AW mX9_letter Q 0 (am_ent (am_l mX9_letter) [.ref 1, .int code]) [] (wd z m) n 0 0 := by
  show AW _ _ 0 [some (.ref 1), some (.int code)] [] _ _ 0 0
  refine r_iload_n 1 rfl 1 dX9_letter_0 rfl rfl ?_
  refine r_iconst 2 rfl 1 dX9_letter_1 rfl ?_
  refine r_icmp_lt 5 11 rfl dX9_letter_2 rfl (fun q => absurd q (fun q => absurd (show code.toInt < (1 : Int) from Int32.lt_iff_toInt_lt.mp q) (by omega))) (fun _ => ?_)
  refine r_iload_n 6 rfl 1 dX9_letter_5 rfl rfl ?_
  refine r_bipush 8 rfl 126 dX9_letter_6 (by decide) ?_
  refine r_icmp_le 11 14 rfl dX9_letter_8 rfl (fun _ => ?_) (fun q => absurd (Int32.le_iff_toInt_le.mpr (show code.toInt ≤ (126 : Int) by omega)) q)
  refine r_aload_n 15 rfl 0 dX9_letter_14 rfl rfl ?_
  refine r_getf (v := .ref 2) (k := 0) 18 rfl dX9_letter_15 (gf_X9_12_9 rfl) rfl rfl ?_
  refine q_V 21 0 0 rfl [] rfl dX9_letter_18 cl_X9_letter__X3_isFull (lk_X9_62 rfl) im_X3_isFull (ci := 3) rfl sl_X3__X3_isFull rfl (Nat.le_of_ble_eq_true rfl) (fun _ _ => Nat.le_of_ble_eq_true rfl) rfl rfl (Nat.le_of_ble_eq_true rfl) (Nat.le_of_ble_eq_true rfl) ?_
  refine c_isFull_t hpm (by omega) rfl (k_i ?_)
  refine r_if_eq 24 27 rfl dX9_letter_21 rfl (fun q => absurd q (by decide)) (fun _ => ?_)
  refine r_bipush 26 rfl (-104) dX9_letter_24 (by decide) ?_
  refine r_ireturn rfl dX9_letter_26 (Nat.le_of_ble_eq_true rfl) (Nat.le_of_ble_eq_true rfl) ?_
  exact k

set_option maxHeartbeats 4000000 in
set_option maxRecDepth 20000 in
theorem c9_letter_t {Q : am_P} {z : am_Z} {m : Nat → Nat → Int32} {n : Nat} {code : Int32} (hc1 : 1 ≤ code.toInt) (hc2 : code.toInt ≤ 126) {pm : Nat} (hpm : m 2 1 = nI pm) (hpl : pm ≤ 14) (hf : pm < 14) (k : ∀ m', m' 2 = upd (m 2) 1 (nI (pm + 1)) → m' 3 = upd (m 3) pm code → ag [2, 3] m m' → Q (some (.int (nI (pm + 1)))) (wd z m') n) : AW mX9_letter Q 0 (am_ent (am_l mX9_letter) [.ref 1, .int code]) [] (wd z m) n 0 0 := by
  show AW _ _ 0 [some (.ref 1), some (.int code)] [] _ _ 0 0
  refine r_iload_n 1 rfl 1 dX9_letter_0 rfl rfl ?_
  refine r_iconst 2 rfl 1 dX9_letter_1 rfl ?_
  refine r_icmp_lt 5 11 rfl dX9_letter_2 rfl (fun q => absurd q (fun q => absurd (show code.toInt < (1 : Int) from Int32.lt_iff_toInt_lt.mp q) (by omega))) (fun _ => ?_)
  refine r_iload_n 6 rfl 1 dX9_letter_5 rfl rfl ?_
  refine r_bipush 8 rfl 126 dX9_letter_6 (by decide) ?_
  refine r_icmp_le 11 14 rfl dX9_letter_8 rfl (fun _ => ?_) (fun q => absurd (Int32.le_iff_toInt_le.mpr (show code.toInt ≤ (126 : Int) by omega)) q)
  refine r_aload_n 15 rfl 0 dX9_letter_14 rfl rfl ?_
  refine r_getf (v := .ref 2) (k := 0) 18 rfl dX9_letter_15 (gf_X9_12_9 rfl) rfl rfl ?_
  refine q_V 21 0 0 rfl [] rfl dX9_letter_18 cl_X9_letter__X3_isFull (lk_X9_62 rfl) im_X3_isFull (ci := 3) rfl sl_X3__X3_isFull rfl (Nat.le_of_ble_eq_true rfl) (fun _ _ => Nat.le_of_ble_eq_true rfl) rfl rfl (Nat.le_of_ble_eq_true rfl) (Nat.le_of_ble_eq_true rfl) ?_
  refine c_isFull_f hpm hpl hf (k_i ?_)
  refine r_if_eq 24 27 rfl dX9_letter_21 rfl (fun _ => ?_) (fun q => absurd (by decide) q)
  refine r_aload_n 28 rfl 0 dX9_letter_27 rfl rfl ?_
  refine r_getf (v := .ref 2) (k := 0) 31 rfl dX9_letter_28 (gf_X9_12_9 rfl) rfl rfl ?_
  refine r_iload_n 32 rfl 1 dX9_letter_31 rfl rfl ?_
  refine q_V 35 0 0 rfl [.int code] rfl dX9_letter_32 cl_X9_letter__X3_append (lk_X9_66 rfl) im_X3_append (ci := 3) rfl sl_X3__X3_append rfl (Nat.le_of_ble_eq_true rfl) (fun _ _ => Nat.le_of_ble_eq_true rfl) rfl rfl (Nat.le_of_ble_eq_true rfl) (Nat.le_of_ble_eq_true rfl) ?_
  refine c_X3_append hpm hpl hf (k_v ?_)
  refine r_aload_n 36 rfl 0 dX9_letter_35 rfl rfl ?_
  refine r_getf (v := .ref 2) (k := 0) 39 rfl dX9_letter_36 (gf_X9_12_9 rfl) rfl rfl ?_
  refine r_getf (v := .int (nI (pm + 1))) (k := 1) 42 rfl dX9_letter_39 (gf_X9_70_3 rfl) rfl rfl ?_
  refine r_ireturn rfl dX9_letter_42 (Nat.le_of_ble_eq_true rfl) (Nat.le_of_ble_eq_true rfl) ?_
  exact k _ rfl rfl (ag_up (ag_up (ag_r _ _) (by decide)) (by decide))

set_option maxHeartbeats 4000000 in
set_option maxRecDepth 20000 in
theorem c10_letter_o {Q : am_P} {z : am_Z} {m : Nat → Nat → Int32} {n : Nat} {code : Int32} (hc : code.toInt < 1 ∨ 126 < code.toInt) (k : Q (some (.int (-102))) (wd z m) n) : AW mX10_letter Q 0 (am_ent (am_l mX10_letter) [.ref 37, .int code]) [] (wd z m) n 0 0 := by
  show AW _ _ 0 [some (.ref 37), some (.int code)] [] _ _ 0 0
  refine r_iload_n 1 rfl 1 dX10_letter_0 rfl rfl ?_
  refine r_i2l 2 rfl dX10_letter_1 ?_
  refine r_lconst 3 rfl 1 dX10_letter_2 rfl ?_
  refine r_ldc2 6 rfl 126 dX10_letter_3 (cn_X10_62 rfl) ?_
  refine q_S 9 0 0 rfl [.long code.toInt64, .long 1, .long 126] rfl dX10_letter_6 cl_X10_letter__X10_in (lk_X10_64 rfl) st_X10_in (Nat.le_of_ble_eq_true rfl) (fun _ _ => Nat.le_of_ble_eq_true rfl) rfl rfl (Nat.le_of_ble_eq_true rfl) (Nat.le_of_ble_eq_true rfl) ?_
  refine c_in_f (show code.toInt64.toInt < (1 : Int) ∨ (126 : Int) < code.toInt64.toInt by rw [Int32.toInt_toInt64]; omega) (k_i ?_)
  refine r_if_ne 12 15 rfl dX10_letter_9 rfl (fun q => absurd (by decide) q) (fun _ => ?_)
  refine r_bipush 14 rfl (-102) dX10_letter_12 (by decide) ?_
  refine r_ireturn rfl dX10_letter_14 (Nat.le_of_ble_eq_true rfl) (Nat.le_of_ble_eq_true rfl) ?_
  exact k

set_option maxHeartbeats 4000000 in
set_option maxRecDepth 20000 in
theorem c10_letter_f {Q : am_P} {z : am_Z} {m : Nat → Nat → Int32} {n : Nat} {code : Int32} (hc1 : 1 ≤ code.toInt) (hc2 : code.toInt ≤ 126) (hpm : m 37 1 = nI 14) (k : Q (some (.int (-104))) (wd z m) n) : AW mX10_letter Q 0 (am_ent (am_l mX10_letter) [.ref 37, .int code]) [] (wd z m) n 0 0 := by
  show AW _ _ 0 [some (.ref 37), some (.int code)] [] _ _ 0 0
  refine r_iload_n 1 rfl 1 dX10_letter_0 rfl rfl ?_
  refine r_i2l 2 rfl dX10_letter_1 ?_
  refine r_lconst 3 rfl 1 dX10_letter_2 rfl ?_
  refine r_ldc2 6 rfl 126 dX10_letter_3 (cn_X10_62 rfl) ?_
  refine q_S 9 0 0 rfl [.long code.toInt64, .long 1, .long 126] rfl dX10_letter_6 cl_X10_letter__X10_in (lk_X10_64 rfl) st_X10_in (Nat.le_of_ble_eq_true rfl) (fun _ _ => Nat.le_of_ble_eq_true rfl) rfl rfl (Nat.le_of_ble_eq_true rfl) (Nat.le_of_ble_eq_true rfl) ?_
  refine c_in_t (show (1 : Int) ≤ code.toInt64.toInt by rw [Int32.toInt_toInt64]; omega) (show code.toInt64.toInt ≤ (126 : Int) by rw [Int32.toInt_toInt64]; omega) (k_i ?_)
  refine r_if_ne 12 15 rfl dX10_letter_9 rfl (fun _ => ?_) (fun q => absurd q (by decide))
  refine r_aload_n 16 rfl 0 dX10_letter_15 rfl rfl ?_
  refine r_getf (v := .int ((m 37) 1)) (k := 1) 19 rfl dX10_letter_16 (gf_X10_68_10 rfl) rfl rfl ?_
  rw [show (m 37) 1 = nI 14 from hpm]
  refine r_bipush 21 rfl 14 dX10_letter_19 (by decide) ?_
  refine r_icmp_ne 24 27 rfl dX10_letter_21 rfl (fun q => absurd ((nI_eq (a := 14) (b := 14) (by omega) (by omega)).mpr (by omega)) q) (fun _ => ?_)
  refine r_bipush 26 rfl (-104) dX10_letter_24 (by decide) ?_
  refine r_ireturn rfl dX10_letter_26 (Nat.le_of_ble_eq_true rfl) (Nat.le_of_ble_eq_true rfl) ?_
  exact k

set_option maxHeartbeats 4000000 in
set_option maxRecDepth 20000 in
theorem c10_letter_t {Q : am_P} {z : am_Z} {m : Nat → Nat → Int32} {n : Nat} {code : Int32} (hc1 : 1 ≤ code.toInt) (hc2 : code.toInt ≤ 126) {pm : Nat} (hpm : m 37 1 = nI pm) (hpl : pm ≤ 14) (hf : pm < 14) (k : ∀ m', m' 37 = upd (m 37) 1 (nI (pm + 1)) → m' 38 = upd (m 38) pm code → ag [37, 38] m m' → Q (some (.int (nI (pm + 1)))) (wd z m') n) : AW mX10_letter Q 0 (am_ent (am_l mX10_letter) [.ref 37, .int code]) [] (wd z m) n 0 0 := by
  show AW _ _ 0 [some (.ref 37), some (.int code)] [] _ _ 0 0
  refine r_iload_n 1 rfl 1 dX10_letter_0 rfl rfl ?_
  refine r_i2l 2 rfl dX10_letter_1 ?_
  refine r_lconst 3 rfl 1 dX10_letter_2 rfl ?_
  refine r_ldc2 6 rfl 126 dX10_letter_3 (cn_X10_62 rfl) ?_
  refine q_S 9 0 0 rfl [.long code.toInt64, .long 1, .long 126] rfl dX10_letter_6 cl_X10_letter__X10_in (lk_X10_64 rfl) st_X10_in (Nat.le_of_ble_eq_true rfl) (fun _ _ => Nat.le_of_ble_eq_true rfl) rfl rfl (Nat.le_of_ble_eq_true rfl) (Nat.le_of_ble_eq_true rfl) ?_
  refine c_in_t (show (1 : Int) ≤ code.toInt64.toInt by rw [Int32.toInt_toInt64]; omega) (show code.toInt64.toInt ≤ (126 : Int) by rw [Int32.toInt_toInt64]; omega) (k_i ?_)
  refine r_if_ne 12 15 rfl dX10_letter_9 rfl (fun _ => ?_) (fun q => absurd q (by decide))
  refine r_aload_n 16 rfl 0 dX10_letter_15 rfl rfl ?_
  refine r_getf (v := .int ((m 37) 1)) (k := 1) 19 rfl dX10_letter_16 (gf_X10_68_10 rfl) rfl rfl ?_
  rw [show (m 37) 1 = nI pm from hpm]
  refine r_bipush 21 rfl 14 dX10_letter_19 (by decide) ?_
  refine r_icmp_ne 24 27 rfl dX10_letter_21 rfl (fun _ => ?_) (fun q => absurd q (fun q => absurd ((nI_eq (a := pm) (b := 14) (by omega) (by omega)).mp q) (by omega)))
  refine r_aload_n 28 rfl 0 dX10_letter_27 rfl rfl ?_
  refine r_getf (v := .ref 38) (k := 0) 31 rfl dX10_letter_28 (gf_X10_7_10 rfl) rfl rfl ?_
  refine r_aload_n 32 rfl 0 dX10_letter_31 rfl rfl ?_
  refine r_getf (v := .int ((m 37) 1)) (k := 1) 35 rfl dX10_letter_32 (gf_X10_68_10 rfl) rfl rfl ?_
  rw [show (m 37) 1 = nI pm from hpm]
  refine r_iload_n 36 rfl 1 dX10_letter_35 rfl rfl ?_
  refine w_iast 37 rfl pm (va_up m 38 (upd (m 38) pm code)) dX10_letter_36 (by decide) (by decide) (fun _ => rfl) rfl (by omega) (by decide) rfl ?_
  refine r_aload_n 38 rfl 0 dX10_letter_37 rfl rfl ?_
  refine r_dup 39 rfl dX10_letter_38 rfl ?_
  refine r_getf (v := .int ((m 37) 1)) (k := 1) 42 rfl dX10_letter_39 (gf_X10_68_10 rfl) rfl rfl ?_
  rw [show (m 37) 1 = nI pm from hpm]
  refine r_iconst 43 rfl 1 dX10_letter_42 rfl ?_
  refine r_iadd 44 rfl dX10_letter_43 ?_
  rw [show (nI pm) + 1 = nI (pm + 1) from nI_add pm 1]
  refine w_putf 47 rfl (k := 1) (va_up (va_up m 38 (upd (m 38) pm code)) 37 (upd (m 37) 1 (nI (pm + 1)))) dX10_letter_44 (pf_X10_68_10 rfl) (by decide) (by decide) rfl (Nat.le_of_ble_eq_true rfl) rfl ⟨rfl, rfl⟩ rfl ?_
  refine r_aload_n 48 rfl 0 dX10_letter_47 rfl rfl ?_
  refine r_getf (v := .int (nI (pm + 1))) (k := 1) 51 rfl dX10_letter_48 (gf_X10_68_10 rfl) rfl rfl ?_
  refine r_ireturn rfl dX10_letter_51 (Nat.le_of_ble_eq_true rfl) (Nat.le_of_ble_eq_true rfl) ?_
  exact k _ rfl rfl (ag_up (ag_up (ag_r _ _) (by decide)) (by decide))

set_option maxHeartbeats 4000000 in
set_option maxRecDepth 20000 in
theorem c_X10_blank {Q : am_P} {z : am_Z} {m : Nat → Nat → Int32} {n : Nat}  (k : Q (some (.int (m 37 1))) (wd z (va_up m 37 (upd (m 37) 1 0))) n) : AW mX10_blank Q 0 (am_ent (am_l mX10_blank) [.ref 37]) [] (wd z m) n 0 0 := by
  show AW _ _ 0 [some (.ref 37), none] [] _ _ 0 0
  refine r_aload_n 1 rfl 0 dX10_blank_0 rfl rfl ?_
  refine r_getf (v := .int ((m 37) 1)) (k := 1) 4 rfl dX10_blank_1 (gf_X10_68_10 rfl) rfl rfl ?_
  refine r_istore_n 5 rfl 1 [some (.ref 37), some (.int ((m 37) 1))] dX10_blank_4 rfl (by decide) rfl ?_
  refine r_aload_n 6 rfl 0 dX10_blank_5 rfl rfl ?_
  refine r_iconst 7 rfl 0 dX10_blank_6 rfl ?_
  refine w_putf 10 rfl (k := 1) (va_up m 37 (upd (m 37) 1 0)) dX10_blank_7 (pf_X10_68_10 rfl) (by decide) (by decide) rfl (Nat.le_of_ble_eq_true rfl) rfl ⟨rfl, rfl⟩ rfl ?_
  refine r_iload_n 11 rfl 1 dX10_blank_10 rfl rfl ?_
  refine r_ireturn rfl dX10_blank_11 (Nat.le_of_ble_eq_true rfl) (Nat.le_of_ble_eq_true rfl) ?_
  exact k

set_option maxHeartbeats 4000000 in
set_option maxRecDepth 20000 in
theorem c_X3_fits {Q : am_P} {h : Nat → am_E} {n : Nat} {p : Nat} {c : Int32} (hp : p < 14) (k1 : pg_fit p c = true → Q (some (.int 1)) h n) (k0 : ¬ pg_fit p c = true → Q (some (.int 0)) h n) : AW mX3_fits Q 0 (am_ent (am_l mX3_fits) [.int (nI p), .int c]) [] (h) n 0 0 := by
  show AW _ _ 0 [some (.int (nI p)), some (.int c)] [] _ _ 0 0
  refine r_iload_n 1 rfl 0 dX3_fits_0 rfl rfl ?_
  refine r_bipush 3 rfl 11 dX3_fits_1 (by decide) ?_
  refine r_icmp_lt 6 8 rfl dX3_fits_3 rfl (fun c3 => ?_) (fun c3 => ?_)
  · replace c3 : p < 11 := (nI_ltI (a := p) (b := 11) (by omega) (by omega)).mp c3
    refine r_iload_n 9 rfl 0 dX3_fits_8 rfl rfl ?_
    refine r_iconst 10 rfl 4 dX3_fits_9 rfl ?_
    refine r_icmp_ne 13 25 rfl dX3_fits_10 rfl (fun c10 => ?_) (fun c10 => ?_)
    · replace c10 : ¬ p = 4 := fun q => c10 ((nI_eq (a := p) (b := 4) (by omega) (by omega)).mpr q)
      refine r_iload_n 26 rfl 0 dX3_fits_25 rfl rfl ?_
      refine r_bipush 28 rfl 9 dX3_fits_26 (by decide) ?_
      refine r_icmp_ne 31 43 rfl dX3_fits_28 rfl (fun c28 => ?_) (fun c28 => ?_)
      · replace c28 : ¬ p = 9 := fun q => c28 ((nI_eq (a := p) (b := 9) (by omega) (by omega)).mpr q)
        refine r_iload_n 44 rfl 0 dX3_fits_43 rfl rfl ?_
        refine r_bipush 46 rfl 10 dX3_fits_44 (by decide) ?_
        refine r_icmp_ne 49 67 rfl dX3_fits_46 rfl (fun c46 => ?_) (fun c46 => ?_)
        · replace c46 : ¬ p = 10 := fun q => c46 ((nI_eq (a := p) (b := 10) (by omega) (by omega)).mpr q)
          refine r_iload_n 68 rfl 1 dX3_fits_67 rfl rfl ?_
          refine r_bipush 70 rfl 46 dX3_fits_68 (by decide) ?_
          refine r_icmp_eq 73 85 rfl dX3_fits_70 rfl (fun c70 => ?_) (fun c70 => ?_)
          · refine r_iconst 86 rfl 1 dX3_fits_85 rfl ?_
            refine r_goto 90 dX3_fits_86 rfl ?_
            refine r_zreturn rfl rfl dX3_fits_90 (Nat.le_of_ble_eq_true rfl) (Nat.le_of_ble_eq_true rfl) ?_
            exact k1 (by unfold pg_fit; rw [if_neg (by omega), if_neg (by omega), if_neg (by omega), if_pos (by omega)]; first | (simp [*]; done) | simp [Int32.not_le.mpr c52] | simp [Int32.not_le.mpr c58] | simp [Int32.not_lt.mp c52, Int32.not_lt.mp c58])
          · refine r_iload_n 74 rfl 1 dX3_fits_73 rfl rfl ?_
            refine r_bipush 76 rfl 35 dX3_fits_74 (by decide) ?_
            refine r_icmp_eq 79 85 rfl dX3_fits_76 rfl (fun c76 => ?_) (fun c76 => ?_)
            · refine r_iconst 86 rfl 1 dX3_fits_85 rfl ?_
              refine r_goto 90 dX3_fits_86 rfl ?_
              refine r_zreturn rfl rfl dX3_fits_90 (Nat.le_of_ble_eq_true rfl) (Nat.le_of_ble_eq_true rfl) ?_
              exact k1 (by unfold pg_fit; rw [if_neg (by omega), if_neg (by omega), if_neg (by omega), if_pos (by omega)]; first | (simp [*]; done) | simp [Int32.not_le.mpr c52] | simp [Int32.not_le.mpr c58] | simp [Int32.not_lt.mp c52, Int32.not_lt.mp c58])
            · refine r_iload_n 80 rfl 1 dX3_fits_79 rfl rfl ?_
              refine r_bipush 82 rfl 119 dX3_fits_80 (by decide) ?_
              refine r_icmp_ne 85 89 rfl dX3_fits_82 rfl (fun c82 => ?_) (fun c82 => ?_)
              · refine r_iconst 90 rfl 0 dX3_fits_89 rfl ?_
                refine r_zreturn rfl rfl dX3_fits_90 (Nat.le_of_ble_eq_true rfl) (Nat.le_of_ble_eq_true rfl) ?_
                exact k0 (by unfold pg_fit; rw [if_neg (by omega), if_neg (by omega), if_neg (by omega), if_pos (by omega)]; first | (simp [*]; done) | simp [Int32.not_le.mpr c52] | simp [Int32.not_le.mpr c58] | simp [Int32.not_lt.mp c52, Int32.not_lt.mp c58])
              · refine r_iconst 86 rfl 1 dX3_fits_85 rfl ?_
                refine r_goto 90 dX3_fits_86 rfl ?_
                refine r_zreturn rfl rfl dX3_fits_90 (Nat.le_of_ble_eq_true rfl) (Nat.le_of_ble_eq_true rfl) ?_
                exact k1 (by unfold pg_fit; rw [if_neg (by omega), if_neg (by omega), if_neg (by omega), if_pos (by omega)]; first | (simp [*]; done) | simp [Int32.not_le.mpr c52] | simp [Int32.not_le.mpr c58] | simp [Int32.not_lt.mp c52, Int32.not_lt.mp c58])
        · replace c46 : p = 10 := (nI_eq (a := p) (b := 10) (by omega) (by omega)).mp c46
          refine r_iload_n 50 rfl 1 dX3_fits_49 rfl rfl ?_
          refine r_bipush 52 rfl 49 dX3_fits_50 (by decide) ?_
          refine r_icmp_lt 55 65 rfl dX3_fits_52 rfl (fun c52 => ?_) (fun c52 => ?_)
          · refine r_iconst 66 rfl 0 dX3_fits_65 rfl ?_
            refine r_zreturn rfl rfl dX3_fits_66 (Nat.le_of_ble_eq_true rfl) (Nat.le_of_ble_eq_true rfl) ?_
            exact k0 (by unfold pg_fit; rw [if_neg (by omega), if_neg (by omega), if_pos (by omega)]; first | (simp [*]; done) | simp [Int32.not_le.mpr c52] | simp [Int32.not_le.mpr c58] | simp [Int32.not_lt.mp c52, Int32.not_lt.mp c58])
          · refine r_iload_n 56 rfl 1 dX3_fits_55 rfl rfl ?_
            refine r_bipush 58 rfl 51 dX3_fits_56 (by decide) ?_
            refine r_icmp_gt 61 65 rfl dX3_fits_58 rfl (fun c58 => ?_) (fun c58 => ?_)
            · refine r_iconst 66 rfl 0 dX3_fits_65 rfl ?_
              refine r_zreturn rfl rfl dX3_fits_66 (Nat.le_of_ble_eq_true rfl) (Nat.le_of_ble_eq_true rfl) ?_
              exact k0 (by unfold pg_fit; rw [if_neg (by omega), if_neg (by omega), if_pos (by omega)]; first | (simp [*]; done) | simp [Int32.not_le.mpr c52] | simp [Int32.not_le.mpr c58] | simp [Int32.not_lt.mp c52, Int32.not_lt.mp c58])
            · refine r_iconst 62 rfl 1 dX3_fits_61 rfl ?_
              refine r_goto 66 dX3_fits_62 rfl ?_
              refine r_zreturn rfl rfl dX3_fits_66 (Nat.le_of_ble_eq_true rfl) (Nat.le_of_ble_eq_true rfl) ?_
              exact k1 (by unfold pg_fit; rw [if_neg (by omega), if_neg (by omega), if_pos (by omega)]; first | (simp [*]; done) | simp [Int32.not_le.mpr c52] | simp [Int32.not_le.mpr c58] | simp [Int32.not_lt.mp c52, Int32.not_lt.mp c58])
      · replace c28 : p = 9 := (nI_eq (a := p) (b := 9) (by omega) (by omega)).mp c28
        refine r_iload_n 32 rfl 1 dX3_fits_31 rfl rfl ?_
        refine r_bipush 34 rfl 59 dX3_fits_32 (by decide) ?_
        refine r_icmp_ne 37 41 rfl dX3_fits_34 rfl (fun c34 => ?_) (fun c34 => ?_)
        · refine r_iconst 42 rfl 0 dX3_fits_41 rfl ?_
          refine r_zreturn rfl rfl dX3_fits_42 (Nat.le_of_ble_eq_true rfl) (Nat.le_of_ble_eq_true rfl) ?_
          exact k0 (by unfold pg_fit; rw [if_neg (by omega), if_pos (by omega)]; first | (simp [*]; done) | simp [Int32.not_le.mpr c52] | simp [Int32.not_le.mpr c58] | simp [Int32.not_lt.mp c52, Int32.not_lt.mp c58])
        · refine r_iconst 38 rfl 1 dX3_fits_37 rfl ?_
          refine r_goto 42 dX3_fits_38 rfl ?_
          refine r_zreturn rfl rfl dX3_fits_42 (Nat.le_of_ble_eq_true rfl) (Nat.le_of_ble_eq_true rfl) ?_
          exact k1 (by unfold pg_fit; rw [if_neg (by omega), if_pos (by omega)]; first | (simp [*]; done) | simp [Int32.not_le.mpr c52] | simp [Int32.not_le.mpr c58] | simp [Int32.not_lt.mp c52, Int32.not_lt.mp c58])
    · replace c10 : p = 4 := (nI_eq (a := p) (b := 4) (by omega) (by omega)).mp c10
      refine r_iload_n 14 rfl 1 dX3_fits_13 rfl rfl ?_
      refine r_bipush 16 rfl 47 dX3_fits_14 (by decide) ?_
      refine r_icmp_ne 19 23 rfl dX3_fits_16 rfl (fun c16 => ?_) (fun c16 => ?_)
      · refine r_iconst 24 rfl 0 dX3_fits_23 rfl ?_
        refine r_zreturn rfl rfl dX3_fits_24 (Nat.le_of_ble_eq_true rfl) (Nat.le_of_ble_eq_true rfl) ?_
        exact k0 (by unfold pg_fit; rw [if_pos (by omega)]; first | (simp [*]; done) | simp [Int32.not_le.mpr c52] | simp [Int32.not_le.mpr c58] | simp [Int32.not_lt.mp c52, Int32.not_lt.mp c58])
      · refine r_iconst 20 rfl 1 dX3_fits_19 rfl ?_
        refine r_goto 24 dX3_fits_20 rfl ?_
        refine r_zreturn rfl rfl dX3_fits_24 (Nat.le_of_ble_eq_true rfl) (Nat.le_of_ble_eq_true rfl) ?_
        exact k1 (by unfold pg_fit; rw [if_pos (by omega)]; first | (simp [*]; done) | simp [Int32.not_le.mpr c52] | simp [Int32.not_le.mpr c58] | simp [Int32.not_lt.mp c52, Int32.not_lt.mp c58])
  · replace c3 : ¬ p < 11 := fun q => c3 ((nI_ltI (a := p) (b := 11) (by omega) (by omega)).mpr q)
    refine r_iconst 7 rfl 0 dX3_fits_6 rfl ?_
    refine r_zreturn rfl rfl dX3_fits_7 (Nat.le_of_ble_eq_true rfl) (Nat.le_of_ble_eq_true rfl) ?_
    exact k0 (by unfold pg_fit; rw [if_neg (by omega), if_neg (by omega), if_neg (by omega), if_neg (by omega)]; first | (simp [*]; done) | simp [Int32.not_le.mpr c52] | simp [Int32.not_le.mpr c58] | simp [Int32.not_lt.mp c52, Int32.not_lt.mp c58])

set_option maxHeartbeats 4000000 in
set_option maxRecDepth 20000 in
theorem c_X10_isGood {Q : am_P} {h : Nat → am_E} {n : Nat} {p : Nat} {c : Int32} (hp : p < 14) (k1 : pg_fit p c = true → Q (some (.int 1)) h n) (k0 : ¬ pg_fit p c = true → Q (some (.int 0)) h n) : AW mX10_isGood Q 0 (am_ent (am_l mX10_isGood) [.int (nI p), .int c]) [] h n 0 0 := by
  show AW _ _ 0 [some (.int (nI p)), some (.int c)] [] _ _ 0 0
  by_cases hr : 49 ≤ c.toInt ∧ c.toInt ≤ 51
  · obtain ⟨hr1, hr2⟩ := hr
    have hr3 : (49 : Int32) ≤ c := Int32.le_iff_toInt_le.mpr hr1
    have hr4 : c ≤ (51 : Int32) := Int32.le_iff_toInt_le.mpr hr2
    refine r_iload_n 1 rfl 0 dX10_isGood_0 rfl rfl ?_
    refine r_iconst 2 rfl 4 dX10_isGood_1 rfl ?_
    refine r_icmp_ne 5 17 rfl dX10_isGood_2 rfl (fun c2 => ?_) (fun c2 => ?_)
    · replace c2 : ¬ p = 4 := fun q => c2 ((nI_eq (a := p) (b := 4) (by omega) (by omega)).mpr q)
      refine r_iload_n 18 rfl 0 dX10_isGood_17 rfl rfl ?_
      refine r_bipush 20 rfl 9 dX10_isGood_18 (by decide) ?_
      refine r_icmp_ne 23 35 rfl dX10_isGood_20 rfl (fun c20 => ?_) (fun c20 => ?_)
      · replace c20 : ¬ p = 9 := fun q => c20 ((nI_eq (a := p) (b := 9) (by omega) (by omega)).mpr q)
        refine r_iload_n 36 rfl 0 dX10_isGood_35 rfl rfl ?_
        refine r_bipush 38 rfl 10 dX10_isGood_36 (by decide) ?_
        refine r_icmp_ge 41 67 rfl dX10_isGood_38 rfl (fun c38 => ?_) (fun c38 => ?_)
        · replace c38 : 10 ≤ p := (nI_leI (a := 10) (b := p) (by omega) (by omega)).mp c38
          refine r_iload_n 68 rfl 0 dX10_isGood_67 rfl rfl ?_
          refine r_bipush 70 rfl 10 dX10_isGood_68 (by decide) ?_
          refine r_icmp_ne 73 91 rfl dX10_isGood_70 rfl (fun c70 => ?_) (fun c70 => ?_)
          · replace c70 : ¬ p = 10 := fun q => c70 ((nI_eq (a := p) (b := 10) (by omega) (by omega)).mpr q)
            refine r_iconst 92 rfl 0 dX10_isGood_91 rfl ?_
            refine r_zreturn rfl rfl dX10_isGood_92 (Nat.le_of_ble_eq_true rfl) (Nat.le_of_ble_eq_true rfl) ?_
            exact k0 (by unfold pg_fit; first | (rw [if_neg (by omega), if_neg (by omega), if_neg (by omega), if_pos (by omega)]; simp [*]; done) | (rw [if_neg (by omega), if_neg (by omega), if_pos (by omega)]; simp [*]; done) | (rw [if_neg (by omega), if_neg (by omega), if_neg (by omega), if_neg (by omega)]; simp))
          · replace c70 : p = 10 := (nI_eq (a := p) (b := 10) (by omega) (by omega)).mp c70
            refine r_iload_n 74 rfl 1 dX10_isGood_73 rfl rfl ?_
            refine r_i2l 75 rfl dX10_isGood_74 ?_
            refine r_ldc2 78 rfl 49 dX10_isGood_75 (cn_X10_71 rfl) ?_
            refine r_ldc2 81 rfl 51 dX10_isGood_78 (cn_X10_73 rfl) ?_
            refine q_S 84 0 0 rfl [.long c.toInt64, .long 49, .long 51] rfl dX10_isGood_81 cl_X10_isGood__X10_in (lk_X10_64 rfl) st_X10_in (Nat.le_of_ble_eq_true rfl) (fun _ _ => Nat.le_of_ble_eq_true rfl) rfl rfl (Nat.le_of_ble_eq_true rfl) (Nat.le_of_ble_eq_true rfl) ?_
            refine c_in_t (show (49 : Int) ≤ c.toInt64.toInt by rw [Int32.toInt_toInt64]; omega) (show c.toInt64.toInt ≤ (51 : Int) by rw [Int32.toInt_toInt64]; omega) (k_i ?_)
            refine r_if_eq 87 91 rfl dX10_isGood_84 rfl (fun q => absurd q (by decide)) (fun _ => ?_)
            refine r_iconst 88 rfl 1 dX10_isGood_87 rfl ?_
            refine r_goto 92 dX10_isGood_88 rfl ?_
            refine r_zreturn rfl rfl dX10_isGood_92 (Nat.le_of_ble_eq_true rfl) (Nat.le_of_ble_eq_true rfl) ?_
            exact k1 (by unfold pg_fit; first | (rw [if_neg (by omega), if_neg (by omega), if_neg (by omega), if_pos (by omega)]; simp [*]; done) | (rw [if_neg (by omega), if_neg (by omega), if_pos (by omega)]; simp [*]; done) | (rw [if_neg (by omega), if_neg (by omega), if_neg (by omega), if_neg (by omega)]; simp))
        · replace c38 : ¬ 10 ≤ p := fun q => c38 ((nI_leI (a := 10) (b := p) (by omega) (by omega)).mpr q)
          refine r_iload_n 42 rfl 1 dX10_isGood_41 rfl rfl ?_
          refine r_bipush 44 rfl 46 dX10_isGood_42 (by decide) ?_
          refine r_icmp_eq 47 59 rfl dX10_isGood_44 rfl (fun c44 => ?_) (fun c44 => ?_)
          · refine r_iconst 60 rfl 1 dX10_isGood_59 rfl ?_
            refine r_goto 92 dX10_isGood_60 rfl ?_
            refine r_zreturn rfl rfl dX10_isGood_92 (Nat.le_of_ble_eq_true rfl) (Nat.le_of_ble_eq_true rfl) ?_
            exact k1 (by unfold pg_fit; first | (rw [if_neg (by omega), if_neg (by omega), if_neg (by omega), if_pos (by omega)]; simp [*]; done) | (rw [if_neg (by omega), if_neg (by omega), if_pos (by omega)]; simp [*]; done) | (rw [if_neg (by omega), if_neg (by omega), if_neg (by omega), if_neg (by omega)]; simp))
          · refine r_iload_n 48 rfl 1 dX10_isGood_47 rfl rfl ?_
            refine r_bipush 50 rfl 35 dX10_isGood_48 (by decide) ?_
            refine r_icmp_eq 53 59 rfl dX10_isGood_50 rfl (fun c50 => ?_) (fun c50 => ?_)
            · refine r_iconst 60 rfl 1 dX10_isGood_59 rfl ?_
              refine r_goto 92 dX10_isGood_60 rfl ?_
              refine r_zreturn rfl rfl dX10_isGood_92 (Nat.le_of_ble_eq_true rfl) (Nat.le_of_ble_eq_true rfl) ?_
              exact k1 (by unfold pg_fit; first | (rw [if_neg (by omega), if_neg (by omega), if_neg (by omega), if_pos (by omega)]; simp [*]; done) | (rw [if_neg (by omega), if_neg (by omega), if_pos (by omega)]; simp [*]; done) | (rw [if_neg (by omega), if_neg (by omega), if_neg (by omega), if_neg (by omega)]; simp))
            · refine r_iload_n 54 rfl 1 dX10_isGood_53 rfl rfl ?_
              refine r_bipush 56 rfl 119 dX10_isGood_54 (by decide) ?_
              refine r_icmp_ne 59 63 rfl dX10_isGood_56 rfl (fun c56 => ?_) (fun c56 => ?_)
              · refine r_iconst 64 rfl 0 dX10_isGood_63 rfl ?_
                refine r_goto 92 dX10_isGood_64 rfl ?_
                refine r_zreturn rfl rfl dX10_isGood_92 (Nat.le_of_ble_eq_true rfl) (Nat.le_of_ble_eq_true rfl) ?_
                exact k0 (by unfold pg_fit; first | (rw [if_neg (by omega), if_neg (by omega), if_neg (by omega), if_pos (by omega)]; simp [*]; done) | (rw [if_neg (by omega), if_neg (by omega), if_pos (by omega)]; simp [*]; done) | (rw [if_neg (by omega), if_neg (by omega), if_neg (by omega), if_neg (by omega)]; simp))
              · refine r_iconst 60 rfl 1 dX10_isGood_59 rfl ?_
                refine r_goto 92 dX10_isGood_60 rfl ?_
                refine r_zreturn rfl rfl dX10_isGood_92 (Nat.le_of_ble_eq_true rfl) (Nat.le_of_ble_eq_true rfl) ?_
                exact k1 (by unfold pg_fit; first | (rw [if_neg (by omega), if_neg (by omega), if_neg (by omega), if_pos (by omega)]; simp [*]; done) | (rw [if_neg (by omega), if_neg (by omega), if_pos (by omega)]; simp [*]; done) | (rw [if_neg (by omega), if_neg (by omega), if_neg (by omega), if_neg (by omega)]; simp))
      · replace c20 : p = 9 := (nI_eq (a := p) (b := 9) (by omega) (by omega)).mp c20
        refine r_iload_n 24 rfl 1 dX10_isGood_23 rfl rfl ?_
        refine r_bipush 26 rfl 59 dX10_isGood_24 (by decide) ?_
        refine r_icmp_ne 29 33 rfl dX10_isGood_26 rfl (fun c26 => ?_) (fun c26 => ?_)
        · refine r_iconst 34 rfl 0 dX10_isGood_33 rfl ?_
          refine r_zreturn rfl rfl dX10_isGood_34 (Nat.le_of_ble_eq_true rfl) (Nat.le_of_ble_eq_true rfl) ?_
          exact k0 (by unfold pg_fit; rw [if_neg (by omega), if_pos (by omega)]; first | (simp [*]; done) | simp [Int32.not_le.mpr c52] | simp [Int32.not_le.mpr c58] | simp [Int32.not_lt.mp c52, Int32.not_lt.mp c58])
        · refine r_iconst 30 rfl 1 dX10_isGood_29 rfl ?_
          refine r_goto 34 dX10_isGood_30 rfl ?_
          refine r_zreturn rfl rfl dX10_isGood_34 (Nat.le_of_ble_eq_true rfl) (Nat.le_of_ble_eq_true rfl) ?_
          exact k1 (by unfold pg_fit; rw [if_neg (by omega), if_pos (by omega)]; first | (simp [*]; done) | simp [Int32.not_le.mpr c52] | simp [Int32.not_le.mpr c58] | simp [Int32.not_lt.mp c52, Int32.not_lt.mp c58])
    · replace c2 : p = 4 := (nI_eq (a := p) (b := 4) (by omega) (by omega)).mp c2
      refine r_iload_n 6 rfl 1 dX10_isGood_5 rfl rfl ?_
      refine r_bipush 8 rfl 47 dX10_isGood_6 (by decide) ?_
      refine r_icmp_ne 11 15 rfl dX10_isGood_8 rfl (fun c8 => ?_) (fun c8 => ?_)
      · refine r_iconst 16 rfl 0 dX10_isGood_15 rfl ?_
        refine r_zreturn rfl rfl dX10_isGood_16 (Nat.le_of_ble_eq_true rfl) (Nat.le_of_ble_eq_true rfl) ?_
        exact k0 (by unfold pg_fit; rw [if_pos (by omega)]; first | (simp [*]; done) | simp [Int32.not_le.mpr c52] | simp [Int32.not_le.mpr c58] | simp [Int32.not_lt.mp c52, Int32.not_lt.mp c58])
      · refine r_iconst 12 rfl 1 dX10_isGood_11 rfl ?_
        refine r_goto 16 dX10_isGood_12 rfl ?_
        refine r_zreturn rfl rfl dX10_isGood_16 (Nat.le_of_ble_eq_true rfl) (Nat.le_of_ble_eq_true rfl) ?_
        exact k1 (by unfold pg_fit; rw [if_pos (by omega)]; first | (simp [*]; done) | simp [Int32.not_le.mpr c52] | simp [Int32.not_le.mpr c58] | simp [Int32.not_lt.mp c52, Int32.not_lt.mp c58])
  · have hr3 : ¬ (decide ((49 : Int32) ≤ c) && decide (c ≤ (51 : Int32))) = true := by
      intro q
      simp only [Bool.and_eq_true, decide_eq_true_eq] at q
      exact hr ⟨Int32.le_iff_toInt_le.mp q.1, Int32.le_iff_toInt_le.mp q.2⟩
    have hr5 : c.toInt < 49 ∨ 51 < c.toInt := by omega
    refine r_iload_n 1 rfl 0 dX10_isGood_0 rfl rfl ?_
    refine r_iconst 2 rfl 4 dX10_isGood_1 rfl ?_
    refine r_icmp_ne 5 17 rfl dX10_isGood_2 rfl (fun c2 => ?_) (fun c2 => ?_)
    · replace c2 : ¬ p = 4 := fun q => c2 ((nI_eq (a := p) (b := 4) (by omega) (by omega)).mpr q)
      refine r_iload_n 18 rfl 0 dX10_isGood_17 rfl rfl ?_
      refine r_bipush 20 rfl 9 dX10_isGood_18 (by decide) ?_
      refine r_icmp_ne 23 35 rfl dX10_isGood_20 rfl (fun c20 => ?_) (fun c20 => ?_)
      · replace c20 : ¬ p = 9 := fun q => c20 ((nI_eq (a := p) (b := 9) (by omega) (by omega)).mpr q)
        refine r_iload_n 36 rfl 0 dX10_isGood_35 rfl rfl ?_
        refine r_bipush 38 rfl 10 dX10_isGood_36 (by decide) ?_
        refine r_icmp_ge 41 67 rfl dX10_isGood_38 rfl (fun c38 => ?_) (fun c38 => ?_)
        · replace c38 : 10 ≤ p := (nI_leI (a := 10) (b := p) (by omega) (by omega)).mp c38
          refine r_iload_n 68 rfl 0 dX10_isGood_67 rfl rfl ?_
          refine r_bipush 70 rfl 10 dX10_isGood_68 (by decide) ?_
          refine r_icmp_ne 73 91 rfl dX10_isGood_70 rfl (fun c70 => ?_) (fun c70 => ?_)
          · replace c70 : ¬ p = 10 := fun q => c70 ((nI_eq (a := p) (b := 10) (by omega) (by omega)).mpr q)
            refine r_iconst 92 rfl 0 dX10_isGood_91 rfl ?_
            refine r_zreturn rfl rfl dX10_isGood_92 (Nat.le_of_ble_eq_true rfl) (Nat.le_of_ble_eq_true rfl) ?_
            exact k0 (by unfold pg_fit; first | (rw [if_neg (by omega), if_neg (by omega), if_neg (by omega), if_pos (by omega)]; simp [*]; done) | (rw [if_neg (by omega), if_neg (by omega), if_pos (by omega)]; simp [*]; done) | (rw [if_neg (by omega), if_neg (by omega), if_neg (by omega), if_neg (by omega)]; simp))
          · replace c70 : p = 10 := (nI_eq (a := p) (b := 10) (by omega) (by omega)).mp c70
            refine r_iload_n 74 rfl 1 dX10_isGood_73 rfl rfl ?_
            refine r_i2l 75 rfl dX10_isGood_74 ?_
            refine r_ldc2 78 rfl 49 dX10_isGood_75 (cn_X10_71 rfl) ?_
            refine r_ldc2 81 rfl 51 dX10_isGood_78 (cn_X10_73 rfl) ?_
            refine q_S 84 0 0 rfl [.long c.toInt64, .long 49, .long 51] rfl dX10_isGood_81 cl_X10_isGood__X10_in (lk_X10_64 rfl) st_X10_in (Nat.le_of_ble_eq_true rfl) (fun _ _ => Nat.le_of_ble_eq_true rfl) rfl rfl (Nat.le_of_ble_eq_true rfl) (Nat.le_of_ble_eq_true rfl) ?_
            refine c_in_f (show c.toInt64.toInt < (49 : Int) ∨ (51 : Int) < c.toInt64.toInt by rw [Int32.toInt_toInt64]; omega) (k_i ?_)
            refine r_if_eq 87 91 rfl dX10_isGood_84 rfl (fun _ => ?_) (fun q => absurd (by decide) q)
            refine r_iconst 92 rfl 0 dX10_isGood_91 rfl ?_
            refine r_zreturn rfl rfl dX10_isGood_92 (Nat.le_of_ble_eq_true rfl) (Nat.le_of_ble_eq_true rfl) ?_
            exact k0 (by unfold pg_fit; first | (rw [if_neg (by omega), if_neg (by omega), if_neg (by omega), if_pos (by omega)]; simp [*]; done) | (rw [if_neg (by omega), if_neg (by omega), if_pos (by omega)]; simp [*]; done) | (rw [if_neg (by omega), if_neg (by omega), if_neg (by omega), if_neg (by omega)]; simp))
        · replace c38 : ¬ 10 ≤ p := fun q => c38 ((nI_leI (a := 10) (b := p) (by omega) (by omega)).mpr q)
          refine r_iload_n 42 rfl 1 dX10_isGood_41 rfl rfl ?_
          refine r_bipush 44 rfl 46 dX10_isGood_42 (by decide) ?_
          refine r_icmp_eq 47 59 rfl dX10_isGood_44 rfl (fun c44 => ?_) (fun c44 => ?_)
          · refine r_iconst 60 rfl 1 dX10_isGood_59 rfl ?_
            refine r_goto 92 dX10_isGood_60 rfl ?_
            refine r_zreturn rfl rfl dX10_isGood_92 (Nat.le_of_ble_eq_true rfl) (Nat.le_of_ble_eq_true rfl) ?_
            exact k1 (by unfold pg_fit; first | (rw [if_neg (by omega), if_neg (by omega), if_neg (by omega), if_pos (by omega)]; simp [*]; done) | (rw [if_neg (by omega), if_neg (by omega), if_pos (by omega)]; simp [*]; done) | (rw [if_neg (by omega), if_neg (by omega), if_neg (by omega), if_neg (by omega)]; simp))
          · refine r_iload_n 48 rfl 1 dX10_isGood_47 rfl rfl ?_
            refine r_bipush 50 rfl 35 dX10_isGood_48 (by decide) ?_
            refine r_icmp_eq 53 59 rfl dX10_isGood_50 rfl (fun c50 => ?_) (fun c50 => ?_)
            · refine r_iconst 60 rfl 1 dX10_isGood_59 rfl ?_
              refine r_goto 92 dX10_isGood_60 rfl ?_
              refine r_zreturn rfl rfl dX10_isGood_92 (Nat.le_of_ble_eq_true rfl) (Nat.le_of_ble_eq_true rfl) ?_
              exact k1 (by unfold pg_fit; first | (rw [if_neg (by omega), if_neg (by omega), if_neg (by omega), if_pos (by omega)]; simp [*]; done) | (rw [if_neg (by omega), if_neg (by omega), if_pos (by omega)]; simp [*]; done) | (rw [if_neg (by omega), if_neg (by omega), if_neg (by omega), if_neg (by omega)]; simp))
            · refine r_iload_n 54 rfl 1 dX10_isGood_53 rfl rfl ?_
              refine r_bipush 56 rfl 119 dX10_isGood_54 (by decide) ?_
              refine r_icmp_ne 59 63 rfl dX10_isGood_56 rfl (fun c56 => ?_) (fun c56 => ?_)
              · refine r_iconst 64 rfl 0 dX10_isGood_63 rfl ?_
                refine r_goto 92 dX10_isGood_64 rfl ?_
                refine r_zreturn rfl rfl dX10_isGood_92 (Nat.le_of_ble_eq_true rfl) (Nat.le_of_ble_eq_true rfl) ?_
                exact k0 (by unfold pg_fit; first | (rw [if_neg (by omega), if_neg (by omega), if_neg (by omega), if_pos (by omega)]; simp [*]; done) | (rw [if_neg (by omega), if_neg (by omega), if_pos (by omega)]; simp [*]; done) | (rw [if_neg (by omega), if_neg (by omega), if_neg (by omega), if_neg (by omega)]; simp))
              · refine r_iconst 60 rfl 1 dX10_isGood_59 rfl ?_
                refine r_goto 92 dX10_isGood_60 rfl ?_
                refine r_zreturn rfl rfl dX10_isGood_92 (Nat.le_of_ble_eq_true rfl) (Nat.le_of_ble_eq_true rfl) ?_
                exact k1 (by unfold pg_fit; first | (rw [if_neg (by omega), if_neg (by omega), if_neg (by omega), if_pos (by omega)]; simp [*]; done) | (rw [if_neg (by omega), if_neg (by omega), if_pos (by omega)]; simp [*]; done) | (rw [if_neg (by omega), if_neg (by omega), if_neg (by omega), if_neg (by omega)]; simp))
      · replace c20 : p = 9 := (nI_eq (a := p) (b := 9) (by omega) (by omega)).mp c20
        refine r_iload_n 24 rfl 1 dX10_isGood_23 rfl rfl ?_
        refine r_bipush 26 rfl 59 dX10_isGood_24 (by decide) ?_
        refine r_icmp_ne 29 33 rfl dX10_isGood_26 rfl (fun c26 => ?_) (fun c26 => ?_)
        · refine r_iconst 34 rfl 0 dX10_isGood_33 rfl ?_
          refine r_zreturn rfl rfl dX10_isGood_34 (Nat.le_of_ble_eq_true rfl) (Nat.le_of_ble_eq_true rfl) ?_
          exact k0 (by unfold pg_fit; rw [if_neg (by omega), if_pos (by omega)]; first | (simp [*]; done) | simp [Int32.not_le.mpr c52] | simp [Int32.not_le.mpr c58] | simp [Int32.not_lt.mp c52, Int32.not_lt.mp c58])
        · refine r_iconst 30 rfl 1 dX10_isGood_29 rfl ?_
          refine r_goto 34 dX10_isGood_30 rfl ?_
          refine r_zreturn rfl rfl dX10_isGood_34 (Nat.le_of_ble_eq_true rfl) (Nat.le_of_ble_eq_true rfl) ?_
          exact k1 (by unfold pg_fit; rw [if_neg (by omega), if_pos (by omega)]; first | (simp [*]; done) | simp [Int32.not_le.mpr c52] | simp [Int32.not_le.mpr c58] | simp [Int32.not_lt.mp c52, Int32.not_lt.mp c58])
    · replace c2 : p = 4 := (nI_eq (a := p) (b := 4) (by omega) (by omega)).mp c2
      refine r_iload_n 6 rfl 1 dX10_isGood_5 rfl rfl ?_
      refine r_bipush 8 rfl 47 dX10_isGood_6 (by decide) ?_
      refine r_icmp_ne 11 15 rfl dX10_isGood_8 rfl (fun c8 => ?_) (fun c8 => ?_)
      · refine r_iconst 16 rfl 0 dX10_isGood_15 rfl ?_
        refine r_zreturn rfl rfl dX10_isGood_16 (Nat.le_of_ble_eq_true rfl) (Nat.le_of_ble_eq_true rfl) ?_
        exact k0 (by unfold pg_fit; rw [if_pos (by omega)]; first | (simp [*]; done) | simp [Int32.not_le.mpr c52] | simp [Int32.not_le.mpr c58] | simp [Int32.not_lt.mp c52, Int32.not_lt.mp c58])
      · refine r_iconst 12 rfl 1 dX10_isGood_11 rfl ?_
        refine r_goto 16 dX10_isGood_12 rfl ?_
        refine r_zreturn rfl rfl dX10_isGood_16 (Nat.le_of_ble_eq_true rfl) (Nat.le_of_ble_eq_true rfl) ?_
        exact k1 (by unfold pg_fit; rw [if_pos (by omega)]; first | (simp [*]; done) | simp [Int32.not_le.mpr c52] | simp [Int32.not_le.mpr c58] | simp [Int32.not_lt.mp c52, Int32.not_lt.mp c58])

set_option maxHeartbeats 4000000 in
set_option maxRecDepth 20000 in
theorem lp_firstWrong {Q : am_P} {z : am_Z} {m : Nat → Nat → Int32} {n pm : Nat} (hpm : m 2 1 = nI pm) (hpl : pm ≤ 14) : ∀ (d i : Nat), i + d = pm → Q (some (.int (nI (pg_fw (m 3) d i)))) (wd z m) n → AW mX3_firstWrong Q 2 [some (.ref 2), some (.int (nI i))] [] (wd z m) n 0 0 := by
  intro d
  induction d with
  | zero =>
    intro i hi k
    have hi : i = pm := by omega
    subst hi
    refine r_iload_n 3 rfl 1 dX3_firstWrong_2 rfl rfl ?_
    refine r_aload_n 4 rfl 0 dX3_firstWrong_3 rfl rfl ?_
    refine r_getf (v := .int ((m 2) 1)) (k := 1) 7 rfl dX3_firstWrong_4 (gf_X3_15_3 rfl) rfl rfl ?_
    rw [show (m 2) 1 = nI i from hpm]
    refine r_icmp_ge 10 31 rfl dX3_firstWrong_7 rfl (fun _ => ?_) (fun q => absurd ((nI_leI (a := i) (b := i) (by omega) (by omega)).mpr (by omega)) q)
    refine r_aload_n 32 rfl 0 dX3_firstWrong_31 rfl rfl ?_
    refine r_getf (v := .int ((m 2) 1)) (k := 1) 35 rfl dX3_firstWrong_32 (gf_X3_15_3 rfl) rfl rfl ?_
    rw [show (m 2) 1 = nI i from hpm]
    refine r_ireturn rfl dX3_firstWrong_35 (Nat.le_of_ble_eq_true rfl) (Nat.le_of_ble_eq_true rfl) ?_
    exact k
  | succ d ih =>
    intro i hi k
    unfold pg_fw at k
    refine r_iload_n 3 rfl 1 dX3_firstWrong_2 rfl rfl ?_
    refine r_aload_n 4 rfl 0 dX3_firstWrong_3 rfl rfl ?_
    refine r_getf (v := .int ((m 2) 1)) (k := 1) 7 rfl dX3_firstWrong_4 (gf_X3_15_3 rfl) rfl rfl ?_
    rw [show (m 2) 1 = nI pm from hpm]
    refine r_icmp_ge 10 31 rfl dX3_firstWrong_7 rfl (fun q => absurd q (fun q => absurd ((nI_leI (a := pm) (b := i) (by omega) (by omega)).mp q) (by omega))) (fun _ => ?_)
    refine r_iload_n 11 rfl 1 dX3_firstWrong_10 rfl rfl ?_
    refine r_aload_n 12 rfl 0 dX3_firstWrong_11 rfl rfl ?_
    refine r_getf (v := .ref 3) (k := 0) 15 rfl dX3_firstWrong_12 (gf_X3_11_3 rfl) rfl rfl ?_
    refine r_iload_n 16 rfl 1 dX3_firstWrong_15 rfl rfl ?_
    refine r_iald 17 rfl i dX3_firstWrong_16 rfl rfl (by omega) (by decide) ?_
    refine q_S 20 0 0 rfl [.int (nI i), .int ((m 3) i)] rfl dX3_firstWrong_17 cl_X3_firstWrong__X3_fits (lk_X3_23 rfl) st_X3_fits (Nat.le_of_ble_eq_true rfl) (fun _ _ => Nat.le_of_ble_eq_true rfl) rfl rfl (Nat.le_of_ble_eq_true rfl) (Nat.le_of_ble_eq_true rfl) ?_
    refine c_X3_fits (by omega) (fun hf => (k_i ?_)) (fun hf => (k_i ?_))
    · rw [if_pos hf] at k
      refine r_if_ne 23 25 rfl dX3_firstWrong_20 rfl (fun _ => ?_) (fun q => absurd q (by decide))
      refine r_iinc 28 rfl (nI (i + 1)) [some (.ref 2), some (.int (nI (i + 1)))] dX3_firstWrong_25 rfl (nI_1 _) (by decide) rfl ?_
      refine r_goto 2 dX3_firstWrong_28 rfl ?_
      exact ih (i + 1) (by omega) k
    · rw [if_neg hf] at k
      refine r_if_ne 23 25 rfl dX3_firstWrong_20 rfl (fun q => absurd (by decide) q) (fun _ => ?_)
      refine r_iload_n 24 rfl 1 dX3_firstWrong_23 rfl rfl ?_
      refine r_ireturn rfl dX3_firstWrong_24 (Nat.le_of_ble_eq_true rfl) (Nat.le_of_ble_eq_true rfl) ?_
      exact k

set_option maxHeartbeats 4000000 in
set_option maxRecDepth 20000 in
theorem lp_faultOf {Q : am_P} {z : am_Z} {m : Nat → Nat → Int32} {n pm : Nat} (hpm : m 37 1 = nI pm) (hpl : pm ≤ 14) : ∀ (d i : Nat), i + d = pm → Q (some (.int (nI (pg_fw (m 38) d i)))) (wd z m) n → AW mX10_faultOf Q 2 [some (.ref 37), some (.int (nI i))] [] (wd z m) n 0 0 := by
  intro d
  induction d with
  | zero =>
    intro i hi k
    have hi : i = pm := by omega
    subst hi
    refine r_iload_n 3 rfl 1 dX10_faultOf_2 rfl rfl ?_
    refine r_aload_n 4 rfl 0 dX10_faultOf_3 rfl rfl ?_
    refine r_getf (v := .int ((m 37) 1)) (k := 1) 7 rfl dX10_faultOf_4 (gf_X10_68_10 rfl) rfl rfl ?_
    rw [show (m 37) 1 = nI i from hpm]
    refine r_icmp_ge 10 29 rfl dX10_faultOf_7 rfl (fun _ => ?_) (fun q => absurd ((nI_leI (a := i) (b := i) (by omega) (by omega)).mpr (by omega)) q)
    refine r_iload_n 30 rfl 1 dX10_faultOf_29 rfl rfl ?_
    refine r_ireturn rfl dX10_faultOf_30 (Nat.le_of_ble_eq_true rfl) (Nat.le_of_ble_eq_true rfl) ?_
    exact k
  | succ d ih =>
    intro i hi k
    unfold pg_fw at k
    refine r_iload_n 3 rfl 1 dX10_faultOf_2 rfl rfl ?_
    refine r_aload_n 4 rfl 0 dX10_faultOf_3 rfl rfl ?_
    refine r_getf (v := .int ((m 37) 1)) (k := 1) 7 rfl dX10_faultOf_4 (gf_X10_68_10 rfl) rfl rfl ?_
    rw [show (m 37) 1 = nI pm from hpm]
    refine r_icmp_ge 10 29 rfl dX10_faultOf_7 rfl (fun q => absurd q (fun q => absurd ((nI_leI (a := pm) (b := i) (by omega) (by omega)).mp q) (by omega))) (fun _ => ?_)
    refine r_iload_n 11 rfl 1 dX10_faultOf_10 rfl rfl ?_
    refine r_aload_n 12 rfl 0 dX10_faultOf_11 rfl rfl ?_
    refine r_getf (v := .ref 38) (k := 0) 15 rfl dX10_faultOf_12 (gf_X10_7_10 rfl) rfl rfl ?_
    refine r_iload_n 16 rfl 1 dX10_faultOf_15 rfl rfl ?_
    refine r_iald 17 rfl i dX10_faultOf_16 rfl rfl (by omega) (by decide) ?_
    refine q_S 20 0 0 rfl [.int (nI i), .int ((m 38) i)] rfl dX10_faultOf_17 cl_X10_faultOf__X10_isGood (lk_X10_75 rfl) st_X10_isGood (Nat.le_of_ble_eq_true rfl) (fun _ _ => Nat.le_of_ble_eq_true rfl) rfl rfl (Nat.le_of_ble_eq_true rfl) (Nat.le_of_ble_eq_true rfl) ?_
    refine c_X10_isGood (by omega) (fun hf => (k_i ?_)) (fun hf => (k_i ?_))
    · rw [if_pos hf] at k
      refine r_if_eq 23 29 rfl dX10_faultOf_20 rfl (fun q => absurd q (by decide)) (fun _ => ?_)
      refine r_iinc 26 rfl (nI (i + 1)) [some (.ref 37), some (.int (nI (i + 1)))] dX10_faultOf_23 rfl (nI_1 _) (by decide) rfl ?_
      refine r_goto 2 dX10_faultOf_26 rfl ?_
      exact ih (i + 1) (by omega) k
    · rw [if_neg hf] at k
      refine r_if_eq 23 29 rfl dX10_faultOf_20 rfl (fun _ => ?_) (fun q => absurd (by decide) q)
      refine r_iload_n 30 rfl 1 dX10_faultOf_29 rfl rfl ?_
      refine r_ireturn rfl dX10_faultOf_30 (Nat.le_of_ble_eq_true rfl) (Nat.le_of_ble_eq_true rfl) ?_
      exact k

set_option maxHeartbeats 4000000 in
set_option maxRecDepth 20000 in
theorem c_X3_firstWrong {Q : am_P} {z : am_Z} {m : Nat → Nat → Int32} {n : Nat} {pm : Nat} (hpm : m 2 1 = nI pm) (hpl : pm ≤ 14) (k : Q (some (.int (nI (pg_fw (m 3) pm 0)))) (wd z m) n) : AW mX3_firstWrong Q 0 (am_ent (am_l mX3_firstWrong) [.ref 2]) [] (wd z m) n 0 0 := by
  show AW _ _ 0 [some (.ref 2), none] [] _ _ 0 0
  refine r_iconst 1 rfl 0 dX3_firstWrong_0 rfl ?_
  refine r_istore_n 2 rfl 1 [some (.ref 2), some (.int 0)] dX3_firstWrong_1 rfl (by decide) rfl ?_
  exact lp_firstWrong hpm hpl pm 0 (by omega) k

set_option maxHeartbeats 4000000 in
set_option maxRecDepth 20000 in
theorem c_X10_faultOf {Q : am_P} {z : am_Z} {m : Nat → Nat → Int32} {n : Nat} {pm : Nat} (hpm : m 37 1 = nI pm) (hpl : pm ≤ 14) (k : Q (some (.int (nI (pg_fw (m 38) pm 0)))) (wd z m) n) : AW mX10_faultOf Q 0 (am_ent (am_l mX10_faultOf) [.ref 37]) [] (wd z m) n 0 0 := by
  show AW _ _ 0 [some (.ref 37), none] [] _ _ 0 0
  refine r_iconst 1 rfl 0 dX10_faultOf_0 rfl ?_
  refine r_istore_n 2 rfl 1 [some (.ref 37), some (.int 0)] dX10_faultOf_1 rfl (by decide) rfl ?_
  exact lp_faultOf hpm hpl pm 0 (by omega) k

set_option maxHeartbeats 4000000 in
set_option maxRecDepth 20000 in
theorem c_X9_fault {Q : am_P} {z : am_Z} {m : Nat → Nat → Int32} {n : Nat} {pm : Nat} (hpm : m 2 1 = nI pm) (hpl : pm ≤ 14) (k : Q (some (.int (nI (pg_fw (m 3) pm 0)))) (wd z m) n) : AW mX9_fault Q 0 (am_ent (am_l mX9_fault) [.ref 1]) [] (wd z m) n 0 0 := by
  show AW _ _ 0 [some (.ref 1)] [] _ _ 0 0
  refine r_aload_n 1 rfl 0 dX9_fault_0 rfl rfl ?_
  refine r_getf (v := .ref 2) (k := 0) 4 rfl dX9_fault_1 (gf_X9_12_9 rfl) rfl rfl ?_
  refine q_V 7 0 0 rfl [] rfl dX9_fault_4 cl_X9_fault__X3_firstWrong (lk_X9_74 rfl) im_X3_firstWrong (ci := 3) rfl sl_X3__X3_firstWrong rfl (Nat.le_of_ble_eq_true rfl) (fun _ _ => Nat.le_of_ble_eq_true rfl) rfl rfl (Nat.le_of_ble_eq_true rfl) (Nat.le_of_ble_eq_true rfl) ?_
  refine c_X3_firstWrong hpm hpl (k_i ?_)
  refine r_ireturn rfl dX9_fault_7 (Nat.le_of_ble_eq_true rfl) (Nat.le_of_ble_eq_true rfl) ?_
  exact k

set_option maxHeartbeats 4000000 in
set_option maxRecDepth 20000 in
theorem c_X10_fault {Q : am_P} {z : am_Z} {m : Nat → Nat → Int32} {n : Nat} {pm : Nat} (hpm : m 37 1 = nI pm) (hpl : pm ≤ 14) (k : Q (some (.int (nI (pg_fw (m 38) pm 0)))) (wd z m) n) : AW mX10_fault Q 0 (am_ent (am_l mX10_fault) [.ref 37]) [] (wd z m) n 0 0 := by
  show AW _ _ 0 [some (.ref 37)] [] _ _ 0 0
  refine r_aload_n 1 rfl 0 dX10_fault_0 rfl rfl ?_
  refine q_V 4 0 0 rfl [] rfl dX10_fault_1 cl_X10_fault__X10_faultOf (lk_X10_79 rfl) im_X10_faultOf (ci := 10) rfl sl_X10__X10_faultOf rfl (Nat.le_of_ble_eq_true rfl) (fun _ _ => Nat.le_of_ble_eq_true rfl) rfl rfl (Nat.le_of_ble_eq_true rfl) (Nat.le_of_ble_eq_true rfl) ?_
  refine c_X10_faultOf hpm hpl (k_i ?_)
  refine r_ireturn rfl dX10_fault_4 (Nat.le_of_ble_eq_true rfl) (Nat.le_of_ble_eq_true rfl) ?_
  exact k
end
section
/-! how smells spread: steps, rounds, and that eight rounds do -/
def sp_to (c w : Nat) : Option Nat := if w = 1 then (if c % 4 < 3 then some (c + 1) else none) else if w = 2 then (if 0 < c % 4 then some (c - 1) else none) else if w = 3 then (if c < 4 then some (c + 4) else none) else if w = 4 then (if 4 ≤ c then some (c - 4) else none) else none
theorem sp_to_lt {c w t : Nat} (hc : c < 8) (h : sp_to c w = some t) : t < 8 := by
  unfold sp_to at h
  split at h
  · split at h
    · cases h; omega
    · cases h
  · split at h
    · split at h
      · cases h; omega
      · cases h
    · split at h
      · split at h
        · cases h; omega
        · cases h
      · split at h
        · split at h
          · cases h; omega
          · cases h
        · cases h
def sp_opp (w : Nat) : Nat := if w % 2 = 1 then w + 1 else w - 1
def sp_loss (fd ea wi w g : Nat) : Nat := ((fd : Int) - ea - (if wi = w then 1 else 0) + (if wi = sp_opp w then 1 else 0) + (if g = 2 then 2 else 0)).toNat
/-- where a step leads, and what it costs -/
def sp_E (g : Nat → Nat) (bl : Nat → Bool) (fd ea wi : Nat) (c w : Nat) : Option (Nat × Nat) := match sp_to c w with
  | none => none
  | some t => if g t = 1 ∨ bl t = true then none else some (t, sp_loss fd ea wi w (g t))
theorem sp_E_lt {g : Nat → Nat} {bl : Nat → Bool} {fd ea wi c w t l : Nat} (hc : c < 8) (h : sp_E g bl fd ea wi c w = some (t, l)) : t < 8 := by
  unfold sp_E at h
  split at h
  · cases h
  · rename_i t' ht
    split at h
    · cases h
    · cases h
      exact sp_to_lt hc ht
abbrev sp_G : Type := Nat → Nat → Option (Nat × Nat)
def sp_fire (E : sp_G) (u : Nat → Nat) (c w : Nat) : Bool := match E c w with
  | none => false
  | some q => decide (u q.1 + q.2 < u c)
def sp_st (E : sp_G) (u : Nat → Nat) (c w : Nat) : Nat → Nat := match E c w with
  | none => u
  | some q => if u q.1 + q.2 < u c then va_up u q.1 (u c - q.2) else u
def sp_w (E : sp_G) (u : Nat → Nat) (c : Nat) : Nat → Nat → Nat
  | 0 => u
  | w + 1 => sp_st E (sp_w E u c w) c (w + 1)
def sp_gw (E : sp_G) (u : Nat → Nat) (c : Nat) : Nat → Bool
  | 0 => false
  | w + 1 => sp_gw E u c w || sp_fire E (sp_w E u c w) c (w + 1)
def sp_r (E : sp_G) (u : Nat → Nat) : Nat → Nat → Nat
  | 0 => u
  | c + 1 => sp_w E (sp_r E u c) c 4
def sp_gr (E : sp_G) (u : Nat → Nat) : Nat → Bool
  | 0 => false
  | c + 1 => sp_gr E u c || sp_gw E (sp_r E u c) c 4
def sp_i (E : sp_G) (u : Nat → Nat) : Nat → Nat → Nat
  | 0 => u
  | k + 1 => sp_r E (sp_i E u k) 8
def sp_0 (s force : Nat) : Nat → Nat := fun j => if j = s then force else 0
/-- what is left of a force in each cell -/
def sp_A (E : sp_G) (s force : Nat) : Nat → Nat := sp_i E (sp_0 s force) 8
theorem sp_st_eq {E : sp_G} {u : Nat → Nat} {c w : Nat} (h : sp_fire E u c w = false) : sp_st E u c w = u := by
  unfold sp_fire at h
  unfold sp_st
  cases hE : E c w with
  | none => rfl
  | some q =>
    rw [hE] at h
    simp only [decide_eq_false_iff_not] at h
    simp only [if_neg h]
theorem sp_w_eq {E : sp_G} {u : Nat → Nat} {c : Nat} : ∀ w, sp_gw E u c w = false → sp_w E u c w = u
  | 0, _ => rfl
  | w + 1, h => by
    unfold sp_gw at h
    rw [Bool.or_eq_false_iff] at h
    unfold sp_w
    rw [sp_st_eq h.2, sp_w_eq w h.1]
theorem sp_r_eq {E : sp_G} {u : Nat → Nat} : ∀ c, sp_gr E u c = false → sp_r E u c = u
  | 0, _ => rfl
  | c + 1, h => by
    unfold sp_gr at h
    rw [Bool.or_eq_false_iff] at h
    unfold sp_r
    rw [sp_w_eq 4 h.2, sp_r_eq c h.1]
theorem sp_i_stop {E : sp_G} {u : Nat → Nat} {k : Nat} (h : sp_gr E (sp_i E u k) 8 = false) : ∀ d, sp_i E u (k + d) = sp_i E u k
  | 0 => rfl
  | d + 1 => by
    show sp_r E (sp_i E u (k + d)) 8 = _
    rw [sp_i_stop h d]
    exact sp_r_eq 8 h
/-! no value beyond the first force -/
theorem sp_st_le {E : sp_G} {u : Nat → Nat} {c w F : Nat} (h : ∀ j, u j ≤ F) : ∀ j, sp_st E u c w j ≤ F := by
  intro j
  unfold sp_st
  cases E c w with
  | none => exact h j
  | some q =>
    by_cases hq : u q.1 + q.2 < u c
    · simp only [if_pos hq]
      by_cases hj : j = q.1
      · subst hj
        rw [va_up_self]
        have := h c
        omega
      · rw [va_up_ne _ _ hj]
        exact h j
    · simp only [if_neg hq]
      exact h j
theorem sp_w_le {E : sp_G} {u : Nat → Nat} {c F : Nat} (h : ∀ j, u j ≤ F) : ∀ w j, sp_w E u c w j ≤ F
  | 0 => h
  | w + 1 => sp_st_le (sp_w_le h w)
theorem sp_r_le {E : sp_G} {u : Nat → Nat} {F : Nat} (h : ∀ j, u j ≤ F) : ∀ c j, sp_r E u c j ≤ F
  | 0 => h
  | c + 1 => sp_w_le (sp_r_le h c) 4
theorem sp_i_le {E : sp_G} {u : Nat → Nat} {F : Nat} (h : ∀ j, u j ≤ F) : ∀ k j, sp_i E u k j ≤ F
  | 0 => h
  | k + 1 => sp_r_le (sp_i_le h k) 8
theorem sp_0_le (s F : Nat) : ∀ j, sp_0 s F j ≤ F := by
  intro j
  unfold sp_0
  split <;> omega
theorem sp_A_le (E : sp_G) (s F : Nat) : ∀ j, sp_A E s F j ≤ F := sp_i_le (sp_0_le s F) 8
/-! the same steps, the same values -/
theorem sp_w_congr {E E' : sp_G} {u : Nat → Nat} {c : Nat} (h : ∀ w, E c w = E' c w) : ∀ w, sp_w E u c w = sp_w E' u c w
  | 0 => rfl
  | w + 1 => by
    unfold sp_w sp_st
    rw [sp_w_congr h w, h (w + 1)]
theorem sp_r_congr {E E' : sp_G} {u : Nat → Nat} : ∀ c, (∀ c', c' < c → ∀ w, E c' w = E' c' w) → sp_r E u c = sp_r E' u c
  | 0, _ => rfl
  | c + 1, h => by
    unfold sp_r
    rw [sp_r_congr c (fun c' hc => h c' (by omega)), sp_w_congr (h c (by omega))]
theorem sp_i_congr {E E' : sp_G} {u : Nat → Nat} (h : ∀ c', c' < 8 → ∀ w, E c' w = E' c' w) : ∀ k, sp_i E u k = sp_i E' u k
  | 0 => rfl
  | k + 1 => by
    unfold sp_i
    rw [sp_i_congr h k, sp_r_congr 8 h]
theorem sp_A_congr {E E' : sp_G} {s F : Nat} (h : ∀ c', c' < 8 → ∀ w, E c' w = E' c' w) : sp_A E s F = sp_A E' s F := sp_i_congr h 8
/-! eight different numbers below eight, not nine -/
theorem ph_len : ∀ (n : Nat) (l : List Nat), l.Nodup → (∀ x ∈ l, x < n) → l.length ≤ n
  | 0, l, _, h => by
    cases l with
    | nil => exact Nat.le_refl 0
    | cons a l => exact absurd (h a List.mem_cons_self) (Nat.not_lt_zero a)
  | n + 1, l, hn, h => by
    by_cases hm : n ∈ l
    · have h1 : (l.erase n).length = l.length - 1 := List.length_erase_of_mem hm
      have h2 := ph_len n (l.erase n) (hn.erase n) (fun x hx => by
        have h3 := h x (List.mem_of_mem_erase hx)
        have h4 : x ≠ n := fun e => by
          subst e
          exact absurd hx (List.Nodup.not_mem_erase hn)
        omega)
      omega
    · have h2 := ph_len n l hn (fun x hx => by
        have h3 := h x hx
        have h4 : x ≠ n := fun e => hm (e ▸ hx)
        omega)
      omega
/-- in round r, all steps before (c, w) done: each value has a list of different cells that smell at least as much, longer than the round of its last change; a step that would still fire starts at a cell that changed lately -/
def sp_I (E : sp_G) (u ro : Nat → Nat) (r c w : Nat) : Prop :=
  (∀ t, t < 8 → 0 < u t → ∃ l : List Nat, l.Nodup ∧ (∀ d ∈ l, d < 8 ∧ u t ≤ u d) ∧ ro t + 1 ≤ l.length) ∧
  (∀ c' w' t l, c' < 8 → E c' w' = some (t, l) → u c' ≤ u t + l ∨ r ≤ ro c' + 1) ∧
  (∀ c' w' t l, c' < 8 → (c' < c ∨ (c' = c ∧ w' < w)) → E c' w' = some (t, l) → u c' ≤ u t + l ∨ r ≤ ro c')
theorem sp_I_step {E : sp_G} {u ro : Nat → Nat} {r c w : Nat} (hE : ∀ c w t l, c < 8 → E c w = some (t, l) → t < 8) (hc : c < 8) (h : sp_I E u ro r c w) : (∃ ro', sp_I E (sp_st E u c w) ro' r c (w + 1)) ∧ (8 ≤ r → sp_fire E u c w = false) := by
  obtain ⟨h1, h2, h3⟩ := h
  by_cases hf : sp_fire E u c w = false
  · rw [sp_st_eq hf]
    refine ⟨⟨ro, h1, h2, fun c' w' t l hc' hb he => ?_⟩, fun _ => hf⟩
    by_cases hlast : c' = c ∧ w' = w
    · obtain ⟨rfl, rfl⟩ := hlast
      left
      unfold sp_fire at hf
      rw [he] at hf
      simp only [decide_eq_false_iff_not] at hf
      omega
    · exact h3 c' w' t l hc' (by omega) he
  · unfold sp_fire at hf
    unfold sp_st
    cases he : E c w with
    | none => rw [he] at hf; exact absurd rfl hf
    | some q =>
      obtain ⟨t, l⟩ := q
      rw [he] at hf
      simp only [decide_eq_false_iff_not, Classical.not_not] at hf
      simp only [if_pos hf]
      have ht := hE c w t l hc he
      have hro : r ≤ ro c + 1 := by
        rcases h2 c w t l hc he with q | q
        · omega
        · exact q
      obtain ⟨L, hL1, hL2, hL3⟩ := h1 c hc (by omega)
      have htL : t ∉ L := fun hm => by
        have := (hL2 t hm).2
        omega
      have hlen : (t :: L).length ≤ 8 := ph_len 8 (t :: L) (List.nodup_cons.mpr ⟨htL, hL1⟩) (fun x hx => by
        rcases List.mem_cons.mp hx with rfl | hx
        · exact ht
        · exact (hL2 x hx).1)
      rw [List.length_cons] at hlen
      refine ⟨⟨va_up ro t r, ?_, ?_, ?_⟩, fun h8 => by omega⟩
      · intro t' ht' hpos
        by_cases htt : t' = t
        · subst htt
          rw [va_up_self, va_up_self]
          refine ⟨t' :: L, List.nodup_cons.mpr ⟨htL, hL1⟩, fun d hd => ?_, by rw [List.length_cons]; omega⟩
          rcases List.mem_cons.mp hd with rfl | hd
          · exact ⟨ht, by rw [va_up_self]; exact Nat.le_refl _⟩
          · have hdt : d ≠ t' := fun e => htL (e ▸ hd)
            rw [va_up_ne _ _ hdt]
            have := hL2 d hd
            exact ⟨this.1, by omega⟩
        · rw [va_up_ne _ _ htt] at hpos ⊢
          rw [va_up_ne _ _ htt]
          obtain ⟨L', a1, a2, a3⟩ := h1 t' ht' hpos
          refine ⟨L', a1, fun d hd => ?_, a3⟩
          have := a2 d hd
          refine ⟨this.1, ?_⟩
          by_cases hdt : d = t
          · subst hdt
            rw [va_up_self]
            omega
          · rw [va_up_ne _ _ hdt]
            exact this.2
      · intro c' w' t' l' hc' he'
        by_cases hct : c' = t
        · subst hct
          right
          rw [va_up_self]
          omega
        · rw [va_up_ne _ _ hct, va_up_ne _ _ hct]
          rcases h2 c' w' t' l' hc' he' with q | q
          · left
            by_cases htt : t' = t
            · subst htt
              rw [va_up_self]
              omega
            · rw [va_up_ne _ _ htt]
              exact q
          · exact Or.inr q
      · intro c' w' t' l' hc' hb he'
        by_cases hct : c' = t
        · subst hct
          right
          rw [va_up_self]
          exact Nat.le_refl r
        · rw [va_up_ne _ _ hct, va_up_ne _ _ hct]
          by_cases hlast : c' = c ∧ w' = w
          · obtain ⟨rfl, rfl⟩ := hlast
            rw [he] at he'
            cases he'
            left
            rw [va_up_self]
            omega
          · rcases h3 c' w' t' l' hc' (by omega) he' with q | q
            · left
              by_cases htt : t' = t
              · subst htt
                rw [va_up_self]
                omega
              · rw [va_up_ne _ _ htt]
                exact q
            · exact Or.inr q
theorem sp_I_w {E : sp_G} {u ro : Nat → Nat} {r c : Nat} (hE : ∀ c w t l, c < 8 → E c w = some (t, l) → t < 8) (hc : c < 8) (h : sp_I E u ro r c 1) : ∀ w, (∃ ro', sp_I E (sp_w E u c w) ro' r c (w + 1)) ∧ (8 ≤ r → sp_gw E u c w = false)
  | 0 => ⟨⟨ro, h⟩, fun _ => rfl⟩
  | w + 1 => by
    obtain ⟨⟨ro', h1⟩, h2⟩ := sp_I_w hE hc h w
    obtain ⟨h3, h4⟩ := sp_I_step hE hc h1
    refine ⟨h3, fun h8 => ?_⟩
    unfold sp_gw
    rw [h2 h8, h4 h8]
    rfl
/-- steps by the ways 1 to 4 alone -/
def sp_4 (E : sp_G) : Prop := ∀ c w q, E c w = some q → 1 ≤ w ∧ w ≤ 4
theorem sp_I_r {E : sp_G} {u ro : Nat → Nat} {r : Nat} (hE : ∀ c w t l, c < 8 → E c w = some (t, l) → t < 8) (h4 : sp_4 E) (h : sp_I E u ro r 0 1) : ∀ c, c ≤ 8 → (∃ ro', sp_I E (sp_r E u c) ro' r c 1) ∧ (8 ≤ r → sp_gr E u c = false)
  | 0, _ => ⟨⟨ro, h⟩, fun _ => rfl⟩
  | c + 1, hc => by
    obtain ⟨⟨ro', h1⟩, h2⟩ := sp_I_r hE h4 h c (by omega)
    obtain ⟨⟨ro2, a1, a2, a3⟩, h3⟩ := sp_I_w hE (show c < 8 by omega) h1 4
    refine ⟨⟨ro2, a1, a2, fun c' w' t l hc' hb he => a3 c' w' t l hc' ?_ he⟩, fun h8 => ?_⟩
    · have := h4 c' w' _ he
      omega
    · unfold sp_gr
      rw [h2 h8, h3 h8]
      rfl
theorem sp_I_i {E : sp_G} {s F : Nat} (hs : s < 8) (hE : ∀ c w t l, c < 8 → E c w = some (t, l) → t < 8) (h4 : sp_4 E) : ∀ k, ∃ ro, sp_I E (sp_i E (sp_0 s F) k) ro (k + 1) 0 1
  | 0 => by
    refine ⟨fun _ => 0, fun t ht hp => ?_, fun c' w' t l hc' he => Or.inr (by omega), fun c' w' t l hc' hb he => ?_⟩
    · refine ⟨[t], by simp, fun d hd => ?_, by simp⟩
      rw [List.mem_singleton.mp hd]
      exact ⟨ht, Nat.le_refl _⟩
    · have := h4 c' w' _ he
      omega
  | k + 1 => by
    obtain ⟨ro, h⟩ := sp_I_i hs hE h4 k
    obtain ⟨⟨ro', a1, a2, a3⟩, -⟩ := sp_I_r hE h4 h 8 (Nat.le_refl 8)
    refine ⟨ro', a1, fun c' w' t l hc' he => ?_, fun c' w' t l hc' hb he => ?_⟩
    · rcases a3 c' w' t l hc' (Or.inl hc') he with q | q
      · exact Or.inl q
      · exact Or.inr (by omega)
    · have := h4 c' w' _ he
      omega
/-- eight rounds do: nothing grows in the round behind them -/
theorem sp_done {E : sp_G} {s F : Nat} (hs : s < 8) (hE : ∀ c w t l, c < 8 → E c w = some (t, l) → t < 8) (h4 : sp_4 E) : sp_gr E (sp_i E (sp_0 s F) 8) 8 = false := by
  obtain ⟨ro, h⟩ := sp_I_i (F := F) hs hE h4 8
  exact (sp_I_r hE h4 h 8 (Nat.le_refl 8)).2 (by omega)
theorem sp_E_4 (g : Nat → Nat) (bl : Nat → Bool) (fd ea wi : Nat) : sp_4 (sp_E g bl fd ea wi) := by
  intro c w q h
  unfold sp_E at h
  have ht : sp_to c w ≠ none := fun e => by rw [e] at h; cases h
  unfold sp_to at ht
  by_cases h1 : w = 1
  · omega
  · by_cases h2 : w = 2
    · omega
    · by_cases h3 : w = 3
      · omega
      · by_cases h5 : w = 4
        · omega
        · simp [h1, h2, h3, h5] at ht
theorem sp_E_done {g : Nat → Nat} {bl : Nat → Bool} {fd ea wi s F : Nat} (hs : s < 8) : sp_gr (sp_E g bl fd ea wi) (sp_i (sp_E g bl fd ea wi) (sp_0 s F) 8) 8 = false :=
  sp_done hs (fun _ _ _ _ hc h => sp_E_lt hc h) (sp_E_4 g bl fd ea wi)
/-- wherever it stops, it stops with the same -/
theorem sp_A_stop {E : sp_G} {s F k : Nat} (hk : k ≤ 8) (h : sp_gr E (sp_i E (sp_0 s F) k) 8 = false) : sp_i E (sp_0 s F) k = sp_A E s F := by
  have := sp_i_stop h (8 - k)
  rw [show k + (8 - k) = 8 by omega] at this
  exact this.symm
end
