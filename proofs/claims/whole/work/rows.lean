section
-- ===== PART A: goes FIRST, ahead of the names: the tables' words, and 'selects' of the private methods out of them =====
/-- a private method of a class that the tables say can be made, by its rows of tables_1 -/
def lw_okq (q : MethodName × Nat) : Prop := (q.1.cls ≠ "java/lang/invoke/MethodHandle" ∧ q.1.cls ≠ "java/lang/invoke/VarHandle") ∧ Cond.instantiable q.1.cls q.2 ∈ tables_1 ∧ Cond.privateMethod q.1 ∈ tables_1 ∧ Cond.instanceMethod q.1 ∈ tables_1
theorem lw_p0 : lw_okq (⟨"DrawnFields", "tryField", "(II)I"⟩, 8) := ⟨⟨by decide +kernel, by decide +kernel⟩, List.mem_of_getElem? (i := 15) (by decide +kernel), List.mem_of_getElem? (i := 295) (by decide +kernel), List.mem_of_getElem? (i := 296) (by decide +kernel)⟩
theorem lw_p1 : lw_okq (⟨"DrawnFields", "settled", "(I)I"⟩, 8) := ⟨⟨by decide +kernel, by decide +kernel⟩, List.mem_of_getElem? (i := 15) (by decide +kernel), List.mem_of_getElem? (i := 311) (by decide +kernel), List.mem_of_getElem? (i := 312) (by decide +kernel)⟩
theorem lw_p2 : lw_okq (⟨"DrawnFields", "counted", "(I)I"⟩, 8) := ⟨⟨by decide +kernel, by decide +kernel⟩, List.mem_of_getElem? (i := 15) (by decide +kernel), List.mem_of_getElem? (i := 319) (by decide +kernel), List.mem_of_getElem? (i := 320) (by decide +kernel)⟩
theorem lw_p3 : lw_okq (⟨"DrawnFields", "tryRange", "(III)I"⟩, 8) := ⟨⟨by decide +kernel, by decide +kernel⟩, List.mem_of_getElem? (i := 15) (by decide +kernel), List.mem_of_getElem? (i := 327) (by decide +kernel), List.mem_of_getElem? (i := 328) (by decide +kernel)⟩
theorem lw_p4 : lw_okq (⟨"DrawnFields", "tryWeight", "(III)I"⟩, 8) := ⟨⟨by decide +kernel, by decide +kernel⟩, List.mem_of_getElem? (i := 15) (by decide +kernel), List.mem_of_getElem? (i := 340) (by decide +kernel), List.mem_of_getElem? (i := 341) (by decide +kernel)⟩
theorem lw_p5 : lw_okq (⟨"DrawnFields", "tryRound", "(II)I"⟩, 8) := ⟨⟨by decide +kernel, by decide +kernel⟩, List.mem_of_getElem? (i := 15) (by decide +kernel), List.mem_of_getElem? (i := 348) (by decide +kernel), List.mem_of_getElem? (i := 349) (by decide +kernel)⟩
theorem lw_p6 : lw_okq (⟨"DrawnFields", "tryPlace", "(II)I"⟩, 8) := ⟨⟨by decide +kernel, by decide +kernel⟩, List.mem_of_getElem? (i := 15) (by decide +kernel), List.mem_of_getElem? (i := 356) (by decide +kernel), List.mem_of_getElem? (i := 357) (by decide +kernel)⟩
theorem lw_p7 : lw_okq (⟨"DrawnFields", "tryRule", "(IIIII)I"⟩, 8) := ⟨⟨by decide +kernel, by decide +kernel⟩, List.mem_of_getElem? (i := 15) (by decide +kernel), List.mem_of_getElem? (i := 372) (by decide +kernel), List.mem_of_getElem? (i := 373) (by decide +kernel)⟩
theorem lw_p8 : lw_okq (⟨"DrawnFields", "tryDrop", "(I)I"⟩, 8) := ⟨⟨by decide +kernel, by decide +kernel⟩, List.mem_of_getElem? (i := 15) (by decide +kernel), List.mem_of_getElem? (i := 391) (by decide +kernel), List.mem_of_getElem? (i := 392) (by decide +kernel)⟩
theorem lw_p9 : lw_okq (⟨"DrawnFields$Law", "withSoft", "(LDrawnFields$State;I)I"⟩, 5) := ⟨⟨by decide +kernel, by decide +kernel⟩, List.mem_of_getElem? (i := 163) (by decide +kernel), List.mem_of_getElem? (i := 458) (by decide +kernel), List.mem_of_getElem? (i := 459) (by decide +kernel)⟩
theorem lw_p10 : lw_okq (⟨"DrawnFields$Law", "someRowKeeps", "(I)Z"⟩, 5) := ⟨⟨by decide +kernel, by decide +kernel⟩, List.mem_of_getElem? (i := 163) (by decide +kernel), List.mem_of_getElem? (i := 462) (by decide +kernel), List.mem_of_getElem? (i := 463) (by decide +kernel)⟩
theorem lw_p11 : lw_okq (⟨"DrawnFields$Law", "leastUnkept", "(I)I"⟩, 5) := ⟨⟨by decide +kernel, by decide +kernel⟩, List.mem_of_getElem? (i := 163) (by decide +kernel), List.mem_of_getElem? (i := 466) (by decide +kernel), List.mem_of_getElem? (i := 467) (by decide +kernel)⟩
theorem lw_p12 : lw_okq (⟨"DrawnFields", "factOfRule", "(II)I"⟩, 8) := ⟨⟨by decide +kernel, by decide +kernel⟩, List.mem_of_getElem? (i := 15) (by decide +kernel), List.mem_of_getElem? (i := 479) (by decide +kernel), List.mem_of_getElem? (i := 480) (by decide +kernel)⟩
theorem lw_p13 : lw_okq (⟨"DrawnFields", "tryDraw", "(II)I"⟩, 8) := ⟨⟨by decide +kernel, by decide +kernel⟩, List.mem_of_getElem? (i := 15) (by decide +kernel), List.mem_of_getElem? (i := 552) (by decide +kernel), List.mem_of_getElem? (i := 553) (by decide +kernel)⟩
theorem lw_p14 : lw_okq (⟨"DrawnFields$Drawer", "chanceBelow", "(I)I"⟩, 2) := ⟨⟨by decide +kernel, by decide +kernel⟩, List.mem_of_getElem? (i := 203) (by decide +kernel), List.mem_of_getElem? (i := 584) (by decide +kernel), List.mem_of_getElem? (i := 585) (by decide +kernel)⟩
theorem lw_p15 : lw_okq (⟨"DrawnFields$Drawer", "rowOfWord", "(LDrawnFields$State;IIZ)I"⟩, 2) := ⟨⟨by decide +kernel, by decide +kernel⟩, List.mem_of_getElem? (i := 203) (by decide +kernel), List.mem_of_getElem? (i := 594) (by decide +kernel), List.mem_of_getElem? (i := 595) (by decide +kernel)⟩
def lw_privs_1 : List (MethodName × Nat) := [(⟨"DrawnFields", "tryField", "(II)I"⟩, 8), (⟨"DrawnFields", "settled", "(I)I"⟩, 8), (⟨"DrawnFields", "counted", "(I)I"⟩, 8), (⟨"DrawnFields", "tryRange", "(III)I"⟩, 8), (⟨"DrawnFields", "tryWeight", "(III)I"⟩, 8), (⟨"DrawnFields", "tryRound", "(II)I"⟩, 8), (⟨"DrawnFields", "tryPlace", "(II)I"⟩, 8), (⟨"DrawnFields", "tryRule", "(IIIII)I"⟩, 8), (⟨"DrawnFields", "tryDrop", "(I)I"⟩, 8), (⟨"DrawnFields$Law", "withSoft", "(LDrawnFields$State;I)I"⟩, 5), (⟨"DrawnFields$Law", "someRowKeeps", "(I)Z"⟩, 5), (⟨"DrawnFields$Law", "leastUnkept", "(I)I"⟩, 5), (⟨"DrawnFields", "factOfRule", "(II)I"⟩, 8), (⟨"DrawnFields", "tryDraw", "(II)I"⟩, 8), (⟨"DrawnFields$Drawer", "chanceBelow", "(I)I"⟩, 2), (⟨"DrawnFields$Drawer", "rowOfWord", "(LDrawnFields$State;IIZ)I"⟩, 2)]
theorem lw_r1 : ∀ q ∈ lw_privs_1, lw_okq q := List.forall_mem_cons.mpr ⟨lw_p0, List.forall_mem_cons.mpr ⟨lw_p1, List.forall_mem_cons.mpr ⟨lw_p2, List.forall_mem_cons.mpr ⟨lw_p3, List.forall_mem_cons.mpr ⟨lw_p4, List.forall_mem_cons.mpr ⟨lw_p5, List.forall_mem_cons.mpr ⟨lw_p6, List.forall_mem_cons.mpr ⟨lw_p7, List.forall_mem_cons.mpr ⟨lw_p8, List.forall_mem_cons.mpr ⟨lw_p9, List.forall_mem_cons.mpr ⟨lw_p10, List.forall_mem_cons.mpr ⟨lw_p11, List.forall_mem_cons.mpr ⟨lw_p12, List.forall_mem_cons.mpr ⟨lw_p13, List.forall_mem_cons.mpr ⟨lw_p14, List.forall_mem_cons.mpr ⟨lw_p15, fun _ h => absurd h List.not_mem_nil⟩⟩⟩⟩⟩⟩⟩⟩⟩⟩⟩⟩⟩⟩⟩⟩
theorem lw_p16 : lw_okq (⟨"DrawnFields$Drawer", "takeValue", "(LDrawnFields$Field;I)I"⟩, 2) := ⟨⟨by decide +kernel, by decide +kernel⟩, List.mem_of_getElem? (i := 203) (by decide +kernel), List.mem_of_getElem? (i := 607) (by decide +kernel), List.mem_of_getElem? (i := 608) (by decide +kernel)⟩
theorem lw_p17 : lw_okq (⟨"DrawnFields$Text", "skipBlanks", "()V"⟩, 5) := ⟨⟨by decide +kernel, by decide +kernel⟩, List.mem_of_getElem? (i := 220) (by decide +kernel), List.mem_of_getElem? (i := 654) (by decide +kernel), List.mem_of_getElem? (i := 655) (by decide +kernel)⟩
theorem lw_p18 : lw_okq (⟨"DrawnFields$Text", "readNumber", "(I)Z"⟩, 5) := ⟨⟨by decide +kernel, by decide +kernel⟩, List.mem_of_getElem? (i := 220) (by decide +kernel), List.mem_of_getElem? (i := 661) (by decide +kernel), List.mem_of_getElem? (i := 662) (by decide +kernel)⟩
theorem lw_p19 : lw_okq (⟨"DrawnFields$Text", "isFigure", "()Z"⟩, 5) := ⟨⟨by decide +kernel, by decide +kernel⟩, List.mem_of_getElem? (i := 220) (by decide +kernel), List.mem_of_getElem? (i := 665) (by decide +kernel), List.mem_of_getElem? (i := 666) (by decide +kernel)⟩
theorem lw_p20 : lw_okq (⟨"DrawnFields", "performOrder", "()I"⟩, 8) := ⟨⟨by decide +kernel, by decide +kernel⟩, List.mem_of_getElem? (i := 15) (by decide +kernel), List.mem_of_getElem? (i := 670) (by decide +kernel), List.mem_of_getElem? (i := 671) (by decide +kernel)⟩
theorem lw_p21 : lw_okq (⟨"DrawnFields", "factOfAll", "(I)I"⟩, 8) := ⟨⟨by decide +kernel, by decide +kernel⟩, List.mem_of_getElem? (i := 15) (by decide +kernel), List.mem_of_getElem? (i := 686) (by decide +kernel), List.mem_of_getElem? (i := 687) (by decide +kernel)⟩
theorem lw_p22 : lw_okq (⟨"DrawnFields", "digestOfField", "(JI)J"⟩, 8) := ⟨⟨by decide +kernel, by decide +kernel⟩, List.mem_of_getElem? (i := 15) (by decide +kernel), List.mem_of_getElem? (i := 696) (by decide +kernel), List.mem_of_getElem? (i := 697) (by decide +kernel)⟩
theorem lw_p23 : lw_okq (⟨"DrawnFields", "digestOfDrawn", "(J)J"⟩, 8) := ⟨⟨by decide +kernel, by decide +kernel⟩, List.mem_of_getElem? (i := 15) (by decide +kernel), List.mem_of_getElem? (i := 700) (by decide +kernel), List.mem_of_getElem? (i := 701) (by decide +kernel)⟩
theorem lw_p24 : lw_okq (⟨"DrawnFieldsModel", "refuses", "(I)I"⟩, 22) := ⟨⟨by decide +kernel, by decide +kernel⟩, List.mem_of_getElem? (i := 704) (by decide +kernel), List.mem_of_getElem? (i := 782) (by decide +kernel), List.mem_of_getElem? (i := 783) (by decide +kernel)⟩
theorem lw_p25 : lw_okq (⟨"DrawnFieldsModel", "hold", "()V"⟩, 22) := ⟨⟨by decide +kernel, by decide +kernel⟩, List.mem_of_getElem? (i := 704) (by decide +kernel), List.mem_of_getElem? (i := 790) (by decide +kernel), List.mem_of_getElem? (i := 791) (by decide +kernel)⟩
theorem lw_p26 : lw_okq (⟨"DrawnFieldsModel", "doField", "(II)I"⟩, 22) := ⟨⟨by decide +kernel, by decide +kernel⟩, List.mem_of_getElem? (i := 704) (by decide +kernel), List.mem_of_getElem? (i := 794) (by decide +kernel), List.mem_of_getElem? (i := 795) (by decide +kernel)⟩
theorem lw_p27 : lw_okq (⟨"DrawnFieldsModel", "put", "(III)V"⟩, 22) := ⟨⟨by decide +kernel, by decide +kernel⟩, List.mem_of_getElem? (i := 704) (by decide +kernel), List.mem_of_getElem? (i := 801) (by decide +kernel), List.mem_of_getElem? (i := 802) (by decide +kernel)⟩
theorem lw_p28 : lw_okq (⟨"DrawnFieldsModel", "empty", "()V"⟩, 22) := ⟨⟨by decide +kernel, by decide +kernel⟩, List.mem_of_getElem? (i := 704) (by decide +kernel), List.mem_of_getElem? (i := 805) (by decide +kernel), List.mem_of_getElem? (i := 806) (by decide +kernel)⟩
theorem lw_p29 : lw_okq (⟨"DrawnFieldsModel", "ends", "(I)I"⟩, 22) := ⟨⟨by decide +kernel, by decide +kernel⟩, List.mem_of_getElem? (i := 704) (by decide +kernel), List.mem_of_getElem? (i := 809) (by decide +kernel), List.mem_of_getElem? (i := 810) (by decide +kernel)⟩
theorem lw_p30 : lw_okq (⟨"DrawnFieldsModel", "push", "()V"⟩, 22) := ⟨⟨by decide +kernel, by decide +kernel⟩, List.mem_of_getElem? (i := 704) (by decide +kernel), List.mem_of_getElem? (i := 813) (by decide +kernel), List.mem_of_getElem? (i := 814) (by decide +kernel)⟩
theorem lw_p31 : lw_okq (⟨"DrawnFieldsModel", "doRange", "(III)I"⟩, 22) := ⟨⟨by decide +kernel, by decide +kernel⟩, List.mem_of_getElem? (i := 704) (by decide +kernel), List.mem_of_getElem? (i := 821) (by decide +kernel), List.mem_of_getElem? (i := 822) (by decide +kernel)⟩
def lw_privs_2 : List (MethodName × Nat) := [(⟨"DrawnFields$Drawer", "takeValue", "(LDrawnFields$Field;I)I"⟩, 2), (⟨"DrawnFields$Text", "skipBlanks", "()V"⟩, 5), (⟨"DrawnFields$Text", "readNumber", "(I)Z"⟩, 5), (⟨"DrawnFields$Text", "isFigure", "()Z"⟩, 5), (⟨"DrawnFields", "performOrder", "()I"⟩, 8), (⟨"DrawnFields", "factOfAll", "(I)I"⟩, 8), (⟨"DrawnFields", "digestOfField", "(JI)J"⟩, 8), (⟨"DrawnFields", "digestOfDrawn", "(J)J"⟩, 8), (⟨"DrawnFieldsModel", "refuses", "(I)I"⟩, 22), (⟨"DrawnFieldsModel", "hold", "()V"⟩, 22), (⟨"DrawnFieldsModel", "doField", "(II)I"⟩, 22), (⟨"DrawnFieldsModel", "put", "(III)V"⟩, 22), (⟨"DrawnFieldsModel", "empty", "()V"⟩, 22), (⟨"DrawnFieldsModel", "ends", "(I)I"⟩, 22), (⟨"DrawnFieldsModel", "push", "()V"⟩, 22), (⟨"DrawnFieldsModel", "doRange", "(III)I"⟩, 22)]
theorem lw_r2 : ∀ q ∈ lw_privs_2, lw_okq q := List.forall_mem_cons.mpr ⟨lw_p16, List.forall_mem_cons.mpr ⟨lw_p17, List.forall_mem_cons.mpr ⟨lw_p18, List.forall_mem_cons.mpr ⟨lw_p19, List.forall_mem_cons.mpr ⟨lw_p20, List.forall_mem_cons.mpr ⟨lw_p21, List.forall_mem_cons.mpr ⟨lw_p22, List.forall_mem_cons.mpr ⟨lw_p23, List.forall_mem_cons.mpr ⟨lw_p24, List.forall_mem_cons.mpr ⟨lw_p25, List.forall_mem_cons.mpr ⟨lw_p26, List.forall_mem_cons.mpr ⟨lw_p27, List.forall_mem_cons.mpr ⟨lw_p28, List.forall_mem_cons.mpr ⟨lw_p29, List.forall_mem_cons.mpr ⟨lw_p30, List.forall_mem_cons.mpr ⟨lw_p31, fun _ h => absurd h List.not_mem_nil⟩⟩⟩⟩⟩⟩⟩⟩⟩⟩⟩⟩⟩⟩⟩⟩
theorem lw_p32 : lw_okq (⟨"DrawnFieldsModel", "isField", "(I)Z"⟩, 22) := ⟨⟨by decide +kernel, by decide +kernel⟩, List.mem_of_getElem? (i := 704) (by decide +kernel), List.mem_of_getElem? (i := 825) (by decide +kernel), List.mem_of_getElem? (i := 826) (by decide +kernel)⟩
theorem lw_p33 : lw_okq (⟨"DrawnFieldsModel", "doWeighs", "(III)I"⟩, 22) := ⟨⟨by decide +kernel, by decide +kernel⟩, List.mem_of_getElem? (i := 704) (by decide +kernel), List.mem_of_getElem? (i := 833) (by decide +kernel), List.mem_of_getElem? (i := 834) (by decide +kernel)⟩
theorem lw_p34 : lw_okq (⟨"DrawnFieldsModel", "ofField", "(II)I"⟩, 22) := ⟨⟨by decide +kernel, by decide +kernel⟩, List.mem_of_getElem? (i := 704) (by decide +kernel), List.mem_of_getElem? (i := 837) (by decide +kernel), List.mem_of_getElem? (i := 838) (by decide +kernel)⟩
theorem lw_p35 : lw_okq (⟨"DrawnFieldsModel", "doRound", "(II)I"⟩, 22) := ⟨⟨by decide +kernel, by decide +kernel⟩, List.mem_of_getElem? (i := 704) (by decide +kernel), List.mem_of_getElem? (i := 845) (by decide +kernel), List.mem_of_getElem? (i := 846) (by decide +kernel)⟩
theorem lw_p36 : lw_okq (⟨"DrawnFieldsModel", "placeOf", "(I)I"⟩, 22) := ⟨⟨by decide +kernel, by decide +kernel⟩, List.mem_of_getElem? (i := 704) (by decide +kernel), List.mem_of_getElem? (i := 853) (by decide +kernel), List.mem_of_getElem? (i := 854) (by decide +kernel)⟩
theorem lw_p37 : lw_okq (⟨"DrawnFieldsModel", "doRule", "(IIIII)I"⟩, 22) := ⟨⟨by decide +kernel, by decide +kernel⟩, List.mem_of_getElem? (i := 704) (by decide +kernel), List.mem_of_getElem? (i := 861) (by decide +kernel), List.mem_of_getElem? (i := 862) (by decide +kernel)⟩
theorem lw_p38 : lw_okq (⟨"DrawnFieldsModel", "doDrops", "(I)I"⟩, 22) := ⟨⟨by decide +kernel, by decide +kernel⟩, List.mem_of_getElem? (i := 704) (by decide +kernel), List.mem_of_getElem? (i := 872) (by decide +kernel), List.mem_of_getElem? (i := 873) (by decide +kernel)⟩
theorem lw_p39 : lw_okq (⟨"DrawnFieldsModel", "isRule", "(I)Z"⟩, 22) := ⟨⟨by decide +kernel, by decide +kernel⟩, List.mem_of_getElem? (i := 704) (by decide +kernel), List.mem_of_getElem? (i := 876) (by decide +kernel), List.mem_of_getElem? (i := 877) (by decide +kernel)⟩
theorem lw_p40 : lw_okq (⟨"DrawnFieldsModel", "ofAll", "(II)I"⟩, 22) := ⟨⟨by decide +kernel, by decide +kernel⟩, List.mem_of_getElem? (i := 704) (by decide +kernel), List.mem_of_getElem? (i := 884) (by decide +kernel), List.mem_of_getElem? (i := 885) (by decide +kernel)⟩
theorem lw_p41 : lw_okq (⟨"DrawnFieldsModel", "aboutRule", "(II)I"⟩, 22) := ⟨⟨by decide +kernel, by decide +kernel⟩, List.mem_of_getElem? (i := 704) (by decide +kernel), List.mem_of_getElem? (i := 892) (by decide +kernel), List.mem_of_getElem? (i := 893) (by decide +kernel)⟩
theorem lw_p42 : lw_okq (⟨"DrawnFieldsModel", "ofRule", "(II)I"⟩, 22) := ⟨⟨by decide +kernel, by decide +kernel⟩, List.mem_of_getElem? (i := 704) (by decide +kernel), List.mem_of_getElem? (i := 896) (by decide +kernel), List.mem_of_getElem? (i := 897) (by decide +kernel)⟩
theorem lw_p43 : lw_okq (⟨"DrawnFieldsModel", "lay", "()V"⟩, 22) := ⟨⟨by decide +kernel, by decide +kernel⟩, List.mem_of_getElem? (i := 704) (by decide +kernel), List.mem_of_getElem? (i := 900) (by decide +kernel), List.mem_of_getElem? (i := 901) (by decide +kernel)⟩
theorem lw_p44 : lw_okq (⟨"DrawnFieldsModel", "first", "()I"⟩, 22) := ⟨⟨by decide +kernel, by decide +kernel⟩, List.mem_of_getElem? (i := 704) (by decide +kernel), List.mem_of_getElem? (i := 904) (by decide +kernel), List.mem_of_getElem? (i := 905) (by decide +kernel)⟩
theorem lw_p45 : lw_okq (⟨"DrawnFieldsModel", "fields", "()I"⟩, 22) := ⟨⟨by decide +kernel, by decide +kernel⟩, List.mem_of_getElem? (i := 704) (by decide +kernel), List.mem_of_getElem? (i := 908) (by decide +kernel), List.mem_of_getElem? (i := 909) (by decide +kernel)⟩
theorem lw_p46 : lw_okq (⟨"DrawnFieldsModel", "keptBy", "(I)I"⟩, 22) := ⟨⟨by decide +kernel, by decide +kernel⟩, List.mem_of_getElem? (i := 704) (by decide +kernel), List.mem_of_getElem? (i := 912) (by decide +kernel), List.mem_of_getElem? (i := 913) (by decide +kernel)⟩
theorem lw_p47 : lw_okq (⟨"DrawnFieldsModel", "keeps", "(II)Z"⟩, 22) := ⟨⟨by decide +kernel, by decide +kernel⟩, List.mem_of_getElem? (i := 704) (by decide +kernel), List.mem_of_getElem? (i := 916) (by decide +kernel), List.mem_of_getElem? (i := 917) (by decide +kernel)⟩
def lw_privs_3 : List (MethodName × Nat) := [(⟨"DrawnFieldsModel", "isField", "(I)Z"⟩, 22), (⟨"DrawnFieldsModel", "doWeighs", "(III)I"⟩, 22), (⟨"DrawnFieldsModel", "ofField", "(II)I"⟩, 22), (⟨"DrawnFieldsModel", "doRound", "(II)I"⟩, 22), (⟨"DrawnFieldsModel", "placeOf", "(I)I"⟩, 22), (⟨"DrawnFieldsModel", "doRule", "(IIIII)I"⟩, 22), (⟨"DrawnFieldsModel", "doDrops", "(I)I"⟩, 22), (⟨"DrawnFieldsModel", "isRule", "(I)Z"⟩, 22), (⟨"DrawnFieldsModel", "ofAll", "(II)I"⟩, 22), (⟨"DrawnFieldsModel", "aboutRule", "(II)I"⟩, 22), (⟨"DrawnFieldsModel", "ofRule", "(II)I"⟩, 22), (⟨"DrawnFieldsModel", "lay", "()V"⟩, 22), (⟨"DrawnFieldsModel", "first", "()I"⟩, 22), (⟨"DrawnFieldsModel", "fields", "()I"⟩, 22), (⟨"DrawnFieldsModel", "keptBy", "(I)I"⟩, 22), (⟨"DrawnFieldsModel", "keeps", "(II)Z"⟩, 22)]
theorem lw_r3 : ∀ q ∈ lw_privs_3, lw_okq q := List.forall_mem_cons.mpr ⟨lw_p32, List.forall_mem_cons.mpr ⟨lw_p33, List.forall_mem_cons.mpr ⟨lw_p34, List.forall_mem_cons.mpr ⟨lw_p35, List.forall_mem_cons.mpr ⟨lw_p36, List.forall_mem_cons.mpr ⟨lw_p37, List.forall_mem_cons.mpr ⟨lw_p38, List.forall_mem_cons.mpr ⟨lw_p39, List.forall_mem_cons.mpr ⟨lw_p40, List.forall_mem_cons.mpr ⟨lw_p41, List.forall_mem_cons.mpr ⟨lw_p42, List.forall_mem_cons.mpr ⟨lw_p43, List.forall_mem_cons.mpr ⟨lw_p44, List.forall_mem_cons.mpr ⟨lw_p45, List.forall_mem_cons.mpr ⟨lw_p46, List.forall_mem_cons.mpr ⟨lw_p47, fun _ h => absurd h List.not_mem_nil⟩⟩⟩⟩⟩⟩⟩⟩⟩⟩⟩⟩⟩⟩⟩⟩
theorem lw_p48 : lw_okq (⟨"DrawnFieldsModel", "valueOf", "(II)I"⟩, 22) := ⟨⟨by decide +kernel, by decide +kernel⟩, List.mem_of_getElem? (i := 704) (by decide +kernel), List.mem_of_getElem? (i := 920) (by decide +kernel), List.mem_of_getElem? (i := 921) (by decide +kernel)⟩
theorem lw_p49 : lw_okq (⟨"DrawnFieldsModel", "next", "(I)I"⟩, 22) := ⟨⟨by decide +kernel, by decide +kernel⟩, List.mem_of_getElem? (i := 704) (by decide +kernel), List.mem_of_getElem? (i := 927) (by decide +kernel), List.mem_of_getElem? (i := 928) (by decide +kernel)⟩
theorem lw_p50 : lw_okq (⟨"DrawnFieldsModel", "lookAtSoft", "()V"⟩, 22) := ⟨⟨by decide +kernel, by decide +kernel⟩, List.mem_of_getElem? (i := 704) (by decide +kernel), List.mem_of_getElem? (i := 931) (by decide +kernel), List.mem_of_getElem? (i := 932) (by decide +kernel)⟩
theorem lw_p51 : lw_okq (⟨"DrawnFieldsModel", "hard", "()I"⟩, 22) := ⟨⟨by decide +kernel, by decide +kernel⟩, List.mem_of_getElem? (i := 704) (by decide +kernel), List.mem_of_getElem? (i := 935) (by decide +kernel), List.mem_of_getElem? (i := 936) (by decide +kernel)⟩
theorem lw_p52 : lw_okq (⟨"DrawnFieldsModel", "isSome", "(I)Z"⟩, 22) := ⟨⟨by decide +kernel, by decide +kernel⟩, List.mem_of_getElem? (i := 704) (by decide +kernel), List.mem_of_getElem? (i := 939) (by decide +kernel), List.mem_of_getElem? (i := 940) (by decide +kernel)⟩
theorem lw_p53 : lw_okq (⟨"DrawnFieldsModel", "heavyOf", "(II)I"⟩, 22) := ⟨⟨by decide +kernel, by decide +kernel⟩, List.mem_of_getElem? (i := 704) (by decide +kernel), List.mem_of_getElem? (i := 955) (by decide +kernel), List.mem_of_getElem? (i := 956) (by decide +kernel)⟩
theorem lw_p54 : lw_okq (⟨"DrawnFieldsModel", "weightOf", "(I)I"⟩, 22) := ⟨⟨by decide +kernel, by decide +kernel⟩, List.mem_of_getElem? (i := 704) (by decide +kernel), List.mem_of_getElem? (i := 959) (by decide +kernel), List.mem_of_getElem? (i := 960) (by decide +kernel)⟩
theorem lw_p55 : lw_okq (⟨"DrawnFieldsModel", "sumsOf", "(I)I"⟩, 22) := ⟨⟨by decide +kernel, by decide +kernel⟩, List.mem_of_getElem? (i := 704) (by decide +kernel), List.mem_of_getElem? (i := 967) (by decide +kernel), List.mem_of_getElem? (i := 968) (by decide +kernel)⟩
theorem lw_p56 : lw_okq (⟨"DrawnFieldsModel", "sumOf", "(I)I"⟩, 22) := ⟨⟨by decide +kernel, by decide +kernel⟩, List.mem_of_getElem? (i := 704) (by decide +kernel), List.mem_of_getElem? (i := 971) (by decide +kernel), List.mem_of_getElem? (i := 972) (by decide +kernel)⟩
theorem lw_p57 : lw_okq (⟨"DrawnFieldsModel", "doDraws", "(II)I"⟩, 22) := ⟨⟨by decide +kernel, by decide +kernel⟩, List.mem_of_getElem? (i := 704) (by decide +kernel), List.mem_of_getElem? (i := 991) (by decide +kernel), List.mem_of_getElem? (i := 992) (by decide +kernel)⟩
theorem lw_p58 : lw_okq (⟨"DrawnFieldsModel", "takeTogether", "()I"⟩, 22) := ⟨⟨by decide +kernel, by decide +kernel⟩, List.mem_of_getElem? (i := 704) (by decide +kernel), List.mem_of_getElem? (i := 996) (by decide +kernel), List.mem_of_getElem? (i := 997) (by decide +kernel)⟩
theorem lw_p59 : lw_okq (⟨"DrawnFieldsModel", "valuesOf", "(I)I"⟩, 22) := ⟨⟨by decide +kernel, by decide +kernel⟩, List.mem_of_getElem? (i := 704) (by decide +kernel), List.mem_of_getElem? (i := 1000) (by decide +kernel), List.mem_of_getElem? (i := 1001) (by decide +kernel)⟩
theorem lw_p60 : lw_okq (⟨"DrawnFieldsModel", "limit", "(II)V"⟩, 22) := ⟨⟨by decide +kernel, by decide +kernel⟩, List.mem_of_getElem? (i := 704) (by decide +kernel), List.mem_of_getElem? (i := 1004) (by decide +kernel), List.mem_of_getElem? (i := 1005) (by decide +kernel)⟩
theorem lw_p61 : lw_okq (⟨"DrawnFieldsModel", "drawBy", "(I)I"⟩, 22) := ⟨⟨by decide +kernel, by decide +kernel⟩, List.mem_of_getElem? (i := 704) (by decide +kernel), List.mem_of_getElem? (i := 1008) (by decide +kernel), List.mem_of_getElem? (i := 1009) (by decide +kernel)⟩
theorem lw_p62 : lw_okq (⟨"DrawnFieldsModel", "takeInOrder", "()I"⟩, 22) := ⟨⟨by decide +kernel, by decide +kernel⟩, List.mem_of_getElem? (i := 704) (by decide +kernel), List.mem_of_getElem? (i := 1016) (by decide +kernel), List.mem_of_getElem? (i := 1017) (by decide +kernel)⟩
theorem lw_p63 : lw_okq (⟨"DrawnFieldsModel", "valueDrawn", "(II)I"⟩, 22) := ⟨⟨by decide +kernel, by decide +kernel⟩, List.mem_of_getElem? (i := 704) (by decide +kernel), List.mem_of_getElem? (i := 1020) (by decide +kernel), List.mem_of_getElem? (i := 1021) (by decide +kernel)⟩
def lw_privs_4 : List (MethodName × Nat) := [(⟨"DrawnFieldsModel", "valueOf", "(II)I"⟩, 22), (⟨"DrawnFieldsModel", "next", "(I)I"⟩, 22), (⟨"DrawnFieldsModel", "lookAtSoft", "()V"⟩, 22), (⟨"DrawnFieldsModel", "hard", "()I"⟩, 22), (⟨"DrawnFieldsModel", "isSome", "(I)Z"⟩, 22), (⟨"DrawnFieldsModel", "heavyOf", "(II)I"⟩, 22), (⟨"DrawnFieldsModel", "weightOf", "(I)I"⟩, 22), (⟨"DrawnFieldsModel", "sumsOf", "(I)I"⟩, 22), (⟨"DrawnFieldsModel", "sumOf", "(I)I"⟩, 22), (⟨"DrawnFieldsModel", "doDraws", "(II)I"⟩, 22), (⟨"DrawnFieldsModel", "takeTogether", "()I"⟩, 22), (⟨"DrawnFieldsModel", "valuesOf", "(I)I"⟩, 22), (⟨"DrawnFieldsModel", "limit", "(II)V"⟩, 22), (⟨"DrawnFieldsModel", "drawBy", "(I)I"⟩, 22), (⟨"DrawnFieldsModel", "takeInOrder", "()I"⟩, 22), (⟨"DrawnFieldsModel", "valueDrawn", "(II)I"⟩, 22)]
theorem lw_r4 : ∀ q ∈ lw_privs_4, lw_okq q := List.forall_mem_cons.mpr ⟨lw_p48, List.forall_mem_cons.mpr ⟨lw_p49, List.forall_mem_cons.mpr ⟨lw_p50, List.forall_mem_cons.mpr ⟨lw_p51, List.forall_mem_cons.mpr ⟨lw_p52, List.forall_mem_cons.mpr ⟨lw_p53, List.forall_mem_cons.mpr ⟨lw_p54, List.forall_mem_cons.mpr ⟨lw_p55, List.forall_mem_cons.mpr ⟨lw_p56, List.forall_mem_cons.mpr ⟨lw_p57, List.forall_mem_cons.mpr ⟨lw_p58, List.forall_mem_cons.mpr ⟨lw_p59, List.forall_mem_cons.mpr ⟨lw_p60, List.forall_mem_cons.mpr ⟨lw_p61, List.forall_mem_cons.mpr ⟨lw_p62, List.forall_mem_cons.mpr ⟨lw_p63, fun _ h => absurd h List.not_mem_nil⟩⟩⟩⟩⟩⟩⟩⟩⟩⟩⟩⟩⟩⟩⟩⟩
theorem lw_p64 : lw_okq (⟨"DrawnFieldsModel", "here", "()I"⟩, 22) := ⟨⟨by decide +kernel, by decide +kernel⟩, List.mem_of_getElem? (i := 704) (by decide +kernel), List.mem_of_getElem? (i := 1040) (by decide +kernel), List.mem_of_getElem? (i := 1041) (by decide +kernel)⟩
theorem lw_p65 : lw_okq (⟨"DrawnFieldsModel", "must", "(Z)V"⟩, 22) := ⟨⟨by decide +kernel, by decide +kernel⟩, List.mem_of_getElem? (i := 704) (by decide +kernel), List.mem_of_getElem? (i := 1044) (by decide +kernel), List.mem_of_getElem? (i := 1045) (by decide +kernel)⟩
theorem lw_p66 : lw_okq (⟨"DrawnFieldsModel", "readOrder", "()V"⟩, 22) := ⟨⟨by decide +kernel, by decide +kernel⟩, List.mem_of_getElem? (i := 704) (by decide +kernel), List.mem_of_getElem? (i := 1048) (by decide +kernel), List.mem_of_getElem? (i := 1049) (by decide +kernel)⟩
theorem lw_p67 : lw_okq (⟨"DrawnFieldsModel", "number", "()I"⟩, 22) := ⟨⟨by decide +kernel, by decide +kernel⟩, List.mem_of_getElem? (i := 704) (by decide +kernel), List.mem_of_getElem? (i := 1055) (by decide +kernel), List.mem_of_getElem? (i := 1056) (by decide +kernel)⟩
theorem lw_p68 : lw_okq (⟨"DrawnFieldsModel", "isFigure", "()Z"⟩, 22) := ⟨⟨by decide +kernel, by decide +kernel⟩, List.mem_of_getElem? (i := 704) (by decide +kernel), List.mem_of_getElem? (i := 1059) (by decide +kernel), List.mem_of_getElem? (i := 1060) (by decide +kernel)⟩
theorem lw_p69 : lw_okq (⟨"DrawnFieldsModel", "doOrder", "(I)I"⟩, 22) := ⟨⟨by decide +kernel, by decide +kernel⟩, List.mem_of_getElem? (i := 704) (by decide +kernel), List.mem_of_getElem? (i := 1063) (by decide +kernel), List.mem_of_getElem? (i := 1064) (by decide +kernel)⟩
theorem lw_p70 : lw_okq (⟨"DrawnFieldsModel", "toldOf", "(I)I"⟩, 22) := ⟨⟨by decide +kernel, by decide +kernel⟩, List.mem_of_getElem? (i := 704) (by decide +kernel), List.mem_of_getElem? (i := 1071) (by decide +kernel), List.mem_of_getElem? (i := 1072) (by decide +kernel)⟩
theorem lw_p71 : lw_okq (⟨"DrawnFieldsModel", "mix", "(I)V"⟩, 22) := ⟨⟨by decide +kernel, by decide +kernel⟩, List.mem_of_getElem? (i := 704) (by decide +kernel), List.mem_of_getElem? (i := 1080) (by decide +kernel), List.mem_of_getElem? (i := 1081) (by decide +kernel)⟩
def lw_privs_5 : List (MethodName × Nat) := [(⟨"DrawnFieldsModel", "here", "()I"⟩, 22), (⟨"DrawnFieldsModel", "must", "(Z)V"⟩, 22), (⟨"DrawnFieldsModel", "readOrder", "()V"⟩, 22), (⟨"DrawnFieldsModel", "number", "()I"⟩, 22), (⟨"DrawnFieldsModel", "isFigure", "()Z"⟩, 22), (⟨"DrawnFieldsModel", "doOrder", "(I)I"⟩, 22), (⟨"DrawnFieldsModel", "toldOf", "(I)I"⟩, 22), (⟨"DrawnFieldsModel", "mix", "(I)V"⟩, 22)]
theorem lw_r5 : ∀ q ∈ lw_privs_5, lw_okq q := List.forall_mem_cons.mpr ⟨lw_p64, List.forall_mem_cons.mpr ⟨lw_p65, List.forall_mem_cons.mpr ⟨lw_p66, List.forall_mem_cons.mpr ⟨lw_p67, List.forall_mem_cons.mpr ⟨lw_p68, List.forall_mem_cons.mpr ⟨lw_p69, List.forall_mem_cons.mpr ⟨lw_p70, List.forall_mem_cons.mpr ⟨lw_p71, fun _ h => absurd h List.not_mem_nil⟩⟩⟩⟩⟩⟩⟩⟩
def lw_privs : List (MethodName × Nat) := lw_privs_1 ++ (lw_privs_2 ++ (lw_privs_3 ++ (lw_privs_4 ++ (lw_privs_5))))
def lw_tbl : List Cond := k2_sels lw_privs ++ tables_1
theorem lw_privs_ok : ∀ q ∈ lw_privs, lw_okq q := by
  show ∀ q ∈ lw_privs_1 ++ (lw_privs_2 ++ (lw_privs_3 ++ (lw_privs_4 ++ (lw_privs_5)))), lw_okq q
  exact List.forall_mem_append.mpr ⟨lw_r1, List.forall_mem_append.mpr ⟨lw_r2, List.forall_mem_append.mpr ⟨lw_r3, List.forall_mem_append.mpr ⟨lw_r4, lw_r5⟩⟩⟩⟩

/-! ===== BEGIN words of one list among another's, by their places ===== -/
theorem goodIn_r {big : List Cond} (ws : List Cond) (ps : List Nat) (hp : ws = ps.filterMap (fun i => big[i]?)) (h : ws.all goodWord = true) : GoodIn big ws := by
  intro w hw
  have h1 := List.all_eq_true.mp h w hw
  rw [hp] at hw
  obtain ⟨i, -, hi⟩ := List.mem_filterMap.mp hw
  have hm : w ∈ big := by first | exact List.mem_of_getElem? hi | exact List.getElem?_mem hi
  exact ⟨hm, good_of_word h1⟩
theorem goodIn_app {big a b : List Cond} (ha : GoodIn big a) (hb : GoodIn big b) : GoodIn big (a ++ b) := fun w h => (List.mem_append.mp h).elim (ha w) (hb w)
theorem goodIn_ca {big a b : List Cond} {c : Cond} (ha : GoodIn big (c :: a)) (hb : GoodIn big b) : GoodIn big (c :: (a ++ b)) := fun w h => (List.mem_cons.mp h).elim (fun e => ha w (List.mem_cons.mpr (Or.inl e))) (fun h => (List.mem_append.mp h).elim (fun h => ha w (List.mem_cons.mpr (Or.inr h))) (hb w))
theorem goodIn_sub {big ws : List Cond} (hm : ∀ w ∈ ws, w ∈ big) (h : ws.all goodWord = true) : GoodIn big ws := fun w hw => ⟨hm w hw, good_of_word (List.all_eq_true.mp h w hw)⟩
/-! ===== END ===== -/

/-! ===== BEGIN printed: names, fields, word lists, decode rows ===== -/
def RX0 : String := "DrawnFields$Drawer"
def TX0 : u_T := fun k => match k with
  | 0 => ("DrawnFields$Drawer", "mayBe", "LDrawnFields$RowSet;", true)
  | _ => ("DrawnFields$Drawer", "x", "J", false)
def tyX0 : Nat → FieldType := fun k => match k with
  | 0 => .object "DrawnFields$RowSet"
  | _ => .long
abbrev wsX00 : List Cond := u_ws RX0 TX0 2
theorem nmX0 : ∀ a, a < 2 → ∀ b, b < 2 → a ≠ b → (TX0 a).2.1 ≠ (TX0 b).2.1 := by decide +kernel
theorem tyX0_ok : ∀ k, k < 2 → parseFieldDescriptor (TX0 k).2.2.1 = some (tyX0 k) := by decide +kernel
abbrev cX0_init : ByteArray := prog_2_method_1_code
def yX0_init : MethodName := ⟨RX0, "<init>", "()V"⟩
abbrev cX0_begin : ByteArray := prog_2_method_2_code
def yX0_begin : MethodName := ⟨RX0, "begin", "(LDrawnFields$RowSet;I)V"⟩
abbrev cX0_drawTogether : ByteArray := prog_2_method_3_code
def yX0_drawTogether : MethodName := ⟨RX0, "drawTogether", "(LDrawnFields$State;)I"⟩
abbrev cX0_rowOfWord : ByteArray := prog_2_method_4_code
def yX0_rowOfWord : MethodName := ⟨RX0, "rowOfWord", "(LDrawnFields$State;IIZ)I"⟩
abbrev cX0_drawInOrder : ByteArray := prog_2_method_5_code
def yX0_drawInOrder : MethodName := ⟨RX0, "drawInOrder", "(LDrawnFields$State;)I"⟩
abbrev cX0_takeValue : ByteArray := prog_2_method_6_code
def yX0_takeValue : MethodName := ⟨RX0, "takeValue", "(LDrawnFields$Field;I)I"⟩
abbrev cX0_chanceBelow : ByteArray := prog_2_method_7_code
def yX0_chanceBelow : MethodName := ⟨RX0, "chanceBelow", "(I)I"⟩
def RX1 : String := "DrawnFields$Field"
def TX1 : u_T := fun k => match k with
  | 0 => ("DrawnFields$Field", "low", "I", false)
  | 1 => ("DrawnFields$Field", "high", "I", false)
  | 2 => ("DrawnFields$Field", "round", "I", false)
  | 3 => ("DrawnFields$Field", "turn", "I", false)
  | _ => ("DrawnFields$Field", "weights", "[I", true)
def tyX1 : Nat → FieldType := fun k => match k with
  | 0 => .int
  | 1 => .int
  | 2 => .int
  | 3 => .int
  | _ => .array .int
abbrev wsX10 : List Cond := u_ws RX1 TX1 5
theorem nmX1 : ∀ a, a < 5 → ∀ b, b < 5 → a ≠ b → (TX1 a).2.1 ≠ (TX1 b).2.1 := by decide +kernel
theorem tyX1_ok : ∀ k, k < 5 → parseFieldDescriptor (TX1 k).2.2.1 = some (tyX1 k) := by decide +kernel
abbrev cX1_init : ByteArray := prog_3_method_1_code
def yX1_init : MethodName := ⟨RX1, "<init>", "()V"⟩
abbrev cX1_begin : ByteArray := prog_3_method_2_code
def yX1_begin : MethodName := ⟨RX1, "begin", "(II)V"⟩
abbrev cX1_becomes : ByteArray := prog_3_method_3_code
def yX1_becomes : MethodName := ⟨RX1, "becomes", "(LDrawnFields$Field;)V"⟩
abbrev cX1_valueBits : ByteArray := prog_3_method_4_code
def yX1_valueBits : MethodName := ⟨RX1, "valueBits", "()I"⟩
abbrev cX1_inTurn : ByteArray := prog_3_method_5_code
def yX1_inTurn : MethodName := ⟨RX1, "inTurn", "(I)I"⟩
abbrev cX1_weightOfValues : ByteArray := prog_3_method_6_code
def yX1_weightOfValues : MethodName := ⟨RX1, "weightOfValues", "(I)I"⟩
def RX2 : String := "DrawnFields$Law"
def TX2 : u_T := fun k => match k with
  | 0 => ("DrawnFields$Law", "lawful", "LDrawnFields$RowSet;", true)
  | 1 => ("DrawnFields$Law", "keptRules", "I", false)
  | 2 => ("DrawnFields$Law", "coreRules", "I", false)
  | 3 => ("DrawnFields$Law", "inRanges", "LDrawnFields$RowSet;", true)
  | _ => ("DrawnFields$Law", "keepers", "[LDrawnFields$RowSet;", true)
def tyX2 : Nat → FieldType := fun k => match k with
  | 0 => .object "DrawnFields$RowSet"
  | 1 => .int
  | 2 => .int
  | 3 => .object "DrawnFields$RowSet"
  | _ => .array (.object "DrawnFields$RowSet")
abbrev wsX20 : List Cond := u_ws RX2 TX2 5
theorem nmX2 : ∀ a, a < 5 → ∀ b, b < 5 → a ≠ b → (TX2 a).2.1 ≠ (TX2 b).2.1 := by decide +kernel
theorem tyX2_ok : ∀ k, k < 5 → parseFieldDescriptor (TX2 k).2.2.1 = some (tyX2 k) := by decide +kernel
abbrev cX2_init : ByteArray := prog_4_method_1_code
def yX2_init : MethodName := ⟨RX2, "<init>", "()V"⟩
abbrev cX2_look : ByteArray := prog_4_method_2_code
def yX2_look : MethodName := ⟨RX2, "look", "(LDrawnFields$State;)V"⟩
abbrev cX2_withSoft : ByteArray := prog_4_method_3_code
def yX2_withSoft : MethodName := ⟨RX2, "withSoft", "(LDrawnFields$State;I)I"⟩
abbrev cX2_leastUnkept : ByteArray := prog_4_method_4_code
def yX2_leastUnkept : MethodName := ⟨RX2, "leastUnkept", "(I)I"⟩
abbrev cX2_someRowKeeps : ByteArray := prog_4_method_5_code
def yX2_someRowKeeps : MethodName := ⟨RX2, "someRowKeeps", "(I)Z"⟩
def RX3 : String := "DrawnFields$Past"
def TX3 : u_T := fun k => match k with
  | 0 => ("DrawnFields$Past", "count", "I", false)
  | _ => ("DrawnFields$Past", "slots", "[LDrawnFields$State;", true)
def tyX3 : Nat → FieldType := fun k => match k with
  | 0 => .int
  | _ => .array (.object "DrawnFields$State")
abbrev wsX30 : List Cond := u_ws RX3 TX3 2
theorem nmX3 : ∀ a, a < 2 → ∀ b, b < 2 → a ≠ b → (TX3 a).2.1 ≠ (TX3 b).2.1 := by decide +kernel
theorem tyX3_ok : ∀ k, k < 2 → parseFieldDescriptor (TX3 k).2.2.1 = some (tyX3 k) := by decide +kernel
abbrev cX3_init : ByteArray := prog_5_method_1_code
def yX3_init : MethodName := ⟨RX3, "<init>", "()V"⟩
abbrev cX3_mark : ByteArray := prog_5_method_2_code
def yX3_mark : MethodName := ⟨RX3, "mark", "(LDrawnFields$State;)V"⟩
abbrev cX3_keepMark : ByteArray := prog_5_method_3_code
def yX3_keepMark : MethodName := ⟨RX3, "keepMark", "()V"⟩
abbrev cX3_restore : ByteArray := prog_5_method_4_code
def yX3_restore : MethodName := ⟨RX3, "restore", "(LDrawnFields$State;)I"⟩
def RX4 : String := "DrawnFields$RowSet"
def TX4 : u_T := fun k => match k with
  | _ => ("DrawnFields$RowSet", "words", "[J", true)
def tyX4 : Nat → FieldType := fun k => match k with
  | _ => .array .long
abbrev wsX40 : List Cond := u_ws RX4 TX4 1
theorem nmX4 : ∀ a, a < 1 → ∀ b, b < 1 → a ≠ b → (TX4 a).2.1 ≠ (TX4 b).2.1 := by decide +kernel
theorem tyX4_ok : ∀ k, k < 1 → parseFieldDescriptor (TX4 k).2.2.1 = some (tyX4 k) := by decide +kernel
abbrev cX4_init : ByteArray := prog_6_method_1_code
def yX4_init : MethodName := ⟨RX4, "<init>", "()V"⟩
abbrev cX4_wordValue : ByteArray := prog_6_method_2_code
def yX4_wordValue : MethodName := ⟨RX4, "wordValue", "(II)I"⟩
abbrev cX4_hasWord : ByteArray := prog_6_method_3_code
def yX4_hasWord : MethodName := ⟨RX4, "hasWord", "(III)Z"⟩
abbrev cX4_withinWord : ByteArray := prog_6_method_4_code
def yX4_withinWord : MethodName := ⟨RX4, "withinWord", "(II)J"⟩
abbrev cX4_becomes : ByteArray := prog_6_method_5_code
def yX4_becomes : MethodName := ⟨RX4, "becomes", "(LDrawnFields$RowSet;)V"⟩
abbrev cX4_becomesAll : ByteArray := prog_6_method_6_code
def yX4_becomesAll : MethodName := ⟨RX4, "becomesAll", "()V"⟩
abbrev cX4_becomesKeepersOf : ByteArray := prog_6_method_7_code
def yX4_becomesKeepersOf : MethodName := ⟨RX4, "becomesKeepersOf", "(LDrawnFields$Rule;)V"⟩
abbrev cX4_keepRowsOf : ByteArray := prog_6_method_8_code
def yX4_keepRowsOf : MethodName := ⟨RX4, "keepRowsOf", "(LDrawnFields$RowSet;)V"⟩
abbrev cX4_keepValues : ByteArray := prog_6_method_9_code
def yX4_keepValues : MethodName := ⟨RX4, "keepValues", "(II)V"⟩
abbrev cX4_isEmpty : ByteArray := prog_6_method_10_code
def yX4_isEmpty : MethodName := ⟨RX4, "isEmpty", "()Z"⟩
abbrev cX4_size : ByteArray := prog_6_method_11_code
def yX4_size : MethodName := ⟨RX4, "size", "()I"⟩
abbrev cX4_valuesAt : ByteArray := prog_6_method_12_code
def yX4_valuesAt : MethodName := ⟨RX4, "valuesAt", "(I)I"⟩
abbrev cX4_valuesWithin : ByteArray := prog_6_method_13_code
def yX4_valuesWithin : MethodName := ⟨RX4, "valuesWithin", "(JI)I"⟩
abbrev cX4_codeAt : ByteArray := prog_6_method_14_code
def yX4_codeAt : MethodName := ⟨RX4, "codeAt", "(I)I"⟩
abbrev cX4_bitAt : ByteArray := prog_6_method_15_code
def yX4_bitAt : MethodName := ⟨RX4, "bitAt", "(JI)I"⟩
abbrev cX4_countAhead : ByteArray := prog_6_method_16_code
def yX4_countAhead : MethodName := ⟨RX4, "countAhead", "(I)I"⟩
abbrev cX4_countBySum : ByteArray := prog_6_method_17_code
def yX4_countBySum : MethodName := ⟨RX4, "countBySum", "([I)V"⟩
def RX5 : String := "DrawnFields$Rule"
def TX5 : u_T := fun k => match k with
  | 0 => ("DrawnFields$Rule", "kind", "I", false)
  | 1 => ("DrawnFields$Rule", "x", "I", false)
  | 2 => ("DrawnFields$Rule", "y", "I", false)
  | 3 => ("DrawnFields$Rule", "c", "I", false)
  | _ => ("DrawnFields$Rule", "rank", "I", false)
def tyX5 : Nat → FieldType := fun k => match k with
  | 0 => .int
  | 1 => .int
  | 2 => .int
  | 3 => .int
  | _ => .int
abbrev wsX50 : List Cond := u_ws RX5 TX5 5
theorem nmX5 : ∀ a, a < 5 → ∀ b, b < 5 → a ≠ b → (TX5 a).2.1 ≠ (TX5 b).2.1 := by decide +kernel
theorem tyX5_ok : ∀ k, k < 5 → parseFieldDescriptor (TX5 k).2.2.1 = some (tyX5 k) := by decide +kernel
abbrev cX5_init : ByteArray := prog_7_method_1_code
def yX5_init : MethodName := ⟨RX5, "<init>", "()V"⟩
abbrev cX5_becomes : ByteArray := prog_7_method_2_code
def yX5_becomes : MethodName := ⟨RX5, "becomes", "(LDrawnFields$Rule;)V"⟩
abbrev cX5_isKeptBy : ByteArray := prog_7_method_3_code
def yX5_isKeptBy : MethodName := ⟨RX5, "isKeptBy", "(II)Z"⟩
abbrev cX5_partnersOf : ByteArray := prog_7_method_4_code
def yX5_partnersOf : MethodName := ⟨RX5, "partnersOf", "(I)I"⟩
def RX6 : String := "DrawnFields$State"
def TX6 : u_T := fun k => match k with
  | 0 => ("DrawnFields$State", "fieldCount", "I", false)
  | 1 => ("DrawnFields$State", "fields", "[LDrawnFields$Field;", true)
  | 2 => ("DrawnFields$State", "order", "[I", true)
  | 3 => ("DrawnFields$State", "ruleCount", "I", false)
  | 4 => ("DrawnFields$State", "rules", "[LDrawnFields$Rule;", true)
  | 5 => ("DrawnFields$State", "now", "I", false)
  | 6 => ("DrawnFields$State", "unlikeCount", "I", false)
  | 7 => ("DrawnFields$State", "unlike", "[I", true)
  | _ => ("DrawnFields$State", "lawKnown", "Z", false)
def tyX6 : Nat → FieldType := fun k => match k with
  | 0 => .int
  | 1 => .array (.object "DrawnFields$Field")
  | 2 => .array .int
  | 3 => .int
  | 4 => .array (.object "DrawnFields$Rule")
  | 5 => .int
  | 6 => .int
  | 7 => .array .int
  | _ => .boolean
abbrev wsX60 : List Cond := u_ws RX6 TX6 9
theorem nmX6 : ∀ a, a < 9 → ∀ b, b < 9 → a ≠ b → (TX6 a).2.1 ≠ (TX6 b).2.1 := by decide +kernel
theorem tyX6_ok : ∀ k, k < 9 → parseFieldDescriptor (TX6 k).2.2.1 = some (tyX6 k) := by decide +kernel
abbrev cX6_init : ByteArray := prog_8_method_1_code
def yX6_init : MethodName := ⟨RX6, "<init>", "()V"⟩
abbrev cX6_becomes : ByteArray := prog_8_method_2_code
def yX6_becomes : MethodName := ⟨RX6, "becomes", "(LDrawnFields$State;)V"⟩
abbrev cX6_hasField : ByteArray := prog_8_method_3_code
def yX6_hasField : MethodName := ⟨RX6, "hasField", "(I)Z"⟩
abbrev cX6_hasRule : ByteArray := prog_8_method_4_code
def yX6_hasRule : MethodName := ⟨RX6, "hasRule", "(I)Z"⟩
abbrev cX6_isRule : ByteArray := prog_8_method_5_code
def yX6_isRule : MethodName := ⟨RX6, "isRule", "(IIII)Z"⟩
abbrev cX6_addField : ByteArray := prog_8_method_6_code
def yX6_addField : MethodName := ⟨RX6, "addField", "(II)I"⟩
abbrev cX6_addRule : ByteArray := prog_8_method_7_code
def yX6_addRule : MethodName := ⟨RX6, "addRule", "(IIIII)I"⟩
abbrev cX6_dropRule : ByteArray := prog_8_method_8_code
def yX6_dropRule : MethodName := ⟨RX6, "dropRule", "(I)I"⟩
abbrev cX6_emptyDrawn : ByteArray := prog_8_method_9_code
def yX6_emptyDrawn : MethodName := ⟨RX6, "emptyDrawn", "()V"⟩
abbrev cX6_placeInOrder : ByteArray := prog_8_method_10_code
def yX6_placeInOrder : MethodName := ⟨RX6, "placeInOrder", "(I)I"⟩
abbrev cX6_moveInOrder : ByteArray := prog_8_method_11_code
def yX6_moveInOrder : MethodName := ⟨RX6, "moveInOrder", "(II)I"⟩
abbrev cX6_factOfField : ByteArray := prog_8_method_12_code
def yX6_factOfField : MethodName := ⟨RX6, "factOfField", "(II)I"⟩
abbrev cX6_noteDraw : ByteArray := prog_8_method_13_code
def yX6_noteDraw : MethodName := ⟨RX6, "noteDraw", "(I)V"⟩
abbrev cX6_weightOfRow : ByteArray := prog_8_method_14_code
def yX6_weightOfRow : MethodName := ⟨RX6, "weightOfRow", "(I)I"⟩
abbrev cX6_weightOfRows : ByteArray := prog_8_method_15_code
def yX6_weightOfRows : MethodName := ⟨RX6, "weightOfRows", "(LDrawnFields$RowSet;)I"⟩
abbrev cX6_weightOfWord : ByteArray := prog_8_method_16_code
def yX6_weightOfWord : MethodName := ⟨RX6, "weightOfWord", "(IJ)I"⟩
def RX7 : String := "DrawnFields$Text"
def TX7 : u_T := fun k => match k with
  | 0 => ("DrawnFields$Text", "length", "I", false)
  | 1 => ("DrawnFields$Text", "at", "I", false)
  | 2 => ("DrawnFields$Text", "letter", "I", false)
  | 3 => ("DrawnFields$Text", "numbers", "[I", true)
  | _ => ("DrawnFields$Text", "bytes", "[I", true)
def tyX7 : Nat → FieldType := fun k => match k with
  | 0 => .int
  | 1 => .int
  | 2 => .int
  | 3 => .array .int
  | _ => .array .int
abbrev wsX70 : List Cond := u_ws RX7 TX7 5
theorem nmX7 : ∀ a, a < 5 → ∀ b, b < 5 → a ≠ b → (TX7 a).2.1 ≠ (TX7 b).2.1 := by decide +kernel
theorem tyX7_ok : ∀ k, k < 5 → parseFieldDescriptor (TX7 k).2.2.1 = some (tyX7 k) := by decide +kernel
abbrev cX7_init : ByteArray := prog_9_method_1_code
def yX7_init : MethodName := ⟨RX7, "<init>", "()V"⟩
abbrev cX7_add : ByteArray := prog_9_method_2_code
def yX7_add : MethodName := ⟨RX7, "add", "(I)I"⟩
abbrev cX7_findFault : ByteArray := prog_9_method_3_code
def yX7_findFault : MethodName := ⟨RX7, "findFault", "()I"⟩
abbrev cX7_readOrder : ByteArray := prog_9_method_4_code
def yX7_readOrder : MethodName := ⟨RX7, "readOrder", "()Z"⟩
abbrev cX7_numbersBehind : ByteArray := prog_9_method_5_code
def yX7_numbersBehind : MethodName := ⟨RX7, "numbersBehind", "(I)I"⟩
abbrev cX7_readNumber : ByteArray := prog_9_method_6_code
def yX7_readNumber : MethodName := ⟨RX7, "readNumber", "(I)Z"⟩
abbrev cX7_isFigure : ByteArray := prog_9_method_7_code
def yX7_isFigure : MethodName := ⟨RX7, "isFigure", "()Z"⟩
abbrev cX7_skipBlanks : ByteArray := prog_9_method_8_code
def yX7_skipBlanks : MethodName := ⟨RX7, "skipBlanks", "()V"⟩
def RX8 : String := "DrawnFields"
def TX8 : u_T := fun k => match k with
  | 0 => ("DrawnFields", "state", "LDrawnFields$State;", true)
  | 1 => ("DrawnFields", "past", "LDrawnFields$Past;", true)
  | 2 => ("DrawnFields", "law", "LDrawnFields$Law;", true)
  | 3 => ("DrawnFields", "drawer", "LDrawnFields$Drawer;", true)
  | 4 => ("DrawnFields", "picked", "LDrawnFields$RowSet;", true)
  | 5 => ("DrawnFields", "text", "LDrawnFields$Text;", true)
  | 6 => ("DrawnFields", "refusals", "[I", true)
  | _ => ("DrawnFields", "rowsBySum", "[I", true)
def tyX8 : Nat → FieldType := fun k => match k with
  | 0 => .object "DrawnFields$State"
  | 1 => .object "DrawnFields$Past"
  | 2 => .object "DrawnFields$Law"
  | 3 => .object "DrawnFields$Drawer"
  | 4 => .object "DrawnFields$RowSet"
  | 5 => .object "DrawnFields$Text"
  | 6 => .array .int
  | _ => .array .int
abbrev wsX80 : List Cond := u_ws RX8 TX8 8
theorem nmX8 : ∀ a, a < 8 → ∀ b, b < 8 → a ≠ b → (TX8 a).2.1 ≠ (TX8 b).2.1 := by decide +kernel
theorem tyX8_ok : ∀ k, k < 8 → parseFieldDescriptor (TX8 k).2.2.1 = some (tyX8 k) := by decide +kernel
abbrev cX8_init : ByteArray := prog_1_method_1_code
def yX8_init : MethodName := ⟨RX8, "<init>", "()V"⟩
abbrev cX8_field : ByteArray := prog_1_method_2_code
def yX8_field : MethodName := ⟨RX8, "field", "(II)I"⟩
abbrev cX8_range : ByteArray := prog_1_method_3_code
def yX8_range : MethodName := ⟨RX8, "range", "(III)I"⟩
abbrev cX8_weighs : ByteArray := prog_1_method_4_code
def yX8_weighs : MethodName := ⟨RX8, "weighs", "(III)I"⟩
abbrev cX8_round : ByteArray := prog_1_method_5_code
def yX8_round : MethodName := ⟨RX8, "round", "(II)I"⟩
abbrev cX8_orders : ByteArray := prog_1_method_6_code
def yX8_orders : MethodName := ⟨RX8, "orders", "(II)I"⟩
abbrev cX8_rule : ByteArray := prog_1_method_7_code
def yX8_rule : MethodName := ⟨RX8, "rule", "(IIIII)I"⟩
abbrev cX8_drops : ByteArray := prog_1_method_8_code
def yX8_drops : MethodName := ⟨RX8, "drops", "(I)I"⟩
abbrev cX8_of : ByteArray := prog_1_method_9_code
def yX8_of : MethodName := ⟨RX8, "of", "(II)I"⟩
abbrev cX8_about : ByteArray := prog_1_method_10_code
def yX8_about : MethodName := ⟨RX8, "about", "(II)I"⟩
abbrev cX8_rows : ByteArray := prog_1_method_11_code
def yX8_rows : MethodName := ⟨RX8, "rows", "()I"⟩
abbrev cX8_row : ByteArray := prog_1_method_12_code
def yX8_row : MethodName := ⟨RX8, "row", "(II)I"⟩
abbrev cX8_heavy : ByteArray := prog_1_method_13_code
def yX8_heavy : MethodName := ⟨RX8, "heavy", "(II)I"⟩
abbrev cX8_sums : ByteArray := prog_1_method_14_code
def yX8_sums : MethodName := ⟨RX8, "sums", "(I)I"⟩
abbrev cX8_sum : ByteArray := prog_1_method_15_code
def yX8_sum : MethodName := ⟨RX8, "sum", "(I)I"⟩
abbrev cX8_soft : ByteArray := prog_1_method_16_code
def yX8_soft : MethodName := ⟨RX8, "soft", "(I)I"⟩
abbrev cX8_core : ByteArray := prog_1_method_17_code
def yX8_core : MethodName := ⟨RX8, "core", "()I"⟩
abbrev cX8_draws : ByteArray := prog_1_method_18_code
def yX8_draws : MethodName := ⟨RX8, "draws", "(II)I"⟩
abbrev cX8_drawn : ByteArray := prog_1_method_19_code
def yX8_drawn : MethodName := ⟨RX8, "drawn", "(II)I"⟩
abbrev cX8_type : ByteArray := prog_1_method_20_code
def yX8_type : MethodName := ⟨RX8, "type", "(I)I"⟩
abbrev cX8_clear : ByteArray := prog_1_method_21_code
def yX8_clear : MethodName := ⟨RX8, "clear", "()I"⟩
abbrev cX8_reads : ByteArray := prog_1_method_22_code
def yX8_reads : MethodName := ⟨RX8, "reads", "()I"⟩
abbrev cX8_back : ByteArray := prog_1_method_23_code
def yX8_back : MethodName := ⟨RX8, "back", "()I"⟩
abbrev cX8_told : ByteArray := prog_1_method_24_code
def yX8_told : MethodName := ⟨RX8, "told", "(I)I"⟩
abbrev cX8_digest : ByteArray := prog_1_method_25_code
def yX8_digest : MethodName := ⟨RX8, "digest", "()J"⟩
abbrev cX8_settled : ByteArray := prog_1_method_26_code
def yX8_settled : MethodName := ⟨RX8, "settled", "(I)I"⟩
abbrev cX8_counted : ByteArray := prog_1_method_27_code
def yX8_counted : MethodName := ⟨RX8, "counted", "(I)I"⟩
abbrev cX8_factOfAll : ByteArray := prog_1_method_28_code
def yX8_factOfAll : MethodName := ⟨RX8, "factOfAll", "(I)I"⟩
abbrev cX8_factOfRule : ByteArray := prog_1_method_29_code
def yX8_factOfRule : MethodName := ⟨RX8, "factOfRule", "(II)I"⟩
abbrev cX8_digestOfField : ByteArray := prog_1_method_30_code
def yX8_digestOfField : MethodName := ⟨RX8, "digestOfField", "(JI)J"⟩
abbrev cX8_digestOfDrawn : ByteArray := prog_1_method_31_code
def yX8_digestOfDrawn : MethodName := ⟨RX8, "digestOfDrawn", "(J)J"⟩
abbrev cX8_valueIn : ByteArray := prog_1_method_32_code
def yX8_valueIn : MethodName := ⟨RX8, "valueIn", "(II)I"⟩
abbrev cX8_isRange : ByteArray := prog_1_method_33_code
def yX8_isRange : MethodName := ⟨RX8, "isRange", "(II)Z"⟩
abbrev cX8_tryField : ByteArray := prog_1_method_34_code
def yX8_tryField : MethodName := ⟨RX8, "tryField", "(II)I"⟩
abbrev cX8_tryRange : ByteArray := prog_1_method_35_code
def yX8_tryRange : MethodName := ⟨RX8, "tryRange", "(III)I"⟩
abbrev cX8_tryWeight : ByteArray := prog_1_method_36_code
def yX8_tryWeight : MethodName := ⟨RX8, "tryWeight", "(III)I"⟩
abbrev cX8_tryRound : ByteArray := prog_1_method_37_code
def yX8_tryRound : MethodName := ⟨RX8, "tryRound", "(II)I"⟩
abbrev cX8_tryPlace : ByteArray := prog_1_method_38_code
def yX8_tryPlace : MethodName := ⟨RX8, "tryPlace", "(II)I"⟩
abbrev cX8_tryRule : ByteArray := prog_1_method_39_code
def yX8_tryRule : MethodName := ⟨RX8, "tryRule", "(IIIII)I"⟩
abbrev cX8_tryDrop : ByteArray := prog_1_method_40_code
def yX8_tryDrop : MethodName := ⟨RX8, "tryDrop", "(I)I"⟩
abbrev cX8_tryDraw : ByteArray := prog_1_method_41_code
def yX8_tryDraw : MethodName := ⟨RX8, "tryDraw", "(II)I"⟩
abbrev cX8_performOrder : ByteArray := prog_1_method_42_code
def yX8_performOrder : MethodName := ⟨RX8, "performOrder", "()I"⟩
def RX9 : String := "DrawnFieldsModel"
def TX9 : u_T := fun k => match k with
  | 0 => ("DrawnFieldsModel", "now", "[I", true)
  | 1 => ("DrawnFieldsModel", "held", "[I", true)
  | 2 => ("DrawnFieldsModel", "past", "[I", true)
  | 3 => ("DrawnFieldsModel", "pasts", "I", false)
  | 4 => ("DrawnFieldsModel", "refused", "[I", true)
  | 5 => ("DrawnFieldsModel", "isLaid", "Z", false)
  | 6 => ("DrawnFieldsModel", "lawful", "[I", true)
  | 7 => ("DrawnFieldsModel", "lawfulMany", "I", false)
  | 8 => ("DrawnFieldsModel", "need", "I", false)
  | 9 => ("DrawnFieldsModel", "some", "[Z", true)
  | 10 => ("DrawnFieldsModel", "looked", "[I", true)
  | 11 => ("DrawnFieldsModel", "lookedMany", "I", false)
  | 12 => ("DrawnFieldsModel", "may", "[Z", true)
  | 13 => ("DrawnFieldsModel", "seed", "J", false)
  | 14 => ("DrawnFieldsModel", "text", "[I", true)
  | 15 => ("DrawnFieldsModel", "typed", "I", false)
  | 16 => ("DrawnFieldsModel", "at", "I", false)
  | 17 => ("DrawnFieldsModel", "fault", "I", false)
  | 18 => ("DrawnFieldsModel", "orders", "I", false)
  | 19 => ("DrawnFieldsModel", "letters", "[I", true)
  | 20 => ("DrawnFieldsModel", "numbers", "[I", true)
  | _ => ("DrawnFieldsModel", "h", "J", false)
def tyX9 : Nat → FieldType := fun k => match k with
  | 0 => .array .int
  | 1 => .array .int
  | 2 => .array .int
  | 3 => .int
  | 4 => .array .int
  | 5 => .boolean
  | 6 => .array .int
  | 7 => .int
  | 8 => .int
  | 9 => .array .boolean
  | 10 => .array .int
  | 11 => .int
  | 12 => .array .boolean
  | 13 => .long
  | 14 => .array .int
  | 15 => .int
  | 16 => .int
  | 17 => .int
  | 18 => .int
  | 19 => .array .int
  | 20 => .array .int
  | _ => .long
abbrev wsX90 : List Cond := u_ws RX9 TX9 22
theorem nmX9 : ∀ a, a < 22 → ∀ b, b < 22 → a ≠ b → (TX9 a).2.1 ≠ (TX9 b).2.1 := by decide +kernel
theorem tyX9_ok : ∀ k, k < 22 → parseFieldDescriptor (TX9 k).2.2.1 = some (tyX9 k) := by decide +kernel
abbrev cX9_init : ByteArray := prog_11_method_1_code
def yX9_init : MethodName := ⟨RX9, "<init>", "()V"⟩
abbrev cX9_in : ByteArray := prog_11_method_2_code
def yX9_in : MethodName := ⟨RX9, "in", "(III)Z"⟩
abbrev cX9_has : ByteArray := prog_11_method_3_code
def yX9_has : MethodName := ⟨RX9, "has", "(II)Z"⟩
abbrev cX9_refuses : ByteArray := prog_11_method_4_code
def yX9_refuses : MethodName := ⟨RX9, "refuses", "(I)I"⟩
abbrev cX9_hold : ByteArray := prog_11_method_5_code
def yX9_hold : MethodName := ⟨RX9, "hold", "()V"⟩
abbrev cX9_push : ByteArray := prog_11_method_6_code
def yX9_push : MethodName := ⟨RX9, "push", "()V"⟩
abbrev cX9_ends : ByteArray := prog_11_method_7_code
def yX9_ends : MethodName := ⟨RX9, "ends", "(I)I"⟩
abbrev cX9_back : ByteArray := prog_11_method_8_code
def yX9_back : MethodName := ⟨RX9, "back", "()I"⟩
abbrev cX9_fields : ByteArray := prog_11_method_9_code
def yX9_fields : MethodName := ⟨RX9, "fields", "()I"⟩
abbrev cX9_isField : ByteArray := prog_11_method_10_code
def yX9_isField : MethodName := ⟨RX9, "isField", "(I)Z"⟩
abbrev cX9_isRule : ByteArray := prog_11_method_11_code
def yX9_isRule : MethodName := ⟨RX9, "isRule", "(I)Z"⟩
abbrev cX9_ofField : ByteArray := prog_11_method_12_code
def yX9_ofField : MethodName := ⟨RX9, "ofField", "(II)I"⟩
abbrev cX9_put : ByteArray := prog_11_method_13_code
def yX9_put : MethodName := ⟨RX9, "put", "(III)V"⟩
abbrev cX9_ofRule : ByteArray := prog_11_method_14_code
def yX9_ofRule : MethodName := ⟨RX9, "ofRule", "(II)I"⟩
abbrev cX9_empty : ByteArray := prog_11_method_15_code
def yX9_empty : MethodName := ⟨RX9, "empty", "()V"⟩
abbrev cX9_doField : ByteArray := prog_11_method_16_code
def yX9_doField : MethodName := ⟨RX9, "doField", "(II)I"⟩
abbrev cX9_doRange : ByteArray := prog_11_method_17_code
def yX9_doRange : MethodName := ⟨RX9, "doRange", "(III)I"⟩
abbrev cX9_doWeighs : ByteArray := prog_11_method_18_code
def yX9_doWeighs : MethodName := ⟨RX9, "doWeighs", "(III)I"⟩
abbrev cX9_doRound : ByteArray := prog_11_method_19_code
def yX9_doRound : MethodName := ⟨RX9, "doRound", "(II)I"⟩
abbrev cX9_mostOf : ByteArray := prog_11_method_20_code
def yX9_mostOf : MethodName := ⟨RX9, "mostOf", "(I)I"⟩
abbrev cX9_doRule : ByteArray := prog_11_method_21_code
def yX9_doRule : MethodName := ⟨RX9, "doRule", "(IIIII)I"⟩
abbrev cX9_doDrops : ByteArray := prog_11_method_22_code
def yX9_doDrops : MethodName := ⟨RX9, "doDrops", "(I)I"⟩
abbrev cX9_field : ByteArray := prog_11_method_23_code
def yX9_field : MethodName := ⟨RX9, "field", "(II)I"⟩
abbrev cX9_range : ByteArray := prog_11_method_24_code
def yX9_range : MethodName := ⟨RX9, "range", "(III)I"⟩
abbrev cX9_weighs : ByteArray := prog_11_method_25_code
def yX9_weighs : MethodName := ⟨RX9, "weighs", "(III)I"⟩
abbrev cX9_round : ByteArray := prog_11_method_26_code
def yX9_round : MethodName := ⟨RX9, "round", "(II)I"⟩
abbrev cX9_placeOf : ByteArray := prog_11_method_27_code
def yX9_placeOf : MethodName := ⟨RX9, "placeOf", "(I)I"⟩
abbrev cX9_orders : ByteArray := prog_11_method_28_code
def yX9_orders : MethodName := ⟨RX9, "orders", "(II)I"⟩
abbrev cX9_rule : ByteArray := prog_11_method_29_code
def yX9_rule : MethodName := ⟨RX9, "rule", "(IIIII)I"⟩
abbrev cX9_drops : ByteArray := prog_11_method_30_code
def yX9_drops : MethodName := ⟨RX9, "drops", "(I)I"⟩
abbrev cX9_valueOf : ByteArray := prog_11_method_31_code
def yX9_valueOf : MethodName := ⟨RX9, "valueOf", "(II)I"⟩
abbrev cX9_keeps : ByteArray := prog_11_method_32_code
def yX9_keeps : MethodName := ⟨RX9, "keeps", "(II)Z"⟩
abbrev cX9_keptBy : ByteArray := prog_11_method_33_code
def yX9_keptBy : MethodName := ⟨RX9, "keptBy", "(I)I"⟩
abbrev cX9_isSome : ByteArray := prog_11_method_34_code
def yX9_isSome : MethodName := ⟨RX9, "isSome", "(I)Z"⟩
abbrev cX9_first : ByteArray := prog_11_method_35_code
def yX9_first : MethodName := ⟨RX9, "first", "()I"⟩
abbrev cX9_next : ByteArray := prog_11_method_36_code
def yX9_next : MethodName := ⟨RX9, "next", "(I)I"⟩
abbrev cX9_hard : ByteArray := prog_11_method_37_code
def yX9_hard : MethodName := ⟨RX9, "hard", "()I"⟩
abbrev cX9_lookAtSoft : ByteArray := prog_11_method_38_code
def yX9_lookAtSoft : MethodName := ⟨RX9, "lookAtSoft", "()V"⟩
abbrev cX9_lay : ByteArray := prog_11_method_39_code
def yX9_lay : MethodName := ⟨RX9, "lay", "()V"⟩
abbrev cX9_weightOf : ByteArray := prog_11_method_40_code
def yX9_weightOf : MethodName := ⟨RX9, "weightOf", "(I)I"⟩
abbrev cX9_sumOf : ByteArray := prog_11_method_41_code
def yX9_sumOf : MethodName := ⟨RX9, "sumOf", "(I)I"⟩
abbrev cX9_ofAll : ByteArray := prog_11_method_42_code
def yX9_ofAll : MethodName := ⟨RX9, "ofAll", "(II)I"⟩
abbrev cX9_of : ByteArray := prog_11_method_43_code
def yX9_of : MethodName := ⟨RX9, "of", "(II)I"⟩
abbrev cX9_aboutRule : ByteArray := prog_11_method_44_code
def yX9_aboutRule : MethodName := ⟨RX9, "aboutRule", "(II)I"⟩
abbrev cX9_about : ByteArray := prog_11_method_45_code
def yX9_about : MethodName := ⟨RX9, "about", "(II)I"⟩
abbrev cX9_rows : ByteArray := prog_11_method_46_code
def yX9_rows : MethodName := ⟨RX9, "rows", "()I"⟩
abbrev cX9_row : ByteArray := prog_11_method_47_code
def yX9_row : MethodName := ⟨RX9, "row", "(II)I"⟩
abbrev cX9_heavyOf : ByteArray := prog_11_method_48_code
def yX9_heavyOf : MethodName := ⟨RX9, "heavyOf", "(II)I"⟩
abbrev cX9_heavy : ByteArray := prog_11_method_49_code
def yX9_heavy : MethodName := ⟨RX9, "heavy", "(II)I"⟩
abbrev cX9_sumsOf : ByteArray := prog_11_method_50_code
def yX9_sumsOf : MethodName := ⟨RX9, "sumsOf", "(I)I"⟩
abbrev cX9_sums : ByteArray := prog_11_method_51_code
def yX9_sums : MethodName := ⟨RX9, "sums", "(I)I"⟩
abbrev cX9_sum : ByteArray := prog_11_method_52_code
def yX9_sum : MethodName := ⟨RX9, "sum", "(I)I"⟩
abbrev cX9_soft : ByteArray := prog_11_method_53_code
def yX9_soft : MethodName := ⟨RX9, "soft", "(I)I"⟩
abbrev cX9_core : ByteArray := prog_11_method_54_code
def yX9_core : MethodName := ⟨RX9, "core", "()I"⟩
abbrev cX9_drawBy : ByteArray := prog_11_method_55_code
def yX9_drawBy : MethodName := ⟨RX9, "drawBy", "(I)I"⟩
abbrev cX9_valuesOf : ByteArray := prog_11_method_56_code
def yX9_valuesOf : MethodName := ⟨RX9, "valuesOf", "(I)I"⟩
abbrev cX9_limit : ByteArray := prog_11_method_57_code
def yX9_limit : MethodName := ⟨RX9, "limit", "(II)V"⟩
abbrev cX9_takeTogether : ByteArray := prog_11_method_58_code
def yX9_takeTogether : MethodName := ⟨RX9, "takeTogether", "()I"⟩
abbrev cX9_valueDrawn : ByteArray := prog_11_method_59_code
def yX9_valueDrawn : MethodName := ⟨RX9, "valueDrawn", "(II)I"⟩
abbrev cX9_takeInOrder : ByteArray := prog_11_method_60_code
def yX9_takeInOrder : MethodName := ⟨RX9, "takeInOrder", "()I"⟩
abbrev cX9_doDraws : ByteArray := prog_11_method_61_code
def yX9_doDraws : MethodName := ⟨RX9, "doDraws", "(II)I"⟩
abbrev cX9_draws : ByteArray := prog_11_method_62_code
def yX9_draws : MethodName := ⟨RX9, "draws", "(II)I"⟩
abbrev cX9_drawn : ByteArray := prog_11_method_63_code
def yX9_drawn : MethodName := ⟨RX9, "drawn", "(II)I"⟩
abbrev cX9_type : ByteArray := prog_11_method_64_code
def yX9_type : MethodName := ⟨RX9, "type", "(I)I"⟩
abbrev cX9_clear : ByteArray := prog_11_method_65_code
def yX9_clear : MethodName := ⟨RX9, "clear", "()I"⟩
abbrev cX9_here : ByteArray := prog_11_method_66_code
def yX9_here : MethodName := ⟨RX9, "here", "()I"⟩
abbrev cX9_must : ByteArray := prog_11_method_67_code
def yX9_must : MethodName := ⟨RX9, "must", "(Z)V"⟩
abbrev cX9_isFigure : ByteArray := prog_11_method_68_code
def yX9_isFigure : MethodName := ⟨RX9, "isFigure", "()Z"⟩
abbrev cX9_number : ByteArray := prog_11_method_69_code
def yX9_number : MethodName := ⟨RX9, "number", "()I"⟩
abbrev cX9_numbersOf : ByteArray := prog_11_method_70_code
def yX9_numbersOf : MethodName := ⟨RX9, "numbersOf", "(I)I"⟩
abbrev cX9_readOrder : ByteArray := prog_11_method_71_code
def yX9_readOrder : MethodName := ⟨RX9, "readOrder", "()V"⟩
abbrev cX9_doOrder : ByteArray := prog_11_method_72_code
def yX9_doOrder : MethodName := ⟨RX9, "doOrder", "(I)I"⟩
abbrev cX9_reads : ByteArray := prog_11_method_73_code
def yX9_reads : MethodName := ⟨RX9, "reads", "()I"⟩
abbrev cX9_toldOf : ByteArray := prog_11_method_74_code
def yX9_toldOf : MethodName := ⟨RX9, "toldOf", "(I)I"⟩
abbrev cX9_told : ByteArray := prog_11_method_75_code
def yX9_told : MethodName := ⟨RX9, "told", "(I)I"⟩
abbrev cX9_mix : ByteArray := prog_11_method_76_code
def yX9_mix : MethodName := ⟨RX9, "mix", "(I)V"⟩
abbrev cX9_digest : ByteArray := prog_11_method_77_code
def yX9_digest : MethodName := ⟨RX9, "digest", "()J"⟩
def RJ6 : String := "java/lang/Integer"
def TJ6 : u_T := fun k => match k with
  | _ => ("", "", "", false)
def tyJ6 : Nat → FieldType := fun k => match k with
  | _ => .int
abbrev wsJ60 : List Cond := u_ws RJ6 TJ6 0
theorem nmJ6 : ∀ a, a < 0 → ∀ b, b < 0 → a ≠ b → (TJ6 a).2.1 ≠ (TJ6 b).2.1 := by decide +kernel
theorem tyJ6_ok : ∀ k, k < 0 → parseFieldDescriptor (TJ6 k).2.2.1 = some (tyJ6 k) := by decide +kernel
abbrev cJ6_bitCount_0f7a4 : ByteArray := prog_12_method_49_code
def yJ6_bitCount_0f7a4 : MethodName := ⟨RJ6, "bitCount", "(I)I"⟩
def RJ13 : String := "java/lang/Long"
def TJ13 : u_T := fun k => match k with
  | _ => ("", "", "", false)
def tyJ13 : Nat → FieldType := fun k => match k with
  | _ => .int
abbrev wsJ130 : List Cond := u_ws RJ13 TJ13 0
theorem nmJ13 : ∀ a, a < 0 → ∀ b, b < 0 → a ≠ b → (TJ13 a).2.1 ≠ (TJ13 b).2.1 := by decide +kernel
theorem tyJ13_ok : ∀ k, k < 0 → parseFieldDescriptor (TJ13 k).2.2.1 = some (tyJ13 k) := by decide +kernel
abbrev cJ13_bitCount_95d88 : ByteArray := prog_13_method_50_code
def yJ13_bitCount_95d88 : MethodName := ⟨RJ13, "bitCount", "(J)I"⟩
def RJ10 : String := "java/lang/System"
def TJ10 : u_T := fun k => match k with
  | _ => ("", "", "", false)
def tyJ10 : Nat → FieldType := fun k => match k with
  | _ => .int
abbrev wsJ100 : List Cond := u_ws RJ10 TJ10 0
theorem nmJ10 : ∀ a, a < 0 → ∀ b, b < 0 → a ≠ b → (TJ10 a).2.1 ≠ (TJ10 b).2.1 := by decide +kernel
theorem tyJ10_ok : ∀ k, k < 0 → parseFieldDescriptor (TJ10 k).2.2.1 = some (tyJ10 k) := by decide +kernel
def RL : String := "DrawnFieldsLaw"
abbrev cL_law : ByteArray := code
def yL_law : MethodName := ⟨RL, "law", "([I)Z"⟩
abbrev vwCl : List vw_C := [(RX0, TX0, 2), (RX1, TX1, 5), (RX2, TX2, 5), (RX3, TX3, 2), (RX4, TX4, 1), (RX5, TX5, 5), (RX6, TX6, 9), (RX7, TX7, 5), (RX8, TX8, 8), (RX9, TX9, 22)]
/-- the tables' words that a callee may take over -/
def xT : List Jvm.Cond := lw_tbl.filter goodWord
end
section
/-! ===== the abstract machine: values as the kit's, .ref k the k-th cell; cell 0 the script, cell 1 the static array MOST_C, cell k + 2 the k-th cell made since the law's entry ===== -/
abbrev xC : Type := (Nat × vp_A) ⊕ (Nat × List Value)
abbrev xH : Type := List xC
abbrev xL : Type := List (Option Value)
abbrev xS : Type := List Value
abbrev xR : Type := Option (Option Value × xH)
abbrev xI : Type := Instr ⊕ Instr
/-- tags of arrays: 0 int, 1 long, 2 boolean, 10 + c an array of references to class c -/
def xty (t : Nat) : FieldType := match t with
  | 0 => .int
  | 1 => .long
  | 2 => .boolean
  | n => .object ((vwCl[n - 10]?).elim "" (fun q => q.1))
def xra (t : Nat) : Bool := t == 11 || t == 14 || t == 15 || t == 16
def xld : xL → Nat → Option Value
  | [], _ => none
  | a :: _, 0 => a
  | _ :: t, n + 1 => xld t n
def xis2 : Option Value → Bool
  | some (.long _) => true
  | some (.double _) => true
  | _ => false
/-- a store of one slot; a long ahead of it is gone -/
def xst1 : xL → Nat → Value → Option xL
  | [], _, _ => none
  | _ :: t, 0, v => some (some v :: t)
  | a :: t, 1, v => (xst1 t 0 v).map (fun t' => (if xis2 a then none else a) :: t')
  | a :: t, n + 2, v => (xst1 t (n + 1) v).map (fun t' => a :: t')
/-- a store of two slots -/
def xst2 : xL → Nat → Value → Option xL
  | [], _, _ => none
  | _ :: [], 0, _ => none
  | _ :: _ :: t, 0, v => some (some v :: none :: t)
  | a :: t, 1, v => (xst2 t 0 v).map (fun t' => (if xis2 a then none else a) :: t')
  | a :: t, n + 2, v => (xst2 t (n + 1) v).map (fun t' => a :: t')
def xc1 : Value → Bool
  | .long _ => false
  | .double _ => false
  | _ => true
def xin (i : Int32) (n : Nat) : Bool := decide (0 ≤ i) && decide (i.toNatClampNeg < n)
def xget (h : xH) (a n : Nat) : Option Value := match h[a]? with
  | some (.inr (c, fs)) => if c = n / 32 then fs[n % 32]? else none
  | _ => none
/-- what a field of a type takes: 0 int, 1 long, 2 boolean, 3 a reference (to anything) -/
def xfit (k : Nat) (v : Value) : Bool := match k, v with
  | 0, .int _ => true
  | 1, .long _ => true
  | 2, .int x => x == 0 || x == 1
  | 3, .ref _ => true
  | _, _ => false
/-- kinds of the fields of each class -/
def xkinds : List (List Nat) := [[3, 1], [0, 0, 0, 0, 3], [3, 0, 0, 3, 3], [0, 3], [3], [0, 0, 0, 0, 0], [0, 3, 3, 0, 3, 0, 0, 3, 2], [0, 0, 0, 3, 3], [3, 3, 3, 3, 3, 3, 3, 3], [3, 3, 3, 0, 3, 2, 3, 0, 0, 3, 3, 0, 3, 1, 3, 0, 0, 0, 0, 3, 3, 1]]
def xkd (c k : Nat) : Nat := (xkinds.getD c []).getD k 9
def xput (h : xH) (a n : Nat) (v : Value) : Option xH := match h[a]? with
  | some (.inr (c, fs)) => if c = n / 32 ∧ n % 32 < fs.length ∧ xfit (xkd c (n % 32)) v = true then some (h.set a (.inr (c, fs.set (n % 32) v))) else none
  | _ => none
def xiald (h : xH) (a : Nat) (i : Int32) : Option Value := match h[a]? with
  | some (.inl (0, n, .inl f)) => if xin i n then some (.int (f i.toNatClampNeg)) else none
  | _ => none
def xzald (h : xH) (a : Nat) (i : Int32) : Option Value := match h[a]? with
  | some (.inl (2, n, .inl f)) => if xin i n ∧ 2 ≤ a then some (.int (f i.toNatClampNeg)) else none
  | _ => none
def xlald (h : xH) (a : Nat) (i : Int32) : Option Value := match h[a]? with
  | some (.inl (1, n, .inr (.inl f))) => if xin i n ∧ 2 ≤ a then some (.long (f i.toNatClampNeg)) else none
  | _ => none
def xaald (h : xH) (a : Nat) (i : Int32) : Option Value := match h[a]? with
  | some (.inl (t, n, .inr (.inr (.inr (.inr f))))) => if xin i n ∧ 2 ≤ a ∧ xra t = true then some (va_rf (f i.toNatClampNeg)) else none
  | _ => none
def xiast (h : xH) (a : Nat) (i x : Int32) : Option xH := match h[a]? with
  | some (.inl (0, n, .inl f)) => if xin i n ∧ 2 ≤ a then some (h.set a (.inl (0, n, .inl (upd f i.toNatClampNeg x)))) else none
  | _ => none
def xzast (h : xH) (a : Nat) (i x : Int32) : Option xH := match h[a]? with
  | some (.inl (2, n, .inl f)) => if xin i n ∧ 2 ≤ a ∧ (x = 0 ∨ x = 1) then some (h.set a (.inl (2, n, .inl (upd f i.toNatClampNeg x)))) else none
  | _ => none
def xlast (h : xH) (a : Nat) (i : Int32) (x : Int64) : Option xH := match h[a]? with
  | some (.inl (1, n, .inr (.inl f))) => if xin i n ∧ 2 ≤ a then some (h.set a (.inl (1, n, .inr (.inl (vp_updL f i.toNatClampNeg x))))) else none
  | _ => none
/-- the value's class is the array's -/
def xobj (h : xH) (v c : Nat) : Bool := match h[v]? with
  | some (.inr (c', _)) => c' == c
  | _ => false
def xaast (h : xH) (a : Nat) (i : Int32) (v : Nat) : Option xH := match h[a]? with
  | some (.inl (t, n, .inr (.inr (.inr (.inr f))))) => if xin i n ∧ 2 ≤ a ∧ xra t = true ∧ 2 ≤ v ∧ xobj h v (t - 10) = true then some (h.set a (.inl (t, n, .inr (.inr (.inr (.inr (va_up f i.toNatClampNeg (some v)))))))) else none
  | _ => none
def xlen (h : xH) (a : Nat) : Option Value := match h[a]? with
  | some (.inl (t, n, .inl _)) => if t = 0 then some (.int (Int32.ofNat n)) else none
  | _ => none
/-- at most so many cells, and elements of one -/
def xmost : Nat := 100000
def xnewa (h : xH) (ty : ArrayType) (n : Int32) : Option xH :=
  if 0 ≤ n ∧ n.toNatClampNeg ≤ xmost ∧ h.length < xmost then
    match ty with
    | .int => some (h ++ [.inl (0, n.toNatClampNeg, .inl (fun _ => 0))])
    | .long => some (h ++ [.inl (1, n.toNatClampNeg, .inr (.inl (fun _ => 0)))])
    | .boolean => some (h ++ [.inl (2, n.toNatClampNeg, .inl (fun _ => 0))])
    | _ => none
  else none
def xanew (h : xH) (c : Nat) (n : Int32) : Option xH :=
  if 0 ≤ n ∧ n.toNatClampNeg ≤ xmost ∧ h.length < xmost ∧ xra (10 + c) = true then some (h ++ [.inl (10 + c, n.toNatClampNeg, .inr (.inr (.inr (.inr (fun _ => none)))))])
  else none
def xdef (k : Nat) : Value := match k with
  | 1 => .long 0
  | 3 => .null
  | _ => .int 0
def xnewo (h : xH) (c : Nat) : Option xH := if h.length < xmost then (xkinds[c]?).map (fun ks => h ++ [.inr (c, ks.map xdef)]) else none
/-- System.arraycopy of ints, or of longs -/
def xcopy (h : xH) (s : Nat) (sp : Int32) (d : Nat) (dp n : Int32) : Option xH :=
  if 0 ≤ sp ∧ 0 ≤ dp ∧ 0 ≤ n ∧ 2 ≤ s ∧ 2 ≤ d then
    match h[s]?, h[d]? with
    | some (.inl (0, n0, .inl f)), some (.inl (0, n1, .inl g)) => if sp.toNatClampNeg + n.toNatClampNeg ≤ n0 ∧ dp.toNatClampNeg + n.toNatClampNeg ≤ n1 then some (h.set d (.inl (0, n1, .inl (va_cpy f g sp.toNatClampNeg dp.toNatClampNeg n.toNatClampNeg)))) else none
    | some (.inl (1, n0, .inr (.inl f))), some (.inl (1, n1, .inr (.inl g))) => if sp.toNatClampNeg + n.toNatClampNeg ≤ n0 ∧ dp.toNatClampNeg + n.toNatClampNeg ≤ n1 then some (h.set d (.inl (1, n1, .inr (.inl (va_cpy f g sp.toNatClampNeg dp.toNatClampNeg n.toNatClampNeg))))) else none
    | _, _ => none
  else none
def xii (f : Int32 → Int32 → Int32) : xS → Option xS
  | .int b :: .int a :: r => some (.int (f a b) :: r)
  | _ => none
def xid (f : Int32 → Int32 → Int32) : xS → Option xS
  | .int b :: .int a :: r => if b = 0 then none else some (.int (f a b) :: r)
  | _ => none
def xll (f : Int64 → Int64 → Int64) : xS → Option xS
  | .long b :: .long a :: r => some (.long (f a b) :: r)
  | _ => none
def xlv (f : Int64 → Int64 → Int64) : xS → Option xS
  | .long b :: .long a :: r => if b = 0 then none else some (.long (f a b) :: r)
  | _ => none
def xls (f : Int64 → Int32 → Int64) : xS → Option xS
  | .int b :: .long a :: r => some (.long (f a b) :: r)
  | _ => none
def xlc : xS → Option xS
  | .long b :: .long a :: r => some (.int (lg_cmp a b) :: r)
  | _ => none
def xil (f : Int32 → Int64) : xS → Option xS
  | .int a :: r => some (.long (f a) :: r)
  | _ => none
def xli (f : Int64 → Int32) : xS → Option xS
  | .long a :: r => some (.int (f a) :: r)
  | _ => none
def xdup : xS → Option xS
  | v :: r => if xc1 v then some (v :: v :: r) else none
  | _ => none
def xdup2 : xS → Option xS
  | .long x :: r => some (.long x :: .long x :: r)
  | a :: b :: r => if xc1 a && xc1 b then some (a :: b :: a :: b :: r) else none
  | _ => none
def xrd (f : Nat → Int32 → Option Value) : xS → Option xS
  | .int i :: .ref a :: r => (f a i).map (fun v => v :: r)
  | _ => none
/-- instructions that neither jump nor call -/
def xP : Instr → xL → xS → xH → Option (xL × xS × xH)
  | .iconst v, L, st, h => some (L, .int (Int32.ofInt v) :: st, h)
  | .sipush v, L, st, h => some (L, .long (Int64.ofInt v) :: st, h)
  | .iload i, L, st, h => (match xld L i with | some (.int x) => some (L, .int x :: st, h) | _ => none)
  | .lload i, L, st, h => (match xld L i with | some (.long x) => some (L, .long x :: st, h) | _ => none)
  | .aload i, L, st, h => (match xld L i with | some (.ref x) => some (L, .ref x :: st, h) | _ => none)
  | .istore i, L, st, h => (match st with | .int x :: r => (xst1 L i (.int x)).map (fun L' => (L', r, h)) | _ => none)
  | .lstore i, L, st, h => (match st with | .long x :: r => (xst2 L i (.long x)).map (fun L' => (L', r, h)) | _ => none)
  | .astore i, L, st, h => (match st with | .ref x :: r => (xst1 L i (.ref x)).map (fun L' => (L', r, h)) | _ => none)
  | .iinc i n, L, st, h => (match xld L i with | some (.int x) => (xst1 L i (.int (x + Int32.ofInt n))).map (fun L' => (L', st, h)) | _ => none)
  | .getfield n, L, st, h => (match st with | .ref a :: r => (xget h a n).map (fun v => (L, v :: r, h)) | _ => none)
  | .putfield n, L, st, h => (match st with | v :: .ref a :: r => (xput h a n v).map (fun h' => (L, r, h')) | _ => none)
  | .getstatic _, L, st, h => some (L, .ref 1 :: st, h)
  | .iaload, L, st, h => (xrd (xiald h) st).map (fun st' => (L, st', h))
  | .baload, L, st, h => (xrd (xzald h) st).map (fun st' => (L, st', h))
  | .laload, L, st, h => (xrd (xlald h) st).map (fun st' => (L, st', h))
  | .aaload, L, st, h => (xrd (xaald h) st).map (fun st' => (L, st', h))
  | .iastore, L, st, h => (match st with | .int x :: .int i :: .ref a :: r => (xiast h a i x).map (fun h' => (L, r, h')) | _ => none)
  | .bastore, L, st, h => (match st with | .int x :: .int i :: .ref a :: r => (xzast h a i x).map (fun h' => (L, r, h')) | _ => none)
  | .lastore, L, st, h => (match st with | .long x :: .int i :: .ref a :: r => (xlast h a i x).map (fun h' => (L, r, h')) | _ => none)
  | .aastore, L, st, h => (match st with | .ref v :: .int i :: .ref a :: r => (xaast h a i v).map (fun h' => (L, r, h')) | _ => none)
  | .arraylength, L, st, h => (match st with | .ref a :: r => (xlen h a).map (fun v => (L, v :: r, h)) | _ => none)
  | .newarray ty, L, st, h => (match st with | .int n :: r => (xnewa h ty n).map (fun h' => (L, .ref h.length :: r, h')) | _ => none)
  | .anewarray c, L, st, h => (match st with | .int n :: r => (xanew h c n).map (fun h' => (L, .ref h.length :: r, h')) | _ => none)
  | .new c, L, st, h => (xnewo h c).map (fun h' => (L, .ref h.length :: st, h'))
  | .nop, L, st, h => (match st with | .int n :: .int dp :: .ref d :: .int sp :: .ref s :: r => if r = [] then (xcopy h s sp d dp n).map (fun h' => (L, r, h')) else none | _ => none)
  | .pop, L, st, h => (match st with | .ref _ :: r => if r.length ≤ 4 then some (L, r, h) else none | _ => none)
  | .iadd, L, st, h => (xii (fun a b => a + b) st).map (fun st' => (L, st', h))
  | .isub, L, st, h => (xii (fun a b => a - b) st).map (fun st' => (L, st', h))
  | .imul, L, st, h => (xii (fun a b => a * b) st).map (fun st' => (L, st', h))
  | .idiv, L, st, h => (xid (fun a b => a / b) st).map (fun st' => (L, st', h))
  | .irem, L, st, h => (xid (fun a b => a - a / b * b) st).map (fun st' => (L, st', h))
  | .iand, L, st, h => (xii (fun a b => a &&& b) st).map (fun st' => (L, st', h))
  | .ior, L, st, h => (xii (fun a b => a ||| b) st).map (fun st' => (L, st', h))
  | .ixor, L, st, h => (xii (fun a b => a ^^^ b) st).map (fun st' => (L, st', h))
  | .ishl, L, st, h => (xii (fun a b => a <<< (b &&& 31)) st).map (fun st' => (L, st', h))
  | .ishr, L, st, h => (xii (fun a b => a >>> (b &&& 31)) st).map (fun st' => (L, st', h))
  | .iushr, L, st, h => (xii (fun a b => (a.toUInt32 >>> (b.toUInt32 &&& Int32.toUInt32 31)).toInt32) st).map (fun st' => (L, st', h))
  | .ladd, L, st, h => (xll (fun a b => a + b) st).map (fun st' => (L, st', h))
  | .lsub, L, st, h => (xll (fun a b => a - b) st).map (fun st' => (L, st', h))
  | .lmul, L, st, h => (xll (fun a b => a * b) st).map (fun st' => (L, st', h))
  | .ldiv, L, st, h => (xlv (fun a b => a / b) st).map (fun st' => (L, st', h))
  | .lrem, L, st, h => (xlv (fun a b => a - a / b * b) st).map (fun st' => (L, st', h))
  | .land, L, st, h => (xll (fun a b => a &&& b) st).map (fun st' => (L, st', h))
  | .lor, L, st, h => (xll (fun a b => a ||| b) st).map (fun st' => (L, st', h))
  | .lxor, L, st, h => (xll (fun a b => a ^^^ b) st).map (fun st' => (L, st', h))
  | .lshl, L, st, h => (xls (fun a b => a <<< (b.toInt64 &&& 63)) st).map (fun st' => (L, st', h))
  | .lshr, L, st, h => (xls (fun a b => a >>> (b.toInt64 &&& 63)) st).map (fun st' => (L, st', h))
  | .lushr, L, st, h => (xls (fun a b => (a.toUInt64 >>> (b.toInt64.toUInt64 &&& Int64.toUInt64 63)).toInt64) st).map (fun st' => (L, st', h))
  | .lcmp, L, st, h => (xlc st).map (fun st' => (L, st', h))
  | .i2l, L, st, h => (xil (fun a => a.toInt64) st).map (fun st' => (L, st', h))
  | .l2i, L, st, h => (xli (fun a => a.toInt32) st).map (fun st' => (L, st', h))
  | .dup, L, st, h => (xdup st).map (fun st' => (L, st', h))
  | .dup2, L, st, h => (xdup2 st).map (fun st' => (L, st', h))
  | _, _, _, _ => none
def xcnd (c : Jvm.ClassFile.Cond) (a b : Int32) : Bool := match c with
  | .eq => decide (a = b)
  | .ne => decide (¬ a = b)
  | .lt => decide (a < b)
  | .ge => decide (b ≤ a)
  | .gt => decide (b < a)
  | .le => decide (a ≤ b)
def xsw : List (Int × Int) → Int → Int → Int
  | [], d, _ => d
  | (k, t) :: r, d, a => if a = k then t else xsw r d a
/-- a block of instructions: what neither jumps nor calls on the left; jumps name their targets, calls the method's number and how many values it takes -/
def xB (call : Nat → List Value → xH → xR) (jmp : Nat → xL → xS → xH → xR) : List xI → xL → xS → xH → xR
  | [], _, _, _ => none
  | .inl i :: r, L, st, h => (xP i L st h).bind (fun q => xB call jmp r q.1 q.2.1 q.2.2)
  | .inr (.goto t) :: _, L, st, h => jmp t.toNat L st h
  | .inr (.ifCond c t) :: r, L, st, h => (match st with | .int a :: st' => if xcnd c a 0 = true then jmp t.toNat L st' h else xB call jmp r L st' h | _ => none)
  | .inr (.if_icmp c t) :: r, L, st, h => (match st with | .int b :: .int a :: st' => if xcnd c a b = true then jmp t.toNat L st' h else xB call jmp r L st' h | _ => none)
  | .inr (.lookupswitch d ps) :: _, L, st, h => (match st with | .int a :: st' => jmp (xsw ps.toList d a.toInt).toNat L st' h | _ => none)
  | .inr .ireturn :: _, _, st, h => (match st with | [.int v] => some (some (.int v), h) | _ => none)
  | .inr .areturn :: _, _, st, h => (match st with | [.int v] => if v = 0 ∨ v = 1 then some (some (.int v), h) else none | _ => none)
  | .inr .lreturn :: _, _, st, h => (match st with | [.long v] => some (some (.long v), h) | _ => none)
  | .inr .return_ :: _, _, st, h => (match st with | [] => some (none, h) | _ => none)
  | .inr (.invokeinterface j n) :: r, L, st, h => if n ≤ st.length ∧ (st.drop n).length ≤ 4 then (call j (st.take n).reverse h).bind (fun q => xB call jmp r L (q.1.toList ++ st.drop n) q.2) else none
  | .inr (.goto_w t) :: _, L, st, h => jmp t.toNat L st h
  | .inr _ :: _, _, _, _ => none
/-- a fall into the next block -/
abbrev xto (t : Int) : xI := .inr (.goto_w t)
def xlo : List Value → xL
  | [] => []
  | .long v :: t => some (.long v) :: none :: xlo t
  | v :: t => some v :: xlo t
end
